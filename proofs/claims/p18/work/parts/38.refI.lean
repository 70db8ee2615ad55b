theorem n10 : ¬ (1 : Int32) = 0 := by decide
theorem nI8 {n : Nat} (hn : n ≤ 8) (h : ¬ nI n = 8) : n < 8 := by
  rcases Nat.lt_or_ge n 8 with q | q
  · exact q
  · exact absurd (show nI n = 8 by rw [show n = 8 by omega]; rfl) h
theorem nI200 {n : Nat} (hn : n ≤ 200) (h : ¬ nI n = 200) : n < 200 := by
  rcases Nat.lt_or_ge n 200 with q | q
  · exact q
  · exact absurd (show nI n = 200 by rw [show n = 200 by omega]; rfl) h
theorem jinB {x : Int32} {n : Nat} (hn8 : n ≤ 8) (h : ¬ jin x 0 (nI n - 1) = 0) : ∃ q, q < n ∧ x = nI q := by
  cases n with
  | zero =>
    exfalso
    apply h
    unfold jin
    split
    · rfl
    · next h1 =>
      split
      · rfl
      · next h2 =>
        exfalso
        have a1 := Int32.not_lt.mp h1
        have a2 := Int32.not_lt.mp h2
        rw [Int32.le_iff_toInt_le] at a1 a2
        have h0 : (0 : Int32).toInt = 0 := rfl
        have h3 : (nI 0 - 1 : Int32).toInt = -1 := by decide
        omega
  | succ n =>
    rw [nI_pred] at h
    obtain ⟨k, hk, e⟩ := jin_nat (n := n) (by decide) (nI_toInt (by omega)) h
    exact ⟨k, by omega, e⟩
theorem cl8 {q n : Nat} (h : q < n) (hn : n ≤ 8) : (nI q).toNatClampNeg = q := nI_cl (by omega)
def stF (s : Rw) (x v : Int32) : Int32 × Rw := if jin x 0 4 = 0 then (-2, s) else if jin v (lst x) (mst x) = 0 then (-2, s) else (s x.toNatClampNeg, upd s x.toNatClampNeg v)
def coF (s : Rw) (n : Nat) (x y : Int32) : Int32 × Rw := if jin x 0 99 = 0 then (-2, s) else if jin y 1 60 = 0 then (-2, s) else if nI n = 8 then (-4, s) else (nI n, upd (upd (upd (upd s 5 (nI n + 1)) (fb n 0) x) (fb n 1) y) (fb n 2) (-6))
def plK (s : Rw) (n q : Nat) (z : Int32) : Int32 := if s (fb q 2) = z then 1 else if s (fb q 2) = -6 then (if bI s z n = -6 then 1 else 0) else 0
def plF (s : Rw) (n : Nat) (x z v : Int32) : Int32 × Rw := if jin x 0 (nI n - 1) = 0 then (-1, s) else if jin z 0 4 = 0 then (-1, s) else if jin v 1 24 = 0 then (-2, s) else
  if plK s n x.toNatClampNeg z = 0 then (-5, s) else if s (fb x.toNatClampNeg 3) = 24 then (-5, s) else (s (fb x.toNatClampNeg 3), upd (upd (upd s (fb x.toNatClampNeg 2) z) (fb x.toNatClampNeg 4) v) (fb x.toNatClampNeg 7) 0)
def puF (s : Rw) (n : Nat) (x v : Int32) : Int32 × Rw := if jin x 0 (nI n - 1) = 0 then (-1, s) else if jin v 1 24 = 0 then (-2, s) else if s (fb x.toNatClampNeg 2) = -6 then (-5, s) else (s (fb x.toNatClampNeg 3), upd s (fb x.toNatClampNeg 4) (-v))
def asF (s : Rw) (n w : Nat) (x : Int32) : Int32 × Rw := if jin x 0 (nI n - 1) = 0 then (-1, s) else if s (fb x.toNatClampNeg 6) = 0 then (-5, s) else if s (fb x.toNatClampNeg 7) = 1 then (-5, s) else (goO (upd s (fb x.toNatClampNeg 7) 1) x.toNatClampNeg w, upd s (fb x.toNatClampNeg 7) 1)
def hiF (s : Rw) (p q : Nat) : Int32 := if s (fb p 6) = 0 then 1 else if s (fb q 6) = 0 then 2 else if s (fb p 7) = 1 then 3 else if s (fb q 7) = 1 then 3 else 0
def seF (s : Rw) (n w : Nat) (x y : Int32) : Int32 × Rw := if jin x 0 (nI n - 1) = 0 then (-1, s) else if jin y 0 (nI n - 1) = 0 then (-1, s) else if x = y then (-2, s) else if hiF s x.toNatClampNeg y.toNatClampNeg = 0 then (if goN s w = 10 then (-4, s) else if nI w = 200 then (-4, s) else (nI w, upd (upd s 94 (nI w + 1)) (95 + w) (x + 8 * y))) else (-5, s)
def tks (s : Rw) (n w : Nat) : Nat → Rw
  | 0 => s
  | k + 1 => tkF (tks s n w k) n w
theorem tks_ok {s : Rw} {n w : Nat} (h : OkS s w) (hn8 : n ≤ 8) : ∀ k, OkS (tks s n w k) w ∧ ∀ x, x < 6 → tks s n w k x = s x := by
  intro k
  induction k with
  | zero => exact ⟨h, fun _ _ => rfl⟩
  | succ k ih =>
    have := tkF_ok (n := n) ih.1 hn8
    exact ⟨this.1, fun x hx => (this.2 x hx).trans (ih.2 x hx)⟩
def paF (s : Rw) (n w : Nat) (t : Int32) : Int32 × Rw := if jin t 1 99 = 0 then (-2, s) else if s 297 + t ≤ 9999 then (tks s n w t.toNatClampNeg 300 - s 300, tks s n w t.toNatClampNeg) else (-5, s)
set_option maxRecDepth 100000 in
set_option maxHeartbeats 4000000 in
theorem c_X6_least {X : jX} {ad : Nat → Nat} {mem : Mem} {s : Int32}  : Cd X yX6_least cX6_least 1 (some .int) 0 ad [.int s] mem (some (.int (lst s))) (mem) := by
  refine Cm.of (own := RX6) (nm := "least") (by decide +kernel) rfl rfl rfl rfl ?_
  refine J_iload_n dX6_least_0 rfl rfl ?_
  refine J_if_ne (tgt := 8) dX6_least_1 (by decide) (fun h1 => ?_) (fun h1 => ?_)
  · refine J_iload_n dX6_least_8 rfl rfl ?_
    refine J_iconst (v := 4) dX6_least_9 (by decide) ?_
    refine J_icmp_ne (tgt := 18) dX6_least_10 (by decide) (fun h10 => ?_) (fun h10 => ?_)
    · refine J_iconst (v := 1) dX6_least_18 (by decide) ?_
      refine r_int dX6_least_19 ?_
      exact ⟨by unfold lst; (repeat' split) <;> first | rfl | contradiction, rfl⟩
    · refine J_bipush (v := 10) dX6_least_13 (by decide) ?_
      refine J_goto (tgt := 19) dX6_least_15 (by decide) ?_
      refine r_int dX6_least_19 ?_
      exact ⟨by unfold lst; (repeat' split) <;> first | rfl | contradiction, rfl⟩
  · refine J_iconst (v := 0) dX6_least_4 (by decide) ?_
    refine J_goto (tgt := 19) dX6_least_5 (by decide) ?_
    refine r_int dX6_least_19 ?_
    exact ⟨by unfold lst; (repeat' split) <;> first | rfl | contradiction, rfl⟩

set_option maxRecDepth 100000 in
set_option maxHeartbeats 4000000 in
theorem c_X6_most {X : jX} {ad : Nat → Nat} {mem : Mem} {s : Int32}  : Cd X yX6_most cX6_most 1 (some .int) 0 ad [.int s] mem (some (.int (mst s))) (mem) := by
  refine Cm.of (own := RX6) (nm := "most") (by decide +kernel) rfl rfl rfl rfl ?_
  refine J_iload_n dX6_most_0 rfl rfl ?_
  refine J_if_ne (tgt := 8) dX6_most_1 (by decide) (fun h1 => ?_) (fun h1 => ?_)
  · refine J_iload_n dX6_most_8 rfl rfl ?_
    refine J_iconst (v := 1) dX6_most_9 (by decide) ?_
    refine J_icmp_ne (tgt := 18) dX6_most_10 (by decide) (fun h10 => ?_) (fun h10 => ?_)
    · refine J_iload_n dX6_most_18 rfl rfl ?_
      refine J_iconst (v := 4) dX6_most_19 (by decide) ?_
      refine J_icmp_ne (tgt := 29) dX6_most_20 (by decide) (fun h20 => ?_) (fun h20 => ?_)
      · refine J_bipush (v := 9) dX6_most_29 (by decide) ?_
        refine r_int dX6_most_31 ?_
        exact ⟨by unfold mst; (repeat' split) <;> first | rfl | contradiction, rfl⟩
      · refine J_sipush (v := 300) dX6_most_23 (by decide) ?_
        refine J_goto (tgt := 31) dX6_most_26 (by decide) ?_
        refine r_int dX6_most_31 ?_
        exact ⟨by unfold mst; (repeat' split) <;> first | rfl | contradiction, rfl⟩
    · refine J_bipush (v := 50) dX6_most_13 (by decide) ?_
      refine J_goto (tgt := 31) dX6_most_15 (by decide) ?_
      refine r_int dX6_most_31 ?_
      exact ⟨by unfold mst; (repeat' split) <;> first | rfl | contradiction, rfl⟩
  · refine J_iconst (v := 1) dX6_most_4 (by decide) ?_
    refine J_goto (tgt := 31) dX6_most_5 (by decide) ?_
    refine r_int dX6_most_31 ?_
    exact ⟨by unfold mst; (repeat' split) <;> first | rfl | contradiction, rfl⟩

set_option maxRecDepth 100000 in
set_option maxHeartbeats 4000000 in
theorem c_X6_comes {X : jX} {ad : Nat → Nat} {m : Mem} {s : Rw} {n : Nat} {x y : Int32} (hn : s 5 = nI n) (hn8 : n ≤ 8) : Cm X yX6_comes cX6_comes 4 (some .int) 1 ad [.ref 195, .int x, .int y] (SM m s) (fun r9 m9 => r9 = some (.int (coF s n x y).1) ∧ m9 = SM m (coF s n x y).2) := by
  refine Cm.of (own := RX6) (nm := "comes") (by decide +kernel) rfl rfl rfl rfl ?_
  refine J_iload_n dX6_comes_0 rfl rfl ?_
  refine J_iconst (v := 0) dX6_comes_1 (by decide) ?_
  refine J_bipush (v := 99) dX6_comes_2 (by decide) ?_
  refine cSi ws_X6_25 c_X6_in dX6_comes_4 (kk := ?_)
  refine J_if_eq (tgt := 20) dX6_comes_7 (by decide) (fun h7 => ?_) (fun h7 => ?_)
  · refine J_bipush (v := -2) dX6_comes_20 (by decide) ?_
    refine r_int dX6_comes_22 ?_
    refine ⟨?_, ?_⟩ <;> first | (simp only [coF, h7, reduceIte]; done) | (simp only [coF, h7, h17, reduceIte]; done) | (simp only [coF, h7, h17, h31, reduceIte]; done)
  · refine J_iload_n dX6_comes_10 rfl rfl ?_
    refine J_iconst (v := 1) dX6_comes_11 (by decide) ?_
    refine J_bipush (v := 60) dX6_comes_12 (by decide) ?_
    refine cSi ws_X6_25 c_X6_in dX6_comes_14 (kk := ?_)
    refine J_if_ne (tgt := 23) dX6_comes_17 (by decide) (fun h17 => ?_) (fun h17 => ?_)
    · refine J_aload_n dX6_comes_23 rfl rfl ?_
      refine gX6_s wf_X6_7 dX6_comes_24 ?_
      refine J_iconst (v := 5) dX6_comes_27 (by decide) ?_
      refine rd_s 5 (by decide) (by decide) dX6_comes_28 ?_
      refine J_topi (fun z9 hz9 => ?_)
      obtain rfl : z9 = (nI n) := hz9.trans (by exact hn)
      clear hz9
      refine J_bipush (v := 8) dX6_comes_29 (by decide) ?_
      refine J_icmp_ne (tgt := 37) dX6_comes_31 (by decide) (fun h31 => ?_) (fun h31 => ?_)
      · have hn7 := nI8 hn8 h31
        refine J_aload_n dX6_comes_37 rfl rfl ?_
        refine gX6_s wf_X6_7 dX6_comes_38 ?_
        refine J_iconst (v := 5) dX6_comes_41 (by decide) ?_
        refine rd_s 5 (by decide) (by decide) dX6_comes_42 ?_
        refine J_topi (fun z9 hz9 => ?_)
        obtain rfl : z9 = (nI n) := hz9.trans (by exact hn)
        clear hz9
        refine J_istore_n dX6_comes_43 rfl rfl rfl ?_
        refine J_aload_n dX6_comes_44 rfl rfl ?_
        refine gX6_s wf_X6_7 dX6_comes_45 ?_
        refine J_iconst (v := 5) dX6_comes_48 (by decide) ?_
        refine J_dup2 dX6_comes_49 rfl rfl ?_
        refine rd_s 5 (by decide) (by decide) dX6_comes_50 ?_
        refine J_topi (fun z9 hz9 => ?_)
        obtain rfl : z9 = (nI n) := hz9.trans (by exact hn)
        clear hz9
        refine J_iconst (v := 1) dX6_comes_51 (by decide) ?_
        refine J_iadd dX6_comes_52 ?_
        refine wr_s 5 (by decide) (by decide) dX6_comes_53 ?_
        refine J_aload_n dX6_comes_54 rfl rfl ?_
        refine gX6_s wf_X6_7 dX6_comes_55 ?_
        refine J_iload_n dX6_comes_58 rfl rfl ?_
        refine J_iconst (v := 0) dX6_comes_59 (by decide) ?_
        refine cSi ws_X6_58 (c_X6_ofBoard (i := n) (c := 0) 0 (by decide)) dX6_comes_60 (kk := ?_)
        refine J_iload_n dX6_comes_63 rfl rfl ?_
        refine wr_s (fb n 0) (fb_302 (by omega) (by decide)) rfl dX6_comes_64 ?_
        refine J_aload_n dX6_comes_65 rfl rfl ?_
        refine gX6_s wf_X6_7 dX6_comes_66 ?_
        refine J_iload_n dX6_comes_69 rfl rfl ?_
        refine J_iconst (v := 1) dX6_comes_70 (by decide) ?_
        refine cSi ws_X6_58 (c_X6_ofBoard (i := n) (c := 1) 1 (by decide)) dX6_comes_71 (kk := ?_)
        refine J_iload_n dX6_comes_74 rfl rfl ?_
        refine wr_s (fb n 1) (fb_302 (by omega) (by decide)) rfl dX6_comes_75 ?_
        refine J_aload_n dX6_comes_76 rfl rfl ?_
        refine gX6_s wf_X6_7 dX6_comes_77 ?_
        refine J_iload_n dX6_comes_80 rfl rfl ?_
        refine J_iconst (v := 2) dX6_comes_81 (by decide) ?_
        refine cSi ws_X6_58 (c_X6_ofBoard (i := n) (c := 2) 2 (by decide)) dX6_comes_82 (kk := ?_)
        refine J_bipush (v := -6) dX6_comes_85 (by decide) ?_
        refine wr_s (fb n 2) (fb_302 (by omega) (by decide)) rfl dX6_comes_87 ?_
        refine J_iload_n dX6_comes_88 rfl rfl ?_
        refine r_int dX6_comes_89 ?_
        refine ⟨?_, ?_⟩ <;> first | (simp only [coF, h7, reduceIte]; done) | (simp only [coF, h7, h17, reduceIte]; done) | (simp only [coF, h7, h17, h31, reduceIte]; done)
      · refine J_bipush (v := -4) dX6_comes_34 (by decide) ?_
        refine r_int dX6_comes_36 ?_
        refine ⟨?_, ?_⟩ <;> first | (simp only [coF, h7, reduceIte]; done) | (simp only [coF, h7, h17, reduceIte]; done) | (simp only [coF, h7, h17, h31, reduceIte]; done)
    · refine J_bipush (v := -2) dX6_comes_20 (by decide) ?_
      refine r_int dX6_comes_22 ?_
      refine ⟨?_, ?_⟩ <;> first | (simp only [coF, h7, reduceIte]; done) | (simp only [coF, h7, h17, reduceIte]; done) | (simp only [coF, h7, h17, h31, reduceIte]; done)

set_option maxRecDepth 100000 in
set_option maxHeartbeats 4000000 in
theorem c_X6_plugs {X : jX} {ad : Nat → Nat} {m : Mem} {s : Rw} {n : Nat} {x z v : Int32} (hn : s 5 = nI n) (hn8 : n ≤ 8) : Cm X yX6_plugs cX6_plugs 7 (some .int) 2 ad [.ref 195, .int x, .int z, .int v] (SM m s) (fun r9 m9 => r9 = some (.int (plF s n x z v).1) ∧ m9 = SM m (plF s n x z v).2) := by
  refine Cm.of (own := RX6) (nm := "plugs") (by decide +kernel) rfl rfl rfl rfl ?_
  refine J_aload_n dX6_plugs_0 rfl rfl ?_
  refine J_iload_n dX6_plugs_1 rfl rfl ?_
  refine cVi wv_X6_117 (c_X6_isBoard (n := n) hn) dX6_plugs_2 ob6 rfl rfl (kk := ?_)
  refine J_if_eq (tgt := 15) dX6_plugs_5 (by decide) (fun h5 => ?_) (fun h5 => ?_)
  · refine J_iconst (v := -1) dX6_plugs_15 (by decide) ?_
    refine r_int dX6_plugs_16 ?_
    refine ⟨?_, ?_⟩ <;> first | (simp only [plF, h5, reduceIte]; done) | (simp only [plF, h5, h12, reduceIte]; done) | (simp only [plF, h5, h12, h24, reduceIte]; done) | (have hK : plK s n q z = 1 := (by first | (unfold plK; rw [if_pos h52]; done) | (unfold plK; rw [if_neg h52, if_pos h59, if_pos h66]; done)); simp only [plF, hK, n10, e9, h5, h12, h24, h93, reduceIte]; done) | (have hK : plK s n q z = 0 := (by first | (unfold plK; rw [if_neg h52, if_pos h59, if_neg h66]; done) | (unfold plK; rw [if_neg h52, if_neg h59]; done)); simp only [plF, hK, n10, e9, h5, h12, h24, reduceIte]; done)
  · refine J_iload_n dX6_plugs_8 rfl rfl ?_
    refine cSi ws_X6_120 c_X6_isSlot dX6_plugs_9 (kk := ?_)
    refine J_if_ne (tgt := 17) dX6_plugs_12 (by decide) (fun h12 => ?_) (fun h12 => ?_)
    · refine J_iload_n dX6_plugs_17 rfl rfl ?_
      refine J_iconst (v := 1) dX6_plugs_18 (by decide) ?_
      refine J_bipush (v := 24) dX6_plugs_19 (by decide) ?_
      refine cSi ws_X6_25 c_X6_in dX6_plugs_21 (kk := ?_)
      refine J_if_ne (tgt := 30) dX6_plugs_24 (by decide) (fun h24 => ?_) (fun h24 => ?_)
      · obtain ⟨q, hq, rfl⟩ := jinB hn8 h5
        have e9 := cl8 hq hn8
        refine J_aload_n dX6_plugs_30 rfl rfl ?_
        refine J_iload_n dX6_plugs_31 rfl rfl ?_
        refine cVi wv_X6_76 (c_X6_boardIn (n := n) hn hn8) dX6_plugs_32 ob6 rfl rfl (kk := ?_)
        refine J_istore dX6_plugs_35 rfl rfl ?_
        refine J_aload_n dX6_plugs_37 rfl rfl ?_
        refine gX6_s wf_X6_7 dX6_plugs_38 ?_
        refine J_iload_n dX6_plugs_41 rfl rfl ?_
        refine J_iconst (v := 2) dX6_plugs_42 (by decide) ?_
        refine cSi ws_X6_58 (c_X6_ofBoard (i := q) (c := 2) 2 (by decide)) dX6_plugs_43 (kk := ?_)
        refine rd_s (fb q 2) (fb_302 (by omega) (by decide)) rfl dX6_plugs_46 ?_
        refine J_istore dX6_plugs_47 rfl rfl ?_
        refine J_iload dX6_plugs_49 rfl ?_
        refine J_iload_n dX6_plugs_51 rfl rfl ?_
        refine J_icmp_eq (tgt := 69) dX6_plugs_52 (by decide) (fun h52 => ?_) (fun h52 => ?_)
        · refine J_iconst (v := 1) dX6_plugs_69 (by decide) ?_
          refine J_goto (tgt := 74) dX6_plugs_70 (by decide) ?_
          refine J_istore dX6_plugs_74 rfl rfl ?_
          refine J_iload dX6_plugs_76 rfl ?_
          refine J_if_eq (tgt := 96) dX6_plugs_78 (by decide) (fun h78 => absurd h78 (by decide)) (fun h78 => ?_)
          refine J_aload_n dX6_plugs_81 rfl rfl ?_
          refine gX6_s wf_X6_7 dX6_plugs_82 ?_
          refine J_iload_n dX6_plugs_85 rfl rfl ?_
          refine J_iconst (v := 3) dX6_plugs_86 (by decide) ?_
          refine cSi ws_X6_58 (c_X6_ofBoard (i := q) (c := 3) 3 (by decide)) dX6_plugs_87 (kk := ?_)
          refine rd_s (fb q 3) (fb_302 (by omega) (by decide)) rfl dX6_plugs_90 ?_
          refine J_bipush (v := 24) dX6_plugs_91 (by decide) ?_
          refine J_icmp_ne (tgt := 99) dX6_plugs_93 (by decide) (fun h93 => ?_) (fun h93 => ?_)
          · refine J_aload_n dX6_plugs_99 rfl rfl ?_
            refine gX6_s wf_X6_7 dX6_plugs_100 ?_
            refine J_iload_n dX6_plugs_103 rfl rfl ?_
            refine J_iconst (v := 2) dX6_plugs_104 (by decide) ?_
            refine cSi ws_X6_58 (c_X6_ofBoard (i := q) (c := 2) 2 (by decide)) dX6_plugs_105 (kk := ?_)
            refine J_iload_n dX6_plugs_108 rfl rfl ?_
            refine wr_s (fb q 2) (fb_302 (by omega) (by decide)) rfl dX6_plugs_109 ?_
            refine J_aload_n dX6_plugs_110 rfl rfl ?_
            refine gX6_s wf_X6_7 dX6_plugs_111 ?_
            refine J_iload_n dX6_plugs_114 rfl rfl ?_
            refine J_iconst (v := 4) dX6_plugs_115 (by decide) ?_
            refine cSi ws_X6_58 (c_X6_ofBoard (i := q) (c := 4) 4 (by decide)) dX6_plugs_116 (kk := ?_)
            refine J_iload_n dX6_plugs_119 rfl rfl ?_
            refine wr_s (fb q 4) (fb_302 (by omega) (by decide)) rfl dX6_plugs_120 ?_
            refine J_aload_n dX6_plugs_121 rfl rfl ?_
            refine gX6_s wf_X6_7 dX6_plugs_122 ?_
            refine J_iload_n dX6_plugs_125 rfl rfl ?_
            refine J_bipush (v := 7) dX6_plugs_126 (by decide) ?_
            refine cSi ws_X6_58 (c_X6_ofBoard (i := q) (c := 7) 7 (by decide)) dX6_plugs_128 (kk := ?_)
            refine J_iconst (v := 0) dX6_plugs_131 (by decide) ?_
            refine wr_s (fb q 7) (fb_302 (by omega) (by decide)) rfl dX6_plugs_132 ?_
            refine J_aload_n dX6_plugs_133 rfl rfl ?_
            refine gX6_s wf_X6_7 dX6_plugs_134 ?_
            refine J_iload_n dX6_plugs_137 rfl rfl ?_
            refine J_iconst (v := 3) dX6_plugs_138 (by decide) ?_
            refine cSi ws_X6_58 (c_X6_ofBoard (i := q) (c := 3) 3 (by decide)) dX6_plugs_139 (kk := ?_)
            refine rd_s (fb q 3) (fb_302 (by omega) (by decide)) rfl dX6_plugs_142 ?_
            refine J_topi (fun z9 hz9 => ?_)
            obtain rfl : z9 = (s (fb q 3)) := hz9.trans (by rw [upd_fbn (by decide), upd_fbn (by decide), upd_fbn (by decide)])
            clear hz9
            refine r_int dX6_plugs_143 ?_
            refine ⟨?_, ?_⟩ <;> first | (simp only [plF, h5, reduceIte]; done) | (simp only [plF, h5, h12, reduceIte]; done) | (simp only [plF, h5, h12, h24, reduceIte]; done) | (have hK : plK s n q z = 1 := (by first | (unfold plK; rw [if_pos h52]; done) | (unfold plK; rw [if_neg h52, if_pos h59, if_pos h66]; done)); simp only [plF, hK, n10, e9, h5, h12, h24, h93, reduceIte]; done) | (have hK : plK s n q z = 0 := (by first | (unfold plK; rw [if_neg h52, if_pos h59, if_neg h66]; done) | (unfold plK; rw [if_neg h52, if_neg h59]; done)); simp only [plF, hK, n10, e9, h5, h12, h24, reduceIte]; done)
          · refine J_bipush (v := -5) dX6_plugs_96 (by decide) ?_
            refine r_int dX6_plugs_98 ?_
            refine ⟨?_, ?_⟩ <;> first | (simp only [plF, h5, reduceIte]; done) | (simp only [plF, h5, h12, reduceIte]; done) | (simp only [plF, h5, h12, h24, reduceIte]; done) | (have hK : plK s n q z = 1 := (by first | (unfold plK; rw [if_pos h52]; done) | (unfold plK; rw [if_neg h52, if_pos h59, if_pos h66]; done)); simp only [plF, hK, n10, e9, h5, h12, h24, h93, reduceIte]; done) | (have hK : plK s n q z = 0 := (by first | (unfold plK; rw [if_neg h52, if_pos h59, if_neg h66]; done) | (unfold plK; rw [if_neg h52, if_neg h59]; done)); simp only [plF, hK, n10, e9, h5, h12, h24, reduceIte]; done)
        · refine J_iload dX6_plugs_55 rfl ?_
          refine J_bipush (v := -6) dX6_plugs_57 (by decide) ?_
          refine J_icmp_ne (tgt := 73) dX6_plugs_59 (by decide) (fun h59 => ?_) (fun h59 => ?_)
          · refine J_iconst (v := 0) dX6_plugs_73 (by decide) ?_
            refine J_istore dX6_plugs_74 rfl rfl ?_
            refine J_iload dX6_plugs_76 rfl ?_
            refine J_if_eq (tgt := 96) dX6_plugs_78 (by decide) (fun h78 => ?_) (fun h78 => absurd (by decide) h78)
            refine J_bipush (v := -5) dX6_plugs_96 (by decide) ?_
            refine r_int dX6_plugs_98 ?_
            refine ⟨?_, ?_⟩ <;> first | (simp only [plF, h5, reduceIte]; done) | (simp only [plF, h5, h12, reduceIte]; done) | (simp only [plF, h5, h12, h24, reduceIte]; done) | (have hK : plK s n q z = 1 := (by first | (unfold plK; rw [if_pos h52]; done) | (unfold plK; rw [if_neg h52, if_pos h59, if_pos h66]; done)); simp only [plF, hK, n10, e9, h5, h12, h24, h93, reduceIte]; done) | (have hK : plK s n q z = 0 := (by first | (unfold plK; rw [if_neg h52, if_pos h59, if_neg h66]; done) | (unfold plK; rw [if_neg h52, if_neg h59]; done)); simp only [plF, hK, n10, e9, h5, h12, h24, reduceIte]; done)
          · refine J_iload dX6_plugs_62 rfl ?_
            refine J_bipush (v := -6) dX6_plugs_64 (by decide) ?_
            refine J_icmp_ne (tgt := 73) dX6_plugs_66 (by decide) (fun h66 => ?_) (fun h66 => ?_)
            · refine J_iconst (v := 0) dX6_plugs_73 (by decide) ?_
              refine J_istore dX6_plugs_74 rfl rfl ?_
              refine J_iload dX6_plugs_76 rfl ?_
              refine J_if_eq (tgt := 96) dX6_plugs_78 (by decide) (fun h78 => ?_) (fun h78 => absurd (by decide) h78)
              refine J_bipush (v := -5) dX6_plugs_96 (by decide) ?_
              refine r_int dX6_plugs_98 ?_
              refine ⟨?_, ?_⟩ <;> first | (simp only [plF, h5, reduceIte]; done) | (simp only [plF, h5, h12, reduceIte]; done) | (simp only [plF, h5, h12, h24, reduceIte]; done) | (have hK : plK s n q z = 1 := (by first | (unfold plK; rw [if_pos h52]; done) | (unfold plK; rw [if_neg h52, if_pos h59, if_pos h66]; done)); simp only [plF, hK, n10, e9, h5, h12, h24, h93, reduceIte]; done) | (have hK : plK s n q z = 0 := (by first | (unfold plK; rw [if_neg h52, if_pos h59, if_neg h66]; done) | (unfold plK; rw [if_neg h52, if_neg h59]; done)); simp only [plF, hK, n10, e9, h5, h12, h24, reduceIte]; done)
            · refine J_iconst (v := 1) dX6_plugs_69 (by decide) ?_
              refine J_goto (tgt := 74) dX6_plugs_70 (by decide) ?_
              refine J_istore dX6_plugs_74 rfl rfl ?_
              refine J_iload dX6_plugs_76 rfl ?_
              refine J_if_eq (tgt := 96) dX6_plugs_78 (by decide) (fun h78 => absurd h78 (by decide)) (fun h78 => ?_)
              refine J_aload_n dX6_plugs_81 rfl rfl ?_
              refine gX6_s wf_X6_7 dX6_plugs_82 ?_
              refine J_iload_n dX6_plugs_85 rfl rfl ?_
              refine J_iconst (v := 3) dX6_plugs_86 (by decide) ?_
              refine cSi ws_X6_58 (c_X6_ofBoard (i := q) (c := 3) 3 (by decide)) dX6_plugs_87 (kk := ?_)
              refine rd_s (fb q 3) (fb_302 (by omega) (by decide)) rfl dX6_plugs_90 ?_
              refine J_bipush (v := 24) dX6_plugs_91 (by decide) ?_
              refine J_icmp_ne (tgt := 99) dX6_plugs_93 (by decide) (fun h93 => ?_) (fun h93 => ?_)
              · refine J_aload_n dX6_plugs_99 rfl rfl ?_
                refine gX6_s wf_X6_7 dX6_plugs_100 ?_
                refine J_iload_n dX6_plugs_103 rfl rfl ?_
                refine J_iconst (v := 2) dX6_plugs_104 (by decide) ?_
                refine cSi ws_X6_58 (c_X6_ofBoard (i := q) (c := 2) 2 (by decide)) dX6_plugs_105 (kk := ?_)
                refine J_iload_n dX6_plugs_108 rfl rfl ?_
                refine wr_s (fb q 2) (fb_302 (by omega) (by decide)) rfl dX6_plugs_109 ?_
                refine J_aload_n dX6_plugs_110 rfl rfl ?_
                refine gX6_s wf_X6_7 dX6_plugs_111 ?_
                refine J_iload_n dX6_plugs_114 rfl rfl ?_
                refine J_iconst (v := 4) dX6_plugs_115 (by decide) ?_
                refine cSi ws_X6_58 (c_X6_ofBoard (i := q) (c := 4) 4 (by decide)) dX6_plugs_116 (kk := ?_)
                refine J_iload_n dX6_plugs_119 rfl rfl ?_
                refine wr_s (fb q 4) (fb_302 (by omega) (by decide)) rfl dX6_plugs_120 ?_
                refine J_aload_n dX6_plugs_121 rfl rfl ?_
                refine gX6_s wf_X6_7 dX6_plugs_122 ?_
                refine J_iload_n dX6_plugs_125 rfl rfl ?_
                refine J_bipush (v := 7) dX6_plugs_126 (by decide) ?_
                refine cSi ws_X6_58 (c_X6_ofBoard (i := q) (c := 7) 7 (by decide)) dX6_plugs_128 (kk := ?_)
                refine J_iconst (v := 0) dX6_plugs_131 (by decide) ?_
                refine wr_s (fb q 7) (fb_302 (by omega) (by decide)) rfl dX6_plugs_132 ?_
                refine J_aload_n dX6_plugs_133 rfl rfl ?_
                refine gX6_s wf_X6_7 dX6_plugs_134 ?_
                refine J_iload_n dX6_plugs_137 rfl rfl ?_
                refine J_iconst (v := 3) dX6_plugs_138 (by decide) ?_
                refine cSi ws_X6_58 (c_X6_ofBoard (i := q) (c := 3) 3 (by decide)) dX6_plugs_139 (kk := ?_)
                refine rd_s (fb q 3) (fb_302 (by omega) (by decide)) rfl dX6_plugs_142 ?_
                refine J_topi (fun z9 hz9 => ?_)
                obtain rfl : z9 = (s (fb q 3)) := hz9.trans (by rw [upd_fbn (by decide), upd_fbn (by decide), upd_fbn (by decide)])
                clear hz9
                refine r_int dX6_plugs_143 ?_
                refine ⟨?_, ?_⟩ <;> first | (simp only [plF, h5, reduceIte]; done) | (simp only [plF, h5, h12, reduceIte]; done) | (simp only [plF, h5, h12, h24, reduceIte]; done) | (have hK : plK s n q z = 1 := (by first | (unfold plK; rw [if_pos h52]; done) | (unfold plK; rw [if_neg h52, if_pos h59, if_pos h66]; done)); simp only [plF, hK, n10, e9, h5, h12, h24, h93, reduceIte]; done) | (have hK : plK s n q z = 0 := (by first | (unfold plK; rw [if_neg h52, if_pos h59, if_neg h66]; done) | (unfold plK; rw [if_neg h52, if_neg h59]; done)); simp only [plF, hK, n10, e9, h5, h12, h24, reduceIte]; done)
              · refine J_bipush (v := -5) dX6_plugs_96 (by decide) ?_
                refine r_int dX6_plugs_98 ?_
                refine ⟨?_, ?_⟩ <;> first | (simp only [plF, h5, reduceIte]; done) | (simp only [plF, h5, h12, reduceIte]; done) | (simp only [plF, h5, h12, h24, reduceIte]; done) | (have hK : plK s n q z = 1 := (by first | (unfold plK; rw [if_pos h52]; done) | (unfold plK; rw [if_neg h52, if_pos h59, if_pos h66]; done)); simp only [plF, hK, n10, e9, h5, h12, h24, h93, reduceIte]; done) | (have hK : plK s n q z = 0 := (by first | (unfold plK; rw [if_neg h52, if_pos h59, if_neg h66]; done) | (unfold plK; rw [if_neg h52, if_neg h59]; done)); simp only [plF, hK, n10, e9, h5, h12, h24, reduceIte]; done)
      · refine J_bipush (v := -2) dX6_plugs_27 (by decide) ?_
        refine r_int dX6_plugs_29 ?_
        refine ⟨?_, ?_⟩ <;> first | (simp only [plF, h5, reduceIte]; done) | (simp only [plF, h5, h12, reduceIte]; done) | (simp only [plF, h5, h12, h24, reduceIte]; done) | (have hK : plK s n q z = 1 := (by first | (unfold plK; rw [if_pos h52]; done) | (unfold plK; rw [if_neg h52, if_pos h59, if_pos h66]; done)); simp only [plF, hK, n10, e9, h5, h12, h24, h93, reduceIte]; done) | (have hK : plK s n q z = 0 := (by first | (unfold plK; rw [if_neg h52, if_pos h59, if_neg h66]; done) | (unfold plK; rw [if_neg h52, if_neg h59]; done)); simp only [plF, hK, n10, e9, h5, h12, h24, reduceIte]; done)
    · refine J_iconst (v := -1) dX6_plugs_15 (by decide) ?_
      refine r_int dX6_plugs_16 ?_
      refine ⟨?_, ?_⟩ <;> first | (simp only [plF, h5, reduceIte]; done) | (simp only [plF, h5, h12, reduceIte]; done) | (simp only [plF, h5, h12, h24, reduceIte]; done) | (have hK : plK s n q z = 1 := (by first | (unfold plK; rw [if_pos h52]; done) | (unfold plK; rw [if_neg h52, if_pos h59, if_pos h66]; done)); simp only [plF, hK, n10, e9, h5, h12, h24, h93, reduceIte]; done) | (have hK : plK s n q z = 0 := (by first | (unfold plK; rw [if_neg h52, if_pos h59, if_neg h66]; done) | (unfold plK; rw [if_neg h52, if_neg h59]; done)); simp only [plF, hK, n10, e9, h5, h12, h24, reduceIte]; done)

set_option maxRecDepth 100000 in
set_option maxHeartbeats 4000000 in
theorem c_X6_pulls {X : jX} {ad : Nat → Nat} {m : Mem} {s : Rw} {n : Nat} {x v : Int32} (hn : s 5 = nI n) (hn8 : n ≤ 8) : Cm X yX6_pulls cX6_pulls 3 (some .int) 2 ad [.ref 195, .int x, .int v] (SM m s) (fun r9 m9 => r9 = some (.int (puF s n x v).1) ∧ m9 = SM m (puF s n x v).2) := by
  refine Cm.of (own := RX6) (nm := "pulls") (by decide +kernel) rfl rfl rfl rfl ?_
  refine J_aload_n dX6_pulls_0 rfl rfl ?_
  refine J_iload_n dX6_pulls_1 rfl rfl ?_
  refine cVi wv_X6_117 (c_X6_isBoard (n := n) hn) dX6_pulls_2 ob6 rfl rfl (kk := ?_)
  refine J_if_ne (tgt := 10) dX6_pulls_5 (by decide) (fun h5 => ?_) (fun h5 => ?_)
  · refine J_iload_n dX6_pulls_10 rfl rfl ?_
    refine J_iconst (v := 1) dX6_pulls_11 (by decide) ?_
    refine J_bipush (v := 24) dX6_pulls_12 (by decide) ?_
    refine cSi ws_X6_25 c_X6_in dX6_pulls_14 (kk := ?_)
    refine J_if_ne (tgt := 23) dX6_pulls_17 (by decide) (fun h17 => ?_) (fun h17 => ?_)
    · obtain ⟨q, hq, rfl⟩ := jinB hn8 h5
      have e9 := cl8 hq hn8
      refine J_aload_n dX6_pulls_23 rfl rfl ?_
      refine gX6_s wf_X6_7 dX6_pulls_24 ?_
      refine J_iload_n dX6_pulls_27 rfl rfl ?_
      refine J_iconst (v := 2) dX6_pulls_28 (by decide) ?_
      refine cSi ws_X6_58 (c_X6_ofBoard (i := q) (c := 2) 2 (by decide)) dX6_pulls_29 (kk := ?_)
      refine rd_s (fb q 2) (fb_302 (by omega) (by decide)) rfl dX6_pulls_32 ?_
      refine J_bipush (v := -6) dX6_pulls_33 (by decide) ?_
      refine J_icmp_ne (tgt := 41) dX6_pulls_35 (by decide) (fun h35 => ?_) (fun h35 => ?_)
      · refine J_aload_n dX6_pulls_41 rfl rfl ?_
        refine gX6_s wf_X6_7 dX6_pulls_42 ?_
        refine J_iload_n dX6_pulls_45 rfl rfl ?_
        refine J_iconst (v := 4) dX6_pulls_46 (by decide) ?_
        refine cSi ws_X6_58 (c_X6_ofBoard (i := q) (c := 4) 4 (by decide)) dX6_pulls_47 (kk := ?_)
        refine J_iload_n dX6_pulls_50 rfl rfl ?_
        refine J_ineg dX6_pulls_51 ?_
        refine wr_s (fb q 4) (fb_302 (by omega) (by decide)) rfl dX6_pulls_52 ?_
        refine J_aload_n dX6_pulls_53 rfl rfl ?_
        refine gX6_s wf_X6_7 dX6_pulls_54 ?_
        refine J_iload_n dX6_pulls_57 rfl rfl ?_
        refine J_iconst (v := 3) dX6_pulls_58 (by decide) ?_
        refine cSi ws_X6_58 (c_X6_ofBoard (i := q) (c := 3) 3 (by decide)) dX6_pulls_59 (kk := ?_)
        refine rd_s (fb q 3) (fb_302 (by omega) (by decide)) rfl dX6_pulls_62 ?_
        refine J_topi (fun z9 hz9 => ?_)
        obtain rfl : z9 = (s (fb q 3)) := hz9.trans (by rw [upd_fbn (by decide)])
        clear hz9
        refine r_int dX6_pulls_63 ?_
        refine ⟨?_, ?_⟩ <;> first | (simp only [puF, h5, reduceIte]; done) | (simp only [puF, h5, h17, reduceIte]; done) | (simp only [puF, e9, h5, h17, h35, reduceIte]; done)
      · refine J_bipush (v := -5) dX6_pulls_38 (by decide) ?_
        refine r_int dX6_pulls_40 ?_
        refine ⟨?_, ?_⟩ <;> first | (simp only [puF, h5, reduceIte]; done) | (simp only [puF, h5, h17, reduceIte]; done) | (simp only [puF, e9, h5, h17, h35, reduceIte]; done)
    · refine J_bipush (v := -2) dX6_pulls_20 (by decide) ?_
      refine r_int dX6_pulls_22 ?_
      refine ⟨?_, ?_⟩ <;> first | (simp only [puF, h5, reduceIte]; done) | (simp only [puF, h5, h17, reduceIte]; done) | (simp only [puF, e9, h5, h17, h35, reduceIte]; done)
  · refine J_iconst (v := -1) dX6_pulls_8 (by decide) ?_
    refine r_int dX6_pulls_9 ?_
    refine ⟨?_, ?_⟩ <;> first | (simp only [puF, h5, reduceIte]; done) | (simp only [puF, h5, h17, reduceIte]; done) | (simp only [puF, e9, h5, h17, h35, reduceIte]; done)

set_option maxRecDepth 100000 in
set_option maxHeartbeats 4000000 in
theorem c_X6_asks {X : jX} {ad : Nat → Nat} {m : Mem} {s : Rw} {n w : Nat} {x : Int32} (hn : s 5 = nI n) (hn8 : n ≤ 8) (hW : OkW s w) : Cm X yX6_asks cX6_asks 2 (some .int) 3 ad [.ref 195, .int x] (SM m s) (fun r9 m9 => r9 = some (.int (asF s n w x).1) ∧ m9 = SM m (asF s n w x).2) := by
  refine Cm.of (own := RX6) (nm := "asks") (by decide +kernel) rfl rfl rfl rfl ?_
  refine J_aload_n dX6_asks_0 rfl rfl ?_
  refine J_iload_n dX6_asks_1 rfl rfl ?_
  refine cVi wv_X6_117 (c_X6_isBoard (n := n) hn) dX6_asks_2 ob6 rfl rfl (kk := ?_)
  refine J_if_ne (tgt := 10) dX6_asks_5 (by decide) (fun h5 => ?_) (fun h5 => ?_)
  · obtain ⟨q, hq, rfl⟩ := jinB hn8 h5
    have e9 := cl8 hq hn8
    refine J_aload_n dX6_asks_10 rfl rfl ?_
    refine gX6_s wf_X6_7 dX6_asks_11 ?_
    refine J_iload_n dX6_asks_14 rfl rfl ?_
    refine J_bipush (v := 6) dX6_asks_15 (by decide) ?_
    refine cSi ws_X6_58 (c_X6_ofBoard (i := q) (c := 6) 6 (by decide)) dX6_asks_17 (kk := ?_)
    refine rd_s (fb q 6) (fb_302 (by omega) (by decide)) rfl dX6_asks_20 ?_
    refine J_if_eq (tgt := 39) dX6_asks_21 (by decide) (fun h21 => ?_) (fun h21 => ?_)
    · refine J_bipush (v := -5) dX6_asks_39 (by decide) ?_
      refine r_int dX6_asks_41 ?_
      refine ⟨?_, ?_⟩ <;> first | (simp only [asF, h5, reduceIte]; done) | (simp only [asF, e9, h5, h21, reduceIte]; done) | (simp only [asF, e9, h5, h21, h36, reduceIte]; done)
    · refine J_aload_n dX6_asks_24 rfl rfl ?_
      refine gX6_s wf_X6_7 dX6_asks_25 ?_
      refine J_iload_n dX6_asks_28 rfl rfl ?_
      refine J_bipush (v := 7) dX6_asks_29 (by decide) ?_
      refine cSi ws_X6_58 (c_X6_ofBoard (i := q) (c := 7) 7 (by decide)) dX6_asks_31 (kk := ?_)
      refine rd_s (fb q 7) (fb_302 (by omega) (by decide)) rfl dX6_asks_34 ?_
      refine J_iconst (v := 1) dX6_asks_35 (by decide) ?_
      refine J_icmp_ne (tgt := 42) dX6_asks_36 (by decide) (fun h36 => ?_) (fun h36 => ?_)
      · refine J_aload_n dX6_asks_42 rfl rfl ?_
        refine gX6_s wf_X6_7 dX6_asks_43 ?_
        refine J_iload_n dX6_asks_46 rfl rfl ?_
        refine J_bipush (v := 7) dX6_asks_47 (by decide) ?_
        refine cSi ws_X6_58 (c_X6_ofBoard (i := q) (c := 7) 7 (by decide)) dX6_asks_49 (kk := ?_)
        refine J_iconst (v := 1) dX6_asks_52 (by decide) ?_
        refine wr_s (fb q 7) (fb_302 (by omega) (by decide)) rfl dX6_asks_53 ?_
        refine J_aload_n dX6_asks_54 rfl rfl ?_
        refine J_iload_n dX6_asks_55 rfl rfl ?_
        refine cVi wv_X6_130 (c_goingO (n := w) (b := q) (hW.fb (by omega) (by decide)) (by omega)) dX6_asks_56 ob6 rfl rfl (kk := ?_)
        refine r_int dX6_asks_59 ?_
        refine ⟨?_, ?_⟩ <;> first | (simp only [asF, h5, reduceIte]; done) | (simp only [asF, e9, h5, h21, reduceIte]; done) | (simp only [asF, e9, h5, h21, h36, reduceIte]; done)
      · refine J_bipush (v := -5) dX6_asks_39 (by decide) ?_
        refine r_int dX6_asks_41 ?_
        refine ⟨?_, ?_⟩ <;> first | (simp only [asF, h5, reduceIte]; done) | (simp only [asF, e9, h5, h21, reduceIte]; done) | (simp only [asF, e9, h5, h21, h36, reduceIte]; done)
  · refine J_iconst (v := -1) dX6_asks_8 (by decide) ?_
    refine r_int dX6_asks_9 ?_
    refine ⟨?_, ?_⟩ <;> first | (simp only [asF, h5, reduceIte]; done) | (simp only [asF, e9, h5, h21, reduceIte]; done) | (simp only [asF, e9, h5, h21, h36, reduceIte]; done)

set_option maxRecDepth 100000 in
set_option maxHeartbeats 4000000 in
theorem c_X6_hindrance {X : jX} {ad : Nat → Nat} {m : Mem} {s : Rw} {p q : Nat} (hp : p < 8) (hq : q < 8) : Cd X yX6_hindrance cX6_hindrance 3 (some .int) 1 ad [.ref 195, .int (nI p), .int (nI q)] (SM m s) (some (.int (hiF s p q))) ((SM m s)) := by
  refine Cm.of (own := RX6) (nm := "hindrance") (by decide +kernel) rfl rfl rfl rfl ?_
  refine J_aload_n dX6_hindrance_0 rfl rfl ?_
  refine gX6_s wf_X6_7 dX6_hindrance_1 ?_
  refine J_iload_n dX6_hindrance_4 rfl rfl ?_
  refine J_bipush (v := 6) dX6_hindrance_5 (by decide) ?_
  refine cSi ws_X6_58 (c_X6_ofBoard (i := p) (c := 6) 6 (by decide)) dX6_hindrance_7 (kk := ?_)
  refine rd_s (fb p 6) (fb_302 (by omega) (by decide)) rfl dX6_hindrance_10 ?_
  refine J_if_eq (tgt := 28) dX6_hindrance_11 (by decide) (fun h11 => ?_) (fun h11 => ?_)
  · refine J_aload_n dX6_hindrance_28 rfl rfl ?_
    refine gX6_s wf_X6_7 dX6_hindrance_29 ?_
    refine J_iload_n dX6_hindrance_32 rfl rfl ?_
    refine J_bipush (v := 6) dX6_hindrance_33 (by decide) ?_
    refine cSi ws_X6_58 (c_X6_ofBoard (i := p) (c := 6) 6 (by decide)) dX6_hindrance_35 (kk := ?_)
    refine rd_s (fb p 6) (fb_302 (by omega) (by decide)) rfl dX6_hindrance_38 ?_
    refine J_if_ne (tgt := 46) dX6_hindrance_39 (by decide) (fun h39 => ?_) (fun h39 => ?_)
    · refine J_iconst (v := 2) dX6_hindrance_46 (by decide) ?_
      refine r_int dX6_hindrance_47 ?_
      first | exact absurd h11 h39 | exact absurd h39 h11 | exact ⟨by first | (simp only [hiF, h11, reduceIte]; done) | (simp only [hiF, h11, h25, reduceIte]; done) | (simp only [hiF, h11, h25, h60, reduceIte]; done) | (simp only [hiF, h11, h25, h60, h75, reduceIte]; done), rfl⟩
    · refine J_iconst (v := 1) dX6_hindrance_42 (by decide) ?_
      refine J_goto (tgt := 47) dX6_hindrance_43 (by decide) ?_
      refine r_int dX6_hindrance_47 ?_
      first | exact absurd h11 h39 | exact absurd h39 h11 | exact ⟨by first | (simp only [hiF, h11, reduceIte]; done) | (simp only [hiF, h11, h25, reduceIte]; done) | (simp only [hiF, h11, h25, h60, reduceIte]; done) | (simp only [hiF, h11, h25, h60, h75, reduceIte]; done), rfl⟩
  · refine J_aload_n dX6_hindrance_14 rfl rfl ?_
    refine gX6_s wf_X6_7 dX6_hindrance_15 ?_
    refine J_iload_n dX6_hindrance_18 rfl rfl ?_
    refine J_bipush (v := 6) dX6_hindrance_19 (by decide) ?_
    refine cSi ws_X6_58 (c_X6_ofBoard (i := q) (c := 6) 6 (by decide)) dX6_hindrance_21 (kk := ?_)
    refine rd_s (fb q 6) (fb_302 (by omega) (by decide)) rfl dX6_hindrance_24 ?_
    refine J_if_ne (tgt := 48) dX6_hindrance_25 (by decide) (fun h25 => ?_) (fun h25 => ?_)
    · refine J_aload_n dX6_hindrance_48 rfl rfl ?_
      refine gX6_s wf_X6_7 dX6_hindrance_49 ?_
      refine J_iload_n dX6_hindrance_52 rfl rfl ?_
      refine J_bipush (v := 7) dX6_hindrance_53 (by decide) ?_
      refine cSi ws_X6_58 (c_X6_ofBoard (i := p) (c := 7) 7 (by decide)) dX6_hindrance_55 (kk := ?_)
      refine rd_s (fb p 7) (fb_302 (by omega) (by decide)) rfl dX6_hindrance_58 ?_
      refine J_iconst (v := 1) dX6_hindrance_59 (by decide) ?_
      refine J_icmp_eq (tgt := 78) dX6_hindrance_60 (by decide) (fun h60 => ?_) (fun h60 => ?_)
      · refine J_iconst (v := 3) dX6_hindrance_78 (by decide) ?_
        refine J_goto (tgt := 83) dX6_hindrance_79 (by decide) ?_
        refine r_int dX6_hindrance_83 ?_
        first | exact absurd h11 h39 | exact absurd h39 h11 | exact ⟨by first | (simp only [hiF, h11, reduceIte]; done) | (simp only [hiF, h11, h25, reduceIte]; done) | (simp only [hiF, h11, h25, h60, reduceIte]; done) | (simp only [hiF, h11, h25, h60, h75, reduceIte]; done), rfl⟩
      · refine J_aload_n dX6_hindrance_63 rfl rfl ?_
        refine gX6_s wf_X6_7 dX6_hindrance_64 ?_
        refine J_iload_n dX6_hindrance_67 rfl rfl ?_
        refine J_bipush (v := 7) dX6_hindrance_68 (by decide) ?_
        refine cSi ws_X6_58 (c_X6_ofBoard (i := q) (c := 7) 7 (by decide)) dX6_hindrance_70 (kk := ?_)
        refine rd_s (fb q 7) (fb_302 (by omega) (by decide)) rfl dX6_hindrance_73 ?_
        refine J_iconst (v := 1) dX6_hindrance_74 (by decide) ?_
        refine J_icmp_ne (tgt := 82) dX6_hindrance_75 (by decide) (fun h75 => ?_) (fun h75 => ?_)
        · refine J_iconst (v := 0) dX6_hindrance_82 (by decide) ?_
          refine r_int dX6_hindrance_83 ?_
          first | exact absurd h11 h39 | exact absurd h39 h11 | exact ⟨by first | (simp only [hiF, h11, reduceIte]; done) | (simp only [hiF, h11, h25, reduceIte]; done) | (simp only [hiF, h11, h25, h60, reduceIte]; done) | (simp only [hiF, h11, h25, h60, h75, reduceIte]; done), rfl⟩
        · refine J_iconst (v := 3) dX6_hindrance_78 (by decide) ?_
          refine J_goto (tgt := 83) dX6_hindrance_79 (by decide) ?_
          refine r_int dX6_hindrance_83 ?_
          first | exact absurd h11 h39 | exact absurd h39 h11 | exact ⟨by first | (simp only [hiF, h11, reduceIte]; done) | (simp only [hiF, h11, h25, reduceIte]; done) | (simp only [hiF, h11, h25, h60, reduceIte]; done) | (simp only [hiF, h11, h25, h60, h75, reduceIte]; done), rfl⟩
    · refine J_aload_n dX6_hindrance_28 rfl rfl ?_
      refine gX6_s wf_X6_7 dX6_hindrance_29 ?_
      refine J_iload_n dX6_hindrance_32 rfl rfl ?_
      refine J_bipush (v := 6) dX6_hindrance_33 (by decide) ?_
      refine cSi ws_X6_58 (c_X6_ofBoard (i := p) (c := 6) 6 (by decide)) dX6_hindrance_35 (kk := ?_)
      refine rd_s (fb p 6) (fb_302 (by omega) (by decide)) rfl dX6_hindrance_38 ?_
      refine J_if_ne (tgt := 46) dX6_hindrance_39 (by decide) (fun h39 => ?_) (fun h39 => ?_)
      · refine J_iconst (v := 2) dX6_hindrance_46 (by decide) ?_
        refine r_int dX6_hindrance_47 ?_
        first | exact absurd h11 h39 | exact absurd h39 h11 | exact ⟨by first | (simp only [hiF, h11, reduceIte]; done) | (simp only [hiF, h11, h25, reduceIte]; done) | (simp only [hiF, h11, h25, h60, reduceIte]; done) | (simp only [hiF, h11, h25, h60, h75, reduceIte]; done), rfl⟩
      · refine J_iconst (v := 1) dX6_hindrance_42 (by decide) ?_
        refine J_goto (tgt := 47) dX6_hindrance_43 (by decide) ?_
        refine r_int dX6_hindrance_47 ?_
        first | exact absurd h11 h39 | exact absurd h39 h11 | exact ⟨by first | (simp only [hiF, h11, reduceIte]; done) | (simp only [hiF, h11, h25, reduceIte]; done) | (simp only [hiF, h11, h25, h60, reduceIte]; done) | (simp only [hiF, h11, h25, h60, h75, reduceIte]; done), rfl⟩

set_option maxRecDepth 100000 in
set_option maxHeartbeats 4000000 in
theorem c_X6_sends {X : jX} {ad : Nat → Nat} {m : Mem} {s : Rw} {n w : Nat} {x y : Int32} (hn : s 5 = nI n) (hn8 : n ≤ 8) (hW : OkW s w) : Cm X yX6_sends cX6_sends 4 (some .int) 3 ad [.ref 195, .int x, .int y] (SM m s) (fun r9 m9 => r9 = some (.int (seF s n w x y).1) ∧ m9 = SM m (seF s n w x y).2) := by
  refine Cm.of (own := RX6) (nm := "sends") (by decide +kernel) rfl rfl rfl rfl ?_
  refine J_aload_n dX6_sends_0 rfl rfl ?_
  refine J_iload_n dX6_sends_1 rfl rfl ?_
  refine cVi wv_X6_117 (c_X6_isBoard (n := n) hn) dX6_sends_2 ob6 rfl rfl (kk := ?_)
  refine J_if_eq (tgt := 16) dX6_sends_5 (by decide) (fun h5 => ?_) (fun h5 => ?_)
  · refine J_iconst (v := -1) dX6_sends_16 (by decide) ?_
    refine r_int dX6_sends_17 ?_
    refine ⟨?_, ?_⟩ <;> first | (simp only [seF, h5, reduceIte]; done) | (simp only [seF, h5, h13, reduceIte]; done) | (simp only [seF, h5, h13, h20, reduceIte]; done) | (simp only [seF, e8, e9, h5, h13, h20, h32, reduceIte]; done) | (simp only [seF, e8, e9, h5, h13, h20, h32, h46, reduceIte]; done) | (simp only [seF, e8, e9, h5, h13, h20, h32, h46, h59, reduceIte]; done)
  · refine J_aload_n dX6_sends_8 rfl rfl ?_
    refine J_iload_n dX6_sends_9 rfl rfl ?_
    refine cVi wv_X6_117 (c_X6_isBoard (n := n) hn) dX6_sends_10 ob6 rfl rfl (kk := ?_)
    refine J_if_ne (tgt := 18) dX6_sends_13 (by decide) (fun h13 => ?_) (fun h13 => ?_)
    · refine J_iload_n dX6_sends_18 rfl rfl ?_
      refine J_iload_n dX6_sends_19 rfl rfl ?_
      refine J_icmp_ne (tgt := 26) dX6_sends_20 (by decide) (fun h20 => ?_) (fun h20 => ?_)
      · obtain ⟨p, hp, rfl⟩ := jinB hn8 h5
        obtain ⟨q, hq, rfl⟩ := jinB hn8 h13
        have e8 := cl8 hp hn8
        have e9 := cl8 hq hn8
        refine J_aload_n dX6_sends_26 rfl rfl ?_
        refine J_iload_n dX6_sends_27 rfl rfl ?_
        refine J_iload_n dX6_sends_28 rfl rfl ?_
        refine cVi wv_X6_136 (c_X6_hindrance (p := p) (q := q) (by omega) (by omega)) dX6_sends_29 ob6 rfl rfl (kk := ?_)
        refine J_if_eq (tgt := 38) dX6_sends_32 (by decide) (fun h32 => ?_) (fun h32 => ?_)
        · refine J_aload_n dX6_sends_38 rfl rfl ?_
          refine J_bipush (v := -6) dX6_sends_39 (by decide) ?_
          refine cVi wv_X6_130 (c_goingN (n := w) hW) dX6_sends_41 ob6 rfl rfl (kk := ?_)
          refine J_bipush (v := 10) dX6_sends_44 (by decide) ?_
          refine J_icmp_eq (tgt := 62) dX6_sends_46 (by decide) (fun h46 => ?_) (fun h46 => ?_)
          · refine J_bipush (v := -4) dX6_sends_62 (by decide) ?_
            refine r_int dX6_sends_64 ?_
            refine ⟨?_, ?_⟩ <;> first | (simp only [seF, h5, reduceIte]; done) | (simp only [seF, h5, h13, reduceIte]; done) | (simp only [seF, h5, h13, h20, reduceIte]; done) | (simp only [seF, e8, e9, h5, h13, h20, h32, reduceIte]; done) | (simp only [seF, e8, e9, h5, h13, h20, h32, h46, reduceIte]; done) | (simp only [seF, e8, e9, h5, h13, h20, h32, h46, h59, reduceIte]; done)
          · refine J_aload_n dX6_sends_49 rfl rfl ?_
            refine gX6_s wf_X6_7 dX6_sends_50 ?_
            refine J_bipush (v := 94) dX6_sends_53 (by decide) ?_
            refine rd_s 94 (by decide) (by decide) dX6_sends_55 ?_
            refine J_topi (fun z9 hz9 => ?_)
            obtain rfl : z9 = (nI w) := hz9.trans (by exact hW.2.1)
            clear hz9
            refine J_sipush (v := 200) dX6_sends_56 (by decide) ?_
            refine J_icmp_ne (tgt := 65) dX6_sends_59 (by decide) (fun h59 => ?_) (fun h59 => ?_)
            · have hw1 := nI200 hW.1 h59
              refine J_aload_n dX6_sends_65 rfl rfl ?_
              refine gX6_s wf_X6_7 dX6_sends_66 ?_
              refine J_bipush (v := 94) dX6_sends_69 (by decide) ?_
              refine rd_s 94 (by decide) (by decide) dX6_sends_71 ?_
              refine J_topi (fun z9 hz9 => ?_)
              obtain rfl : z9 = (nI w) := hz9.trans (by exact hW.2.1)
              clear hz9
              refine J_istore_n dX6_sends_72 rfl rfl rfl ?_
              refine J_aload_n dX6_sends_73 rfl rfl ?_
              refine gX6_s wf_X6_7 dX6_sends_74 ?_
              refine J_bipush (v := 94) dX6_sends_77 (by decide) ?_
              refine J_dup2 dX6_sends_79 rfl rfl ?_
              refine rd_s 94 (by decide) (by decide) dX6_sends_80 ?_
              refine J_topi (fun z9 hz9 => ?_)
              obtain rfl : z9 = (nI w) := hz9.trans (by exact hW.2.1)
              clear hz9
              refine J_iconst (v := 1) dX6_sends_81 (by decide) ?_
              refine J_iadd dX6_sends_82 ?_
              refine wr_s 94 (by decide) (by decide) dX6_sends_83 ?_
              refine J_aload_n dX6_sends_84 rfl rfl ?_
              refine gX6_s wf_X6_7 dX6_sends_85 ?_
              refine J_bipush (v := 95) dX6_sends_88 (by decide) ?_
              refine J_iload_n dX6_sends_90 rfl rfl ?_
              refine J_iadd dX6_sends_91 ?_
              refine J_iload_n dX6_sends_92 rfl rfl ?_
              refine J_bipush (v := 8) dX6_sends_93 (by decide) ?_
              refine J_iload_n dX6_sends_95 rfl rfl ?_
              refine J_imul dX6_sends_96 ?_
              refine J_iadd dX6_sends_97 ?_
              refine wr_s (95 + w) (by omega) wd_i32 dX6_sends_98 ?_
              refine J_iload_n dX6_sends_99 rfl rfl ?_
              refine r_int dX6_sends_100 ?_
              refine ⟨?_, ?_⟩ <;> first | (simp only [seF, h5, reduceIte]; done) | (simp only [seF, h5, h13, reduceIte]; done) | (simp only [seF, h5, h13, h20, reduceIte]; done) | (simp only [seF, e8, e9, h5, h13, h20, h32, reduceIte]; done) | (simp only [seF, e8, e9, h5, h13, h20, h32, h46, reduceIte]; done) | (simp only [seF, e8, e9, h5, h13, h20, h32, h46, h59, reduceIte]; done)
            · refine J_bipush (v := -4) dX6_sends_62 (by decide) ?_
              refine r_int dX6_sends_64 ?_
              refine ⟨?_, ?_⟩ <;> first | (simp only [seF, h5, reduceIte]; done) | (simp only [seF, h5, h13, reduceIte]; done) | (simp only [seF, h5, h13, h20, reduceIte]; done) | (simp only [seF, e8, e9, h5, h13, h20, h32, reduceIte]; done) | (simp only [seF, e8, e9, h5, h13, h20, h32, h46, reduceIte]; done) | (simp only [seF, e8, e9, h5, h13, h20, h32, h46, h59, reduceIte]; done)
        · refine J_bipush (v := -5) dX6_sends_35 (by decide) ?_
          refine r_int dX6_sends_37 ?_
          refine ⟨?_, ?_⟩ <;> first | (simp only [seF, h5, reduceIte]; done) | (simp only [seF, h5, h13, reduceIte]; done) | (simp only [seF, h5, h13, h20, reduceIte]; done) | (simp only [seF, e8, e9, h5, h13, h20, h32, reduceIte]; done) | (simp only [seF, e8, e9, h5, h13, h20, h32, h46, reduceIte]; done) | (simp only [seF, e8, e9, h5, h13, h20, h32, h46, h59, reduceIte]; done)
      · refine J_bipush (v := -2) dX6_sends_23 (by decide) ?_
        refine r_int dX6_sends_25 ?_
        refine ⟨?_, ?_⟩ <;> first | (simp only [seF, h5, reduceIte]; done) | (simp only [seF, h5, h13, reduceIte]; done) | (simp only [seF, h5, h13, h20, reduceIte]; done) | (simp only [seF, e8, e9, h5, h13, h20, h32, reduceIte]; done) | (simp only [seF, e8, e9, h5, h13, h20, h32, h46, reduceIte]; done) | (simp only [seF, e8, e9, h5, h13, h20, h32, h46, h59, reduceIte]; done)
    · refine J_iconst (v := -1) dX6_sends_16 (by decide) ?_
      refine r_int dX6_sends_17 ?_
      refine ⟨?_, ?_⟩ <;> first | (simp only [seF, h5, reduceIte]; done) | (simp only [seF, h5, h13, reduceIte]; done) | (simp only [seF, h5, h13, h20, reduceIte]; done) | (simp only [seF, e8, e9, h5, h13, h20, h32, reduceIte]; done) | (simp only [seF, e8, e9, h5, h13, h20, h32, h46, reduceIte]; done) | (simp only [seF, e8, e9, h5, h13, h20, h32, h46, h59, reduceIte]; done)

set_option maxRecDepth 100000 in
set_option maxHeartbeats 4000000 in
theorem passLoop {X : jX} {ad : Nat → Nat} {m : Mem} {s : Rw} {n w T : Nat} {D : Int32} (hn : s 5 = nI n) (hn8 : n ≤ 8) (hS : OkS s w) (hT : T ≤ 99) : ∀ (j i : Nat), i + j = T → Jg X RX6 cX6_passes 4 (some .int) "passes" 6 0 0 (QF X ad (fun v m9 => v = some (.int (tks s n w T 300 - D)) ∧ m9 = SM m (tks s n w T))) ad 0 0 43 [(0, .ref 195), (1, .int (nI T)), (2, .int D), (3, .int (nI i))] [] (WS X ad (SM m (tks s n w i))) := by
  intro j
  induction j with
  | zero =>
    intro i hi
    obtain rfl : i = T := by omega
    refine J_iload_n dX6_passes_43 rfl rfl ?_
    refine J_iload_n dX6_passes_44 rfl rfl ?_
    refine J_icmp_ge (tgt := 58) dX6_passes_45 (by decide) (fun h45 => ?_) (fun h45 => absurd (nI_le1 (Nat.le_refl _) (by omega)) h45)
    refine J_aload_n dX6_passes_58 rfl rfl ?_
    refine gX6_s wf_X6_7 dX6_passes_59 ?_
    refine J_sipush (v := 300) dX6_passes_62 (by decide) ?_
    refine rd_s 300 (by decide) (by decide) dX6_passes_65 ?_
    refine J_iload_n dX6_passes_66 rfl rfl ?_
    refine J_isub dX6_passes_67 ?_
    refine r_int dX6_passes_68 ?_
    exact ⟨rfl, rfl⟩
  | succ j ih =>
    intro i hi
    have hk := tks_ok (n := n) hS hn8 i
    refine J_iload_n dX6_passes_43 rfl rfl ?_
    refine J_iload_n dX6_passes_44 rfl rfl ?_
    refine J_icmp_ge (tgt := 58) dX6_passes_45 (by decide) (fun h45 => absurd h45 (nI_nle1 (by omega) (by omega))) (fun h45 => ?_)
    refine J_aload_n dX6_passes_48 rfl rfl ?_
    refine cVv wv_X6_99 (c_X6_tick (n := n) (w := w) ((hk.2 5 (by decide)).trans hn) hn8 hk.1) dX6_passes_49 ob6 rfl rfl (kk := ?_)
    refine J_iinc (v := _ + 1) dX6_passes_52 rfl rfl rfl rfl ?_
    rw [show nI i + 1 = nI (i + 1) from (nI_succ i).symm]
    refine J_goto (tgt := 43) dX6_passes_55 (by decide) ?_
    exact ih (i + 1) (by omega)

set_option maxRecDepth 100000 in
set_option maxHeartbeats 4000000 in
theorem c_X6_passes {X : jX} {ad : Nat → Nat} {m : Mem} {s : Rw} {n w : Nat} {t : Int32} (hn : s 5 = nI n) (hn8 : n ≤ 8) (hS : OkS s w) : Cm X yX6_passes cX6_passes 4 (some .int) 6 ad [.ref 195, .int t] (SM m s) (fun r9 m9 => r9 = some (.int (paF s n w t).1) ∧ m9 = SM m (paF s n w t).2) := by
  refine Cm.of (own := RX6) (nm := "passes") (by decide +kernel) rfl rfl rfl rfl ?_
  refine J_iload_n dX6_passes_0 rfl rfl ?_
  refine J_iconst (v := 1) dX6_passes_1 (by decide) ?_
  refine J_bipush (v := 99) dX6_passes_2 (by decide) ?_
  refine cSi ws_X6_25 c_X6_in dX6_passes_4 (kk := ?_)
  refine J_if_ne (tgt := 13) dX6_passes_7 (by decide) (fun h7 => ?_) (fun h7 => ?_)
  · refine J_aload_n dX6_passes_13 rfl rfl ?_
    refine gX6_s wf_X6_7 dX6_passes_14 ?_
    refine J_sipush (v := 297) dX6_passes_17 (by decide) ?_
    refine rd_s 297 (by decide) (by decide) dX6_passes_20 ?_
    refine J_iload_n dX6_passes_21 rfl rfl ?_
    refine J_iadd dX6_passes_22 ?_
    refine J_sipush (v := 9999) dX6_passes_23 (by decide) ?_
    refine J_icmp_le (tgt := 32) dX6_passes_26 (by decide) (fun h26 => ?_) (fun h26 => ?_)
    · refine J_aload_n dX6_passes_32 rfl rfl ?_
      refine gX6_s wf_X6_7 dX6_passes_33 ?_
      refine J_sipush (v := 300) dX6_passes_36 (by decide) ?_
      refine rd_s 300 (by decide) (by decide) dX6_passes_39 ?_
      refine J_istore_n dX6_passes_40 rfl rfl rfl ?_
      obtain ⟨T, hT, rfl⟩ := jin_nat (n := 99) (by decide) rfl h7
      have e9 : (nI T).toNatClampNeg = T := nI_cl (by omega)
      refine J_iconst (v := 0) dX6_passes_41 (by decide) ?_
      refine J_istore_n dX6_passes_42 rfl rfl rfl ?_
      refine Jg_fin (fun v m9 h => ?_) (passLoop (D := s 300) hn hn8 hS hT T 0 (by omega))
      simp only [paF, e9, h7, h26, reduceIte]
      exact h
    · refine J_bipush (v := -5) dX6_passes_29 (by decide) ?_
      refine r_int dX6_passes_31 ?_
      refine ⟨?_, ?_⟩ <;> first | (simp only [paF, h7, reduceIte]; done) | (simp only [paF, h7, h26, reduceIte]; done)
  · refine J_bipush (v := -2) dX6_passes_10 (by decide) ?_
    refine r_int dX6_passes_12 ?_
    refine ⟨?_, ?_⟩ <;> first | (simp only [paF, h7, reduceIte]; done) | (simp only [paF, h7, h26, reduceIte]; done)

/-- a call's end: the row that it made, and a state recorded if it answered no error -/
def PbR (m : Mem) (s : Rw) (q : Nat) (r : Int32 × Rw) (v : Option Value) (m9 : Mem) : Prop := v = some (.int r.1) ∧ ∃ m2, m9 = SM m2 r.2 ∧ if r.1 < 0 then m2 = asd m s else RecR (asd m s) m2 q
theorem asd3 {m : Mem} {s : Rw} {q : Nat} (h : m 195 3 = nI q) : asd m s 195 3 = nI q := by rw [asd_ne (by decide)]; exact h
set_option maxRecDepth 100000 in
set_option maxHeartbeats 4000000 in
theorem c_X6_board {X : jX} {ad : Nat → Nat} {m : Mem} {s : Rw} {n w q3 : Nat} {x y : Int32} (hn : s 5 = nI n) (hn8 : n ≤ 8) (hq3 : m 195 3 = nI q3) (hq7 : q3 < 7) : Cm X yX6_board cX6_board 3 (some .int) 2 ad [.ref 195, .int x, .int y] (SM m s) (PbR m s q3 (coF s n x y)) := by
  refine Cm.of (own := RX6) (nm := "board") (by decide +kernel) rfl rfl rfl rfl ?_
  refine J_aload_n dX6_board_0 rfl rfl ?_
  refine cVv wv_X6_102 c_X6_putAside dX6_board_1 ob6 rfl rfl (kk := ?_)
  refine J_aload_n dX6_board_4 rfl rfl ?_
  refine J_aload_n dX6_board_5 rfl rfl ?_
  refine J_iload_n dX6_board_6 rfl rfl ?_
  refine J_iload_n dX6_board_7 rfl rfl ?_
  refine cVg wv_X6_114 (c_X6_comes (n := n) hn hn8) dX6_board_8 ob6 rfl rfl (kk := (fun v m1 hf => ?_))
  obtain ⟨rfl, rfl⟩ := hf
  refine cVg wv_X6_111 (c_X6_changed (asd3 hq3) hq7) dX6_board_11 ob6 rfl rfl (kk := (fun v m1 hf => ?_))
  obtain ⟨rfl, hr⟩ := hf
  refine r_int dX6_board_14 ?_
  exact ⟨rfl, hr⟩

set_option maxRecDepth 100000 in
set_option maxHeartbeats 4000000 in
theorem c_X6_plug {X : jX} {ad : Nat → Nat} {m : Mem} {s : Rw} {n w q3 : Nat} {x z v : Int32} (hn : s 5 = nI n) (hn8 : n ≤ 8) (hq3 : m 195 3 = nI q3) (hq7 : q3 < 7) : Cm X yX6_plug cX6_plug 4 (some .int) 3 ad [.ref 195, .int x, .int z, .int v] (SM m s) (PbR m s q3 (plF s n x z v)) := by
  refine Cm.of (own := RX6) (nm := "plug") (by decide +kernel) rfl rfl rfl rfl ?_
  refine J_aload_n dX6_plug_0 rfl rfl ?_
  refine cVv wv_X6_102 c_X6_putAside dX6_plug_1 ob6 rfl rfl (kk := ?_)
  refine J_aload_n dX6_plug_4 rfl rfl ?_
  refine J_aload_n dX6_plug_5 rfl rfl ?_
  refine J_iload_n dX6_plug_6 rfl rfl ?_
  refine J_iload_n dX6_plug_7 rfl rfl ?_
  refine J_iload_n dX6_plug_8 rfl rfl ?_
  refine cVg wv_X6_123 (c_X6_plugs (n := n) hn hn8) dX6_plug_9 ob6 rfl rfl (kk := (fun v m1 hf => ?_))
  obtain ⟨rfl, rfl⟩ := hf
  refine cVg wv_X6_111 (c_X6_changed (asd3 hq3) hq7) dX6_plug_12 ob6 rfl rfl (kk := (fun v m1 hf => ?_))
  obtain ⟨rfl, hr⟩ := hf
  refine r_int dX6_plug_15 ?_
  exact ⟨rfl, hr⟩

set_option maxRecDepth 100000 in
set_option maxHeartbeats 4000000 in
theorem c_X6_pull {X : jX} {ad : Nat → Nat} {m : Mem} {s : Rw} {n w q3 : Nat} {x v : Int32} (hn : s 5 = nI n) (hn8 : n ≤ 8) (hq3 : m 195 3 = nI q3) (hq7 : q3 < 7) : Cm X yX6_pull cX6_pull 3 (some .int) 3 ad [.ref 195, .int x, .int v] (SM m s) (PbR m s q3 (puF s n x v)) := by
  refine Cm.of (own := RX6) (nm := "pull") (by decide +kernel) rfl rfl rfl rfl ?_
  refine J_aload_n dX6_pull_0 rfl rfl ?_
  refine cVv wv_X6_102 c_X6_putAside dX6_pull_1 ob6 rfl rfl (kk := ?_)
  refine J_aload_n dX6_pull_4 rfl rfl ?_
  refine J_aload_n dX6_pull_5 rfl rfl ?_
  refine J_iload_n dX6_pull_6 rfl rfl ?_
  refine J_iload_n dX6_pull_7 rfl rfl ?_
  refine cVg wv_X6_127 (c_X6_pulls (n := n) hn hn8) dX6_pull_8 ob6 rfl rfl (kk := (fun v m1 hf => ?_))
  obtain ⟨rfl, rfl⟩ := hf
  refine cVg wv_X6_111 (c_X6_changed (asd3 hq3) hq7) dX6_pull_11 ob6 rfl rfl (kk := (fun v m1 hf => ?_))
  obtain ⟨rfl, hr⟩ := hf
  refine r_int dX6_pull_14 ?_
  exact ⟨rfl, hr⟩

set_option maxRecDepth 100000 in
set_option maxHeartbeats 4000000 in
theorem c_X6_ask {X : jX} {ad : Nat → Nat} {m : Mem} {s : Rw} {n w q3 : Nat} {x : Int32} (hn : s 5 = nI n) (hn8 : n ≤ 8) (hS : OkS s w) (hq3 : m 195 3 = nI q3) (hq7 : q3 < 7) : Cm X yX6_ask cX6_ask 2 (some .int) 4 ad [.ref 195, .int x] (SM m s) (PbR m s q3 (asF s n w x)) := by
  refine Cm.of (own := RX6) (nm := "ask") (by decide +kernel) rfl rfl rfl rfl ?_
  refine J_aload_n dX6_ask_0 rfl rfl ?_
  refine cVv wv_X6_102 c_X6_putAside dX6_ask_1 ob6 rfl rfl (kk := ?_)
  refine J_aload_n dX6_ask_4 rfl rfl ?_
  refine J_aload_n dX6_ask_5 rfl rfl ?_
  refine J_iload_n dX6_ask_6 rfl rfl ?_
  refine cVg wv_X6_133 (c_X6_asks (n := n) (w := w) hn hn8 hS.1) dX6_ask_7 ob6 rfl rfl (kk := (fun v m1 hf => ?_))
  obtain ⟨rfl, rfl⟩ := hf
  refine cVg wv_X6_111 (c_X6_changed (asd3 hq3) hq7) dX6_ask_10 ob6 rfl rfl (kk := (fun v m1 hf => ?_))
  obtain ⟨rfl, hr⟩ := hf
  refine r_int dX6_ask_13 ?_
  exact ⟨rfl, hr⟩

set_option maxRecDepth 100000 in
set_option maxHeartbeats 4000000 in
theorem c_X6_send {X : jX} {ad : Nat → Nat} {m : Mem} {s : Rw} {n w q3 : Nat} {x y : Int32} (hn : s 5 = nI n) (hn8 : n ≤ 8) (hS : OkS s w) (hq3 : m 195 3 = nI q3) (hq7 : q3 < 7) : Cm X yX6_send cX6_send 3 (some .int) 4 ad [.ref 195, .int x, .int y] (SM m s) (PbR m s q3 (seF s n w x y)) := by
  refine Cm.of (own := RX6) (nm := "send") (by decide +kernel) rfl rfl rfl rfl ?_
  refine J_aload_n dX6_send_0 rfl rfl ?_
  refine cVv wv_X6_102 c_X6_putAside dX6_send_1 ob6 rfl rfl (kk := ?_)
  refine J_aload_n dX6_send_4 rfl rfl ?_
  refine J_aload_n dX6_send_5 rfl rfl ?_
  refine J_iload_n dX6_send_6 rfl rfl ?_
  refine J_iload_n dX6_send_7 rfl rfl ?_
  refine cVg wv_X6_139 (c_X6_sends (n := n) (w := w) hn hn8 hS.1) dX6_send_8 ob6 rfl rfl (kk := (fun v m1 hf => ?_))
  obtain ⟨rfl, rfl⟩ := hf
  refine cVg wv_X6_111 (c_X6_changed (asd3 hq3) hq7) dX6_send_11 ob6 rfl rfl (kk := (fun v m1 hf => ?_))
  obtain ⟨rfl, hr⟩ := hf
  refine r_int dX6_send_14 ?_
  exact ⟨rfl, hr⟩

set_option maxRecDepth 100000 in
set_option maxHeartbeats 4000000 in
theorem c_X6_pass {X : jX} {ad : Nat → Nat} {m : Mem} {s : Rw} {n w q3 : Nat} {t : Int32} (hn : s 5 = nI n) (hn8 : n ≤ 8) (hS : OkS s w) (hq3 : m 195 3 = nI q3) (hq7 : q3 < 7) : Cm X yX6_pass cX6_pass 2 (some .int) 7 ad [.ref 195, .int t] (SM m s) (PbR m s q3 (paF s n w t)) := by
  refine Cm.of (own := RX6) (nm := "pass") (by decide +kernel) rfl rfl rfl rfl ?_
  refine J_aload_n dX6_pass_0 rfl rfl ?_
  refine cVv wv_X6_102 c_X6_putAside dX6_pass_1 ob6 rfl rfl (kk := ?_)
  refine J_aload_n dX6_pass_4 rfl rfl ?_
  refine J_aload_n dX6_pass_5 rfl rfl ?_
  refine J_iload_n dX6_pass_6 rfl rfl ?_
  refine cVg wv_X6_142 (c_X6_passes (n := n) (w := w) hn hn8 hS) dX6_pass_7 ob6 rfl rfl (kk := (fun v m1 hf => ?_))
  obtain ⟨rfl, rfl⟩ := hf
  refine cVg wv_X6_111 (c_X6_changed (asd3 hq3) hq7) dX6_pass_10 ob6 rfl rfl (kk := (fun v m1 hf => ?_))
  obtain ⟨rfl, hr⟩ := hf
  refine r_int dX6_pass_13 ?_
  exact ⟨rfl, hr⟩

set_option maxRecDepth 100000 in
set_option maxHeartbeats 4000000 in
theorem c_X6_set {X : jX} {ad : Nat → Nat} {m : Mem} {s : Rw} {q3 : Nat} {x v : Int32} (hq3 : m 195 3 = nI q3) (hq7 : q3 < 7) : Cm X yX6_set cX6_set 4 (some .int) 2 ad [.ref 195, .int x, .int v] (SM m s) (PbR m s q3 (stF s x v)) := by
  refine Cm.of (own := RX6) (nm := "set") (by decide +kernel) rfl rfl rfl rfl ?_
  refine J_aload_n dX6_set_0 rfl rfl ?_
  refine cVv wv_X6_102 c_X6_putAside dX6_set_1 ob6 rfl rfl (kk := ?_)
  refine J_iload_n dX6_set_4 rfl rfl ?_
  refine J_iconst (v := 0) dX6_set_5 (by decide) ?_
  refine J_iconst (v := 4) dX6_set_6 (by decide) ?_
  refine cSi ws_X6_25 c_X6_in dX6_set_7 (kk := ?_)
  refine J_if_eq (tgt := 28) dX6_set_10 (by decide) (fun h10 => ?_) (fun h10 => ?_)
  · refine J_bipush (v := -2) dX6_set_28 (by decide) ?_
    refine r_int dX6_set_30 ?_
    have e8 : stF s x v = (-2, s) := by first | (simp only [stF, h10, reduceIte]; done) | (simp only [stF, h10, h25, reduceIte]; done)
    rw [e8]
    exact ⟨rfl, asd m s, rfl, show if (-2 : Int32) < 0 then (asd m s = asd m s) else RecR (asd m s) (asd m s) q3 by rw [if_pos (by decide)]⟩
  · refine J_iload_n dX6_set_13 rfl rfl ?_
    refine J_iload_n dX6_set_14 rfl rfl ?_
    refine cSi ws_X6_105 c_X6_least dX6_set_15 (kk := ?_)
    refine J_iload_n dX6_set_18 rfl rfl ?_
    refine cSi ws_X6_108 c_X6_most dX6_set_19 (kk := ?_)
    refine cSi ws_X6_25 c_X6_in dX6_set_22 (kk := ?_)
    refine J_if_ne (tgt := 31) dX6_set_25 (by decide) (fun h25 => ?_) (fun h25 => ?_)
    · obtain ⟨k, hk, rfl⟩ := jin_nat (n := 4) (by decide) rfl h10
      have e9 : (nI k).toNatClampNeg = k := nI_cl (by omega)
      refine J_aload_n dX6_set_31 rfl rfl ?_
      refine gX6_s wf_X6_7 dX6_set_32 ?_
      refine J_iload_n dX6_set_35 rfl rfl ?_
      refine rd_s k (by omega) rfl dX6_set_36 ?_
      refine J_istore_n dX6_set_37 rfl rfl rfl ?_
      refine J_aload_n dX6_set_38 rfl rfl ?_
      refine gX6_s wf_X6_7 dX6_set_39 ?_
      refine J_iload_n dX6_set_42 rfl rfl ?_
      refine J_iload_n dX6_set_43 rfl rfl ?_
      refine wr_s k (by omega) rfl dX6_set_44 ?_
      refine J_aload_n dX6_set_45 rfl rfl ?_
      refine J_iload_n dX6_set_46 rfl rfl ?_
      refine cVg wv_X6_111 (c_X6_changed (asd3 hq3) hq7) dX6_set_47 ob6 rfl rfl (kk := (fun v m1 hf => ?_))
      obtain ⟨rfl, m2, rfl, hr⟩ := hf
      refine r_int dX6_set_50 ?_
      have e8 : stF s (nI k) v = (s k, upd s k v) := by simp only [stF, e9, h10, h25, reduceIte]
      rw [e8]
      exact ⟨rfl, m2, rfl, hr⟩
    · refine J_bipush (v := -2) dX6_set_28 (by decide) ?_
      refine r_int dX6_set_30 ?_
      have e8 : stF s x v = (-2, s) := by first | (simp only [stF, h10, reduceIte]; done) | (simp only [stF, h10, h25, reduceIte]; done)
      rw [e8]
      exact ⟨rfl, asd m s, rfl, show if (-2 : Int32) < 0 then (asd m s = asd m s) else RecR (asd m s) (asd m s) q3 by rw [if_pos (by decide)]⟩

