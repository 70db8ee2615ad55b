set_option maxRecDepth 100000 in
set_option maxHeartbeats 4000000 in
theorem tkNone {X : jX} {ad : Nat → Nat} {m : Mem} {fin : Option Value → Mem → Prop} {t : Rw} {i : Nat} {a : Int32} (kk : ∀ a' : Int32, a' = (if a = 0 then 0 else 1) → Jg X RX6 cX6_tick 5 (none) "tick" 5 0 0 (QF X ad fin) ad 0 0 4 [(0, .ref 195), (1, .int a'), (2, .int (nI i + 1))] [] (WS X ad (SM m (t)))) : Jg X RX6 cX6_tick 5 (none) "tick" 5 0 0 (QF X ad fin) ad 0 0 14 [(0, .ref 195), (1, .int a), (2, .int (nI i))] [.int (-6)] (WS X ad (SM m (t))) := by
  refine J_istore_n dX6_tick_14 rfl rfl rfl ?_
  refine J_iload_n dX6_tick_15 rfl rfl ?_
  refine J_bipush (v := -6) dX6_tick_16 (by decide) ?_
  refine J_icmp_eq (tgt := 46) dX6_tick_18 (by decide) (fun h18 => ?_) (fun h18 => absurd (by decide) h18)
  refine J_iconst (v := 0) dX6_tick_46 (by decide) ?_
  refine J_istore dX6_tick_47 rfl rfl ?_
  refine J_iload_n dX6_tick_49 rfl rfl ?_
  refine J_if_ne (tgt := 58) dX6_tick_50 (by decide) (fun h50 => ?_) (fun h50 => ?_)
  · refine J_iconst (v := 1) dX6_tick_58 (by decide) ?_
    refine J_goto (tgt := 63) dX6_tick_59 (by decide) ?_
    refine J_istore_n dX6_tick_63 rfl rfl rfl ?_
    refine J_iinc (v := _ + 1) dX6_tick_64 rfl rfl rfl rfl ?_
    refine J_goto (tgt := 4) dX6_tick_67 (by decide) ?_
    refine J_lv [0, 1, 2] rfl ?_
    exact kk _ (by first | rw [if_neg h50] | rw [if_pos h50])
  · refine J_iload dX6_tick_53 rfl ?_
    refine J_if_eq (tgt := 62) dX6_tick_55 (by decide) (fun h55 => ?_) (fun h55 => absurd (by decide) h55)
    refine J_iconst (v := 0) dX6_tick_62 (by decide) ?_
    refine J_istore_n dX6_tick_63 rfl rfl rfl ?_
    refine J_iinc (v := _ + 1) dX6_tick_64 rfl rfl rfl rfl ?_
    refine J_goto (tgt := 4) dX6_tick_67 (by decide) ?_
    refine J_lv [0, 1, 2] rfl ?_
    exact kk _ (by first | rw [if_neg h50] | rw [if_pos h50])

set_option maxRecDepth 100000 in
set_option maxHeartbeats 4000000 in
theorem tkSome {X : jX} {ad : Nat → Nat} {m : Mem} {fin : Option Value → Mem → Prop} {t : Rw} {i q : Nat} {a : Int32} (hq : q < 8) (kk : ∀ (a' : Int32) (t' : Rw), a' = (if a = 0 then (if t (fb q 4) = 0 then 0 else goP t q) else 1) → t' = (if t (fb q 4) = 0 then t else goF t q) → Jg X RX6 cX6_tick 5 (none) "tick" 5 0 0 (QF X ad fin) ad 0 0 4 [(0, .ref 195), (1, .int a'), (2, .int (nI i + 1))] [] (WS X ad (SM m (t')))) : Jg X RX6 cX6_tick 5 (none) "tick" 5 0 0 (QF X ad fin) ad 0 0 14 [(0, .ref 195), (1, .int a), (2, .int (nI i))] [.int (nI q)] (WS X ad (SM m (t))) := by
  refine J_istore_n dX6_tick_14 rfl rfl rfl ?_
  refine J_iload_n dX6_tick_15 rfl rfl ?_
  refine J_bipush (v := -6) dX6_tick_16 (by decide) ?_
  refine J_icmp_eq (tgt := 46) dX6_tick_18 (by decide) (fun h18 => absurd h18 (nI_n6 q hq)) (fun h18 => ?_)
  refine J_aload_n dX6_tick_21 rfl rfl ?_
  refine gX6_s wf_X6_7 dX6_tick_22 ?_
  refine J_iload_n dX6_tick_25 rfl rfl ?_
  refine J_iconst (v := 4) dX6_tick_26 (by decide) ?_
  refine cSi ws_X6_58 (c_X6_ofBoard (i := q) (c := 4) 4 (by decide)) dX6_tick_27 (kk := ?_)
  refine rd_s (fb q 4) (fb_302 (by omega) (by decide)) rfl dX6_tick_30 ?_
  refine J_if_eq (tgt := 46) dX6_tick_31 (by decide) (fun h31 => ?_) (fun h31 => ?_)
  · refine J_iconst (v := 0) dX6_tick_46 (by decide) ?_
    refine J_istore dX6_tick_47 rfl rfl ?_
    refine J_iload_n dX6_tick_49 rfl rfl ?_
    refine J_if_ne (tgt := 58) dX6_tick_50 (by decide) (fun h50 => ?_) (fun h50 => ?_)
    · refine J_iconst (v := 1) dX6_tick_58 (by decide) ?_
      refine J_goto (tgt := 63) dX6_tick_59 (by decide) ?_
      refine J_istore_n dX6_tick_63 rfl rfl rfl ?_
      refine J_iinc (v := _ + 1) dX6_tick_64 rfl rfl rfl rfl ?_
      refine J_goto (tgt := 4) dX6_tick_67 (by decide) ?_
      refine J_lv [0, 1, 2] rfl ?_
      exact kk _ _ (by first | (simp only [h50, h31, h39, reduceIte]; done) | (simp only [h50, h31, reduceIte]; done) | (simp only [h50, reduceIte]; done) | (simp only [h50, h31, reduceIte]; exact (Or.resolve_left (plg01 : goP t q = 0 ∨ goP t q = 1) h39).symm)) (by simp only [h31, reduceIte])
    · refine J_iload dX6_tick_53 rfl ?_
      refine J_if_eq (tgt := 62) dX6_tick_55 (by decide) (fun h55 => ?_) (fun h55 => absurd (by decide) h55)
      refine J_iconst (v := 0) dX6_tick_62 (by decide) ?_
      refine J_istore_n dX6_tick_63 rfl rfl rfl ?_
      refine J_iinc (v := _ + 1) dX6_tick_64 rfl rfl rfl rfl ?_
      refine J_goto (tgt := 4) dX6_tick_67 (by decide) ?_
      refine J_lv [0, 1, 2] rfl ?_
      exact kk _ _ (by first | (simp only [h50, h31, h39, reduceIte]; done) | (simp only [h50, h31, reduceIte]; done) | (simp only [h50, reduceIte]; done) | (simp only [h50, h31, reduceIte]; exact (Or.resolve_left (plg01 : goP t q = 0 ∨ goP t q = 1) h39).symm)) (by simp only [h31, reduceIte])
  · refine J_aload_n dX6_tick_34 rfl rfl ?_
    refine J_iload_n dX6_tick_35 rfl rfl ?_
    refine cVi wv_X6_79 (c_X6_goes hq) dX6_tick_36 ob6 rfl rfl (kk := ?_)
    refine J_if_eq (tgt := 46) dX6_tick_39 (by decide) (fun h39 => ?_) (fun h39 => ?_)
    · refine J_iconst (v := 0) dX6_tick_46 (by decide) ?_
      refine J_istore dX6_tick_47 rfl rfl ?_
      refine J_iload_n dX6_tick_49 rfl rfl ?_
      refine J_if_ne (tgt := 58) dX6_tick_50 (by decide) (fun h50 => ?_) (fun h50 => ?_)
      · refine J_iconst (v := 1) dX6_tick_58 (by decide) ?_
        refine J_goto (tgt := 63) dX6_tick_59 (by decide) ?_
        refine J_istore_n dX6_tick_63 rfl rfl rfl ?_
        refine J_iinc (v := _ + 1) dX6_tick_64 rfl rfl rfl rfl ?_
        refine J_goto (tgt := 4) dX6_tick_67 (by decide) ?_
        refine J_lv [0, 1, 2] rfl ?_
        exact kk _ _ (by first | (simp only [h50, h31, h39, reduceIte]; done) | (simp only [h50, h31, reduceIte]; done) | (simp only [h50, reduceIte]; done) | (simp only [h50, h31, reduceIte]; exact (Or.resolve_left (plg01 : goP t q = 0 ∨ goP t q = 1) h39).symm)) (by simp only [h31, reduceIte])
      · refine J_iload dX6_tick_53 rfl ?_
        refine J_if_eq (tgt := 62) dX6_tick_55 (by decide) (fun h55 => ?_) (fun h55 => absurd (by decide) h55)
        refine J_iconst (v := 0) dX6_tick_62 (by decide) ?_
        refine J_istore_n dX6_tick_63 rfl rfl rfl ?_
        refine J_iinc (v := _ + 1) dX6_tick_64 rfl rfl rfl rfl ?_
        refine J_goto (tgt := 4) dX6_tick_67 (by decide) ?_
        refine J_lv [0, 1, 2] rfl ?_
        exact kk _ _ (by first | (simp only [h50, h31, h39, reduceIte]; done) | (simp only [h50, h31, reduceIte]; done) | (simp only [h50, reduceIte]; done) | (simp only [h50, h31, reduceIte]; exact (Or.resolve_left (plg01 : goP t q = 0 ∨ goP t q = 1) h39).symm)) (by simp only [h31, reduceIte])
    · refine J_iconst (v := 1) dX6_tick_42 (by decide) ?_
      refine J_goto (tgt := 47) dX6_tick_43 (by decide) ?_
      refine J_istore dX6_tick_47 rfl rfl ?_
      refine J_iload_n dX6_tick_49 rfl rfl ?_
      refine J_if_ne (tgt := 58) dX6_tick_50 (by decide) (fun h50 => ?_) (fun h50 => ?_)
      · refine J_iconst (v := 1) dX6_tick_58 (by decide) ?_
        refine J_goto (tgt := 63) dX6_tick_59 (by decide) ?_
        refine J_istore_n dX6_tick_63 rfl rfl rfl ?_
        refine J_iinc (v := _ + 1) dX6_tick_64 rfl rfl rfl rfl ?_
        refine J_goto (tgt := 4) dX6_tick_67 (by decide) ?_
        refine J_lv [0, 1, 2] rfl ?_
        exact kk _ _ (by first | (simp only [h50, h31, h39, reduceIte]; done) | (simp only [h50, h31, reduceIte]; done) | (simp only [h50, reduceIte]; done) | (simp only [h50, h31, reduceIte]; exact (Or.resolve_left (plg01 : goP t q = 0 ∨ goP t q = 1) h39).symm)) (by simp only [h31, reduceIte])
      · refine J_iload dX6_tick_53 rfl ?_
        refine J_if_eq (tgt := 62) dX6_tick_55 (by decide) (fun h55 => absurd h55 (by decide)) (fun h55 => ?_)
        refine J_iconst (v := 1) dX6_tick_58 (by decide) ?_
        refine J_goto (tgt := 63) dX6_tick_59 (by decide) ?_
        refine J_istore_n dX6_tick_63 rfl rfl rfl ?_
        refine J_iinc (v := _ + 1) dX6_tick_64 rfl rfl rfl rfl ?_
        refine J_goto (tgt := 4) dX6_tick_67 (by decide) ?_
        refine J_lv [0, 1, 2] rfl ?_
        exact kk _ _ (by first | (simp only [h50, h31, h39, reduceIte]; done) | (simp only [h50, h31, reduceIte]; done) | (simp only [h50, reduceIte]; done) | (simp only [h50, h31, reduceIte]; exact (Or.resolve_left (plg01 : goP t q = 0 ∨ goP t q = 1) h39).symm)) (by simp only [h31, reduceIte])

theorem mvL_none {s : Rw} {n k : Nat} (h : bI (mvL s n k) (nI k) n = -6) : mvL s n (k + 1) = mvL s n k ∧ pgL s n (k + 1) = (if pgL s n k = 0 then 0 else 1) := by
  constructor
  · show (if _ then _ else _) = _; rw [if_pos h]
  · show (if _ then (if _ then _ else _) else _) = _; rw [if_pos h]
theorem mvL_some {s : Rw} {n k q : Nat} (hq : q < 8) (h : bI (mvL s n k) (nI k) n = nI q) : mvL s n (k + 1) = (if mvL s n k (fb q 4) = 0 then mvL s n k else goF (mvL s n k) q) ∧ pgL s n (k + 1) = (if pgL s n k = 0 then (if mvL s n k (fb q 4) = 0 then 0 else goP (mvL s n k) q) else 1) := by
  have e : (bI (mvL s n k) (nI k) n).toNatClampNeg = q := by rw [h, nI_cl (by omega)]
  have hne : ¬ bI (mvL s n k) (nI k) n = -6 := by rw [h]; exact nI_n6 q hq
  constructor
  · show (if _ then _ else _) = _; rw [if_neg hne, e]
  · show (if _ then (if _ then _ else _) else _) = _; rw [if_neg hne, e]
set_option maxRecDepth 100000 in
set_option maxHeartbeats 4000000 in
theorem tkMove {X : jX} {ad : Nat → Nat} {m : Mem} {fin : Option Value → Mem → Prop} {s : Rw} {n : Nat} (hn : s 5 = nI n) (hn8 : n ≤ 8) (kk : Jg X RX6 cX6_tick 5 (none) "tick" 5 0 0 (QF X ad fin) ad 0 0 70 [(0, .ref 195), (1, .int (pgL s n 5)), (2, .int (nI 5))] [] (WS X ad (SM m (mvL s n 5)))) : ∀ (j i : Nat), i + j = 5 → Jg X RX6 cX6_tick 5 (none) "tick" 5 0 0 (QF X ad fin) ad 0 0 4 [(0, .ref 195), (1, .int (pgL s n i)), (2, .int (nI i))] [] (WS X ad (SM m (mvL s n i))) := by
  intro j
  induction j with
  | zero =>
    intro i hi
    obtain rfl : i = 5 := by omega
    refine J_iload_n dX6_tick_4 rfl rfl ?_
    refine J_iconst (v := 5) dX6_tick_5 (by decide) ?_
    refine J_icmp_ge (tgt := 70) dX6_tick_6 (by decide) (fun h6 => ?_) (fun h6 => absurd (by decide) h6)
    exact kk
  | succ j ih =>
    intro i hi
    refine J_iload_n dX6_tick_4 rfl rfl ?_
    refine J_iconst (v := 5) dX6_tick_5 (by decide) ?_
    refine J_icmp_ge (tgt := 70) dX6_tick_6 (by decide) (fun h6 => absurd h6 (nI_nle1 (a := i) (b := 5) (by omega) (by omega))) (fun h6 => ?_)
    refine J_aload_n dX6_tick_9 rfl rfl ?_
    refine J_iload_n dX6_tick_10 rfl rfl ?_
    refine cVi wv_X6_76 (c_X6_boardIn (n := n) (by rw [mvL_out (by omega) hn8]; exact hn) hn8) dX6_tick_11 ob6 rfl rfl (kk := ?_)
    have h9 := ih (i + 1) (by omega)
    rcases bI_or (s := mvL s n i) (x := nI i) n with hb | ⟨q, hq, hb⟩
    · rw [hb]
      obtain ⟨e1, e2⟩ := mvL_none hb
      rw [e1, e2, nI_succ] at h9
      exact tkNone (fun a2 h => by rw [h]; exact h9)
    · rw [hb]
      obtain ⟨e1, e2⟩ := mvL_some (by omega) hb
      rw [e1, e2, nI_succ] at h9
      exact tkSome (by omega) (fun a2 t2 h h2 => by rw [h, h2]; exact h9)

theorem pwL_some {s : Rw} {n k q : Nat} (hq : q < 8) (h : bI (pwL s n k) (nI k) n = nI q) : pwL s n (k + 1) = pwF (pwL s n k) n q := by
  have e : (bI (pwL s n k) (nI k) n).toNatClampNeg = q := by rw [h, nI_cl (by omega)]
  have hne : ¬ bI (pwL s n k) (nI k) n = -6 := by rw [h]; exact nI_n6 q hq
  show (if _ then _ else _) = _
  rw [if_neg hne, e]
theorem pwL_none {s : Rw} {n k : Nat} (h : bI (pwL s n k) (nI k) n = -6) : pwL s n (k + 1) = pwL s n k := by
  show (if _ then _ else _) = _
  rw [if_pos h]
set_option maxRecDepth 100000 in
set_option maxHeartbeats 4000000 in
theorem tkPower {X : jX} {ad : Nat → Nat} {m : Mem} {fin : Option Value → Mem → Prop} {s : Rw} {n : Nat} {a : Int32} (hn : s 5 = nI n) (hn8 : n ≤ 8) (kk : Jg X RX6 cX6_tick 5 (none) "tick" 5 0 0 (QF X ad fin) ad 0 0 122 [(0, .ref 195), (1, .int a), (2, .int (nI 5))] [] (WS X ad (SM m (pwL s n 5)))) : ∀ (j i : Nat), i + j = 5 → Jg X RX6 cX6_tick 5 (none) "tick" 5 0 0 (QF X ad fin) ad 0 0 92 [(0, .ref 195), (1, .int a), (2, .int (nI i))] [] (WS X ad (SM m (pwL s n i))) := by
  intro j
  induction j with
  | zero =>
    intro i hi
    obtain rfl : i = 5 := by omega
    refine J_iload_n dX6_tick_92 rfl rfl ?_
    refine J_iconst (v := 5) dX6_tick_93 (by decide) ?_
    refine J_icmp_ge (tgt := 122) dX6_tick_94 (by decide) (fun h94 => ?_) (fun h94 => absurd (by decide) h94)
    exact kk
  | succ j ih =>
    intro i hi
    have h9 := ih (i + 1) (by omega)
    rcases bI_or (s := pwL s n i) (x := nI i) n with hb | ⟨q, hq, hb⟩
    · rw [pwL_none hb, nI_succ] at h9
      refine J_iload_n dX6_tick_92 rfl rfl ?_
      refine J_iconst (v := 5) dX6_tick_93 (by decide) ?_
      refine J_icmp_ge (tgt := 122) dX6_tick_94 (by decide) (fun h94 => absurd h94 (nI_nle1 (a := i) (b := 5) (by omega) (by omega))) (fun h94 => ?_)
      refine J_aload_n dX6_tick_97 rfl rfl ?_
      refine J_iload_n dX6_tick_98 rfl rfl ?_
      refine cVi wv_X6_76 (c_X6_boardIn (n := n) (by rw [pwL_out (by omega) hn8]; exact hn) hn8) dX6_tick_99 ob6 rfl rfl (kk := ?_)
      refine J_topi (fun z9 hz9 => ?_)
      obtain rfl : z9 = -6 := hz9.trans (by exact hb)
      clear hz9
      refine J_bipush (v := -6) dX6_tick_102 (by decide) ?_
      refine J_icmp_eq (tgt := 116) dX6_tick_104 (by decide) (fun h104 => ?_) (fun h104 => absurd (by decide) h104)
      refine J_iinc (v := _ + 1) dX6_tick_116 rfl rfl rfl rfl ?_
      refine J_goto (tgt := 92) dX6_tick_119 (by decide) ?_
      exact h9
    · rw [pwL_some (by omega) hb, nI_succ] at h9
      refine J_iload_n dX6_tick_92 rfl rfl ?_
      refine J_iconst (v := 5) dX6_tick_93 (by decide) ?_
      refine J_icmp_ge (tgt := 122) dX6_tick_94 (by decide) (fun h94 => absurd h94 (nI_nle1 (a := i) (b := 5) (by omega) (by omega))) (fun h94 => ?_)
      refine J_aload_n dX6_tick_97 rfl rfl ?_
      refine J_iload_n dX6_tick_98 rfl rfl ?_
      refine cVi wv_X6_76 (c_X6_boardIn (n := n) (by rw [pwL_out (by omega) hn8]; exact hn) hn8) dX6_tick_99 ob6 rfl rfl (kk := ?_)
      refine J_topi (fun z9 hz9 => ?_)
      obtain rfl : z9 = (nI q) := hz9.trans (by exact hb)
      clear hz9
      refine J_bipush (v := -6) dX6_tick_102 (by decide) ?_
      refine J_icmp_eq (tgt := 116) dX6_tick_104 (by decide) (fun h104 => absurd h104 (nI_n6 q (by omega))) (fun h104 => ?_)
      refine J_aload_n dX6_tick_107 rfl rfl ?_
      refine J_aload_n dX6_tick_108 rfl rfl ?_
      refine J_iload_n dX6_tick_109 rfl rfl ?_
      refine cVi wv_X6_76 (c_X6_boardIn (n := n) (by rw [pwL_out (by omega) hn8]; exact hn) hn8) dX6_tick_110 ob6 rfl rfl (kk := ?_)
      refine J_topi (fun z9 hz9 => ?_)
      obtain rfl : z9 = (nI q) := hz9.trans (by exact hb)
      clear hz9
      refine cVv wv_X6_82 (c_X6_powers (n := n) (i := q) (by rw [pwL_out (by omega) hn8]; exact hn) hn8 (by omega)) dX6_tick_113 ob6 rfl rfl (kk := ?_)
      refine J_iinc (v := _ + 1) dX6_tick_116 rfl rfl rfl rfl ?_
      refine J_goto (tgt := 92) dX6_tick_119 (by decide) ?_
      exact h9

set_option maxRecDepth 100000 in
set_option maxHeartbeats 4000000 in
theorem tkGreet {X : jX} {ad : Nat → Nat} {m : Mem} {fin : Option Value → Mem → Prop} {s : Rw} {n k : Nat} {a : Int32} (hW : OkW s k) (hn : s 5 = nI n) (hn8 : n ≤ 8) (kk : Jg X RX6 cX6_tick 5 (none) "tick" 5 0 0 (QF X ad fin) ad 0 0 145 [(0, .ref 195), (1, .int a), (2, .int (nI n))] [] (WS X ad (SM m (grL s k n)))) : ∀ (j i : Nat), i + j = n → Jg X RX6 cX6_tick 5 (none) "tick" 5 0 0 (QF X ad fin) ad 0 0 124 [(0, .ref 195), (1, .int a), (2, .int (nI i))] [] (WS X ad (SM m (grL s k i))) := by
  intro j
  induction j with
  | zero =>
    intro i hi
    obtain rfl : i = n := by omega
    have h5 := ((grL_ok hW i hn8).2 5 (by decide)).trans hn
    refine J_iload_n dX6_tick_124 rfl rfl ?_
    refine J_aload_n dX6_tick_125 rfl rfl ?_
    refine gX6_s wf_X6_7 dX6_tick_126 ?_
    refine J_iconst (v := 5) dX6_tick_129 (by decide) ?_
    refine rd_s 5 (by decide) (by decide) dX6_tick_130 ?_
    refine J_topi (fun z9 hz9 => ?_)
    obtain rfl : z9 = (nI i) := hz9.trans (by exact h5)
    clear hz9
    refine J_icmp_ge (tgt := 145) dX6_tick_131 (by decide) (fun h131 => ?_) (fun h131 => absurd (nI_le1 (Nat.le_refl _) (by omega)) h131)
    exact kk
  | succ j ih =>
    intro i hi
    have h9 := ih (i + 1) (by omega)
    rw [show grL s k (i + 1) = grF (grL s k i) k i from rfl, nI_succ] at h9
    have hg := grL_ok hW i (by omega)
    have h5 := (hg.2 5 (by decide)).trans hn
    refine J_iload_n dX6_tick_124 rfl rfl ?_
    refine J_aload_n dX6_tick_125 rfl rfl ?_
    refine gX6_s wf_X6_7 dX6_tick_126 ?_
    refine J_iconst (v := 5) dX6_tick_129 (by decide) ?_
    refine rd_s 5 (by decide) (by decide) dX6_tick_130 ?_
    refine J_topi (fun z9 hz9 => ?_)
    obtain rfl : z9 = (nI n) := hz9.trans (by exact h5)
    clear hz9
    refine J_icmp_ge (tgt := 145) dX6_tick_131 (by decide) (fun h131 => absurd h131 (nI_nle1 (by omega) (by omega))) (fun h131 => ?_)
    refine J_aload_n dX6_tick_134 rfl rfl ?_
    refine J_iload_n dX6_tick_135 rfl rfl ?_
    refine cVv wv_X6_85 (c_X6_greets (n := k) (i := i) hg.1 (by omega)) dX6_tick_136 ob6 rfl rfl (kk := ?_)
    refine J_iinc (v := _ + 1) dX6_tick_139 rfl rfl rfl rfl ?_
    refine J_goto (tgt := 124) dX6_tick_142 (by decide) ?_
    exact h9

