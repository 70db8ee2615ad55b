set_option maxRecDepth 100000 in
set_option maxHeartbeats 4000000 in
theorem do_b {X : jX} {ad : Nat → Nat} {m : Mem} {s : Rw} {F : Nat → Int32} {n w : Nat} (hA : Ra s n w) (h10 : F 10 = 98) : Cm X yX6_does cX6_does 1 (some .int) 7 ad [.ref 195] (RM m F s) (fun r9 m9 => r9 = some (.int (coF s n (F 11) (F 12)).1) ∧ m9 = RM m F (coF s n (F 11) (F 12)).2) := by
  refine Cm.of (own := RX6) (nm := "does") (by decide +kernel) rfl rfl rfl rfl ?_
  refine J_aload_n dX6_does_0 rfl rfl ?_
  refine gR_letter wf_X6_176 dX6_does_1 ?_
  refine J_topi (fun z9 hz9 => ?_)
  obtain rfl : z9 = 98 := hz9.trans (by exact h10)
  clear hz9
  refine J_lookup (tgt := 56) dX6_does_4 (by decide) rfl (by decide) ?_
  refine J_aload_n dX6_does_56 rfl rfl ?_
  refine J_aload_n dX6_does_57 rfl rfl ?_
  refine gR_first wf_X6_182 dX6_does_58 ?_
  refine J_aload_n dX6_does_61 rfl rfl ?_
  refine gR_second wf_X6_188 dX6_does_62 ?_
  refine cVg wv_X6_114 (c_X6_comes (n := n) hA.2.1 hA.1) dX6_does_65 ob6 rfl rfl (kk := (fun v m9 hf => ?_))
  obtain ⟨rfl, rfl⟩ := hf
  refine r_int dX6_does_68 ?_
  exact ⟨rfl, rfl⟩

set_option maxRecDepth 100000 in
set_option maxHeartbeats 4000000 in
theorem do_i {X : jX} {ad : Nat → Nat} {m : Mem} {s : Rw} {F : Nat → Int32} {n w : Nat} (hA : Ra s n w) (h10 : F 10 = 105) : Cm X yX6_does cX6_does 1 (some .int) 7 ad [.ref 195] (RM m F s) (fun r9 m9 => r9 = some (.int (plF s n (F 11) (F 12) (F 13)).1) ∧ m9 = RM m F (plF s n (F 11) (F 12) (F 13)).2) := by
  refine Cm.of (own := RX6) (nm := "does") (by decide +kernel) rfl rfl rfl rfl ?_
  refine J_aload_n dX6_does_0 rfl rfl ?_
  refine gR_letter wf_X6_176 dX6_does_1 ?_
  refine J_topi (fun z9 hz9 => ?_)
  obtain rfl : z9 = 105 := hz9.trans (by exact h10)
  clear hz9
  refine J_lookup (tgt := 69) dX6_does_4 (by decide) rfl (by decide) ?_
  refine J_aload_n dX6_does_69 rfl rfl ?_
  refine J_aload_n dX6_does_70 rfl rfl ?_
  refine gR_first wf_X6_182 dX6_does_71 ?_
  refine J_aload_n dX6_does_74 rfl rfl ?_
  refine gR_second wf_X6_188 dX6_does_75 ?_
  refine J_aload_n dX6_does_78 rfl rfl ?_
  refine gR_third wf_X6_191 dX6_does_79 ?_
  refine cVg wv_X6_123 (c_X6_plugs (n := n) hA.2.1 hA.1) dX6_does_82 ob6 rfl rfl (kk := (fun v m9 hf => ?_))
  obtain ⟨rfl, rfl⟩ := hf
  refine r_int dX6_does_85 ?_
  exact ⟨rfl, rfl⟩

set_option maxRecDepth 100000 in
set_option maxHeartbeats 4000000 in
theorem do_o {X : jX} {ad : Nat → Nat} {m : Mem} {s : Rw} {F : Nat → Int32} {n w : Nat} (hA : Ra s n w) (h10 : F 10 = 111) : Cm X yX6_does cX6_does 1 (some .int) 7 ad [.ref 195] (RM m F s) (fun r9 m9 => r9 = some (.int (puF s n (F 11) (F 12)).1) ∧ m9 = RM m F (puF s n (F 11) (F 12)).2) := by
  refine Cm.of (own := RX6) (nm := "does") (by decide +kernel) rfl rfl rfl rfl ?_
  refine J_aload_n dX6_does_0 rfl rfl ?_
  refine gR_letter wf_X6_176 dX6_does_1 ?_
  refine J_topi (fun z9 hz9 => ?_)
  obtain rfl : z9 = 111 := hz9.trans (by exact h10)
  clear hz9
  refine J_lookup (tgt := 86) dX6_does_4 (by decide) rfl (by decide) ?_
  refine J_aload_n dX6_does_86 rfl rfl ?_
  refine J_aload_n dX6_does_87 rfl rfl ?_
  refine gR_first wf_X6_182 dX6_does_88 ?_
  refine J_aload_n dX6_does_91 rfl rfl ?_
  refine gR_second wf_X6_188 dX6_does_92 ?_
  refine cVg wv_X6_127 (c_X6_pulls (n := n) hA.2.1 hA.1) dX6_does_95 ob6 rfl rfl (kk := (fun v m9 hf => ?_))
  obtain ⟨rfl, rfl⟩ := hf
  refine r_int dX6_does_98 ?_
  exact ⟨rfl, rfl⟩

set_option maxRecDepth 100000 in
set_option maxHeartbeats 4000000 in
theorem do_a {X : jX} {ad : Nat → Nat} {m : Mem} {s : Rw} {F : Nat → Int32} {n w : Nat} (hA : Ra s n w) (h10 : F 10 = 97) : Cm X yX6_does cX6_does 1 (some .int) 7 ad [.ref 195] (RM m F s) (fun r9 m9 => r9 = some (.int (asF s n w (F 11)).1) ∧ m9 = RM m F (asF s n w (F 11)).2) := by
  refine Cm.of (own := RX6) (nm := "does") (by decide +kernel) rfl rfl rfl rfl ?_
  refine J_aload_n dX6_does_0 rfl rfl ?_
  refine gR_letter wf_X6_176 dX6_does_1 ?_
  refine J_topi (fun z9 hz9 => ?_)
  obtain rfl : z9 = 97 := hz9.trans (by exact h10)
  clear hz9
  refine J_lookup (tgt := 99) dX6_does_4 (by decide) rfl (by decide) ?_
  refine J_aload_n dX6_does_99 rfl rfl ?_
  refine J_aload_n dX6_does_100 rfl rfl ?_
  refine gR_first wf_X6_182 dX6_does_101 ?_
  refine cVg wv_X6_133 (c_X6_asks (w := w) (n := n) hA.2.1 hA.1 hA.2.2.1.1) dX6_does_104 ob6 rfl rfl (kk := (fun v m9 hf => ?_))
  obtain ⟨rfl, rfl⟩ := hf
  refine r_int dX6_does_107 ?_
  exact ⟨rfl, rfl⟩

set_option maxRecDepth 100000 in
set_option maxHeartbeats 4000000 in
theorem do_w {X : jX} {ad : Nat → Nat} {m : Mem} {s : Rw} {F : Nat → Int32} {n w : Nat} (hA : Ra s n w) (h10 : F 10 = 119) : Cm X yX6_does cX6_does 1 (some .int) 7 ad [.ref 195] (RM m F s) (fun r9 m9 => r9 = some (.int (seF s n w (F 11) (F 12)).1) ∧ m9 = RM m F (seF s n w (F 11) (F 12)).2) := by
  refine Cm.of (own := RX6) (nm := "does") (by decide +kernel) rfl rfl rfl rfl ?_
  refine J_aload_n dX6_does_0 rfl rfl ?_
  refine gR_letter wf_X6_176 dX6_does_1 ?_
  refine J_topi (fun z9 hz9 => ?_)
  obtain rfl : z9 = 119 := hz9.trans (by exact h10)
  clear hz9
  refine J_lookup (tgt := 108) dX6_does_4 (by decide) rfl (by decide) ?_
  refine J_aload_n dX6_does_108 rfl rfl ?_
  refine J_aload_n dX6_does_109 rfl rfl ?_
  refine gR_first wf_X6_182 dX6_does_110 ?_
  refine J_aload_n dX6_does_113 rfl rfl ?_
  refine gR_second wf_X6_188 dX6_does_114 ?_
  refine cVg wv_X6_139 (c_X6_sends (w := w) (n := n) hA.2.1 hA.1 hA.2.2.1.1) dX6_does_117 ob6 rfl rfl (kk := (fun v m9 hf => ?_))
  obtain ⟨rfl, rfl⟩ := hf
  refine r_int dX6_does_120 ?_
  exact ⟨rfl, rfl⟩

set_option maxRecDepth 100000 in
set_option maxHeartbeats 4000000 in
theorem do_t {X : jX} {ad : Nat → Nat} {m : Mem} {s : Rw} {F : Nat → Int32} {n w : Nat} (hA : Ra s n w) (h10 : F 10 = 116) : Cm X yX6_does cX6_does 1 (some .int) 7 ad [.ref 195] (RM m F s) (fun r9 m9 => r9 = some (.int (paF s n w (F 11)).1) ∧ m9 = RM m F (paF s n w (F 11)).2) := by
  refine Cm.of (own := RX6) (nm := "does") (by decide +kernel) rfl rfl rfl rfl ?_
  refine J_aload_n dX6_does_0 rfl rfl ?_
  refine gR_letter wf_X6_176 dX6_does_1 ?_
  refine J_topi (fun z9 hz9 => ?_)
  obtain rfl : z9 = 116 := hz9.trans (by exact h10)
  clear hz9
  refine J_lookup (tgt := 121) dX6_does_4 (by decide) rfl (by decide) ?_
  refine J_aload_n dX6_does_121 rfl rfl ?_
  refine J_aload_n dX6_does_122 rfl rfl ?_
  refine gR_first wf_X6_182 dX6_does_123 ?_
  refine cVg wv_X6_142 (c_X6_passes (w := w) (n := n) hA.2.1 hA.1 hA.2.2.1) dX6_does_126 ob6 rfl rfl (kk := (fun v m9 hf => ?_))
  obtain ⟨rfl, rfl⟩ := hf
  refine r_int dX6_does_129 ?_
  exact ⟨rfl, rfl⟩

/-- an order's values, as functions of its place -/
def oX (P : Nat → Int32) (L i : Nat) : Int32 := if P i = 98 then nV P L (i + 1) else if P i = 116 then nV P L (i + 1) else P (i + 1) - 48
def oY (P : Nat → Int32) (L i : Nat) : Int32 := if P i = 98 then nV P L (dS P L 46 46 (nS P L (i + 1, true))).1 else if P i = 105 then P (i + 3) - 48 else if P i = 111 then nV P L (i + 3) else P (i + 2) - 48
def oZ (P : Nat → Int32) (L i : Nat) : Int32 := nV P L (i + 5)
def isL (c : Int32) : Prop := c = 98 ∨ c = 105 ∨ c = 111 ∨ c = 97 ∨ c = 119 ∨ c = 116
theorem oS_let {P : Nat → Int32} {L i : Nat} (h : (oS P L i).2 = true) : i < L ∧ isL (P i) := by
  unfold oS at h
  unfold isL
  split at h
  · next h0 =>
    refine ⟨h0, ?_⟩
    by_cases h1 : P i = 98
    · exact Or.inl h1
    by_cases h2 : P i = 105
    · exact Or.inr (Or.inl h2)
    by_cases h3 : P i = 111
    · exact Or.inr (Or.inr (Or.inl h3))
    by_cases h4 : P i = 97
    · exact Or.inr (Or.inr (Or.inr (Or.inl h4)))
    by_cases h5 : P i = 119
    · exact Or.inr (Or.inr (Or.inr (Or.inr (Or.inl h5))))
    by_cases h6 : P i = 116
    · exact Or.inr (Or.inr (Or.inr (Or.inr (Or.inr h6))))
    rw [if_neg h1, if_neg h2, if_neg h3, if_neg h4, if_neg h5, if_neg h6] at h
    exact absurd (show false = true from h) (by decide)
  · exact absurd (show false = true from h) (by decide)
theorem dsF_val {P : Nat → Int32} {L i : Nat} {s : Rw} {x y z : Int32} (hl : isL (P i)) (h : oV P L i x y z) : dsF s (P i) x y z = dsF s (P i) (oX P L i) (oY P L i) (oZ P L i) := by
  unfold oV at h
  rcases hl with e | e | e | e | e | e
  · rw [if_pos e] at h
    unfold dsF oX oY
    rw [if_pos e, if_pos e, if_pos e, if_pos e, h.1, h.2]
  · rw [e, if_neg n98.1, if_pos rfl] at h
    unfold dsF oX oY oZ
    rw [e, if_neg n98.1, if_pos rfl, if_neg n98.1, if_pos rfl, if_neg n98.1, if_neg (by decide), if_neg n98.1, if_pos rfl, h.1, h.2.1, h.2.2]
  · rw [e, if_neg n98.2.1, if_neg n105.1, if_pos rfl] at h
    unfold dsF oX oY
    rw [e, if_neg n98.2.1, if_neg n105.1, if_pos rfl, if_neg n98.2.1, if_neg n105.1, if_pos rfl, if_neg n98.2.1, if_neg (by decide), if_neg n98.2.1, if_neg n105.1, if_pos rfl, h.1, h.2]
  · rw [e, if_neg n98.2.2.1, if_neg n105.2.1, if_neg n111.1, if_pos rfl] at h
    unfold dsF oX
    rw [e, if_neg n98.2.2.1, if_neg n105.2.1, if_neg n111.1, if_pos rfl, if_neg n98.2.2.1, if_neg n105.2.1, if_neg n111.1, if_pos rfl, if_neg n98.2.2.1, if_neg (by decide), h]
  · rw [e, if_neg n98.2.2.2.1, if_neg n105.2.2.1, if_neg n111.2.1, if_neg n97.1, if_pos rfl] at h
    unfold dsF oX oY
    rw [e, if_neg n98.2.2.2.1, if_neg n105.2.2.1, if_neg n111.2.1, if_neg n97.1, if_pos rfl, if_neg n98.2.2.2.1, if_neg n105.2.2.1, if_neg n111.2.1, if_neg n97.1, if_pos rfl, if_neg n98.2.2.2.1, if_neg (by decide), if_neg n98.2.2.2.1, if_neg n105.2.2.1, if_neg n111.2.1, h.1, h.2]
  · rw [e, if_neg n98.2.2.2.2, if_neg n105.2.2.2, if_neg n111.2.2, if_neg n97.2.1, if_neg n97.2.2] at h
    unfold dsF oX
    rw [e, if_neg n98.2.2.2.2, if_neg n105.2.2.2, if_neg n111.2.2, if_neg n97.2.1, if_neg n97.2.2, if_neg n98.2.2.2.2, if_neg n105.2.2.2, if_neg n111.2.2, if_neg n97.2.1, if_neg n97.2.2, if_neg n98.2.2.2.2, if_pos rfl, h]
theorem c_X6_does {X : jX} {ad : Nat → Nat} {m : Mem} {s : Rw} {F : Nat → Int32} (hA : RaE s) (hl : isL (F 10)) : Cm X yX6_does cX6_does 1 (some .int) 7 ad [.ref 195] (RM m F s) (fun r9 m9 => r9 = some (.int (dsF s (F 10) (F 11) (F 12) (F 13)).1) ∧ m9 = RM m F (dsF s (F 10) (F 11) (F 12) (F 13)).2) := by
  obtain ⟨n, w, hA⟩ := hA
  obtain ⟨e1, e2⟩ := Ra_n hA
  unfold dsF
  rw [e1, e2]
  rcases hl with e | e | e | e | e | e
  · rw [if_pos e]; exact do_b hA e
  · rw [if_neg (by rw [e]; exact n98.1), if_pos e]; exact do_i hA e
  · rw [if_neg (by rw [e]; exact n98.2.1), if_neg (by rw [e]; exact n105.1), if_pos e]; exact do_o hA e
  · rw [if_neg (by rw [e]; exact n98.2.2.1), if_neg (by rw [e]; exact n105.2.1), if_neg (by rw [e]; exact n111.1), if_pos e]; exact do_a hA e
  · rw [if_neg (by rw [e]; exact n98.2.2.2.1), if_neg (by rw [e]; exact n105.2.2.1), if_neg (by rw [e]; exact n111.2.1), if_neg (by rw [e]; exact n97.1), if_pos e]; exact do_w hA e
  · rw [if_neg (by rw [e]; exact n98.2.2.2.2), if_neg (by rw [e]; exact n105.2.2.2), if_neg (by rw [e]; exact n111.2.2), if_neg (by rw [e]; exact n97.2.1), if_neg (by rw [e]; exact n97.2.2)]; exact do_t hA e
/-- a text carried out from a place on: how many orders, and the row behind them -/
def gD (P : Nat → Int32) (L : Nat) : Nat → Nat → Int32 → Rw → Int32 × Rw
  | 0, _, n, s => (n, s)
  | j + 1, i, n, s => if (oS P L i).2 = true then (if (dsF s (P i) (oX P L i) (oY P L i) (oZ P L i)).1 < 0 then (n + 0, (dsF s (P i) (oX P L i) (oY P L i) (oZ P L i)).2) else if (oS P L i).1 < L then (if (dS P L 59 59 (oS P L i)).2 = true then gD P L j (dS P L 59 59 (oS P L i)).1 (n + 1) (dsF s (P i) (oX P L i) (oY P L i) (oZ P L i)).2 else (n + 1, (dsF s (P i) (oX P L i) (oY P L i) (oZ P L i)).2)) else (n + 1, (dsF s (P i) (oX P L i) (oY P L i) (oZ P L i)).2)) else (n + 0, s)
def GdFin (m : Mem) (F : Nat → Int32) (r : Int32 × Rw) (v : Option Value) (m9 : Mem) : Prop := v = some (.int r.1) ∧ ∃ G, m9 = RM m G r.2 ∧ (∀ k, k < 8 → G k = F k)
theorem gD_ok {P : Nat → Int32} {L : Nat} : ∀ (j i : Nat) (n : Int32) (s : Rw), RaE s → RaE (gD P L j i n s).2 := by
  intro j
  induction j with
  | zero => intro i n s h; exact h
  | succ j ih =>
    intro i n s h
    unfold gD
    have hd := RaE_ds (c := P i) (x := oX P L i) (y := oY P L i) (z := oZ P L i) h
    (repeat' split) <;> first | exact hd | exact ih _ _ _ hd | exact h
set_option maxRecDepth 100000 in
set_option maxHeartbeats 4000000 in
theorem gdEnd {X : jX} {ad : Nat → Nat} {m : Mem} {s : Rw} {F G : Nat → Int32} {r : Int32 × Rw} {n : Int32} (hr : r = (n, s)) (kfr : ∀ k, k < 8 → G k = F k) : Jg X RX6 cX6_goesThrough 5 (some .int) "goesThrough" 8 0 0 (QF X ad (GdFin m F r)) ad 0 0 14 [(0, .ref 195), (1, .int 1), (2, .int n), (3, .int 0)] [] (WS X ad (RM m G s)) := by
  subst hr
  refine J_iload_n dX6_goesThrough_14 rfl rfl ?_
  refine J_if_eq (tgt := 109) dX6_goesThrough_15 (by decide) (fun h15 => ?_) (fun h15 => absurd rfl h15)
  refine J_iload_n dX6_goesThrough_109 rfl rfl ?_
  refine r_int dX6_goesThrough_110 ?_
  exact ⟨rfl, _, rfl, kfr⟩

section GD
variable {m : Mem} {s : Rw} {L i j : Nat} {r : Int32 × Rw} {n : Int32}
theorem gdA (hr : r = gD (m 200) L (j + 1) i n s) (h26 : ¬ (if (oS (m 200) L i).2 = true then (0 : Int32) else 1) = 0) : r = (n + 0, s) := by
  rw [hr]; show (if _ then _ else _) = _; rw [if_neg (bf h26)]
theorem gdB (hr : r = gD (m 200) L (j + 1) i n s) (h26 : (if (oS (m 200) L i).2 = true then (0 : Int32) else 1) = 0) (h37 : (dsF s (m 200 i) (oX (m 200) L i) (oY (m 200) L i) (oZ (m 200) L i)).1 < 0) : r = (n + 0, (dsF s (m 200 i) (oX (m 200) L i) (oY (m 200) L i) (oZ (m 200) L i)).2) := by
  rw [hr]; show (if _ then _ else _) = _; rw [if_pos (bt h26), if_pos h37]
theorem gdC (h80 : L ≤ 80) (hr : r = gD (m 200) L (j + 1) i n s) (h26 : (if (oS (m 200) L i).2 = true then (0 : Int32) else 1) = 0) (h37 : ¬ (dsF s (m 200 i) (oX (m 200) L i) (oY (m 200) L i) (oZ (m 200) L i)).1 < 0) (h70 : nI L ≤ nI (oS (m 200) L i).1) : r = (n + 1, (dsF s (m 200 i) (oX (m 200) L i) (oY (m 200) L i) (oZ (m 200) L i)).2) := by
  rw [hr]; show (if _ then _ else _) = _; rw [if_pos (bt h26), if_neg h37, if_neg]
  intro h
  exact nI_nle1 h (by omega) h70
theorem gdD (hr : r = gD (m 200) L (j + 1) i n s) (h26 : (if (oS (m 200) L i).2 = true then (0 : Int32) else 1) = 0) (h37 : ¬ (dsF s (m 200 i) (oX (m 200) L i) (oY (m 200) L i) (oZ (m 200) L i)).1 < 0) (h70 : (oS (m 200) L i).1 < L) (h97 : ¬ (if (dS (m 200) L 59 59 (oS (m 200) L i)).2 = true then (0 : Int32) else 1) = 0) : r = (n + 1, (dsF s (m 200 i) (oX (m 200) L i) (oY (m 200) L i) (oZ (m 200) L i)).2) := by
  rw [hr]; show (if _ then _ else _) = _; rw [if_pos (bt h26), if_neg h37, if_pos h70, if_neg (bf h97)]
theorem gdE (hr : r = gD (m 200) L (j + 1) i n s) (h26 : (if (oS (m 200) L i).2 = true then (0 : Int32) else 1) = 0) (h37 : ¬ (dsF s (m 200 i) (oX (m 200) L i) (oY (m 200) L i) (oZ (m 200) L i)).1 < 0) (h70 : (oS (m 200) L i).1 < L) (h97 : (if (dS (m 200) L 59 59 (oS (m 200) L i)).2 = true then (0 : Int32) else 1) = 0) : r = gD (m 200) L j (dS (m 200) L 59 59 (oS (m 200) L i)).1 (n + 1) (dsF s (m 200 i) (oX (m 200) L i) (oY (m 200) L i) (oZ (m 200) L i)).2 := by
  rw [hr]; show (if _ then _ else _) = _; rw [if_pos (bt h26), if_neg h37, if_pos h70, if_pos (bt h97)]
end GD
set_option maxRecDepth 100000 in
set_option maxHeartbeats 4000000 in
theorem gdLoop {X : jX} {ad : Nat → Nat} {m : Mem} {F : Nat → Int32} {L : Nat} {r : Int32 × Rw} : ∀ (j i : Nat) (n : Int32) (G : Nat → Int32) (s : Rw), i ≤ L → L < i + 2 * j → RaE s → r = gD (m 200) L j i n s → RF G L (i, true) → (∀ k, k < 8 → G k = F k) → Jg X RX6 cX6_goesThrough 5 (some .int) "goesThrough" 8 0 0 (QF X ad (GdFin m F r)) ad 0 0 14 [(0, .ref 195), (1, .int 1), (2, .int n), (3, .int 1)] [] (WS X ad (RM m G s)) := by
  intro j
  induction j with
  | zero => intro i n G s h1 h2; exact absurd h2 (by omega)
  | succ j ih =>
    intro i n G s hi hj hA hr hR kfr
    refine J_iload_n dX6_goesThrough_14 rfl rfl ?_
    refine J_if_eq (tgt := 109) dX6_goesThrough_15 (by decide) (fun h15 => absurd h15 (by decide)) (fun h15 => ?_)
    refine J_aload_n dX6_goesThrough_18 rfl rfl ?_
    refine cVg wv_X6_194 (c_X6_readOrder hR) dX6_goesThrough_19 ob6 rfl rfl (kk := (fun v m9 hf => ?_))
    obtain ⟨rfl, G, rfl, hR, hfr, hV⟩ := hf
    have kfr := fun k (hk : k < 8) => (hfr k hk).trans (kfr k hk)
    refine J_aload_n dX6_goesThrough_22 rfl rfl ?_
    refine gR_isFaulty wf_X6_163 dX6_goesThrough_23 ?_
    refine J_topi (fun z9 hz9 => ?_)
    obtain rfl : z9 = (if (oS (m 200) L i).2 = true then 0 else 1) := hz9.trans (by exact hR.2.2.1)
    clear hz9
    refine J_if_ne (tgt := 44) dX6_goesThrough_26 (by decide) (fun h26 => ?_) (fun h26 => ?_)
    · refine J_iconst (v := 0) dX6_goesThrough_44 (by decide) ?_
      refine J_istore_n dX6_goesThrough_45 rfl rfl rfl ?_
      refine J_iload_n dX6_goesThrough_46 rfl rfl ?_
      refine J_iload_n dX6_goesThrough_47 rfl rfl ?_
      refine J_if_eq (tgt := 55) dX6_goesThrough_48 (by decide) (fun h48 => ?_) (fun h48 => absurd (by decide) h48)
      refine J_iconst (v := 0) dX6_goesThrough_55 (by decide) ?_
      refine J_iadd dX6_goesThrough_56 ?_
      refine J_istore_n dX6_goesThrough_57 rfl rfl rfl ?_
      refine J_iload_n dX6_goesThrough_58 rfl rfl ?_
      refine J_if_eq (tgt := 77) dX6_goesThrough_59 (by decide) (fun h59 => ?_) (fun h59 => absurd (by decide) h59)
      refine J_iconst (v := 0) dX6_goesThrough_77 (by decide) ?_
      refine J_istore_n dX6_goesThrough_78 rfl rfl rfl ?_
      refine J_iload_n dX6_goesThrough_79 rfl rfl ?_
      refine J_if_eq (tgt := 14) dX6_goesThrough_80 (by decide) (fun h80 => ?_) (fun h80 => absurd (by decide) h80)
      refine J_lv [0, 1, 2, 3] rfl ?_
      first | exact gdEnd (gdA hr h26) kfr | exact gdEnd (gdB hr h26 h37) kfr | exact gdEnd (gdC hR.2.2.2.2 hr h26 h37 h70) kfr | exact gdEnd (gdD hr h26 h37 hlt h97) kfr | skip
      first | done | (obtain ⟨-, c2, c3⟩ := gS_step (P := m 200) hi hj (bt h26) hlt (bt h97); refine ih _ _ G _ c2 c3 (RaE_ds hA) (gdE hr h26 h37 hlt h97) ?_ kfr; rw [show ((dS (m 200) L 59 59 (oS (m 200) L i)).1, true) = dS (m 200) L 59 59 (oS (m 200) L i) from Prod.ext rfl (bt h97).symm]; exact hR)
    · refine J_iload_n dX6_goesThrough_29 rfl rfl ?_
      refine J_if_eq (tgt := 40) dX6_goesThrough_30 (by decide) (fun h30 => absurd h30 (by decide)) (fun h30 => ?_)
      obtain ⟨-, hV10, hVo⟩ := hV (bt h26)
      refine J_aload_n dX6_goesThrough_33 rfl rfl ?_
      refine cVg wv_X6_197 (c_X6_does hA (by rw [hV10]; exact (oS_let (bt h26)).2)) dX6_goesThrough_34 ob6 rfl rfl (kk := (fun v m9 hf => ?_))
      obtain ⟨rfl, rfl⟩ := hf
      rw [hV10, dsF_val (oS_let (bt h26)).2 hVo]
      refine J_if_lt (tgt := 44) dX6_goesThrough_37 (by decide) (fun h37 => ?_) (fun h37 => ?_)
      · refine J_iconst (v := 0) dX6_goesThrough_44 (by decide) ?_
        refine J_istore_n dX6_goesThrough_45 rfl rfl rfl ?_
        refine J_iload_n dX6_goesThrough_46 rfl rfl ?_
        refine J_iload_n dX6_goesThrough_47 rfl rfl ?_
        refine J_if_eq (tgt := 55) dX6_goesThrough_48 (by decide) (fun h48 => ?_) (fun h48 => absurd (by decide) h48)
        refine J_iconst (v := 0) dX6_goesThrough_55 (by decide) ?_
        refine J_iadd dX6_goesThrough_56 ?_
        refine J_istore_n dX6_goesThrough_57 rfl rfl rfl ?_
        refine J_iload_n dX6_goesThrough_58 rfl rfl ?_
        refine J_if_eq (tgt := 77) dX6_goesThrough_59 (by decide) (fun h59 => ?_) (fun h59 => absurd (by decide) h59)
        refine J_iconst (v := 0) dX6_goesThrough_77 (by decide) ?_
        refine J_istore_n dX6_goesThrough_78 rfl rfl rfl ?_
        refine J_iload_n dX6_goesThrough_79 rfl rfl ?_
        refine J_if_eq (tgt := 14) dX6_goesThrough_80 (by decide) (fun h80 => ?_) (fun h80 => absurd (by decide) h80)
        refine J_lv [0, 1, 2, 3] rfl ?_
        first | exact gdEnd (gdA hr h26) kfr | exact gdEnd (gdB hr h26 h37) kfr | exact gdEnd (gdC hR.2.2.2.2 hr h26 h37 h70) kfr | exact gdEnd (gdD hr h26 h37 hlt h97) kfr | skip
        first | done | (obtain ⟨-, c2, c3⟩ := gS_step (P := m 200) hi hj (bt h26) hlt (bt h97); refine ih _ _ G _ c2 c3 (RaE_ds hA) (gdE hr h26 h37 hlt h97) ?_ kfr; rw [show ((dS (m 200) L 59 59 (oS (m 200) L i)).1, true) = dS (m 200) L 59 59 (oS (m 200) L i) from Prod.ext rfl (bt h97).symm]; exact hR)
      · refine J_iconst (v := 1) dX6_goesThrough_40 (by decide) ?_
        refine J_goto (tgt := 45) dX6_goesThrough_41 (by decide) ?_
        refine J_istore_n dX6_goesThrough_45 rfl rfl rfl ?_
        refine J_iload_n dX6_goesThrough_46 rfl rfl ?_
        refine J_iload_n dX6_goesThrough_47 rfl rfl ?_
        refine J_if_eq (tgt := 55) dX6_goesThrough_48 (by decide) (fun h48 => absurd h48 (by decide)) (fun h48 => ?_)
        refine J_iconst (v := 1) dX6_goesThrough_51 (by decide) ?_
        refine J_goto (tgt := 56) dX6_goesThrough_52 (by decide) ?_
        refine J_iadd dX6_goesThrough_56 ?_
        refine J_istore_n dX6_goesThrough_57 rfl rfl rfl ?_
        refine J_iload_n dX6_goesThrough_58 rfl rfl ?_
        refine J_if_eq (tgt := 77) dX6_goesThrough_59 (by decide) (fun h59 => absurd h59 (by decide)) (fun h59 => ?_)
        refine J_aload_n dX6_goesThrough_62 rfl rfl ?_
        refine gR_spot wf_X6_167 dX6_goesThrough_63 ?_
        refine J_topi (fun z9 hz9 => ?_)
        obtain rfl : z9 = (nI (oS (m 200) L i).1) := hz9.trans (by exact hR.2.1)
        clear hz9
        refine J_aload_n dX6_goesThrough_66 rfl rfl ?_
        refine gR_length wf_X6_152 dX6_goesThrough_67 ?_
        refine J_topi (fun z9 hz9 => ?_)
        obtain rfl : z9 = (nI L) := hz9.trans (by exact hR.1)
        clear hz9
        refine J_icmp_ge (tgt := 77) dX6_goesThrough_70 (by decide) (fun h70 => ?_) (fun h70 => ?_)
        · refine J_iconst (v := 0) dX6_goesThrough_77 (by decide) ?_
          refine J_istore_n dX6_goesThrough_78 rfl rfl rfl ?_
          refine J_iload_n dX6_goesThrough_79 rfl rfl ?_
          refine J_if_eq (tgt := 14) dX6_goesThrough_80 (by decide) (fun h80 => ?_) (fun h80 => absurd (by decide) h80)
          refine J_lv [0, 1, 2, 3] rfl ?_
          first | exact gdEnd (gdA hr h26) kfr | exact gdEnd (gdB hr h26 h37) kfr | exact gdEnd (gdC hR.2.2.2.2 hr h26 h37 h70) kfr | exact gdEnd (gdD hr h26 h37 hlt h97) kfr | skip
          first | done | (obtain ⟨-, c2, c3⟩ := gS_step (P := m 200) hi hj (bt h26) hlt (bt h97); refine ih _ _ G _ c2 c3 (RaE_ds hA) (gdE hr h26 h37 hlt h97) ?_ kfr; rw [show ((dS (m 200) L 59 59 (oS (m 200) L i)).1, true) = dS (m 200) L 59 59 (oS (m 200) L i) from Prod.ext rfl (bt h97).symm]; exact hR)
        · refine J_iconst (v := 1) dX6_goesThrough_73 (by decide) ?_
          refine J_goto (tgt := 78) dX6_goesThrough_74 (by decide) ?_
          refine J_istore_n dX6_goesThrough_78 rfl rfl rfl ?_
          refine J_iload_n dX6_goesThrough_79 rfl rfl ?_
          refine J_if_eq (tgt := 14) dX6_goesThrough_80 (by decide) (fun h80 => absurd h80 (by decide)) (fun h80 => ?_)
          have hlt : (oS (m 200) L i).1 < L := nlt_of h70 (by have h1 := hR.2.2.2.1; have h2 := hR.2.2.2.2; exact Nat.le_trans h1 h2)
          refine J_aload_n dX6_goesThrough_83 rfl rfl ?_
          refine J_bipush (v := 59) dX6_goesThrough_84 (by decide) ?_
          refine J_bipush (v := 59) dX6_goesThrough_86 (by decide) ?_
          refine cVg wv_X6_173 (c_X6_takes (lo := 59) (hi := 59) hR) dX6_goesThrough_88 ob6 rfl rfl (kk := (fun v m9 hf => ?_))
          obtain ⟨G, rfl, rfl, hR, hfr⟩ := hf
          have kfr := fun k (hk : k < 8) => (hfr k (by omega) (by omega)).trans (kfr k hk)
          refine J_istore dX6_goesThrough_91 rfl rfl ?_
          refine J_aload_n dX6_goesThrough_93 rfl rfl ?_
          refine gR_isFaulty wf_X6_163 dX6_goesThrough_94 ?_
          refine J_topi (fun z9 hz9 => ?_)
          obtain rfl : z9 = (if (dS (m 200) L 59 59 (oS (m 200) L i)).2 = true then 0 else 1) := hz9.trans (by exact hR.2.2.1)
          clear hz9
          refine J_if_ne (tgt := 104) dX6_goesThrough_97 (by decide) (fun h97 => ?_) (fun h97 => ?_)
          · refine J_iconst (v := 0) dX6_goesThrough_104 (by decide) ?_
            refine J_istore_n dX6_goesThrough_105 rfl rfl rfl ?_
            refine J_goto (tgt := 14) dX6_goesThrough_106 (by decide) ?_
            refine J_lv [0, 1, 2, 3] rfl ?_
            first | exact gdEnd (gdA hr h26) kfr | exact gdEnd (gdB hr h26 h37) kfr | exact gdEnd (gdC hR.2.2.2.2 hr h26 h37 h70) kfr | exact gdEnd (gdD hr h26 h37 hlt h97) kfr | skip
            first | done | (obtain ⟨-, c2, c3⟩ := gS_step (P := m 200) hi hj (bt h26) hlt (bt h97); refine ih _ _ G _ c2 c3 (RaE_ds hA) (gdE hr h26 h37 hlt h97) ?_ kfr; rw [show ((dS (m 200) L 59 59 (oS (m 200) L i)).1, true) = dS (m 200) L 59 59 (oS (m 200) L i) from Prod.ext rfl (bt h97).symm]; exact hR)
          · refine J_iconst (v := 1) dX6_goesThrough_100 (by decide) ?_
            refine J_goto (tgt := 105) dX6_goesThrough_101 (by decide) ?_
            refine J_istore_n dX6_goesThrough_105 rfl rfl rfl ?_
            refine J_goto (tgt := 14) dX6_goesThrough_106 (by decide) ?_
            refine J_lv [0, 1, 2, 3] rfl ?_
            first | exact gdEnd (gdA hr h26) kfr | exact gdEnd (gdB hr h26 h37) kfr | exact gdEnd (gdC hR.2.2.2.2 hr h26 h37 h70) kfr | exact gdEnd (gdD hr h26 h37 hlt h97) kfr | skip
            first | done | (obtain ⟨-, c2, c3⟩ := gS_step (P := m 200) hi hj (bt h26) hlt (bt h97); refine ih _ _ G _ c2 c3 (RaE_ds hA) (gdE hr h26 h37 hlt h97) ?_ kfr; rw [show ((dS (m 200) L 59 59 (oS (m 200) L i)).1, true) = dS (m 200) L 59 59 (oS (m 200) L i) from Prod.ext rfl (bt h97).symm]; exact hR)

set_option maxRecDepth 100000 in
set_option maxHeartbeats 4000000 in
theorem c_goes1 {X : jX} {ad : Nat → Nat} {m : Mem} {s : Rw} {F : Nat → Int32} {L : Nat} (h7 : F 7 = nI L) (hL : L ≤ 80) (hA : RaE s) : Cm X yX6_goesThrough cX6_goesThrough 5 (some .int) 8 ad [.ref 195, .int 1] (RM m F s) (GdFin m F (gD (m 200) L 80 0 0 s)) := by
  refine Cm.of (own := RX6) (nm := "goesThrough") (by decide +kernel) rfl rfl rfl rfl ?_
  refine J_aload_n dX6_goesThrough_0 rfl rfl ?_
  refine J_iconst (v := 0) dX6_goesThrough_1 (by decide) ?_
  refine pR_spot wf_X6_167 dX6_goesThrough_2 ?_
  refine J_aload_n dX6_goesThrough_5 rfl rfl ?_
  refine J_iconst (v := 0) dX6_goesThrough_6 (by decide) ?_
  refine pR_isFaulty wf_X6_163 dX6_goesThrough_7 (by first | exact Or.inl rfl | exact Or.inr rfl | exact i01 | exact jin01) ?_
  refine J_iconst (v := 0) dX6_goesThrough_10 (by decide) ?_
  refine J_istore_n dX6_goesThrough_11 rfl rfl rfl ?_
  refine J_iconst (v := 1) dX6_goesThrough_12 (by decide) ?_
  refine J_istore_n dX6_goesThrough_13 rfl rfl rfl ?_
  exact gdLoop 80 0 _ _ s (Nat.zero_le _) (by omega) hA rfl (RF0 h7 hL) (fun k hk => by rw [upd_at, if_neg (by omega), upd_at, if_neg (by omega)])

theorem asd_RM {m : Mem} {s : Rw} {F : Nat → Int32} : asd (upC m 195 F) s = upC (asd m s) 195 F := by
  funext c
  unfold asd upC
  by_cases h1 : c = 195
  · subst h1; simp
  · by_cases h2 : c = 197
    · subst h2; simp
    · simp [h1, h2]
/-- what carrying out leaves -/
def CoFin (m : Mem) (s : Rw) (q L : Nat) (v : Option Value) (m9 : Mem) : Prop := if ftA (m 200) L = -6 then (v = some (.int (gD (m 200) L 80 0 0 s).1) ∧ ∃ m2, m9 = SM m2 (gD (m 200) L 80 0 0 s).2 ∧ m2 195 3 = nI (kn1 q) ∧ m2 195 7 = 0 ∧ m2 195 5 = m 195 5 ∧ m2 198 = hsF q (asd m s 197) (m 198) ∧ ∀ c, c ≠ 195 → c ≠ 197 → c ≠ 198 → m2 c = m c) else (v = some (.int (-3)) ∧ ∃ G, m9 = RM m G s ∧ ∀ k, k < 8 → G k = m 195 k)
set_option maxRecDepth 100000 in
set_option maxHeartbeats 4000000 in
theorem c_X6_carryOut {X : jX} {ad : Nat → Nat} {m : Mem} {s : Rw} {q L : Nat} (h7 : m 195 7 = nI L) (hL : L ≤ 80) (hA : RaE s) (hq : m 195 3 = nI q) (hq7 : q < 7) : Cm X yX6_carryOut cX6_carryOut 2 (some .int) 10 ad [.ref 195] (SM m s) (CoFin m s q L) := by
  refine Cm.of (own := RX6) (nm := "carryOut") (by decide +kernel) rfl rfl rfl rfl ?_
  refine J_ws (ws' := WS X ad (RM m (m 195) s)) (by rw [RM_self]) ?_
  refine J_aload_n dX6_carryOut_0 rfl rfl ?_
  refine cVg wv_X6_203 (c_X6_fault h7 hL) dX6_carryOut_1 ob6 rfl rfl (kk := (fun v m9 hf => ?_))
  obtain ⟨rfl, G, rfl, kfr⟩ := hf
  refine J_bipush (v := -6) dX6_carryOut_4 (by decide) ?_
  refine J_icmp_eq (tgt := 12) dX6_carryOut_6 (by decide) (fun h6 => ?_) (fun h6 => ?_)
  · refine J_aload_n dX6_carryOut_12 rfl rfl ?_
    refine cVv wv_X6_102 c_X6_putAside dX6_carryOut_13 ob6 rfl rfl (kk := ?_)
    refine J_ws (ws' := WS X ad (RM (asd m s) G s)) (by unfold RM; rw [asd_RM]) ?_
    refine J_aload_n dX6_carryOut_16 rfl rfl ?_
    refine J_iconst (v := 1) dX6_carryOut_17 (by decide) ?_
    refine cVg wv_X6_200 (c_goes1 (L := L) ((kfr 7 (by decide)).trans h7) hL hA) dX6_carryOut_18 ob6 rfl rfl (kk := (fun v m9 hf => ?_))
    obtain ⟨rfl, G2, rfl, kfr2⟩ := hf
    rw [asd_ne (show 200 ≠ 197 by decide)]
    refine J_istore_n dX6_carryOut_21 rfl rfl rfl ?_
    refine J_aload_n dX6_carryOut_22 rfl rfl ?_
    refine cVg wv_X6_55 (c_X6_record (q := q) (by show upC (asd m s) 195 G2 195 3 = _; rw [upC_at, kfr2 3 (by decide), kfr 3 (by decide)]; exact hq) hq7) dX6_carryOut_23 ob6 rfl rfl (kk := (fun v m9 hf => ?_))
    obtain ⟨rfl, m2, rfl, hr1, hr2, hr3, hr4⟩ := hf
    refine J_aload_n dX6_carryOut_26 rfl rfl ?_
    refine J_iconst (v := 0) dX6_carryOut_27 (by decide) ?_
    refine pX6_length wf_X6_152 dX6_carryOut_28 ?_
    refine J_iload_n dX6_carryOut_31 rfl rfl ?_
    refine r_int dX6_carryOut_32 ?_
    show CoFin m s q L _ _
    unfold CoFin
    rw [if_pos h6]
    refine ⟨rfl, up m2 195 7 0, SM_up2 (by decide), ?_, ?_, ?_, ?_, fun c c1 c2 c3 => ?_⟩
    · rw [up_apply, if_neg (by omega)]; exact hr1
    · rw [up_apply, if_pos ⟨rfl, rfl⟩]
    · rw [up_apply, if_neg (by omega), hr4 5 (by decide), upC_at, kfr2 5 (by decide), kfr 5 (by decide)]
    · rw [up_ne (by decide), hr2, upC_ne (by decide), upC_ne (show 198 ≠ 195 by decide), asd_ne (show 198 ≠ 197 by decide)]
    · rw [up_ne c1, hr3 c c1 c3, upC_ne c1, asd_ne c2]
  · refine J_bipush (v := -3) dX6_carryOut_9 (by decide) ?_
    refine r_int dX6_carryOut_11 ?_
    show CoFin m s q L _ _
    unfold CoFin
    rw [if_neg h6]
    exact ⟨rfl, G, rfl, kfr⟩

