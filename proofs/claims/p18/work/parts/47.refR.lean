def cd (c : Int64) (k : Nat) : Int32 := ((c >>> ((8 * nI k : Int32).toInt64 &&& 63)) &&& 255).toInt32
def mP : Nat → Nat → Int64 → Nat → Int32 → Int32 → Int32
  | 0, _, _, a, _, w => if w = 0 then nI a else -2
  | n + 1, k, c, a, o, w => if o = 0 then (if cd c k = 0 then mP n (k + 1) c a 1 (if w = 0 then 0 else 1) else mP n (k + 1) c (a + 1) 0 (if w = 0 then (if jin (cd c k) 33 126 = 0 then 1 else 0) else 1))
      else mP n (k + 1) c a 1 (if w = 0 then (if cd c k = 0 then 0 else 1) else 1)
def ptM (c : Int64) : Int32 := mP 8 0 c 0 0 (if lg_cmp (c &&& 255) 0 = 0 then 1 else 0)
/-- the pad with the first t of a signs written behind the place L -/
def wrP (P : Nat → Int32) (L : Nat) (c : Int64) (a : Nat) : Nat → Nat → Int32
  | 0 => P
  | t + 1 => upd (wrP P L c a t) (L + t) (cd c (a - 1 - t))
def pdm (m : Mem) (L : Nat) (c : Int64) (a t : Nat) : Mem := up (upC m 200 (wrP (m 200) L c a t)) 195 7 (nI (L + t))
theorem up_same {m : Mem} {c k : Nat} {v : Int32} (h : m c k = v) : up m c k v = m := by
  funext c' k'
  rw [up_apply]
  split
  · next h2 => rw [h2.1, h2.2, h]
  · rfl
theorem up_up {m : Mem} {c k : Nat} {v x : Int32} : up (up m c k v) c k x = up m c k x := by
  funext c' k'
  rw [up_apply, up_apply, up_apply]
  split <;> rfl
theorem up_comm {m : Mem} {c k c' k' : Nat} {v x : Int32} (h : c ≠ c') : up (up m c k v) c' k' x = up (up m c' k' x) c k v := by
  funext d e
  rw [up_apply, up_apply, up_apply, up_apply]
  by_cases h1 : d = c' ∧ e = k'
  · rw [if_pos h1, if_neg (fun q => h (q.1.symm.trans h1.1)), if_pos h1]
  · rw [if_neg h1, if_neg h1]
theorem pdm_0 {m : Mem} {L a : Nat} {c : Int64} (h : m 195 7 = nI L) : pdm m L c a 0 = m := by
  unfold pdm
  show up (upC m 200 (m 200)) 195 7 (nI (L + 0)) = m
  rw [upC_self]
  exact up_same h
theorem pdm_7 {m : Mem} {L a t : Nat} {c : Int64} : pdm m L c a t 195 7 = nI (L + t) := by unfold pdm; rw [up_apply, if_pos ⟨rfl, rfl⟩]
theorem pdm_succ {m : Mem} {L a t : Nat} {c : Int64} {v : Int32} (hv : v = cd c (a - 1 - t)) : up (up (pdm m L c a t) 200 (L + t) v) 195 7 (nI (L + t) + 1) = pdm m L c a (t + 1) := by
  unfold pdm
  rw [up_comm (show 200 ≠ 195 by decide), up_comm (show 195 ≠ 200 by decide), up_comm (show 200 ≠ 195 by decide), up_up, ← up_comm (show 200 ≠ 195 by decide), upC_up, hv, show L + (t + 1) = (L + t) + 1 from rfl, nI_succ]
  rfl
theorem le80 : ∀ x, x < 100 → (nI x ≤ 80 ↔ x ≤ 80) := by decide
theorem nI_m2 : ∀ a, a < 9 → ¬ nI a = -2 := by decide
def PtFin (m : Mem) (s : Rw) (L : Nat) (c : Int64) (v : Option Value) (m9 : Mem) : Prop := (ptM c = -2 ∧ v = some (.int (-2)) ∧ m9 = SM m s) ∨ ∃ a, a ≤ 8 ∧ ptM c = nI a ∧ ((L + a ≤ 80 ∧ v = some (.int (nI (L + a))) ∧ m9 = SM (pdm m L c a a) s) ∨ (¬ L + a ≤ 80 ∧ v = some (.int (-4)) ∧ m9 = SM m s))
set_option maxRecDepth 100000 in
set_option maxHeartbeats 4000000 in
theorem apM {X : jX} {ad : Nat → Nat} {m : Mem} {s : Rw} {c : Int64} {ov wr : Int32} {a L : Nat} (ha : L + a ≤ 80) : ∀ (j : Nat), j ≤ a → Jg X RX6 cX6_put 8 (some .int) "put" 1 0 0 (QF X ad (fun v m9 => v = some (.int (nI (L + a))) ∧ m9 = SM (pdm m L c a a) s)) ad 0 0 146 [(0, .ref 195), (1, .long c), (3, .int (nI a)), (4, .int ov), (5, .int wr), (6, .int (nI j - 1))] [] (WS X ad (SM (pdm m L c a (a - j)) s)) := by
  intro j
  induction j with
  | zero =>
    intro hj
    refine J_iload dX6_put_146 rfl ?_
    refine J_if_lt (tgt := 188) dX6_put_148 (by decide) (fun h148 => ?_) (fun h148 => absurd (show nI 0 - 1 < 0 by decide) h148)
    refine J_aload_n dX6_put_188 rfl rfl ?_
    refine gX6_length wf_X6_152 dX6_put_189 ?_
    refine J_topi (fun z9 hz9 => ?_)
    obtain rfl : z9 = (nI (L + a)) := hz9.trans (by rw [SM_ne (by decide)]; exact pdm_7)
    clear hz9
    refine r_int dX6_put_192 ?_
    exact ⟨rfl, rfl⟩
  | succ j ih =>
    intro hj
    rw [nI_pred]
    refine J_iload dX6_put_146 rfl ?_
    refine J_if_lt (tgt := 188) dX6_put_148 (by decide) (fun h148 => absurd h148 (nI_lt0 (by omega))) (fun h148 => ?_)
    refine J_aload_n dX6_put_151 rfl rfl ?_
    refine gX6_pad wf_X6_22 dX6_put_152 ?_
    refine J_aload_n dX6_put_155 rfl rfl ?_
    refine gX6_length wf_X6_152 dX6_put_156 ?_
    refine J_topi (fun z9 hz9 => ?_)
    obtain rfl : z9 = (nI (L + (a - (j + 1)))) := hz9.trans (by rw [SM_ne (by decide)]; exact pdm_7)
    clear hz9
    refine J_lload_n dX6_put_159 rfl rfl ?_
    refine J_bipush (v := 8) dX6_put_160 (by decide) ?_
    refine J_iload dX6_put_162 rfl ?_
    refine J_imul dX6_put_164 ?_
    refine J_lshr dX6_put_165 rfl ?_
    refine J_ldc2 wl_X6_161 dX6_put_166 ?_
    refine J_land dX6_put_169 ?_
    refine J_l2i dX6_put_170 rfl ?_
    refine wr_mpad (L + (a - (j + 1))) (by omega) rfl dX6_put_171 ?_
    refine J_aload_n dX6_put_172 rfl rfl ?_
    refine J_dup dX6_put_173 rfl ?_
    refine gX6_length wf_X6_152 dX6_put_174 ?_
    refine J_topi (fun z9 hz9 => ?_)
    obtain rfl : z9 = (nI (L + (a - (j + 1)))) := hz9.trans (by rw [SM_ne (by decide), up_ne (by decide)]; exact pdm_7)
    clear hz9
    refine J_iconst (v := 1) dX6_put_177 (by decide) ?_
    refine J_iadd dX6_put_178 ?_
    refine pX6_length wf_X6_152 dX6_put_179 ?_
    refine J_iinc (v := _ + (-1)) dX6_put_182 rfl rfl rfl rfl ?_
    rw [← Int32.sub_eq_add_neg]
    refine J_goto (tgt := 146) dX6_put_185 (by decide) ?_
    refine J_ws (ws' := WS X ad (SM (pdm m L c a (a - j)) s)) ?_ (ih (by omega))
    rw [SM_up2 (by decide), show a - j = a - (j + 1) + 1 by omega, ← pdm_succ (v := cd c j) (by rw [show a - 1 - (a - (j + 1)) = j by omega])]
    rfl

set_option maxRecDepth 100000 in
set_option maxHeartbeats 4000000 in
theorem mLoop {X : jX} {ad : Nat → Nat} {m : Mem} {s : Rw} {c : Int64} {L : Nat} (hL : m 195 7 = nI L) (hL80 : L ≤ 80) : ∀ (n k a : Nat) (ov wr : Int32), k + n = 8 → a ≤ k → ptM c = mP n k c a ov wr → Jg X RX6 cX6_put 8 (some .int) "put" 1 0 0 (QF X ad (PtFin m s L c)) ad 0 0 25 [(0, .ref 195), (1, .long c), (3, .int (nI a)), (4, .int ov), (5, .int wr), (6, .int (nI k))] [] (WS X ad (SM m s)) := by
  intro n
  induction n with
  | zero =>
    intro k a ov wr hk ha hR
    obtain rfl : k = 8 := by omega
    refine J_iload dX6_put_25 rfl ?_
    refine J_bipush (v := 8) dX6_put_27 (by decide) ?_
    refine J_icmp_ge (tgt := 119) dX6_put_29 (by decide) (fun h29 => ?_) (fun h29 => absurd (nI_le1 (a := 8) (b := 8) (Nat.le_refl _) (by omega)) h29)
    refine J_iload dX6_put_119 rfl ?_
    refine J_if_eq (tgt := 127) dX6_put_121 (by decide) (fun h121 => ?_) (fun h121 => ?_)
    · have e : ptM c = nI a := by rw [hR]; simp only [mP, if_pos h121]
      refine J_aload_n dX6_put_127 rfl rfl ?_
      refine gX6_length wf_X6_152 dX6_put_128 ?_
      refine J_topi (fun z9 hz9 => ?_)
      obtain rfl : z9 = (nI L) := hz9.trans (by rw [SM_ne (by decide)]; exact hL)
      clear hz9
      refine J_iload_n dX6_put_131 rfl rfl ?_
      refine J_iadd dX6_put_132 ?_
      refine J_bipush (v := 80) dX6_put_133 (by decide) ?_
      refine J_icmp_le (tgt := 141) dX6_put_135 (by decide) (fun h135 => ?_) (fun h135 => ?_)
      · refine J_iload_n dX6_put_141 rfl rfl ?_
        refine J_iconst (v := 1) dX6_put_142 (by decide) ?_
        refine J_isub dX6_put_143 ?_
        refine J_istore dX6_put_144 rfl rfl ?_
        have hle : L + a ≤ 80 := (le80 _ (by omega)).1 (by rw [← nI_add]; exact h135)
        refine Jg_fin (fun v m9 h => Or.inr ⟨a, ha, e, Or.inl ⟨hle, h⟩⟩) (J_ws (ws' := WS X ad (SM (pdm m L c a (a - a)) s)) (by rw [Nat.sub_self, pdm_0 hL]) (apM hle a (Nat.le_refl _)))
      · refine J_bipush (v := -4) dX6_put_138 (by decide) ?_
        refine r_int dX6_put_140 ?_
        exact Or.inr ⟨a, ha, e, Or.inr ⟨fun hle => h135 (by rw [nI_add]; exact (le80 _ (by omega)).2 hle), rfl, rfl⟩⟩
    · refine J_bipush (v := -2) dX6_put_124 (by decide) ?_
      refine r_int dX6_put_126 ?_
      exact Or.inl ⟨by rw [hR]; simp only [mP, if_neg h121], rfl, rfl⟩
  | succ n ih =>
    intro k a ov wr hk ha hR
    refine J_iload dX6_put_25 rfl ?_
    refine J_bipush (v := 8) dX6_put_27 (by decide) ?_
    refine J_icmp_ge (tgt := 119) dX6_put_29 (by decide) (fun h29 => absurd h29 (nI_nle1 (a := k) (b := 8) (by omega) (by omega))) (fun h29 => ?_)
    refine J_lload_n dX6_put_32 rfl rfl ?_
    refine J_bipush (v := 8) dX6_put_33 (by decide) ?_
    refine J_iload dX6_put_35 rfl ?_
    refine J_imul dX6_put_37 ?_
    refine J_lshr dX6_put_38 rfl ?_
    refine J_ldc2 wl_X6_161 dX6_put_39 ?_
    refine J_land dX6_put_42 ?_
    refine J_l2i dX6_put_43 rfl ?_
    refine J_istore dX6_put_44 rfl rfl ?_
    refine J_iload dX6_put_46 rfl ?_
    refine J_if_ne (tgt := 56) dX6_put_48 (by decide) (fun h48 => ?_) (fun h48 => ?_)
    · refine J_iconst (v := 1) dX6_put_56 (by decide) ?_
      refine J_goto (tgt := 61) dX6_put_57 (by decide) ?_
      refine J_istore dX6_put_61 rfl rfl ?_
      refine J_iload dX6_put_63 rfl ?_
      refine J_if_ne (tgt := 93) dX6_put_65 (by decide) (fun h65 => ?_) (fun h65 => ?_)
      · refine J_iconst (v := 1) dX6_put_93 (by decide) ?_
        refine J_goto (tgt := 98) dX6_put_94 (by decide) ?_
        refine J_istore dX6_put_98 rfl rfl ?_
        refine J_iload_n dX6_put_100 rfl rfl ?_
        refine J_iload dX6_put_101 rfl ?_
        refine J_if_eq (tgt := 110) dX6_put_103 (by decide) (fun h103 => absurd h103 (by decide)) (fun h103 => ?_)
        refine J_iconst (v := 0) dX6_put_106 (by decide) ?_
        refine J_goto (tgt := 111) dX6_put_107 (by decide) ?_
        refine J_iadd dX6_put_111 ?_
        refine J_istore_n dX6_put_112 rfl rfl rfl ?_
        refine J_iinc (v := _ + 1) dX6_put_113 rfl rfl rfl rfl ?_
        refine J_goto (tgt := 25) dX6_put_116 (by decide) ?_
        refine J_lv [0, 1, 2, 3, 4, 5] rfl ?_
        rw [show nI k + 1 = nI (k + 1) from (nI_succ k).symm]
        first | rw [show nI a + 1 = nI (a + 1) from (nI_succ a).symm] | rw [show nI a + 0 = nI a from Int32.add_zero _]
        first | contradiction | exact ih (k + 1) a _ _ (by omega) (by omega) (by rw [hR]; simp only [mP, cd, *, reduceIte]) | exact ih (k + 1) (a + 1) _ _ (by omega) (by omega) (by rw [hR]; simp only [mP, cd, *, reduceIte])
      · refine J_iload dX6_put_68 rfl ?_
        refine J_if_eq (tgt := 81) dX6_put_70 (by decide) (fun h70 => absurd h70 (by decide)) (fun h70 => ?_)
        refine J_iload dX6_put_73 rfl ?_
        refine J_if_eq (tgt := 97) dX6_put_75 (by decide) (fun h75 => ?_) (fun h75 => ?_)
        · refine J_iconst (v := 0) dX6_put_97 (by decide) ?_
          refine J_istore dX6_put_98 rfl rfl ?_
          refine J_iload_n dX6_put_100 rfl rfl ?_
          refine J_iload dX6_put_101 rfl ?_
          refine J_if_eq (tgt := 110) dX6_put_103 (by decide) (fun h103 => absurd h103 (by decide)) (fun h103 => ?_)
          refine J_iconst (v := 0) dX6_put_106 (by decide) ?_
          refine J_goto (tgt := 111) dX6_put_107 (by decide) ?_
          refine J_iadd dX6_put_111 ?_
          refine J_istore_n dX6_put_112 rfl rfl rfl ?_
          refine J_iinc (v := _ + 1) dX6_put_113 rfl rfl rfl rfl ?_
          refine J_goto (tgt := 25) dX6_put_116 (by decide) ?_
          refine J_lv [0, 1, 2, 3, 4, 5] rfl ?_
          rw [show nI k + 1 = nI (k + 1) from (nI_succ k).symm]
          first | rw [show nI a + 1 = nI (a + 1) from (nI_succ a).symm] | rw [show nI a + 0 = nI a from Int32.add_zero _]
          first | contradiction | exact ih (k + 1) a _ _ (by omega) (by omega) (by rw [hR]; simp only [mP, cd, *, reduceIte]) | exact ih (k + 1) (a + 1) _ _ (by omega) (by omega) (by rw [hR]; simp only [mP, cd, *, reduceIte])
        · refine J_goto (tgt := 93) dX6_put_78 (by decide) ?_
          refine J_iconst (v := 1) dX6_put_93 (by decide) ?_
          refine J_goto (tgt := 98) dX6_put_94 (by decide) ?_
          refine J_istore dX6_put_98 rfl rfl ?_
          refine J_iload_n dX6_put_100 rfl rfl ?_
          refine J_iload dX6_put_101 rfl ?_
          refine J_if_eq (tgt := 110) dX6_put_103 (by decide) (fun h103 => absurd h103 (by decide)) (fun h103 => ?_)
          refine J_iconst (v := 0) dX6_put_106 (by decide) ?_
          refine J_goto (tgt := 111) dX6_put_107 (by decide) ?_
          refine J_iadd dX6_put_111 ?_
          refine J_istore_n dX6_put_112 rfl rfl rfl ?_
          refine J_iinc (v := _ + 1) dX6_put_113 rfl rfl rfl rfl ?_
          refine J_goto (tgt := 25) dX6_put_116 (by decide) ?_
          refine J_lv [0, 1, 2, 3, 4, 5] rfl ?_
          rw [show nI k + 1 = nI (k + 1) from (nI_succ k).symm]
          first | rw [show nI a + 1 = nI (a + 1) from (nI_succ a).symm] | rw [show nI a + 0 = nI a from Int32.add_zero _]
          first | contradiction | exact ih (k + 1) a _ _ (by omega) (by omega) (by rw [hR]; simp only [mP, cd, *, reduceIte]) | exact ih (k + 1) (a + 1) _ _ (by omega) (by omega) (by rw [hR]; simp only [mP, cd, *, reduceIte])
    · refine J_iload dX6_put_51 rfl ?_
      refine J_if_ne (tgt := 60) dX6_put_53 (by decide) (fun h53 => ?_) (fun h53 => ?_)
      · refine J_iconst (v := 0) dX6_put_60 (by decide) ?_
        refine J_istore dX6_put_61 rfl rfl ?_
        refine J_iload dX6_put_63 rfl ?_
        refine J_if_ne (tgt := 93) dX6_put_65 (by decide) (fun h65 => ?_) (fun h65 => ?_)
        · refine J_iconst (v := 1) dX6_put_93 (by decide) ?_
          refine J_goto (tgt := 98) dX6_put_94 (by decide) ?_
          refine J_istore dX6_put_98 rfl rfl ?_
          refine J_iload_n dX6_put_100 rfl rfl ?_
          refine J_iload dX6_put_101 rfl ?_
          refine J_if_eq (tgt := 110) dX6_put_103 (by decide) (fun h103 => ?_) (fun h103 => absurd (by decide) h103)
          refine J_iconst (v := 1) dX6_put_110 (by decide) ?_
          refine J_iadd dX6_put_111 ?_
          refine J_istore_n dX6_put_112 rfl rfl rfl ?_
          refine J_iinc (v := _ + 1) dX6_put_113 rfl rfl rfl rfl ?_
          refine J_goto (tgt := 25) dX6_put_116 (by decide) ?_
          refine J_lv [0, 1, 2, 3, 4, 5] rfl ?_
          rw [show nI k + 1 = nI (k + 1) from (nI_succ k).symm]
          first | rw [show nI a + 1 = nI (a + 1) from (nI_succ a).symm] | rw [show nI a + 0 = nI a from Int32.add_zero _]
          first | contradiction | exact ih (k + 1) a _ _ (by omega) (by omega) (by rw [hR]; simp only [mP, cd, *, reduceIte]) | exact ih (k + 1) (a + 1) _ _ (by omega) (by omega) (by rw [hR]; simp only [mP, cd, *, reduceIte])
        · refine J_iload dX6_put_68 rfl ?_
          refine J_if_eq (tgt := 81) dX6_put_70 (by decide) (fun h70 => ?_) (fun h70 => absurd (by decide) h70)
          refine J_iload dX6_put_81 rfl ?_
          refine J_bipush (v := 33) dX6_put_83 (by decide) ?_
          refine J_bipush (v := 126) dX6_put_85 (by decide) ?_
          refine cSi ws_X6_25 c_X6_in dX6_put_87 (kk := ?_)
          refine J_if_ne (tgt := 97) dX6_put_90 (by decide) (fun h90 => ?_) (fun h90 => ?_)
          · refine J_iconst (v := 0) dX6_put_97 (by decide) ?_
            refine J_istore dX6_put_98 rfl rfl ?_
            refine J_iload_n dX6_put_100 rfl rfl ?_
            refine J_iload dX6_put_101 rfl ?_
            refine J_if_eq (tgt := 110) dX6_put_103 (by decide) (fun h103 => ?_) (fun h103 => absurd (by decide) h103)
            refine J_iconst (v := 1) dX6_put_110 (by decide) ?_
            refine J_iadd dX6_put_111 ?_
            refine J_istore_n dX6_put_112 rfl rfl rfl ?_
            refine J_iinc (v := _ + 1) dX6_put_113 rfl rfl rfl rfl ?_
            refine J_goto (tgt := 25) dX6_put_116 (by decide) ?_
            refine J_lv [0, 1, 2, 3, 4, 5] rfl ?_
            rw [show nI k + 1 = nI (k + 1) from (nI_succ k).symm]
            first | rw [show nI a + 1 = nI (a + 1) from (nI_succ a).symm] | rw [show nI a + 0 = nI a from Int32.add_zero _]
            first | contradiction | exact ih (k + 1) a _ _ (by omega) (by omega) (by rw [hR]; simp only [mP, cd, *, reduceIte]) | exact ih (k + 1) (a + 1) _ _ (by omega) (by omega) (by rw [hR]; simp only [mP, cd, *, reduceIte])
          · refine J_iconst (v := 1) dX6_put_93 (by decide) ?_
            refine J_goto (tgt := 98) dX6_put_94 (by decide) ?_
            refine J_istore dX6_put_98 rfl rfl ?_
            refine J_iload_n dX6_put_100 rfl rfl ?_
            refine J_iload dX6_put_101 rfl ?_
            refine J_if_eq (tgt := 110) dX6_put_103 (by decide) (fun h103 => ?_) (fun h103 => absurd (by decide) h103)
            refine J_iconst (v := 1) dX6_put_110 (by decide) ?_
            refine J_iadd dX6_put_111 ?_
            refine J_istore_n dX6_put_112 rfl rfl rfl ?_
            refine J_iinc (v := _ + 1) dX6_put_113 rfl rfl rfl rfl ?_
            refine J_goto (tgt := 25) dX6_put_116 (by decide) ?_
            refine J_lv [0, 1, 2, 3, 4, 5] rfl ?_
            rw [show nI k + 1 = nI (k + 1) from (nI_succ k).symm]
            first | rw [show nI a + 1 = nI (a + 1) from (nI_succ a).symm] | rw [show nI a + 0 = nI a from Int32.add_zero _]
            first | contradiction | exact ih (k + 1) a _ _ (by omega) (by omega) (by rw [hR]; simp only [mP, cd, *, reduceIte]) | exact ih (k + 1) (a + 1) _ _ (by omega) (by omega) (by rw [hR]; simp only [mP, cd, *, reduceIte])
      · refine J_iconst (v := 1) dX6_put_56 (by decide) ?_
        refine J_goto (tgt := 61) dX6_put_57 (by decide) ?_
        refine J_istore dX6_put_61 rfl rfl ?_
        refine J_iload dX6_put_63 rfl ?_
        refine J_if_ne (tgt := 93) dX6_put_65 (by decide) (fun h65 => ?_) (fun h65 => ?_)
        · refine J_iconst (v := 1) dX6_put_93 (by decide) ?_
          refine J_goto (tgt := 98) dX6_put_94 (by decide) ?_
          refine J_istore dX6_put_98 rfl rfl ?_
          refine J_iload_n dX6_put_100 rfl rfl ?_
          refine J_iload dX6_put_101 rfl ?_
          refine J_if_eq (tgt := 110) dX6_put_103 (by decide) (fun h103 => absurd h103 (by decide)) (fun h103 => ?_)
          refine J_iconst (v := 0) dX6_put_106 (by decide) ?_
          refine J_goto (tgt := 111) dX6_put_107 (by decide) ?_
          refine J_iadd dX6_put_111 ?_
          refine J_istore_n dX6_put_112 rfl rfl rfl ?_
          refine J_iinc (v := _ + 1) dX6_put_113 rfl rfl rfl rfl ?_
          refine J_goto (tgt := 25) dX6_put_116 (by decide) ?_
          refine J_lv [0, 1, 2, 3, 4, 5] rfl ?_
          rw [show nI k + 1 = nI (k + 1) from (nI_succ k).symm]
          first | rw [show nI a + 1 = nI (a + 1) from (nI_succ a).symm] | rw [show nI a + 0 = nI a from Int32.add_zero _]
          first | contradiction | exact ih (k + 1) a _ _ (by omega) (by omega) (by rw [hR]; simp only [mP, cd, *, reduceIte]) | exact ih (k + 1) (a + 1) _ _ (by omega) (by omega) (by rw [hR]; simp only [mP, cd, *, reduceIte])
        · refine J_iload dX6_put_68 rfl ?_
          refine J_if_eq (tgt := 81) dX6_put_70 (by decide) (fun h70 => absurd h70 (by decide)) (fun h70 => ?_)
          refine J_iload dX6_put_73 rfl ?_
          refine J_if_eq (tgt := 97) dX6_put_75 (by decide) (fun h75 => ?_) (fun h75 => ?_)
          · refine J_iconst (v := 0) dX6_put_97 (by decide) ?_
            refine J_istore dX6_put_98 rfl rfl ?_
            refine J_iload_n dX6_put_100 rfl rfl ?_
            refine J_iload dX6_put_101 rfl ?_
            refine J_if_eq (tgt := 110) dX6_put_103 (by decide) (fun h103 => absurd h103 (by decide)) (fun h103 => ?_)
            refine J_iconst (v := 0) dX6_put_106 (by decide) ?_
            refine J_goto (tgt := 111) dX6_put_107 (by decide) ?_
            refine J_iadd dX6_put_111 ?_
            refine J_istore_n dX6_put_112 rfl rfl rfl ?_
            refine J_iinc (v := _ + 1) dX6_put_113 rfl rfl rfl rfl ?_
            refine J_goto (tgt := 25) dX6_put_116 (by decide) ?_
            refine J_lv [0, 1, 2, 3, 4, 5] rfl ?_
            rw [show nI k + 1 = nI (k + 1) from (nI_succ k).symm]
            first | rw [show nI a + 1 = nI (a + 1) from (nI_succ a).symm] | rw [show nI a + 0 = nI a from Int32.add_zero _]
            first | contradiction | exact ih (k + 1) a _ _ (by omega) (by omega) (by rw [hR]; simp only [mP, cd, *, reduceIte]) | exact ih (k + 1) (a + 1) _ _ (by omega) (by omega) (by rw [hR]; simp only [mP, cd, *, reduceIte])
          · refine J_goto (tgt := 93) dX6_put_78 (by decide) ?_
            refine J_iconst (v := 1) dX6_put_93 (by decide) ?_
            refine J_goto (tgt := 98) dX6_put_94 (by decide) ?_
            refine J_istore dX6_put_98 rfl rfl ?_
            refine J_iload_n dX6_put_100 rfl rfl ?_
            refine J_iload dX6_put_101 rfl ?_
            refine J_if_eq (tgt := 110) dX6_put_103 (by decide) (fun h103 => absurd h103 (by decide)) (fun h103 => ?_)
            refine J_iconst (v := 0) dX6_put_106 (by decide) ?_
            refine J_goto (tgt := 111) dX6_put_107 (by decide) ?_
            refine J_iadd dX6_put_111 ?_
            refine J_istore_n dX6_put_112 rfl rfl rfl ?_
            refine J_iinc (v := _ + 1) dX6_put_113 rfl rfl rfl rfl ?_
            refine J_goto (tgt := 25) dX6_put_116 (by decide) ?_
            refine J_lv [0, 1, 2, 3, 4, 5] rfl ?_
            rw [show nI k + 1 = nI (k + 1) from (nI_succ k).symm]
            first | rw [show nI a + 1 = nI (a + 1) from (nI_succ a).symm] | rw [show nI a + 0 = nI a from Int32.add_zero _]
            first | contradiction | exact ih (k + 1) a _ _ (by omega) (by omega) (by rw [hR]; simp only [mP, cd, *, reduceIte]) | exact ih (k + 1) (a + 1) _ _ (by omega) (by omega) (by rw [hR]; simp only [mP, cd, *, reduceIte])

set_option maxRecDepth 100000 in
set_option maxHeartbeats 4000000 in
theorem c_X6_put {X : jX} {ad : Nat → Nat} {m : Mem} {s : Rw} {c : Int64} {L : Nat} (hL : m 195 7 = nI L) (hL80 : L ≤ 80) : Cm X yX6_put cX6_put 8 (some .int) 1 ad [.ref 195, .long c] (SM m s) (PtFin m s L c) := by
  refine Cm.of (own := RX6) (nm := "put") (by decide +kernel) rfl rfl rfl rfl ?_
  refine J_iconst (v := 0) dX6_put_0 (by decide) ?_
  refine J_istore_n dX6_put_1 rfl rfl rfl ?_
  refine J_iconst (v := 0) dX6_put_2 (by decide) ?_
  refine J_istore dX6_put_3 rfl rfl ?_
  refine J_lload_n dX6_put_5 rfl rfl ?_
  refine J_ldc2 wl_X6_161 dX6_put_6 ?_
  refine J_land dX6_put_9 ?_
  refine J_lconst (v := 0) dX6_put_10 (by decide) ?_
  refine J_lcmp dX6_put_11 ?_
  refine J_if_ne (tgt := 19) dX6_put_12 (by decide) (fun h12 => ?_) (fun h12 => ?_)
  · refine J_iconst (v := 0) dX6_put_19 (by decide) ?_
    refine J_istore dX6_put_20 rfl rfl ?_
    refine J_iconst (v := 0) dX6_put_22 (by decide) ?_
    refine J_istore dX6_put_23 rfl rfl ?_
    exact mLoop hL hL80 8 0 0 _ _ rfl (Nat.le_refl _) (by simp only [ptM, *, reduceIte])
  · refine J_iconst (v := 1) dX6_put_15 (by decide) ?_
    refine J_goto (tgt := 20) dX6_put_16 (by decide) ?_
    refine J_istore dX6_put_20 rfl rfl ?_
    refine J_iconst (v := 0) dX6_put_22 (by decide) ?_
    refine J_istore dX6_put_23 rfl rfl ?_
    exact mLoop hL hL80 8 0 0 _ _ rfl (Nat.le_refl _) (by simp only [ptM, *, reduceIte])

set_option maxRecDepth 100000 in
set_option maxHeartbeats 4000000 in
theorem c_X6_wipe {X : jX} {ad : Nat → Nat} {m : Mem} {s : Rw}   : Cd X yX6_wipe cX6_wipe 2 (some .int) 0 ad [.ref 195] (SM m s) (some (.int (m 195 7))) (SM (up m 195 7 0) s) := by
  refine Cm.of (own := RX6) (nm := "wipe") (by decide +kernel) rfl rfl rfl rfl ?_
  refine J_aload_n dX6_wipe_0 rfl rfl ?_
  refine gX6_length wf_X6_152 dX6_wipe_1 ?_
  refine J_topi (fun z9 hz9 => ?_)
  obtain rfl : z9 = (m 195 7) := hz9.trans (by rw [SM_ne (by decide)])
  clear hz9
  refine J_istore_n dX6_wipe_4 rfl rfl rfl ?_
  refine J_aload_n dX6_wipe_5 rfl rfl ?_
  refine J_iconst (v := 0) dX6_wipe_6 (by decide) ?_
  refine pX6_length wf_X6_152 dX6_wipe_7 ?_
  refine J_iload_n dX6_wipe_10 rfl rfl ?_
  refine r_int dX6_wipe_11 ?_
  exact ⟨rfl, SM_up2 (by decide)⟩

/-- a row of a table of rows -/
def hrw (H : Nat → Int32) (q : Nat) : Rw := fun k => H (302 * q + k)
set_option maxRecDepth 100000 in
set_option maxHeartbeats 4000000 in
theorem undoLoop {X : jX} {ad : Nat → Nat} {m : Mem} {s : Rw} {q : Nat} (hq : m 195 3 = nI q) (hq6 : q < 6) : ∀ (n i : Nat), i + n = 302 → Jg X RX6 cX6_undo 2 (some .int) "undo" 0 0 0 (QF X ad (fun v m9 => v = some (.int (nI q)) ∧ m9 = SM m (mrg 302 (hrw (m 198) q) s))) ad 0 0 22 [(0, .ref 195), (1, .int (nI i))] [] (WS X ad (SM m (mrg i (hrw (m 198) q) s))) := by
  intro n
  induction n with
  | zero =>
    intro i hi
    obtain rfl : i = 302 := by omega
    refine J_iload_n dX6_undo_22 rfl rfl ?_
    refine J_sipush (v := 302) dX6_undo_23 (by decide) ?_
    refine J_icmp_ge (tgt := 56) dX6_undo_26 (by decide) (fun h26 => ?_) (fun h26 => absurd (nI_le1 (a := 302) (b := 302) (Nat.le_refl _) (by omega)) h26)
    refine J_aload_n dX6_undo_56 rfl rfl ?_
    refine gX6_known wf_X6_51 dX6_undo_57 ?_
    refine J_topi (fun z9 hz9 => ?_)
    obtain rfl : z9 = (nI q) := hz9.trans (by rw [SM_ne (by decide)]; exact hq)
    clear hz9
    refine r_int dX6_undo_60 ?_
    exact ⟨rfl, rfl⟩
  | succ n ih =>
    intro i hi
    refine J_iload_n dX6_undo_22 rfl rfl ?_
    refine J_sipush (v := 302) dX6_undo_23 (by decide) ?_
    refine J_icmp_ge (tgt := 56) dX6_undo_26 (by decide) (fun h26 => absurd h26 (nI_nle1 (a := i) (b := 302) (by omega) (by omega))) (fun h26 => ?_)
    refine J_aload_n dX6_undo_29 rfl rfl ?_
    refine gX6_s wf_X6_7 dX6_undo_30 ?_
    refine J_iload_n dX6_undo_33 rfl rfl ?_
    refine J_aload_n dX6_undo_34 rfl rfl ?_
    refine gX6_history wf_X6_16 dX6_undo_35 ?_
    refine J_sipush (v := 302) dX6_undo_38 (by decide) ?_
    refine J_aload_n dX6_undo_41 rfl rfl ?_
    refine gX6_known wf_X6_51 dX6_undo_42 ?_
    refine J_topi (fun z9 hz9 => ?_)
    obtain rfl : z9 = (nI q) := hz9.trans (by rw [SM_ne (by decide)]; exact hq)
    clear hz9
    refine J_imul dX6_undo_45 ?_
    refine J_iload_n dX6_undo_46 rfl rfl ?_
    refine J_iadd dX6_undo_47 ?_
    refine rd_mhist (302 * q + i) (by omega) (by rw [m302 q (by omega), nI_add]) dX6_undo_48 ?_
    refine wr_s i (by omega) rfl dX6_undo_49 ?_
    refine J_iinc (v := _ + 1) dX6_undo_50 rfl rfl rfl rfl ?_
    rw [show nI i + 1 = nI (i + 1) from (nI_succ i).symm]
    refine J_goto (tgt := 22) dX6_undo_53 (by decide) ?_
    refine J_ws (ws' := WS X ad (SM m (mrg (i + 1) (hrw (m 198) q) s))) ?_ (ih (i + 1) (by omega))
    rw [mrg_succ (v := m 198 (302 * q + i)) (f := hrw (m 198) q) rfl]

set_option maxRecDepth 100000 in
set_option maxHeartbeats 4000000 in
theorem c_X6_undo {X : jX} {ad : Nat → Nat} {m : Mem} {s : Rw} {q : Nat} (hq : m 195 3 = nI q) (hq7 : q < 7) : Cm X yX6_undo cX6_undo 2 (some .int) 0 ad [.ref 195] (SM m s) (fun v m9 => (q = 0 ∧ v = some (.int (-5)) ∧ m9 = SM m s) ∨ ∃ p, q = p + 1 ∧ v = some (.int (nI p)) ∧ m9 = SM (up m 195 3 (nI p)) (mrg 302 (hrw (m 198) p) s)) := by
  refine Cm.of (own := RX6) (nm := "undo") (by decide +kernel) rfl rfl rfl rfl ?_
  refine J_aload_n dX6_undo_0 rfl rfl ?_
  refine gX6_known wf_X6_51 dX6_undo_1 ?_
  refine J_topi (fun z9 hz9 => ?_)
  obtain rfl : z9 = (nI q) := hz9.trans (by rw [SM_ne (by decide)]; exact hq)
  clear hz9
  refine J_if_ne (tgt := 10) dX6_undo_4 (by decide) (fun h4 => ?_) (fun h4 => ?_)
  · refine J_aload_n dX6_undo_10 rfl rfl ?_
    refine J_dup dX6_undo_11 rfl ?_
    refine gX6_known wf_X6_51 dX6_undo_12 ?_
    refine J_topi (fun z9 hz9 => ?_)
    obtain rfl : z9 = (nI q) := hz9.trans (by rw [SM_ne (by decide)]; exact hq)
    clear hz9
    refine J_iconst (v := 1) dX6_undo_15 (by decide) ?_
    refine J_isub dX6_undo_16 ?_
    refine pX6_known wf_X6_51 dX6_undo_17 ?_
    refine J_iconst (v := 0) dX6_undo_20 (by decide) ?_
    refine J_istore_n dX6_undo_21 rfl rfl rfl ?_
    cases q with
    | zero => exact absurd rfl h4
    | succ p =>
      refine Jg_fin (fun v m9 h => Or.inr ⟨p, rfl, h⟩) ?_
      refine J_ws (ws' := WS X ad (SM (up m 195 3 (nI p)) (mrg 0 (hrw (up m 195 3 (nI p) 198) p) s))) (by rw [SM_up2 (by decide), mrg_0, nI_pred]) ?_
      exact undoLoop (m := up m 195 3 (nI p)) (by rw [up_apply, if_pos ⟨rfl, rfl⟩]) (by omega) 302 0 rfl
  · refine J_bipush (v := -5) dX6_undo_7 (by decide) ?_
    refine r_int dX6_undo_9 ?_
    exact Or.inl ⟨by have h4 := h4; exact (show ∀ q, q < 7 → nI q = 0 → q = 0 by decide) q hq7 h4, rfl, rfl⟩

theorem t302 : ∀ t, t < 2 → (302 : Int32) * nI t = nI (302 * t) := by decide
def svM (m : Mem) (s : Rw) (t : Nat) : Mem := up (upC m 199 (rwp t 302 s (m 199))) 195 5 (m 195 5 ||| 1 <<< (nI t &&& 31))
set_option maxRecDepth 100000 in
set_option maxHeartbeats 4000000 in
theorem saveLoopR {X : jX} {ad : Nat → Nat} {m : Mem} {s : Rw} {t : Nat} (ht : t < 2) : ∀ (n i : Nat), i + n = 302 → Jg X RX6 cX6_save 3 (some .int) "save" 1 0 0 (QF X ad (fun v m9 => v = some (.int (s 5)) ∧ m9 = SM (svM m s t) s)) ad 0 0 14 [(0, .ref 195), (1, .int (nI t)), (2, .int (nI i))] [] (WS X ad (SM (upC m 199 (rwp t i s (m 199))) s)) := by
  intro n
  induction n with
  | zero =>
    intro i hi
    obtain rfl : i = 302 := by omega
    refine J_iload_n dX6_save_14 rfl rfl ?_
    refine J_sipush (v := 302) dX6_save_15 (by decide) ?_
    refine J_icmp_ge (tgt := 45) dX6_save_18 (by decide) (fun h18 => ?_) (fun h18 => absurd (nI_le1 (a := 302) (b := 302) (Nat.le_refl _) (by omega)) h18)
    refine J_aload_n dX6_save_45 rfl rfl ?_
    refine J_dup dX6_save_46 rfl ?_
    refine gX6_kept wf_X6_206 dX6_save_47 ?_
    refine J_topi (fun z9 hz9 => ?_)
    obtain rfl : z9 = (m 195 5) := hz9.trans (by rw [SM_ne (by decide), upC_ne (by decide)])
    clear hz9
    refine J_iconst (v := 1) dX6_save_50 (by decide) ?_
    refine J_iload_n dX6_save_51 rfl rfl ?_
    refine J_ishl dX6_save_52 ?_
    refine J_ior dX6_save_53 ?_
    refine pX6_kept wf_X6_206 dX6_save_54 ?_
    refine J_ws (ws' := WS X ad (SM (svM m s t) s)) (by rw [SM_up2 (by decide)]; rfl) ?_
    refine J_aload_n dX6_save_57 rfl rfl ?_
    refine gX6_s wf_X6_7 dX6_save_58 ?_
    refine J_iconst (v := 5) dX6_save_61 (by decide) ?_
    refine rd_s 5 (by decide) (by decide) dX6_save_62 ?_
    refine J_topi (fun z9 hz9 => ?_)
    obtain rfl : z9 = (s 5) := hz9.trans (by rfl)
    clear hz9
    refine r_int dX6_save_63 ?_
    exact ⟨rfl, rfl⟩
  | succ n ih =>
    intro i hi
    refine J_iload_n dX6_save_14 rfl rfl ?_
    refine J_sipush (v := 302) dX6_save_15 (by decide) ?_
    refine J_icmp_ge (tgt := 45) dX6_save_18 (by decide) (fun h18 => absurd h18 (nI_nle1 (a := i) (b := 302) (by omega) (by omega))) (fun h18 => ?_)
    refine J_aload_n dX6_save_21 rfl rfl ?_
    refine gX6_slots wf_X6_19 dX6_save_22 ?_
    refine J_sipush (v := 302) dX6_save_25 (by decide) ?_
    refine J_iload_n dX6_save_28 rfl rfl ?_
    refine J_imul dX6_save_29 ?_
    refine J_iload_n dX6_save_30 rfl rfl ?_
    refine J_iadd dX6_save_31 ?_
    refine J_aload_n dX6_save_32 rfl rfl ?_
    refine gX6_s wf_X6_7 dX6_save_33 ?_
    refine J_iload_n dX6_save_36 rfl rfl ?_
    refine rd_s i (by omega) rfl dX6_save_37 ?_
    refine wr_mslots (302 * t + i) (by omega) (by rw [t302 t ht, nI_add]) dX6_save_38 ?_
    refine J_iinc (v := _ + 1) dX6_save_39 rfl rfl rfl rfl ?_
    rw [show nI i + 1 = nI (i + 1) from (nI_succ i).symm]
    refine J_goto (tgt := 14) dX6_save_42 (by decide) ?_
    refine J_ws (ws' := WS X ad (SM (upC m 199 (rwp t (i + 1) s (m 199))) s)) ?_ (ih (i + 1) (by omega))
    rw [upC_up, rwp_succ rfl]

theorem jin1 {x : Int32} (h : ¬ jin x 0 1 = 0) : ∃ t, t < 2 ∧ x = nI t := by
  obtain ⟨k, hk, e⟩ := jin_nat (n := 1) (by decide) rfl h
  exact ⟨k, by omega, e⟩
set_option maxRecDepth 100000 in
set_option maxHeartbeats 4000000 in
theorem c_X6_save {X : jX} {ad : Nat → Nat} {m : Mem} {s : Rw} {x : Int32}  : Cm X yX6_save cX6_save 3 (some .int) 1 ad [.ref 195, .int x] (SM m s) (fun v m9 => (jin x 0 1 = 0 ∧ v = some (.int (-2)) ∧ m9 = SM m s) ∨ ∃ t, t < 2 ∧ x = nI t ∧ v = some (.int (s 5)) ∧ m9 = SM (svM m s t) s) := by
  refine Cm.of (own := RX6) (nm := "save") (by decide +kernel) rfl rfl rfl rfl ?_
  refine J_iload_n dX6_save_0 rfl rfl ?_
  refine J_iconst (v := 0) dX6_save_1 (by decide) ?_
  refine J_iconst (v := 1) dX6_save_2 (by decide) ?_
  refine cSi ws_X6_25 c_X6_in dX6_save_3 (kk := ?_)
  refine J_if_ne (tgt := 12) dX6_save_6 (by decide) (fun h6 => ?_) (fun h6 => ?_)
  · refine J_iconst (v := 0) dX6_save_12 (by decide) ?_
    refine J_istore_n dX6_save_13 rfl rfl rfl ?_
    obtain ⟨t, ht, rfl⟩ := jin1 h6
    refine Jg_fin (fun v m9 h => Or.inr ⟨t, ht, rfl, h⟩) ?_
    refine J_ws (ws' := WS X ad (SM (upC m 199 (rwp t 0 s (m 199))) s)) (by rw [rwp_0, upC_self]) (saveLoopR ht 302 0 rfl)
  · refine J_bipush (v := -2) dX6_save_9 (by decide) ?_
    refine r_int dX6_save_11 ?_
    exact Or.inl ⟨h6, rfl, rfl⟩

set_option maxRecDepth 100000 in
set_option maxHeartbeats 4000000 in
theorem restLoop {X : jX} {ad : Nat → Nat} {m : Mem} {s : Rw} {t : Nat} (ht : t < 2) : ∀ (n i : Nat), i + n = 302 → Jg X RX6 cX6_restore 3 (some .int) "restore" 1 0 0 (QF X ad (fun v m9 => v = some (.int (mrg 302 (hrw (m 199) t) s 5)) ∧ m9 = SM m (mrg 302 (hrw (m 199) t) s))) ad 0 0 36 [(0, .ref 195), (1, .int (nI t)), (2, .int (nI i))] [] (WS X ad (SM m (mrg i (hrw (m 199) t) s))) := by
  intro n
  induction n with
  | zero =>
    intro i hi
    obtain rfl : i = 302 := by omega
    refine J_iload_n dX6_restore_36 rfl rfl ?_
    refine J_sipush (v := 302) dX6_restore_37 (by decide) ?_
    refine J_icmp_ge (tgt := 67) dX6_restore_40 (by decide) (fun h40 => ?_) (fun h40 => absurd (nI_le1 (a := 302) (b := 302) (Nat.le_refl _) (by omega)) h40)
    refine J_aload_n dX6_restore_67 rfl rfl ?_
    refine gX6_s wf_X6_7 dX6_restore_68 ?_
    refine J_iconst (v := 5) dX6_restore_71 (by decide) ?_
    refine rd_s 5 (by decide) (by decide) dX6_restore_72 ?_
    refine J_topi (fun z9 hz9 => ?_)
    obtain rfl : z9 = (mrg 302 (hrw (m 199) t) s 5) := hz9.trans (by rfl)
    clear hz9
    refine r_int dX6_restore_73 ?_
    exact ⟨rfl, rfl⟩
  | succ n ih =>
    intro i hi
    refine J_iload_n dX6_restore_36 rfl rfl ?_
    refine J_sipush (v := 302) dX6_restore_37 (by decide) ?_
    refine J_icmp_ge (tgt := 67) dX6_restore_40 (by decide) (fun h40 => absurd h40 (nI_nle1 (a := i) (b := 302) (by omega) (by omega))) (fun h40 => ?_)
    refine J_aload_n dX6_restore_43 rfl rfl ?_
    refine gX6_s wf_X6_7 dX6_restore_44 ?_
    refine J_iload_n dX6_restore_47 rfl rfl ?_
    refine J_aload_n dX6_restore_48 rfl rfl ?_
    refine gX6_slots wf_X6_19 dX6_restore_49 ?_
    refine J_sipush (v := 302) dX6_restore_52 (by decide) ?_
    refine J_iload_n dX6_restore_55 rfl rfl ?_
    refine J_imul dX6_restore_56 ?_
    refine J_iload_n dX6_restore_57 rfl rfl ?_
    refine J_iadd dX6_restore_58 ?_
    refine rd_mslots (302 * t + i) (by omega) (by rw [t302 t ht, nI_add]) dX6_restore_59 ?_
    refine wr_s i (by omega) rfl dX6_restore_60 ?_
    refine J_iinc (v := _ + 1) dX6_restore_61 rfl rfl rfl rfl ?_
    rw [show nI i + 1 = nI (i + 1) from (nI_succ i).symm]
    refine J_goto (tgt := 36) dX6_restore_64 (by decide) ?_
    refine J_ws (ws' := WS X ad (SM m (mrg (i + 1) (hrw (m 199) t) s))) ?_ (ih (i + 1) (by omega))
    rw [mrg_succ (v := m 199 (302 * t + i)) (f := hrw (m 199) t) rfl]

set_option maxRecDepth 100000 in
set_option maxHeartbeats 4000000 in
theorem c_X6_restore {X : jX} {ad : Nat → Nat} {m : Mem} {s : Rw} {x : Int32} {q : Nat} (hq : m 195 3 = nI q) (hq7 : q < 7) : Cm X yX6_restore cX6_restore 3 (some .int) 1 ad [.ref 195, .int x] (SM m s) (fun v m9 => (jin x 0 1 = 0 ∧ v = some (.int (-2)) ∧ m9 = SM m s) ∨ ∃ t, t < 2 ∧ x = nI t ∧ (((m 195 5 >>> (nI t &&& 31)) &&& 1 = 0 ∧ v = some (.int (-5)) ∧ m9 = SM m s) ∨ (¬ (m 195 5 >>> (nI t &&& 31)) &&& 1 = 0 ∧ ∃ m2, RecR (asd m s) m2 q ∧ v = some (.int (mrg 302 (hrw (m 199) t) s 5)) ∧ m9 = SM m2 (mrg 302 (hrw (m 199) t) s)))) := by
  refine Cm.of (own := RX6) (nm := "restore") (by decide +kernel) rfl rfl rfl rfl ?_
  refine J_iload_n dX6_restore_0 rfl rfl ?_
  refine J_iconst (v := 0) dX6_restore_1 (by decide) ?_
  refine J_iconst (v := 1) dX6_restore_2 (by decide) ?_
  refine cSi ws_X6_25 c_X6_in dX6_restore_3 (kk := ?_)
  refine J_if_ne (tgt := 12) dX6_restore_6 (by decide) (fun h6 => ?_) (fun h6 => ?_)
  · obtain ⟨t, ht, rfl⟩ := jin1 h6
    refine J_aload_n dX6_restore_12 rfl rfl ?_
    refine gX6_kept wf_X6_206 dX6_restore_13 ?_
    refine J_topi (fun z9 hz9 => ?_)
    obtain rfl : z9 = (m 195 5) := hz9.trans (by rw [SM_ne (by decide)])
    clear hz9
    refine J_iload_n dX6_restore_16 rfl rfl ?_
    refine J_ishr dX6_restore_17 ?_
    refine J_iconst (v := 1) dX6_restore_18 (by decide) ?_
    refine J_iand dX6_restore_19 ?_
    refine J_if_ne (tgt := 26) dX6_restore_20 (by decide) (fun h20 => ?_) (fun h20 => ?_)
    · refine J_aload_n dX6_restore_26 rfl rfl ?_
      refine cVv wv_X6_102 c_X6_putAside dX6_restore_27 ob6 rfl rfl (kk := ?_)
      refine J_aload_n dX6_restore_30 rfl rfl ?_
      refine cVg wv_X6_55 (c_X6_record (asd3 hq) hq7) dX6_restore_31 ob6 rfl rfl (kk := (fun v m9 hf => ?_))
      obtain ⟨rfl, m2, rfl, hr⟩ := hf
      refine J_iconst (v := 0) dX6_restore_34 (by decide) ?_
      refine J_istore_n dX6_restore_35 rfl rfl rfl ?_
      have e9 : m2 199 = m 199 := by rw [hr.2.2.1 199 (by decide) (by decide), asd_ne (by decide)]
      refine Jg_fin (fun v m9 h => Or.inr ⟨t, ht, rfl, Or.inr ⟨h20, m2, hr, h⟩⟩) ?_
      rw [← e9]
      refine J_ws (ws' := WS X ad (SM m2 (mrg 0 (hrw (m2 199) t) s))) (by rw [mrg_0]) (restLoop ht 302 0 rfl)
    · refine J_bipush (v := -5) dX6_restore_23 (by decide) ?_
      refine r_int dX6_restore_25 ?_
      exact Or.inr ⟨t, ht, rfl, Or.inl ⟨h20, rfl, rfl⟩⟩
  · refine J_bipush (v := -2) dX6_restore_9 (by decide) ?_
    refine r_int dX6_restore_11 ?_
    exact Or.inl ⟨h6, rfl, rfl⟩

