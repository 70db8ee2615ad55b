theorem ro_start {F : Nat → Int32} {L i : Nat} {c : Int32} (h : RF F L (i, true)) (hi : i < L) : RF (upd (upd (upd F 10 c) 9 0) 8 (nI i + 1)) L (i + 1, true) := by
  obtain ⟨h1, h2, h3, h4, h5⟩ := h
  exact ⟨h1, (nI_succ i).symm, rfl, hi, h5⟩
theorem ro_bad {F : Nat → Int32} {L i : Nat} {c : Int32} (h : RF F L (i, true)) : RF (upd (upd (upd F 10 c) 9 1) 8 (nI i + 0)) L (i, false) := by
  obtain ⟨h1, h2, h3, h4, h5⟩ := h
  exact ⟨h1, Int32.add_zero _, rfl, h4, h5⟩
def OrdFin (m : Mem) (s : Rw) (F : Nat → Int32) (L i : Nat) (v : Option Value) (m9 : Mem) : Prop := v = none ∧ ∃ G, m9 = RM m G s ∧ RF G L (oS (m 200) L i) ∧ (∀ k, k < 8 → G k = F k) ∧ ((oS (m 200) L i).2 = true → i < L ∧ G 10 = m 200 i ∧ oV (m 200) L i (G 11) (G 12) (G 13))
section ORD
variable {m : Mem} {s : Rw} {F G : Nat → Int32} {L i : Nat}
theorem ordB (hi : i < L) (hc : m 200 i = 98) (hR : RF G L (nS (m 200) L (dS (m 200) L 46 46 (nS (m 200) L (i + 1, true))))) (k10 : G 10 = 98) (kfr : ∀ k, k < 8 → G k = F k) (k11 : (nS (m 200) L (i + 1, true)).2 = true → G 11 = nV (m 200) L (i + 1)) (k12 : (nS (m 200) L (dS (m 200) L 46 46 (nS (m 200) L (i + 1, true)))).2 = true → G 12 = nV (m 200) L (dS (m 200) L 46 46 (nS (m 200) L (i + 1, true))).1) : OrdFin m s F L i none (RM m G s) := by
  have e : oS (m 200) L i = nS (m 200) L (dS (m 200) L 46 46 (nS (m 200) L (i + 1, true))) := by unfold oS; rw [if_pos hi, if_pos hc]
  refine ⟨rfl, G, rfl, by rw [e]; exact hR, kfr, fun h => ⟨hi, k10.trans hc.symm, ?_⟩⟩
  rw [e] at h
  unfold oV
  rw [if_pos hc]
  exact ⟨k11 (dS_ok (nS_ok h).1).1, k12 h⟩
theorem n98 : ¬ (105 : Int32) = 98 ∧ ¬ (111 : Int32) = 98 ∧ ¬ (97 : Int32) = 98 ∧ ¬ (119 : Int32) = 98 ∧ ¬ (116 : Int32) = 98 := by decide
theorem n105 : ¬ (111 : Int32) = 105 ∧ ¬ (97 : Int32) = 105 ∧ ¬ (119 : Int32) = 105 ∧ ¬ (116 : Int32) = 105 := by decide
theorem n111 : ¬ (97 : Int32) = 111 ∧ ¬ (119 : Int32) = 111 ∧ ¬ (116 : Int32) = 111 := by decide
theorem n97 : ¬ (119 : Int32) = 97 ∧ ¬ (116 : Int32) = 97 ∧ ¬ (116 : Int32) = 119 := by decide
theorem ordI (hi : i < L) (hc : m 200 i = 105) (hR : RF G L (nS (m 200) L (dS (m 200) L 43 43 (dS (m 200) L 48 57 (dS (m 200) L 64 64 (dS (m 200) L 48 57 (i + 1, true))))))) (k10 : G 10 = 105) (kfr : ∀ k, k < 8 → G k = F k) (k11 : G 11 = if (dS (m 200) L 48 57 (i + 1, true)).2 = true then m 200 (i + 1) - 48 else 0) (k12 : G 12 = if (dS (m 200) L 48 57 (dS (m 200) L 64 64 (dS (m 200) L 48 57 (i + 1, true)))).2 = true then m 200 (dS (m 200) L 64 64 (dS (m 200) L 48 57 (i + 1, true))).1 - 48 else 0) (k13 : (nS (m 200) L (dS (m 200) L 43 43 (dS (m 200) L 48 57 (dS (m 200) L 64 64 (dS (m 200) L 48 57 (i + 1, true)))))).2 = true → G 13 = nV (m 200) L (dS (m 200) L 43 43 (dS (m 200) L 48 57 (dS (m 200) L 64 64 (dS (m 200) L 48 57 (i + 1, true))))).1) : OrdFin m s F L i none (RM m G s) := by
  have e : oS (m 200) L i = nS (m 200) L (dS (m 200) L 43 43 (dS (m 200) L 48 57 (dS (m 200) L 64 64 (dS (m 200) L 48 57 (i + 1, true))))) := by unfold oS; rw [if_pos hi, hc, if_neg n98.1, if_pos rfl]
  refine ⟨rfl, G, rfl, by rw [e]; exact hR, kfr, fun h => ⟨hi, k10.trans hc.symm, ?_⟩⟩
  rw [e] at h
  obtain ⟨q4, -⟩ := nS_ok h
  obtain ⟨q3, -, -, e4⟩ := dS_ok q4
  obtain ⟨q2, -, -, e3⟩ := dS_ok q3
  obtain ⟨q1, -, -, e2⟩ := dS_ok q2
  obtain ⟨q0, -, -, e1⟩ := dS_ok q1
  have k13 := k13 h
  rw [if_pos q1] at k11
  rw [if_pos q3] at k12
  rw [e2, e1] at k12
  rw [e4, e3, e2, e1] at k13
  unfold oV
  rw [hc, if_neg n98.1, if_pos rfl]
  exact ⟨k11, k12, k13⟩
theorem ordO (hi : i < L) (hc : m 200 i = 111) (hR : RF G L (nS (m 200) L (dS (m 200) L 45 45 (dS (m 200) L 48 57 (i + 1, true))))) (k10 : G 10 = 111) (kfr : ∀ k, k < 8 → G k = F k) (k11 : G 11 = if (dS (m 200) L 48 57 (i + 1, true)).2 = true then m 200 (i + 1) - 48 else 0) (k12 : (nS (m 200) L (dS (m 200) L 45 45 (dS (m 200) L 48 57 (i + 1, true)))).2 = true → G 12 = nV (m 200) L (dS (m 200) L 45 45 (dS (m 200) L 48 57 (i + 1, true))).1) : OrdFin m s F L i none (RM m G s) := by
  have e : oS (m 200) L i = nS (m 200) L (dS (m 200) L 45 45 (dS (m 200) L 48 57 (i + 1, true))) := by unfold oS; rw [if_pos hi, hc, if_neg n98.2.1, if_neg n105.1, if_pos rfl]
  refine ⟨rfl, G, rfl, by rw [e]; exact hR, kfr, fun h => ⟨hi, k10.trans hc.symm, ?_⟩⟩
  rw [e] at h
  obtain ⟨q4, -⟩ := nS_ok h
  obtain ⟨q1, -, -, e2⟩ := dS_ok q4
  obtain ⟨q0, -, -, e1⟩ := dS_ok q1
  have k12 := k12 h
  rw [if_pos q1] at k11
  rw [e2, e1] at k12
  unfold oV
  rw [hc, if_neg n98.2.1, if_neg n105.1, if_pos rfl]
  exact ⟨k11, k12⟩
theorem ordA (hi : i < L) (hc : m 200 i = 97) (hR : RF G L (dS (m 200) L 48 57 (i + 1, true))) (k10 : G 10 = 97) (kfr : ∀ k, k < 8 → G k = F k) (k11 : G 11 = if (dS (m 200) L 48 57 (i + 1, true)).2 = true then m 200 (i + 1) - 48 else 0) : OrdFin m s F L i none (RM m G s) := by
  have e : oS (m 200) L i = dS (m 200) L 48 57 (i + 1, true) := by unfold oS; rw [if_pos hi, hc, if_neg n98.2.2.1, if_neg n105.2.1, if_neg n111.1, if_pos rfl]
  refine ⟨rfl, G, rfl, by rw [e]; exact hR, kfr, fun h => ⟨hi, k10.trans hc.symm, ?_⟩⟩
  rw [e] at h
  rw [if_pos h] at k11
  unfold oV
  rw [hc, if_neg n98.2.2.1, if_neg n105.2.1, if_neg n111.1, if_pos rfl]
  exact k11
theorem ordW (hi : i < L) (hc : m 200 i = 119) (hR : RF G L (dS (m 200) L 48 57 (dS (m 200) L 48 57 (i + 1, true)))) (k10 : G 10 = 119) (kfr : ∀ k, k < 8 → G k = F k) (k11 : G 11 = if (dS (m 200) L 48 57 (i + 1, true)).2 = true then m 200 (i + 1) - 48 else 0) (k12 : G 12 = if (dS (m 200) L 48 57 (dS (m 200) L 48 57 (i + 1, true))).2 = true then m 200 (dS (m 200) L 48 57 (i + 1, true)).1 - 48 else 0) : OrdFin m s F L i none (RM m G s) := by
  have e : oS (m 200) L i = dS (m 200) L 48 57 (dS (m 200) L 48 57 (i + 1, true)) := by unfold oS; rw [if_pos hi, hc, if_neg n98.2.2.2.1, if_neg n105.2.2.1, if_neg n111.2.1, if_neg n97.1, if_pos rfl]
  refine ⟨rfl, G, rfl, by rw [e]; exact hR, kfr, fun h => ⟨hi, k10.trans hc.symm, ?_⟩⟩
  rw [e] at h
  obtain ⟨q1, -, -, e2⟩ := dS_ok h
  obtain ⟨q0, -, -, e1⟩ := dS_ok q1
  rw [if_pos q1] at k11
  rw [if_pos h, e1] at k12
  unfold oV
  rw [hc, if_neg n98.2.2.2.1, if_neg n105.2.2.1, if_neg n111.2.1, if_neg n97.1, if_pos rfl]
  exact ⟨k11, k12⟩
theorem ordT (hi : i < L) (hc : m 200 i = 116) (hR : RF G L (nS (m 200) L (i + 1, true))) (k10 : G 10 = 116) (kfr : ∀ k, k < 8 → G k = F k) (k11 : (nS (m 200) L (i + 1, true)).2 = true → G 11 = nV (m 200) L (i + 1)) : OrdFin m s F L i none (RM m G s) := by
  have e : oS (m 200) L i = nS (m 200) L (i + 1, true) := by unfold oS; rw [if_pos hi, hc, if_neg n98.2.2.2.2, if_neg n105.2.2.2, if_neg n111.2.2, if_neg n97.2.1, if_neg n97.2.2, if_pos rfl]
  refine ⟨rfl, G, rfl, by rw [e]; exact hR, kfr, fun h => ⟨hi, k10.trans hc.symm, ?_⟩⟩
  rw [e] at h
  unfold oV
  rw [hc, if_neg n98.2.2.2.2, if_neg n105.2.2.2, if_neg n111.2.2, if_neg n97.2.1, if_neg n97.2.2]
  exact k11 h
theorem ordX (e : oS (m 200) L i = (i, false)) (hR : RF G L (i, false)) (kfr : ∀ k, k < 8 → G k = F k) : OrdFin m s F L i none (RM m G s) :=
  ⟨rfl, G, rfl, by rw [e]; exact hR, kfr, fun h => absurd (show false = true by rw [e] at h; exact h) (by decide)⟩
theorem dS_f {P : Nat → Int32} {lo hi : Int32} : dS P L lo hi (i, false) = (i, false) := by unfold dS; rw [if_neg (show ¬ (false = true) by decide)]
end ORD
set_option maxRecDepth 100000 in
set_option maxHeartbeats 4000000 in
theorem ro_b {X : jX} {ad : Nat → Nat} {m : Mem} {s : Rw} {F : Nat → Int32} {L i : Nat} (hR : RF F L (i, true)) (hi : i < L) (hc : m 200 i = 98) : Cm X yX6_readOrder cX6_readOrder 2 (none) 4 ad [.ref 195] (RM m F s) (OrdFin m s F L i) := by
  refine Cm.of (own := RX6) (nm := "readOrder") (by decide +kernel) rfl rfl rfl rfl ?_
  refine J_aload_n dX6_readOrder_0 rfl rfl ?_
  refine J_aload_n dX6_readOrder_1 rfl rfl ?_
  refine gR_spot wf_X6_167 dX6_readOrder_2 ?_
  refine J_topi (fun z9 hz9 => ?_)
  obtain rfl : z9 = (nI i) := hz9.trans (by exact hR.2.1)
  clear hz9
  refine J_aload_n dX6_readOrder_5 rfl rfl ?_
  refine gR_length wf_X6_152 dX6_readOrder_6 ?_
  refine J_topi (fun z9 hz9 => ?_)
  obtain rfl : z9 = (nI L) := hz9.trans (by exact hR.1)
  clear hz9
  refine J_icmp_ge (tgt := 24) dX6_readOrder_9 (by decide) (fun h9 => absurd h9 (nI_nle1 hi (by have := hR.2.2.2.2; omega))) (fun h9 => ?_)
  refine J_aload_n dX6_readOrder_12 rfl rfl ?_
  refine gX6_pad wf_X6_22 dX6_readOrder_13 ?_
  refine J_aload_n dX6_readOrder_16 rfl rfl ?_
  refine gR_spot wf_X6_167 dX6_readOrder_17 ?_
  refine J_topi (fun z9 hz9 => ?_)
  obtain rfl : z9 = (nI i) := hz9.trans (by exact hR.2.1)
  clear hz9
  refine rR_pad i (by have := hR.2.2.2.2; omega) rfl dX6_readOrder_20 ?_
  refine J_topi (fun z9 hz9 => ?_)
  obtain rfl : z9 = 98 := hz9.trans (by exact hc)
  clear hz9
  refine J_goto (tgt := 25) dX6_readOrder_21 (by decide) ?_
  refine pR_letter wf_X6_176 dX6_readOrder_25 ?_
  refine J_aload_n dX6_readOrder_28 rfl rfl ?_
  refine J_aload_n dX6_readOrder_29 rfl rfl ?_
  refine gR_isFaulty wf_X6_163 dX6_readOrder_30 ?_
  refine J_topi (fun z9 hz9 => ?_)
  obtain rfl : z9 = 0 := hz9.trans (by exact hR.2.2.1)
  clear hz9
  refine J_if_ne (tgt := 90) dX6_readOrder_33 (by decide) (fun h33 => absurd (by decide) h33) (fun h33 => ?_)
  refine J_aload_n dX6_readOrder_36 rfl rfl ?_
  refine gR_letter wf_X6_176 dX6_readOrder_37 ?_
  refine J_topi (fun z9 hz9 => ?_)
  obtain rfl : z9 = 98 := hz9.trans (by rfl)
  clear hz9
  refine J_bipush (v := 98) dX6_readOrder_40 (by decide) ?_
  refine J_icmp_eq (tgt := 94) dX6_readOrder_42 (by decide) (fun h42 => ?_) (fun h42 => absurd (by decide) h42)
  refine J_iconst (v := 0) dX6_readOrder_94 (by decide) ?_
  refine pR_isFaulty wf_X6_163 dX6_readOrder_95 (by first | exact Or.inl rfl | exact Or.inr rfl | exact i01 | exact jin01) ?_
  refine J_aload_n dX6_readOrder_98 rfl rfl ?_
  refine J_dup dX6_readOrder_99 rfl ?_
  refine gR_spot wf_X6_167 dX6_readOrder_100 ?_
  refine J_topi (fun z9 hz9 => ?_)
  obtain rfl : z9 = (nI i) := hz9.trans (by exact hR.2.1)
  clear hz9
  refine J_aload_n dX6_readOrder_103 rfl rfl ?_
  refine gR_isFaulty wf_X6_163 dX6_readOrder_104 ?_
  refine J_topi (fun z9 hz9 => ?_)
  obtain rfl : z9 = 0 := hz9.trans (by rfl)
  clear hz9
  refine J_if_eq (tgt := 114) dX6_readOrder_107 (by decide) (fun h107 => ?_) (fun h107 => absurd (by decide) h107)
  refine J_iconst (v := 1) dX6_readOrder_114 (by decide) ?_
  refine J_iadd dX6_readOrder_115 ?_
  refine pR_spot wf_X6_167 dX6_readOrder_116 ?_
  replace hR := ro_start (c := 98) hR hi
  have k10 : upd (upd (upd F 10 98) 9 0) 8 (nI i + 1) 10 = 98 := rfl
  have kfr : ∀ k, k < 8 → upd (upd (upd F 10 98) 9 0) 8 (nI i + 1) k = F k := fun k hk => by rw [upd_at, if_neg (by omega), upd_at, if_neg (by omega), upd_at, if_neg (by omega)]
  refine J_aload_n dX6_readOrder_119 rfl rfl ?_
  refine J_aload_n dX6_readOrder_120 rfl rfl ?_
  refine gR_letter wf_X6_176 dX6_readOrder_121 ?_
  refine J_topi (fun z9 hz9 => ?_)
  obtain rfl : z9 = 98 := hz9.trans (by exact k10)
  clear hz9
  refine J_bipush (v := 98) dX6_readOrder_124 (by decide) ?_
  refine J_icmp_eq (tgt := 138) dX6_readOrder_126 (by decide) (fun h126 => ?_) (fun h126 => absurd (by decide) h126)
  refine J_aload_n dX6_readOrder_138 rfl rfl ?_
  refine cVg wv_X6_179 (c_X6_number hR) dX6_readOrder_139 ob6 rfl rfl (kk := (fun v m9 hf => ?_))
  obtain ⟨G, a, rfl, rfl, hv, hR, hfr⟩ := hf
  have k10 := (hfr 10 (by decide) (by decide)).trans k10
  have kfr := fun k (hk : k < 8) => (hfr k (by omega) (by omega)).trans (kfr k hk)
  refine J_goto (tgt := 153) dX6_readOrder_142 (by decide) ?_
  refine pR_first wf_X6_182 dX6_readOrder_153 ?_
  replace hR := RF_upd (k := 11) (v := a) hR (by decide)
  have k10 : upd G 11 (a) 10 = _ := k10
  have kfr : ∀ k, k < 8 → upd G 11 (a) k = F k := fun k hk => by rw [upd_at, if_neg (by omega)]; exact kfr k hk
  have k11 : (nS (m 200) L (i + 1, true)).2 = true → upd G 11 (a) 11 = nV (m 200) L (i + 1) := hv
  refine J_aload_n dX6_readOrder_156 rfl rfl ?_
  refine gR_letter wf_X6_176 dX6_readOrder_157 ?_
  refine J_topi (fun z9 hz9 => ?_)
  obtain rfl : z9 = 98 := hz9.trans (by exact k10)
  clear hz9
  refine J_bipush (v := 98) dX6_readOrder_160 (by decide) ?_
  refine J_icmp_eq (tgt := 183) dX6_readOrder_162 (by decide) (fun h162 => ?_) (fun h162 => absurd (by decide) h162)
  refine J_aload_n dX6_readOrder_183 rfl rfl ?_
  refine J_aload_n dX6_readOrder_184 rfl rfl ?_
  refine gR_letter wf_X6_176 dX6_readOrder_185 ?_
  refine J_topi (fun z9 hz9 => ?_)
  obtain rfl : z9 = 98 := hz9.trans (by exact k10)
  clear hz9
  refine cSi ws_X6_185 (c_X6_between) dX6_readOrder_188 (kk := ?_)
  refine J_topi (fun z9 hz9 => ?_)
  obtain rfl : z9 = 46 := hz9.trans (by decide)
  clear hz9
  refine J_aload_n dX6_readOrder_191 rfl rfl ?_
  refine gR_letter wf_X6_176 dX6_readOrder_192 ?_
  refine J_topi (fun z9 hz9 => ?_)
  obtain rfl : z9 = 98 := hz9.trans (by exact k10)
  clear hz9
  refine cSi ws_X6_185 (c_X6_between) dX6_readOrder_195 (kk := ?_)
  refine J_topi (fun z9 hz9 => ?_)
  obtain rfl : z9 = 46 := hz9.trans (by decide)
  clear hz9
  refine cVg wv_X6_173 (c_X6_takes (lo := 46) (hi := 46) hR) dX6_readOrder_198 ob6 rfl rfl (kk := (fun v m9 hf => ?_))
  obtain ⟨G, rfl, rfl, hR, hfr⟩ := hf
  have k10 := (hfr 10 (by decide) (by decide)).trans k10
  have kfr := fun k (hk : k < 8) => (hfr k (by omega) (by omega)).trans (kfr k hk)
  have k11 := fun q => (hfr 11 (by decide) (by decide)).trans (k11 q)
  refine J_istore_n dX6_readOrder_201 rfl rfl rfl ?_
  refine J_aload_n dX6_readOrder_202 rfl rfl ?_
  refine J_aload_n dX6_readOrder_203 rfl rfl ?_
  refine gR_letter wf_X6_176 dX6_readOrder_204 ?_
  refine J_topi (fun z9 hz9 => ?_)
  obtain rfl : z9 = 98 := hz9.trans (by exact k10)
  clear hz9
  refine J_bipush (v := 105) dX6_readOrder_207 (by decide) ?_
  refine J_icmp_ne (tgt := 223) dX6_readOrder_209 (by decide) (fun h209 => ?_) (fun h209 => absurd h209 (by decide))
  refine J_aload_n dX6_readOrder_223 rfl rfl ?_
  refine cVg wv_X6_179 (c_X6_number hR) dX6_readOrder_224 ob6 rfl rfl (kk := (fun v m9 hf => ?_))
  obtain ⟨G, a, rfl, rfl, hv, hR, hfr⟩ := hf
  have k10 := (hfr 10 (by decide) (by decide)).trans k10
  have kfr := fun k (hk : k < 8) => (hfr k (by omega) (by omega)).trans (kfr k hk)
  have k11 := fun q => (hfr 11 (by decide) (by decide)).trans (k11 q)
  refine pR_second wf_X6_188 dX6_readOrder_227 ?_
  replace hR := RF_upd (k := 12) (v := a) hR (by decide)
  have k10 : upd G 12 (a) 10 = _ := k10
  have kfr : ∀ k, k < 8 → upd G 12 (a) k = F k := fun k hk => by rw [upd_at, if_neg (by omega)]; exact kfr k hk
  have k11 : (nS (m 200) L (i + 1, true)).2 = true → upd G 12 (a) 11 = nV (m 200) L (i + 1) := k11
  have k12 : (nS (m 200) L (dS (m 200) L 46 46 (nS (m 200) L (i + 1, true)))).2 = true → upd G 12 (a) 12 = nV (m 200) L (dS (m 200) L 46 46 (nS (m 200) L (i + 1, true))).1 := hv
  refine J_aload_n dX6_readOrder_230 rfl rfl ?_
  refine gR_letter wf_X6_176 dX6_readOrder_231 ?_
  refine J_topi (fun z9 hz9 => ?_)
  obtain rfl : z9 = 98 := hz9.trans (by exact k10)
  clear hz9
  refine J_bipush (v := 105) dX6_readOrder_234 (by decide) ?_
  refine J_icmp_ne (tgt := 256) dX6_readOrder_236 (by decide) (fun h236 => ?_) (fun h236 => absurd h236 (by decide))
  refine J_aload_n dX6_readOrder_256 rfl rfl ?_
  refine gR_letter wf_X6_176 dX6_readOrder_257 ?_
  refine J_topi (fun z9 hz9 => ?_)
  obtain rfl : z9 = 98 := hz9.trans (by exact k10)
  clear hz9
  refine J_bipush (v := 119) dX6_readOrder_260 (by decide) ?_
  refine J_icmp_ne (tgt := 277) dX6_readOrder_262 (by decide) (fun h262 => ?_) (fun h262 => absurd h262 (by decide))
  refine r_void dX6_readOrder_277 ?_
  exact ordB hi hc hR k10 kfr k11 k12

set_option maxRecDepth 100000 in
set_option maxHeartbeats 4000000 in
theorem ro_i {X : jX} {ad : Nat → Nat} {m : Mem} {s : Rw} {F : Nat → Int32} {L i : Nat} (hR : RF F L (i, true)) (hi : i < L) (hc : m 200 i = 105) : Cm X yX6_readOrder cX6_readOrder 2 (none) 4 ad [.ref 195] (RM m F s) (OrdFin m s F L i) := by
  refine Cm.of (own := RX6) (nm := "readOrder") (by decide +kernel) rfl rfl rfl rfl ?_
  refine J_aload_n dX6_readOrder_0 rfl rfl ?_
  refine J_aload_n dX6_readOrder_1 rfl rfl ?_
  refine gR_spot wf_X6_167 dX6_readOrder_2 ?_
  refine J_topi (fun z9 hz9 => ?_)
  obtain rfl : z9 = (nI i) := hz9.trans (by exact hR.2.1)
  clear hz9
  refine J_aload_n dX6_readOrder_5 rfl rfl ?_
  refine gR_length wf_X6_152 dX6_readOrder_6 ?_
  refine J_topi (fun z9 hz9 => ?_)
  obtain rfl : z9 = (nI L) := hz9.trans (by exact hR.1)
  clear hz9
  refine J_icmp_ge (tgt := 24) dX6_readOrder_9 (by decide) (fun h9 => absurd h9 (nI_nle1 hi (by have := hR.2.2.2.2; omega))) (fun h9 => ?_)
  refine J_aload_n dX6_readOrder_12 rfl rfl ?_
  refine gX6_pad wf_X6_22 dX6_readOrder_13 ?_
  refine J_aload_n dX6_readOrder_16 rfl rfl ?_
  refine gR_spot wf_X6_167 dX6_readOrder_17 ?_
  refine J_topi (fun z9 hz9 => ?_)
  obtain rfl : z9 = (nI i) := hz9.trans (by exact hR.2.1)
  clear hz9
  refine rR_pad i (by have := hR.2.2.2.2; omega) rfl dX6_readOrder_20 ?_
  refine J_topi (fun z9 hz9 => ?_)
  obtain rfl : z9 = 105 := hz9.trans (by exact hc)
  clear hz9
  refine J_goto (tgt := 25) dX6_readOrder_21 (by decide) ?_
  refine pR_letter wf_X6_176 dX6_readOrder_25 ?_
  refine J_aload_n dX6_readOrder_28 rfl rfl ?_
  refine J_aload_n dX6_readOrder_29 rfl rfl ?_
  refine gR_isFaulty wf_X6_163 dX6_readOrder_30 ?_
  refine J_topi (fun z9 hz9 => ?_)
  obtain rfl : z9 = 0 := hz9.trans (by exact hR.2.2.1)
  clear hz9
  refine J_if_ne (tgt := 90) dX6_readOrder_33 (by decide) (fun h33 => absurd (by decide) h33) (fun h33 => ?_)
  refine J_aload_n dX6_readOrder_36 rfl rfl ?_
  refine gR_letter wf_X6_176 dX6_readOrder_37 ?_
  refine J_topi (fun z9 hz9 => ?_)
  obtain rfl : z9 = 105 := hz9.trans (by rfl)
  clear hz9
  refine J_bipush (v := 98) dX6_readOrder_40 (by decide) ?_
  refine J_icmp_eq (tgt := 94) dX6_readOrder_42 (by decide) (fun h42 => absurd h42 (by decide)) (fun h42 => ?_)
  refine J_aload_n dX6_readOrder_45 rfl rfl ?_
  refine gR_letter wf_X6_176 dX6_readOrder_46 ?_
  refine J_topi (fun z9 hz9 => ?_)
  obtain rfl : z9 = 105 := hz9.trans (by rfl)
  clear hz9
  refine J_bipush (v := 105) dX6_readOrder_49 (by decide) ?_
  refine J_icmp_eq (tgt := 94) dX6_readOrder_51 (by decide) (fun h51 => ?_) (fun h51 => absurd (by decide) h51)
  refine J_iconst (v := 0) dX6_readOrder_94 (by decide) ?_
  refine pR_isFaulty wf_X6_163 dX6_readOrder_95 (by first | exact Or.inl rfl | exact Or.inr rfl | exact i01 | exact jin01) ?_
  refine J_aload_n dX6_readOrder_98 rfl rfl ?_
  refine J_dup dX6_readOrder_99 rfl ?_
  refine gR_spot wf_X6_167 dX6_readOrder_100 ?_
  refine J_topi (fun z9 hz9 => ?_)
  obtain rfl : z9 = (nI i) := hz9.trans (by exact hR.2.1)
  clear hz9
  refine J_aload_n dX6_readOrder_103 rfl rfl ?_
  refine gR_isFaulty wf_X6_163 dX6_readOrder_104 ?_
  refine J_topi (fun z9 hz9 => ?_)
  obtain rfl : z9 = 0 := hz9.trans (by rfl)
  clear hz9
  refine J_if_eq (tgt := 114) dX6_readOrder_107 (by decide) (fun h107 => ?_) (fun h107 => absurd (by decide) h107)
  refine J_iconst (v := 1) dX6_readOrder_114 (by decide) ?_
  refine J_iadd dX6_readOrder_115 ?_
  refine pR_spot wf_X6_167 dX6_readOrder_116 ?_
  replace hR := ro_start (c := 105) hR hi
  have k10 : upd (upd (upd F 10 105) 9 0) 8 (nI i + 1) 10 = 105 := rfl
  have kfr : ∀ k, k < 8 → upd (upd (upd F 10 105) 9 0) 8 (nI i + 1) k = F k := fun k hk => by rw [upd_at, if_neg (by omega), upd_at, if_neg (by omega), upd_at, if_neg (by omega)]
  refine J_aload_n dX6_readOrder_119 rfl rfl ?_
  refine J_aload_n dX6_readOrder_120 rfl rfl ?_
  refine gR_letter wf_X6_176 dX6_readOrder_121 ?_
  refine J_topi (fun z9 hz9 => ?_)
  obtain rfl : z9 = 105 := hz9.trans (by exact k10)
  clear hz9
  refine J_bipush (v := 98) dX6_readOrder_124 (by decide) ?_
  refine J_icmp_eq (tgt := 138) dX6_readOrder_126 (by decide) (fun h126 => absurd h126 (by decide)) (fun h126 => ?_)
  refine J_aload_n dX6_readOrder_129 rfl rfl ?_
  refine gR_letter wf_X6_176 dX6_readOrder_130 ?_
  refine J_topi (fun z9 hz9 => ?_)
  obtain rfl : z9 = 105 := hz9.trans (by exact k10)
  clear hz9
  refine J_bipush (v := 116) dX6_readOrder_133 (by decide) ?_
  refine J_icmp_ne (tgt := 145) dX6_readOrder_135 (by decide) (fun h135 => ?_) (fun h135 => absurd h135 (by decide))
  refine J_aload_n dX6_readOrder_145 rfl rfl ?_
  refine J_bipush (v := 48) dX6_readOrder_146 (by decide) ?_
  refine J_bipush (v := 57) dX6_readOrder_148 (by decide) ?_
  refine cVg wv_X6_173 (c_X6_takes (lo := 48) (hi := 57) hR) dX6_readOrder_150 ob6 rfl rfl (kk := (fun v m9 hf => ?_))
  obtain ⟨G, rfl, rfl, hR, hfr⟩ := hf
  have k10 := (hfr 10 (by decide) (by decide)).trans k10
  have kfr := fun k (hk : k < 8) => (hfr k (by omega) (by omega)).trans (kfr k hk)
  refine pR_first wf_X6_182 dX6_readOrder_153 ?_
  replace hR := RF_upd (k := 11) (v := if (dS (m 200) L 48 57 (i + 1, true)).2 = true then m 200 (i + 1) - 48 else 0) hR (by decide)
  have k10 : upd G 11 (if (dS (m 200) L 48 57 (i + 1, true)).2 = true then m 200 (i + 1) - 48 else 0) 10 = _ := k10
  have kfr : ∀ k, k < 8 → upd G 11 (if (dS (m 200) L 48 57 (i + 1, true)).2 = true then m 200 (i + 1) - 48 else 0) k = F k := fun k hk => by rw [upd_at, if_neg (by omega)]; exact kfr k hk
  have k11 : upd G 11 (if (dS (m 200) L 48 57 (i + 1, true)).2 = true then m 200 (i + 1) - 48 else 0) 11 = if (dS (m 200) L 48 57 (i + 1, true)).2 = true then m 200 (i + 1) - 48 else 0 := rfl
  refine J_aload_n dX6_readOrder_156 rfl rfl ?_
  refine gR_letter wf_X6_176 dX6_readOrder_157 ?_
  refine J_topi (fun z9 hz9 => ?_)
  obtain rfl : z9 = 105 := hz9.trans (by exact k10)
  clear hz9
  refine J_bipush (v := 98) dX6_readOrder_160 (by decide) ?_
  refine J_icmp_eq (tgt := 183) dX6_readOrder_162 (by decide) (fun h162 => absurd h162 (by decide)) (fun h162 => ?_)
  refine J_aload_n dX6_readOrder_165 rfl rfl ?_
  refine gR_letter wf_X6_176 dX6_readOrder_166 ?_
  refine J_topi (fun z9 hz9 => ?_)
  obtain rfl : z9 = 105 := hz9.trans (by exact k10)
  clear hz9
  refine J_bipush (v := 105) dX6_readOrder_169 (by decide) ?_
  refine J_icmp_eq (tgt := 183) dX6_readOrder_171 (by decide) (fun h171 => ?_) (fun h171 => absurd (by decide) h171)
  refine J_aload_n dX6_readOrder_183 rfl rfl ?_
  refine J_aload_n dX6_readOrder_184 rfl rfl ?_
  refine gR_letter wf_X6_176 dX6_readOrder_185 ?_
  refine J_topi (fun z9 hz9 => ?_)
  obtain rfl : z9 = 105 := hz9.trans (by exact k10)
  clear hz9
  refine cSi ws_X6_185 (c_X6_between) dX6_readOrder_188 (kk := ?_)
  refine J_topi (fun z9 hz9 => ?_)
  obtain rfl : z9 = 64 := hz9.trans (by decide)
  clear hz9
  refine J_aload_n dX6_readOrder_191 rfl rfl ?_
  refine gR_letter wf_X6_176 dX6_readOrder_192 ?_
  refine J_topi (fun z9 hz9 => ?_)
  obtain rfl : z9 = 105 := hz9.trans (by exact k10)
  clear hz9
  refine cSi ws_X6_185 (c_X6_between) dX6_readOrder_195 (kk := ?_)
  refine J_topi (fun z9 hz9 => ?_)
  obtain rfl : z9 = 64 := hz9.trans (by decide)
  clear hz9
  refine cVg wv_X6_173 (c_X6_takes (lo := 64) (hi := 64) hR) dX6_readOrder_198 ob6 rfl rfl (kk := (fun v m9 hf => ?_))
  obtain ⟨G, rfl, rfl, hR, hfr⟩ := hf
  have k10 := (hfr 10 (by decide) (by decide)).trans k10
  have kfr := fun k (hk : k < 8) => (hfr k (by omega) (by omega)).trans (kfr k hk)
  have k11 := (hfr 11 (by decide) (by decide)).trans k11
  refine J_istore_n dX6_readOrder_201 rfl rfl rfl ?_
  refine J_aload_n dX6_readOrder_202 rfl rfl ?_
  refine J_aload_n dX6_readOrder_203 rfl rfl ?_
  refine gR_letter wf_X6_176 dX6_readOrder_204 ?_
  refine J_topi (fun z9 hz9 => ?_)
  obtain rfl : z9 = 105 := hz9.trans (by exact k10)
  clear hz9
  refine J_bipush (v := 105) dX6_readOrder_207 (by decide) ?_
  refine J_icmp_ne (tgt := 223) dX6_readOrder_209 (by decide) (fun h209 => absurd (by decide) h209) (fun h209 => ?_)
  refine J_aload_n dX6_readOrder_212 rfl rfl ?_
  refine J_bipush (v := 48) dX6_readOrder_213 (by decide) ?_
  refine J_bipush (v := 57) dX6_readOrder_215 (by decide) ?_
  refine cVg wv_X6_173 (c_X6_takes (lo := 48) (hi := 57) hR) dX6_readOrder_217 ob6 rfl rfl (kk := (fun v m9 hf => ?_))
  obtain ⟨G, rfl, rfl, hR, hfr⟩ := hf
  have k10 := (hfr 10 (by decide) (by decide)).trans k10
  have kfr := fun k (hk : k < 8) => (hfr k (by omega) (by omega)).trans (kfr k hk)
  have k11 := (hfr 11 (by decide) (by decide)).trans k11
  refine J_goto (tgt := 227) dX6_readOrder_220 (by decide) ?_
  refine pR_second wf_X6_188 dX6_readOrder_227 ?_
  replace hR := RF_upd (k := 12) (v := if (dS (m 200) L 48 57 (dS (m 200) L 64 64 (dS (m 200) L 48 57 (i + 1, true)))).2 = true then m 200 (dS (m 200) L 64 64 (dS (m 200) L 48 57 (i + 1, true))).1 - 48 else 0) hR (by decide)
  have k10 : upd G 12 (if (dS (m 200) L 48 57 (dS (m 200) L 64 64 (dS (m 200) L 48 57 (i + 1, true)))).2 = true then m 200 (dS (m 200) L 64 64 (dS (m 200) L 48 57 (i + 1, true))).1 - 48 else 0) 10 = _ := k10
  have kfr : ∀ k, k < 8 → upd G 12 (if (dS (m 200) L 48 57 (dS (m 200) L 64 64 (dS (m 200) L 48 57 (i + 1, true)))).2 = true then m 200 (dS (m 200) L 64 64 (dS (m 200) L 48 57 (i + 1, true))).1 - 48 else 0) k = F k := fun k hk => by rw [upd_at, if_neg (by omega)]; exact kfr k hk
  have k11 : upd G 12 (if (dS (m 200) L 48 57 (dS (m 200) L 64 64 (dS (m 200) L 48 57 (i + 1, true)))).2 = true then m 200 (dS (m 200) L 64 64 (dS (m 200) L 48 57 (i + 1, true))).1 - 48 else 0) 11 = if (dS (m 200) L 48 57 (i + 1, true)).2 = true then m 200 (i + 1) - 48 else 0 := k11
  have k12 : upd G 12 (if (dS (m 200) L 48 57 (dS (m 200) L 64 64 (dS (m 200) L 48 57 (i + 1, true)))).2 = true then m 200 (dS (m 200) L 64 64 (dS (m 200) L 48 57 (i + 1, true))).1 - 48 else 0) 12 = if (dS (m 200) L 48 57 (dS (m 200) L 64 64 (dS (m 200) L 48 57 (i + 1, true)))).2 = true then m 200 (dS (m 200) L 64 64 (dS (m 200) L 48 57 (i + 1, true))).1 - 48 else 0 := rfl
  refine J_aload_n dX6_readOrder_230 rfl rfl ?_
  refine gR_letter wf_X6_176 dX6_readOrder_231 ?_
  refine J_topi (fun z9 hz9 => ?_)
  obtain rfl : z9 = 105 := hz9.trans (by exact k10)
  clear hz9
  refine J_bipush (v := 105) dX6_readOrder_234 (by decide) ?_
  refine J_icmp_ne (tgt := 256) dX6_readOrder_236 (by decide) (fun h236 => absurd (by decide) h236) (fun h236 => ?_)
  refine J_aload_n dX6_readOrder_239 rfl rfl ?_
  refine J_bipush (v := 43) dX6_readOrder_240 (by decide) ?_
  refine J_bipush (v := 43) dX6_readOrder_242 (by decide) ?_
  refine cVg wv_X6_173 (c_X6_takes (lo := 43) (hi := 43) hR) dX6_readOrder_244 ob6 rfl rfl (kk := (fun v m9 hf => ?_))
  obtain ⟨G, rfl, rfl, hR, hfr⟩ := hf
  have k10 := (hfr 10 (by decide) (by decide)).trans k10
  have kfr := fun k (hk : k < 8) => (hfr k (by omega) (by omega)).trans (kfr k hk)
  have k11 := (hfr 11 (by decide) (by decide)).trans k11
  have k12 := (hfr 12 (by decide) (by decide)).trans k12
  refine J_istore_n dX6_readOrder_247 rfl rfl rfl ?_
  refine J_aload_n dX6_readOrder_248 rfl rfl ?_
  refine J_aload_n dX6_readOrder_249 rfl rfl ?_
  refine cVg wv_X6_179 (c_X6_number hR) dX6_readOrder_250 ob6 rfl rfl (kk := (fun v m9 hf => ?_))
  obtain ⟨G, a, rfl, rfl, hv, hR, hfr⟩ := hf
  have k10 := (hfr 10 (by decide) (by decide)).trans k10
  have kfr := fun k (hk : k < 8) => (hfr k (by omega) (by omega)).trans (kfr k hk)
  have k11 := (hfr 11 (by decide) (by decide)).trans k11
  have k12 := (hfr 12 (by decide) (by decide)).trans k12
  refine pR_third wf_X6_191 dX6_readOrder_253 ?_
  replace hR := RF_upd (k := 13) (v := a) hR (by decide)
  have k10 : upd G 13 (a) 10 = _ := k10
  have kfr : ∀ k, k < 8 → upd G 13 (a) k = F k := fun k hk => by rw [upd_at, if_neg (by omega)]; exact kfr k hk
  have k11 : upd G 13 (a) 11 = if (dS (m 200) L 48 57 (i + 1, true)).2 = true then m 200 (i + 1) - 48 else 0 := k11
  have k12 : upd G 13 (a) 12 = if (dS (m 200) L 48 57 (dS (m 200) L 64 64 (dS (m 200) L 48 57 (i + 1, true)))).2 = true then m 200 (dS (m 200) L 64 64 (dS (m 200) L 48 57 (i + 1, true))).1 - 48 else 0 := k12
  have k13 : (nS (m 200) L (dS (m 200) L 43 43 (dS (m 200) L 48 57 (dS (m 200) L 64 64 (dS (m 200) L 48 57 (i + 1, true)))))).2 = true → upd G 13 (a) 13 = nV (m 200) L (dS (m 200) L 43 43 (dS (m 200) L 48 57 (dS (m 200) L 64 64 (dS (m 200) L 48 57 (i + 1, true))))).1 := hv
  refine J_aload_n dX6_readOrder_256 rfl rfl ?_
  refine gR_letter wf_X6_176 dX6_readOrder_257 ?_
  refine J_topi (fun z9 hz9 => ?_)
  obtain rfl : z9 = 105 := hz9.trans (by exact k10)
  clear hz9
  refine J_bipush (v := 119) dX6_readOrder_260 (by decide) ?_
  refine J_icmp_ne (tgt := 277) dX6_readOrder_262 (by decide) (fun h262 => ?_) (fun h262 => absurd h262 (by decide))
  refine r_void dX6_readOrder_277 ?_
  exact ordI hi hc hR k10 kfr k11 k12 k13

set_option maxRecDepth 100000 in
set_option maxHeartbeats 4000000 in
theorem ro_o {X : jX} {ad : Nat → Nat} {m : Mem} {s : Rw} {F : Nat → Int32} {L i : Nat} (hR : RF F L (i, true)) (hi : i < L) (hc : m 200 i = 111) : Cm X yX6_readOrder cX6_readOrder 2 (none) 4 ad [.ref 195] (RM m F s) (OrdFin m s F L i) := by
  refine Cm.of (own := RX6) (nm := "readOrder") (by decide +kernel) rfl rfl rfl rfl ?_
  refine J_aload_n dX6_readOrder_0 rfl rfl ?_
  refine J_aload_n dX6_readOrder_1 rfl rfl ?_
  refine gR_spot wf_X6_167 dX6_readOrder_2 ?_
  refine J_topi (fun z9 hz9 => ?_)
  obtain rfl : z9 = (nI i) := hz9.trans (by exact hR.2.1)
  clear hz9
  refine J_aload_n dX6_readOrder_5 rfl rfl ?_
  refine gR_length wf_X6_152 dX6_readOrder_6 ?_
  refine J_topi (fun z9 hz9 => ?_)
  obtain rfl : z9 = (nI L) := hz9.trans (by exact hR.1)
  clear hz9
  refine J_icmp_ge (tgt := 24) dX6_readOrder_9 (by decide) (fun h9 => absurd h9 (nI_nle1 hi (by have := hR.2.2.2.2; omega))) (fun h9 => ?_)
  refine J_aload_n dX6_readOrder_12 rfl rfl ?_
  refine gX6_pad wf_X6_22 dX6_readOrder_13 ?_
  refine J_aload_n dX6_readOrder_16 rfl rfl ?_
  refine gR_spot wf_X6_167 dX6_readOrder_17 ?_
  refine J_topi (fun z9 hz9 => ?_)
  obtain rfl : z9 = (nI i) := hz9.trans (by exact hR.2.1)
  clear hz9
  refine rR_pad i (by have := hR.2.2.2.2; omega) rfl dX6_readOrder_20 ?_
  refine J_topi (fun z9 hz9 => ?_)
  obtain rfl : z9 = 111 := hz9.trans (by exact hc)
  clear hz9
  refine J_goto (tgt := 25) dX6_readOrder_21 (by decide) ?_
  refine pR_letter wf_X6_176 dX6_readOrder_25 ?_
  refine J_aload_n dX6_readOrder_28 rfl rfl ?_
  refine J_aload_n dX6_readOrder_29 rfl rfl ?_
  refine gR_isFaulty wf_X6_163 dX6_readOrder_30 ?_
  refine J_topi (fun z9 hz9 => ?_)
  obtain rfl : z9 = 0 := hz9.trans (by exact hR.2.2.1)
  clear hz9
  refine J_if_ne (tgt := 90) dX6_readOrder_33 (by decide) (fun h33 => absurd (by decide) h33) (fun h33 => ?_)
  refine J_aload_n dX6_readOrder_36 rfl rfl ?_
  refine gR_letter wf_X6_176 dX6_readOrder_37 ?_
  refine J_topi (fun z9 hz9 => ?_)
  obtain rfl : z9 = 111 := hz9.trans (by rfl)
  clear hz9
  refine J_bipush (v := 98) dX6_readOrder_40 (by decide) ?_
  refine J_icmp_eq (tgt := 94) dX6_readOrder_42 (by decide) (fun h42 => absurd h42 (by decide)) (fun h42 => ?_)
  refine J_aload_n dX6_readOrder_45 rfl rfl ?_
  refine gR_letter wf_X6_176 dX6_readOrder_46 ?_
  refine J_topi (fun z9 hz9 => ?_)
  obtain rfl : z9 = 111 := hz9.trans (by rfl)
  clear hz9
  refine J_bipush (v := 105) dX6_readOrder_49 (by decide) ?_
  refine J_icmp_eq (tgt := 94) dX6_readOrder_51 (by decide) (fun h51 => absurd h51 (by decide)) (fun h51 => ?_)
  refine J_aload_n dX6_readOrder_54 rfl rfl ?_
  refine gR_letter wf_X6_176 dX6_readOrder_55 ?_
  refine J_topi (fun z9 hz9 => ?_)
  obtain rfl : z9 = 111 := hz9.trans (by rfl)
  clear hz9
  refine J_bipush (v := 111) dX6_readOrder_58 (by decide) ?_
  refine J_icmp_eq (tgt := 94) dX6_readOrder_60 (by decide) (fun h60 => ?_) (fun h60 => absurd (by decide) h60)
  refine J_iconst (v := 0) dX6_readOrder_94 (by decide) ?_
  refine pR_isFaulty wf_X6_163 dX6_readOrder_95 (by first | exact Or.inl rfl | exact Or.inr rfl | exact i01 | exact jin01) ?_
  refine J_aload_n dX6_readOrder_98 rfl rfl ?_
  refine J_dup dX6_readOrder_99 rfl ?_
  refine gR_spot wf_X6_167 dX6_readOrder_100 ?_
  refine J_topi (fun z9 hz9 => ?_)
  obtain rfl : z9 = (nI i) := hz9.trans (by exact hR.2.1)
  clear hz9
  refine J_aload_n dX6_readOrder_103 rfl rfl ?_
  refine gR_isFaulty wf_X6_163 dX6_readOrder_104 ?_
  refine J_topi (fun z9 hz9 => ?_)
  obtain rfl : z9 = 0 := hz9.trans (by rfl)
  clear hz9
  refine J_if_eq (tgt := 114) dX6_readOrder_107 (by decide) (fun h107 => ?_) (fun h107 => absurd (by decide) h107)
  refine J_iconst (v := 1) dX6_readOrder_114 (by decide) ?_
  refine J_iadd dX6_readOrder_115 ?_
  refine pR_spot wf_X6_167 dX6_readOrder_116 ?_
  replace hR := ro_start (c := 111) hR hi
  have k10 : upd (upd (upd F 10 111) 9 0) 8 (nI i + 1) 10 = 111 := rfl
  have kfr : ∀ k, k < 8 → upd (upd (upd F 10 111) 9 0) 8 (nI i + 1) k = F k := fun k hk => by rw [upd_at, if_neg (by omega), upd_at, if_neg (by omega), upd_at, if_neg (by omega)]
  refine J_aload_n dX6_readOrder_119 rfl rfl ?_
  refine J_aload_n dX6_readOrder_120 rfl rfl ?_
  refine gR_letter wf_X6_176 dX6_readOrder_121 ?_
  refine J_topi (fun z9 hz9 => ?_)
  obtain rfl : z9 = 111 := hz9.trans (by exact k10)
  clear hz9
  refine J_bipush (v := 98) dX6_readOrder_124 (by decide) ?_
  refine J_icmp_eq (tgt := 138) dX6_readOrder_126 (by decide) (fun h126 => absurd h126 (by decide)) (fun h126 => ?_)
  refine J_aload_n dX6_readOrder_129 rfl rfl ?_
  refine gR_letter wf_X6_176 dX6_readOrder_130 ?_
  refine J_topi (fun z9 hz9 => ?_)
  obtain rfl : z9 = 111 := hz9.trans (by exact k10)
  clear hz9
  refine J_bipush (v := 116) dX6_readOrder_133 (by decide) ?_
  refine J_icmp_ne (tgt := 145) dX6_readOrder_135 (by decide) (fun h135 => ?_) (fun h135 => absurd h135 (by decide))
  refine J_aload_n dX6_readOrder_145 rfl rfl ?_
  refine J_bipush (v := 48) dX6_readOrder_146 (by decide) ?_
  refine J_bipush (v := 57) dX6_readOrder_148 (by decide) ?_
  refine cVg wv_X6_173 (c_X6_takes (lo := 48) (hi := 57) hR) dX6_readOrder_150 ob6 rfl rfl (kk := (fun v m9 hf => ?_))
  obtain ⟨G, rfl, rfl, hR, hfr⟩ := hf
  have k10 := (hfr 10 (by decide) (by decide)).trans k10
  have kfr := fun k (hk : k < 8) => (hfr k (by omega) (by omega)).trans (kfr k hk)
  refine pR_first wf_X6_182 dX6_readOrder_153 ?_
  replace hR := RF_upd (k := 11) (v := if (dS (m 200) L 48 57 (i + 1, true)).2 = true then m 200 (i + 1) - 48 else 0) hR (by decide)
  have k10 : upd G 11 (if (dS (m 200) L 48 57 (i + 1, true)).2 = true then m 200 (i + 1) - 48 else 0) 10 = _ := k10
  have kfr : ∀ k, k < 8 → upd G 11 (if (dS (m 200) L 48 57 (i + 1, true)).2 = true then m 200 (i + 1) - 48 else 0) k = F k := fun k hk => by rw [upd_at, if_neg (by omega)]; exact kfr k hk
  have k11 : upd G 11 (if (dS (m 200) L 48 57 (i + 1, true)).2 = true then m 200 (i + 1) - 48 else 0) 11 = if (dS (m 200) L 48 57 (i + 1, true)).2 = true then m 200 (i + 1) - 48 else 0 := rfl
  refine J_aload_n dX6_readOrder_156 rfl rfl ?_
  refine gR_letter wf_X6_176 dX6_readOrder_157 ?_
  refine J_topi (fun z9 hz9 => ?_)
  obtain rfl : z9 = 111 := hz9.trans (by exact k10)
  clear hz9
  refine J_bipush (v := 98) dX6_readOrder_160 (by decide) ?_
  refine J_icmp_eq (tgt := 183) dX6_readOrder_162 (by decide) (fun h162 => absurd h162 (by decide)) (fun h162 => ?_)
  refine J_aload_n dX6_readOrder_165 rfl rfl ?_
  refine gR_letter wf_X6_176 dX6_readOrder_166 ?_
  refine J_topi (fun z9 hz9 => ?_)
  obtain rfl : z9 = 111 := hz9.trans (by exact k10)
  clear hz9
  refine J_bipush (v := 105) dX6_readOrder_169 (by decide) ?_
  refine J_icmp_eq (tgt := 183) dX6_readOrder_171 (by decide) (fun h171 => absurd h171 (by decide)) (fun h171 => ?_)
  refine J_aload_n dX6_readOrder_174 rfl rfl ?_
  refine gR_letter wf_X6_176 dX6_readOrder_175 ?_
  refine J_topi (fun z9 hz9 => ?_)
  obtain rfl : z9 = 111 := hz9.trans (by exact k10)
  clear hz9
  refine J_bipush (v := 111) dX6_readOrder_178 (by decide) ?_
  refine J_icmp_ne (tgt := 230) dX6_readOrder_180 (by decide) (fun h180 => absurd (by decide) h180) (fun h180 => ?_)
  refine J_aload_n dX6_readOrder_183 rfl rfl ?_
  refine J_aload_n dX6_readOrder_184 rfl rfl ?_
  refine gR_letter wf_X6_176 dX6_readOrder_185 ?_
  refine J_topi (fun z9 hz9 => ?_)
  obtain rfl : z9 = 111 := hz9.trans (by exact k10)
  clear hz9
  refine cSi ws_X6_185 (c_X6_between) dX6_readOrder_188 (kk := ?_)
  refine J_topi (fun z9 hz9 => ?_)
  obtain rfl : z9 = 45 := hz9.trans (by decide)
  clear hz9
  refine J_aload_n dX6_readOrder_191 rfl rfl ?_
  refine gR_letter wf_X6_176 dX6_readOrder_192 ?_
  refine J_topi (fun z9 hz9 => ?_)
  obtain rfl : z9 = 111 := hz9.trans (by exact k10)
  clear hz9
  refine cSi ws_X6_185 (c_X6_between) dX6_readOrder_195 (kk := ?_)
  refine J_topi (fun z9 hz9 => ?_)
  obtain rfl : z9 = 45 := hz9.trans (by decide)
  clear hz9
  refine cVg wv_X6_173 (c_X6_takes (lo := 45) (hi := 45) hR) dX6_readOrder_198 ob6 rfl rfl (kk := (fun v m9 hf => ?_))
  obtain ⟨G, rfl, rfl, hR, hfr⟩ := hf
  have k10 := (hfr 10 (by decide) (by decide)).trans k10
  have kfr := fun k (hk : k < 8) => (hfr k (by omega) (by omega)).trans (kfr k hk)
  have k11 := (hfr 11 (by decide) (by decide)).trans k11
  refine J_istore_n dX6_readOrder_201 rfl rfl rfl ?_
  refine J_aload_n dX6_readOrder_202 rfl rfl ?_
  refine J_aload_n dX6_readOrder_203 rfl rfl ?_
  refine gR_letter wf_X6_176 dX6_readOrder_204 ?_
  refine J_topi (fun z9 hz9 => ?_)
  obtain rfl : z9 = 111 := hz9.trans (by exact k10)
  clear hz9
  refine J_bipush (v := 105) dX6_readOrder_207 (by decide) ?_
  refine J_icmp_ne (tgt := 223) dX6_readOrder_209 (by decide) (fun h209 => ?_) (fun h209 => absurd h209 (by decide))
  refine J_aload_n dX6_readOrder_223 rfl rfl ?_
  refine cVg wv_X6_179 (c_X6_number hR) dX6_readOrder_224 ob6 rfl rfl (kk := (fun v m9 hf => ?_))
  obtain ⟨G, a, rfl, rfl, hv, hR, hfr⟩ := hf
  have k10 := (hfr 10 (by decide) (by decide)).trans k10
  have kfr := fun k (hk : k < 8) => (hfr k (by omega) (by omega)).trans (kfr k hk)
  have k11 := (hfr 11 (by decide) (by decide)).trans k11
  refine pR_second wf_X6_188 dX6_readOrder_227 ?_
  replace hR := RF_upd (k := 12) (v := a) hR (by decide)
  have k10 : upd G 12 (a) 10 = _ := k10
  have kfr : ∀ k, k < 8 → upd G 12 (a) k = F k := fun k hk => by rw [upd_at, if_neg (by omega)]; exact kfr k hk
  have k11 : upd G 12 (a) 11 = if (dS (m 200) L 48 57 (i + 1, true)).2 = true then m 200 (i + 1) - 48 else 0 := k11
  have k12 : (nS (m 200) L (dS (m 200) L 45 45 (dS (m 200) L 48 57 (i + 1, true)))).2 = true → upd G 12 (a) 12 = nV (m 200) L (dS (m 200) L 45 45 (dS (m 200) L 48 57 (i + 1, true))).1 := hv
  refine J_aload_n dX6_readOrder_230 rfl rfl ?_
  refine gR_letter wf_X6_176 dX6_readOrder_231 ?_
  refine J_topi (fun z9 hz9 => ?_)
  obtain rfl : z9 = 111 := hz9.trans (by exact k10)
  clear hz9
  refine J_bipush (v := 105) dX6_readOrder_234 (by decide) ?_
  refine J_icmp_ne (tgt := 256) dX6_readOrder_236 (by decide) (fun h236 => ?_) (fun h236 => absurd h236 (by decide))
  refine J_aload_n dX6_readOrder_256 rfl rfl ?_
  refine gR_letter wf_X6_176 dX6_readOrder_257 ?_
  refine J_topi (fun z9 hz9 => ?_)
  obtain rfl : z9 = 111 := hz9.trans (by exact k10)
  clear hz9
  refine J_bipush (v := 119) dX6_readOrder_260 (by decide) ?_
  refine J_icmp_ne (tgt := 277) dX6_readOrder_262 (by decide) (fun h262 => ?_) (fun h262 => absurd h262 (by decide))
  refine r_void dX6_readOrder_277 ?_
  exact ordO hi hc hR k10 kfr k11 k12

set_option maxRecDepth 100000 in
set_option maxHeartbeats 4000000 in
theorem ro_a {X : jX} {ad : Nat → Nat} {m : Mem} {s : Rw} {F : Nat → Int32} {L i : Nat} (hR : RF F L (i, true)) (hi : i < L) (hc : m 200 i = 97) : Cm X yX6_readOrder cX6_readOrder 2 (none) 4 ad [.ref 195] (RM m F s) (OrdFin m s F L i) := by
  refine Cm.of (own := RX6) (nm := "readOrder") (by decide +kernel) rfl rfl rfl rfl ?_
  refine J_aload_n dX6_readOrder_0 rfl rfl ?_
  refine J_aload_n dX6_readOrder_1 rfl rfl ?_
  refine gR_spot wf_X6_167 dX6_readOrder_2 ?_
  refine J_topi (fun z9 hz9 => ?_)
  obtain rfl : z9 = (nI i) := hz9.trans (by exact hR.2.1)
  clear hz9
  refine J_aload_n dX6_readOrder_5 rfl rfl ?_
  refine gR_length wf_X6_152 dX6_readOrder_6 ?_
  refine J_topi (fun z9 hz9 => ?_)
  obtain rfl : z9 = (nI L) := hz9.trans (by exact hR.1)
  clear hz9
  refine J_icmp_ge (tgt := 24) dX6_readOrder_9 (by decide) (fun h9 => absurd h9 (nI_nle1 hi (by have := hR.2.2.2.2; omega))) (fun h9 => ?_)
  refine J_aload_n dX6_readOrder_12 rfl rfl ?_
  refine gX6_pad wf_X6_22 dX6_readOrder_13 ?_
  refine J_aload_n dX6_readOrder_16 rfl rfl ?_
  refine gR_spot wf_X6_167 dX6_readOrder_17 ?_
  refine J_topi (fun z9 hz9 => ?_)
  obtain rfl : z9 = (nI i) := hz9.trans (by exact hR.2.1)
  clear hz9
  refine rR_pad i (by have := hR.2.2.2.2; omega) rfl dX6_readOrder_20 ?_
  refine J_topi (fun z9 hz9 => ?_)
  obtain rfl : z9 = 97 := hz9.trans (by exact hc)
  clear hz9
  refine J_goto (tgt := 25) dX6_readOrder_21 (by decide) ?_
  refine pR_letter wf_X6_176 dX6_readOrder_25 ?_
  refine J_aload_n dX6_readOrder_28 rfl rfl ?_
  refine J_aload_n dX6_readOrder_29 rfl rfl ?_
  refine gR_isFaulty wf_X6_163 dX6_readOrder_30 ?_
  refine J_topi (fun z9 hz9 => ?_)
  obtain rfl : z9 = 0 := hz9.trans (by exact hR.2.2.1)
  clear hz9
  refine J_if_ne (tgt := 90) dX6_readOrder_33 (by decide) (fun h33 => absurd (by decide) h33) (fun h33 => ?_)
  refine J_aload_n dX6_readOrder_36 rfl rfl ?_
  refine gR_letter wf_X6_176 dX6_readOrder_37 ?_
  refine J_topi (fun z9 hz9 => ?_)
  obtain rfl : z9 = 97 := hz9.trans (by rfl)
  clear hz9
  refine J_bipush (v := 98) dX6_readOrder_40 (by decide) ?_
  refine J_icmp_eq (tgt := 94) dX6_readOrder_42 (by decide) (fun h42 => absurd h42 (by decide)) (fun h42 => ?_)
  refine J_aload_n dX6_readOrder_45 rfl rfl ?_
  refine gR_letter wf_X6_176 dX6_readOrder_46 ?_
  refine J_topi (fun z9 hz9 => ?_)
  obtain rfl : z9 = 97 := hz9.trans (by rfl)
  clear hz9
  refine J_bipush (v := 105) dX6_readOrder_49 (by decide) ?_
  refine J_icmp_eq (tgt := 94) dX6_readOrder_51 (by decide) (fun h51 => absurd h51 (by decide)) (fun h51 => ?_)
  refine J_aload_n dX6_readOrder_54 rfl rfl ?_
  refine gR_letter wf_X6_176 dX6_readOrder_55 ?_
  refine J_topi (fun z9 hz9 => ?_)
  obtain rfl : z9 = 97 := hz9.trans (by rfl)
  clear hz9
  refine J_bipush (v := 111) dX6_readOrder_58 (by decide) ?_
  refine J_icmp_eq (tgt := 94) dX6_readOrder_60 (by decide) (fun h60 => absurd h60 (by decide)) (fun h60 => ?_)
  refine J_aload_n dX6_readOrder_63 rfl rfl ?_
  refine gR_letter wf_X6_176 dX6_readOrder_64 ?_
  refine J_topi (fun z9 hz9 => ?_)
  obtain rfl : z9 = 97 := hz9.trans (by rfl)
  clear hz9
  refine J_bipush (v := 97) dX6_readOrder_67 (by decide) ?_
  refine J_icmp_eq (tgt := 94) dX6_readOrder_69 (by decide) (fun h69 => ?_) (fun h69 => absurd (by decide) h69)
  refine J_iconst (v := 0) dX6_readOrder_94 (by decide) ?_
  refine pR_isFaulty wf_X6_163 dX6_readOrder_95 (by first | exact Or.inl rfl | exact Or.inr rfl | exact i01 | exact jin01) ?_
  refine J_aload_n dX6_readOrder_98 rfl rfl ?_
  refine J_dup dX6_readOrder_99 rfl ?_
  refine gR_spot wf_X6_167 dX6_readOrder_100 ?_
  refine J_topi (fun z9 hz9 => ?_)
  obtain rfl : z9 = (nI i) := hz9.trans (by exact hR.2.1)
  clear hz9
  refine J_aload_n dX6_readOrder_103 rfl rfl ?_
  refine gR_isFaulty wf_X6_163 dX6_readOrder_104 ?_
  refine J_topi (fun z9 hz9 => ?_)
  obtain rfl : z9 = 0 := hz9.trans (by rfl)
  clear hz9
  refine J_if_eq (tgt := 114) dX6_readOrder_107 (by decide) (fun h107 => ?_) (fun h107 => absurd (by decide) h107)
  refine J_iconst (v := 1) dX6_readOrder_114 (by decide) ?_
  refine J_iadd dX6_readOrder_115 ?_
  refine pR_spot wf_X6_167 dX6_readOrder_116 ?_
  replace hR := ro_start (c := 97) hR hi
  have k10 : upd (upd (upd F 10 97) 9 0) 8 (nI i + 1) 10 = 97 := rfl
  have kfr : ∀ k, k < 8 → upd (upd (upd F 10 97) 9 0) 8 (nI i + 1) k = F k := fun k hk => by rw [upd_at, if_neg (by omega), upd_at, if_neg (by omega), upd_at, if_neg (by omega)]
  refine J_aload_n dX6_readOrder_119 rfl rfl ?_
  refine J_aload_n dX6_readOrder_120 rfl rfl ?_
  refine gR_letter wf_X6_176 dX6_readOrder_121 ?_
  refine J_topi (fun z9 hz9 => ?_)
  obtain rfl : z9 = 97 := hz9.trans (by exact k10)
  clear hz9
  refine J_bipush (v := 98) dX6_readOrder_124 (by decide) ?_
  refine J_icmp_eq (tgt := 138) dX6_readOrder_126 (by decide) (fun h126 => absurd h126 (by decide)) (fun h126 => ?_)
  refine J_aload_n dX6_readOrder_129 rfl rfl ?_
  refine gR_letter wf_X6_176 dX6_readOrder_130 ?_
  refine J_topi (fun z9 hz9 => ?_)
  obtain rfl : z9 = 97 := hz9.trans (by exact k10)
  clear hz9
  refine J_bipush (v := 116) dX6_readOrder_133 (by decide) ?_
  refine J_icmp_ne (tgt := 145) dX6_readOrder_135 (by decide) (fun h135 => ?_) (fun h135 => absurd h135 (by decide))
  refine J_aload_n dX6_readOrder_145 rfl rfl ?_
  refine J_bipush (v := 48) dX6_readOrder_146 (by decide) ?_
  refine J_bipush (v := 57) dX6_readOrder_148 (by decide) ?_
  refine cVg wv_X6_173 (c_X6_takes (lo := 48) (hi := 57) hR) dX6_readOrder_150 ob6 rfl rfl (kk := (fun v m9 hf => ?_))
  obtain ⟨G, rfl, rfl, hR, hfr⟩ := hf
  have k10 := (hfr 10 (by decide) (by decide)).trans k10
  have kfr := fun k (hk : k < 8) => (hfr k (by omega) (by omega)).trans (kfr k hk)
  refine pR_first wf_X6_182 dX6_readOrder_153 ?_
  replace hR := RF_upd (k := 11) (v := if (dS (m 200) L 48 57 (i + 1, true)).2 = true then m 200 (i + 1) - 48 else 0) hR (by decide)
  have k10 : upd G 11 (if (dS (m 200) L 48 57 (i + 1, true)).2 = true then m 200 (i + 1) - 48 else 0) 10 = _ := k10
  have kfr : ∀ k, k < 8 → upd G 11 (if (dS (m 200) L 48 57 (i + 1, true)).2 = true then m 200 (i + 1) - 48 else 0) k = F k := fun k hk => by rw [upd_at, if_neg (by omega)]; exact kfr k hk
  have k11 : upd G 11 (if (dS (m 200) L 48 57 (i + 1, true)).2 = true then m 200 (i + 1) - 48 else 0) 11 = if (dS (m 200) L 48 57 (i + 1, true)).2 = true then m 200 (i + 1) - 48 else 0 := rfl
  refine J_aload_n dX6_readOrder_156 rfl rfl ?_
  refine gR_letter wf_X6_176 dX6_readOrder_157 ?_
  refine J_topi (fun z9 hz9 => ?_)
  obtain rfl : z9 = 97 := hz9.trans (by exact k10)
  clear hz9
  refine J_bipush (v := 98) dX6_readOrder_160 (by decide) ?_
  refine J_icmp_eq (tgt := 183) dX6_readOrder_162 (by decide) (fun h162 => absurd h162 (by decide)) (fun h162 => ?_)
  refine J_aload_n dX6_readOrder_165 rfl rfl ?_
  refine gR_letter wf_X6_176 dX6_readOrder_166 ?_
  refine J_topi (fun z9 hz9 => ?_)
  obtain rfl : z9 = 97 := hz9.trans (by exact k10)
  clear hz9
  refine J_bipush (v := 105) dX6_readOrder_169 (by decide) ?_
  refine J_icmp_eq (tgt := 183) dX6_readOrder_171 (by decide) (fun h171 => absurd h171 (by decide)) (fun h171 => ?_)
  refine J_aload_n dX6_readOrder_174 rfl rfl ?_
  refine gR_letter wf_X6_176 dX6_readOrder_175 ?_
  refine J_topi (fun z9 hz9 => ?_)
  obtain rfl : z9 = 97 := hz9.trans (by exact k10)
  clear hz9
  refine J_bipush (v := 111) dX6_readOrder_178 (by decide) ?_
  refine J_icmp_ne (tgt := 230) dX6_readOrder_180 (by decide) (fun h180 => ?_) (fun h180 => absurd h180 (by decide))
  refine J_aload_n dX6_readOrder_230 rfl rfl ?_
  refine gR_letter wf_X6_176 dX6_readOrder_231 ?_
  refine J_topi (fun z9 hz9 => ?_)
  obtain rfl : z9 = 97 := hz9.trans (by exact k10)
  clear hz9
  refine J_bipush (v := 105) dX6_readOrder_234 (by decide) ?_
  refine J_icmp_ne (tgt := 256) dX6_readOrder_236 (by decide) (fun h236 => ?_) (fun h236 => absurd h236 (by decide))
  refine J_aload_n dX6_readOrder_256 rfl rfl ?_
  refine gR_letter wf_X6_176 dX6_readOrder_257 ?_
  refine J_topi (fun z9 hz9 => ?_)
  obtain rfl : z9 = 97 := hz9.trans (by exact k10)
  clear hz9
  refine J_bipush (v := 119) dX6_readOrder_260 (by decide) ?_
  refine J_icmp_ne (tgt := 277) dX6_readOrder_262 (by decide) (fun h262 => ?_) (fun h262 => absurd h262 (by decide))
  refine r_void dX6_readOrder_277 ?_
  exact ordA hi hc hR k10 kfr k11

set_option maxRecDepth 100000 in
set_option maxHeartbeats 4000000 in
theorem ro_w {X : jX} {ad : Nat → Nat} {m : Mem} {s : Rw} {F : Nat → Int32} {L i : Nat} (hR : RF F L (i, true)) (hi : i < L) (hc : m 200 i = 119) : Cm X yX6_readOrder cX6_readOrder 2 (none) 4 ad [.ref 195] (RM m F s) (OrdFin m s F L i) := by
  refine Cm.of (own := RX6) (nm := "readOrder") (by decide +kernel) rfl rfl rfl rfl ?_
  refine J_aload_n dX6_readOrder_0 rfl rfl ?_
  refine J_aload_n dX6_readOrder_1 rfl rfl ?_
  refine gR_spot wf_X6_167 dX6_readOrder_2 ?_
  refine J_topi (fun z9 hz9 => ?_)
  obtain rfl : z9 = (nI i) := hz9.trans (by exact hR.2.1)
  clear hz9
  refine J_aload_n dX6_readOrder_5 rfl rfl ?_
  refine gR_length wf_X6_152 dX6_readOrder_6 ?_
  refine J_topi (fun z9 hz9 => ?_)
  obtain rfl : z9 = (nI L) := hz9.trans (by exact hR.1)
  clear hz9
  refine J_icmp_ge (tgt := 24) dX6_readOrder_9 (by decide) (fun h9 => absurd h9 (nI_nle1 hi (by have := hR.2.2.2.2; omega))) (fun h9 => ?_)
  refine J_aload_n dX6_readOrder_12 rfl rfl ?_
  refine gX6_pad wf_X6_22 dX6_readOrder_13 ?_
  refine J_aload_n dX6_readOrder_16 rfl rfl ?_
  refine gR_spot wf_X6_167 dX6_readOrder_17 ?_
  refine J_topi (fun z9 hz9 => ?_)
  obtain rfl : z9 = (nI i) := hz9.trans (by exact hR.2.1)
  clear hz9
  refine rR_pad i (by have := hR.2.2.2.2; omega) rfl dX6_readOrder_20 ?_
  refine J_topi (fun z9 hz9 => ?_)
  obtain rfl : z9 = 119 := hz9.trans (by exact hc)
  clear hz9
  refine J_goto (tgt := 25) dX6_readOrder_21 (by decide) ?_
  refine pR_letter wf_X6_176 dX6_readOrder_25 ?_
  refine J_aload_n dX6_readOrder_28 rfl rfl ?_
  refine J_aload_n dX6_readOrder_29 rfl rfl ?_
  refine gR_isFaulty wf_X6_163 dX6_readOrder_30 ?_
  refine J_topi (fun z9 hz9 => ?_)
  obtain rfl : z9 = 0 := hz9.trans (by exact hR.2.2.1)
  clear hz9
  refine J_if_ne (tgt := 90) dX6_readOrder_33 (by decide) (fun h33 => absurd (by decide) h33) (fun h33 => ?_)
  refine J_aload_n dX6_readOrder_36 rfl rfl ?_
  refine gR_letter wf_X6_176 dX6_readOrder_37 ?_
  refine J_topi (fun z9 hz9 => ?_)
  obtain rfl : z9 = 119 := hz9.trans (by rfl)
  clear hz9
  refine J_bipush (v := 98) dX6_readOrder_40 (by decide) ?_
  refine J_icmp_eq (tgt := 94) dX6_readOrder_42 (by decide) (fun h42 => absurd h42 (by decide)) (fun h42 => ?_)
  refine J_aload_n dX6_readOrder_45 rfl rfl ?_
  refine gR_letter wf_X6_176 dX6_readOrder_46 ?_
  refine J_topi (fun z9 hz9 => ?_)
  obtain rfl : z9 = 119 := hz9.trans (by rfl)
  clear hz9
  refine J_bipush (v := 105) dX6_readOrder_49 (by decide) ?_
  refine J_icmp_eq (tgt := 94) dX6_readOrder_51 (by decide) (fun h51 => absurd h51 (by decide)) (fun h51 => ?_)
  refine J_aload_n dX6_readOrder_54 rfl rfl ?_
  refine gR_letter wf_X6_176 dX6_readOrder_55 ?_
  refine J_topi (fun z9 hz9 => ?_)
  obtain rfl : z9 = 119 := hz9.trans (by rfl)
  clear hz9
  refine J_bipush (v := 111) dX6_readOrder_58 (by decide) ?_
  refine J_icmp_eq (tgt := 94) dX6_readOrder_60 (by decide) (fun h60 => absurd h60 (by decide)) (fun h60 => ?_)
  refine J_aload_n dX6_readOrder_63 rfl rfl ?_
  refine gR_letter wf_X6_176 dX6_readOrder_64 ?_
  refine J_topi (fun z9 hz9 => ?_)
  obtain rfl : z9 = 119 := hz9.trans (by rfl)
  clear hz9
  refine J_bipush (v := 97) dX6_readOrder_67 (by decide) ?_
  refine J_icmp_eq (tgt := 94) dX6_readOrder_69 (by decide) (fun h69 => absurd h69 (by decide)) (fun h69 => ?_)
  refine J_aload_n dX6_readOrder_72 rfl rfl ?_
  refine gR_letter wf_X6_176 dX6_readOrder_73 ?_
  refine J_topi (fun z9 hz9 => ?_)
  obtain rfl : z9 = 119 := hz9.trans (by rfl)
  clear hz9
  refine J_bipush (v := 119) dX6_readOrder_76 (by decide) ?_
  refine J_icmp_eq (tgt := 94) dX6_readOrder_78 (by decide) (fun h78 => ?_) (fun h78 => absurd (by decide) h78)
  refine J_iconst (v := 0) dX6_readOrder_94 (by decide) ?_
  refine pR_isFaulty wf_X6_163 dX6_readOrder_95 (by first | exact Or.inl rfl | exact Or.inr rfl | exact i01 | exact jin01) ?_
  refine J_aload_n dX6_readOrder_98 rfl rfl ?_
  refine J_dup dX6_readOrder_99 rfl ?_
  refine gR_spot wf_X6_167 dX6_readOrder_100 ?_
  refine J_topi (fun z9 hz9 => ?_)
  obtain rfl : z9 = (nI i) := hz9.trans (by exact hR.2.1)
  clear hz9
  refine J_aload_n dX6_readOrder_103 rfl rfl ?_
  refine gR_isFaulty wf_X6_163 dX6_readOrder_104 ?_
  refine J_topi (fun z9 hz9 => ?_)
  obtain rfl : z9 = 0 := hz9.trans (by rfl)
  clear hz9
  refine J_if_eq (tgt := 114) dX6_readOrder_107 (by decide) (fun h107 => ?_) (fun h107 => absurd (by decide) h107)
  refine J_iconst (v := 1) dX6_readOrder_114 (by decide) ?_
  refine J_iadd dX6_readOrder_115 ?_
  refine pR_spot wf_X6_167 dX6_readOrder_116 ?_
  replace hR := ro_start (c := 119) hR hi
  have k10 : upd (upd (upd F 10 119) 9 0) 8 (nI i + 1) 10 = 119 := rfl
  have kfr : ∀ k, k < 8 → upd (upd (upd F 10 119) 9 0) 8 (nI i + 1) k = F k := fun k hk => by rw [upd_at, if_neg (by omega), upd_at, if_neg (by omega), upd_at, if_neg (by omega)]
  refine J_aload_n dX6_readOrder_119 rfl rfl ?_
  refine J_aload_n dX6_readOrder_120 rfl rfl ?_
  refine gR_letter wf_X6_176 dX6_readOrder_121 ?_
  refine J_topi (fun z9 hz9 => ?_)
  obtain rfl : z9 = 119 := hz9.trans (by exact k10)
  clear hz9
  refine J_bipush (v := 98) dX6_readOrder_124 (by decide) ?_
  refine J_icmp_eq (tgt := 138) dX6_readOrder_126 (by decide) (fun h126 => absurd h126 (by decide)) (fun h126 => ?_)
  refine J_aload_n dX6_readOrder_129 rfl rfl ?_
  refine gR_letter wf_X6_176 dX6_readOrder_130 ?_
  refine J_topi (fun z9 hz9 => ?_)
  obtain rfl : z9 = 119 := hz9.trans (by exact k10)
  clear hz9
  refine J_bipush (v := 116) dX6_readOrder_133 (by decide) ?_
  refine J_icmp_ne (tgt := 145) dX6_readOrder_135 (by decide) (fun h135 => ?_) (fun h135 => absurd h135 (by decide))
  refine J_aload_n dX6_readOrder_145 rfl rfl ?_
  refine J_bipush (v := 48) dX6_readOrder_146 (by decide) ?_
  refine J_bipush (v := 57) dX6_readOrder_148 (by decide) ?_
  refine cVg wv_X6_173 (c_X6_takes (lo := 48) (hi := 57) hR) dX6_readOrder_150 ob6 rfl rfl (kk := (fun v m9 hf => ?_))
  obtain ⟨G, rfl, rfl, hR, hfr⟩ := hf
  have k10 := (hfr 10 (by decide) (by decide)).trans k10
  have kfr := fun k (hk : k < 8) => (hfr k (by omega) (by omega)).trans (kfr k hk)
  refine pR_first wf_X6_182 dX6_readOrder_153 ?_
  replace hR := RF_upd (k := 11) (v := if (dS (m 200) L 48 57 (i + 1, true)).2 = true then m 200 (i + 1) - 48 else 0) hR (by decide)
  have k10 : upd G 11 (if (dS (m 200) L 48 57 (i + 1, true)).2 = true then m 200 (i + 1) - 48 else 0) 10 = _ := k10
  have kfr : ∀ k, k < 8 → upd G 11 (if (dS (m 200) L 48 57 (i + 1, true)).2 = true then m 200 (i + 1) - 48 else 0) k = F k := fun k hk => by rw [upd_at, if_neg (by omega)]; exact kfr k hk
  have k11 : upd G 11 (if (dS (m 200) L 48 57 (i + 1, true)).2 = true then m 200 (i + 1) - 48 else 0) 11 = if (dS (m 200) L 48 57 (i + 1, true)).2 = true then m 200 (i + 1) - 48 else 0 := rfl
  refine J_aload_n dX6_readOrder_156 rfl rfl ?_
  refine gR_letter wf_X6_176 dX6_readOrder_157 ?_
  refine J_topi (fun z9 hz9 => ?_)
  obtain rfl : z9 = 119 := hz9.trans (by exact k10)
  clear hz9
  refine J_bipush (v := 98) dX6_readOrder_160 (by decide) ?_
  refine J_icmp_eq (tgt := 183) dX6_readOrder_162 (by decide) (fun h162 => absurd h162 (by decide)) (fun h162 => ?_)
  refine J_aload_n dX6_readOrder_165 rfl rfl ?_
  refine gR_letter wf_X6_176 dX6_readOrder_166 ?_
  refine J_topi (fun z9 hz9 => ?_)
  obtain rfl : z9 = 119 := hz9.trans (by exact k10)
  clear hz9
  refine J_bipush (v := 105) dX6_readOrder_169 (by decide) ?_
  refine J_icmp_eq (tgt := 183) dX6_readOrder_171 (by decide) (fun h171 => absurd h171 (by decide)) (fun h171 => ?_)
  refine J_aload_n dX6_readOrder_174 rfl rfl ?_
  refine gR_letter wf_X6_176 dX6_readOrder_175 ?_
  refine J_topi (fun z9 hz9 => ?_)
  obtain rfl : z9 = 119 := hz9.trans (by exact k10)
  clear hz9
  refine J_bipush (v := 111) dX6_readOrder_178 (by decide) ?_
  refine J_icmp_ne (tgt := 230) dX6_readOrder_180 (by decide) (fun h180 => ?_) (fun h180 => absurd h180 (by decide))
  refine J_aload_n dX6_readOrder_230 rfl rfl ?_
  refine gR_letter wf_X6_176 dX6_readOrder_231 ?_
  refine J_topi (fun z9 hz9 => ?_)
  obtain rfl : z9 = 119 := hz9.trans (by exact k10)
  clear hz9
  refine J_bipush (v := 105) dX6_readOrder_234 (by decide) ?_
  refine J_icmp_ne (tgt := 256) dX6_readOrder_236 (by decide) (fun h236 => ?_) (fun h236 => absurd h236 (by decide))
  refine J_aload_n dX6_readOrder_256 rfl rfl ?_
  refine gR_letter wf_X6_176 dX6_readOrder_257 ?_
  refine J_topi (fun z9 hz9 => ?_)
  obtain rfl : z9 = 119 := hz9.trans (by exact k10)
  clear hz9
  refine J_bipush (v := 119) dX6_readOrder_260 (by decide) ?_
  refine J_icmp_ne (tgt := 277) dX6_readOrder_262 (by decide) (fun h262 => absurd (by decide) h262) (fun h262 => ?_)
  refine J_aload_n dX6_readOrder_265 rfl rfl ?_
  refine J_aload_n dX6_readOrder_266 rfl rfl ?_
  refine J_bipush (v := 48) dX6_readOrder_267 (by decide) ?_
  refine J_bipush (v := 57) dX6_readOrder_269 (by decide) ?_
  refine cVg wv_X6_173 (c_X6_takes (lo := 48) (hi := 57) hR) dX6_readOrder_271 ob6 rfl rfl (kk := (fun v m9 hf => ?_))
  obtain ⟨G, rfl, rfl, hR, hfr⟩ := hf
  have k10 := (hfr 10 (by decide) (by decide)).trans k10
  have kfr := fun k (hk : k < 8) => (hfr k (by omega) (by omega)).trans (kfr k hk)
  have k11 := (hfr 11 (by decide) (by decide)).trans k11
  refine pR_second wf_X6_188 dX6_readOrder_274 ?_
  replace hR := RF_upd (k := 12) (v := if (dS (m 200) L 48 57 (dS (m 200) L 48 57 (i + 1, true))).2 = true then m 200 (dS (m 200) L 48 57 (i + 1, true)).1 - 48 else 0) hR (by decide)
  have k10 : upd G 12 (if (dS (m 200) L 48 57 (dS (m 200) L 48 57 (i + 1, true))).2 = true then m 200 (dS (m 200) L 48 57 (i + 1, true)).1 - 48 else 0) 10 = _ := k10
  have kfr : ∀ k, k < 8 → upd G 12 (if (dS (m 200) L 48 57 (dS (m 200) L 48 57 (i + 1, true))).2 = true then m 200 (dS (m 200) L 48 57 (i + 1, true)).1 - 48 else 0) k = F k := fun k hk => by rw [upd_at, if_neg (by omega)]; exact kfr k hk
  have k11 : upd G 12 (if (dS (m 200) L 48 57 (dS (m 200) L 48 57 (i + 1, true))).2 = true then m 200 (dS (m 200) L 48 57 (i + 1, true)).1 - 48 else 0) 11 = if (dS (m 200) L 48 57 (i + 1, true)).2 = true then m 200 (i + 1) - 48 else 0 := k11
  have k12 : upd G 12 (if (dS (m 200) L 48 57 (dS (m 200) L 48 57 (i + 1, true))).2 = true then m 200 (dS (m 200) L 48 57 (i + 1, true)).1 - 48 else 0) 12 = if (dS (m 200) L 48 57 (dS (m 200) L 48 57 (i + 1, true))).2 = true then m 200 (dS (m 200) L 48 57 (i + 1, true)).1 - 48 else 0 := rfl
  refine r_void dX6_readOrder_277 ?_
  exact ordW hi hc hR k10 kfr k11 k12

set_option maxRecDepth 100000 in
set_option maxHeartbeats 4000000 in
theorem ro_t {X : jX} {ad : Nat → Nat} {m : Mem} {s : Rw} {F : Nat → Int32} {L i : Nat} (hR : RF F L (i, true)) (hi : i < L) (hc : m 200 i = 116) : Cm X yX6_readOrder cX6_readOrder 2 (none) 4 ad [.ref 195] (RM m F s) (OrdFin m s F L i) := by
  refine Cm.of (own := RX6) (nm := "readOrder") (by decide +kernel) rfl rfl rfl rfl ?_
  refine J_aload_n dX6_readOrder_0 rfl rfl ?_
  refine J_aload_n dX6_readOrder_1 rfl rfl ?_
  refine gR_spot wf_X6_167 dX6_readOrder_2 ?_
  refine J_topi (fun z9 hz9 => ?_)
  obtain rfl : z9 = (nI i) := hz9.trans (by exact hR.2.1)
  clear hz9
  refine J_aload_n dX6_readOrder_5 rfl rfl ?_
  refine gR_length wf_X6_152 dX6_readOrder_6 ?_
  refine J_topi (fun z9 hz9 => ?_)
  obtain rfl : z9 = (nI L) := hz9.trans (by exact hR.1)
  clear hz9
  refine J_icmp_ge (tgt := 24) dX6_readOrder_9 (by decide) (fun h9 => absurd h9 (nI_nle1 hi (by have := hR.2.2.2.2; omega))) (fun h9 => ?_)
  refine J_aload_n dX6_readOrder_12 rfl rfl ?_
  refine gX6_pad wf_X6_22 dX6_readOrder_13 ?_
  refine J_aload_n dX6_readOrder_16 rfl rfl ?_
  refine gR_spot wf_X6_167 dX6_readOrder_17 ?_
  refine J_topi (fun z9 hz9 => ?_)
  obtain rfl : z9 = (nI i) := hz9.trans (by exact hR.2.1)
  clear hz9
  refine rR_pad i (by have := hR.2.2.2.2; omega) rfl dX6_readOrder_20 ?_
  refine J_topi (fun z9 hz9 => ?_)
  obtain rfl : z9 = 116 := hz9.trans (by exact hc)
  clear hz9
  refine J_goto (tgt := 25) dX6_readOrder_21 (by decide) ?_
  refine pR_letter wf_X6_176 dX6_readOrder_25 ?_
  refine J_aload_n dX6_readOrder_28 rfl rfl ?_
  refine J_aload_n dX6_readOrder_29 rfl rfl ?_
  refine gR_isFaulty wf_X6_163 dX6_readOrder_30 ?_
  refine J_topi (fun z9 hz9 => ?_)
  obtain rfl : z9 = 0 := hz9.trans (by exact hR.2.2.1)
  clear hz9
  refine J_if_ne (tgt := 90) dX6_readOrder_33 (by decide) (fun h33 => absurd (by decide) h33) (fun h33 => ?_)
  refine J_aload_n dX6_readOrder_36 rfl rfl ?_
  refine gR_letter wf_X6_176 dX6_readOrder_37 ?_
  refine J_topi (fun z9 hz9 => ?_)
  obtain rfl : z9 = 116 := hz9.trans (by rfl)
  clear hz9
  refine J_bipush (v := 98) dX6_readOrder_40 (by decide) ?_
  refine J_icmp_eq (tgt := 94) dX6_readOrder_42 (by decide) (fun h42 => absurd h42 (by decide)) (fun h42 => ?_)
  refine J_aload_n dX6_readOrder_45 rfl rfl ?_
  refine gR_letter wf_X6_176 dX6_readOrder_46 ?_
  refine J_topi (fun z9 hz9 => ?_)
  obtain rfl : z9 = 116 := hz9.trans (by rfl)
  clear hz9
  refine J_bipush (v := 105) dX6_readOrder_49 (by decide) ?_
  refine J_icmp_eq (tgt := 94) dX6_readOrder_51 (by decide) (fun h51 => absurd h51 (by decide)) (fun h51 => ?_)
  refine J_aload_n dX6_readOrder_54 rfl rfl ?_
  refine gR_letter wf_X6_176 dX6_readOrder_55 ?_
  refine J_topi (fun z9 hz9 => ?_)
  obtain rfl : z9 = 116 := hz9.trans (by rfl)
  clear hz9
  refine J_bipush (v := 111) dX6_readOrder_58 (by decide) ?_
  refine J_icmp_eq (tgt := 94) dX6_readOrder_60 (by decide) (fun h60 => absurd h60 (by decide)) (fun h60 => ?_)
  refine J_aload_n dX6_readOrder_63 rfl rfl ?_
  refine gR_letter wf_X6_176 dX6_readOrder_64 ?_
  refine J_topi (fun z9 hz9 => ?_)
  obtain rfl : z9 = 116 := hz9.trans (by rfl)
  clear hz9
  refine J_bipush (v := 97) dX6_readOrder_67 (by decide) ?_
  refine J_icmp_eq (tgt := 94) dX6_readOrder_69 (by decide) (fun h69 => absurd h69 (by decide)) (fun h69 => ?_)
  refine J_aload_n dX6_readOrder_72 rfl rfl ?_
  refine gR_letter wf_X6_176 dX6_readOrder_73 ?_
  refine J_topi (fun z9 hz9 => ?_)
  obtain rfl : z9 = 116 := hz9.trans (by rfl)
  clear hz9
  refine J_bipush (v := 119) dX6_readOrder_76 (by decide) ?_
  refine J_icmp_eq (tgt := 94) dX6_readOrder_78 (by decide) (fun h78 => absurd h78 (by decide)) (fun h78 => ?_)
  refine J_aload_n dX6_readOrder_81 rfl rfl ?_
  refine gR_letter wf_X6_176 dX6_readOrder_82 ?_
  refine J_topi (fun z9 hz9 => ?_)
  obtain rfl : z9 = 116 := hz9.trans (by rfl)
  clear hz9
  refine J_bipush (v := 116) dX6_readOrder_85 (by decide) ?_
  refine J_icmp_eq (tgt := 94) dX6_readOrder_87 (by decide) (fun h87 => ?_) (fun h87 => absurd (by decide) h87)
  refine J_iconst (v := 0) dX6_readOrder_94 (by decide) ?_
  refine pR_isFaulty wf_X6_163 dX6_readOrder_95 (by first | exact Or.inl rfl | exact Or.inr rfl | exact i01 | exact jin01) ?_
  refine J_aload_n dX6_readOrder_98 rfl rfl ?_
  refine J_dup dX6_readOrder_99 rfl ?_
  refine gR_spot wf_X6_167 dX6_readOrder_100 ?_
  refine J_topi (fun z9 hz9 => ?_)
  obtain rfl : z9 = (nI i) := hz9.trans (by exact hR.2.1)
  clear hz9
  refine J_aload_n dX6_readOrder_103 rfl rfl ?_
  refine gR_isFaulty wf_X6_163 dX6_readOrder_104 ?_
  refine J_topi (fun z9 hz9 => ?_)
  obtain rfl : z9 = 0 := hz9.trans (by rfl)
  clear hz9
  refine J_if_eq (tgt := 114) dX6_readOrder_107 (by decide) (fun h107 => ?_) (fun h107 => absurd (by decide) h107)
  refine J_iconst (v := 1) dX6_readOrder_114 (by decide) ?_
  refine J_iadd dX6_readOrder_115 ?_
  refine pR_spot wf_X6_167 dX6_readOrder_116 ?_
  replace hR := ro_start (c := 116) hR hi
  have k10 : upd (upd (upd F 10 116) 9 0) 8 (nI i + 1) 10 = 116 := rfl
  have kfr : ∀ k, k < 8 → upd (upd (upd F 10 116) 9 0) 8 (nI i + 1) k = F k := fun k hk => by rw [upd_at, if_neg (by omega), upd_at, if_neg (by omega), upd_at, if_neg (by omega)]
  refine J_aload_n dX6_readOrder_119 rfl rfl ?_
  refine J_aload_n dX6_readOrder_120 rfl rfl ?_
  refine gR_letter wf_X6_176 dX6_readOrder_121 ?_
  refine J_topi (fun z9 hz9 => ?_)
  obtain rfl : z9 = 116 := hz9.trans (by exact k10)
  clear hz9
  refine J_bipush (v := 98) dX6_readOrder_124 (by decide) ?_
  refine J_icmp_eq (tgt := 138) dX6_readOrder_126 (by decide) (fun h126 => absurd h126 (by decide)) (fun h126 => ?_)
  refine J_aload_n dX6_readOrder_129 rfl rfl ?_
  refine gR_letter wf_X6_176 dX6_readOrder_130 ?_
  refine J_topi (fun z9 hz9 => ?_)
  obtain rfl : z9 = 116 := hz9.trans (by exact k10)
  clear hz9
  refine J_bipush (v := 116) dX6_readOrder_133 (by decide) ?_
  refine J_icmp_ne (tgt := 145) dX6_readOrder_135 (by decide) (fun h135 => absurd (by decide) h135) (fun h135 => ?_)
  refine J_aload_n dX6_readOrder_138 rfl rfl ?_
  refine cVg wv_X6_179 (c_X6_number hR) dX6_readOrder_139 ob6 rfl rfl (kk := (fun v m9 hf => ?_))
  obtain ⟨G, a, rfl, rfl, hv, hR, hfr⟩ := hf
  have k10 := (hfr 10 (by decide) (by decide)).trans k10
  have kfr := fun k (hk : k < 8) => (hfr k (by omega) (by omega)).trans (kfr k hk)
  refine J_goto (tgt := 153) dX6_readOrder_142 (by decide) ?_
  refine pR_first wf_X6_182 dX6_readOrder_153 ?_
  replace hR := RF_upd (k := 11) (v := a) hR (by decide)
  have k10 : upd G 11 (a) 10 = _ := k10
  have kfr : ∀ k, k < 8 → upd G 11 (a) k = F k := fun k hk => by rw [upd_at, if_neg (by omega)]; exact kfr k hk
  have k11 : (nS (m 200) L (i + 1, true)).2 = true → upd G 11 (a) 11 = nV (m 200) L (i + 1) := hv
  refine J_aload_n dX6_readOrder_156 rfl rfl ?_
  refine gR_letter wf_X6_176 dX6_readOrder_157 ?_
  refine J_topi (fun z9 hz9 => ?_)
  obtain rfl : z9 = 116 := hz9.trans (by exact k10)
  clear hz9
  refine J_bipush (v := 98) dX6_readOrder_160 (by decide) ?_
  refine J_icmp_eq (tgt := 183) dX6_readOrder_162 (by decide) (fun h162 => absurd h162 (by decide)) (fun h162 => ?_)
  refine J_aload_n dX6_readOrder_165 rfl rfl ?_
  refine gR_letter wf_X6_176 dX6_readOrder_166 ?_
  refine J_topi (fun z9 hz9 => ?_)
  obtain rfl : z9 = 116 := hz9.trans (by exact k10)
  clear hz9
  refine J_bipush (v := 105) dX6_readOrder_169 (by decide) ?_
  refine J_icmp_eq (tgt := 183) dX6_readOrder_171 (by decide) (fun h171 => absurd h171 (by decide)) (fun h171 => ?_)
  refine J_aload_n dX6_readOrder_174 rfl rfl ?_
  refine gR_letter wf_X6_176 dX6_readOrder_175 ?_
  refine J_topi (fun z9 hz9 => ?_)
  obtain rfl : z9 = 116 := hz9.trans (by exact k10)
  clear hz9
  refine J_bipush (v := 111) dX6_readOrder_178 (by decide) ?_
  refine J_icmp_ne (tgt := 230) dX6_readOrder_180 (by decide) (fun h180 => ?_) (fun h180 => absurd h180 (by decide))
  refine J_aload_n dX6_readOrder_230 rfl rfl ?_
  refine gR_letter wf_X6_176 dX6_readOrder_231 ?_
  refine J_topi (fun z9 hz9 => ?_)
  obtain rfl : z9 = 116 := hz9.trans (by exact k10)
  clear hz9
  refine J_bipush (v := 105) dX6_readOrder_234 (by decide) ?_
  refine J_icmp_ne (tgt := 256) dX6_readOrder_236 (by decide) (fun h236 => ?_) (fun h236 => absurd h236 (by decide))
  refine J_aload_n dX6_readOrder_256 rfl rfl ?_
  refine gR_letter wf_X6_176 dX6_readOrder_257 ?_
  refine J_topi (fun z9 hz9 => ?_)
  obtain rfl : z9 = 116 := hz9.trans (by exact k10)
  clear hz9
  refine J_bipush (v := 119) dX6_readOrder_260 (by decide) ?_
  refine J_icmp_ne (tgt := 277) dX6_readOrder_262 (by decide) (fun h262 => ?_) (fun h262 => absurd h262 (by decide))
  refine r_void dX6_readOrder_277 ?_
  exact ordT hi hc hR k10 kfr k11

set_option maxRecDepth 100000 in
set_option maxHeartbeats 4000000 in
theorem ro_x {X : jX} {ad : Nat → Nat} {m : Mem} {s : Rw} {F : Nat → Int32} {L i : Nat} (hR : RF F L (i, true)) (hi : i < L) (h98 : ¬ m 200 i = 98) (h105 : ¬ m 200 i = 105) (h111 : ¬ m 200 i = 111) (h97 : ¬ m 200 i = 97) (h119 : ¬ m 200 i = 119) (h116 : ¬ m 200 i = 116) : Cm X yX6_readOrder cX6_readOrder 2 (none) 4 ad [.ref 195] (RM m F s) (OrdFin m s F L i) := by
  refine Cm.of (own := RX6) (nm := "readOrder") (by decide +kernel) rfl rfl rfl rfl ?_
  refine J_aload_n dX6_readOrder_0 rfl rfl ?_
  refine J_aload_n dX6_readOrder_1 rfl rfl ?_
  refine gR_spot wf_X6_167 dX6_readOrder_2 ?_
  refine J_topi (fun z9 hz9 => ?_)
  obtain rfl : z9 = (nI i) := hz9.trans (by exact hR.2.1)
  clear hz9
  refine J_aload_n dX6_readOrder_5 rfl rfl ?_
  refine gR_length wf_X6_152 dX6_readOrder_6 ?_
  refine J_topi (fun z9 hz9 => ?_)
  obtain rfl : z9 = (nI L) := hz9.trans (by exact hR.1)
  clear hz9
  refine J_icmp_ge (tgt := 24) dX6_readOrder_9 (by decide) (fun h9 => absurd h9 (nI_nle1 hi (by have := hR.2.2.2.2; omega))) (fun h9 => ?_)
  refine J_aload_n dX6_readOrder_12 rfl rfl ?_
  refine gX6_pad wf_X6_22 dX6_readOrder_13 ?_
  refine J_aload_n dX6_readOrder_16 rfl rfl ?_
  refine gR_spot wf_X6_167 dX6_readOrder_17 ?_
  refine J_topi (fun z9 hz9 => ?_)
  obtain rfl : z9 = (nI i) := hz9.trans (by exact hR.2.1)
  clear hz9
  refine rR_pad i (by have := hR.2.2.2.2; omega) rfl dX6_readOrder_20 ?_
  refine J_goto (tgt := 25) dX6_readOrder_21 (by decide) ?_
  refine pR_letter wf_X6_176 dX6_readOrder_25 ?_
  refine J_aload_n dX6_readOrder_28 rfl rfl ?_
  refine J_aload_n dX6_readOrder_29 rfl rfl ?_
  refine gR_isFaulty wf_X6_163 dX6_readOrder_30 ?_
  refine J_topi (fun z9 hz9 => ?_)
  obtain rfl : z9 = 0 := hz9.trans (by exact hR.2.2.1)
  clear hz9
  refine J_if_ne (tgt := 90) dX6_readOrder_33 (by decide) (fun h33 => absurd (by decide) h33) (fun h33 => ?_)
  refine J_aload_n dX6_readOrder_36 rfl rfl ?_
  refine gR_letter wf_X6_176 dX6_readOrder_37 ?_
  refine J_topi (fun z9 hz9 => ?_)
  obtain rfl : z9 = m 200 i := hz9.trans (by rfl)
  clear hz9
  refine J_bipush (v := 98) dX6_readOrder_40 (by decide) ?_
  refine J_icmp_eq (tgt := 94) dX6_readOrder_42 (by decide) (fun h42 => absurd h42 h98) (fun h42 => ?_)
  refine J_aload_n dX6_readOrder_45 rfl rfl ?_
  refine gR_letter wf_X6_176 dX6_readOrder_46 ?_
  refine J_topi (fun z9 hz9 => ?_)
  obtain rfl : z9 = m 200 i := hz9.trans (by rfl)
  clear hz9
  refine J_bipush (v := 105) dX6_readOrder_49 (by decide) ?_
  refine J_icmp_eq (tgt := 94) dX6_readOrder_51 (by decide) (fun h51 => absurd h51 h105) (fun h51 => ?_)
  refine J_aload_n dX6_readOrder_54 rfl rfl ?_
  refine gR_letter wf_X6_176 dX6_readOrder_55 ?_
  refine J_topi (fun z9 hz9 => ?_)
  obtain rfl : z9 = m 200 i := hz9.trans (by rfl)
  clear hz9
  refine J_bipush (v := 111) dX6_readOrder_58 (by decide) ?_
  refine J_icmp_eq (tgt := 94) dX6_readOrder_60 (by decide) (fun h60 => absurd h60 h111) (fun h60 => ?_)
  refine J_aload_n dX6_readOrder_63 rfl rfl ?_
  refine gR_letter wf_X6_176 dX6_readOrder_64 ?_
  refine J_topi (fun z9 hz9 => ?_)
  obtain rfl : z9 = m 200 i := hz9.trans (by rfl)
  clear hz9
  refine J_bipush (v := 97) dX6_readOrder_67 (by decide) ?_
  refine J_icmp_eq (tgt := 94) dX6_readOrder_69 (by decide) (fun h69 => absurd h69 h97) (fun h69 => ?_)
  refine J_aload_n dX6_readOrder_72 rfl rfl ?_
  refine gR_letter wf_X6_176 dX6_readOrder_73 ?_
  refine J_topi (fun z9 hz9 => ?_)
  obtain rfl : z9 = m 200 i := hz9.trans (by rfl)
  clear hz9
  refine J_bipush (v := 119) dX6_readOrder_76 (by decide) ?_
  refine J_icmp_eq (tgt := 94) dX6_readOrder_78 (by decide) (fun h78 => absurd h78 h119) (fun h78 => ?_)
  refine J_aload_n dX6_readOrder_81 rfl rfl ?_
  refine gR_letter wf_X6_176 dX6_readOrder_82 ?_
  refine J_topi (fun z9 hz9 => ?_)
  obtain rfl : z9 = m 200 i := hz9.trans (by rfl)
  clear hz9
  refine J_bipush (v := 116) dX6_readOrder_85 (by decide) ?_
  refine J_icmp_eq (tgt := 94) dX6_readOrder_87 (by decide) (fun h87 => absurd h87 h116) (fun h87 => ?_)
  refine J_iconst (v := 1) dX6_readOrder_90 (by decide) ?_
  refine J_goto (tgt := 95) dX6_readOrder_91 (by decide) ?_
  refine pR_isFaulty wf_X6_163 dX6_readOrder_95 (by first | exact Or.inl rfl | exact Or.inr rfl | exact i01 | exact jin01) ?_
  refine J_aload_n dX6_readOrder_98 rfl rfl ?_
  refine J_dup dX6_readOrder_99 rfl ?_
  refine gR_spot wf_X6_167 dX6_readOrder_100 ?_
  refine J_topi (fun z9 hz9 => ?_)
  obtain rfl : z9 = (nI i) := hz9.trans (by exact hR.2.1)
  clear hz9
  refine J_aload_n dX6_readOrder_103 rfl rfl ?_
  refine gR_isFaulty wf_X6_163 dX6_readOrder_104 ?_
  refine J_topi (fun z9 hz9 => ?_)
  obtain rfl : z9 = 1 := hz9.trans (by rfl)
  clear hz9
  refine J_if_eq (tgt := 114) dX6_readOrder_107 (by decide) (fun h107 => absurd h107 (by decide)) (fun h107 => ?_)
  refine J_iconst (v := 0) dX6_readOrder_110 (by decide) ?_
  refine J_goto (tgt := 115) dX6_readOrder_111 (by decide) ?_
  refine J_iadd dX6_readOrder_115 ?_
  refine pR_spot wf_X6_167 dX6_readOrder_116 ?_
  replace hR := ro_bad (c := m 200 i) hR
  have k10 : upd (upd (upd F 10 (m 200 i)) 9 1) 8 (nI i + 0) 10 = m 200 i := rfl
  have kfr : ∀ k, k < 8 → upd (upd (upd F 10 (m 200 i)) 9 1) 8 (nI i + 0) k = F k := fun k hk => by rw [upd_at, if_neg (by omega), upd_at, if_neg (by omega), upd_at, if_neg (by omega)]
  refine J_aload_n dX6_readOrder_119 rfl rfl ?_
  refine J_aload_n dX6_readOrder_120 rfl rfl ?_
  refine gR_letter wf_X6_176 dX6_readOrder_121 ?_
  refine J_topi (fun z9 hz9 => ?_)
  obtain rfl : z9 = m 200 i := hz9.trans (by exact k10)
  clear hz9
  refine J_bipush (v := 98) dX6_readOrder_124 (by decide) ?_
  refine J_icmp_eq (tgt := 138) dX6_readOrder_126 (by decide) (fun h126 => absurd h126 h98) (fun h126 => ?_)
  refine J_aload_n dX6_readOrder_129 rfl rfl ?_
  refine gR_letter wf_X6_176 dX6_readOrder_130 ?_
  refine J_topi (fun z9 hz9 => ?_)
  obtain rfl : z9 = m 200 i := hz9.trans (by exact k10)
  clear hz9
  refine J_bipush (v := 116) dX6_readOrder_133 (by decide) ?_
  refine J_icmp_ne (tgt := 145) dX6_readOrder_135 (by decide) (fun h135 => ?_) (fun h135 => absurd h135 h116)
  refine J_aload_n dX6_readOrder_145 rfl rfl ?_
  refine J_bipush (v := 48) dX6_readOrder_146 (by decide) ?_
  refine J_bipush (v := 57) dX6_readOrder_148 (by decide) ?_
  refine cVg wv_X6_173 (c_X6_takes (lo := 48) (hi := 57) hR) dX6_readOrder_150 ob6 rfl rfl (kk := (fun v m9 hf => ?_))
  obtain ⟨G, rfl, rfl, hR, hfr⟩ := hf
  have k10 := (hfr 10 (by decide) (by decide)).trans k10
  have kfr := fun k (hk : k < 8) => (hfr k (by omega) (by omega)).trans (kfr k hk)
  refine pR_first wf_X6_182 dX6_readOrder_153 ?_
  rw [dS_f] at hR
  replace hR := RF_upd (k := 11) (v := if (dS (m 200) L 48 57 (i, false)).2 = true then m 200 i - 48 else 0) hR (by decide)
  have kfr : ∀ k, k < 8 → upd G 11 (if (dS (m 200) L 48 57 (i, false)).2 = true then m 200 i - 48 else 0) k = F k := fun k hk => by rw [upd_at, if_neg (by omega)]; exact kfr k hk
  refine J_aload_n dX6_readOrder_156 rfl rfl ?_
  refine gR_letter wf_X6_176 dX6_readOrder_157 ?_
  refine J_topi (fun z9 hz9 => ?_)
  obtain rfl : z9 = m 200 i := hz9.trans (by exact k10)
  clear hz9
  refine J_bipush (v := 98) dX6_readOrder_160 (by decide) ?_
  refine J_icmp_eq (tgt := 183) dX6_readOrder_162 (by decide) (fun h162 => absurd h162 h98) (fun h162 => ?_)
  refine J_aload_n dX6_readOrder_165 rfl rfl ?_
  refine gR_letter wf_X6_176 dX6_readOrder_166 ?_
  refine J_topi (fun z9 hz9 => ?_)
  obtain rfl : z9 = m 200 i := hz9.trans (by exact k10)
  clear hz9
  refine J_bipush (v := 105) dX6_readOrder_169 (by decide) ?_
  refine J_icmp_eq (tgt := 183) dX6_readOrder_171 (by decide) (fun h171 => absurd h171 h105) (fun h171 => ?_)
  refine J_aload_n dX6_readOrder_174 rfl rfl ?_
  refine gR_letter wf_X6_176 dX6_readOrder_175 ?_
  refine J_topi (fun z9 hz9 => ?_)
  obtain rfl : z9 = m 200 i := hz9.trans (by exact k10)
  clear hz9
  refine J_bipush (v := 111) dX6_readOrder_178 (by decide) ?_
  refine J_icmp_ne (tgt := 230) dX6_readOrder_180 (by decide) (fun h180 => ?_) (fun h180 => absurd h180 h111)
  refine J_aload_n dX6_readOrder_230 rfl rfl ?_
  refine gR_letter wf_X6_176 dX6_readOrder_231 ?_
  refine J_topi (fun z9 hz9 => ?_)
  obtain rfl : z9 = m 200 i := hz9.trans (by exact k10)
  clear hz9
  refine J_bipush (v := 105) dX6_readOrder_234 (by decide) ?_
  refine J_icmp_ne (tgt := 256) dX6_readOrder_236 (by decide) (fun h236 => ?_) (fun h236 => absurd h236 h105)
  refine J_aload_n dX6_readOrder_256 rfl rfl ?_
  refine gR_letter wf_X6_176 dX6_readOrder_257 ?_
  refine J_topi (fun z9 hz9 => ?_)
  obtain rfl : z9 = m 200 i := hz9.trans (by exact k10)
  clear hz9
  refine J_bipush (v := 119) dX6_readOrder_260 (by decide) ?_
  refine J_icmp_ne (tgt := 277) dX6_readOrder_262 (by decide) (fun h262 => ?_) (fun h262 => absurd h262 h119)
  refine r_void dX6_readOrder_277 ?_
  exact ordX (by unfold oS; rw [if_pos hi, if_neg h98, if_neg h105, if_neg h111, if_neg h97, if_neg h119, if_neg h116]) hR kfr

set_option maxRecDepth 100000 in
set_option maxHeartbeats 4000000 in
theorem ro_e {X : jX} {ad : Nat → Nat} {m : Mem} {s : Rw} {F : Nat → Int32} {L i : Nat} (hR : RF F L (i, true)) (hi : ¬ i < L) : Cm X yX6_readOrder cX6_readOrder 2 (none) 4 ad [.ref 195] (RM m F s) (OrdFin m s F L i) := by
  refine Cm.of (own := RX6) (nm := "readOrder") (by decide +kernel) rfl rfl rfl rfl ?_
  refine J_aload_n dX6_readOrder_0 rfl rfl ?_
  refine J_aload_n dX6_readOrder_1 rfl rfl ?_
  refine gR_spot wf_X6_167 dX6_readOrder_2 ?_
  refine J_topi (fun z9 hz9 => ?_)
  obtain rfl : z9 = (nI i) := hz9.trans (by exact hR.2.1)
  clear hz9
  refine J_aload_n dX6_readOrder_5 rfl rfl ?_
  refine gR_length wf_X6_152 dX6_readOrder_6 ?_
  refine J_topi (fun z9 hz9 => ?_)
  obtain rfl : z9 = (nI L) := hz9.trans (by exact hR.1)
  clear hz9
  refine J_icmp_ge (tgt := 24) dX6_readOrder_9 (by decide) (fun h9 => ?_) (fun h9 => absurd (nI_le1 (Nat.le_of_not_lt hi) (by have h1 := hR.2.2.2.1; have h2 := hR.2.2.2.2; exact Nat.lt_of_le_of_lt h1 (by omega))) h9)
  refine J_iconst (v := 0) dX6_readOrder_24 (by decide) ?_
  refine pR_letter wf_X6_176 dX6_readOrder_25 ?_
  refine J_aload_n dX6_readOrder_28 rfl rfl ?_
  refine J_aload_n dX6_readOrder_29 rfl rfl ?_
  refine gR_isFaulty wf_X6_163 dX6_readOrder_30 ?_
  refine J_topi (fun z9 hz9 => ?_)
  obtain rfl : z9 = 0 := hz9.trans (by exact hR.2.2.1)
  clear hz9
  refine J_if_ne (tgt := 90) dX6_readOrder_33 (by decide) (fun h33 => absurd (by decide) h33) (fun h33 => ?_)
  refine J_aload_n dX6_readOrder_36 rfl rfl ?_
  refine gR_letter wf_X6_176 dX6_readOrder_37 ?_
  refine J_topi (fun z9 hz9 => ?_)
  obtain rfl : z9 = 0 := hz9.trans (by rfl)
  clear hz9
  refine J_bipush (v := 98) dX6_readOrder_40 (by decide) ?_
  refine J_icmp_eq (tgt := 94) dX6_readOrder_42 (by decide) (fun h42 => absurd h42 (by decide)) (fun h42 => ?_)
  refine J_aload_n dX6_readOrder_45 rfl rfl ?_
  refine gR_letter wf_X6_176 dX6_readOrder_46 ?_
  refine J_topi (fun z9 hz9 => ?_)
  obtain rfl : z9 = 0 := hz9.trans (by rfl)
  clear hz9
  refine J_bipush (v := 105) dX6_readOrder_49 (by decide) ?_
  refine J_icmp_eq (tgt := 94) dX6_readOrder_51 (by decide) (fun h51 => absurd h51 (by decide)) (fun h51 => ?_)
  refine J_aload_n dX6_readOrder_54 rfl rfl ?_
  refine gR_letter wf_X6_176 dX6_readOrder_55 ?_
  refine J_topi (fun z9 hz9 => ?_)
  obtain rfl : z9 = 0 := hz9.trans (by rfl)
  clear hz9
  refine J_bipush (v := 111) dX6_readOrder_58 (by decide) ?_
  refine J_icmp_eq (tgt := 94) dX6_readOrder_60 (by decide) (fun h60 => absurd h60 (by decide)) (fun h60 => ?_)
  refine J_aload_n dX6_readOrder_63 rfl rfl ?_
  refine gR_letter wf_X6_176 dX6_readOrder_64 ?_
  refine J_topi (fun z9 hz9 => ?_)
  obtain rfl : z9 = 0 := hz9.trans (by rfl)
  clear hz9
  refine J_bipush (v := 97) dX6_readOrder_67 (by decide) ?_
  refine J_icmp_eq (tgt := 94) dX6_readOrder_69 (by decide) (fun h69 => absurd h69 (by decide)) (fun h69 => ?_)
  refine J_aload_n dX6_readOrder_72 rfl rfl ?_
  refine gR_letter wf_X6_176 dX6_readOrder_73 ?_
  refine J_topi (fun z9 hz9 => ?_)
  obtain rfl : z9 = 0 := hz9.trans (by rfl)
  clear hz9
  refine J_bipush (v := 119) dX6_readOrder_76 (by decide) ?_
  refine J_icmp_eq (tgt := 94) dX6_readOrder_78 (by decide) (fun h78 => absurd h78 (by decide)) (fun h78 => ?_)
  refine J_aload_n dX6_readOrder_81 rfl rfl ?_
  refine gR_letter wf_X6_176 dX6_readOrder_82 ?_
  refine J_topi (fun z9 hz9 => ?_)
  obtain rfl : z9 = 0 := hz9.trans (by rfl)
  clear hz9
  refine J_bipush (v := 116) dX6_readOrder_85 (by decide) ?_
  refine J_icmp_eq (tgt := 94) dX6_readOrder_87 (by decide) (fun h87 => absurd h87 (by decide)) (fun h87 => ?_)
  refine J_iconst (v := 1) dX6_readOrder_90 (by decide) ?_
  refine J_goto (tgt := 95) dX6_readOrder_91 (by decide) ?_
  refine pR_isFaulty wf_X6_163 dX6_readOrder_95 (by first | exact Or.inl rfl | exact Or.inr rfl | exact i01 | exact jin01) ?_
  refine J_aload_n dX6_readOrder_98 rfl rfl ?_
  refine J_dup dX6_readOrder_99 rfl ?_
  refine gR_spot wf_X6_167 dX6_readOrder_100 ?_
  refine J_topi (fun z9 hz9 => ?_)
  obtain rfl : z9 = (nI i) := hz9.trans (by exact hR.2.1)
  clear hz9
  refine J_aload_n dX6_readOrder_103 rfl rfl ?_
  refine gR_isFaulty wf_X6_163 dX6_readOrder_104 ?_
  refine J_topi (fun z9 hz9 => ?_)
  obtain rfl : z9 = 1 := hz9.trans (by rfl)
  clear hz9
  refine J_if_eq (tgt := 114) dX6_readOrder_107 (by decide) (fun h107 => absurd h107 (by decide)) (fun h107 => ?_)
  refine J_iconst (v := 0) dX6_readOrder_110 (by decide) ?_
  refine J_goto (tgt := 115) dX6_readOrder_111 (by decide) ?_
  refine J_iadd dX6_readOrder_115 ?_
  refine pR_spot wf_X6_167 dX6_readOrder_116 ?_
  replace hR := ro_bad (c := 0) hR
  have k10 : upd (upd (upd F 10 (0)) 9 1) 8 (nI i + 0) 10 = 0 := rfl
  have kfr : ∀ k, k < 8 → upd (upd (upd F 10 (0)) 9 1) 8 (nI i + 0) k = F k := fun k hk => by rw [upd_at, if_neg (by omega), upd_at, if_neg (by omega), upd_at, if_neg (by omega)]
  refine J_aload_n dX6_readOrder_119 rfl rfl ?_
  refine J_aload_n dX6_readOrder_120 rfl rfl ?_
  refine gR_letter wf_X6_176 dX6_readOrder_121 ?_
  refine J_topi (fun z9 hz9 => ?_)
  obtain rfl : z9 = 0 := hz9.trans (by exact k10)
  clear hz9
  refine J_bipush (v := 98) dX6_readOrder_124 (by decide) ?_
  refine J_icmp_eq (tgt := 138) dX6_readOrder_126 (by decide) (fun h126 => absurd h126 (by decide)) (fun h126 => ?_)
  refine J_aload_n dX6_readOrder_129 rfl rfl ?_
  refine gR_letter wf_X6_176 dX6_readOrder_130 ?_
  refine J_topi (fun z9 hz9 => ?_)
  obtain rfl : z9 = 0 := hz9.trans (by exact k10)
  clear hz9
  refine J_bipush (v := 116) dX6_readOrder_133 (by decide) ?_
  refine J_icmp_ne (tgt := 145) dX6_readOrder_135 (by decide) (fun h135 => ?_) (fun h135 => absurd h135 (by decide))
  refine J_aload_n dX6_readOrder_145 rfl rfl ?_
  refine J_bipush (v := 48) dX6_readOrder_146 (by decide) ?_
  refine J_bipush (v := 57) dX6_readOrder_148 (by decide) ?_
  refine cVg wv_X6_173 (c_X6_takes (lo := 48) (hi := 57) hR) dX6_readOrder_150 ob6 rfl rfl (kk := (fun v m9 hf => ?_))
  obtain ⟨G, rfl, rfl, hR, hfr⟩ := hf
  have k10 := (hfr 10 (by decide) (by decide)).trans k10
  have kfr := fun k (hk : k < 8) => (hfr k (by omega) (by omega)).trans (kfr k hk)
  refine pR_first wf_X6_182 dX6_readOrder_153 ?_
  rw [dS_f] at hR
  replace hR := RF_upd (k := 11) (v := if (dS (m 200) L 48 57 (i, false)).2 = true then m 200 i - 48 else 0) hR (by decide)
  have kfr : ∀ k, k < 8 → upd G 11 (if (dS (m 200) L 48 57 (i, false)).2 = true then m 200 i - 48 else 0) k = F k := fun k hk => by rw [upd_at, if_neg (by omega)]; exact kfr k hk
  refine J_aload_n dX6_readOrder_156 rfl rfl ?_
  refine gR_letter wf_X6_176 dX6_readOrder_157 ?_
  refine J_topi (fun z9 hz9 => ?_)
  obtain rfl : z9 = 0 := hz9.trans (by exact k10)
  clear hz9
  refine J_bipush (v := 98) dX6_readOrder_160 (by decide) ?_
  refine J_icmp_eq (tgt := 183) dX6_readOrder_162 (by decide) (fun h162 => absurd h162 (by decide)) (fun h162 => ?_)
  refine J_aload_n dX6_readOrder_165 rfl rfl ?_
  refine gR_letter wf_X6_176 dX6_readOrder_166 ?_
  refine J_topi (fun z9 hz9 => ?_)
  obtain rfl : z9 = 0 := hz9.trans (by exact k10)
  clear hz9
  refine J_bipush (v := 105) dX6_readOrder_169 (by decide) ?_
  refine J_icmp_eq (tgt := 183) dX6_readOrder_171 (by decide) (fun h171 => absurd h171 (by decide)) (fun h171 => ?_)
  refine J_aload_n dX6_readOrder_174 rfl rfl ?_
  refine gR_letter wf_X6_176 dX6_readOrder_175 ?_
  refine J_topi (fun z9 hz9 => ?_)
  obtain rfl : z9 = 0 := hz9.trans (by exact k10)
  clear hz9
  refine J_bipush (v := 111) dX6_readOrder_178 (by decide) ?_
  refine J_icmp_ne (tgt := 230) dX6_readOrder_180 (by decide) (fun h180 => ?_) (fun h180 => absurd h180 (by decide))
  refine J_aload_n dX6_readOrder_230 rfl rfl ?_
  refine gR_letter wf_X6_176 dX6_readOrder_231 ?_
  refine J_topi (fun z9 hz9 => ?_)
  obtain rfl : z9 = 0 := hz9.trans (by exact k10)
  clear hz9
  refine J_bipush (v := 105) dX6_readOrder_234 (by decide) ?_
  refine J_icmp_ne (tgt := 256) dX6_readOrder_236 (by decide) (fun h236 => ?_) (fun h236 => absurd h236 (by decide))
  refine J_aload_n dX6_readOrder_256 rfl rfl ?_
  refine gR_letter wf_X6_176 dX6_readOrder_257 ?_
  refine J_topi (fun z9 hz9 => ?_)
  obtain rfl : z9 = 0 := hz9.trans (by exact k10)
  clear hz9
  refine J_bipush (v := 119) dX6_readOrder_260 (by decide) ?_
  refine J_icmp_ne (tgt := 277) dX6_readOrder_262 (by decide) (fun h262 => ?_) (fun h262 => absurd h262 (by decide))
  refine r_void dX6_readOrder_277 ?_
  exact ordX (by unfold oS; rw [if_neg hi]) hR kfr

theorem c_X6_readOrder {X : jX} {ad : Nat → Nat} {m : Mem} {s : Rw} {F : Nat → Int32} {L i : Nat} (hR : RF F L (i, true)) : Cm X yX6_readOrder cX6_readOrder 2 (none) 4 ad [.ref 195] (RM m F s) (OrdFin m s F L i) := by
  by_cases hi : i < L
  · by_cases h98 : m 200 i = 98
    · exact ro_b hR hi h98
    by_cases h105 : m 200 i = 105
    · exact ro_i hR hi h105
    by_cases h111 : m 200 i = 111
    · exact ro_o hR hi h111
    by_cases h97 : m 200 i = 97
    · exact ro_a hR hi h97
    by_cases h119 : m 200 i = 119
    · exact ro_w hR hi h119
    by_cases h116 : m 200 i = 116
    · exact ro_t hR hi h116
    exact ro_x hR hi h98 h105 h111 h97 h119 h116
  · exact ro_e hR hi
