theorem b1t {b : Bool} (h : ¬ (if b = true then (1 : Int32) else 0) = 0) : b = true := Classical.byContradiction (fun g => h (if_neg g))
theorem b1f {b : Bool} (h : (if b = true then (1 : Int32) else 0) = 0) : b = false := by
  by_cases g : b = true
  · rw [if_pos g] at h; exact absurd h (by decide)
  · exact Bool.eq_false_iff.mpr g
theorem two_nat : ∀ a, a < 10 → ∀ b, b < 10 → ¬ 10 * nI a + nI b = -6 := by decide
theorem dg_nI {x : Int32} (h : ¬ jin x 48 57 = 0) : ∃ a, a < 10 ∧ x - 48 = nI a := by
  obtain ⟨k, hk, rfl⟩ := jin_nat (n := 57) (by decide) rfl h
  have h48 : 48 ≤ k := by
    rcases Nat.lt_or_ge k 48 with g | g
    · exact absurd ((show ∀ k, k < 48 → jin (nI k) 48 57 = 0 by decide) k g) h
    · exact g
  obtain ⟨j, rfl⟩ : ∃ j, k = 48 + j := ⟨k - 48, by omega⟩
  exact ⟨j, by omega, (show ∀ j, j < 10 → nI (48 + j) - 48 = nI j by decide) j (by omega)⟩
theorem nm_ne {P : Nat → Int32} {L : Nat} {p : Nat × Bool} (h : (nS P L p).2 = true) : ¬ nV P L p.1 = -6 := by
  unfold nS at h
  split at h
  · split at h
    · exact absurd (show false = true from h) (by decide)
    · next h1 h2 =>
      have hj : ¬ jin (P p.1) 48 57 = 0 := by
        unfold nx at h2
        split at h2
        · exact h2
        · exact absurd rfl h2
      unfold nV
      split
      · exact (dg_of hj).1
      · split
        · exact (dg_of hj).1
        · next h3 =>
          have hj2 : ¬ jin (P (p.1 + 1)) 48 57 = 0 := by
            unfold nx at h3
            split at h3
            · exact h3
            · exact absurd rfl h3
          obtain ⟨a, ha, e1⟩ := dg_nI hj
          obtain ⟨b, hb, e2⟩ := dg_nI hj2
          rw [e1, e2]
          exact two_nat a ha b hb
  · exact absurd (show false = true from h) (by decide)
theorem nm_f {P : Nat → Int32} {L : Nat} {p : Nat × Bool} (h : (if (nS P L p).2 = true then nV P L p.1 else -6) = -6) : (nS P L p).2 = false := by
  by_cases g : (nS P L p).2 = true
  · rw [if_pos g] at h; exact absurd h (nm_ne g)
  · exact Bool.eq_false_iff.mpr g
theorem nm_t {P : Nat → Int32} {L : Nat} {p : Nat × Bool} (h : ¬ (if (nS P L p).2 = true then nV P L p.1 else -6) = -6) : (nS P L p).2 = true := Classical.byContradiction (fun g => h (if_neg g))
/-- an order read by the class -/
def OcFin (m : Mem) (F P : Nat → Int32) (L i : Nat) (v : Option Value) (m9 : Mem) : Prop := v = some (.int (if (oS P L i).2 = true then 1 else 0)) ∧ ∃ G W, m9 = PM m G W ∧ RC G L (oS P L i).1 ∧ G 1 = F 1 ∧ ((oS P L i).2 = true → G 3 = P i ∧ oV P L i (W 0) (W 1) (W 2))
theorem oc_fail {m : Mem} {F G W P : Nat → Int32} {L i : Nat} {q : Nat × Bool} (e : oS P L i = q) (hq : q.2 = false) (hR : RC G L q.1) (h1 : G 1 = F 1) : OcFin m F P L i (some (.int 0)) (PM m G W) := by
  unfold OcFin
  rw [e, hq]
  exact ⟨rfl, G, W, rfl, hR, h1, fun g => absurd g (by decide)⟩
theorem oc_ok {m : Mem} {F G W P : Nat → Int32} {L i : Nat} {q : Nat × Bool} (e : oS P L i = q) (hq : q.2 = true) (hR : RC G L q.1) (h1 : G 1 = F 1) (h3 : G 3 = P i) (hv : oV P L i (W 0) (W 1) (W 2)) : OcFin m F P L i (some (.int 1)) (PM m G W) := by
  unfold OcFin
  rw [e, hq]
  exact ⟨rfl, G, W, rfl, hR, h1, fun _ => ⟨h3, hv⟩⟩
section OSE
variable {P : Nat → Int32} {L i : Nat}
theorem os_b (hi : i < L) (hc : P i = 98) : oS P L i = nS P L (dS P L 46 46 (nS P L (i + 1, true))) := by unfold oS; rw [if_pos hi, if_pos hc]
theorem os_i (hi : i < L) (hc : P i = 105) : oS P L i = nS P L (dS P L 43 43 (dS P L 48 57 (dS P L 64 64 (dS P L 48 57 (i + 1, true))))) := by unfold oS; rw [if_pos hi, hc, if_neg n98.1, if_pos rfl]
theorem os_o (hi : i < L) (hc : P i = 111) : oS P L i = nS P L (dS P L 45 45 (dS P L 48 57 (i + 1, true))) := by unfold oS; rw [if_pos hi, hc, if_neg n98.2.1, if_neg n105.1, if_pos rfl]
theorem os_a (hi : i < L) (hc : P i = 97) : oS P L i = dS P L 48 57 (i + 1, true) := by unfold oS; rw [if_pos hi, hc, if_neg n98.2.2.1, if_neg n105.2.1, if_neg n111.1, if_pos rfl]
theorem os_w (hi : i < L) (hc : P i = 119) : oS P L i = dS P L 48 57 (dS P L 48 57 (i + 1, true)) := by unfold oS; rw [if_pos hi, hc, if_neg n98.2.2.2.1, if_neg n105.2.2.1, if_neg n111.2.1, if_neg n97.1, if_pos rfl]
theorem os_t (hi : i < L) (hc : P i = 116) : oS P L i = nS P L (i + 1, true) := by unfold oS; rw [if_pos hi, hc, if_neg n98.2.2.2.2, if_neg n105.2.2.2, if_neg n111.2.2, if_neg n97.2.1, if_neg n97.2.2, if_pos rfl]
theorem ov_b {x y z : Int32} (hc : P i = 98) (h1 : x = nV P L (i + 1)) (h2 : y = nV P L (dS P L 46 46 (nS P L (i + 1, true))).1) : oV P L i x y z := by unfold oV; rw [if_pos hc]; exact ⟨h1, h2⟩
theorem ov_i {x y z : Int32} (hc : P i = 105) (h1 : x = P (i + 1) - 48) (h2 : y = P (i + 3) - 48) (h3 : z = nV P L (i + 5)) : oV P L i x y z := by unfold oV; rw [hc, if_neg n98.1, if_pos rfl]; exact ⟨h1, h2, h3⟩
theorem ov_o {x y z : Int32} (hc : P i = 111) (h1 : x = P (i + 1) - 48) (h2 : y = nV P L (i + 3)) : oV P L i x y z := by unfold oV; rw [hc, if_neg n98.2.1, if_neg n105.1, if_pos rfl]; exact ⟨h1, h2⟩
theorem ov_a {x y z : Int32} (hc : P i = 97) (h1 : x = P (i + 1) - 48) : oV P L i x y z := by unfold oV; rw [hc, if_neg n98.2.2.1, if_neg n105.2.1, if_neg n111.1, if_pos rfl]; exact h1
theorem ov_w {x y z : Int32} (hc : P i = 119) (h1 : x = P (i + 1) - 48) (h2 : y = P (i + 2) - 48) : oV P L i x y z := by unfold oV; rw [hc, if_neg n98.2.2.2.1, if_neg n105.2.2.1, if_neg n111.2.1, if_neg n97.1, if_pos rfl]; exact ⟨h1, h2⟩
theorem ov_t {x y z : Int32} (hc : P i = 116) (h1 : x = nV P L (i + 1)) : oV P L i x y z := by unfold oV; rw [hc, if_neg n98.2.2.2.2, if_neg n105.2.2.2, if_neg n111.2.2, if_neg n97.2.1, if_neg n97.2.2]; exact h1
end OSE
set_option maxRecDepth 100000 in
set_option maxHeartbeats 4000000 in
theorem c_form0 {X : jX} {ad : Nat → Nat} {mem : Mem}  (had : ∀ k, ad (1000 + k) = jx X k) : Cd X yX4_formOf cX4_formOf 1 (some (.object "java/lang/String")) 0 ad [.int 98] mem (some (.ref 1010)) (mem) := by
  refine Cm.of (own := RX4) (nm := "formOf") (by decide +kernel) rfl rfl rfl rfl ?_
  refine J_iload_n dX4_formOf_0 rfl rfl ?_
  refine J_lookup (tgt := 60) dX4_formOf_1 (by decide) rfl (by decide) ?_
  refine J_ldcS (n := 1010) rfl 0 (by decide) rfl (had 10) dX4_formOf_60 ?_
  refine r_ref dX4_formOf_62 ?_
  exact ⟨rfl, rfl⟩

set_option maxRecDepth 100000 in
set_option maxHeartbeats 4000000 in
theorem c_form1 {X : jX} {ad : Nat → Nat} {mem : Mem}  (had : ∀ k, ad (1000 + k) = jx X k) : Cd X yX4_formOf cX4_formOf 1 (some (.object "java/lang/String")) 0 ad [.int 105] mem (some (.ref 1011)) (mem) := by
  refine Cm.of (own := RX4) (nm := "formOf") (by decide +kernel) rfl rfl rfl rfl ?_
  refine J_iload_n dX4_formOf_0 rfl rfl ?_
  refine J_lookup (tgt := 63) dX4_formOf_1 (by decide) rfl (by decide) ?_
  refine J_ldcS (n := 1011) rfl 1 (by decide) rfl (had 11) dX4_formOf_63 ?_
  refine r_ref dX4_formOf_65 ?_
  exact ⟨rfl, rfl⟩

set_option maxRecDepth 100000 in
set_option maxHeartbeats 4000000 in
theorem c_form2 {X : jX} {ad : Nat → Nat} {mem : Mem}  (had : ∀ k, ad (1000 + k) = jx X k) : Cd X yX4_formOf cX4_formOf 1 (some (.object "java/lang/String")) 0 ad [.int 111] mem (some (.ref 1012)) (mem) := by
  refine Cm.of (own := RX4) (nm := "formOf") (by decide +kernel) rfl rfl rfl rfl ?_
  refine J_iload_n dX4_formOf_0 rfl rfl ?_
  refine J_lookup (tgt := 66) dX4_formOf_1 (by decide) rfl (by decide) ?_
  refine J_ldcS (n := 1012) rfl 2 (by decide) rfl (had 12) dX4_formOf_66 ?_
  refine r_ref dX4_formOf_68 ?_
  exact ⟨rfl, rfl⟩

set_option maxRecDepth 100000 in
set_option maxHeartbeats 4000000 in
theorem c_form3 {X : jX} {ad : Nat → Nat} {mem : Mem}  (had : ∀ k, ad (1000 + k) = jx X k) : Cd X yX4_formOf cX4_formOf 1 (some (.object "java/lang/String")) 0 ad [.int 97] mem (some (.ref 1013)) (mem) := by
  refine Cm.of (own := RX4) (nm := "formOf") (by decide +kernel) rfl rfl rfl rfl ?_
  refine J_iload_n dX4_formOf_0 rfl rfl ?_
  refine J_lookup (tgt := 69) dX4_formOf_1 (by decide) rfl (by decide) ?_
  refine J_ldcS (n := 1013) rfl 3 (by decide) rfl (had 13) dX4_formOf_69 ?_
  refine r_ref dX4_formOf_71 ?_
  exact ⟨rfl, rfl⟩

set_option maxRecDepth 100000 in
set_option maxHeartbeats 4000000 in
theorem c_form4 {X : jX} {ad : Nat → Nat} {mem : Mem}  (had : ∀ k, ad (1000 + k) = jx X k) : Cd X yX4_formOf cX4_formOf 1 (some (.object "java/lang/String")) 0 ad [.int 119] mem (some (.ref 1014)) (mem) := by
  refine Cm.of (own := RX4) (nm := "formOf") (by decide +kernel) rfl rfl rfl rfl ?_
  refine J_iload_n dX4_formOf_0 rfl rfl ?_
  refine J_lookup (tgt := 72) dX4_formOf_1 (by decide) rfl (by decide) ?_
  refine J_ldcS (n := 1014) rfl 4 (by decide) rfl (had 14) dX4_formOf_72 ?_
  refine r_ref dX4_formOf_74 ?_
  exact ⟨rfl, rfl⟩

set_option maxRecDepth 100000 in
set_option maxHeartbeats 4000000 in
theorem c_form5 {X : jX} {ad : Nat → Nat} {mem : Mem}  (had : ∀ k, ad (1000 + k) = jx X k) : Cd X yX4_formOf cX4_formOf 1 (some (.object "java/lang/String")) 0 ad [.int 116] mem (some (.ref 1015)) (mem) := by
  refine Cm.of (own := RX4) (nm := "formOf") (by decide +kernel) rfl rfl rfl rfl ?_
  refine J_iload_n dX4_formOf_0 rfl rfl ?_
  refine J_lookup (tgt := 75) dX4_formOf_1 (by decide) rfl (by decide) ?_
  refine J_ldcS (n := 1015) rfl 5 (by decide) rfl (had 15) dX4_formOf_75 ?_
  refine r_ref dX4_formOf_77 ?_
  exact ⟨rfl, rfl⟩

theorem lk_else {x : Int32} (h1 : ¬ x = 98) (h2 : ¬ x = 105) (h3 : ¬ x = 111) (h4 : ¬ x = 97) (h5 : ¬ x = 119) (h6 : ¬ x = 116) : Op.lookupswitch.offset [(97, 68), (98, 59), (105, 62), (111, 65), (116, 74), (119, 71)] 77 x.toInt = 77 := by
  have e : ∀ (k : Int32) (z : Int), k.toInt = z → ¬ x = k → ¬ x.toInt = z := fun k z hk h g => h (Int32.toInt_inj.mp (g.trans hk.symm))
  have a1 := e 98 98 rfl h1
  have a2 := e 105 105 rfl h2
  have a3 := e 111 111 rfl h3
  have a4 := e 97 97 rfl h4
  have a5 := e 119 119 rfl h5
  have a6 := e 116 116 rfl h6
  simp [Op.lookupswitch.offset, List.find?, a1, a2, a3, a4, a5, a6, Ne.symm a1, Ne.symm a2, Ne.symm a3, Ne.symm a4, Ne.symm a5, Ne.symm a6, eq_comm]
set_option maxRecDepth 100000 in
set_option maxHeartbeats 4000000 in
theorem c_form6 {X : jX} {ad : Nat → Nat} {mem : Mem} {x : Int32} (h1 : ¬ x = 98) (h2 : ¬ x = 105) (h3 : ¬ x = 111) (h4 : ¬ x = 97) (h5 : ¬ x = 119) (h6 : ¬ x = 116) (had : ∀ k, ad (1000 + k) = jx X k) : Cd X yX4_formOf cX4_formOf 1 (some (.object "java/lang/String")) 0 ad [.int x] mem (some (.ref 1016)) (mem) := by
  refine Cm.of (own := RX4) (nm := "formOf") (by decide +kernel) rfl rfl rfl rfl ?_
  refine J_iload_n dX4_formOf_0 rfl rfl ?_
  refine J_lookup (tgt := 78) dX4_formOf_1 (by decide) (lk_else h1 h2 h3 h4 h5 h6) (by decide) ?_
  refine J_ldcS (n := 1016) rfl 6 (by decide) rfl (had 16) dX4_formOf_78 ?_
  refine r_ref dX4_formOf_80 ?_
  exact ⟨rfl, rfl⟩

set_option maxRecDepth 100000 in
set_option maxHeartbeats 4000000 in
theorem oc_b {X : jX} {ad : Nat → Nat} {m : Mem} {F W : Nat → Int32} {P : Nat → Int32} {L : Nat} {i : Nat} (hR : RC F L i) (hP : SgP m P L) (hi : i < L) (hc : P i = 98) (had : ∀ k, ad (1000 + k) = jx X k) : Cm X yX4_readOrder cX4_readOrder 6 (some .boolean) 5 ad [.ref 190] (PM m F W) (OcFin m F P L i) := by
  refine Cm.of (own := RX4) (nm := "readOrder") (by decide +kernel) rfl rfl rfl rfl ?_
  refine J_aload_n dX4_readOrder_0 rfl rfl ?_
  refine J_aload_n dX4_readOrder_1 rfl rfl ?_
  refine cVi wv_X4_49 (c_X4_signHere hR hP) dX4_readOrder_2 ob4 rfl rfl (kk := ?_)
  refine J_topi (fun z9 hz9 => ?_)
  obtain rfl : z9 = 98 := hz9.trans (by rw [sgn, if_pos hi]; exact hc)
  clear hz9
  refine pP_kind wf_X4_53 dX4_readOrder_5 ?_
  refine J_aload_n dX4_readOrder_8 rfl rfl ?_
  refine gP_kind wf_X4_53 dX4_readOrder_9 ?_
  refine J_topi (fun z9 hz9 => ?_)
  obtain rfl : z9 = 98 := hz9.trans (by rfl)
  clear hz9
  refine cSr ws_X4_56 (c_form0 had) dX4_readOrder_12 (kk := ?_)
  refine J_astore_n dX4_readOrder_15 rfl rfl rfl ?_
  refine J_aload_n dX4_readOrder_16 rfl rfl ?_
  refine cStri wv_X4_60 (c_empty0 had) dX4_readOrder_17 0 (by decide) (had 10) (kk := ?_)
  refine J_if_eq (tgt := 25) dX4_readOrder_20 (by decide) (fun h20 => ?_) (fun h20 => absurd (by decide) h20)
  refine J_aload_n dX4_readOrder_25 rfl rfl ?_
  refine J_dup dX4_readOrder_26 rfl ?_
  refine gP_place wf_X4_39 dX4_readOrder_27 ?_
  refine J_topi (fun z9 hz9 => ?_)
  obtain rfl : z9 = (nI i) := hz9.trans (by exact hR.2.1)
  clear hz9
  refine J_iconst (v := 1) dX4_readOrder_30 (by decide) ?_
  refine J_iadd dX4_readOrder_31 ?_
  refine pP_place wf_X4_39 dX4_readOrder_32 ?_
  replace hR : RC (upd (upd F 3 98) 2 (nI i + 1)) L (i + 1) := RC_next (F := upd F 3 98) (RC_upd hR (by decide)) hi
  have hp0 : (i + 1, true).2 = true := rfl
  have k1 : upd (upd F 3 98) 2 (nI i + 1) 1 = F 1 := rfl
  have k3 : upd (upd F 3 98) 2 (nI i + 1) 3 = 98 := rfl
  refine J_iconst (v := 0) dX4_readOrder_35 (by decide) ?_
  refine J_istore_n dX4_readOrder_36 rfl rfl rfl ?_
  refine J_iconst (v := 0) dX4_readOrder_37 (by decide) ?_
  refine J_istore_n dX4_readOrder_38 rfl rfl rfl ?_
  refine J_iload_n dX4_readOrder_39 rfl rfl ?_
  refine J_aload_n dX4_readOrder_40 rfl rfl ?_
  refine cStri wv_X4_65 (c_len0 had) dX4_readOrder_41 0 (by decide) (had 10) (kk := ?_)
  refine J_icmp_ge (tgt := 130) dX4_readOrder_44 (by decide) (fun h44 => absurd h44 (by decide)) (fun h44 => ?_)
  refine J_aload_n dX4_readOrder_47 rfl rfl ?_
  refine J_iload_n dX4_readOrder_48 rfl rfl ?_
  refine cStri wv_X4_67 (c_char0_0 had) dX4_readOrder_49 0 (by decide) (had 10) (kk := ?_)
  refine J_istore dX4_readOrder_52 rfl rfl ?_
  refine J_iload dX4_readOrder_54 rfl ?_
  refine J_bipush (v := 35) dX4_readOrder_56 (by decide) ?_
  refine J_icmp_eq (tgt := 79) dX4_readOrder_58 (by decide) (fun h58 => ?_) (fun h58 => absurd (by decide) h58)
  refine J_iload dX4_readOrder_79 rfl ?_
  refine J_bipush (v := 100) dX4_readOrder_81 (by decide) ?_
  refine J_icmp_ne (tgt := 93) dX4_readOrder_83 (by decide) (fun h83 => ?_) (fun h83 => absurd h83 (by decide))
  refine J_aload_n dX4_readOrder_93 rfl rfl ?_
  refine cVg wv_X4_74 (c_X4_readNumber (p := (i + 1, true)) hR hP hp0) dX4_readOrder_94 ob4 rfl rfl (kk := (fun v m9 hf => ?_))
  obtain ⟨G, rfl, rfl, hR, hfr⟩ := hf
  have k1 := (hfr 1 (by decide)).trans k1
  have k3 := (hfr 3 (by decide)).trans k3
  refine J_istore dX4_readOrder_97 rfl rfl ?_
  refine J_iload dX4_readOrder_99 rfl ?_
  refine J_bipush (v := -6) dX4_readOrder_101 (by decide) ?_
  refine J_icmp_eq (tgt := 111) dX4_readOrder_103 (by decide) (fun h103 => ?_) (fun h103 => ?_)
  · refine J_iconst (v := 0) dX4_readOrder_111 (by decide) ?_
    refine r_bool dX4_readOrder_112 (by first | exact Or.inl rfl | exact Or.inr rfl | exact i01 | exact jin01) ?_
    have hk := nm_f h103
    have e := os_b hi hc
    rw [show ((nS P L (dS P L 46 46 (nS P L (i + 1, true))))) = (nS P L (i + 1, true)) by simp only [dS_bad hk, nS_bad hk]] at e
    exact oc_fail e hk hR k1
  · refine J_iload_n dX4_readOrder_106 rfl rfl ?_
    refine J_iconst (v := 3) dX4_readOrder_107 (by decide) ?_
    refine J_icmp_lt (tgt := 113) dX4_readOrder_108 (by decide) (fun h108 => ?_) (fun h108 => absurd (by decide) h108)
    have hp1 := nm_t h103
    refine J_aload_n dX4_readOrder_113 rfl rfl ?_
    refine gX4_values wf_X4_15 dX4_readOrder_114 ?_
    refine J_iload_n dX4_readOrder_117 rfl rfl ?_
    refine J_iload dX4_readOrder_118 rfl ?_
    refine wP_vals 0 (by decide) (by decide) dX4_readOrder_120 ?_
    refine J_iinc (v := 1) dX4_readOrder_121 rfl (by decide) rfl rfl ?_
    refine J_iinc (v := 1) dX4_readOrder_124 rfl (by decide) rfl rfl ?_
    refine J_goto (tgt := 39) dX4_readOrder_127 (by decide) ?_
    refine J_iload_n dX4_readOrder_39 rfl rfl ?_
    refine J_aload_n dX4_readOrder_40 rfl rfl ?_
    refine cStri wv_X4_65 (c_len0 had) dX4_readOrder_41 0 (by decide) (had 10) (kk := ?_)
    refine J_icmp_ge (tgt := 130) dX4_readOrder_44 (by decide) (fun h44 => absurd h44 (by decide)) (fun h44 => ?_)
    refine J_aload_n dX4_readOrder_47 rfl rfl ?_
    refine J_iload_n dX4_readOrder_48 rfl rfl ?_
    refine cStri wv_X4_67 (c_char0_1 had) dX4_readOrder_49 0 (by decide) (had 10) (kk := ?_)
    refine J_istore dX4_readOrder_52 rfl rfl ?_
    refine J_iload dX4_readOrder_54 rfl ?_
    refine J_bipush (v := 35) dX4_readOrder_56 (by decide) ?_
    refine J_icmp_eq (tgt := 79) dX4_readOrder_58 (by decide) (fun h58 => absurd h58 (by decide)) (fun h58 => ?_)
    refine J_iload dX4_readOrder_61 rfl ?_
    refine J_bipush (v := 100) dX4_readOrder_63 (by decide) ?_
    refine J_icmp_eq (tgt := 79) dX4_readOrder_65 (by decide) (fun h65 => absurd h65 (by decide)) (fun h65 => ?_)
    refine J_aload_n dX4_readOrder_68 rfl rfl ?_
    refine J_iload dX4_readOrder_69 rfl ?_
    refine cVg wv_X4_45 (c_X4_readSign (p := (nS P L (i + 1, true))) (c := 46) hR hP hp1 (by decide)) dX4_readOrder_71 ob4 rfl rfl (kk := (fun v m9 hf => ?_))
    obtain ⟨G, rfl, rfl, hR, hfr⟩ := hf
    have k1 := (hfr 1 (by decide)).trans k1
    have k3 := (hfr 3 (by decide)).trans k3
    refine J_if_ne (tgt := 124) dX4_readOrder_74 (by decide) (fun h74 => ?_) (fun h74 => ?_)
    · have hp2 := b1t h74
      refine J_iinc (v := 2) dX4_readOrder_124 rfl (by decide) rfl rfl ?_
      refine J_goto (tgt := 39) dX4_readOrder_127 (by decide) ?_
      refine J_iload_n dX4_readOrder_39 rfl rfl ?_
      refine J_aload_n dX4_readOrder_40 rfl rfl ?_
      refine cStri wv_X4_65 (c_len0 had) dX4_readOrder_41 0 (by decide) (had 10) (kk := ?_)
      refine J_icmp_ge (tgt := 130) dX4_readOrder_44 (by decide) (fun h44 => absurd h44 (by decide)) (fun h44 => ?_)
      refine J_aload_n dX4_readOrder_47 rfl rfl ?_
      refine J_iload_n dX4_readOrder_48 rfl rfl ?_
      refine cStri wv_X4_67 (c_char0_2 had) dX4_readOrder_49 0 (by decide) (had 10) (kk := ?_)
      refine J_istore dX4_readOrder_52 rfl rfl ?_
      refine J_iload dX4_readOrder_54 rfl ?_
      refine J_bipush (v := 35) dX4_readOrder_56 (by decide) ?_
      refine J_icmp_eq (tgt := 79) dX4_readOrder_58 (by decide) (fun h58 => ?_) (fun h58 => absurd (by decide) h58)
      refine J_iload dX4_readOrder_79 rfl ?_
      refine J_bipush (v := 100) dX4_readOrder_81 (by decide) ?_
      refine J_icmp_ne (tgt := 93) dX4_readOrder_83 (by decide) (fun h83 => ?_) (fun h83 => absurd h83 (by decide))
      refine J_aload_n dX4_readOrder_93 rfl rfl ?_
      refine cVg wv_X4_74 (c_X4_readNumber (p := (dS P L 46 46 (nS P L (i + 1, true)))) hR hP hp2) dX4_readOrder_94 ob4 rfl rfl (kk := (fun v m9 hf => ?_))
      obtain ⟨G, rfl, rfl, hR, hfr⟩ := hf
      have k1 := (hfr 1 (by decide)).trans k1
      have k3 := (hfr 3 (by decide)).trans k3
      refine J_istore dX4_readOrder_97 rfl rfl ?_
      refine J_iload dX4_readOrder_99 rfl ?_
      refine J_bipush (v := -6) dX4_readOrder_101 (by decide) ?_
      refine J_icmp_eq (tgt := 111) dX4_readOrder_103 (by decide) (fun h103 => ?_) (fun h103 => ?_)
      · refine J_iconst (v := 0) dX4_readOrder_111 (by decide) ?_
        refine r_bool dX4_readOrder_112 (by first | exact Or.inl rfl | exact Or.inr rfl | exact i01 | exact jin01) ?_
        have hk := nm_f h103
        have e := os_b hi hc
        exact oc_fail e hk hR k1
      · refine J_iload_n dX4_readOrder_106 rfl rfl ?_
        refine J_iconst (v := 3) dX4_readOrder_107 (by decide) ?_
        refine J_icmp_lt (tgt := 113) dX4_readOrder_108 (by decide) (fun h108 => ?_) (fun h108 => absurd (by decide) h108)
        have hp3 := nm_t h103
        refine J_aload_n dX4_readOrder_113 rfl rfl ?_
        refine gX4_values wf_X4_15 dX4_readOrder_114 ?_
        refine J_iload_n dX4_readOrder_117 rfl rfl ?_
        refine J_iload dX4_readOrder_118 rfl ?_
        refine wP_vals 1 (by decide) (by decide) dX4_readOrder_120 ?_
        refine J_iinc (v := 2) dX4_readOrder_121 rfl (by decide) rfl rfl ?_
        refine J_iinc (v := 3) dX4_readOrder_124 rfl (by decide) rfl rfl ?_
        refine J_goto (tgt := 39) dX4_readOrder_127 (by decide) ?_
        refine J_iload_n dX4_readOrder_39 rfl rfl ?_
        refine J_aload_n dX4_readOrder_40 rfl rfl ?_
        refine cStri wv_X4_65 (c_len0 had) dX4_readOrder_41 0 (by decide) (had 10) (kk := ?_)
        refine J_icmp_ge (tgt := 130) dX4_readOrder_44 (by decide) (fun h44 => ?_) (fun h44 => absurd (by decide) h44)
        refine J_iconst (v := 1) dX4_readOrder_130 (by decide) ?_
        refine r_bool dX4_readOrder_131 (by first | exact Or.inl rfl | exact Or.inr rfl | exact i01 | exact jin01) ?_
        refine oc_ok (os_b hi hc) hp3 hR k1 (k3.trans hc.symm) ?_
        have z2 := (dS_ok hp2).2.2.2
        exact ov_b hc (if_pos hp1) (if_pos hp3)
    · refine J_iconst (v := 0) dX4_readOrder_77 (by decide) ?_
      refine r_bool dX4_readOrder_78 (by first | exact Or.inl rfl | exact Or.inr rfl | exact i01 | exact jin01) ?_
      have hk := b1f h74
      have e := os_b hi hc
      rw [show ((nS P L (dS P L 46 46 (nS P L (i + 1, true))))) = (dS P L 46 46 (nS P L (i + 1, true))) by simp only [dS_bad hk, nS_bad hk]] at e
      exact oc_fail e hk hR k1

set_option maxRecDepth 100000 in
set_option maxHeartbeats 4000000 in
theorem oc_i {X : jX} {ad : Nat → Nat} {m : Mem} {F W : Nat → Int32} {P : Nat → Int32} {L : Nat} {i : Nat} (hR : RC F L i) (hP : SgP m P L) (hi : i < L) (hc : P i = 105) (had : ∀ k, ad (1000 + k) = jx X k) : Cm X yX4_readOrder cX4_readOrder 6 (some .boolean) 5 ad [.ref 190] (PM m F W) (OcFin m F P L i) := by
  refine Cm.of (own := RX4) (nm := "readOrder") (by decide +kernel) rfl rfl rfl rfl ?_
  refine J_aload_n dX4_readOrder_0 rfl rfl ?_
  refine J_aload_n dX4_readOrder_1 rfl rfl ?_
  refine cVi wv_X4_49 (c_X4_signHere hR hP) dX4_readOrder_2 ob4 rfl rfl (kk := ?_)
  refine J_topi (fun z9 hz9 => ?_)
  obtain rfl : z9 = 105 := hz9.trans (by rw [sgn, if_pos hi]; exact hc)
  clear hz9
  refine pP_kind wf_X4_53 dX4_readOrder_5 ?_
  refine J_aload_n dX4_readOrder_8 rfl rfl ?_
  refine gP_kind wf_X4_53 dX4_readOrder_9 ?_
  refine J_topi (fun z9 hz9 => ?_)
  obtain rfl : z9 = 105 := hz9.trans (by rfl)
  clear hz9
  refine cSr ws_X4_56 (c_form1 had) dX4_readOrder_12 (kk := ?_)
  refine J_astore_n dX4_readOrder_15 rfl rfl rfl ?_
  refine J_aload_n dX4_readOrder_16 rfl rfl ?_
  refine cStri wv_X4_60 (c_empty1 had) dX4_readOrder_17 1 (by decide) (had 11) (kk := ?_)
  refine J_if_eq (tgt := 25) dX4_readOrder_20 (by decide) (fun h20 => ?_) (fun h20 => absurd (by decide) h20)
  refine J_aload_n dX4_readOrder_25 rfl rfl ?_
  refine J_dup dX4_readOrder_26 rfl ?_
  refine gP_place wf_X4_39 dX4_readOrder_27 ?_
  refine J_topi (fun z9 hz9 => ?_)
  obtain rfl : z9 = (nI i) := hz9.trans (by exact hR.2.1)
  clear hz9
  refine J_iconst (v := 1) dX4_readOrder_30 (by decide) ?_
  refine J_iadd dX4_readOrder_31 ?_
  refine pP_place wf_X4_39 dX4_readOrder_32 ?_
  replace hR : RC (upd (upd F 3 105) 2 (nI i + 1)) L (i + 1) := RC_next (F := upd F 3 105) (RC_upd hR (by decide)) hi
  have hp0 : (i + 1, true).2 = true := rfl
  have k1 : upd (upd F 3 105) 2 (nI i + 1) 1 = F 1 := rfl
  have k3 : upd (upd F 3 105) 2 (nI i + 1) 3 = 105 := rfl
  refine J_iconst (v := 0) dX4_readOrder_35 (by decide) ?_
  refine J_istore_n dX4_readOrder_36 rfl rfl rfl ?_
  refine J_iconst (v := 0) dX4_readOrder_37 (by decide) ?_
  refine J_istore_n dX4_readOrder_38 rfl rfl rfl ?_
  refine J_iload_n dX4_readOrder_39 rfl rfl ?_
  refine J_aload_n dX4_readOrder_40 rfl rfl ?_
  refine cStri wv_X4_65 (c_len1 had) dX4_readOrder_41 1 (by decide) (had 11) (kk := ?_)
  refine J_icmp_ge (tgt := 130) dX4_readOrder_44 (by decide) (fun h44 => absurd h44 (by decide)) (fun h44 => ?_)
  refine J_aload_n dX4_readOrder_47 rfl rfl ?_
  refine J_iload_n dX4_readOrder_48 rfl rfl ?_
  refine cStri wv_X4_67 (c_char1_0 had) dX4_readOrder_49 1 (by decide) (had 11) (kk := ?_)
  refine J_istore dX4_readOrder_52 rfl rfl ?_
  refine J_iload dX4_readOrder_54 rfl ?_
  refine J_bipush (v := 35) dX4_readOrder_56 (by decide) ?_
  refine J_icmp_eq (tgt := 79) dX4_readOrder_58 (by decide) (fun h58 => absurd h58 (by decide)) (fun h58 => ?_)
  refine J_iload dX4_readOrder_61 rfl ?_
  refine J_bipush (v := 100) dX4_readOrder_63 (by decide) ?_
  refine J_icmp_eq (tgt := 79) dX4_readOrder_65 (by decide) (fun h65 => ?_) (fun h65 => absurd (by decide) h65)
  refine J_iload dX4_readOrder_79 rfl ?_
  refine J_bipush (v := 100) dX4_readOrder_81 (by decide) ?_
  refine J_icmp_ne (tgt := 93) dX4_readOrder_83 (by decide) (fun h83 => absurd (by decide) h83) (fun h83 => ?_)
  refine J_aload_n dX4_readOrder_86 rfl rfl ?_
  refine cVg wv_X4_71 (c_X4_readDigit (p := (i + 1, true)) hR hP hp0) dX4_readOrder_87 ob4 rfl rfl (kk := (fun v m9 hf => ?_))
  obtain ⟨G, rfl, rfl, hR, hfr⟩ := hf
  have k1 := (hfr 1 (by decide)).trans k1
  have k3 := (hfr 3 (by decide)).trans k3
  refine J_goto (tgt := 97) dX4_readOrder_90 (by decide) ?_
  refine J_istore dX4_readOrder_97 rfl rfl ?_
  refine J_iload dX4_readOrder_99 rfl ?_
  refine J_bipush (v := -6) dX4_readOrder_101 (by decide) ?_
  refine J_icmp_eq (tgt := 111) dX4_readOrder_103 (by decide) (fun h103 => ?_) (fun h103 => ?_)
  · refine J_iconst (v := 0) dX4_readOrder_111 (by decide) ?_
    refine r_bool dX4_readOrder_112 (by first | exact Or.inl rfl | exact Or.inr rfl | exact i01 | exact jin01) ?_
    have hk := dg_f h103
    have e := os_i hi hc
    rw [show ((nS P L (dS P L 43 43 (dS P L 48 57 (dS P L 64 64 (dS P L 48 57 (i + 1, true))))))) = (dS P L 48 57 (i + 1, true)) by simp only [dS_bad hk, nS_bad hk]] at e
    exact oc_fail e hk hR k1
  · refine J_iload_n dX4_readOrder_106 rfl rfl ?_
    refine J_iconst (v := 3) dX4_readOrder_107 (by decide) ?_
    refine J_icmp_lt (tgt := 113) dX4_readOrder_108 (by decide) (fun h108 => ?_) (fun h108 => absurd (by decide) h108)
    have hp1 := dg_t h103
    refine J_aload_n dX4_readOrder_113 rfl rfl ?_
    refine gX4_values wf_X4_15 dX4_readOrder_114 ?_
    refine J_iload_n dX4_readOrder_117 rfl rfl ?_
    refine J_iload dX4_readOrder_118 rfl ?_
    refine wP_vals 0 (by decide) (by decide) dX4_readOrder_120 ?_
    refine J_iinc (v := 1) dX4_readOrder_121 rfl (by decide) rfl rfl ?_
    refine J_iinc (v := 1) dX4_readOrder_124 rfl (by decide) rfl rfl ?_
    refine J_goto (tgt := 39) dX4_readOrder_127 (by decide) ?_
    refine J_iload_n dX4_readOrder_39 rfl rfl ?_
    refine J_aload_n dX4_readOrder_40 rfl rfl ?_
    refine cStri wv_X4_65 (c_len1 had) dX4_readOrder_41 1 (by decide) (had 11) (kk := ?_)
    refine J_icmp_ge (tgt := 130) dX4_readOrder_44 (by decide) (fun h44 => absurd h44 (by decide)) (fun h44 => ?_)
    refine J_aload_n dX4_readOrder_47 rfl rfl ?_
    refine J_iload_n dX4_readOrder_48 rfl rfl ?_
    refine cStri wv_X4_67 (c_char1_1 had) dX4_readOrder_49 1 (by decide) (had 11) (kk := ?_)
    refine J_istore dX4_readOrder_52 rfl rfl ?_
    refine J_iload dX4_readOrder_54 rfl ?_
    refine J_bipush (v := 35) dX4_readOrder_56 (by decide) ?_
    refine J_icmp_eq (tgt := 79) dX4_readOrder_58 (by decide) (fun h58 => absurd h58 (by decide)) (fun h58 => ?_)
    refine J_iload dX4_readOrder_61 rfl ?_
    refine J_bipush (v := 100) dX4_readOrder_63 (by decide) ?_
    refine J_icmp_eq (tgt := 79) dX4_readOrder_65 (by decide) (fun h65 => absurd h65 (by decide)) (fun h65 => ?_)
    refine J_aload_n dX4_readOrder_68 rfl rfl ?_
    refine J_iload dX4_readOrder_69 rfl ?_
    refine cVg wv_X4_45 (c_X4_readSign (p := (dS P L 48 57 (i + 1, true))) (c := 64) hR hP hp1 (by decide)) dX4_readOrder_71 ob4 rfl rfl (kk := (fun v m9 hf => ?_))
    obtain ⟨G, rfl, rfl, hR, hfr⟩ := hf
    have k1 := (hfr 1 (by decide)).trans k1
    have k3 := (hfr 3 (by decide)).trans k3
    refine J_if_ne (tgt := 124) dX4_readOrder_74 (by decide) (fun h74 => ?_) (fun h74 => ?_)
    · have hp2 := b1t h74
      refine J_iinc (v := 2) dX4_readOrder_124 rfl (by decide) rfl rfl ?_
      refine J_goto (tgt := 39) dX4_readOrder_127 (by decide) ?_
      refine J_iload_n dX4_readOrder_39 rfl rfl ?_
      refine J_aload_n dX4_readOrder_40 rfl rfl ?_
      refine cStri wv_X4_65 (c_len1 had) dX4_readOrder_41 1 (by decide) (had 11) (kk := ?_)
      refine J_icmp_ge (tgt := 130) dX4_readOrder_44 (by decide) (fun h44 => absurd h44 (by decide)) (fun h44 => ?_)
      refine J_aload_n dX4_readOrder_47 rfl rfl ?_
      refine J_iload_n dX4_readOrder_48 rfl rfl ?_
      refine cStri wv_X4_67 (c_char1_2 had) dX4_readOrder_49 1 (by decide) (had 11) (kk := ?_)
      refine J_istore dX4_readOrder_52 rfl rfl ?_
      refine J_iload dX4_readOrder_54 rfl ?_
      refine J_bipush (v := 35) dX4_readOrder_56 (by decide) ?_
      refine J_icmp_eq (tgt := 79) dX4_readOrder_58 (by decide) (fun h58 => absurd h58 (by decide)) (fun h58 => ?_)
      refine J_iload dX4_readOrder_61 rfl ?_
      refine J_bipush (v := 100) dX4_readOrder_63 (by decide) ?_
      refine J_icmp_eq (tgt := 79) dX4_readOrder_65 (by decide) (fun h65 => ?_) (fun h65 => absurd (by decide) h65)
      refine J_iload dX4_readOrder_79 rfl ?_
      refine J_bipush (v := 100) dX4_readOrder_81 (by decide) ?_
      refine J_icmp_ne (tgt := 93) dX4_readOrder_83 (by decide) (fun h83 => absurd (by decide) h83) (fun h83 => ?_)
      refine J_aload_n dX4_readOrder_86 rfl rfl ?_
      refine cVg wv_X4_71 (c_X4_readDigit (p := (dS P L 64 64 (dS P L 48 57 (i + 1, true)))) hR hP hp2) dX4_readOrder_87 ob4 rfl rfl (kk := (fun v m9 hf => ?_))
      obtain ⟨G, rfl, rfl, hR, hfr⟩ := hf
      have k1 := (hfr 1 (by decide)).trans k1
      have k3 := (hfr 3 (by decide)).trans k3
      refine J_goto (tgt := 97) dX4_readOrder_90 (by decide) ?_
      refine J_istore dX4_readOrder_97 rfl rfl ?_
      refine J_iload dX4_readOrder_99 rfl ?_
      refine J_bipush (v := -6) dX4_readOrder_101 (by decide) ?_
      refine J_icmp_eq (tgt := 111) dX4_readOrder_103 (by decide) (fun h103 => ?_) (fun h103 => ?_)
      · refine J_iconst (v := 0) dX4_readOrder_111 (by decide) ?_
        refine r_bool dX4_readOrder_112 (by first | exact Or.inl rfl | exact Or.inr rfl | exact i01 | exact jin01) ?_
        have hk := dg_f h103
        have e := os_i hi hc
        rw [show ((nS P L (dS P L 43 43 (dS P L 48 57 (dS P L 64 64 (dS P L 48 57 (i + 1, true))))))) = (dS P L 48 57 (dS P L 64 64 (dS P L 48 57 (i + 1, true)))) by simp only [dS_bad hk, nS_bad hk]] at e
        exact oc_fail e hk hR k1
      · refine J_iload_n dX4_readOrder_106 rfl rfl ?_
        refine J_iconst (v := 3) dX4_readOrder_107 (by decide) ?_
        refine J_icmp_lt (tgt := 113) dX4_readOrder_108 (by decide) (fun h108 => ?_) (fun h108 => absurd (by decide) h108)
        have hp3 := dg_t h103
        refine J_aload_n dX4_readOrder_113 rfl rfl ?_
        refine gX4_values wf_X4_15 dX4_readOrder_114 ?_
        refine J_iload_n dX4_readOrder_117 rfl rfl ?_
        refine J_iload dX4_readOrder_118 rfl ?_
        refine wP_vals 1 (by decide) (by decide) dX4_readOrder_120 ?_
        refine J_iinc (v := 2) dX4_readOrder_121 rfl (by decide) rfl rfl ?_
        refine J_iinc (v := 3) dX4_readOrder_124 rfl (by decide) rfl rfl ?_
        refine J_goto (tgt := 39) dX4_readOrder_127 (by decide) ?_
        refine J_iload_n dX4_readOrder_39 rfl rfl ?_
        refine J_aload_n dX4_readOrder_40 rfl rfl ?_
        refine cStri wv_X4_65 (c_len1 had) dX4_readOrder_41 1 (by decide) (had 11) (kk := ?_)
        refine J_icmp_ge (tgt := 130) dX4_readOrder_44 (by decide) (fun h44 => absurd h44 (by decide)) (fun h44 => ?_)
        refine J_aload_n dX4_readOrder_47 rfl rfl ?_
        refine J_iload_n dX4_readOrder_48 rfl rfl ?_
        refine cStri wv_X4_67 (c_char1_3 had) dX4_readOrder_49 1 (by decide) (had 11) (kk := ?_)
        refine J_istore dX4_readOrder_52 rfl rfl ?_
        refine J_iload dX4_readOrder_54 rfl ?_
        refine J_bipush (v := 35) dX4_readOrder_56 (by decide) ?_
        refine J_icmp_eq (tgt := 79) dX4_readOrder_58 (by decide) (fun h58 => absurd h58 (by decide)) (fun h58 => ?_)
        refine J_iload dX4_readOrder_61 rfl ?_
        refine J_bipush (v := 100) dX4_readOrder_63 (by decide) ?_
        refine J_icmp_eq (tgt := 79) dX4_readOrder_65 (by decide) (fun h65 => absurd h65 (by decide)) (fun h65 => ?_)
        refine J_aload_n dX4_readOrder_68 rfl rfl ?_
        refine J_iload dX4_readOrder_69 rfl ?_
        refine cVg wv_X4_45 (c_X4_readSign (p := (dS P L 48 57 (dS P L 64 64 (dS P L 48 57 (i + 1, true))))) (c := 43) hR hP hp3 (by decide)) dX4_readOrder_71 ob4 rfl rfl (kk := (fun v m9 hf => ?_))
        obtain ⟨G, rfl, rfl, hR, hfr⟩ := hf
        have k1 := (hfr 1 (by decide)).trans k1
        have k3 := (hfr 3 (by decide)).trans k3
        refine J_if_ne (tgt := 124) dX4_readOrder_74 (by decide) (fun h74 => ?_) (fun h74 => ?_)
        · have hp4 := b1t h74
          refine J_iinc (v := 4) dX4_readOrder_124 rfl (by decide) rfl rfl ?_
          refine J_goto (tgt := 39) dX4_readOrder_127 (by decide) ?_
          refine J_iload_n dX4_readOrder_39 rfl rfl ?_
          refine J_aload_n dX4_readOrder_40 rfl rfl ?_
          refine cStri wv_X4_65 (c_len1 had) dX4_readOrder_41 1 (by decide) (had 11) (kk := ?_)
          refine J_icmp_ge (tgt := 130) dX4_readOrder_44 (by decide) (fun h44 => absurd h44 (by decide)) (fun h44 => ?_)
          refine J_aload_n dX4_readOrder_47 rfl rfl ?_
          refine J_iload_n dX4_readOrder_48 rfl rfl ?_
          refine cStri wv_X4_67 (c_char1_4 had) dX4_readOrder_49 1 (by decide) (had 11) (kk := ?_)
          refine J_istore dX4_readOrder_52 rfl rfl ?_
          refine J_iload dX4_readOrder_54 rfl ?_
          refine J_bipush (v := 35) dX4_readOrder_56 (by decide) ?_
          refine J_icmp_eq (tgt := 79) dX4_readOrder_58 (by decide) (fun h58 => ?_) (fun h58 => absurd (by decide) h58)
          refine J_iload dX4_readOrder_79 rfl ?_
          refine J_bipush (v := 100) dX4_readOrder_81 (by decide) ?_
          refine J_icmp_ne (tgt := 93) dX4_readOrder_83 (by decide) (fun h83 => ?_) (fun h83 => absurd h83 (by decide))
          refine J_aload_n dX4_readOrder_93 rfl rfl ?_
          refine cVg wv_X4_74 (c_X4_readNumber (p := (dS P L 43 43 (dS P L 48 57 (dS P L 64 64 (dS P L 48 57 (i + 1, true)))))) hR hP hp4) dX4_readOrder_94 ob4 rfl rfl (kk := (fun v m9 hf => ?_))
          obtain ⟨G, rfl, rfl, hR, hfr⟩ := hf
          have k1 := (hfr 1 (by decide)).trans k1
          have k3 := (hfr 3 (by decide)).trans k3
          refine J_istore dX4_readOrder_97 rfl rfl ?_
          refine J_iload dX4_readOrder_99 rfl ?_
          refine J_bipush (v := -6) dX4_readOrder_101 (by decide) ?_
          refine J_icmp_eq (tgt := 111) dX4_readOrder_103 (by decide) (fun h103 => ?_) (fun h103 => ?_)
          · refine J_iconst (v := 0) dX4_readOrder_111 (by decide) ?_
            refine r_bool dX4_readOrder_112 (by first | exact Or.inl rfl | exact Or.inr rfl | exact i01 | exact jin01) ?_
            have hk := nm_f h103
            have e := os_i hi hc
            exact oc_fail e hk hR k1
          · refine J_iload_n dX4_readOrder_106 rfl rfl ?_
            refine J_iconst (v := 3) dX4_readOrder_107 (by decide) ?_
            refine J_icmp_lt (tgt := 113) dX4_readOrder_108 (by decide) (fun h108 => ?_) (fun h108 => absurd (by decide) h108)
            have hp5 := nm_t h103
            refine J_aload_n dX4_readOrder_113 rfl rfl ?_
            refine gX4_values wf_X4_15 dX4_readOrder_114 ?_
            refine J_iload_n dX4_readOrder_117 rfl rfl ?_
            refine J_iload dX4_readOrder_118 rfl ?_
            refine wP_vals 2 (by decide) (by decide) dX4_readOrder_120 ?_
            refine J_iinc (v := 3) dX4_readOrder_121 rfl (by decide) rfl rfl ?_
            refine J_iinc (v := 5) dX4_readOrder_124 rfl (by decide) rfl rfl ?_
            refine J_goto (tgt := 39) dX4_readOrder_127 (by decide) ?_
            refine J_iload_n dX4_readOrder_39 rfl rfl ?_
            refine J_aload_n dX4_readOrder_40 rfl rfl ?_
            refine cStri wv_X4_65 (c_len1 had) dX4_readOrder_41 1 (by decide) (had 11) (kk := ?_)
            refine J_icmp_ge (tgt := 130) dX4_readOrder_44 (by decide) (fun h44 => ?_) (fun h44 => absurd (by decide) h44)
            refine J_iconst (v := 1) dX4_readOrder_130 (by decide) ?_
            refine r_bool dX4_readOrder_131 (by first | exact Or.inl rfl | exact Or.inr rfl | exact i01 | exact jin01) ?_
            refine oc_ok (os_i hi hc) hp5 hR k1 (k3.trans hc.symm) ?_
            have z1 := (dS_ok hp1).2.2.2
            have z2 := (dS_ok hp2).2.2.2
            have z3 := (dS_ok hp3).2.2.2
            have z4 := (dS_ok hp4).2.2.2
            exact ov_i hc (if_pos hp1) ((if_pos hp3).trans (by rw [z2, z1])) ((if_pos hp5).trans (by rw [z4, z3, z2, z1]))
        · refine J_iconst (v := 0) dX4_readOrder_77 (by decide) ?_
          refine r_bool dX4_readOrder_78 (by first | exact Or.inl rfl | exact Or.inr rfl | exact i01 | exact jin01) ?_
          have hk := b1f h74
          have e := os_i hi hc
          rw [show ((nS P L (dS P L 43 43 (dS P L 48 57 (dS P L 64 64 (dS P L 48 57 (i + 1, true))))))) = (dS P L 43 43 (dS P L 48 57 (dS P L 64 64 (dS P L 48 57 (i + 1, true))))) by simp only [dS_bad hk, nS_bad hk]] at e
          exact oc_fail e hk hR k1
    · refine J_iconst (v := 0) dX4_readOrder_77 (by decide) ?_
      refine r_bool dX4_readOrder_78 (by first | exact Or.inl rfl | exact Or.inr rfl | exact i01 | exact jin01) ?_
      have hk := b1f h74
      have e := os_i hi hc
      rw [show ((nS P L (dS P L 43 43 (dS P L 48 57 (dS P L 64 64 (dS P L 48 57 (i + 1, true))))))) = (dS P L 64 64 (dS P L 48 57 (i + 1, true))) by simp only [dS_bad hk, nS_bad hk]] at e
      exact oc_fail e hk hR k1

set_option maxRecDepth 100000 in
set_option maxHeartbeats 4000000 in
theorem oc_o {X : jX} {ad : Nat → Nat} {m : Mem} {F W : Nat → Int32} {P : Nat → Int32} {L : Nat} {i : Nat} (hR : RC F L i) (hP : SgP m P L) (hi : i < L) (hc : P i = 111) (had : ∀ k, ad (1000 + k) = jx X k) : Cm X yX4_readOrder cX4_readOrder 6 (some .boolean) 5 ad [.ref 190] (PM m F W) (OcFin m F P L i) := by
  refine Cm.of (own := RX4) (nm := "readOrder") (by decide +kernel) rfl rfl rfl rfl ?_
  refine J_aload_n dX4_readOrder_0 rfl rfl ?_
  refine J_aload_n dX4_readOrder_1 rfl rfl ?_
  refine cVi wv_X4_49 (c_X4_signHere hR hP) dX4_readOrder_2 ob4 rfl rfl (kk := ?_)
  refine J_topi (fun z9 hz9 => ?_)
  obtain rfl : z9 = 111 := hz9.trans (by rw [sgn, if_pos hi]; exact hc)
  clear hz9
  refine pP_kind wf_X4_53 dX4_readOrder_5 ?_
  refine J_aload_n dX4_readOrder_8 rfl rfl ?_
  refine gP_kind wf_X4_53 dX4_readOrder_9 ?_
  refine J_topi (fun z9 hz9 => ?_)
  obtain rfl : z9 = 111 := hz9.trans (by rfl)
  clear hz9
  refine cSr ws_X4_56 (c_form2 had) dX4_readOrder_12 (kk := ?_)
  refine J_astore_n dX4_readOrder_15 rfl rfl rfl ?_
  refine J_aload_n dX4_readOrder_16 rfl rfl ?_
  refine cStri wv_X4_60 (c_empty2 had) dX4_readOrder_17 2 (by decide) (had 12) (kk := ?_)
  refine J_if_eq (tgt := 25) dX4_readOrder_20 (by decide) (fun h20 => ?_) (fun h20 => absurd (by decide) h20)
  refine J_aload_n dX4_readOrder_25 rfl rfl ?_
  refine J_dup dX4_readOrder_26 rfl ?_
  refine gP_place wf_X4_39 dX4_readOrder_27 ?_
  refine J_topi (fun z9 hz9 => ?_)
  obtain rfl : z9 = (nI i) := hz9.trans (by exact hR.2.1)
  clear hz9
  refine J_iconst (v := 1) dX4_readOrder_30 (by decide) ?_
  refine J_iadd dX4_readOrder_31 ?_
  refine pP_place wf_X4_39 dX4_readOrder_32 ?_
  replace hR : RC (upd (upd F 3 111) 2 (nI i + 1)) L (i + 1) := RC_next (F := upd F 3 111) (RC_upd hR (by decide)) hi
  have hp0 : (i + 1, true).2 = true := rfl
  have k1 : upd (upd F 3 111) 2 (nI i + 1) 1 = F 1 := rfl
  have k3 : upd (upd F 3 111) 2 (nI i + 1) 3 = 111 := rfl
  refine J_iconst (v := 0) dX4_readOrder_35 (by decide) ?_
  refine J_istore_n dX4_readOrder_36 rfl rfl rfl ?_
  refine J_iconst (v := 0) dX4_readOrder_37 (by decide) ?_
  refine J_istore_n dX4_readOrder_38 rfl rfl rfl ?_
  refine J_iload_n dX4_readOrder_39 rfl rfl ?_
  refine J_aload_n dX4_readOrder_40 rfl rfl ?_
  refine cStri wv_X4_65 (c_len2 had) dX4_readOrder_41 2 (by decide) (had 12) (kk := ?_)
  refine J_icmp_ge (tgt := 130) dX4_readOrder_44 (by decide) (fun h44 => absurd h44 (by decide)) (fun h44 => ?_)
  refine J_aload_n dX4_readOrder_47 rfl rfl ?_
  refine J_iload_n dX4_readOrder_48 rfl rfl ?_
  refine cStri wv_X4_67 (c_char2_0 had) dX4_readOrder_49 2 (by decide) (had 12) (kk := ?_)
  refine J_istore dX4_readOrder_52 rfl rfl ?_
  refine J_iload dX4_readOrder_54 rfl ?_
  refine J_bipush (v := 35) dX4_readOrder_56 (by decide) ?_
  refine J_icmp_eq (tgt := 79) dX4_readOrder_58 (by decide) (fun h58 => absurd h58 (by decide)) (fun h58 => ?_)
  refine J_iload dX4_readOrder_61 rfl ?_
  refine J_bipush (v := 100) dX4_readOrder_63 (by decide) ?_
  refine J_icmp_eq (tgt := 79) dX4_readOrder_65 (by decide) (fun h65 => ?_) (fun h65 => absurd (by decide) h65)
  refine J_iload dX4_readOrder_79 rfl ?_
  refine J_bipush (v := 100) dX4_readOrder_81 (by decide) ?_
  refine J_icmp_ne (tgt := 93) dX4_readOrder_83 (by decide) (fun h83 => absurd (by decide) h83) (fun h83 => ?_)
  refine J_aload_n dX4_readOrder_86 rfl rfl ?_
  refine cVg wv_X4_71 (c_X4_readDigit (p := (i + 1, true)) hR hP hp0) dX4_readOrder_87 ob4 rfl rfl (kk := (fun v m9 hf => ?_))
  obtain ⟨G, rfl, rfl, hR, hfr⟩ := hf
  have k1 := (hfr 1 (by decide)).trans k1
  have k3 := (hfr 3 (by decide)).trans k3
  refine J_goto (tgt := 97) dX4_readOrder_90 (by decide) ?_
  refine J_istore dX4_readOrder_97 rfl rfl ?_
  refine J_iload dX4_readOrder_99 rfl ?_
  refine J_bipush (v := -6) dX4_readOrder_101 (by decide) ?_
  refine J_icmp_eq (tgt := 111) dX4_readOrder_103 (by decide) (fun h103 => ?_) (fun h103 => ?_)
  · refine J_iconst (v := 0) dX4_readOrder_111 (by decide) ?_
    refine r_bool dX4_readOrder_112 (by first | exact Or.inl rfl | exact Or.inr rfl | exact i01 | exact jin01) ?_
    have hk := dg_f h103
    have e := os_o hi hc
    rw [show ((nS P L (dS P L 45 45 (dS P L 48 57 (i + 1, true))))) = (dS P L 48 57 (i + 1, true)) by simp only [dS_bad hk, nS_bad hk]] at e
    exact oc_fail e hk hR k1
  · refine J_iload_n dX4_readOrder_106 rfl rfl ?_
    refine J_iconst (v := 3) dX4_readOrder_107 (by decide) ?_
    refine J_icmp_lt (tgt := 113) dX4_readOrder_108 (by decide) (fun h108 => ?_) (fun h108 => absurd (by decide) h108)
    have hp1 := dg_t h103
    refine J_aload_n dX4_readOrder_113 rfl rfl ?_
    refine gX4_values wf_X4_15 dX4_readOrder_114 ?_
    refine J_iload_n dX4_readOrder_117 rfl rfl ?_
    refine J_iload dX4_readOrder_118 rfl ?_
    refine wP_vals 0 (by decide) (by decide) dX4_readOrder_120 ?_
    refine J_iinc (v := 1) dX4_readOrder_121 rfl (by decide) rfl rfl ?_
    refine J_iinc (v := 1) dX4_readOrder_124 rfl (by decide) rfl rfl ?_
    refine J_goto (tgt := 39) dX4_readOrder_127 (by decide) ?_
    refine J_iload_n dX4_readOrder_39 rfl rfl ?_
    refine J_aload_n dX4_readOrder_40 rfl rfl ?_
    refine cStri wv_X4_65 (c_len2 had) dX4_readOrder_41 2 (by decide) (had 12) (kk := ?_)
    refine J_icmp_ge (tgt := 130) dX4_readOrder_44 (by decide) (fun h44 => absurd h44 (by decide)) (fun h44 => ?_)
    refine J_aload_n dX4_readOrder_47 rfl rfl ?_
    refine J_iload_n dX4_readOrder_48 rfl rfl ?_
    refine cStri wv_X4_67 (c_char2_1 had) dX4_readOrder_49 2 (by decide) (had 12) (kk := ?_)
    refine J_istore dX4_readOrder_52 rfl rfl ?_
    refine J_iload dX4_readOrder_54 rfl ?_
    refine J_bipush (v := 35) dX4_readOrder_56 (by decide) ?_
    refine J_icmp_eq (tgt := 79) dX4_readOrder_58 (by decide) (fun h58 => absurd h58 (by decide)) (fun h58 => ?_)
    refine J_iload dX4_readOrder_61 rfl ?_
    refine J_bipush (v := 100) dX4_readOrder_63 (by decide) ?_
    refine J_icmp_eq (tgt := 79) dX4_readOrder_65 (by decide) (fun h65 => absurd h65 (by decide)) (fun h65 => ?_)
    refine J_aload_n dX4_readOrder_68 rfl rfl ?_
    refine J_iload dX4_readOrder_69 rfl ?_
    refine cVg wv_X4_45 (c_X4_readSign (p := (dS P L 48 57 (i + 1, true))) (c := 45) hR hP hp1 (by decide)) dX4_readOrder_71 ob4 rfl rfl (kk := (fun v m9 hf => ?_))
    obtain ⟨G, rfl, rfl, hR, hfr⟩ := hf
    have k1 := (hfr 1 (by decide)).trans k1
    have k3 := (hfr 3 (by decide)).trans k3
    refine J_if_ne (tgt := 124) dX4_readOrder_74 (by decide) (fun h74 => ?_) (fun h74 => ?_)
    · have hp2 := b1t h74
      refine J_iinc (v := 2) dX4_readOrder_124 rfl (by decide) rfl rfl ?_
      refine J_goto (tgt := 39) dX4_readOrder_127 (by decide) ?_
      refine J_iload_n dX4_readOrder_39 rfl rfl ?_
      refine J_aload_n dX4_readOrder_40 rfl rfl ?_
      refine cStri wv_X4_65 (c_len2 had) dX4_readOrder_41 2 (by decide) (had 12) (kk := ?_)
      refine J_icmp_ge (tgt := 130) dX4_readOrder_44 (by decide) (fun h44 => absurd h44 (by decide)) (fun h44 => ?_)
      refine J_aload_n dX4_readOrder_47 rfl rfl ?_
      refine J_iload_n dX4_readOrder_48 rfl rfl ?_
      refine cStri wv_X4_67 (c_char2_2 had) dX4_readOrder_49 2 (by decide) (had 12) (kk := ?_)
      refine J_istore dX4_readOrder_52 rfl rfl ?_
      refine J_iload dX4_readOrder_54 rfl ?_
      refine J_bipush (v := 35) dX4_readOrder_56 (by decide) ?_
      refine J_icmp_eq (tgt := 79) dX4_readOrder_58 (by decide) (fun h58 => ?_) (fun h58 => absurd (by decide) h58)
      refine J_iload dX4_readOrder_79 rfl ?_
      refine J_bipush (v := 100) dX4_readOrder_81 (by decide) ?_
      refine J_icmp_ne (tgt := 93) dX4_readOrder_83 (by decide) (fun h83 => ?_) (fun h83 => absurd h83 (by decide))
      refine J_aload_n dX4_readOrder_93 rfl rfl ?_
      refine cVg wv_X4_74 (c_X4_readNumber (p := (dS P L 45 45 (dS P L 48 57 (i + 1, true)))) hR hP hp2) dX4_readOrder_94 ob4 rfl rfl (kk := (fun v m9 hf => ?_))
      obtain ⟨G, rfl, rfl, hR, hfr⟩ := hf
      have k1 := (hfr 1 (by decide)).trans k1
      have k3 := (hfr 3 (by decide)).trans k3
      refine J_istore dX4_readOrder_97 rfl rfl ?_
      refine J_iload dX4_readOrder_99 rfl ?_
      refine J_bipush (v := -6) dX4_readOrder_101 (by decide) ?_
      refine J_icmp_eq (tgt := 111) dX4_readOrder_103 (by decide) (fun h103 => ?_) (fun h103 => ?_)
      · refine J_iconst (v := 0) dX4_readOrder_111 (by decide) ?_
        refine r_bool dX4_readOrder_112 (by first | exact Or.inl rfl | exact Or.inr rfl | exact i01 | exact jin01) ?_
        have hk := nm_f h103
        have e := os_o hi hc
        exact oc_fail e hk hR k1
      · refine J_iload_n dX4_readOrder_106 rfl rfl ?_
        refine J_iconst (v := 3) dX4_readOrder_107 (by decide) ?_
        refine J_icmp_lt (tgt := 113) dX4_readOrder_108 (by decide) (fun h108 => ?_) (fun h108 => absurd (by decide) h108)
        have hp3 := nm_t h103
        refine J_aload_n dX4_readOrder_113 rfl rfl ?_
        refine gX4_values wf_X4_15 dX4_readOrder_114 ?_
        refine J_iload_n dX4_readOrder_117 rfl rfl ?_
        refine J_iload dX4_readOrder_118 rfl ?_
        refine wP_vals 1 (by decide) (by decide) dX4_readOrder_120 ?_
        refine J_iinc (v := 2) dX4_readOrder_121 rfl (by decide) rfl rfl ?_
        refine J_iinc (v := 3) dX4_readOrder_124 rfl (by decide) rfl rfl ?_
        refine J_goto (tgt := 39) dX4_readOrder_127 (by decide) ?_
        refine J_iload_n dX4_readOrder_39 rfl rfl ?_
        refine J_aload_n dX4_readOrder_40 rfl rfl ?_
        refine cStri wv_X4_65 (c_len2 had) dX4_readOrder_41 2 (by decide) (had 12) (kk := ?_)
        refine J_icmp_ge (tgt := 130) dX4_readOrder_44 (by decide) (fun h44 => ?_) (fun h44 => absurd (by decide) h44)
        refine J_iconst (v := 1) dX4_readOrder_130 (by decide) ?_
        refine r_bool dX4_readOrder_131 (by first | exact Or.inl rfl | exact Or.inr rfl | exact i01 | exact jin01) ?_
        refine oc_ok (os_o hi hc) hp3 hR k1 (k3.trans hc.symm) ?_
        have z1 := (dS_ok hp1).2.2.2
        have z2 := (dS_ok hp2).2.2.2
        exact ov_o hc (if_pos hp1) ((if_pos hp3).trans (by rw [z2, z1]))
    · refine J_iconst (v := 0) dX4_readOrder_77 (by decide) ?_
      refine r_bool dX4_readOrder_78 (by first | exact Or.inl rfl | exact Or.inr rfl | exact i01 | exact jin01) ?_
      have hk := b1f h74
      have e := os_o hi hc
      rw [show ((nS P L (dS P L 45 45 (dS P L 48 57 (i + 1, true))))) = (dS P L 45 45 (dS P L 48 57 (i + 1, true))) by simp only [dS_bad hk, nS_bad hk]] at e
      exact oc_fail e hk hR k1

set_option maxRecDepth 100000 in
set_option maxHeartbeats 4000000 in
theorem oc_a {X : jX} {ad : Nat → Nat} {m : Mem} {F W : Nat → Int32} {P : Nat → Int32} {L : Nat} {i : Nat} (hR : RC F L i) (hP : SgP m P L) (hi : i < L) (hc : P i = 97) (had : ∀ k, ad (1000 + k) = jx X k) : Cm X yX4_readOrder cX4_readOrder 6 (some .boolean) 5 ad [.ref 190] (PM m F W) (OcFin m F P L i) := by
  refine Cm.of (own := RX4) (nm := "readOrder") (by decide +kernel) rfl rfl rfl rfl ?_
  refine J_aload_n dX4_readOrder_0 rfl rfl ?_
  refine J_aload_n dX4_readOrder_1 rfl rfl ?_
  refine cVi wv_X4_49 (c_X4_signHere hR hP) dX4_readOrder_2 ob4 rfl rfl (kk := ?_)
  refine J_topi (fun z9 hz9 => ?_)
  obtain rfl : z9 = 97 := hz9.trans (by rw [sgn, if_pos hi]; exact hc)
  clear hz9
  refine pP_kind wf_X4_53 dX4_readOrder_5 ?_
  refine J_aload_n dX4_readOrder_8 rfl rfl ?_
  refine gP_kind wf_X4_53 dX4_readOrder_9 ?_
  refine J_topi (fun z9 hz9 => ?_)
  obtain rfl : z9 = 97 := hz9.trans (by rfl)
  clear hz9
  refine cSr ws_X4_56 (c_form3 had) dX4_readOrder_12 (kk := ?_)
  refine J_astore_n dX4_readOrder_15 rfl rfl rfl ?_
  refine J_aload_n dX4_readOrder_16 rfl rfl ?_
  refine cStri wv_X4_60 (c_empty3 had) dX4_readOrder_17 3 (by decide) (had 13) (kk := ?_)
  refine J_if_eq (tgt := 25) dX4_readOrder_20 (by decide) (fun h20 => ?_) (fun h20 => absurd (by decide) h20)
  refine J_aload_n dX4_readOrder_25 rfl rfl ?_
  refine J_dup dX4_readOrder_26 rfl ?_
  refine gP_place wf_X4_39 dX4_readOrder_27 ?_
  refine J_topi (fun z9 hz9 => ?_)
  obtain rfl : z9 = (nI i) := hz9.trans (by exact hR.2.1)
  clear hz9
  refine J_iconst (v := 1) dX4_readOrder_30 (by decide) ?_
  refine J_iadd dX4_readOrder_31 ?_
  refine pP_place wf_X4_39 dX4_readOrder_32 ?_
  replace hR : RC (upd (upd F 3 97) 2 (nI i + 1)) L (i + 1) := RC_next (F := upd F 3 97) (RC_upd hR (by decide)) hi
  have hp0 : (i + 1, true).2 = true := rfl
  have k1 : upd (upd F 3 97) 2 (nI i + 1) 1 = F 1 := rfl
  have k3 : upd (upd F 3 97) 2 (nI i + 1) 3 = 97 := rfl
  refine J_iconst (v := 0) dX4_readOrder_35 (by decide) ?_
  refine J_istore_n dX4_readOrder_36 rfl rfl rfl ?_
  refine J_iconst (v := 0) dX4_readOrder_37 (by decide) ?_
  refine J_istore_n dX4_readOrder_38 rfl rfl rfl ?_
  refine J_iload_n dX4_readOrder_39 rfl rfl ?_
  refine J_aload_n dX4_readOrder_40 rfl rfl ?_
  refine cStri wv_X4_65 (c_len3 had) dX4_readOrder_41 3 (by decide) (had 13) (kk := ?_)
  refine J_icmp_ge (tgt := 130) dX4_readOrder_44 (by decide) (fun h44 => absurd h44 (by decide)) (fun h44 => ?_)
  refine J_aload_n dX4_readOrder_47 rfl rfl ?_
  refine J_iload_n dX4_readOrder_48 rfl rfl ?_
  refine cStri wv_X4_67 (c_char3_0 had) dX4_readOrder_49 3 (by decide) (had 13) (kk := ?_)
  refine J_istore dX4_readOrder_52 rfl rfl ?_
  refine J_iload dX4_readOrder_54 rfl ?_
  refine J_bipush (v := 35) dX4_readOrder_56 (by decide) ?_
  refine J_icmp_eq (tgt := 79) dX4_readOrder_58 (by decide) (fun h58 => absurd h58 (by decide)) (fun h58 => ?_)
  refine J_iload dX4_readOrder_61 rfl ?_
  refine J_bipush (v := 100) dX4_readOrder_63 (by decide) ?_
  refine J_icmp_eq (tgt := 79) dX4_readOrder_65 (by decide) (fun h65 => ?_) (fun h65 => absurd (by decide) h65)
  refine J_iload dX4_readOrder_79 rfl ?_
  refine J_bipush (v := 100) dX4_readOrder_81 (by decide) ?_
  refine J_icmp_ne (tgt := 93) dX4_readOrder_83 (by decide) (fun h83 => absurd (by decide) h83) (fun h83 => ?_)
  refine J_aload_n dX4_readOrder_86 rfl rfl ?_
  refine cVg wv_X4_71 (c_X4_readDigit (p := (i + 1, true)) hR hP hp0) dX4_readOrder_87 ob4 rfl rfl (kk := (fun v m9 hf => ?_))
  obtain ⟨G, rfl, rfl, hR, hfr⟩ := hf
  have k1 := (hfr 1 (by decide)).trans k1
  have k3 := (hfr 3 (by decide)).trans k3
  refine J_goto (tgt := 97) dX4_readOrder_90 (by decide) ?_
  refine J_istore dX4_readOrder_97 rfl rfl ?_
  refine J_iload dX4_readOrder_99 rfl ?_
  refine J_bipush (v := -6) dX4_readOrder_101 (by decide) ?_
  refine J_icmp_eq (tgt := 111) dX4_readOrder_103 (by decide) (fun h103 => ?_) (fun h103 => ?_)
  · refine J_iconst (v := 0) dX4_readOrder_111 (by decide) ?_
    refine r_bool dX4_readOrder_112 (by first | exact Or.inl rfl | exact Or.inr rfl | exact i01 | exact jin01) ?_
    have hk := dg_f h103
    have e := os_a hi hc
    exact oc_fail e hk hR k1
  · refine J_iload_n dX4_readOrder_106 rfl rfl ?_
    refine J_iconst (v := 3) dX4_readOrder_107 (by decide) ?_
    refine J_icmp_lt (tgt := 113) dX4_readOrder_108 (by decide) (fun h108 => ?_) (fun h108 => absurd (by decide) h108)
    have hp1 := dg_t h103
    refine J_aload_n dX4_readOrder_113 rfl rfl ?_
    refine gX4_values wf_X4_15 dX4_readOrder_114 ?_
    refine J_iload_n dX4_readOrder_117 rfl rfl ?_
    refine J_iload dX4_readOrder_118 rfl ?_
    refine wP_vals 0 (by decide) (by decide) dX4_readOrder_120 ?_
    refine J_iinc (v := 1) dX4_readOrder_121 rfl (by decide) rfl rfl ?_
    refine J_iinc (v := 1) dX4_readOrder_124 rfl (by decide) rfl rfl ?_
    refine J_goto (tgt := 39) dX4_readOrder_127 (by decide) ?_
    refine J_iload_n dX4_readOrder_39 rfl rfl ?_
    refine J_aload_n dX4_readOrder_40 rfl rfl ?_
    refine cStri wv_X4_65 (c_len3 had) dX4_readOrder_41 3 (by decide) (had 13) (kk := ?_)
    refine J_icmp_ge (tgt := 130) dX4_readOrder_44 (by decide) (fun h44 => ?_) (fun h44 => absurd (by decide) h44)
    refine J_iconst (v := 1) dX4_readOrder_130 (by decide) ?_
    refine r_bool dX4_readOrder_131 (by first | exact Or.inl rfl | exact Or.inr rfl | exact i01 | exact jin01) ?_
    refine oc_ok (os_a hi hc) hp1 hR k1 (k3.trans hc.symm) ?_
    have z1 := (dS_ok hp1).2.2.2
    exact ov_a hc (if_pos hp1)

set_option maxRecDepth 100000 in
set_option maxHeartbeats 4000000 in
theorem oc_w {X : jX} {ad : Nat → Nat} {m : Mem} {F W : Nat → Int32} {P : Nat → Int32} {L : Nat} {i : Nat} (hR : RC F L i) (hP : SgP m P L) (hi : i < L) (hc : P i = 119) (had : ∀ k, ad (1000 + k) = jx X k) : Cm X yX4_readOrder cX4_readOrder 6 (some .boolean) 5 ad [.ref 190] (PM m F W) (OcFin m F P L i) := by
  refine Cm.of (own := RX4) (nm := "readOrder") (by decide +kernel) rfl rfl rfl rfl ?_
  refine J_aload_n dX4_readOrder_0 rfl rfl ?_
  refine J_aload_n dX4_readOrder_1 rfl rfl ?_
  refine cVi wv_X4_49 (c_X4_signHere hR hP) dX4_readOrder_2 ob4 rfl rfl (kk := ?_)
  refine J_topi (fun z9 hz9 => ?_)
  obtain rfl : z9 = 119 := hz9.trans (by rw [sgn, if_pos hi]; exact hc)
  clear hz9
  refine pP_kind wf_X4_53 dX4_readOrder_5 ?_
  refine J_aload_n dX4_readOrder_8 rfl rfl ?_
  refine gP_kind wf_X4_53 dX4_readOrder_9 ?_
  refine J_topi (fun z9 hz9 => ?_)
  obtain rfl : z9 = 119 := hz9.trans (by rfl)
  clear hz9
  refine cSr ws_X4_56 (c_form4 had) dX4_readOrder_12 (kk := ?_)
  refine J_astore_n dX4_readOrder_15 rfl rfl rfl ?_
  refine J_aload_n dX4_readOrder_16 rfl rfl ?_
  refine cStri wv_X4_60 (c_empty4 had) dX4_readOrder_17 4 (by decide) (had 14) (kk := ?_)
  refine J_if_eq (tgt := 25) dX4_readOrder_20 (by decide) (fun h20 => ?_) (fun h20 => absurd (by decide) h20)
  refine J_aload_n dX4_readOrder_25 rfl rfl ?_
  refine J_dup dX4_readOrder_26 rfl ?_
  refine gP_place wf_X4_39 dX4_readOrder_27 ?_
  refine J_topi (fun z9 hz9 => ?_)
  obtain rfl : z9 = (nI i) := hz9.trans (by exact hR.2.1)
  clear hz9
  refine J_iconst (v := 1) dX4_readOrder_30 (by decide) ?_
  refine J_iadd dX4_readOrder_31 ?_
  refine pP_place wf_X4_39 dX4_readOrder_32 ?_
  replace hR : RC (upd (upd F 3 119) 2 (nI i + 1)) L (i + 1) := RC_next (F := upd F 3 119) (RC_upd hR (by decide)) hi
  have hp0 : (i + 1, true).2 = true := rfl
  have k1 : upd (upd F 3 119) 2 (nI i + 1) 1 = F 1 := rfl
  have k3 : upd (upd F 3 119) 2 (nI i + 1) 3 = 119 := rfl
  refine J_iconst (v := 0) dX4_readOrder_35 (by decide) ?_
  refine J_istore_n dX4_readOrder_36 rfl rfl rfl ?_
  refine J_iconst (v := 0) dX4_readOrder_37 (by decide) ?_
  refine J_istore_n dX4_readOrder_38 rfl rfl rfl ?_
  refine J_iload_n dX4_readOrder_39 rfl rfl ?_
  refine J_aload_n dX4_readOrder_40 rfl rfl ?_
  refine cStri wv_X4_65 (c_len4 had) dX4_readOrder_41 4 (by decide) (had 14) (kk := ?_)
  refine J_icmp_ge (tgt := 130) dX4_readOrder_44 (by decide) (fun h44 => absurd h44 (by decide)) (fun h44 => ?_)
  refine J_aload_n dX4_readOrder_47 rfl rfl ?_
  refine J_iload_n dX4_readOrder_48 rfl rfl ?_
  refine cStri wv_X4_67 (c_char4_0 had) dX4_readOrder_49 4 (by decide) (had 14) (kk := ?_)
  refine J_istore dX4_readOrder_52 rfl rfl ?_
  refine J_iload dX4_readOrder_54 rfl ?_
  refine J_bipush (v := 35) dX4_readOrder_56 (by decide) ?_
  refine J_icmp_eq (tgt := 79) dX4_readOrder_58 (by decide) (fun h58 => absurd h58 (by decide)) (fun h58 => ?_)
  refine J_iload dX4_readOrder_61 rfl ?_
  refine J_bipush (v := 100) dX4_readOrder_63 (by decide) ?_
  refine J_icmp_eq (tgt := 79) dX4_readOrder_65 (by decide) (fun h65 => ?_) (fun h65 => absurd (by decide) h65)
  refine J_iload dX4_readOrder_79 rfl ?_
  refine J_bipush (v := 100) dX4_readOrder_81 (by decide) ?_
  refine J_icmp_ne (tgt := 93) dX4_readOrder_83 (by decide) (fun h83 => absurd (by decide) h83) (fun h83 => ?_)
  refine J_aload_n dX4_readOrder_86 rfl rfl ?_
  refine cVg wv_X4_71 (c_X4_readDigit (p := (i + 1, true)) hR hP hp0) dX4_readOrder_87 ob4 rfl rfl (kk := (fun v m9 hf => ?_))
  obtain ⟨G, rfl, rfl, hR, hfr⟩ := hf
  have k1 := (hfr 1 (by decide)).trans k1
  have k3 := (hfr 3 (by decide)).trans k3
  refine J_goto (tgt := 97) dX4_readOrder_90 (by decide) ?_
  refine J_istore dX4_readOrder_97 rfl rfl ?_
  refine J_iload dX4_readOrder_99 rfl ?_
  refine J_bipush (v := -6) dX4_readOrder_101 (by decide) ?_
  refine J_icmp_eq (tgt := 111) dX4_readOrder_103 (by decide) (fun h103 => ?_) (fun h103 => ?_)
  · refine J_iconst (v := 0) dX4_readOrder_111 (by decide) ?_
    refine r_bool dX4_readOrder_112 (by first | exact Or.inl rfl | exact Or.inr rfl | exact i01 | exact jin01) ?_
    have hk := dg_f h103
    have e := os_w hi hc
    rw [show ((dS P L 48 57 (dS P L 48 57 (i + 1, true)))) = (dS P L 48 57 (i + 1, true)) by simp only [dS_bad hk, nS_bad hk]] at e
    exact oc_fail e hk hR k1
  · refine J_iload_n dX4_readOrder_106 rfl rfl ?_
    refine J_iconst (v := 3) dX4_readOrder_107 (by decide) ?_
    refine J_icmp_lt (tgt := 113) dX4_readOrder_108 (by decide) (fun h108 => ?_) (fun h108 => absurd (by decide) h108)
    have hp1 := dg_t h103
    refine J_aload_n dX4_readOrder_113 rfl rfl ?_
    refine gX4_values wf_X4_15 dX4_readOrder_114 ?_
    refine J_iload_n dX4_readOrder_117 rfl rfl ?_
    refine J_iload dX4_readOrder_118 rfl ?_
    refine wP_vals 0 (by decide) (by decide) dX4_readOrder_120 ?_
    refine J_iinc (v := 1) dX4_readOrder_121 rfl (by decide) rfl rfl ?_
    refine J_iinc (v := 1) dX4_readOrder_124 rfl (by decide) rfl rfl ?_
    refine J_goto (tgt := 39) dX4_readOrder_127 (by decide) ?_
    refine J_iload_n dX4_readOrder_39 rfl rfl ?_
    refine J_aload_n dX4_readOrder_40 rfl rfl ?_
    refine cStri wv_X4_65 (c_len4 had) dX4_readOrder_41 4 (by decide) (had 14) (kk := ?_)
    refine J_icmp_ge (tgt := 130) dX4_readOrder_44 (by decide) (fun h44 => absurd h44 (by decide)) (fun h44 => ?_)
    refine J_aload_n dX4_readOrder_47 rfl rfl ?_
    refine J_iload_n dX4_readOrder_48 rfl rfl ?_
    refine cStri wv_X4_67 (c_char4_1 had) dX4_readOrder_49 4 (by decide) (had 14) (kk := ?_)
    refine J_istore dX4_readOrder_52 rfl rfl ?_
    refine J_iload dX4_readOrder_54 rfl ?_
    refine J_bipush (v := 35) dX4_readOrder_56 (by decide) ?_
    refine J_icmp_eq (tgt := 79) dX4_readOrder_58 (by decide) (fun h58 => absurd h58 (by decide)) (fun h58 => ?_)
    refine J_iload dX4_readOrder_61 rfl ?_
    refine J_bipush (v := 100) dX4_readOrder_63 (by decide) ?_
    refine J_icmp_eq (tgt := 79) dX4_readOrder_65 (by decide) (fun h65 => ?_) (fun h65 => absurd (by decide) h65)
    refine J_iload dX4_readOrder_79 rfl ?_
    refine J_bipush (v := 100) dX4_readOrder_81 (by decide) ?_
    refine J_icmp_ne (tgt := 93) dX4_readOrder_83 (by decide) (fun h83 => absurd (by decide) h83) (fun h83 => ?_)
    refine J_aload_n dX4_readOrder_86 rfl rfl ?_
    refine cVg wv_X4_71 (c_X4_readDigit (p := (dS P L 48 57 (i + 1, true))) hR hP hp1) dX4_readOrder_87 ob4 rfl rfl (kk := (fun v m9 hf => ?_))
    obtain ⟨G, rfl, rfl, hR, hfr⟩ := hf
    have k1 := (hfr 1 (by decide)).trans k1
    have k3 := (hfr 3 (by decide)).trans k3
    refine J_goto (tgt := 97) dX4_readOrder_90 (by decide) ?_
    refine J_istore dX4_readOrder_97 rfl rfl ?_
    refine J_iload dX4_readOrder_99 rfl ?_
    refine J_bipush (v := -6) dX4_readOrder_101 (by decide) ?_
    refine J_icmp_eq (tgt := 111) dX4_readOrder_103 (by decide) (fun h103 => ?_) (fun h103 => ?_)
    · refine J_iconst (v := 0) dX4_readOrder_111 (by decide) ?_
      refine r_bool dX4_readOrder_112 (by first | exact Or.inl rfl | exact Or.inr rfl | exact i01 | exact jin01) ?_
      have hk := dg_f h103
      have e := os_w hi hc
      exact oc_fail e hk hR k1
    · refine J_iload_n dX4_readOrder_106 rfl rfl ?_
      refine J_iconst (v := 3) dX4_readOrder_107 (by decide) ?_
      refine J_icmp_lt (tgt := 113) dX4_readOrder_108 (by decide) (fun h108 => ?_) (fun h108 => absurd (by decide) h108)
      have hp2 := dg_t h103
      refine J_aload_n dX4_readOrder_113 rfl rfl ?_
      refine gX4_values wf_X4_15 dX4_readOrder_114 ?_
      refine J_iload_n dX4_readOrder_117 rfl rfl ?_
      refine J_iload dX4_readOrder_118 rfl ?_
      refine wP_vals 1 (by decide) (by decide) dX4_readOrder_120 ?_
      refine J_iinc (v := 2) dX4_readOrder_121 rfl (by decide) rfl rfl ?_
      refine J_iinc (v := 2) dX4_readOrder_124 rfl (by decide) rfl rfl ?_
      refine J_goto (tgt := 39) dX4_readOrder_127 (by decide) ?_
      refine J_iload_n dX4_readOrder_39 rfl rfl ?_
      refine J_aload_n dX4_readOrder_40 rfl rfl ?_
      refine cStri wv_X4_65 (c_len4 had) dX4_readOrder_41 4 (by decide) (had 14) (kk := ?_)
      refine J_icmp_ge (tgt := 130) dX4_readOrder_44 (by decide) (fun h44 => ?_) (fun h44 => absurd (by decide) h44)
      refine J_iconst (v := 1) dX4_readOrder_130 (by decide) ?_
      refine r_bool dX4_readOrder_131 (by first | exact Or.inl rfl | exact Or.inr rfl | exact i01 | exact jin01) ?_
      refine oc_ok (os_w hi hc) hp2 hR k1 (k3.trans hc.symm) ?_
      have z1 := (dS_ok hp1).2.2.2
      have z2 := (dS_ok hp2).2.2.2
      exact ov_w hc (if_pos hp1) ((if_pos hp2).trans (by rw [z1]))

set_option maxRecDepth 100000 in
set_option maxHeartbeats 4000000 in
theorem oc_t {X : jX} {ad : Nat → Nat} {m : Mem} {F W : Nat → Int32} {P : Nat → Int32} {L : Nat} {i : Nat} (hR : RC F L i) (hP : SgP m P L) (hi : i < L) (hc : P i = 116) (had : ∀ k, ad (1000 + k) = jx X k) : Cm X yX4_readOrder cX4_readOrder 6 (some .boolean) 5 ad [.ref 190] (PM m F W) (OcFin m F P L i) := by
  refine Cm.of (own := RX4) (nm := "readOrder") (by decide +kernel) rfl rfl rfl rfl ?_
  refine J_aload_n dX4_readOrder_0 rfl rfl ?_
  refine J_aload_n dX4_readOrder_1 rfl rfl ?_
  refine cVi wv_X4_49 (c_X4_signHere hR hP) dX4_readOrder_2 ob4 rfl rfl (kk := ?_)
  refine J_topi (fun z9 hz9 => ?_)
  obtain rfl : z9 = 116 := hz9.trans (by rw [sgn, if_pos hi]; exact hc)
  clear hz9
  refine pP_kind wf_X4_53 dX4_readOrder_5 ?_
  refine J_aload_n dX4_readOrder_8 rfl rfl ?_
  refine gP_kind wf_X4_53 dX4_readOrder_9 ?_
  refine J_topi (fun z9 hz9 => ?_)
  obtain rfl : z9 = 116 := hz9.trans (by rfl)
  clear hz9
  refine cSr ws_X4_56 (c_form5 had) dX4_readOrder_12 (kk := ?_)
  refine J_astore_n dX4_readOrder_15 rfl rfl rfl ?_
  refine J_aload_n dX4_readOrder_16 rfl rfl ?_
  refine cStri wv_X4_60 (c_empty5 had) dX4_readOrder_17 5 (by decide) (had 15) (kk := ?_)
  refine J_if_eq (tgt := 25) dX4_readOrder_20 (by decide) (fun h20 => ?_) (fun h20 => absurd (by decide) h20)
  refine J_aload_n dX4_readOrder_25 rfl rfl ?_
  refine J_dup dX4_readOrder_26 rfl ?_
  refine gP_place wf_X4_39 dX4_readOrder_27 ?_
  refine J_topi (fun z9 hz9 => ?_)
  obtain rfl : z9 = (nI i) := hz9.trans (by exact hR.2.1)
  clear hz9
  refine J_iconst (v := 1) dX4_readOrder_30 (by decide) ?_
  refine J_iadd dX4_readOrder_31 ?_
  refine pP_place wf_X4_39 dX4_readOrder_32 ?_
  replace hR : RC (upd (upd F 3 116) 2 (nI i + 1)) L (i + 1) := RC_next (F := upd F 3 116) (RC_upd hR (by decide)) hi
  have hp0 : (i + 1, true).2 = true := rfl
  have k1 : upd (upd F 3 116) 2 (nI i + 1) 1 = F 1 := rfl
  have k3 : upd (upd F 3 116) 2 (nI i + 1) 3 = 116 := rfl
  refine J_iconst (v := 0) dX4_readOrder_35 (by decide) ?_
  refine J_istore_n dX4_readOrder_36 rfl rfl rfl ?_
  refine J_iconst (v := 0) dX4_readOrder_37 (by decide) ?_
  refine J_istore_n dX4_readOrder_38 rfl rfl rfl ?_
  refine J_iload_n dX4_readOrder_39 rfl rfl ?_
  refine J_aload_n dX4_readOrder_40 rfl rfl ?_
  refine cStri wv_X4_65 (c_len5 had) dX4_readOrder_41 5 (by decide) (had 15) (kk := ?_)
  refine J_icmp_ge (tgt := 130) dX4_readOrder_44 (by decide) (fun h44 => absurd h44 (by decide)) (fun h44 => ?_)
  refine J_aload_n dX4_readOrder_47 rfl rfl ?_
  refine J_iload_n dX4_readOrder_48 rfl rfl ?_
  refine cStri wv_X4_67 (c_char5_0 had) dX4_readOrder_49 5 (by decide) (had 15) (kk := ?_)
  refine J_istore dX4_readOrder_52 rfl rfl ?_
  refine J_iload dX4_readOrder_54 rfl ?_
  refine J_bipush (v := 35) dX4_readOrder_56 (by decide) ?_
  refine J_icmp_eq (tgt := 79) dX4_readOrder_58 (by decide) (fun h58 => ?_) (fun h58 => absurd (by decide) h58)
  refine J_iload dX4_readOrder_79 rfl ?_
  refine J_bipush (v := 100) dX4_readOrder_81 (by decide) ?_
  refine J_icmp_ne (tgt := 93) dX4_readOrder_83 (by decide) (fun h83 => ?_) (fun h83 => absurd h83 (by decide))
  refine J_aload_n dX4_readOrder_93 rfl rfl ?_
  refine cVg wv_X4_74 (c_X4_readNumber (p := (i + 1, true)) hR hP hp0) dX4_readOrder_94 ob4 rfl rfl (kk := (fun v m9 hf => ?_))
  obtain ⟨G, rfl, rfl, hR, hfr⟩ := hf
  have k1 := (hfr 1 (by decide)).trans k1
  have k3 := (hfr 3 (by decide)).trans k3
  refine J_istore dX4_readOrder_97 rfl rfl ?_
  refine J_iload dX4_readOrder_99 rfl ?_
  refine J_bipush (v := -6) dX4_readOrder_101 (by decide) ?_
  refine J_icmp_eq (tgt := 111) dX4_readOrder_103 (by decide) (fun h103 => ?_) (fun h103 => ?_)
  · refine J_iconst (v := 0) dX4_readOrder_111 (by decide) ?_
    refine r_bool dX4_readOrder_112 (by first | exact Or.inl rfl | exact Or.inr rfl | exact i01 | exact jin01) ?_
    have hk := nm_f h103
    have e := os_t hi hc
    exact oc_fail e hk hR k1
  · refine J_iload_n dX4_readOrder_106 rfl rfl ?_
    refine J_iconst (v := 3) dX4_readOrder_107 (by decide) ?_
    refine J_icmp_lt (tgt := 113) dX4_readOrder_108 (by decide) (fun h108 => ?_) (fun h108 => absurd (by decide) h108)
    have hp1 := nm_t h103
    refine J_aload_n dX4_readOrder_113 rfl rfl ?_
    refine gX4_values wf_X4_15 dX4_readOrder_114 ?_
    refine J_iload_n dX4_readOrder_117 rfl rfl ?_
    refine J_iload dX4_readOrder_118 rfl ?_
    refine wP_vals 0 (by decide) (by decide) dX4_readOrder_120 ?_
    refine J_iinc (v := 1) dX4_readOrder_121 rfl (by decide) rfl rfl ?_
    refine J_iinc (v := 1) dX4_readOrder_124 rfl (by decide) rfl rfl ?_
    refine J_goto (tgt := 39) dX4_readOrder_127 (by decide) ?_
    refine J_iload_n dX4_readOrder_39 rfl rfl ?_
    refine J_aload_n dX4_readOrder_40 rfl rfl ?_
    refine cStri wv_X4_65 (c_len5 had) dX4_readOrder_41 5 (by decide) (had 15) (kk := ?_)
    refine J_icmp_ge (tgt := 130) dX4_readOrder_44 (by decide) (fun h44 => ?_) (fun h44 => absurd (by decide) h44)
    refine J_iconst (v := 1) dX4_readOrder_130 (by decide) ?_
    refine r_bool dX4_readOrder_131 (by first | exact Or.inl rfl | exact Or.inr rfl | exact i01 | exact jin01) ?_
    refine oc_ok (os_t hi hc) hp1 hR k1 (k3.trans hc.symm) ?_
    exact ov_t hc (if_pos hp1)

set_option maxRecDepth 100000 in
set_option maxHeartbeats 4000000 in
theorem oc_x {X : jX} {ad : Nat → Nat} {m : Mem} {F W : Nat → Int32} {P : Nat → Int32} {L : Nat} {i : Nat} (hR : RC F L i) (hP : SgP m P L) (hi : i < L) (h1 : ¬ P i = 98) (h2 : ¬ P i = 105) (h3 : ¬ P i = 111) (h4 : ¬ P i = 97) (h5 : ¬ P i = 119) (h6 : ¬ P i = 116) (had : ∀ k, ad (1000 + k) = jx X k) : Cm X yX4_readOrder cX4_readOrder 6 (some .boolean) 5 ad [.ref 190] (PM m F W) (OcFin m F P L i) := by
  refine Cm.of (own := RX4) (nm := "readOrder") (by decide +kernel) rfl rfl rfl rfl ?_
  refine J_aload_n dX4_readOrder_0 rfl rfl ?_
  refine J_aload_n dX4_readOrder_1 rfl rfl ?_
  refine cVi wv_X4_49 (c_X4_signHere hR hP) dX4_readOrder_2 ob4 rfl rfl (kk := ?_)
  refine J_topi (fun z9 hz9 => ?_)
  obtain rfl : z9 = (P i) := hz9.trans (by rw [sgn, if_pos hi])
  clear hz9
  refine pP_kind wf_X4_53 dX4_readOrder_5 ?_
  refine J_aload_n dX4_readOrder_8 rfl rfl ?_
  refine gP_kind wf_X4_53 dX4_readOrder_9 ?_
  refine J_topi (fun z9 hz9 => ?_)
  obtain rfl : z9 = (P i) := hz9.trans (by rfl)
  clear hz9
  refine cSr ws_X4_56 (c_form6 h1 h2 h3 h4 h5 h6 had) dX4_readOrder_12 (kk := ?_)
  refine J_astore_n dX4_readOrder_15 rfl rfl rfl ?_
  refine J_aload_n dX4_readOrder_16 rfl rfl ?_
  refine cStri wv_X4_60 (c_empty6 had) dX4_readOrder_17 6 (by decide) (had 16) (kk := ?_)
  refine J_if_eq (tgt := 25) dX4_readOrder_20 (by decide) (fun h20 => absurd h20 (by decide)) (fun h20 => ?_)
  refine J_iconst (v := 0) dX4_readOrder_23 (by decide) ?_
  refine r_bool dX4_readOrder_24 (by first | exact Or.inl rfl | exact Or.inr rfl | exact i01 | exact jin01) ?_
  exact oc_fail (by unfold oS; rw [if_pos hi, if_neg h1, if_neg h2, if_neg h3, if_neg h4, if_neg h5, if_neg h6]) rfl (RC_upd hR (by decide)) rfl

set_option maxRecDepth 100000 in
set_option maxHeartbeats 4000000 in
theorem oc_e {X : jX} {ad : Nat → Nat} {m : Mem} {F W : Nat → Int32} {P : Nat → Int32} {L : Nat} {i : Nat} (hR : RC F L i) (hP : SgP m P L) (hi : ¬ i < L) (had : ∀ k, ad (1000 + k) = jx X k) : Cm X yX4_readOrder cX4_readOrder 6 (some .boolean) 5 ad [.ref 190] (PM m F W) (OcFin m F P L i) := by
  refine Cm.of (own := RX4) (nm := "readOrder") (by decide +kernel) rfl rfl rfl rfl ?_
  refine J_aload_n dX4_readOrder_0 rfl rfl ?_
  refine J_aload_n dX4_readOrder_1 rfl rfl ?_
  refine cVi wv_X4_49 (c_X4_signHere hR hP) dX4_readOrder_2 ob4 rfl rfl (kk := ?_)
  refine J_topi (fun z9 hz9 => ?_)
  obtain rfl : z9 = -6 := hz9.trans (by rw [sgn, if_neg hi])
  clear hz9
  refine pP_kind wf_X4_53 dX4_readOrder_5 ?_
  refine J_aload_n dX4_readOrder_8 rfl rfl ?_
  refine gP_kind wf_X4_53 dX4_readOrder_9 ?_
  refine J_topi (fun z9 hz9 => ?_)
  obtain rfl : z9 = -6 := hz9.trans (by rfl)
  clear hz9
  refine cSr ws_X4_56 (c_form6 (x := -6) (by decide) (by decide) (by decide) (by decide) (by decide) (by decide) had) dX4_readOrder_12 (kk := ?_)
  refine J_astore_n dX4_readOrder_15 rfl rfl rfl ?_
  refine J_aload_n dX4_readOrder_16 rfl rfl ?_
  refine cStri wv_X4_60 (c_empty6 had) dX4_readOrder_17 6 (by decide) (had 16) (kk := ?_)
  refine J_if_eq (tgt := 25) dX4_readOrder_20 (by decide) (fun h20 => absurd h20 (by decide)) (fun h20 => ?_)
  refine J_iconst (v := 0) dX4_readOrder_23 (by decide) ?_
  refine r_bool dX4_readOrder_24 (by first | exact Or.inl rfl | exact Or.inr rfl | exact i01 | exact jin01) ?_
  exact oc_fail (by unfold oS; rw [if_neg hi]) rfl (RC_upd hR (by decide)) rfl

theorem c_X4_readOrder {X : jX} {ad : Nat → Nat} {m : Mem} {F W P : Nat → Int32} {L i : Nat} (hR : RC F L i) (hP : SgP m P L) (had : ∀ k, ad (1000 + k) = jx X k) : Cm X yX4_readOrder cX4_readOrder 6 (some .boolean) 5 ad [.ref 190] (PM m F W) (OcFin m F P L i) := by
  by_cases hi : i < L
  · by_cases h98 : P i = 98
    · exact oc_b hR hP hi h98 had
    by_cases h105 : P i = 105
    · exact oc_i hR hP hi h105 had
    by_cases h111 : P i = 111
    · exact oc_o hR hP hi h111 had
    by_cases h97 : P i = 97
    · exact oc_a hR hP hi h97 had
    by_cases h119 : P i = 119
    · exact oc_w hR hP hi h119 had
    by_cases h116 : P i = 116
    · exact oc_t hR hP hi h116 had
    exact oc_x hR hP hi h98 h105 h111 h97 h119 h116 had
  · exact oc_e hR hP hi had
