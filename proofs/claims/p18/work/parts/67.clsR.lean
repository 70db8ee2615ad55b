section IE
variable {s : Rw} {n w q k : Nat} {x z y : Int32}
def ieA (s : Rw) (n : Nat) (x z y : Int32) : Int32 := if (plF s n x z y).1 < 0 then (plF s n x z y).1 else 0
theorem ie_err {a : Int32} (h : plF s n x z y = (a, s)) (ha : a < 0) : ieA s n x z y = a := by unfold ieA; rw [h, if_pos ha]
theorem pl_1 (h : jin x 0 (nI n - 1) = 0) : plF s n x z y = (-1, s) := by unfold plF; rw [if_pos h]
theorem pl_2 (h1 : ¬ jin x 0 (nI n - 1) = 0) (h : jin z 0 4 = 0) : plF s n x z y = (-1, s) := by unfold plF; rw [if_neg h1, if_pos h]
theorem pl_3 (h1 : ¬ jin x 0 (nI n - 1) = 0) (h2 : ¬ jin z 0 4 = 0) (h : jin y 1 24 = 0) : plF s n x z y = (-2, s) := by unfold plF; rw [if_neg h1, if_neg h2, if_pos h]
theorem pl_4 (h1 : ¬ jin (nI q) 0 (nI n - 1) = 0) (h2 : ¬ jin z 0 4 = 0) (h3 : ¬ jin y 1 24 = 0) (hq : q < 8) (h : plK s n q z = 0) : plF s n (nI q) z y = (-5, s) := by unfold plF; rw [if_neg h1, if_neg h2, if_neg h3, show (nI q).toNatClampNeg = q from nI_cl (by omega), if_pos h]
theorem pl_5 (h1 : ¬ jin (nI q) 0 (nI n - 1) = 0) (h2 : ¬ jin z 0 4 = 0) (h3 : ¬ jin y 1 24 = 0) (hq : q < 8) (h : s (fb q 3) = 24) : plF s n (nI q) z y = (-5, s) := by
  unfold plF
  rw [if_neg h1, if_neg h2, if_neg h3, show (nI q).toNatClampNeg = q from nI_cl (by omega)]
  split <;> first | rfl | (rw [if_pos h])
theorem pl_0 (h1 : ¬ jin (nI q) 0 (nI n - 1) = 0) (h2 : ¬ jin z 0 4 = 0) (h3 : ¬ jin y 1 24 = 0) (hq : q < 8) (hk : ¬ plK s n q z = 0) (h : ¬ s (fb q 3) = 24) (hd : ¬ s (fb q 3) < 0) : ieA s n (nI q) z y = 0 := by
  have e : (plF s n (nI q) z y).1 = s (fb q 3) := by
    unfold plF
    rw [if_neg h1, if_neg h2, if_neg h3, show (nI q).toNatClampNeg = q from nI_cl (by omega), if_neg hk, if_neg h]
  unfold ieA
  rw [e, if_neg hd]
theorem pk_other (h1 : ¬ s (fb q 2) = -6) (h2 : ¬ s (fb q 2) = z) : plK s n q z = 0 := by unfold plK; rw [if_neg h2, if_neg h1]
theorem pk_taken (hn : n ≤ 8) (hD : Ds s n) (hq : q < n) (hk : k < 5) (h1 : ¬ bI s (nI k) n = -6) (h2 : ¬ bI s (nI k) n = nI q) : plK s n q (nI k) = 0 := by
  unfold plK
  by_cases e : s (fb q 2) = nI k
  · exact absurd (bI_of hn hD hq hk e) h2
  · rw [if_neg e]
    by_cases e2 : s (fb q 2) = -6
    · rw [if_pos e2, if_neg h1]
    · rw [if_neg e2]
theorem pk_a (hn : n ≤ 8) (hD : Ds s n) (hq : q < n) (hk : k < 5) (h2 : bI s (nI k) n = nI q) : ¬ plK s n q (nI k) = 0 := by
  have e := (bI_spec (show q < 8 by omega) n hn h2).2
  unfold plK
  rw [if_pos e]
  decide
theorem pk_b (h : s (fb q 2) = nI k) : ¬ plK s n q (nI k) = 0 := by unfold plK; rw [if_pos h]; decide
theorem pk_c (h : s (fb q 2) = -6) (h2 : bI s (nI k) n = -6) : ¬ plK s n q (nI k) = 0 := by
  unfold plK
  split <;> first | decide | (rw [if_pos h, if_pos h2]; decide)
theorem dep0 (h : Bd s q) : ¬ s (fb q 3) < 0 := by
  obtain ⟨d, v, hd, -, e, -⟩ := h
  rw [e]; exact nI_lt0 (by omega)
end IE
set_option maxRecDepth 100000 in
set_option maxHeartbeats 4000000 in
theorem c_ieN {X : jX} {ad : Nat → Nat} {m B : Mem} {b : Nat} {s : Rw} {n w : Nat} {x z y : Int32} (hb : isB b) (hV : Rv s n w) (hRp : Rep B s n w) (hx : jin x 0 (nI n - 1) = 0) : Cd X yX0_inwardError cX0_inwardError 8 (some .int) 2 ad [.ref b, .int x, .int z, .int y] (SB m b B) (some (.int (ieA s n x z y))) ((SB m b B)) := by
  refine Cm.of (own := RX0) (nm := "inwardError") (by decide +kernel) rfl rfl rfl rfl ?_
  have hn8 := hV.1.1
  have hM := hV.1.2.2.2.1
  refine J_aload_n dX0_inwardError_0 rfl rfl ?_
  refine J_iload_n dX0_inwardError_1 rfl rfl ?_
  refine cVn wv_X0_83 (c_boardAtN hb hRp.1 hn8 hx) dX0_inwardError_2 (ob0 (by first | assumption | exact isB1 | exact isB18)) rfl rfl (kk := ?_)
  refine J_astoreN dX0_inwardError_5 rfl rfl ?_
  refine J_aloadN dX0_inwardError_7 rfl ?_
  refine J_ifnullN (tgt := 19) dX0_inwardError_9 (by decide) ?_
  refine J_iconst (v := -1) dX0_inwardError_19 (by decide) ?_
  refine r_int dX0_inwardError_20 ?_
  exact ⟨by rw [ie_err (pl_1 hx) (by decide)], rfl⟩

theorem ie_5 {s : Rw} {n : Nat} {x z y : Int32} (h : plF s n x z y = (-5, s)) : some (Value.int (-5)) = some (Value.int (ieA s n x z y)) := by rw [ie_err h (by decide)]
theorem ie_0 {s : Rw} {n : Nat} {x z y : Int32} (h : ieA s n x z y = 0) : some (Value.int 0) = some (Value.int (ieA s n x z y)) := by rw [h]
set_option maxRecDepth 100000 in
set_option maxHeartbeats 4000000 in
theorem c_ieV {X : jX} {ad : Nat → Nat} {m B : Mem} {b : Nat} {s : Rw} {n w : Nat} {q : Nat} {z y : Int32} (hb : isB b) (hV : Rv s n w) (hRp : Rep B s n w) (hq : q < n) : Cd X yX0_inwardError cX0_inwardError 8 (some .int) 2 ad [.ref b, .int (nI q), .int z, .int y] (SB m b B) (some (.int (ieA s n (nI q) z y))) ((SB m b B)) := by
  refine Cm.of (own := RX0) (nm := "inwardError") (by decide +kernel) rfl rfl rfl rfl ?_
  have hn8 := hV.1.1
  have hM := hV.1.2.2.2.1
  have hx : ¬ jin (nI q) 0 (nI n - 1) = 0 := jin_no (by omega) (jin_ok hq (by omega)).1 (jin_ok hq (by omega)).2
  obtain ⟨r1, r2⟩ := hRp.1.2.2 q hq
  have q8 : q < 8 := by omega
  refine J_aload_n dX0_inwardError_0 rfl rfl ?_
  refine J_iload_n dX0_inwardError_1 rfl rfl ?_
  refine cVr wv_X0_83 (c_boardAt hb hRp.1 hn8 (i := q) hq) dX0_inwardError_2 (ob0 (by first | assumption | exact isB1 | exact isB18)) rfl rfl (kk := ?_)
  refine J_astore dX0_inwardError_5 rfl rfl ?_
  refine J_aload dX0_inwardError_7 rfl ?_
  refine J_ifnull dX0_inwardError_9 ?_
  refine J_iload_n dX0_inwardError_12 rfl rfl ?_
  refine cSNi ws_X0_117 c_X5_isSlot dX0_inwardError_13 (kk := ?_)
  refine J_if_ne (tgt := 21) dX0_inwardError_16 (by decide) (fun h16 => ?_) (fun h16 => ?_)
  · refine J_iload_n dX0_inwardError_21 rfl rfl ?_
    refine J_iconst (v := 1) dX0_inwardError_22 (by decide) ?_
    refine J_bipush (v := 24) dX0_inwardError_23 (by decide) ?_
    refine cSNi ws_X0_103 c_X5_isIn dX0_inwardError_25 (kk := ?_)
    refine J_if_ne (tgt := 34) dX0_inwardError_28 (by decide) (fun h28 => ?_) (fun h28 => ?_)
    · have h16c := h16
      obtain ⟨k, hk, rfl⟩ := jin_nat (n := 4) (by decide) rfl h16
      refine J_aload dX0_inwardError_34 rfl ?_
      refine gB_slot (by first | assumption | exact isB1 | exact isB18) (by first | assumption | omega) wf_X0_60 dX0_inwardError_36 ?_
      refine J_topi (fun z9 hz9 => ?_)
      obtain rfl : z9 = (s (fb q 2)) := hz9.trans (by exact r1 2 (by decide))
      clear hz9
      refine J_bipush (v := -6) dX0_inwardError_39 (by decide) ?_
      refine J_icmp_eq (tgt := 57) dX0_inwardError_41 (by decide) (fun h41 => ?_) (fun h41 => ?_)
      · refine J_iconst (v := 0) dX0_inwardError_57 (by decide) ?_
        refine J_istore dX0_inwardError_58 rfl rfl ?_
        refine J_aload_n dX0_inwardError_60 rfl rfl ?_
        refine J_iload_n dX0_inwardError_61 rfl rfl ?_
        refine cVi wv_X0_121 (c_X0_boardIn hb hRp.1 hn8 hM.2 (q := k) (by omega)) dX0_inwardError_62 (ob0 (by first | assumption | exact isB1 | exact isB18)) rfl rfl (kk := ?_)
        refine J_istore dX0_inwardError_65 rfl rfl ?_
        refine J_iload dX0_inwardError_67 rfl ?_
        refine J_bipush (v := -6) dX0_inwardError_69 (by decide) ?_
        refine J_icmp_eq (tgt := 84) dX0_inwardError_71 (by decide) (fun h71 => ?_) (fun h71 => ?_)
        · refine J_iconst (v := 0) dX0_inwardError_84 (by decide) ?_
          refine J_istore dX0_inwardError_85 rfl rfl ?_
          refine J_iload dX0_inwardError_87 rfl ?_
          refine J_if_ne (tgt := 107) dX0_inwardError_89 (by decide) (fun h89 => absurd (by decide) h89) (fun h89 => ?_)
          refine J_iload dX0_inwardError_92 rfl ?_
          refine J_if_ne (tgt := 107) dX0_inwardError_94 (by decide) (fun h94 => absurd (by decide) h94) (fun h94 => ?_)
          refine J_aload dX0_inwardError_97 rfl ?_
          refine gB_depth (by first | assumption | exact isB1 | exact isB18) (by first | assumption | omega) wf_X0_87 dX0_inwardError_99 ?_
          refine J_topi (fun z9 hz9 => ?_)
          obtain rfl : z9 = (s (fb q 3)) := hz9.trans (by exact r1 3 (by decide))
          clear hz9
          refine J_bipush (v := 24) dX0_inwardError_102 (by decide) ?_
          refine J_icmp_ne (tgt := 110) dX0_inwardError_104 (by decide) (fun h104 => ?_) (fun h104 => ?_)
          · refine J_iconst (v := 0) dX0_inwardError_110 (by decide) ?_
            refine r_int dX0_inwardError_111 ?_
            first | exact ⟨ie_0 (pl_0 hx h16c h28 q8 (pk_c h41 h71) h104 (dep0 (hM.1 q hq))), rfl⟩ | exact ⟨ie_0 (pl_0 hx h16c h28 q8 (pk_b h50) h104 (dep0 (hM.1 q hq))), rfl⟩ | exact ⟨ie_0 (pl_0 hx h16c h28 q8 (pk_a hn8 hM.2 hq (by omega) h77) h104 (dep0 (hM.1 q hq))), rfl⟩
          · refine J_bipush (v := -5) dX0_inwardError_107 (by decide) ?_
            refine r_int dX0_inwardError_109 ?_
            first | exact ⟨ie_5 (pl_4 hx h16c h28 q8 (pk_other h41 h50)), rfl⟩ | exact ⟨ie_5 (pl_4 hx h16c h28 q8 (pk_taken hn8 hM.2 hq (by omega) h71 h77)), rfl⟩ | exact ⟨ie_5 (pl_5 hx h16c h28 q8 h104), rfl⟩
        · refine J_iload dX0_inwardError_74 rfl ?_
          refine J_iload_n dX0_inwardError_76 rfl rfl ?_
          refine J_icmp_eq (tgt := 84) dX0_inwardError_77 (by decide) (fun h77 => ?_) (fun h77 => ?_)
          · refine J_iconst (v := 0) dX0_inwardError_84 (by decide) ?_
            refine J_istore dX0_inwardError_85 rfl rfl ?_
            refine J_iload dX0_inwardError_87 rfl ?_
            refine J_if_ne (tgt := 107) dX0_inwardError_89 (by decide) (fun h89 => absurd (by decide) h89) (fun h89 => ?_)
            refine J_iload dX0_inwardError_92 rfl ?_
            refine J_if_ne (tgt := 107) dX0_inwardError_94 (by decide) (fun h94 => absurd (by decide) h94) (fun h94 => ?_)
            refine J_aload dX0_inwardError_97 rfl ?_
            refine gB_depth (by first | assumption | exact isB1 | exact isB18) (by first | assumption | omega) wf_X0_87 dX0_inwardError_99 ?_
            refine J_topi (fun z9 hz9 => ?_)
            obtain rfl : z9 = (s (fb q 3)) := hz9.trans (by exact r1 3 (by decide))
            clear hz9
            refine J_bipush (v := 24) dX0_inwardError_102 (by decide) ?_
            refine J_icmp_ne (tgt := 110) dX0_inwardError_104 (by decide) (fun h104 => ?_) (fun h104 => ?_)
            · refine J_iconst (v := 0) dX0_inwardError_110 (by decide) ?_
              refine r_int dX0_inwardError_111 ?_
              first | exact ⟨ie_0 (pl_0 hx h16c h28 q8 (pk_c h41 h71) h104 (dep0 (hM.1 q hq))), rfl⟩ | exact ⟨ie_0 (pl_0 hx h16c h28 q8 (pk_b h50) h104 (dep0 (hM.1 q hq))), rfl⟩ | exact ⟨ie_0 (pl_0 hx h16c h28 q8 (pk_a hn8 hM.2 hq (by omega) h77) h104 (dep0 (hM.1 q hq))), rfl⟩
            · refine J_bipush (v := -5) dX0_inwardError_107 (by decide) ?_
              refine r_int dX0_inwardError_109 ?_
              first | exact ⟨ie_5 (pl_4 hx h16c h28 q8 (pk_other h41 h50)), rfl⟩ | exact ⟨ie_5 (pl_4 hx h16c h28 q8 (pk_taken hn8 hM.2 hq (by omega) h71 h77)), rfl⟩ | exact ⟨ie_5 (pl_5 hx h16c h28 q8 h104), rfl⟩
          · refine J_iconst (v := 1) dX0_inwardError_80 (by decide) ?_
            refine J_goto (tgt := 85) dX0_inwardError_81 (by decide) ?_
            refine J_istore dX0_inwardError_85 rfl rfl ?_
            refine J_iload dX0_inwardError_87 rfl ?_
            refine J_if_ne (tgt := 107) dX0_inwardError_89 (by decide) (fun h89 => absurd (by decide) h89) (fun h89 => ?_)
            refine J_iload dX0_inwardError_92 rfl ?_
            refine J_if_ne (tgt := 107) dX0_inwardError_94 (by decide) (fun h94 => ?_) (fun h94 => absurd h94 (by decide))
            refine J_bipush (v := -5) dX0_inwardError_107 (by decide) ?_
            refine r_int dX0_inwardError_109 ?_
            first | exact ⟨ie_5 (pl_4 hx h16c h28 q8 (pk_other h41 h50)), rfl⟩ | exact ⟨ie_5 (pl_4 hx h16c h28 q8 (pk_taken hn8 hM.2 hq (by omega) h71 h77)), rfl⟩ | exact ⟨ie_5 (pl_5 hx h16c h28 q8 h104), rfl⟩
      · refine J_aload dX0_inwardError_44 rfl ?_
        refine gB_slot (by first | assumption | exact isB1 | exact isB18) (by first | assumption | omega) wf_X0_60 dX0_inwardError_46 ?_
        refine J_topi (fun z9 hz9 => ?_)
        obtain rfl : z9 = (s (fb q 2)) := hz9.trans (by exact r1 2 (by decide))
        clear hz9
        refine J_iload_n dX0_inwardError_49 rfl rfl ?_
        refine J_icmp_eq (tgt := 57) dX0_inwardError_50 (by decide) (fun h50 => ?_) (fun h50 => ?_)
        · refine J_iconst (v := 0) dX0_inwardError_57 (by decide) ?_
          refine J_istore dX0_inwardError_58 rfl rfl ?_
          refine J_aload_n dX0_inwardError_60 rfl rfl ?_
          refine J_iload_n dX0_inwardError_61 rfl rfl ?_
          refine cVi wv_X0_121 (c_X0_boardIn hb hRp.1 hn8 hM.2 (q := k) (by omega)) dX0_inwardError_62 (ob0 (by first | assumption | exact isB1 | exact isB18)) rfl rfl (kk := ?_)
          refine J_istore dX0_inwardError_65 rfl rfl ?_
          refine J_iload dX0_inwardError_67 rfl ?_
          refine J_bipush (v := -6) dX0_inwardError_69 (by decide) ?_
          refine J_icmp_eq (tgt := 84) dX0_inwardError_71 (by decide) (fun h71 => ?_) (fun h71 => ?_)
          · refine J_iconst (v := 0) dX0_inwardError_84 (by decide) ?_
            refine J_istore dX0_inwardError_85 rfl rfl ?_
            refine J_iload dX0_inwardError_87 rfl ?_
            refine J_if_ne (tgt := 107) dX0_inwardError_89 (by decide) (fun h89 => absurd (by decide) h89) (fun h89 => ?_)
            refine J_iload dX0_inwardError_92 rfl ?_
            refine J_if_ne (tgt := 107) dX0_inwardError_94 (by decide) (fun h94 => absurd (by decide) h94) (fun h94 => ?_)
            refine J_aload dX0_inwardError_97 rfl ?_
            refine gB_depth (by first | assumption | exact isB1 | exact isB18) (by first | assumption | omega) wf_X0_87 dX0_inwardError_99 ?_
            refine J_topi (fun z9 hz9 => ?_)
            obtain rfl : z9 = (s (fb q 3)) := hz9.trans (by exact r1 3 (by decide))
            clear hz9
            refine J_bipush (v := 24) dX0_inwardError_102 (by decide) ?_
            refine J_icmp_ne (tgt := 110) dX0_inwardError_104 (by decide) (fun h104 => ?_) (fun h104 => ?_)
            · refine J_iconst (v := 0) dX0_inwardError_110 (by decide) ?_
              refine r_int dX0_inwardError_111 ?_
              first | exact ⟨ie_0 (pl_0 hx h16c h28 q8 (pk_c h41 h71) h104 (dep0 (hM.1 q hq))), rfl⟩ | exact ⟨ie_0 (pl_0 hx h16c h28 q8 (pk_b h50) h104 (dep0 (hM.1 q hq))), rfl⟩ | exact ⟨ie_0 (pl_0 hx h16c h28 q8 (pk_a hn8 hM.2 hq (by omega) h77) h104 (dep0 (hM.1 q hq))), rfl⟩
            · refine J_bipush (v := -5) dX0_inwardError_107 (by decide) ?_
              refine r_int dX0_inwardError_109 ?_
              first | exact ⟨ie_5 (pl_4 hx h16c h28 q8 (pk_other h41 h50)), rfl⟩ | exact ⟨ie_5 (pl_4 hx h16c h28 q8 (pk_taken hn8 hM.2 hq (by omega) h71 h77)), rfl⟩ | exact ⟨ie_5 (pl_5 hx h16c h28 q8 h104), rfl⟩
          · refine J_iload dX0_inwardError_74 rfl ?_
            refine J_iload_n dX0_inwardError_76 rfl rfl ?_
            refine J_icmp_eq (tgt := 84) dX0_inwardError_77 (by decide) (fun h77 => ?_) (fun h77 => ?_)
            · refine J_iconst (v := 0) dX0_inwardError_84 (by decide) ?_
              refine J_istore dX0_inwardError_85 rfl rfl ?_
              refine J_iload dX0_inwardError_87 rfl ?_
              refine J_if_ne (tgt := 107) dX0_inwardError_89 (by decide) (fun h89 => absurd (by decide) h89) (fun h89 => ?_)
              refine J_iload dX0_inwardError_92 rfl ?_
              refine J_if_ne (tgt := 107) dX0_inwardError_94 (by decide) (fun h94 => absurd (by decide) h94) (fun h94 => ?_)
              refine J_aload dX0_inwardError_97 rfl ?_
              refine gB_depth (by first | assumption | exact isB1 | exact isB18) (by first | assumption | omega) wf_X0_87 dX0_inwardError_99 ?_
              refine J_topi (fun z9 hz9 => ?_)
              obtain rfl : z9 = (s (fb q 3)) := hz9.trans (by exact r1 3 (by decide))
              clear hz9
              refine J_bipush (v := 24) dX0_inwardError_102 (by decide) ?_
              refine J_icmp_ne (tgt := 110) dX0_inwardError_104 (by decide) (fun h104 => ?_) (fun h104 => ?_)
              · refine J_iconst (v := 0) dX0_inwardError_110 (by decide) ?_
                refine r_int dX0_inwardError_111 ?_
                first | exact ⟨ie_0 (pl_0 hx h16c h28 q8 (pk_c h41 h71) h104 (dep0 (hM.1 q hq))), rfl⟩ | exact ⟨ie_0 (pl_0 hx h16c h28 q8 (pk_b h50) h104 (dep0 (hM.1 q hq))), rfl⟩ | exact ⟨ie_0 (pl_0 hx h16c h28 q8 (pk_a hn8 hM.2 hq (by omega) h77) h104 (dep0 (hM.1 q hq))), rfl⟩
              · refine J_bipush (v := -5) dX0_inwardError_107 (by decide) ?_
                refine r_int dX0_inwardError_109 ?_
                first | exact ⟨ie_5 (pl_4 hx h16c h28 q8 (pk_other h41 h50)), rfl⟩ | exact ⟨ie_5 (pl_4 hx h16c h28 q8 (pk_taken hn8 hM.2 hq (by omega) h71 h77)), rfl⟩ | exact ⟨ie_5 (pl_5 hx h16c h28 q8 h104), rfl⟩
            · refine J_iconst (v := 1) dX0_inwardError_80 (by decide) ?_
              refine J_goto (tgt := 85) dX0_inwardError_81 (by decide) ?_
              refine J_istore dX0_inwardError_85 rfl rfl ?_
              refine J_iload dX0_inwardError_87 rfl ?_
              refine J_if_ne (tgt := 107) dX0_inwardError_89 (by decide) (fun h89 => absurd (by decide) h89) (fun h89 => ?_)
              refine J_iload dX0_inwardError_92 rfl ?_
              refine J_if_ne (tgt := 107) dX0_inwardError_94 (by decide) (fun h94 => ?_) (fun h94 => absurd h94 (by decide))
              refine J_bipush (v := -5) dX0_inwardError_107 (by decide) ?_
              refine r_int dX0_inwardError_109 ?_
              first | exact ⟨ie_5 (pl_4 hx h16c h28 q8 (pk_other h41 h50)), rfl⟩ | exact ⟨ie_5 (pl_4 hx h16c h28 q8 (pk_taken hn8 hM.2 hq (by omega) h71 h77)), rfl⟩ | exact ⟨ie_5 (pl_5 hx h16c h28 q8 h104), rfl⟩
        · refine J_iconst (v := 1) dX0_inwardError_53 (by decide) ?_
          refine J_goto (tgt := 58) dX0_inwardError_54 (by decide) ?_
          refine J_istore dX0_inwardError_58 rfl rfl ?_
          refine J_aload_n dX0_inwardError_60 rfl rfl ?_
          refine J_iload_n dX0_inwardError_61 rfl rfl ?_
          refine cVi wv_X0_121 (c_X0_boardIn hb hRp.1 hn8 hM.2 (q := k) (by omega)) dX0_inwardError_62 (ob0 (by first | assumption | exact isB1 | exact isB18)) rfl rfl (kk := ?_)
          refine J_istore dX0_inwardError_65 rfl rfl ?_
          refine J_iload dX0_inwardError_67 rfl ?_
          refine J_bipush (v := -6) dX0_inwardError_69 (by decide) ?_
          refine J_icmp_eq (tgt := 84) dX0_inwardError_71 (by decide) (fun h71 => ?_) (fun h71 => ?_)
          · refine J_iconst (v := 0) dX0_inwardError_84 (by decide) ?_
            refine J_istore dX0_inwardError_85 rfl rfl ?_
            refine J_iload dX0_inwardError_87 rfl ?_
            refine J_if_ne (tgt := 107) dX0_inwardError_89 (by decide) (fun h89 => ?_) (fun h89 => absurd h89 (by decide))
            refine J_bipush (v := -5) dX0_inwardError_107 (by decide) ?_
            refine r_int dX0_inwardError_109 ?_
            first | exact ⟨ie_5 (pl_4 hx h16c h28 q8 (pk_other h41 h50)), rfl⟩ | exact ⟨ie_5 (pl_4 hx h16c h28 q8 (pk_taken hn8 hM.2 hq (by omega) h71 h77)), rfl⟩ | exact ⟨ie_5 (pl_5 hx h16c h28 q8 h104), rfl⟩
          · refine J_iload dX0_inwardError_74 rfl ?_
            refine J_iload_n dX0_inwardError_76 rfl rfl ?_
            refine J_icmp_eq (tgt := 84) dX0_inwardError_77 (by decide) (fun h77 => ?_) (fun h77 => ?_)
            · refine J_iconst (v := 0) dX0_inwardError_84 (by decide) ?_
              refine J_istore dX0_inwardError_85 rfl rfl ?_
              refine J_iload dX0_inwardError_87 rfl ?_
              refine J_if_ne (tgt := 107) dX0_inwardError_89 (by decide) (fun h89 => ?_) (fun h89 => absurd h89 (by decide))
              refine J_bipush (v := -5) dX0_inwardError_107 (by decide) ?_
              refine r_int dX0_inwardError_109 ?_
              first | exact ⟨ie_5 (pl_4 hx h16c h28 q8 (pk_other h41 h50)), rfl⟩ | exact ⟨ie_5 (pl_4 hx h16c h28 q8 (pk_taken hn8 hM.2 hq (by omega) h71 h77)), rfl⟩ | exact ⟨ie_5 (pl_5 hx h16c h28 q8 h104), rfl⟩
            · refine J_iconst (v := 1) dX0_inwardError_80 (by decide) ?_
              refine J_goto (tgt := 85) dX0_inwardError_81 (by decide) ?_
              refine J_istore dX0_inwardError_85 rfl rfl ?_
              refine J_iload dX0_inwardError_87 rfl ?_
              refine J_if_ne (tgt := 107) dX0_inwardError_89 (by decide) (fun h89 => ?_) (fun h89 => absurd h89 (by decide))
              refine J_bipush (v := -5) dX0_inwardError_107 (by decide) ?_
              refine r_int dX0_inwardError_109 ?_
              first | exact ⟨ie_5 (pl_4 hx h16c h28 q8 (pk_other h41 h50)), rfl⟩ | exact ⟨ie_5 (pl_4 hx h16c h28 q8 (pk_taken hn8 hM.2 hq (by omega) h71 h77)), rfl⟩ | exact ⟨ie_5 (pl_5 hx h16c h28 q8 h104), rfl⟩
    · refine J_bipush (v := -2) dX0_inwardError_31 (by decide) ?_
      refine r_int dX0_inwardError_33 ?_
      exact ⟨by rw [ie_err (pl_3 hx h16 h28) (by decide)], rfl⟩
  · refine J_iconst (v := -1) dX0_inwardError_19 (by decide) ?_
    refine r_int dX0_inwardError_20 ?_
    exact ⟨by rw [ie_err (pl_2 hx h16) (by decide)], rfl⟩

set_option maxRecDepth 100000 in
set_option maxHeartbeats 4000000 in
theorem c_miN {X : jX} {ad : Nat → Nat} {m B : Mem} {b : Nat} {s : Rw} {n w : Nat} {x z y : Int32} (hb : isB b) (hV : Rv s n w) (hRp : Rep B s n w) (hx : jin x 0 (nI n - 1) = 0) : Cm X yX0_moveInward cX0_moveInward 6 (some .int) 3 ad [.ref b, .int x, .int z, .int y] (SB m b B) (ChFin m b (plF s n x z y) n w) := by
  refine Cm.of (own := RX0) (nm := "moveInward") (by decide +kernel) rfl rfl rfl rfl ?_
  have hn8 := hV.1.1
  have hM := hV.1.2.2.2.1
  refine J_aload_n dX0_moveInward_0 rfl rfl ?_
  refine J_iload_n dX0_moveInward_1 rfl rfl ?_
  refine J_iload_n dX0_moveInward_2 rfl rfl ?_
  refine J_iload_n dX0_moveInward_3 rfl rfl ?_
  refine cVi wv_X0_124 (c_ieN hb hV hRp hx) dX0_moveInward_4 (ob0 (by first | assumption | exact isB1 | exact isB18)) rfl rfl (kk := ?_)
  refine J_topi (fun z9 hz9 => ?_)
  obtain rfl : z9 = -1 := hz9.trans (by rw [ie_err (pl_1 hx) (by decide)])
  clear hz9
  refine J_istore dX0_moveInward_7 rfl rfl ?_
  refine J_aload_n dX0_moveInward_9 rfl rfl ?_
  refine J_iload_n dX0_moveInward_10 rfl rfl ?_
  refine cVn wv_X0_83 (c_boardAtN hb hRp.1 hn8 hx) dX0_moveInward_11 (ob0 (by first | assumption | exact isB1 | exact isB18)) rfl rfl (kk := ?_)
  refine J_astoreN dX0_moveInward_14 rfl rfl ?_
  refine J_iload dX0_moveInward_16 rfl ?_
  refine J_if_lt (tgt := 26) dX0_moveInward_18 (by decide) (fun h18 => ?_) (fun h18 => absurd (by decide) h18)
  refine J_iload dX0_moveInward_26 rfl ?_
  refine r_int dX0_moveInward_28 ?_
  rw [pl_1 hx]
  exact ch_err hRp

set_option maxRecDepth 100000 in
set_option maxHeartbeats 4000000 in
theorem c_miE {X : jX} {ad : Nat → Nat} {m B : Mem} {b : Nat} {s : Rw} {n w : Nat} {q : Nat} {z y : Int32} (hb : isB b) (hV : Rv s n w) (hRp : Rep B s n w) (hq : q < n) (he : (plF s n (nI q) z y).1 < 0) (h2 : (plF s n (nI q) z y).2 = s) : Cm X yX0_moveInward cX0_moveInward 6 (some .int) 3 ad [.ref b, .int (nI q), .int z, .int y] (SB m b B) (ChFin m b (plF s n (nI q) z y) n w) := by
  refine Cm.of (own := RX0) (nm := "moveInward") (by decide +kernel) rfl rfl rfl rfl ?_
  have hn8 := hV.1.1
  have hM := hV.1.2.2.2.1
  refine J_aload_n dX0_moveInward_0 rfl rfl ?_
  refine J_iload_n dX0_moveInward_1 rfl rfl ?_
  refine J_iload_n dX0_moveInward_2 rfl rfl ?_
  refine J_iload_n dX0_moveInward_3 rfl rfl ?_
  refine cVi wv_X0_124 (c_ieV hb hV hRp hq) dX0_moveInward_4 (ob0 (by first | assumption | exact isB1 | exact isB18)) rfl rfl (kk := ?_)
  refine J_topi (fun z9 hz9 => ?_)
  obtain rfl : z9 = ((plF s n (nI q) z y).1) := hz9.trans (by unfold ieA; rw [if_pos he])
  clear hz9
  refine J_istore dX0_moveInward_7 rfl rfl ?_
  refine J_aload_n dX0_moveInward_9 rfl rfl ?_
  refine J_iload_n dX0_moveInward_10 rfl rfl ?_
  refine cVr wv_X0_83 (c_boardAt hb hRp.1 hn8 (i := q) hq) dX0_moveInward_11 (ob0 (by first | assumption | exact isB1 | exact isB18)) rfl rfl (kk := ?_)
  refine J_astore dX0_moveInward_14 rfl rfl ?_
  refine J_iload dX0_moveInward_16 rfl ?_
  refine J_if_lt (tgt := 26) dX0_moveInward_18 (by decide) (fun h18 => ?_) (fun h18 => absurd he h18)
  refine J_iload dX0_moveInward_26 rfl ?_
  refine r_int dX0_moveInward_28 ?_
  exact ⟨rfl, B, rfl, by rw [h2]; exact hRp⟩

set_option maxRecDepth 100000 in
set_option maxHeartbeats 4000000 in
theorem c_miV {X : jX} {ad : Nat → Nat} {m B : Mem} {b : Nat} {s : Rw} {n w : Nat} {q k v d : Nat} (hb : isB b) (hV : Rv s n w) (hRp : Rep B s n w) (hq : q < n) (e : plF s n (nI q) (nI k) (nI v) = (nI d, nwP s q k v)) (h3 : s (fb q 3) = nI d) (hd : d < 24) : Cm X yX0_moveInward cX0_moveInward 6 (some .int) 3 ad [.ref b, .int (nI q), .int (nI k), .int (nI v)] (SB m b B) (ChFin m b (plF s n (nI q) (nI k) (nI v)) n w) := by
  refine Cm.of (own := RX0) (nm := "moveInward") (by decide +kernel) rfl rfl rfl rfl ?_
  have hn8 := hV.1.1
  have hM := hV.1.2.2.2.1
  obtain ⟨r1, r2⟩ := hRp.1.2.2 q hq
  have q8 : q < 8 := by omega
  refine J_aload_n dX0_moveInward_0 rfl rfl ?_
  refine J_iload_n dX0_moveInward_1 rfl rfl ?_
  refine J_iload_n dX0_moveInward_2 rfl rfl ?_
  refine J_iload_n dX0_moveInward_3 rfl rfl ?_
  refine cVi wv_X0_124 (c_ieV hb hV hRp hq) dX0_moveInward_4 (ob0 (by first | assumption | exact isB1 | exact isB18)) rfl rfl (kk := ?_)
  refine J_topi (fun z9 hz9 => ?_)
  obtain rfl : z9 = 0 := hz9.trans (by unfold ieA; rw [e, if_neg (nI_lt0 (by omega))])
  clear hz9
  refine J_istore dX0_moveInward_7 rfl rfl ?_
  refine J_aload_n dX0_moveInward_9 rfl rfl ?_
  refine J_iload_n dX0_moveInward_10 rfl rfl ?_
  refine cVr wv_X0_83 (c_boardAt hb hRp.1 hn8 (i := q) hq) dX0_moveInward_11 (ob0 (by first | assumption | exact isB1 | exact isB18)) rfl rfl (kk := ?_)
  refine J_astore dX0_moveInward_14 rfl rfl ?_
  refine J_iload dX0_moveInward_16 rfl ?_
  refine J_if_lt (tgt := 26) dX0_moveInward_18 (by decide) (fun h18 => absurd h18 (by decide)) (fun h18 => ?_)
  refine J_aload dX0_moveInward_21 rfl ?_
  refine J_ifnonnull (tgt := 29) dX0_moveInward_23 (by decide) ?_
  refine J_aload dX0_moveInward_29 rfl ?_
  refine J_iload_n dX0_moveInward_31 rfl rfl ?_
  refine pB_slot (by first | assumption | exact isB1 | exact isB18) (by first | assumption | omega) wf_X0_60 dX0_moveInward_32 ?_
  refine J_aload dX0_moveInward_35 rfl ?_
  refine J_iload_n dX0_moveInward_37 rfl rfl ?_
  refine pB_speed (by first | assumption | exact isB1 | exact isB18) (by first | assumption | omega) wf_X0_90 dX0_moveInward_38 ?_
  refine J_aload dX0_moveInward_41 rfl ?_
  refine J_iconst (v := 0) dX0_moveInward_43 (by decide) ?_
  refine pB_hasAsked (by first | assumption | exact isB1 | exact isB18) (by first | assumption | omega) wf_X0_93 dX0_moveInward_44 (by first | exact Or.inl rfl | exact Or.inr rfl | exact i01 | exact jin01) ?_
  refine J_aload dX0_moveInward_47 rfl ?_
  refine gB_depth (by first | assumption | exact isB1 | exact isB18) (by first | assumption | omega) wf_X0_87 dX0_moveInward_49 ?_
  refine J_topi (fun z9 hz9 => ?_)
  obtain rfl : z9 = (nI d) := hz9.trans (by rw [up_rr, if_neg (by decide), up_rr, if_neg (by decide), up_rr, if_neg (by decide), r1 3 (by decide)]; exact h3)
  clear hz9
  refine r_int dX0_moveInward_52 ?_
  rw [e]
  exact ⟨rfl, _, rfl, Rep_up (Rep_up (Rep_up hRp q8 (by decide)) q8 (by decide)) q8 (by decide)⟩

theorem c_X0_moveInward {X : jX} {ad : Nat → Nat} {m B : Mem} {b : Nat} {s : Rw} {n w : Nat} {x z y : Int32} (hb : isB b) (hV : Rv s n w) (hRp : Rep B s n w) : Cm X yX0_moveInward cX0_moveInward 6 (some .int) 3 ad [.ref b, .int x, .int z, .int y] (SB m b B) (ChFin m b (plF s n x z y) n w) := by
  by_cases hx : jin x 0 (nI n - 1) = 0
  · exact c_miN hb hV hRp hx
  · rcases plF_cases (x := x) (z := z) (y := y) hV.1.1 hV.1.2.2.2.1 with ⟨h1, h2⟩ | ⟨q, k, v, d, hq, hk, hv0, hv, hd, rfl, rfl, rfl, e, h3, ho⟩
    · obtain ⟨q, hq, rfl⟩ := jinB hV.1.1 hx
      exact c_miE hb hV hRp hq h1 h2
    · exact c_miV hb hV hRp hq e h3 hd
set_option maxRecDepth 100000 in
set_option maxHeartbeats 4000000 in
theorem c_moN {X : jX} {ad : Nat → Nat} {m B : Mem} {b : Nat} {s : Rw} {n w : Nat} {x y : Int32} (hb : isB b) (hV : Rv s n w) (hRp : Rep B s n w) (hx : jin x 0 (nI n - 1) = 0) : Cm X yX0_moveOutward cX0_moveOutward 4 (some .int) 1 ad [.ref b, .int x, .int y] (SB m b B) (ChFin m b (puF s n x y) n w) := by
  refine Cm.of (own := RX0) (nm := "moveOutward") (by decide +kernel) rfl rfl rfl rfl ?_
  have hn8 := hV.1.1
  have hM := hV.1.2.2.2.1
  refine J_aload_n dX0_moveOutward_0 rfl rfl ?_
  refine J_iload_n dX0_moveOutward_1 rfl rfl ?_
  refine cVn wv_X0_83 (c_boardAtN hb hRp.1 hn8 hx) dX0_moveOutward_2 (ob0 (by first | assumption | exact isB1 | exact isB18)) rfl rfl (kk := ?_)
  refine J_astore_nN dX0_moveOutward_5 rfl rfl rfl ?_
  refine J_aload_nN dX0_moveOutward_6 rfl rfl ?_
  refine J_ifnonnullN dX0_moveOutward_7 ?_
  refine J_iconst (v := -1) dX0_moveOutward_10 (by decide) ?_
  refine r_int dX0_moveOutward_11 ?_
  rw [show puF s n x y = (-1, s) by unfold puF; rw [if_pos hx]]
  exact ch_err hRp

set_option maxRecDepth 100000 in
set_option maxHeartbeats 4000000 in
theorem c_moV {X : jX} {ad : Nat → Nat} {m B : Mem} {b : Nat} {s : Rw} {n w : Nat} {q : Nat} {y : Int32} (hb : isB b) (hV : Rv s n w) (hRp : Rep B s n w) (hq : q < n) : Cm X yX0_moveOutward cX0_moveOutward 4 (some .int) 1 ad [.ref b, .int (nI q), .int y] (SB m b B) (ChFin m b (puF s n (nI q) y) n w) := by
  refine Cm.of (own := RX0) (nm := "moveOutward") (by decide +kernel) rfl rfl rfl rfl ?_
  have hn8 := hV.1.1
  have hM := hV.1.2.2.2.1
  have hx : ¬ jin (nI q) 0 (nI n - 1) = 0 := jin_no (by omega) (jin_ok hq (by omega)).1 (jin_ok hq (by omega)).2
  obtain ⟨r1, r2⟩ := hRp.1.2.2 q hq
  have q8 : q < 8 := by omega
  have e9 := cl8 hq hn8
  refine J_aload_n dX0_moveOutward_0 rfl rfl ?_
  refine J_iload_n dX0_moveOutward_1 rfl rfl ?_
  refine cVr wv_X0_83 (c_boardAt hb hRp.1 hn8 (i := q) hq) dX0_moveOutward_2 (ob0 (by first | assumption | exact isB1 | exact isB18)) rfl rfl (kk := ?_)
  refine J_astore_n dX0_moveOutward_5 rfl rfl rfl ?_
  refine J_aload_n dX0_moveOutward_6 rfl rfl ?_
  refine J_ifnonnull (tgt := 12) dX0_moveOutward_7 (by decide) ?_
  refine J_iload_n dX0_moveOutward_12 rfl rfl ?_
  refine J_iconst (v := 1) dX0_moveOutward_13 (by decide) ?_
  refine J_bipush (v := 24) dX0_moveOutward_14 (by decide) ?_
  refine cSNi ws_X0_103 c_X5_isIn dX0_moveOutward_16 (kk := ?_)
  refine J_if_ne (tgt := 25) dX0_moveOutward_19 (by decide) (fun h19 => ?_) (fun h19 => ?_)
  · refine J_aload_n dX0_moveOutward_25 rfl rfl ?_
    refine gB_slot (by first | assumption | exact isB1 | exact isB18) (by first | assumption | omega) wf_X0_60 dX0_moveOutward_26 ?_
    refine J_topi (fun z9 hz9 => ?_)
    obtain rfl : z9 = (s (fb q 2)) := hz9.trans (by exact r1 2 (by decide))
    clear hz9
    refine J_bipush (v := -6) dX0_moveOutward_29 (by decide) ?_
    refine J_icmp_ne (tgt := 37) dX0_moveOutward_31 (by decide) (fun h31 => ?_) (fun h31 => ?_)
    · refine J_aload_n dX0_moveOutward_37 rfl rfl ?_
      refine J_iload_n dX0_moveOutward_38 rfl rfl ?_
      refine J_ineg dX0_moveOutward_39 ?_
      refine pB_speed (by first | assumption | exact isB1 | exact isB18) (by first | assumption | omega) wf_X0_90 dX0_moveOutward_40 ?_
      refine J_aload_n dX0_moveOutward_43 rfl rfl ?_
      refine gB_depth (by first | assumption | exact isB1 | exact isB18) (by first | assumption | omega) wf_X0_87 dX0_moveOutward_44 ?_
      refine J_topi (fun z9 hz9 => ?_)
      obtain rfl : z9 = (s (fb q 3)) := hz9.trans (by rw [up_rr, if_neg (by decide)]; exact r1 3 (by decide))
      clear hz9
      refine r_int dX0_moveOutward_47 ?_
      rw [show puF s n (nI q) y = (s (fb q 3), upd s (fb q 4) (-y)) by unfold puF; rw [if_neg hx, if_neg h19, e9, if_neg h31]]
      exact ⟨rfl, _, rfl, Rep_up hRp q8 (by decide)⟩
    · refine J_bipush (v := -5) dX0_moveOutward_34 (by decide) ?_
      refine r_int dX0_moveOutward_36 ?_
      rw [show puF s n (nI q) y = (-5, s) by unfold puF; rw [if_neg hx, if_neg h19, e9, if_pos h31]]
      exact ch_err hRp
  · refine J_bipush (v := -2) dX0_moveOutward_22 (by decide) ?_
    refine r_int dX0_moveOutward_24 ?_
    rw [show puF s n (nI q) y = (-2, s) by unfold puF; rw [if_neg hx, if_pos h19]]
    exact ch_err hRp

set_option maxRecDepth 100000 in
set_option maxHeartbeats 4000000 in
theorem c_asN {X : jX} {ad : Nat → Nat} {m B : Mem} {b : Nat} {s : Rw} {n w : Nat} {x : Int32} (hb : isB b) (hV : Rv s n w) (hRp : Rep B s n w) (hx : jin x 0 (nI n - 1) = 0) : Cm X yX0_askToLeave cX0_askToLeave 3 (some .int) 2 ad [.ref b, .int x] (SB m b B) (ChFin m b (asF s n w x) n w) := by
  refine Cm.of (own := RX0) (nm := "askToLeave") (by decide +kernel) rfl rfl rfl rfl ?_
  have hn8 := hV.1.1
  have hM := hV.1.2.2.2.1
  refine J_aload_n dX0_askToLeave_0 rfl rfl ?_
  refine J_iload_n dX0_askToLeave_1 rfl rfl ?_
  refine cVn wv_X0_83 (c_boardAtN hb hRp.1 hn8 hx) dX0_askToLeave_2 (ob0 (by first | assumption | exact isB1 | exact isB18)) rfl rfl (kk := ?_)
  refine J_astore_nN dX0_askToLeave_5 rfl rfl rfl ?_
  refine J_aload_nN dX0_askToLeave_6 rfl rfl ?_
  refine J_ifnonnullN dX0_askToLeave_7 ?_
  refine J_iconst (v := -1) dX0_askToLeave_10 (by decide) ?_
  refine r_int dX0_askToLeave_11 ?_
  rw [show asF s n w x = (-1, s) by unfold asF; rw [if_pos hx]]
  exact ch_err hRp

theorem oo_same {s : Rw} {w q d : Nat} {v : Int32} (hq : q < 8) : ooA (upd s (fb q 7) v) w d = ooA s w d := by
  have e : ∀ x, 94 ≤ x → upd s (fb q 7) v x = s x := fun x hx => upd_fbx hq (by decide) (by omega)
  have ev : ∀ k, wv (upd s (fb q 7) v) k = wv s k := fun k => wv_eq (e _ (by omega))
  have ec : ∀ l, cO (upd s (fb q 7) v) d l = cO s d l := by
    intro l
    induction l with
    | nil => rfl
    | cons k t ih => unfold cO; rw [ih, ev]
  unfold ooA
  rw [e 295 (by decide), ev, ec, wl_same (fun k _ => e _ (by omega))]
section AS
variable {s : Rw} {n w q : Nat}
theorem as_a (hx : ¬ jin (nI q) 0 (nI n - 1) = 0) (e9 : (nI q).toNatClampNeg = q) (h : s (fb q 6) = 0) : asF s n w (nI q) = (-5, s) := by unfold asF; rw [if_neg hx, e9, if_pos h]
theorem as_b (hx : ¬ jin (nI q) 0 (nI n - 1) = 0) (e9 : (nI q).toNatClampNeg = q) (h6 : ¬ s (fb q 6) = 0) (hf : Bf s q) (h : ¬ s (fb q 7) = 0) : asF s n w (nI q) = (-5, s) := by unfold asF; rw [if_neg hx, e9, if_neg h6, if_pos (hf.2.2.resolve_left h).1]
theorem as_c (hx : ¬ jin (nI q) 0 (nI n - 1) = 0) (e9 : (nI q).toNatClampNeg = q) (h6 : ¬ s (fb q 6) = 0) (h : s (fb q 7) = 0) : asF s n w (nI q) = (goO (upd s (fb q 7) 1) q w, upd s (fb q 7) 1) := by unfold asF; rw [if_neg hx, e9, if_neg h6, if_neg (by rw [h]; decide)]
end AS
set_option maxRecDepth 100000 in
set_option maxHeartbeats 4000000 in
theorem c_asV {X : jX} {ad : Nat → Nat} {m B : Mem} {b : Nat} {s : Rw} {n w : Nat} {q : Nat} (hb : isB b) (hV : Rv s n w) (hRp : Rep B s n w) (hq : q < n) : Cm X yX0_askToLeave cX0_askToLeave 3 (some .int) 2 ad [.ref b, .int (nI q)] (SB m b B) (ChFin m b (asF s n w (nI q)) n w) := by
  refine Cm.of (own := RX0) (nm := "askToLeave") (by decide +kernel) rfl rfl rfl rfl ?_
  have hn8 := hV.1.1
  have hM := hV.1.2.2.2.1
  have hx : ¬ jin (nI q) 0 (nI n - 1) = 0 := jin_no (by omega) (jin_ok hq (by omega)).1 (jin_ok hq (by omega)).2
  obtain ⟨r1, r2⟩ := hRp.1.2.2 q hq
  have q8 : q < 8 := by omega
  have e9 := cl8 hq hn8
  have hf := hV.2.1 q hq
  have h10 : (wl s w).length ≤ 10 := by have := hV.2.2.2.2.1; unfold opA at this; omega
  have hS := hV.1.2.2.1
  refine J_aload_n dX0_askToLeave_0 rfl rfl ?_
  refine J_iload_n dX0_askToLeave_1 rfl rfl ?_
  refine cVr wv_X0_83 (c_boardAt hb hRp.1 hn8 (i := q) hq) dX0_askToLeave_2 (ob0 (by first | assumption | exact isB1 | exact isB18)) rfl rfl (kk := ?_)
  refine J_astore_n dX0_askToLeave_5 rfl rfl rfl ?_
  refine J_aload_n dX0_askToLeave_6 rfl rfl ?_
  refine J_ifnonnull (tgt := 12) dX0_askToLeave_7 (by decide) ?_
  refine J_aload_n dX0_askToLeave_12 rfl rfl ?_
  refine gB_isKnown (by first | assumption | exact isB1 | exact isB18) (by first | assumption | omega) wf_X0_63 dX0_askToLeave_13 ?_
  refine J_topi (fun z9 hz9 => ?_)
  obtain rfl : z9 = (s (fb q 6)) := hz9.trans (by exact r1 6 (by decide))
  clear hz9
  refine J_if_eq (tgt := 26) dX0_askToLeave_16 (by decide) (fun h16 => ?_) (fun h16 => ?_)
  · refine J_bipush (v := -5) dX0_askToLeave_26 (by decide) ?_
    refine r_int dX0_askToLeave_28 ?_
    rw [show asF s n w (nI q) = (-5, s) from by first | exact as_a hx e9 h16 | exact as_b hx e9 h16 hf h23]
    exact ch_err hRp
  · refine J_aload_n dX0_askToLeave_19 rfl rfl ?_
    refine gB_hasAsked (by first | assumption | exact isB1 | exact isB18) (by first | assumption | omega) wf_X0_93 dX0_askToLeave_20 ?_
    refine J_topi (fun z9 hz9 => ?_)
    obtain rfl : z9 = (s (fb q 7)) := hz9.trans (by exact r1 7 (by decide))
    clear hz9
    refine J_if_eq (tgt := 29) dX0_askToLeave_23 (by decide) (fun h23 => ?_) (fun h23 => ?_)
    · refine J_aload_n dX0_askToLeave_29 rfl rfl ?_
      refine J_iconst (v := 1) dX0_askToLeave_30 (by decide) ?_
      refine pB_hasAsked (by first | assumption | exact isB1 | exact isB18) (by first | assumption | omega) wf_X0_93 dX0_askToLeave_31 (by first | exact Or.inl rfl | exact Or.inr rfl | exact i01 | exact jin01) ?_
      refine J_aload_n dX0_askToLeave_34 rfl rfl ?_
      refine gX0_bus (by first | assumption | exact isB1 | exact isB18) wf_X0_33 dX0_askToLeave_35 ?_
      refine J_iload_n dX0_askToLeave_38 rfl rfl ?_
      refine cVi wv_X0_128 (c_X2_openWordsOf hb (RpW_blk hRp.2.1 (fun r hr => up_ne (by omega))) hS.1.1 h10 q8 hS.2.2) dX0_askToLeave_39 (ob2 (by first | assumption | exact isB1 | exact isB18)) rfl rfl (kk := ?_)
      refine r_int dX0_askToLeave_42 ?_
      have e := as_c (w := w) hx e9 h16 h23
      rw [e]
      have hV2 := Rv_as (x := nI q) hV
      rw [e] at hV2
      have e2 := goO_ooA (d := q) hV2.1.2.2.1.1 hV2.1.2.2.1.2.2 hV2.2.2.2
      rw [oo_same q8] at e2
      exact ⟨by dsimp only at e2 ⊢; rw [e2], _, rfl, Rep_up hRp q8 (by decide)⟩
    · refine J_bipush (v := -5) dX0_askToLeave_26 (by decide) ?_
      refine r_int dX0_askToLeave_28 ?_
      rw [show asF s n w (nI q) = (-5, s) from by first | exact as_a hx e9 h16 | exact as_b hx e9 h16 hf h23]
      exact ch_err hRp

theorem c_X0_moveOutward {X : jX} {ad : Nat → Nat} {m B : Mem} {b : Nat} {s : Rw} {n w : Nat} {x y : Int32} (hb : isB b) (hV : Rv s n w) (hRp : Rep B s n w) : Cm X yX0_moveOutward cX0_moveOutward 4 (some .int) 1 ad [.ref b, .int x, .int y] (SB m b B) (ChFin m b (puF s n x y) n w) := by
  by_cases hx : jin x 0 (nI n - 1) = 0
  · exact c_moN hb hV hRp hx
  · obtain ⟨q, hq, rfl⟩ := jinB hV.1.1 hx
    exact c_moV hb hV hRp hq
theorem c_X0_askToLeave {X : jX} {ad : Nat → Nat} {m B : Mem} {b : Nat} {s : Rw} {n w : Nat} {x : Int32} (hb : isB b) (hV : Rv s n w) (hRp : Rep B s n w) : Cm X yX0_askToLeave cX0_askToLeave 3 (some .int) 2 ad [.ref b, .int x] (SB m b B) (ChFin m b (asF s n w x) n w) := by
  by_cases hx : jin x 0 (nI n - 1) = 0
  · exact c_asN hb hV hRp hx
  · obtain ⟨q, hq, rfl⟩ := jinB hV.1.1 hx
    exact c_asV hb hV hRp hq
