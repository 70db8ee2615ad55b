theorem upd_same {s : Rw} {k : Nat} {v : Int32} : upd s k v k = v := if_pos rfl
theorem upd_fb {s : Rw} {i j k l : Nat} {v : Int32} (hk : k < 11) (hl : l < 11) : upd s (fb i k) v (fb j l) = if j = i ∧ l = k then v else s (fb j l) := by
  simp only [upd_at, fb_inj hl hk]
theorem upd_fbn {s : Rw} {i k l : Nat} {v : Int32} (h : l ≠ k) : upd s (fb i k) v (fb i l) = s (fb i l) := if_neg (by unfold fb; omega)
theorem upd_fbx {s : Rw} {i k x : Nat} {v : Int32} (hi : i < 8) (hk : k < 11) (h : 94 ≤ x ∨ x < 6) : upd s (fb i k) v x = s x := if_neg (by unfold fb; omega)
theorem upd_fbxr {s : Rw} {i k x : Nat} {v : Int32} (hi : i < 8) (hk : k < 11) (h : 94 ≤ x ∨ x < 6) : upd s x v (fb i k) = s (fb i k) := if_neg (by unfold fb; omega)
/-- moving -/
def cl24 (x : Int32) : Int32 := if x ≤ 24 then (if 0 ≤ x then x else 0) else 24
def goB (s : Rw) (i : Nat) (c : Int32) : Rw := upd (upd s (fb i 3) c) (fb i 4) (if c = 24 then 0 else if s (fb i 2) = -6 then 0 else s (fb i 4))
def goA (s : Rw) (i : Nat) (c : Int32) : Rw := if 0 ≤ s (fb i 4) then goB s i c else if c = 0 then goB (upd (upd s (fb i 2) (-6)) (fb i 5) 0) i c else goB s i c
def goF (s : Rw) (i : Nat) : Rw := goA s i (cl24 (s (fb i 3) + s (fb i 4)))
def plg (d c : Int32) : Int32 := if 14 ≤ d then (if 14 ≤ c then 0 else 1) else (if 14 ≤ c then 1 else 0)
def goP (s : Rw) (i : Nat) : Int32 := plg (s (fb i 3)) (cl24 (s (fb i 3) + s (fb i 4)))
theorem plg01 {d c : Int32} : plg d c = 0 ∨ plg d c = 1 := by unfold plg; (repeat' split) <;> first | exact Or.inl rfl | exact Or.inr rfl
set_option maxRecDepth 100000 in
set_option maxHeartbeats 4000000 in
theorem goesB {X : jX} {ad : Nat → Nat} {m : Mem} {s : Rw} {i : Nat} {d c : Int32} (hi : i < 8) : Jg X RX6 cX6_goes 4 (some .boolean) "goes" 1 0 0 (QF X ad (fun v m9 => v = some (.int (plg d c)) ∧ m9 = SM m (goB s i c))) ad 0 0 85 [(0, .ref 195), (1, .int (nI i)), (2, .int d), (3, .int c)] [] (WS X ad (SM m s)) := by
  refine J_aload_n dX6_goes_85 rfl rfl ?_
  refine gX6_s wf_X6_7 dX6_goes_86 ?_
  refine J_iload_n dX6_goes_89 rfl rfl ?_
  refine J_iconst (v := 3) dX6_goes_90 (by decide) ?_
  refine cSi ws_X6_58 (c_X6_ofBoard (i := i) (c := 3) 3 (by decide)) dX6_goes_91 (kk := ?_)
  refine J_iload_n dX6_goes_94 rfl rfl ?_
  refine wr_s (fb i 3) (fb_302 (by omega) (by decide)) rfl dX6_goes_95 ?_
  refine J_aload_n dX6_goes_96 rfl rfl ?_
  refine gX6_s wf_X6_7 dX6_goes_97 ?_
  refine J_iload_n dX6_goes_100 rfl rfl ?_
  refine J_iconst (v := 4) dX6_goes_101 (by decide) ?_
  refine cSi ws_X6_58 (c_X6_ofBoard (i := i) (c := 4) 4 (by decide)) dX6_goes_102 (kk := ?_)
  refine J_iload_n dX6_goes_105 rfl rfl ?_
  refine J_bipush (v := 24) dX6_goes_106 (by decide) ?_
  refine J_icmp_eq (tgt := 126) dX6_goes_108 (by decide) (fun h108 => ?_) (fun h108 => ?_)
  · refine J_iconst (v := 0) dX6_goes_126 (by decide) ?_
    refine J_goto (tgt := 140) dX6_goes_127 (by decide) ?_
    refine wr_s (fb i 4) (fb_302 (by omega) (by decide)) rfl dX6_goes_140 ?_
    refine J_iload_n dX6_goes_141 rfl rfl ?_
    refine J_bipush (v := 14) dX6_goes_142 (by decide) ?_
    refine J_icmp_ge (tgt := 151) dX6_goes_144 (by decide) (fun h144 => ?_) (fun h144 => ?_)
    · refine J_iconst (v := 0) dX6_goes_151 (by decide) ?_
      refine J_iload_n dX6_goes_152 rfl rfl ?_
      refine J_bipush (v := 14) dX6_goes_153 (by decide) ?_
      refine J_icmp_ge (tgt := 162) dX6_goes_155 (by decide) (fun h155 => ?_) (fun h155 => ?_)
      · refine J_iconst (v := 0) dX6_goes_162 (by decide) ?_
        refine J_icmp_eq (tgt := 170) dX6_goes_163 (by decide) (fun h163 => ?_) (fun h163 => absurd (by decide) h163)
        refine J_iconst (v := 0) dX6_goes_170 (by decide) ?_
        refine r_bool dX6_goes_171 (by first | exact Or.inl rfl | exact Or.inr rfl | exact i01 | exact jin01) ?_
        exact ⟨by simp only [plg, h144, h155, reduceIte], by first | (simp only [goB, h108, h123, reduceIte]; done) | (simp only [goB, h108, reduceIte]; done)⟩
      · refine J_iconst (v := 1) dX6_goes_158 (by decide) ?_
        refine J_goto (tgt := 163) dX6_goes_159 (by decide) ?_
        refine J_icmp_eq (tgt := 170) dX6_goes_163 (by decide) (fun h163 => absurd h163 (by decide)) (fun h163 => ?_)
        refine J_iconst (v := 1) dX6_goes_166 (by decide) ?_
        refine J_goto (tgt := 171) dX6_goes_167 (by decide) ?_
        refine r_bool dX6_goes_171 (by first | exact Or.inl rfl | exact Or.inr rfl | exact i01 | exact jin01) ?_
        exact ⟨by simp only [plg, h144, h155, reduceIte], by first | (simp only [goB, h108, h123, reduceIte]; done) | (simp only [goB, h108, reduceIte]; done)⟩
    · refine J_iconst (v := 1) dX6_goes_147 (by decide) ?_
      refine J_goto (tgt := 152) dX6_goes_148 (by decide) ?_
      refine J_iload_n dX6_goes_152 rfl rfl ?_
      refine J_bipush (v := 14) dX6_goes_153 (by decide) ?_
      refine J_icmp_ge (tgt := 162) dX6_goes_155 (by decide) (fun h155 => ?_) (fun h155 => ?_)
      · refine J_iconst (v := 0) dX6_goes_162 (by decide) ?_
        refine J_icmp_eq (tgt := 170) dX6_goes_163 (by decide) (fun h163 => absurd h163 (by decide)) (fun h163 => ?_)
        refine J_iconst (v := 1) dX6_goes_166 (by decide) ?_
        refine J_goto (tgt := 171) dX6_goes_167 (by decide) ?_
        refine r_bool dX6_goes_171 (by first | exact Or.inl rfl | exact Or.inr rfl | exact i01 | exact jin01) ?_
        exact ⟨by simp only [plg, h144, h155, reduceIte], by first | (simp only [goB, h108, h123, reduceIte]; done) | (simp only [goB, h108, reduceIte]; done)⟩
      · refine J_iconst (v := 1) dX6_goes_158 (by decide) ?_
        refine J_goto (tgt := 163) dX6_goes_159 (by decide) ?_
        refine J_icmp_eq (tgt := 170) dX6_goes_163 (by decide) (fun h163 => ?_) (fun h163 => absurd (by decide) h163)
        refine J_iconst (v := 0) dX6_goes_170 (by decide) ?_
        refine r_bool dX6_goes_171 (by first | exact Or.inl rfl | exact Or.inr rfl | exact i01 | exact jin01) ?_
        exact ⟨by simp only [plg, h144, h155, reduceIte], by first | (simp only [goB, h108, h123, reduceIte]; done) | (simp only [goB, h108, reduceIte]; done)⟩
  · refine J_aload_n dX6_goes_111 rfl rfl ?_
    refine gX6_s wf_X6_7 dX6_goes_112 ?_
    refine J_iload_n dX6_goes_115 rfl rfl ?_
    refine J_iconst (v := 2) dX6_goes_116 (by decide) ?_
    refine cSi ws_X6_58 (c_X6_ofBoard (i := i) (c := 2) 2 (by decide)) dX6_goes_117 (kk := ?_)
    refine rd_s (fb i 2) (fb_302 (by omega) (by decide)) rfl dX6_goes_120 ?_
    refine J_topi (fun z9 hz9 => ?_)
    obtain rfl : z9 = (s (fb i 2)) := hz9.trans (by exact upd_fbn (by decide))
    clear hz9
    refine J_bipush (v := -6) dX6_goes_121 (by decide) ?_
    refine J_icmp_ne (tgt := 130) dX6_goes_123 (by decide) (fun h123 => ?_) (fun h123 => ?_)
    · refine J_aload_n dX6_goes_130 rfl rfl ?_
      refine gX6_s wf_X6_7 dX6_goes_131 ?_
      refine J_iload_n dX6_goes_134 rfl rfl ?_
      refine J_iconst (v := 4) dX6_goes_135 (by decide) ?_
      refine cSi ws_X6_58 (c_X6_ofBoard (i := i) (c := 4) 4 (by decide)) dX6_goes_136 (kk := ?_)
      refine rd_s (fb i 4) (fb_302 (by omega) (by decide)) rfl dX6_goes_139 ?_
      refine J_topi (fun z9 hz9 => ?_)
      obtain rfl : z9 = (s (fb i 4)) := hz9.trans (by exact upd_fbn (by decide))
      clear hz9
      refine wr_s (fb i 4) (fb_302 (by omega) (by decide)) rfl dX6_goes_140 ?_
      refine J_iload_n dX6_goes_141 rfl rfl ?_
      refine J_bipush (v := 14) dX6_goes_142 (by decide) ?_
      refine J_icmp_ge (tgt := 151) dX6_goes_144 (by decide) (fun h144 => ?_) (fun h144 => ?_)
      · refine J_iconst (v := 0) dX6_goes_151 (by decide) ?_
        refine J_iload_n dX6_goes_152 rfl rfl ?_
        refine J_bipush (v := 14) dX6_goes_153 (by decide) ?_
        refine J_icmp_ge (tgt := 162) dX6_goes_155 (by decide) (fun h155 => ?_) (fun h155 => ?_)
        · refine J_iconst (v := 0) dX6_goes_162 (by decide) ?_
          refine J_icmp_eq (tgt := 170) dX6_goes_163 (by decide) (fun h163 => ?_) (fun h163 => absurd (by decide) h163)
          refine J_iconst (v := 0) dX6_goes_170 (by decide) ?_
          refine r_bool dX6_goes_171 (by first | exact Or.inl rfl | exact Or.inr rfl | exact i01 | exact jin01) ?_
          exact ⟨by simp only [plg, h144, h155, reduceIte], by first | (simp only [goB, h108, h123, reduceIte]; done) | (simp only [goB, h108, reduceIte]; done)⟩
        · refine J_iconst (v := 1) dX6_goes_158 (by decide) ?_
          refine J_goto (tgt := 163) dX6_goes_159 (by decide) ?_
          refine J_icmp_eq (tgt := 170) dX6_goes_163 (by decide) (fun h163 => absurd h163 (by decide)) (fun h163 => ?_)
          refine J_iconst (v := 1) dX6_goes_166 (by decide) ?_
          refine J_goto (tgt := 171) dX6_goes_167 (by decide) ?_
          refine r_bool dX6_goes_171 (by first | exact Or.inl rfl | exact Or.inr rfl | exact i01 | exact jin01) ?_
          exact ⟨by simp only [plg, h144, h155, reduceIte], by first | (simp only [goB, h108, h123, reduceIte]; done) | (simp only [goB, h108, reduceIte]; done)⟩
      · refine J_iconst (v := 1) dX6_goes_147 (by decide) ?_
        refine J_goto (tgt := 152) dX6_goes_148 (by decide) ?_
        refine J_iload_n dX6_goes_152 rfl rfl ?_
        refine J_bipush (v := 14) dX6_goes_153 (by decide) ?_
        refine J_icmp_ge (tgt := 162) dX6_goes_155 (by decide) (fun h155 => ?_) (fun h155 => ?_)
        · refine J_iconst (v := 0) dX6_goes_162 (by decide) ?_
          refine J_icmp_eq (tgt := 170) dX6_goes_163 (by decide) (fun h163 => absurd h163 (by decide)) (fun h163 => ?_)
          refine J_iconst (v := 1) dX6_goes_166 (by decide) ?_
          refine J_goto (tgt := 171) dX6_goes_167 (by decide) ?_
          refine r_bool dX6_goes_171 (by first | exact Or.inl rfl | exact Or.inr rfl | exact i01 | exact jin01) ?_
          exact ⟨by simp only [plg, h144, h155, reduceIte], by first | (simp only [goB, h108, h123, reduceIte]; done) | (simp only [goB, h108, reduceIte]; done)⟩
        · refine J_iconst (v := 1) dX6_goes_158 (by decide) ?_
          refine J_goto (tgt := 163) dX6_goes_159 (by decide) ?_
          refine J_icmp_eq (tgt := 170) dX6_goes_163 (by decide) (fun h163 => ?_) (fun h163 => absurd (by decide) h163)
          refine J_iconst (v := 0) dX6_goes_170 (by decide) ?_
          refine r_bool dX6_goes_171 (by first | exact Or.inl rfl | exact Or.inr rfl | exact i01 | exact jin01) ?_
          exact ⟨by simp only [plg, h144, h155, reduceIte], by first | (simp only [goB, h108, h123, reduceIte]; done) | (simp only [goB, h108, reduceIte]; done)⟩
    · refine J_iconst (v := 0) dX6_goes_126 (by decide) ?_
      refine J_goto (tgt := 140) dX6_goes_127 (by decide) ?_
      refine wr_s (fb i 4) (fb_302 (by omega) (by decide)) rfl dX6_goes_140 ?_
      refine J_iload_n dX6_goes_141 rfl rfl ?_
      refine J_bipush (v := 14) dX6_goes_142 (by decide) ?_
      refine J_icmp_ge (tgt := 151) dX6_goes_144 (by decide) (fun h144 => ?_) (fun h144 => ?_)
      · refine J_iconst (v := 0) dX6_goes_151 (by decide) ?_
        refine J_iload_n dX6_goes_152 rfl rfl ?_
        refine J_bipush (v := 14) dX6_goes_153 (by decide) ?_
        refine J_icmp_ge (tgt := 162) dX6_goes_155 (by decide) (fun h155 => ?_) (fun h155 => ?_)
        · refine J_iconst (v := 0) dX6_goes_162 (by decide) ?_
          refine J_icmp_eq (tgt := 170) dX6_goes_163 (by decide) (fun h163 => ?_) (fun h163 => absurd (by decide) h163)
          refine J_iconst (v := 0) dX6_goes_170 (by decide) ?_
          refine r_bool dX6_goes_171 (by first | exact Or.inl rfl | exact Or.inr rfl | exact i01 | exact jin01) ?_
          exact ⟨by simp only [plg, h144, h155, reduceIte], by first | (simp only [goB, h108, h123, reduceIte]; done) | (simp only [goB, h108, reduceIte]; done)⟩
        · refine J_iconst (v := 1) dX6_goes_158 (by decide) ?_
          refine J_goto (tgt := 163) dX6_goes_159 (by decide) ?_
          refine J_icmp_eq (tgt := 170) dX6_goes_163 (by decide) (fun h163 => absurd h163 (by decide)) (fun h163 => ?_)
          refine J_iconst (v := 1) dX6_goes_166 (by decide) ?_
          refine J_goto (tgt := 171) dX6_goes_167 (by decide) ?_
          refine r_bool dX6_goes_171 (by first | exact Or.inl rfl | exact Or.inr rfl | exact i01 | exact jin01) ?_
          exact ⟨by simp only [plg, h144, h155, reduceIte], by first | (simp only [goB, h108, h123, reduceIte]; done) | (simp only [goB, h108, reduceIte]; done)⟩
      · refine J_iconst (v := 1) dX6_goes_147 (by decide) ?_
        refine J_goto (tgt := 152) dX6_goes_148 (by decide) ?_
        refine J_iload_n dX6_goes_152 rfl rfl ?_
        refine J_bipush (v := 14) dX6_goes_153 (by decide) ?_
        refine J_icmp_ge (tgt := 162) dX6_goes_155 (by decide) (fun h155 => ?_) (fun h155 => ?_)
        · refine J_iconst (v := 0) dX6_goes_162 (by decide) ?_
          refine J_icmp_eq (tgt := 170) dX6_goes_163 (by decide) (fun h163 => absurd h163 (by decide)) (fun h163 => ?_)
          refine J_iconst (v := 1) dX6_goes_166 (by decide) ?_
          refine J_goto (tgt := 171) dX6_goes_167 (by decide) ?_
          refine r_bool dX6_goes_171 (by first | exact Or.inl rfl | exact Or.inr rfl | exact i01 | exact jin01) ?_
          exact ⟨by simp only [plg, h144, h155, reduceIte], by first | (simp only [goB, h108, h123, reduceIte]; done) | (simp only [goB, h108, reduceIte]; done)⟩
        · refine J_iconst (v := 1) dX6_goes_158 (by decide) ?_
          refine J_goto (tgt := 163) dX6_goes_159 (by decide) ?_
          refine J_icmp_eq (tgt := 170) dX6_goes_163 (by decide) (fun h163 => ?_) (fun h163 => absurd (by decide) h163)
          refine J_iconst (v := 0) dX6_goes_170 (by decide) ?_
          refine r_bool dX6_goes_171 (by first | exact Or.inl rfl | exact Or.inr rfl | exact i01 | exact jin01) ?_
          exact ⟨by simp only [plg, h144, h155, reduceIte], by first | (simp only [goB, h108, h123, reduceIte]; done) | (simp only [goB, h108, reduceIte]; done)⟩

theorem goesB2 {X : jX} {ad : Nat → Nat} {m : Mem} {s s0 : Rw} {i : Nat} {d c : Int32} (hi : i < 8) (h : goA s0 i c = goB s i c) : Jg X RX6 cX6_goes 4 (some .boolean) "goes" 1 0 0 (QF X ad (fun v m9 => v = some (.int (plg d c)) ∧ m9 = SM m (goA s0 i c))) ad 0 0 85 [(0, .ref 195), (1, .int (nI i)), (2, .int d), (3, .int c)] [] (WS X ad (SM m s)) := by
  rw [h]
  exact goesB hi
set_option maxRecDepth 100000 in
set_option maxHeartbeats 4000000 in
theorem goesA {X : jX} {ad : Nat → Nat} {m : Mem} {s : Rw} {i : Nat} {d c : Int32} (hi : i < 8) : Jg X RX6 cX6_goes 4 (some .boolean) "goes" 1 0 0 (QF X ad (fun v m9 => v = some (.int (plg d c)) ∧ m9 = SM m (goA s i c))) ad 0 0 45 [(0, .ref 195), (1, .int (nI i)), (2, .int d), (3, .int c)] [] (WS X ad (SM m s)) := by
  refine J_aload_n dX6_goes_45 rfl rfl ?_
  refine gX6_s wf_X6_7 dX6_goes_46 ?_
  refine J_iload_n dX6_goes_49 rfl rfl ?_
  refine J_iconst (v := 4) dX6_goes_50 (by decide) ?_
  refine cSi ws_X6_58 (c_X6_ofBoard (i := i) (c := 4) 4 (by decide)) dX6_goes_51 (kk := ?_)
  refine rd_s (fb i 4) (fb_302 (by omega) (by decide)) rfl dX6_goes_54 ?_
  refine J_if_ge (tgt := 85) dX6_goes_55 (by decide) (fun h55 => ?_) (fun h55 => ?_)
  · exact goesB2 hi (by first | (simp only [goA, h55, h59, reduceIte]; done) | (simp only [goA, h55, reduceIte]; done))
  · refine J_iload_n dX6_goes_58 rfl rfl ?_
    refine J_if_ne (tgt := 85) dX6_goes_59 (by decide) (fun h59 => ?_) (fun h59 => ?_)
    · exact goesB2 hi (by first | (simp only [goA, h55, h59, reduceIte]; done) | (simp only [goA, h55, reduceIte]; done))
    · refine J_aload_n dX6_goes_62 rfl rfl ?_
      refine gX6_s wf_X6_7 dX6_goes_63 ?_
      refine J_iload_n dX6_goes_66 rfl rfl ?_
      refine J_iconst (v := 2) dX6_goes_67 (by decide) ?_
      refine cSi ws_X6_58 (c_X6_ofBoard (i := i) (c := 2) 2 (by decide)) dX6_goes_68 (kk := ?_)
      refine J_bipush (v := -6) dX6_goes_71 (by decide) ?_
      refine wr_s (fb i 2) (fb_302 (by omega) (by decide)) rfl dX6_goes_73 ?_
      refine J_aload_n dX6_goes_74 rfl rfl ?_
      refine gX6_s wf_X6_7 dX6_goes_75 ?_
      refine J_iload_n dX6_goes_78 rfl rfl ?_
      refine J_iconst (v := 5) dX6_goes_79 (by decide) ?_
      refine cSi ws_X6_58 (c_X6_ofBoard (i := i) (c := 5) 5 (by decide)) dX6_goes_80 (kk := ?_)
      refine J_iconst (v := 0) dX6_goes_83 (by decide) ?_
      refine wr_s (fb i 5) (fb_302 (by omega) (by decide)) rfl dX6_goes_84 ?_
      exact goesB2 hi (by first | (simp only [goA, h55, h59, reduceIte]; done) | (simp only [goA, h55, reduceIte]; done))

theorem goesC {X : jX} {ad : Nat → Nat} {m : Mem} {s : Rw} {i : Nat} {c : Int32} (hi : i < 8) (hc : c = cl24 (s (fb i 3) + s (fb i 4))) : Jg X RX6 cX6_goes 4 (some .boolean) "goes" 1 0 0 (QF X ad (fun v m9 => v = some (.int (goP s i)) ∧ m9 = SM m (goF s i))) ad 0 0 45 [(0, .ref 195), (1, .int (nI i)), (2, .int (s (fb i 3))), (3, .int c)] [] (WS X ad (SM m s)) := by
  subst hc
  exact goesA (d := s (fb i 3)) (c := cl24 (s (fb i 3) + s (fb i 4))) hi
set_option maxRecDepth 100000 in
set_option maxHeartbeats 4000000 in
theorem c_X6_goes {X : jX} {ad : Nat → Nat} {m : Mem} {s : Rw} {i : Nat} (hi : i < 8) : Cd X yX6_goes cX6_goes 4 (some .boolean) 1 ad [.ref 195, .int (nI i)] (SM m s) (some (.int (goP s i))) (SM m (goF s i)) := by
  refine Cm.of (own := RX6) (nm := "goes") (by decide +kernel) rfl rfl rfl rfl ?_
  refine J_aload_n dX6_goes_0 rfl rfl ?_
  refine gX6_s wf_X6_7 dX6_goes_1 ?_
  refine J_iload_n dX6_goes_4 rfl rfl ?_
  refine J_iconst (v := 3) dX6_goes_5 (by decide) ?_
  refine cSi ws_X6_58 (c_X6_ofBoard (i := i) (c := 3) 3 (by decide)) dX6_goes_6 (kk := ?_)
  refine rd_s (fb i 3) (fb_302 (by omega) (by decide)) rfl dX6_goes_9 ?_
  refine J_istore_n dX6_goes_10 rfl rfl rfl ?_
  refine J_iload_n dX6_goes_11 rfl rfl ?_
  refine J_aload_n dX6_goes_12 rfl rfl ?_
  refine gX6_s wf_X6_7 dX6_goes_13 ?_
  refine J_iload_n dX6_goes_16 rfl rfl ?_
  refine J_iconst (v := 4) dX6_goes_17 (by decide) ?_
  refine cSi ws_X6_58 (c_X6_ofBoard (i := i) (c := 4) 4 (by decide)) dX6_goes_18 (kk := ?_)
  refine rd_s (fb i 4) (fb_302 (by omega) (by decide)) rfl dX6_goes_21 ?_
  refine J_iadd dX6_goes_22 ?_
  refine J_istore_n dX6_goes_23 rfl rfl rfl ?_
  refine J_iload_n dX6_goes_24 rfl rfl ?_
  refine J_bipush (v := 24) dX6_goes_25 (by decide) ?_
  refine J_icmp_le (tgt := 35) dX6_goes_27 (by decide) (fun h27 => ?_) (fun h27 => ?_)
  · refine J_iload_n dX6_goes_35 rfl rfl ?_
    refine J_if_ge (tgt := 43) dX6_goes_36 (by decide) (fun h36 => ?_) (fun h36 => ?_)
    · refine J_iload_n dX6_goes_43 rfl rfl ?_
      refine J_istore_n dX6_goes_44 rfl rfl rfl ?_
      exact goesC hi (by simp only [cl24, *, reduceIte])
    · refine J_iconst (v := 0) dX6_goes_39 (by decide) ?_
      refine J_goto (tgt := 44) dX6_goes_40 (by decide) ?_
      refine J_istore_n dX6_goes_44 rfl rfl rfl ?_
      exact goesC hi (by simp only [cl24, *, reduceIte])
  · refine J_bipush (v := 24) dX6_goes_30 (by decide) ?_
    refine J_goto (tgt := 44) dX6_goes_32 (by decide) ?_
    refine J_istore_n dX6_goes_44 rfl rfl rfl ?_
    exact goesC hi (by simp only [cl24, *, reduceIte])

def pwF (s : Rw) (n i : Nat) : Rw := if 8 ≤ s (fb i 3) then (if 100 ≤ s (fb i 5) then s else upd (upd s (fb i 5) (if s (fb i 5) + s 1 ≤ 100 then s (fb i 5) + s 1 else 100)) (fb i 5) (if dr (upd s (fb i 5) (if s (fb i 5) + s 1 ≤ 100 then s (fb i 5) + s 1 else 100)) n ≤ s 4 then (if s (fb i 5) + s 1 ≤ 100 then s (fb i 5) + s 1 else 100) else s (fb i 5))) else upd s (fb i 5) 0
set_option maxRecDepth 100000 in
set_option maxHeartbeats 4000000 in
theorem c_X6_powers {X : jX} {ad : Nat → Nat} {m : Mem} {s : Rw} {n i : Nat} (hn : s 5 = nI n) (hn8 : n ≤ 8) (hi : i < 8) : Cd X yX6_powers cX6_powers 3 (none) 2 ad [.ref 195, .int (nI i)] (SM m s) none (SM m (pwF s n i)) := by
  refine Cm.of (own := RX6) (nm := "powers") (by decide +kernel) rfl rfl rfl rfl ?_
  refine J_aload_n dX6_powers_0 rfl rfl ?_
  refine gX6_s wf_X6_7 dX6_powers_1 ?_
  refine J_iload_n dX6_powers_4 rfl rfl ?_
  refine J_iconst (v := 5) dX6_powers_5 (by decide) ?_
  refine cSi ws_X6_58 (c_X6_ofBoard (i := i) (c := 5) 5 (by decide)) dX6_powers_6 (kk := ?_)
  refine rd_s (fb i 5) (fb_302 (by omega) (by decide)) rfl dX6_powers_9 ?_
  refine J_istore_n dX6_powers_10 rfl rfl rfl ?_
  refine J_aload_n dX6_powers_11 rfl rfl ?_
  refine gX6_s wf_X6_7 dX6_powers_12 ?_
  refine J_iload_n dX6_powers_15 rfl rfl ?_
  refine J_iconst (v := 3) dX6_powers_16 (by decide) ?_
  refine cSi ws_X6_58 (c_X6_ofBoard (i := i) (c := 3) 3 (by decide)) dX6_powers_17 (kk := ?_)
  refine rd_s (fb i 3) (fb_302 (by omega) (by decide)) rfl dX6_powers_20 ?_
  refine J_bipush (v := 8) dX6_powers_21 (by decide) ?_
  refine J_icmp_ge (tgt := 40) dX6_powers_23 (by decide) (fun h23 => ?_) (fun h23 => ?_)
  · refine J_iload_n dX6_powers_40 rfl rfl ?_
    refine J_bipush (v := 100) dX6_powers_41 (by decide) ?_
    refine J_icmp_ge (tgt := 119) dX6_powers_43 (by decide) (fun h43 => ?_) (fun h43 => ?_)
    · refine r_void dX6_powers_119 ?_
      exact ⟨rfl, by simp only [pwF, upd_same, *, reduceIte]⟩
    · refine J_aload_n dX6_powers_46 rfl rfl ?_
      refine gX6_s wf_X6_7 dX6_powers_47 ?_
      refine J_iload_n dX6_powers_50 rfl rfl ?_
      refine J_iconst (v := 5) dX6_powers_51 (by decide) ?_
      refine cSi ws_X6_58 (c_X6_ofBoard (i := i) (c := 5) 5 (by decide)) dX6_powers_52 (kk := ?_)
      refine J_iload_n dX6_powers_55 rfl rfl ?_
      refine J_aload_n dX6_powers_56 rfl rfl ?_
      refine gX6_s wf_X6_7 dX6_powers_57 ?_
      refine J_iconst (v := 1) dX6_powers_60 (by decide) ?_
      refine rd_s 1 (by decide) (by decide) dX6_powers_61 ?_
      refine J_iadd dX6_powers_62 ?_
      refine J_bipush (v := 100) dX6_powers_63 (by decide) ?_
      refine J_icmp_le (tgt := 73) dX6_powers_65 (by decide) (fun h65 => ?_) (fun h65 => ?_)
      · refine J_iload_n dX6_powers_73 rfl rfl ?_
        refine J_aload_n dX6_powers_74 rfl rfl ?_
        refine gX6_s wf_X6_7 dX6_powers_75 ?_
        refine J_iconst (v := 1) dX6_powers_78 (by decide) ?_
        refine rd_s 1 (by decide) (by decide) dX6_powers_79 ?_
        refine J_iadd dX6_powers_80 ?_
        refine wr_s (fb i 5) (fb_302 (by omega) (by decide)) rfl dX6_powers_81 ?_
        refine J_aload_n dX6_powers_82 rfl rfl ?_
        refine gX6_s wf_X6_7 dX6_powers_83 ?_
        refine J_iload_n dX6_powers_86 rfl rfl ?_
        refine J_iconst (v := 5) dX6_powers_87 (by decide) ?_
        refine cSi ws_X6_58 (c_X6_ofBoard (i := i) (c := 5) 5 (by decide)) dX6_powers_88 (kk := ?_)
        refine J_aload_n dX6_powers_91 rfl rfl ?_
        refine cVi wv_X6_62 (c_X6_draw (by rw [upd_fbx hi (by decide) (by omega)]; exact hn) hn8) dX6_powers_92 ob6 rfl rfl (kk := ?_)
        refine J_aload_n dX6_powers_95 rfl rfl ?_
        refine gX6_s wf_X6_7 dX6_powers_96 ?_
        refine J_iconst (v := 4) dX6_powers_99 (by decide) ?_
        refine rd_s 4 (by decide) (by decide) dX6_powers_100 ?_
        refine J_topi (fun z9 hz9 => ?_)
        obtain rfl : z9 = (s 4) := hz9.trans (by exact upd_fbx hi (by decide) (by omega))
        clear hz9
        refine J_icmp_le (tgt := 108) dX6_powers_101 (by decide) (fun h101 => ?_) (fun h101 => ?_)
        · refine J_aload_n dX6_powers_108 rfl rfl ?_
          refine gX6_s wf_X6_7 dX6_powers_109 ?_
          refine J_iload_n dX6_powers_112 rfl rfl ?_
          refine J_iconst (v := 5) dX6_powers_113 (by decide) ?_
          refine cSi ws_X6_58 (c_X6_ofBoard (i := i) (c := 5) 5 (by decide)) dX6_powers_114 (kk := ?_)
          refine rd_s (fb i 5) (fb_302 (by omega) (by decide)) rfl dX6_powers_117 ?_
          refine wr_s (fb i 5) (fb_302 (by omega) (by decide)) rfl dX6_powers_118 ?_
          refine r_void dX6_powers_119 ?_
          exact ⟨rfl, by simp only [pwF, upd_same, *, reduceIte]⟩
        · refine J_iload_n dX6_powers_104 rfl rfl ?_
          refine J_goto (tgt := 118) dX6_powers_105 (by decide) ?_
          refine wr_s (fb i 5) (fb_302 (by omega) (by decide)) rfl dX6_powers_118 ?_
          refine r_void dX6_powers_119 ?_
          exact ⟨rfl, by simp only [pwF, upd_same, *, reduceIte]⟩
      · refine J_bipush (v := 100) dX6_powers_68 (by decide) ?_
        refine J_goto (tgt := 81) dX6_powers_70 (by decide) ?_
        refine wr_s (fb i 5) (fb_302 (by omega) (by decide)) rfl dX6_powers_81 ?_
        refine J_aload_n dX6_powers_82 rfl rfl ?_
        refine gX6_s wf_X6_7 dX6_powers_83 ?_
        refine J_iload_n dX6_powers_86 rfl rfl ?_
        refine J_iconst (v := 5) dX6_powers_87 (by decide) ?_
        refine cSi ws_X6_58 (c_X6_ofBoard (i := i) (c := 5) 5 (by decide)) dX6_powers_88 (kk := ?_)
        refine J_aload_n dX6_powers_91 rfl rfl ?_
        refine cVi wv_X6_62 (c_X6_draw (by rw [upd_fbx hi (by decide) (by omega)]; exact hn) hn8) dX6_powers_92 ob6 rfl rfl (kk := ?_)
        refine J_aload_n dX6_powers_95 rfl rfl ?_
        refine gX6_s wf_X6_7 dX6_powers_96 ?_
        refine J_iconst (v := 4) dX6_powers_99 (by decide) ?_
        refine rd_s 4 (by decide) (by decide) dX6_powers_100 ?_
        refine J_topi (fun z9 hz9 => ?_)
        obtain rfl : z9 = (s 4) := hz9.trans (by exact upd_fbx hi (by decide) (by omega))
        clear hz9
        refine J_icmp_le (tgt := 108) dX6_powers_101 (by decide) (fun h101 => ?_) (fun h101 => ?_)
        · refine J_aload_n dX6_powers_108 rfl rfl ?_
          refine gX6_s wf_X6_7 dX6_powers_109 ?_
          refine J_iload_n dX6_powers_112 rfl rfl ?_
          refine J_iconst (v := 5) dX6_powers_113 (by decide) ?_
          refine cSi ws_X6_58 (c_X6_ofBoard (i := i) (c := 5) 5 (by decide)) dX6_powers_114 (kk := ?_)
          refine rd_s (fb i 5) (fb_302 (by omega) (by decide)) rfl dX6_powers_117 ?_
          refine wr_s (fb i 5) (fb_302 (by omega) (by decide)) rfl dX6_powers_118 ?_
          refine r_void dX6_powers_119 ?_
          exact ⟨rfl, by simp only [pwF, upd_same, *, reduceIte]⟩
        · refine J_iload_n dX6_powers_104 rfl rfl ?_
          refine J_goto (tgt := 118) dX6_powers_105 (by decide) ?_
          refine wr_s (fb i 5) (fb_302 (by omega) (by decide)) rfl dX6_powers_118 ?_
          refine r_void dX6_powers_119 ?_
          exact ⟨rfl, by simp only [pwF, upd_same, *, reduceIte]⟩
  · refine J_aload_n dX6_powers_26 rfl rfl ?_
    refine gX6_s wf_X6_7 dX6_powers_27 ?_
    refine J_iload_n dX6_powers_30 rfl rfl ?_
    refine J_iconst (v := 5) dX6_powers_31 (by decide) ?_
    refine cSi ws_X6_58 (c_X6_ofBoard (i := i) (c := 5) 5 (by decide)) dX6_powers_32 (kk := ?_)
    refine J_iconst (v := 0) dX6_powers_35 (by decide) ?_
    refine wr_s (fb i 5) (fb_302 (by omega) (by decide)) rfl dX6_powers_36 ?_
    refine J_goto (tgt := 119) dX6_powers_37 (by decide) ?_
    refine r_void dX6_powers_119 ?_
    exact ⟨rfl, by simp only [pwF, upd_same, *, reduceIte]⟩

