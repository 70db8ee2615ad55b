theorem Jg_fin {X : jX} {own : String} {cc : ByteArray} {nL : Nat} {ret : Option FieldType} {nm : String} {d CR SR : Nat} {ad : Nat → Nat} {cells slots pc : Nat} {lv : List (Nat × Value)} {st : List Value} {ws : va_W} {fin fin' : Option Value → Mem → Prop} (hf : ∀ v m, fin' v m → fin v m) (h : Jg X own cc nL ret nm d CR SR (QF X ad fin') ad cells slots pc lv st ws) : Jg X own cc nL ret nm d CR SR (QF X ad fin) ad cells slots pc lv st ws := by
  intro p e R s m args below meth c H locs ls hC hP hD hS hl T hT Y
  obtain ⟨t, a, o, b1, b2, ⟨⟨v, ws', c1, ⟨mem', c2, c3⟩, c4, c5⟩, c6⟩, b4⟩ := h p e R s m args below meth c H locs ls hC hP hD hS hl T hT Y
  exact ⟨t, a, o, b1, b2, ⟨⟨v, ws', c1, ⟨mem', c2, hf v mem' c3⟩, c4, c5⟩, c6⟩, b4⟩
section BESIDE
variable {X : jX} {own : String} {cc : ByteArray} {nL : Nat} {ret : Option FieldType} {nm : String} {d CR SR : Nat} {Q : List Frame → Array Value → State → State → Prop} {ad : Nat → Nat} {cells slots pc : Nat} {lv : List (Nat × Value)} {st : List Value} {m : Mem} {s : Rw}
theorem rd_maside (k : Nat) {i : Int32} (hk : k < 302) (hi : i = nI k) (hdg : decode cc pc = .ok (.iaload, 1)) (kk : Jg X own cc nL ret nm d CR SR Q ad cells slots (pc + 1) (lv) (.int (m 197 k) :: st) (WS X ad (SM m s))) : Jg X own cc nL ret nm d CR SR Q ad cells slots (pc) (lv) (.int i :: .ref 197 :: st) (WS X ad (SM m s)) := by
  subst hi
  refine al_maside hdg (nIin hk (by decide)) ?_
  rw [nI_cl (by omega), SM_ne (by decide)]
  exact kk
theorem wr_maside (k : Nat) {i x : Int32} (hk : k < 302) (hi : i = nI k) (hdg : decode cc pc = .ok (.iastore, 1)) (kk : Jg X own cc nL ret nm d CR SR Q ad cells slots (pc + 1) (lv) (st) (WS X ad (SM (up m 197 k x) s))) : Jg X own cc nL ret nm d CR SR Q ad cells slots (pc) (lv) (.int x :: .int i :: .ref 197 :: st) (WS X ad (SM m s)) := by
  subst hi
  refine as_maside hdg (nIin hk (by decide)) ?_
  rw [nI_cl (by omega), SM_up2 (by decide)]
  exact kk
theorem rd_mhist (k : Nat) {i : Int32} (hk : k < 1812) (hi : i = nI k) (hdg : decode cc pc = .ok (.iaload, 1)) (kk : Jg X own cc nL ret nm d CR SR Q ad cells slots (pc + 1) (lv) (.int (m 198 k) :: st) (WS X ad (SM m s))) : Jg X own cc nL ret nm d CR SR Q ad cells slots (pc) (lv) (.int i :: .ref 198 :: st) (WS X ad (SM m s)) := by
  subst hi
  refine al_mhist hdg (nIin hk (by decide)) ?_
  rw [nI_cl (by omega), SM_ne (by decide)]
  exact kk
theorem wr_mhist (k : Nat) {i x : Int32} (hk : k < 1812) (hi : i = nI k) (hdg : decode cc pc = .ok (.iastore, 1)) (kk : Jg X own cc nL ret nm d CR SR Q ad cells slots (pc + 1) (lv) (st) (WS X ad (SM (up m 198 k x) s))) : Jg X own cc nL ret nm d CR SR Q ad cells slots (pc) (lv) (.int x :: .int i :: .ref 198 :: st) (WS X ad (SM m s)) := by
  subst hi
  refine as_mhist hdg (nIin hk (by decide)) ?_
  rw [nI_cl (by omega), SM_up2 (by decide)]
  exact kk
theorem rd_mslots (k : Nat) {i : Int32} (hk : k < 604) (hi : i = nI k) (hdg : decode cc pc = .ok (.iaload, 1)) (kk : Jg X own cc nL ret nm d CR SR Q ad cells slots (pc + 1) (lv) (.int (m 199 k) :: st) (WS X ad (SM m s))) : Jg X own cc nL ret nm d CR SR Q ad cells slots (pc) (lv) (.int i :: .ref 199 :: st) (WS X ad (SM m s)) := by
  subst hi
  refine al_mslots hdg (nIin hk (by decide)) ?_
  rw [nI_cl (by omega), SM_ne (by decide)]
  exact kk
theorem wr_mslots (k : Nat) {i x : Int32} (hk : k < 604) (hi : i = nI k) (hdg : decode cc pc = .ok (.iastore, 1)) (kk : Jg X own cc nL ret nm d CR SR Q ad cells slots (pc + 1) (lv) (st) (WS X ad (SM (up m 199 k x) s))) : Jg X own cc nL ret nm d CR SR Q ad cells slots (pc) (lv) (.int x :: .int i :: .ref 199 :: st) (WS X ad (SM m s)) := by
  subst hi
  refine as_mslots hdg (nIin hk (by decide)) ?_
  rw [nI_cl (by omega), SM_up2 (by decide)]
  exact kk
theorem rd_mpad (k : Nat) {i : Int32} (hk : k < 80) (hi : i = nI k) (hdg : decode cc pc = .ok (.iaload, 1)) (kk : Jg X own cc nL ret nm d CR SR Q ad cells slots (pc + 1) (lv) (.int (m 200 k) :: st) (WS X ad (SM m s))) : Jg X own cc nL ret nm d CR SR Q ad cells slots (pc) (lv) (.int i :: .ref 200 :: st) (WS X ad (SM m s)) := by
  subst hi
  refine al_mpad hdg (nIin hk (by decide)) ?_
  rw [nI_cl (by omega), SM_ne (by decide)]
  exact kk
theorem wr_mpad (k : Nat) {i x : Int32} (hk : k < 80) (hi : i = nI k) (hdg : decode cc pc = .ok (.iastore, 1)) (kk : Jg X own cc nL ret nm d CR SR Q ad cells slots (pc + 1) (lv) (st) (WS X ad (SM (up m 200 k x) s))) : Jg X own cc nL ret nm d CR SR Q ad cells slots (pc) (lv) (.int x :: .int i :: .ref 200 :: st) (WS X ad (SM m s)) := by
  subst hi
  refine as_mpad hdg (nIin hk (by decide)) ?_
  rw [nI_cl (by omega), SM_up2 (by decide)]
  exact kk
end BESIDE
/-- the first N of f, then g -/
def mrg (N : Nat) (f g : Rw) : Rw := fun k => if k < N then f k else g k
theorem mrg_lt {N k : Nat} {f g : Rw} (h : k < N) : mrg N f g k = f k := if_pos h
theorem mrg_ge {N k : Nat} {f g : Rw} (h : ¬ k < N) : mrg N f g k = g k := if_neg h
theorem mrg_0 {f g : Rw} : mrg 0 f g = g := by funext k; exact if_neg (by omega)
theorem mrg_succ {i : Nat} {f g : Rw} {v : Int32} (hv : v = f i) : upd (mrg i f g) i v = mrg (i + 1) f g := by
  funext k
  rw [upd_at]
  unfold mrg
  by_cases h : k = i
  · subst h; rw [if_pos rfl, if_pos (by omega), hv]
  · rw [if_neg h]
    by_cases h2 : k < i
    · rw [if_pos h2, if_pos (by omega)]
    · rw [if_neg h2, if_neg (by omega)]
theorem upC_up {m : Mem} {c k : Nat} {F : Nat → Int32} {v : Int32} : up (upC m c F) c k v = upC m c (upd F k v) := by
  funext c'
  unfold up upC
  by_cases h : c' = c <;> simp [h]
theorem upC_self {m : Mem} {c : Nat} : upC m c (m c) = m := by
  funext c'
  unfold upC
  split
  · next h => rw [h]
  · rfl
theorem upC_at {m : Mem} {c : Nat} {F : Nat → Int32} : upC m c F c = F := if_pos rfl
/-- the aside holds the row -/
def asd (m : Mem) (s : Rw) : Mem := upC m 197 (mrg 302 s (m 197))
theorem asd_ne {m : Mem} {s : Rw} {c : Nat} (h : c ≠ 197) : asd m s c = m c := if_neg h
theorem asd_at {m : Mem} {s : Rw} {k : Nat} (h : k < 302) : asd m s 197 k = s k := by unfold asd; rw [upC_at, mrg_lt h]
set_option maxRecDepth 100000 in
set_option maxHeartbeats 4000000 in
theorem asideLoop {X : jX} {ad : Nat → Nat} {m : Mem} {s : Rw}  : ∀ (n i : Nat), i + n = 302 → Jg X RX6 cX6_putAside 2 (none) "putAside" 0 0 0 (QF X ad (fun v m9 => v = none ∧ m9 = SM (asd m s) s)) ad 0 0 2 [(0, .ref 195), (1, .int (nI i))] [] (WS X ad (SM (upC m 197 (mrg i s (m 197))) s)) := by
  intro n
  induction n with
  | zero =>
    intro i hi
    obtain rfl : i = 302 := by omega
    refine J_iload_n dX6_putAside_2 rfl rfl ?_
    refine J_sipush (v := 302) dX6_putAside_3 (by decide) ?_
    refine J_icmp_ge (tgt := 27) dX6_putAside_6 (by decide) (fun h6 => ?_) (fun h6 => absurd (nI_le1 (a := 302) (b := 302) (Nat.le_refl _) (by omega)) h6)
    refine r_void dX6_putAside_27 ?_
    exact ⟨rfl, rfl⟩
  | succ n ih =>
    intro i hi
    refine J_iload_n dX6_putAside_2 rfl rfl ?_
    refine J_sipush (v := 302) dX6_putAside_3 (by decide) ?_
    refine J_icmp_ge (tgt := 27) dX6_putAside_6 (by decide) (fun h6 => absurd h6 (nI_nle1 (a := i) (b := 302) (by omega) (by omega))) (fun h6 => ?_)
    refine J_aload_n dX6_putAside_9 rfl rfl ?_
    refine gX6_aside wf_X6_13 dX6_putAside_10 ?_
    refine J_iload_n dX6_putAside_13 rfl rfl ?_
    refine J_aload_n dX6_putAside_14 rfl rfl ?_
    refine gX6_s wf_X6_7 dX6_putAside_15 ?_
    refine J_iload_n dX6_putAside_18 rfl rfl ?_
    refine rd_s i (by omega) rfl dX6_putAside_19 ?_
    refine wr_maside i (by omega) rfl dX6_putAside_20 ?_
    refine J_iinc (v := _ + 1) dX6_putAside_21 rfl rfl rfl rfl ?_
    rw [show nI i + 1 = nI (i + 1) from (nI_succ i).symm]
    refine J_goto (tgt := 2) dX6_putAside_24 (by decide) ?_
    refine J_ws (ws' := WS X ad (SM (upC m 197 (mrg (i + 1) s (m 197))) s)) ?_ (ih (i + 1) (by omega))
    rw [upC_up, mrg_succ rfl]

set_option maxRecDepth 100000 in
set_option maxHeartbeats 4000000 in
theorem c_X6_putAside {X : jX} {ad : Nat → Nat} {m : Mem} {s : Rw}   : Cd X yX6_putAside cX6_putAside 2 (none) 0 ad [.ref 195] (SM m s) none (SM (asd m s) s) := by
  refine Cm.of (own := RX6) (nm := "putAside") (by decide +kernel) rfl rfl rfl rfl ?_
  refine J_iconst (v := 0) dX6_putAside_0 (by decide) ?_
  refine J_istore_n dX6_putAside_1 rfl rfl rfl ?_
  refine J_ws (ws' := WS X ad (SM (upC m 197 (mrg 0 s (m 197))) s)) (by rw [mrg_0, upC_self]) (asideLoop 302 0 rfl)

set_option maxRecDepth 100000 in
set_option maxHeartbeats 4000000 in
theorem backLoop {X : jX} {ad : Nat → Nat} {m : Mem} {s : Rw}  : ∀ (n i : Nat), i + n = 302 → Jg X RX6 cX6_putBack 2 (none) "putBack" 0 0 0 (QF X ad (fun v m9 => v = none ∧ m9 = SM m (mrg 302 (m 197) s))) ad 0 0 2 [(0, .ref 195), (1, .int (nI i))] [] (WS X ad (SM m (mrg i (m 197) s))) := by
  intro n
  induction n with
  | zero =>
    intro i hi
    obtain rfl : i = 302 := by omega
    refine J_iload_n dX6_putBack_2 rfl rfl ?_
    refine J_sipush (v := 302) dX6_putBack_3 (by decide) ?_
    refine J_icmp_ge (tgt := 27) dX6_putBack_6 (by decide) (fun h6 => ?_) (fun h6 => absurd (nI_le1 (a := 302) (b := 302) (Nat.le_refl _) (by omega)) h6)
    refine r_void dX6_putBack_27 ?_
    exact ⟨rfl, rfl⟩
  | succ n ih =>
    intro i hi
    refine J_iload_n dX6_putBack_2 rfl rfl ?_
    refine J_sipush (v := 302) dX6_putBack_3 (by decide) ?_
    refine J_icmp_ge (tgt := 27) dX6_putBack_6 (by decide) (fun h6 => absurd h6 (nI_nle1 (a := i) (b := 302) (by omega) (by omega))) (fun h6 => ?_)
    refine J_aload_n dX6_putBack_9 rfl rfl ?_
    refine gX6_s wf_X6_7 dX6_putBack_10 ?_
    refine J_iload_n dX6_putBack_13 rfl rfl ?_
    refine J_aload_n dX6_putBack_14 rfl rfl ?_
    refine gX6_aside wf_X6_13 dX6_putBack_15 ?_
    refine J_iload_n dX6_putBack_18 rfl rfl ?_
    refine rd_maside i (by omega) rfl dX6_putBack_19 ?_
    refine wr_s i (by omega) rfl dX6_putBack_20 ?_
    refine J_iinc (v := _ + 1) dX6_putBack_21 rfl rfl rfl rfl ?_
    rw [show nI i + 1 = nI (i + 1) from (nI_succ i).symm]
    refine J_goto (tgt := 2) dX6_putBack_24 (by decide) ?_
    refine J_ws (ws' := WS X ad (SM m (mrg (i + 1) (m 197) s))) ?_ (ih (i + 1) (by omega))
    rw [mrg_succ rfl]

set_option maxRecDepth 100000 in
set_option maxHeartbeats 4000000 in
theorem c_X6_putBack {X : jX} {ad : Nat → Nat} {m : Mem} {s : Rw}   : Cd X yX6_putBack cX6_putBack 2 (none) 0 ad [.ref 195] (SM m s) none (SM m (mrg 302 (m 197) s)) := by
  refine Cm.of (own := RX6) (nm := "putBack") (by decide +kernel) rfl rfl rfl rfl ?_
  refine J_iconst (v := 0) dX6_putBack_0 (by decide) ?_
  refine J_istore_n dX6_putBack_1 rfl rfl rfl ?_
  refine J_ws (ws' := WS X ad (SM m (mrg 0 (m 197) s))) (by rw [mrg_0]) (backLoop 302 0 rfl)

def shf (H : Rw) : Rw := fun k => H (k + 302)
/-- the first i of A at row q -/
def rwp (q i : Nat) (A H : Rw) : Rw := fun k => if 302 * q ≤ k ∧ k < 302 * q + i then A (k - 302 * q) else H k
theorem rwp_0 {q : Nat} {A H : Rw} : rwp q 0 A H = H := by funext k; exact if_neg (by omega)
theorem rwp_succ {q i : Nat} {A H : Rw} {v : Int32} (hv : v = A i) : upd (rwp q i A H) (302 * q + i) v = rwp q (i + 1) A H := by
  funext k
  rw [upd_at]
  unfold rwp
  by_cases h : k = 302 * q + i
  · subst h; rw [if_pos rfl, if_pos (by omega), hv, show 302 * q + i - 302 * q = i by omega]
  · rw [if_neg h]
    by_cases h2 : 302 * q ≤ k ∧ k < 302 * q + i
    · rw [if_pos h2, if_pos (by omega)]
    · rw [if_neg h2, if_neg (by omega)]
def hsF (q : Nat) (A H : Rw) : Rw := if q = 6 then rwp 5 302 A (mrg 1510 (shf H) H) else rwp q 302 A H
def kn1 (q : Nat) : Nat := if q = 6 then 6 else q + 1
/-- a state was recorded -/
def RecR (m m' : Mem) (q : Nat) : Prop := m' 195 3 = nI (kn1 q) ∧ m' 198 = hsF q (m 197) (m 198) ∧ (∀ c, c ≠ 195 → c ≠ 198 → m' c = m c) ∧ ∀ k, k ≠ 3 → m' 195 k = m 195 k
theorem m302 : ∀ q, q < 7 → (302 : Int32) * nI q = nI (302 * q) := by decide
set_option maxRecDepth 100000 in
set_option maxHeartbeats 4000000 in
theorem recLoop {X : jX} {ad : Nat → Nat} {m : Mem} {s : Rw} {q : Nat} (hq : m 195 3 = nI q) (hq6 : q < 6) : ∀ (n i : Nat), i + n = 302 → Jg X RX6 cX6_record 2 (none) "record" 0 0 0 (QF X ad (fun v m9 => v = none ∧ ∃ m2, m9 = SM m2 s ∧ (m2 195 3 = nI (q + 1) ∧ m2 198 = rwp q 302 (m 197) (m 198) ∧ (∀ c, c ≠ 195 → c ≠ 198 → m2 c = m c) ∧ ∀ k, k ≠ 3 → m2 195 k = m 195 k))) ad 0 0 52 [(0, .ref 195), (1, .int (nI i))] [] (WS X ad (SM (upC m 198 (rwp q i (m 197) (m 198))) s)) := by
  intro n
  induction n with
  | zero =>
    intro i hi
    obtain rfl : i = 302 := by omega
    refine J_iload_n dX6_record_52 rfl rfl ?_
    refine J_sipush (v := 302) dX6_record_53 (by decide) ?_
    refine J_icmp_ge (tgt := 86) dX6_record_56 (by decide) (fun h56 => ?_) (fun h56 => absurd (nI_le1 (a := 302) (b := 302) (Nat.le_refl _) (by omega)) h56)
    refine J_aload_n dX6_record_86 rfl rfl ?_
    refine J_dup dX6_record_87 rfl ?_
    refine gX6_known wf_X6_51 dX6_record_88 ?_
    refine J_iconst (v := 1) dX6_record_91 (by decide) ?_
    refine J_iadd dX6_record_92 ?_
    refine pX6_known wf_X6_51 dX6_record_93 ?_
    refine r_void dX6_record_96 ?_
    refine ⟨rfl, up (upC m 198 (rwp q 302 (m 197) (m 198))) 195 3 (nI (q + 1)), by rw [SM_up2 (by decide), SM_ne (by decide), upC_ne (by decide), hq, nI_succ], by rw [up_apply, if_pos ⟨rfl, rfl⟩], by rw [up_ne (by decide), upC_at], fun c h1 h2 => by rw [up_ne h1, upC_ne h2], fun k hk => by rw [up_apply, if_neg (by omega), upC_ne (by decide)]⟩
  | succ n ih =>
    intro i hi
    refine J_iload_n dX6_record_52 rfl rfl ?_
    refine J_sipush (v := 302) dX6_record_53 (by decide) ?_
    refine J_icmp_ge (tgt := 86) dX6_record_56 (by decide) (fun h56 => absurd h56 (nI_nle1 (a := i) (b := 302) (by omega) (by omega))) (fun h56 => ?_)
    refine J_aload_n dX6_record_59 rfl rfl ?_
    refine gX6_history wf_X6_16 dX6_record_60 ?_
    refine J_sipush (v := 302) dX6_record_63 (by decide) ?_
    refine J_aload_n dX6_record_66 rfl rfl ?_
    refine gX6_known wf_X6_51 dX6_record_67 ?_
    rw [SM_ne (by decide), upC_ne (by decide), hq]
    refine J_imul dX6_record_70 ?_
    refine J_iload_n dX6_record_71 rfl rfl ?_
    refine J_iadd dX6_record_72 ?_
    refine J_aload_n dX6_record_73 rfl rfl ?_
    refine gX6_aside wf_X6_13 dX6_record_74 ?_
    refine J_iload_n dX6_record_77 rfl rfl ?_
    refine rd_maside i (by omega) rfl dX6_record_78 ?_
    refine wr_mhist (302 * q + i) (by omega) (by rw [m302 q (by omega), nI_add]) dX6_record_79 ?_
    refine J_iinc (v := _ + 1) dX6_record_80 rfl rfl rfl rfl ?_
    rw [show nI i + 1 = nI (i + 1) from (nI_succ i).symm]
    refine J_goto (tgt := 52) dX6_record_83 (by decide) ?_
    refine J_ws (ws' := WS X ad (SM (upC m 198 (rwp q (i + 1) (m 197) (m 198))) s)) ?_ (ih (i + 1) (by omega))
    rw [upC_up, upC_ne (by decide), rwp_succ rfl]

set_option maxRecDepth 100000 in
set_option maxHeartbeats 4000000 in
theorem recTail {X : jX} {ad : Nat → Nat} {m : Mem} {s : Rw} {q : Nat} {x : Int32} (hq : m 195 3 = nI q) (hq6 : q < 6) : Jg X RX6 cX6_record 2 (none) "record" 0 0 0 (QF X ad (fun v m9 => v = none ∧ ∃ m2, m9 = SM m2 s ∧ (m2 195 3 = nI (q + 1) ∧ m2 198 = rwp q 302 (m 197) (m 198) ∧ (∀ c, c ≠ 195 → c ≠ 198 → m2 c = m c) ∧ ∀ k, k ≠ 3 → m2 195 k = m 195 k))) ad 0 0 50 [(0, .ref 195), (1, .int x)] [] (WS X ad (SM m s)) := by
  refine J_iconst (v := 0) dX6_record_50 (by decide) ?_
  refine J_istore_n dX6_record_51 rfl rfl rfl ?_
  refine J_ws (ws' := WS X ad (SM (upC m 198 (rwp q 0 (m 197) (m 198))) s)) (by rw [rwp_0, upC_self]) (recLoop hq hq6 302 0 rfl)

set_option maxRecDepth 100000 in
set_option maxHeartbeats 4000000 in
theorem shiftLoop {X : jX} {ad : Nat → Nat} {m : Mem} {s : Rw}  (hq : m 195 3 = nI 6) : ∀ (n i : Nat), i + n = 1510 → Jg X RX6 cX6_record 2 (none) "record" 0 0 0 (QF X ad (fun v m9 => v = none ∧ ∃ m2, m9 = SM m2 s ∧ RecR m m2 6)) ad 0 0 11 [(0, .ref 195), (1, .int (nI i))] [] (WS X ad (SM (upC m 198 (mrg i (shf (m 198)) (m 198))) s)) := by
  intro n
  induction n with
  | zero =>
    intro i hi
    obtain rfl : i = 1510 := by omega
    refine J_iload_n dX6_record_11 rfl rfl ?_
    refine J_sipush (v := 1510) dX6_record_12 (by decide) ?_
    refine J_icmp_ge (tgt := 40) dX6_record_15 (by decide) (fun h15 => ?_) (fun h15 => absurd (nI_le1 (a := 1510) (b := 1510) (Nat.le_refl _) (by omega)) h15)
    refine J_aload_n dX6_record_40 rfl rfl ?_
    refine J_dup dX6_record_41 rfl ?_
    refine gX6_known wf_X6_51 dX6_record_42 ?_
    refine J_iconst (v := 1) dX6_record_45 (by decide) ?_
    refine J_isub dX6_record_46 ?_
    refine pX6_known wf_X6_51 dX6_record_47 ?_
    refine J_ws (ws' := WS X ad (SM (up (upC m 198 (mrg 1510 (shf (m 198)) (m 198))) 195 3 (nI 5)) s)) (by rw [SM_up2 (by decide), SM_ne (by decide), upC_ne (by decide), hq]; rfl) ?_
    refine Jg_fin (fun v m9 h => ?_) (recTail (q := 5) (by rw [up_apply, if_pos ⟨rfl, rfl⟩]) (by decide))
    obtain ⟨h1, m2, h2, h3, h4, h5, h6⟩ := h
    rw [up_ne (show 198 ≠ 195 by decide), upC_at, up_ne (show 197 ≠ 195 by decide), upC_ne (show 197 ≠ 198 by decide)] at h4
    exact ⟨h1, m2, h2, h3, h4, fun c c1 c2 => by rw [h5 c c1 c2, up_ne c1, upC_ne c2], fun k hk => by rw [h6 k hk, up_apply, if_neg (by omega), upC_ne (by decide)]⟩
  | succ n ih =>
    intro i hi
    refine J_iload_n dX6_record_11 rfl rfl ?_
    refine J_sipush (v := 1510) dX6_record_12 (by decide) ?_
    refine J_icmp_ge (tgt := 40) dX6_record_15 (by decide) (fun h15 => absurd h15 (nI_nle1 (a := i) (b := 1510) (by omega) (by omega))) (fun h15 => ?_)
    refine J_aload_n dX6_record_18 rfl rfl ?_
    refine gX6_history wf_X6_16 dX6_record_19 ?_
    refine J_iload_n dX6_record_22 rfl rfl ?_
    refine J_aload_n dX6_record_23 rfl rfl ?_
    refine gX6_history wf_X6_16 dX6_record_24 ?_
    refine J_iload_n dX6_record_27 rfl rfl ?_
    refine J_sipush (v := 302) dX6_record_28 (by decide) ?_
    refine J_iadd dX6_record_31 ?_
    refine rd_mhist (i + 302) (by omega) (nI_add i 302) dX6_record_32 ?_
    refine wr_mhist i (by omega) rfl dX6_record_33 ?_
    refine J_iinc (v := _ + 1) dX6_record_34 rfl rfl rfl rfl ?_
    rw [show nI i + 1 = nI (i + 1) from (nI_succ i).symm]
    refine J_goto (tgt := 11) dX6_record_37 (by decide) ?_
    refine J_ws (ws' := WS X ad (SM (upC m 198 (mrg (i + 1) (shf (m 198)) (m 198))) s)) ?_ (ih (i + 1) (by omega))
    rw [upC_up, upC_at, mrg_succ (by rw [mrg_ge (by omega)]; rfl)]

set_option maxRecDepth 100000 in
set_option maxHeartbeats 4000000 in
theorem c_X6_record {X : jX} {ad : Nat → Nat} {m : Mem} {s : Rw} {q : Nat} (hq : m 195 3 = nI q) (hq6 : q < 7) : Cm X yX6_record cX6_record 2 (none) 0 ad [.ref 195] (SM m s) (fun v m9 => v = none ∧ ∃ m2, m9 = SM m2 s ∧ RecR m m2 q) := by
  refine Cm.of (own := RX6) (nm := "record") (by decide +kernel) rfl rfl rfl rfl ?_
  refine J_aload_n dX6_record_0 rfl rfl ?_
  refine gX6_known wf_X6_51 dX6_record_1 ?_
  refine J_topi (fun z9 hz9 => ?_)
  obtain rfl : z9 = (nI q) := hz9.trans (by rw [SM_ne (by decide)]; exact hq)
  clear hz9
  refine J_bipush (v := 6) dX6_record_4 (by decide) ?_
  refine J_icmp_ne (tgt := 50) dX6_record_6 (by decide) (fun h6 => ?_) (fun h6 => ?_)
  · refine J_iconst (v := 0) dX6_record_50 (by decide) ?_
    refine J_istore_n dX6_record_51 rfl rfl rfl ?_
    have e : ¬ q = 6 := fun h => h6 (by rw [h]; rfl)
    refine Jg_fin (fun v m9 h => ?_) (J_ws (ws' := WS X ad (SM (upC m 198 (rwp q 0 (m 197) (m 198))) s)) (by rw [rwp_0, upC_self]) (recLoop hq (by omega) 302 0 rfl))
    obtain ⟨h1, m2, h2, h3, h4, h5⟩ := h
    exact ⟨h1, m2, h2, by rw [h3, kn1, if_neg e], by rw [h4, hsF, if_neg e], h5⟩
  · refine J_iconst (v := 0) dX6_record_9 (by decide) ?_
    refine J_istore_n dX6_record_10 rfl rfl rfl ?_
    have e : q = 6 := nI_ij (by omega) (by decide) h6
    subst e
    refine J_ws (ws' := WS X ad (SM (upC m 198 (mrg 0 (shf (m 198)) (m 198))) s)) (by rw [mrg_0, upC_self]) (shiftLoop hq 1510 0 rfl)

set_option maxRecDepth 100000 in
set_option maxHeartbeats 4000000 in
theorem c_X6_changed {X : jX} {ad : Nat → Nat} {m : Mem} {s : Rw} {q : Nat} {a : Int32} (hq : m 195 3 = nI q) (hq6 : q < 7) : Cm X yX6_changed cX6_changed 2 (some .int) 1 ad [.ref 195, .int a] (SM m s) (fun v m9 => v = some (.int a) ∧ ∃ m2, m9 = SM m2 s ∧ if a < 0 then m2 = m else RecR m m2 q) := by
  refine Cm.of (own := RX6) (nm := "changed") (by decide +kernel) rfl rfl rfl rfl ?_
  refine J_iload_n dX6_changed_0 rfl rfl ?_
  refine J_if_lt (tgt := 8) dX6_changed_1 (by decide) (fun h1 => ?_) (fun h1 => ?_)
  · refine J_iload_n dX6_changed_8 rfl rfl ?_
    refine r_int dX6_changed_9 ?_
    first | exact ⟨rfl, m, rfl, by rw [if_pos h1]⟩ | exact ⟨rfl, m2, rfl, by rw [if_neg h1]; exact hr⟩
  · refine J_aload_n dX6_changed_4 rfl rfl ?_
    refine cVg wv_X6_55 (c_X6_record hq hq6) dX6_changed_5 ob6 rfl rfl (kk := (fun v m9 hf => ?_))
    obtain ⟨rfl, m2, rfl, hr⟩ := hf
    refine J_iload_n dX6_changed_8 rfl rfl ?_
    refine r_int dX6_changed_9 ?_
    first | exact ⟨rfl, m, rfl, by rw [if_pos h1]⟩ | exact ⟨rfl, m2, rfl, by rw [if_neg h1]; exact hr⟩

