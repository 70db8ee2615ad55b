theorem nI_ij {a b : Nat} (ha : a < 1000) (hb : b < 1000) (h : nI a = nI b) : a = b := by
  have h1 := congrArg Int32.toInt h
  rw [nI_toInt (by omega), nI_toInt (by omega)] at h1
  omega
theorem md8 : ∀ v, v < 1024 → nI v - nI v / 8 * 8 = nI (v % 8) := by decide +kernel
theorem md88 : ∀ v, v < 1024 → nI v / 8 - nI v / 8 / 8 * 8 = nI (v / 8 % 8) := by decide +kernel
theorem md64 : ∀ v, v < 1024 → nI v / 64 - nI v / 64 / 4 * 4 = nI (v / 64 % 4) := by decide +kernel
/-- a word's number with another state -/
def setSt (v t : Nat) : Nat := v % 64 + 64 * t + 256 * (v / 256)
theorem st_eq : ∀ t, t < 4 → ∀ v, v < 1024 → nI v + 64 * (nI t - nI (v / 64 % 4)) = nI (setSt v t) := by decide +kernel
def iO (v b : Nat) : Int32 := if v % 8 = b ∨ v / 8 % 8 = b then 1 else 0
def iG (v : Nat) : Int32 := if v / 64 % 4 < 2 then 1 else 0
theorem iO01 {v b : Nat} : iO v b = 0 ∨ iO v b = 1 := by unfold iO; split; exact Or.inr rfl; exact Or.inl rfl
theorem iG01 {v : Nat} : iG v = 0 ∨ iG v = 1 := by unfold iG; split; exact Or.inr rfl; exact Or.inl rfl
theorem g2 : ∀ t, t < 4 → (2 : Int32) ≤ nI t → ¬ t < 2 := by decide
theorem g2' : ∀ t, t < 4 → ¬ (2 : Int32) ≤ nI t → t < 2 := by decide
def cnt (p : Nat → Bool) : Nat → Nat
  | 0 => 0
  | k + 1 => cnt p k + (if p k then 1 else 0)
def bI (s : Rw) (x : Int32) : Nat → Int32
  | 0 => -6
  | k + 1 => if s (fb k 2) = x then nI k else bI s x k
def dr (s : Rw) : Nat → Int32
  | 0 => 0
  | k + 1 => dr s k + s (fb k 1) * s (fb k 5) / 100
def ts (s : Rw) : Nat → Int32
  | 0 => 0
  | k + 1 => ts s k + s (fb k 10)
/-- the row after a word is lost -/
def lostF (s : Rw) (k v : Nat) : Rw := upd (upd (upd s 295 (if s 295 = nI k then -6 else s 295)) (95 + k) (nI (setSt v 3))) 301 (s 301 + 1)
set_option maxRecDepth 100000 in
set_option maxHeartbeats 4000000 in
theorem c_X6_in {X : jX} {ad : Nat → Nat} {mem : Mem} {v lo hi : Int32}  : Cd X yX6_in cX6_in 3 (some .boolean) 0 ad [.int v, .int lo, .int hi] mem (some (.int (jin v lo hi))) (mem) := by
  refine Cm.of (own := RX6) (nm := "in") (by decide +kernel) rfl rfl rfl rfl ?_
  refine J_iload_n dX6_in_0 rfl rfl ?_
  refine J_iload_n dX6_in_1 rfl rfl ?_
  refine J_icmp_lt (tgt := 14) dX6_in_2 (by decide) (fun h2 => ?_) (fun h2 => ?_)
  · refine J_iconst (v := 0) dX6_in_14 (by decide) ?_
    refine r_bool dX6_in_15 (by first | exact Or.inl rfl | exact Or.inr rfl | exact i01 | exact jin01) ?_
    exact ⟨by simp only [jin, *, reduceIte], rfl⟩
  · refine J_iload_n dX6_in_5 rfl rfl ?_
    refine J_iload_n dX6_in_6 rfl rfl ?_
    refine J_icmp_gt (tgt := 14) dX6_in_7 (by decide) (fun h7 => ?_) (fun h7 => ?_)
    · refine J_iconst (v := 0) dX6_in_14 (by decide) ?_
      refine r_bool dX6_in_15 (by first | exact Or.inl rfl | exact Or.inr rfl | exact i01 | exact jin01) ?_
      exact ⟨by simp only [jin, *, reduceIte], rfl⟩
    · refine J_iconst (v := 1) dX6_in_10 (by decide) ?_
      refine J_goto (tgt := 15) dX6_in_11 (by decide) ?_
      refine r_bool dX6_in_15 (by first | exact Or.inl rfl | exact Or.inr rfl | exact i01 | exact jin01) ?_
      exact ⟨by simp only [jin, *, reduceIte], rfl⟩

set_option maxRecDepth 100000 in
set_option maxHeartbeats 4000000 in
theorem c_X6_isSlot {X : jX} {ad : Nat → Nat} {mem : Mem} {n : Int32}  : Cd X yX6_isSlot cX6_isSlot 1 (some .boolean) 1 ad [.int n] mem (some (.int (jin n 0 4))) (mem) := by
  refine Cm.of (own := RX6) (nm := "isSlot") (by decide +kernel) rfl rfl rfl rfl ?_
  refine J_iload_n dX6_isSlot_0 rfl rfl ?_
  refine J_iconst (v := 0) dX6_isSlot_1 (by decide) ?_
  refine J_iconst (v := 4) dX6_isSlot_2 (by decide) ?_
  refine cSi ws_X6_25 c_X6_in dX6_isSlot_3 (kk := ?_)
  refine r_bool dX6_isSlot_6 (by first | exact Or.inl rfl | exact Or.inr rfl | exact i01 | exact jin01) ?_
  exact ⟨rfl, rfl⟩

set_option maxRecDepth 100000 in
set_option maxHeartbeats 4000000 in
theorem c_X6_ofBoard {X : jX} {ad : Nat → Nat} {mem : Mem} {i : Nat} (k : Nat) {c : Int32} (hc : c = nI k) : Cd X yX6_ofBoard cX6_ofBoard 2 (some .int) 0 ad [.int (nI i), .int c] mem (some (.int (nI (fb i k)))) (mem) := by
  refine Cm.of (own := RX6) (nm := "ofBoard") (by decide +kernel) rfl rfl rfl rfl ?_
  refine J_bipush (v := 6) dX6_ofBoard_0 (by decide) ?_
  refine J_bipush (v := 11) dX6_ofBoard_2 (by decide) ?_
  refine J_iload_n dX6_ofBoard_4 rfl rfl ?_
  refine J_imul dX6_ofBoard_5 ?_
  refine J_iadd dX6_ofBoard_6 ?_
  refine J_iload_n dX6_ofBoard_7 rfl rfl ?_
  refine J_iadd dX6_ofBoard_8 ?_
  refine r_int dX6_ofBoard_9 ?_
  exact ⟨by rw [hc, fb_i32], rfl⟩

set_option maxRecDepth 100000 in
set_option maxHeartbeats 4000000 in
theorem c_X6_isBoard {X : jX} {ad : Nat → Nat} {m : Mem} {s : Rw} {n : Nat} {x : Int32} (hn : s 5 = nI n) : Cd X yX6_isBoard cX6_isBoard 2 (some .boolean) 1 ad [.ref 195, .int x] (SM m s) (some (.int (jin x 0 (nI n - 1)))) ((SM m s)) := by
  refine Cm.of (own := RX6) (nm := "isBoard") (by decide +kernel) rfl rfl rfl rfl ?_
  refine J_iload_n dX6_isBoard_0 rfl rfl ?_
  refine J_iconst (v := 0) dX6_isBoard_1 (by decide) ?_
  refine J_aload_n dX6_isBoard_2 rfl rfl ?_
  refine gX6_s wf_X6_7 dX6_isBoard_3 ?_
  refine J_iconst (v := 5) dX6_isBoard_6 (by decide) ?_
  refine rd_s 5 (by decide) (by decide) dX6_isBoard_7 ?_
  refine J_topi (fun z9 hz9 => ?_)
  obtain rfl : z9 = (nI n) := hz9.trans (by exact hn)
  clear hz9
  refine J_iconst (v := 1) dX6_isBoard_8 (by decide) ?_
  refine J_isub dX6_isBoard_9 ?_
  refine cSi ws_X6_25 c_X6_in dX6_isBoard_10 (kk := ?_)
  refine r_bool dX6_isBoard_13 (by first | exact Or.inl rfl | exact Or.inr rfl | exact i01 | exact jin01) ?_
  exact ⟨rfl, rfl⟩

set_option maxRecDepth 100000 in
set_option maxHeartbeats 4000000 in
theorem c_X6_fromOf {X : jX} {ad : Nat → Nat} {m : Mem} {s : Rw} {k v : Nat}  (hk : k < 200) (hv : s (95 + k) = nI v) (hv2 : v < 1024) : Cd X yX6_fromOf cX6_fromOf 2 (some .int) 0 ad [.ref 195, .int (nI k)] (SM m s) (some (.int (nI (v % 8)))) ((SM m s)) := by
  refine Cm.of (own := RX6) (nm := "fromOf") (by decide +kernel) rfl rfl rfl rfl ?_
  refine J_aload_n dX6_fromOf_0 rfl rfl ?_
  refine gX6_s wf_X6_7 dX6_fromOf_1 ?_
  refine J_bipush (v := 95) dX6_fromOf_4 (by decide) ?_
  refine J_iload_n dX6_fromOf_6 rfl rfl ?_
  refine J_iadd dX6_fromOf_7 ?_
  refine rd_s (95 + k) (by omega) wd_i32 dX6_fromOf_8 ?_
  refine J_topi (fun z9 hz9 => ?_)
  obtain rfl : z9 = (nI v) := hz9.trans (by exact hv)
  clear hz9
  refine J_bipush (v := 8) dX6_fromOf_9 (by decide) ?_
  refine J_irem dX6_fromOf_11 (by decide) ?_
  refine r_int dX6_fromOf_12 ?_
  exact ⟨by rw [md8 v hv2], rfl⟩

set_option maxRecDepth 100000 in
set_option maxHeartbeats 4000000 in
theorem c_X6_toOf {X : jX} {ad : Nat → Nat} {m : Mem} {s : Rw} {k v : Nat}  (hk : k < 200) (hv : s (95 + k) = nI v) (hv2 : v < 1024) : Cd X yX6_toOf cX6_toOf 2 (some .int) 0 ad [.ref 195, .int (nI k)] (SM m s) (some (.int (nI (v / 8 % 8)))) ((SM m s)) := by
  refine Cm.of (own := RX6) (nm := "toOf") (by decide +kernel) rfl rfl rfl rfl ?_
  refine J_aload_n dX6_toOf_0 rfl rfl ?_
  refine gX6_s wf_X6_7 dX6_toOf_1 ?_
  refine J_bipush (v := 95) dX6_toOf_4 (by decide) ?_
  refine J_iload_n dX6_toOf_6 rfl rfl ?_
  refine J_iadd dX6_toOf_7 ?_
  refine rd_s (95 + k) (by omega) wd_i32 dX6_toOf_8 ?_
  refine J_topi (fun z9 hz9 => ?_)
  obtain rfl : z9 = (nI v) := hz9.trans (by exact hv)
  clear hz9
  refine J_bipush (v := 8) dX6_toOf_9 (by decide) ?_
  refine J_idiv dX6_toOf_11 (by decide) ?_
  refine J_bipush (v := 8) dX6_toOf_12 (by decide) ?_
  refine J_irem dX6_toOf_14 (by decide) ?_
  refine r_int dX6_toOf_15 ?_
  exact ⟨by rw [md88 v hv2], rfl⟩

set_option maxRecDepth 100000 in
set_option maxHeartbeats 4000000 in
theorem c_X6_stateOf {X : jX} {ad : Nat → Nat} {m : Mem} {s : Rw} {k v : Nat}  (hk : k < 200) (hv : s (95 + k) = nI v) (hv2 : v < 1024) : Cd X yX6_stateOf cX6_stateOf 2 (some .int) 0 ad [.ref 195, .int (nI k)] (SM m s) (some (.int (nI (v / 64 % 4)))) ((SM m s)) := by
  refine Cm.of (own := RX6) (nm := "stateOf") (by decide +kernel) rfl rfl rfl rfl ?_
  refine J_aload_n dX6_stateOf_0 rfl rfl ?_
  refine gX6_s wf_X6_7 dX6_stateOf_1 ?_
  refine J_bipush (v := 95) dX6_stateOf_4 (by decide) ?_
  refine J_iload_n dX6_stateOf_6 rfl rfl ?_
  refine J_iadd dX6_stateOf_7 ?_
  refine rd_s (95 + k) (by omega) wd_i32 dX6_stateOf_8 ?_
  refine J_topi (fun z9 hz9 => ?_)
  obtain rfl : z9 = (nI v) := hz9.trans (by exact hv)
  clear hz9
  refine J_bipush (v := 64) dX6_stateOf_9 (by decide) ?_
  refine J_idiv dX6_stateOf_11 (by decide) ?_
  refine J_iconst (v := 4) dX6_stateOf_12 (by decide) ?_
  refine J_irem dX6_stateOf_13 (by decide) ?_
  refine r_int dX6_stateOf_14 ?_
  exact ⟨by rw [md64 v hv2], rfl⟩

set_option maxRecDepth 100000 in
set_option maxHeartbeats 4000000 in
theorem c_X6_becomes {X : jX} {ad : Nat → Nat} {m : Mem} {s : Rw} {k v : Nat} {t : Nat} (hk : k < 200) (hv : s (95 + k) = nI v) (hv2 : v < 1024) (ht : t < 4) : Cd X yX6_becomes cX6_becomes 3 (none) 1 ad [.ref 195, .int (nI k), .int (nI t)] (SM m s) none (SM m (upd s (95 + k) (nI (setSt v t)))) := by
  refine Cm.of (own := RX6) (nm := "becomes") (by decide +kernel) rfl rfl rfl rfl ?_
  refine J_aload_n dX6_becomes_0 rfl rfl ?_
  refine gX6_s wf_X6_7 dX6_becomes_1 ?_
  refine J_bipush (v := 95) dX6_becomes_4 (by decide) ?_
  refine J_iload_n dX6_becomes_6 rfl rfl ?_
  refine J_iadd dX6_becomes_7 ?_
  refine J_dup2 dX6_becomes_8 rfl rfl ?_
  refine rd_s (95 + k) (by omega) wd_i32 dX6_becomes_9 ?_
  refine J_topi (fun z9 hz9 => ?_)
  obtain rfl : z9 = (nI v) := hz9.trans (by exact hv)
  clear hz9
  refine J_bipush (v := 64) dX6_becomes_10 (by decide) ?_
  refine J_iload_n dX6_becomes_12 rfl rfl ?_
  refine J_aload_n dX6_becomes_13 rfl rfl ?_
  refine J_iload_n dX6_becomes_14 rfl rfl ?_
  refine cVi wv_X6_29 (c_X6_stateOf hk hv hv2) dX6_becomes_15 ob6 rfl rfl (kk := ?_)
  refine J_isub dX6_becomes_18 ?_
  refine J_imul dX6_becomes_19 ?_
  refine J_iadd dX6_becomes_20 ?_
  refine wr_s (95 + k) (by omega) wd_i32 dX6_becomes_21 ?_
  refine r_void dX6_becomes_22 ?_
  exact ⟨rfl, by rw [st_eq t ht v hv2]⟩

set_option maxRecDepth 100000 in
set_option maxHeartbeats 4000000 in
theorem c_X6_isOf {X : jX} {ad : Nat → Nat} {m : Mem} {s : Rw} {k v : Nat} {b : Nat} (hk : k < 200) (hv : s (95 + k) = nI v) (hv2 : v < 1024) (hb : b < 8) : Cd X yX6_isOf cX6_isOf 3 (some .boolean) 1 ad [.ref 195, .int (nI k), .int (nI b)] (SM m s) (some (.int (iO v b))) ((SM m s)) := by
  refine Cm.of (own := RX6) (nm := "isOf") (by decide +kernel) rfl rfl rfl rfl ?_
  refine J_aload_n dX6_isOf_0 rfl rfl ?_
  refine J_iload_n dX6_isOf_1 rfl rfl ?_
  refine cVi wv_X6_33 (c_X6_fromOf hk hv hv2) dX6_isOf_2 ob6 rfl rfl (kk := ?_)
  refine J_iload_n dX6_isOf_5 rfl rfl ?_
  refine J_icmp_eq (tgt := 18) dX6_isOf_6 (by decide) (fun h6 => ?_) (fun h6 => ?_)
  · refine J_iconst (v := 1) dX6_isOf_18 (by decide) ?_
    refine J_goto (tgt := 23) dX6_isOf_19 (by decide) ?_
    refine r_bool dX6_isOf_23 (by first | exact Or.inl rfl | exact Or.inr rfl | exact i01 | exact jin01) ?_
    first | exact ⟨by rw [iO, if_pos (Or.inl (nI_ij (by omega) (by omega) h6))], rfl⟩ | exact ⟨by rw [iO, if_pos (Or.inr (nI_ij (by omega) (by omega) h15))], rfl⟩ | exact ⟨by rw [iO, if_neg (by rintro (q | q); exact h6 (by rw [q]); exact h15 (by rw [q]))], rfl⟩
  · refine J_aload_n dX6_isOf_9 rfl rfl ?_
    refine J_iload_n dX6_isOf_10 rfl rfl ?_
    refine cVi wv_X6_36 (c_X6_toOf hk hv hv2) dX6_isOf_11 ob6 rfl rfl (kk := ?_)
    refine J_iload_n dX6_isOf_14 rfl rfl ?_
    refine J_icmp_ne (tgt := 22) dX6_isOf_15 (by decide) (fun h15 => ?_) (fun h15 => ?_)
    · refine J_iconst (v := 0) dX6_isOf_22 (by decide) ?_
      refine r_bool dX6_isOf_23 (by first | exact Or.inl rfl | exact Or.inr rfl | exact i01 | exact jin01) ?_
      first | exact ⟨by rw [iO, if_pos (Or.inl (nI_ij (by omega) (by omega) h6))], rfl⟩ | exact ⟨by rw [iO, if_pos (Or.inr (nI_ij (by omega) (by omega) h15))], rfl⟩ | exact ⟨by rw [iO, if_neg (by rintro (q | q); exact h6 (by rw [q]); exact h15 (by rw [q]))], rfl⟩
    · refine J_iconst (v := 1) dX6_isOf_18 (by decide) ?_
      refine J_goto (tgt := 23) dX6_isOf_19 (by decide) ?_
      refine r_bool dX6_isOf_23 (by first | exact Or.inl rfl | exact Or.inr rfl | exact i01 | exact jin01) ?_
      first | exact ⟨by rw [iO, if_pos (Or.inl (nI_ij (by omega) (by omega) h6))], rfl⟩ | exact ⟨by rw [iO, if_pos (Or.inr (nI_ij (by omega) (by omega) h15))], rfl⟩ | exact ⟨by rw [iO, if_neg (by rintro (q | q); exact h6 (by rw [q]); exact h15 (by rw [q]))], rfl⟩

set_option maxRecDepth 100000 in
set_option maxHeartbeats 4000000 in
theorem c_X6_isGoing {X : jX} {ad : Nat → Nat} {m : Mem} {s : Rw} {k v : Nat}  (hk : k < 200) (hv : s (95 + k) = nI v) (hv2 : v < 1024) : Cd X yX6_isGoing cX6_isGoing 2 (some .boolean) 1 ad [.ref 195, .int (nI k)] (SM m s) (some (.int (iG v))) ((SM m s)) := by
  refine Cm.of (own := RX6) (nm := "isGoing") (by decide +kernel) rfl rfl rfl rfl ?_
  refine J_aload_n dX6_isGoing_0 rfl rfl ?_
  refine J_iload_n dX6_isGoing_1 rfl rfl ?_
  refine cVi wv_X6_29 (c_X6_stateOf hk hv hv2) dX6_isGoing_2 ob6 rfl rfl (kk := ?_)
  refine J_iconst (v := 2) dX6_isGoing_5 (by decide) ?_
  refine J_icmp_ge (tgt := 13) dX6_isGoing_6 (by decide) (fun h6 => ?_) (fun h6 => ?_)
  · refine J_iconst (v := 0) dX6_isGoing_13 (by decide) ?_
    refine r_bool dX6_isGoing_14 (by first | exact Or.inl rfl | exact Or.inr rfl | exact i01 | exact jin01) ?_
    first | exact ⟨by rw [iG, if_neg (g2 _ (by omega) h6)], rfl⟩ | exact ⟨by rw [iG, if_pos (g2' _ (by omega) h6)], rfl⟩
  · refine J_iconst (v := 1) dX6_isGoing_9 (by decide) ?_
    refine J_goto (tgt := 14) dX6_isGoing_10 (by decide) ?_
    refine r_bool dX6_isGoing_14 (by first | exact Or.inl rfl | exact Or.inr rfl | exact i01 | exact jin01) ?_
    first | exact ⟨by rw [iG, if_neg (g2 _ (by omega) h6)], rfl⟩ | exact ⟨by rw [iG, if_pos (g2' _ (by omega) h6)], rfl⟩

set_option maxRecDepth 100000 in
set_option maxHeartbeats 4000000 in
theorem c_X6_isLost {X : jX} {ad : Nat → Nat} {m : Mem} {s : Rw} {k v : Nat}  (hk : k < 200) (hv : s (95 + k) = nI v) (hv2 : v < 1024) : Cd X yX6_isLost cX6_isLost 2 (none) 2 ad [.ref 195, .int (nI k)] (SM m s) none (SM m (lostF s k v)) := by
  refine Cm.of (own := RX6) (nm := "isLost") (by decide +kernel) rfl rfl rfl rfl ?_
  refine J_aload_n dX6_isLost_0 rfl rfl ?_
  refine gX6_s wf_X6_7 dX6_isLost_1 ?_
  refine J_sipush (v := 295) dX6_isLost_4 (by decide) ?_
  refine J_aload_n dX6_isLost_7 rfl rfl ?_
  refine gX6_s wf_X6_7 dX6_isLost_8 ?_
  refine J_sipush (v := 295) dX6_isLost_11 (by decide) ?_
  refine rd_s 295 (by decide) (by decide) dX6_isLost_14 ?_
  refine J_iload_n dX6_isLost_15 rfl rfl ?_
  refine J_icmp_ne (tgt := 24) dX6_isLost_16 (by decide) (fun h16 => ?_) (fun h16 => ?_)
  · refine J_aload_n dX6_isLost_24 rfl rfl ?_
    refine gX6_s wf_X6_7 dX6_isLost_25 ?_
    refine J_sipush (v := 295) dX6_isLost_28 (by decide) ?_
    refine rd_s 295 (by decide) (by decide) dX6_isLost_31 ?_
    refine wr_s 295 (by decide) (by decide) dX6_isLost_32 ?_
    refine J_aload_n dX6_isLost_33 rfl rfl ?_
    refine J_iload_n dX6_isLost_34 rfl rfl ?_
    refine J_iconst (v := 3) dX6_isLost_35 (by decide) ?_
    refine cVv wv_X6_39 (c_X6_becomes (t := 3) hk (by rw [upd_at, if_neg (by omega)]; exact hv) hv2 (by decide)) dX6_isLost_36 ob6 rfl rfl (kk := ?_)
    refine J_aload_n dX6_isLost_39 rfl rfl ?_
    refine gX6_s wf_X6_7 dX6_isLost_40 ?_
    refine J_sipush (v := 301) dX6_isLost_43 (by decide) ?_
    refine J_dup2 dX6_isLost_46 rfl rfl ?_
    refine rd_s 301 (by decide) (by decide) dX6_isLost_47 ?_
    refine J_topi (fun z9 hz9 => ?_)
    obtain rfl : z9 = (s 301) := hz9.trans (by rw [upd_at, if_neg (by omega), upd_at, if_neg (by decide)])
    clear hz9
    refine J_iconst (v := 1) dX6_isLost_48 (by decide) ?_
    refine J_iadd dX6_isLost_49 ?_
    refine wr_s 301 (by decide) (by decide) dX6_isLost_50 ?_
    refine r_void dX6_isLost_51 ?_
    exact ⟨rfl, by simp only [lostF, *, reduceIte]⟩
  · refine J_bipush (v := -6) dX6_isLost_19 (by decide) ?_
    refine J_goto (tgt := 32) dX6_isLost_21 (by decide) ?_
    refine wr_s 295 (by decide) (by decide) dX6_isLost_32 ?_
    refine J_aload_n dX6_isLost_33 rfl rfl ?_
    refine J_iload_n dX6_isLost_34 rfl rfl ?_
    refine J_iconst (v := 3) dX6_isLost_35 (by decide) ?_
    refine cVv wv_X6_39 (c_X6_becomes (t := 3) hk (by rw [upd_at, if_neg (by omega)]; exact hv) hv2 (by decide)) dX6_isLost_36 ob6 rfl rfl (kk := ?_)
    refine J_aload_n dX6_isLost_39 rfl rfl ?_
    refine gX6_s wf_X6_7 dX6_isLost_40 ?_
    refine J_sipush (v := 301) dX6_isLost_43 (by decide) ?_
    refine J_dup2 dX6_isLost_46 rfl rfl ?_
    refine rd_s 301 (by decide) (by decide) dX6_isLost_47 ?_
    refine J_topi (fun z9 hz9 => ?_)
    obtain rfl : z9 = (s 301) := hz9.trans (by rw [upd_at, if_neg (by omega), upd_at, if_neg (by decide)])
    clear hz9
    refine J_iconst (v := 1) dX6_isLost_48 (by decide) ?_
    refine J_iadd dX6_isLost_49 ?_
    refine wr_s 301 (by decide) (by decide) dX6_isLost_50 ?_
    refine r_void dX6_isLost_51 ?_
    exact ⟨rfl, by simp only [lostF, *, reduceIte]⟩

set_option maxRecDepth 100000 in
set_option maxHeartbeats 4000000 in
theorem boardLoop {X : jX} {ad : Nat → Nat} {m : Mem} {s : Rw} {n : Nat} {x : Int32} (hn : s 5 = nI n) (hn8 : n ≤ 8) : ∀ (j i : Nat) (a : Int32), i + j = n → a = bI s x i → Jg X RX6 cX6_boardIn 4 (some .int) "boardIn" 1 0 0 (QF X ad (fun v m9 => v = some (.int (bI s x n)) ∧ m9 = (SM m s))) ad 0 0 5 [(0, .ref 195), (1, .int x), (2, .int a), (3, .int (nI i))] [] (WS X ad (SM m s)) := by
  intro j
  induction j with
  | zero =>
    intro i a hi ha
    obtain rfl : i = n := by omega
    refine J_iload_n dX6_boardIn_5 rfl rfl ?_
    refine J_aload_n dX6_boardIn_6 rfl rfl ?_
    refine gX6_s wf_X6_7 dX6_boardIn_7 ?_
    refine J_iconst (v := 5) dX6_boardIn_10 (by decide) ?_
    refine rd_s 5 (by decide) (by decide) dX6_boardIn_11 ?_
    refine J_topi (fun z9 hz9 => ?_)
    obtain rfl : z9 = (nI i) := hz9.trans (by exact hn)
    clear hz9
    refine J_icmp_ge (tgt := 41) dX6_boardIn_12 (by decide) (fun h12 => ?_) (fun h12 => absurd (nI_le1 (Nat.le_refl _) (by omega)) h12)
    refine J_iload_n dX6_boardIn_41 rfl rfl ?_
    refine r_int dX6_boardIn_42 ?_
    exact ⟨by rw [ha], rfl⟩
  | succ j ih =>
    intro i a hi ha
    refine J_iload_n dX6_boardIn_5 rfl rfl ?_
    refine J_aload_n dX6_boardIn_6 rfl rfl ?_
    refine gX6_s wf_X6_7 dX6_boardIn_7 ?_
    refine J_iconst (v := 5) dX6_boardIn_10 (by decide) ?_
    refine rd_s 5 (by decide) (by decide) dX6_boardIn_11 ?_
    refine J_topi (fun z9 hz9 => ?_)
    obtain rfl : z9 = (nI n) := hz9.trans (by exact hn)
    clear hz9
    refine J_icmp_ge (tgt := 41) dX6_boardIn_12 (by decide) (fun h12 => absurd h12 (nI_nle1 (by omega) (by omega))) (fun h12 => ?_)
    refine J_aload_n dX6_boardIn_15 rfl rfl ?_
    refine gX6_s wf_X6_7 dX6_boardIn_16 ?_
    refine J_iload_n dX6_boardIn_19 rfl rfl ?_
    refine J_iconst (v := 2) dX6_boardIn_20 (by decide) ?_
    refine cSi ws_X6_58 (c_X6_ofBoard (i := i) (c := 2) 2 (by decide)) dX6_boardIn_21 (kk := ?_)
    refine rd_s (fb i 2) (fb_302 (by omega) (by decide)) rfl dX6_boardIn_24 ?_
    refine J_iload_n dX6_boardIn_25 rfl rfl ?_
    refine J_icmp_ne (tgt := 33) dX6_boardIn_26 (by decide) (fun h26 => ?_) (fun h26 => ?_)
    · refine J_iload_n dX6_boardIn_33 rfl rfl ?_
      refine J_istore_n dX6_boardIn_34 rfl rfl rfl ?_
      refine J_iinc (v := _ + 1) dX6_boardIn_35 rfl rfl rfl rfl ?_
      rw [show nI i + 1 = nI (i + 1) from (nI_succ i).symm]
      refine J_goto (tgt := 5) dX6_boardIn_38 (by decide) ?_
      exact ih (i + 1) _ (by omega) (by simp only [bI, *, reduceIte])
    · refine J_iload_n dX6_boardIn_29 rfl rfl ?_
      refine J_goto (tgt := 34) dX6_boardIn_30 (by decide) ?_
      refine J_istore_n dX6_boardIn_34 rfl rfl rfl ?_
      refine J_iinc (v := _ + 1) dX6_boardIn_35 rfl rfl rfl rfl ?_
      rw [show nI i + 1 = nI (i + 1) from (nI_succ i).symm]
      refine J_goto (tgt := 5) dX6_boardIn_38 (by decide) ?_
      exact ih (i + 1) _ (by omega) (by simp only [bI, *, reduceIte])

set_option maxRecDepth 100000 in
set_option maxHeartbeats 4000000 in
theorem c_X6_boardIn {X : jX} {ad : Nat → Nat} {m : Mem} {s : Rw} {n : Nat} {x : Int32} (hn : s 5 = nI n) (hn8 : n ≤ 8) : Cd X yX6_boardIn cX6_boardIn 4 (some .int) 1 ad [.ref 195, .int x] (SM m s) (some (.int (bI s x n))) ((SM m s)) := by
  refine Cm.of (own := RX6) (nm := "boardIn") (by decide +kernel) rfl rfl rfl rfl ?_
  refine J_bipush (v := -6) dX6_boardIn_0 (by decide) ?_
  refine J_istore_n dX6_boardIn_2 rfl rfl rfl ?_
  refine J_iconst (v := 0) dX6_boardIn_3 (by decide) ?_
  refine J_istore_n dX6_boardIn_4 rfl rfl rfl ?_
  exact boardLoop hn hn8 n 0 _ (by omega) rfl

set_option maxRecDepth 100000 in
set_option maxHeartbeats 4000000 in
theorem drawLoop {X : jX} {ad : Nat → Nat} {m : Mem} {s : Rw} {n : Nat} (hn : s 5 = nI n) (hn8 : n ≤ 8) : ∀ (j i : Nat) (a : Int32), i + j = n → a = dr s i → Jg X RX6 cX6_draw 3 (some .int) "draw" 1 0 0 (QF X ad (fun v m9 => v = some (.int (dr s n)) ∧ m9 = (SM m s))) ad 0 0 4 [(0, .ref 195), (1, .int a), (2, .int (nI i))] [] (WS X ad (SM m s)) := by
  intro j
  induction j with
  | zero =>
    intro i a hi ha
    obtain rfl : i = n := by omega
    refine J_iload_n dX6_draw_4 rfl rfl ?_
    refine J_aload_n dX6_draw_5 rfl rfl ?_
    refine gX6_s wf_X6_7 dX6_draw_6 ?_
    refine J_iconst (v := 5) dX6_draw_9 (by decide) ?_
    refine rd_s 5 (by decide) (by decide) dX6_draw_10 ?_
    refine J_topi (fun z9 hz9 => ?_)
    obtain rfl : z9 = (nI i) := hz9.trans (by exact hn)
    clear hz9
    refine J_icmp_ge (tgt := 47) dX6_draw_11 (by decide) (fun h11 => ?_) (fun h11 => absurd (nI_le1 (Nat.le_refl _) (by omega)) h11)
    refine J_iload_n dX6_draw_47 rfl rfl ?_
    refine r_int dX6_draw_48 ?_
    exact ⟨by rw [ha], rfl⟩
  | succ j ih =>
    intro i a hi ha
    refine J_iload_n dX6_draw_4 rfl rfl ?_
    refine J_aload_n dX6_draw_5 rfl rfl ?_
    refine gX6_s wf_X6_7 dX6_draw_6 ?_
    refine J_iconst (v := 5) dX6_draw_9 (by decide) ?_
    refine rd_s 5 (by decide) (by decide) dX6_draw_10 ?_
    refine J_topi (fun z9 hz9 => ?_)
    obtain rfl : z9 = (nI n) := hz9.trans (by exact hn)
    clear hz9
    refine J_icmp_ge (tgt := 47) dX6_draw_11 (by decide) (fun h11 => absurd h11 (nI_nle1 (by omega) (by omega))) (fun h11 => ?_)
    refine J_iload_n dX6_draw_14 rfl rfl ?_
    refine J_aload_n dX6_draw_15 rfl rfl ?_
    refine gX6_s wf_X6_7 dX6_draw_16 ?_
    refine J_iload_n dX6_draw_19 rfl rfl ?_
    refine J_iconst (v := 1) dX6_draw_20 (by decide) ?_
    refine cSi ws_X6_58 (c_X6_ofBoard (i := i) (c := 1) 1 (by decide)) dX6_draw_21 (kk := ?_)
    refine rd_s (fb i 1) (fb_302 (by omega) (by decide)) rfl dX6_draw_24 ?_
    refine J_aload_n dX6_draw_25 rfl rfl ?_
    refine gX6_s wf_X6_7 dX6_draw_26 ?_
    refine J_iload_n dX6_draw_29 rfl rfl ?_
    refine J_iconst (v := 5) dX6_draw_30 (by decide) ?_
    refine cSi ws_X6_58 (c_X6_ofBoard (i := i) (c := 5) 5 (by decide)) dX6_draw_31 (kk := ?_)
    refine rd_s (fb i 5) (fb_302 (by omega) (by decide)) rfl dX6_draw_34 ?_
    refine J_imul dX6_draw_35 ?_
    refine J_bipush (v := 100) dX6_draw_36 (by decide) ?_
    refine J_idiv dX6_draw_38 (by decide) ?_
    refine J_iadd dX6_draw_39 ?_
    refine J_istore_n dX6_draw_40 rfl rfl rfl ?_
    refine J_iinc (v := _ + 1) dX6_draw_41 rfl rfl rfl rfl ?_
    rw [show nI i + 1 = nI (i + 1) from (nI_succ i).symm]
    refine J_goto (tgt := 4) dX6_draw_44 (by decide) ?_
    exact ih (i + 1) _ (by omega) (by simp only [dr, *, reduceIte])

set_option maxRecDepth 100000 in
set_option maxHeartbeats 4000000 in
theorem c_X6_draw {X : jX} {ad : Nat → Nat} {m : Mem} {s : Rw} {n : Nat} (hn : s 5 = nI n) (hn8 : n ≤ 8) : Cd X yX6_draw cX6_draw 3 (some .int) 1 ad [.ref 195] (SM m s) (some (.int (dr s n))) ((SM m s)) := by
  refine Cm.of (own := RX6) (nm := "draw") (by decide +kernel) rfl rfl rfl rfl ?_
  refine J_iconst (v := 0) dX6_draw_0 (by decide) ?_
  refine J_istore_n dX6_draw_1 rfl rfl rfl ?_
  refine J_iconst (v := 0) dX6_draw_2 (by decide) ?_
  refine J_istore_n dX6_draw_3 rfl rfl rfl ?_
  exact drawLoop hn hn8 n 0 _ (by omega) rfl

