theorem jin_lt {x : Int32} {w : Nat} (hw : w ≤ 200) (h : ¬ jin x 0 (nI w - 1) = 0) : x.toNatClampNeg < w := by
  cases w with
  | zero =>
    exfalso
    apply h
    unfold jin
    by_cases h0 : x < 0
    · rw [if_pos h0]
    · rw [if_neg h0, if_pos]
      rw [Int32.lt_iff_toInt_lt] at h0 ⊢
      have e : ((nI 0 : Int32) - 1).toInt = -1 := by decide
      have e2 : (0 : Int32).toInt = 0 := rfl
      omega
  | succ w =>
    rw [nI_pred] at h
    obtain ⟨k, hk, rfl⟩ := jin_nat (n := w) (by decide) (nI_toInt (by omega)) h
    rw [nI_cl (by omega)]
    omega
theorem nI_256 : ∀ v, v < 1024 → nI (v / 256) = nI v / 256 := by decide +kernel
theorem ab_wd {B : Mem} {s : Rw} {w k y : Nat} (hW : RpW B s w) (hO : OkW s w) (hk : k < w) (hy : y ≤ 4) : abA B k y = wdA s k y := by
  obtain ⟨-, hr, -, h7, h8, -⟩ := hW
  obtain ⟨r1, r2, r3, r4⟩ := hr k hk
  obtain ⟨hw, -, hv⟩ := hO
  match y, hy with
  | 0, _ => exact r1
  | 1, _ => exact r2
  | 2, _ => exact r3
  | 3, _ => exact r4.trans (nI_256 _ (hv k hk).2)
  | 4, _ =>
    show (if nI k = B 11 7 then B 11 8 else 0) = (if s 295 = nI k then s 296 else 0)
    rw [h7]
    by_cases e : s 295 = nI k
    · rw [if_pos e.symm, if_pos e]
      rcases h8 with g | g
      · exact absurd (e.symm.trans g) ((show ∀ k, k < 200 → ¬ nI k = -6 by decide +kernel) k (by omega))
      · exact g
    · rw [if_neg (fun g => e g.symm), if_neg e]
  | y + 5, h => exact absurd h (by omega)
theorem ab_wo {B : Mem} {s : Rw} {n w : Nat} {x y : Int32} (hR : Rep B s n w) (hV : Rv s n w) : (if jin x 0 (nI w - 1) = 0 then -1 else if y.toInt < 0 ∨ 4 < y.toInt then -2 else abA B x.toNatClampNeg y.toNatClampNeg) = woA s w x y := by
  have hO := hV.1.2.2.1.1
  have hw := hO.1
  unfold woA
  by_cases h1 : jin x 0 (nI w - 1) = 0
  · rw [if_pos h1, if_pos h1]
  · rw [if_neg h1, if_neg h1]
    by_cases h2 : y.toInt < 0 ∨ 4 < y.toInt
    · rw [if_pos h2, if_pos h2]
    · rw [if_neg h2, if_neg h2]
      have hk := jin_lt hw h1
      exact ab_wd hR.2.1 hO hk (by have h3 : y.toNatClampNeg = y.toInt.toNat := rfl; omega)
set_option maxRecDepth 100000 in
set_option maxHeartbeats 4000000 in
theorem c_X5_of {X : jX} {ad : Nat → Nat} {mem : Mem} {s : Rw} {o q L : Nat} {rows srows : Nat → Rw} {P : Nat → Int32} {x y : Int32} (hC : CSt mem s o q rows srows P L) : Cd X yX5_of cX5_of 3 (some .int) 2 ad [.ref 0, .int x, .int y] mem (some (.int (ofA s (nOf s) x y))) (mem) := by
  refine Cm.of (own := RX5) (nm := "of") (by decide +kernel) rfl rfl rfl rfl ?_
  obtain ⟨hR, hV⟩ := Sh2_n hC.1
  have hn8 := hV.1.1
  refine J_aload_n dX5_of_0 rfl rfl ?_
  refine gX5_backplane wf_X5_10 dX5_of_1 ?_
  refine J_iload_n dX5_of_4 rfl rfl ?_
  refine J_iload_n dX5_of_5 rfl rfl ?_
  rw [ws_self]
  refine cVi wv_X5_72 (c_X0_aboutBoard isB1 hV hR) dX5_of_6 (ob0 (by first | assumption | exact isB1 | exact isB18)) rfl rfl (kk := ?_)
  refine r_int dX5_of_9 ?_
  exact ⟨rfl, SB_self⟩

set_option maxRecDepth 100000 in
set_option maxHeartbeats 4000000 in
theorem c_X5_why {X : jX} {ad : Nat → Nat} {mem : Mem} {s : Rw} {o q L : Nat} {rows srows : Nat → Rw} {P : Nat → Int32} {x y : Int32} (hC : CSt mem s o q rows srows P L) : Cd X yX5_why cX5_why 3 (some .int) 2 ad [.ref 0, .int x, .int y] mem (some (.int (whA s (nOf s) x y))) (mem) := by
  refine Cm.of (own := RX5) (nm := "why") (by decide +kernel) rfl rfl rfl rfl ?_
  obtain ⟨hR, hV⟩ := Sh2_n hC.1
  have hn8 := hV.1.1
  refine J_aload_n dX5_why_0 rfl rfl ?_
  refine gX5_backplane wf_X5_10 dX5_why_1 ?_
  refine J_iload_n dX5_why_4 rfl rfl ?_
  refine J_iload_n dX5_why_5 rfl rfl ?_
  rw [ws_self]
  refine cVi wv_X5_153 (c_X0_whyNot isB1 hV hR) dX5_why_6 (ob0 (by first | assumption | exact isB1 | exact isB18)) rfl rfl (kk := ?_)
  refine r_int dX5_why_9 ?_
  exact ⟨rfl, SB_self⟩

set_option maxRecDepth 100000 in
set_option maxHeartbeats 4000000 in
theorem c_X5_known {X : jX} {ad : Nat → Nat} {mem : Mem} {s : Rw} {o q L : Nat} {rows srows : Nat → Rw} {P : Nat → Int32} {x : Int32} (hC : CSt mem s o q rows srows P L) : Cd X yX5_known cX5_known 2 (some .int) 1 ad [.ref 0, .int x] mem (some (.int (knA s (nOf s) x))) (mem) := by
  refine Cm.of (own := RX5) (nm := "known") (by decide +kernel) rfl rfl rfl rfl ?_
  obtain ⟨hR, hV⟩ := Sh2_n hC.1
  have hn8 := hV.1.1
  refine J_iload_n dX5_known_0 rfl rfl ?_
  refine J_iconst (v := 0) dX5_known_1 (by decide) ?_
  refine J_bipush (v := 99) dX5_known_2 (by decide) ?_
  refine cSi ws_X5_146 c_X5_isIn dX5_known_4 (kk := ?_)
  refine J_if_eq (tgt := 21) dX5_known_7 (by decide) (fun h7 => ?_) (fun h7 => ?_)
  · refine J_bipush (v := -2) dX5_known_21 (by decide) ?_
    refine r_int dX5_known_23 ?_
    first | exact ⟨by unfold knA; rw [if_pos h7], rfl⟩ | exact ⟨by unfold knA; rw [if_neg h7], SB_self⟩
  · refine J_aload_n dX5_known_10 rfl rfl ?_
    refine gX5_backplane wf_X5_10 dX5_known_11 ?_
    refine J_iload_n dX5_known_14 rfl rfl ?_
    rw [ws_self]
    refine cVi wv_X5_150 (c_X0_knownWithCode isB1 hR.1 hn8 hV.2.1) dX5_known_15 (ob0 (by first | assumption | exact isB1 | exact isB18)) rfl rfl (kk := ?_)
    refine J_goto (tgt := 23) dX5_known_18 (by decide) ?_
    refine r_int dX5_known_23 ?_
    first | exact ⟨by unfold knA; rw [if_pos h7], rfl⟩ | exact ⟨by unfold knA; rw [if_neg h7], SB_self⟩

set_option maxRecDepth 100000 in
set_option maxHeartbeats 4000000 in
theorem c_X5_slot {X : jX} {ad : Nat → Nat} {mem : Mem} {s : Rw} {o q L : Nat} {rows srows : Nat → Rw} {P : Nat → Int32} {x : Int32} (hC : CSt mem s o q rows srows P L) : Cd X yX5_slot cX5_slot 2 (some .int) 2 ad [.ref 0, .int x] mem (some (.int (slA s (nOf s) x))) (mem) := by
  refine Cm.of (own := RX5) (nm := "slot") (by decide +kernel) rfl rfl rfl rfl ?_
  obtain ⟨hR, hV⟩ := Sh2_n hC.1
  have hn8 := hV.1.1
  refine J_iload_n dX5_slot_0 rfl rfl ?_
  refine cSi ws_X5_75 c_X5_isSlot dX5_slot_1 (kk := ?_)
  refine J_if_eq (tgt := 18) dX5_slot_4 (by decide) (fun h4 => ?_) (fun h4 => ?_)
  · refine J_iconst (v := -1) dX5_slot_18 (by decide) ?_
    refine r_int dX5_slot_19 ?_
    first | exact ⟨by unfold slA; rw [if_pos h4], rfl⟩ | exact ⟨by unfold slA; rw [if_neg h4c], SB_self⟩
  · have h4c := h4
    obtain ⟨k, hk, rfl⟩ := jin_nat (n := 4) (by decide) rfl h4
    refine J_aload_n dX5_slot_7 rfl rfl ?_
    refine gX5_backplane wf_X5_10 dX5_slot_8 ?_
    refine J_iload_n dX5_slot_11 rfl rfl ?_
    rw [ws_self]
    refine cVi wv_X5_79 (c_X0_boardIn isB1 hR.1 hn8 hV.1.2.2.2.1.2 (q := k) (by omega)) dX5_slot_12 (ob0 (by first | assumption | exact isB1 | exact isB18)) rfl rfl (kk := ?_)
    refine J_goto (tgt := 19) dX5_slot_15 (by decide) ?_
    refine r_int dX5_slot_19 ?_
    first | exact ⟨by unfold slA; rw [if_pos h4], rfl⟩ | exact ⟨by unfold slA; rw [if_neg h4c], SB_self⟩

set_option maxRecDepth 100000 in
set_option maxHeartbeats 4000000 in
theorem c_X5_word {X : jX} {ad : Nat → Nat} {mem : Mem} {s : Rw} {o q L : Nat} {rows srows : Nat → Rw} {P : Nat → Int32} {x y : Int32} (hC : CSt mem s o q rows srows P L) : Cd X yX5_word cX5_word 3 (some .int) 2 ad [.ref 0, .int x, .int y] mem (some (.int (woA s (wOf s) x y))) (mem) := by
  refine Cm.of (own := RX5) (nm := "word") (by decide +kernel) rfl rfl rfl rfl ?_
  obtain ⟨hR, hV⟩ := Sh2_n hC.1
  have hn8 := hV.1.1
  refine J_aload_n dX5_word_0 rfl rfl ?_
  refine gX5_backplane wf_X5_10 dX5_word_1 ?_
  refine gX0_bus (by first | assumption | exact isB1 | exact isB18) wf_X5_82 dX5_word_4 ?_
  refine J_iload_n dX5_word_7 rfl rfl ?_
  refine J_iload_n dX5_word_8 rfl rfl ?_
  rw [ws_self]
  refine cVi wv_X5_86 (c_X2_aboutWord isB1 hR.2.1 hV.1.2.2.1.1.1) dX5_word_9 (ob2 (by first | assumption | exact isB1 | exact isB18)) rfl rfl (kk := ?_)
  refine r_int dX5_word_12 ?_
  exact ⟨by rw [ab_wo hR hV], SB_self⟩

theorem PaFin_int {m m9 : Mem} {P : Nat → Int32} {L : Nat} {c : Int64} {v : Option Value} (h : PaFin m P L c v m9) : ∃ b : Int32, v = some (.int b) ∧ PaFin m P L c (some (.int b)) m9 := by
  rcases id h with ⟨-, rfl, -⟩ | ⟨a, -, -, ⟨-, rfl, -⟩ | ⟨-, rfl, -⟩⟩
  · exact ⟨_, rfl, h⟩
  · exact ⟨_, rfl, h⟩
  · exact ⟨_, rfl, h⟩
set_option maxRecDepth 100000 in
set_option maxHeartbeats 4000000 in
theorem c_X5_put {X : jX} {ad : Nat → Nat} {mem : Mem} {s : Rw} {o q L : Nat} {rows srows : Nat → Rw} {P : Nat → Int32} {c : Int64} (hC : CSt mem s o q rows srows P L) : Cm X yX5_put cX5_put 3 (some .int) 3 ad [.ref 0, .long c] mem (PaFin mem P L c) := by
  refine Cm.of (own := RX5) (nm := "put") (by decide +kernel) rfl rfl rfl rfl ?_
  refine J_aload_n dX5_put_0 rfl rfl ?_
  refine gX5_pad wf_X5_29 dX5_put_1 ?_
  refine J_lload_n dX5_put_4 rfl rfl ?_
  refine cVg wv_X5_180 (c_X4_append hC.2.2.2) dX5_put_5 ob4 rfl rfl (kk := (fun v m9 hf => ?_))
  obtain ⟨b9, rfl, hf⟩ := PaFin_int hf
  refine r_int dX5_put_8 ?_
  exact hf

theorem Sh2_up {m : Mem} {b c k : Nat} {s : Rw} {v : Int32} (h : Sh2 m b s) (hb : isB b) (hc : 188 ≤ c) : Sh2 (up m c k v) b s := Sh2_mem h (fun r hr => by rw [up_ne]; obtain ⟨j, hj, rfl⟩ := hb; omega)
theorem CSt_pad {m m9 : Mem} {s : Rw} {o q L L9 : Nat} {rows srows : Nat → Rw} {P P9 : Nat → Int32} (h : CSt m s o q rows srows P L) (he : ∀ x, x < 195 → x ≠ 190 → x ≠ 191 → x ≠ 192 → m9 x = m x) (hP : CPa m9 P9 L9) : CSt m9 s o q rows srows P9 L9 := by
  obtain ⟨h1, ⟨ho, hq, g1, g2, g3⟩, h3, -⟩ := h
  have e : ∀ b s, isB b → Sh2 m b s → Sh2 m9 b s := fun b s hb hs => Sh2_mem hs (fun r hr => by obtain ⟨j, hj, rfl⟩ := hb; exact he _ (by omega) (by omega) (by omega) (by omega))
  have e8 : m9 188 = m 188 := he 188 (by decide) (by decide) (by decide) (by decide)
  have e4 : m9 194 = m 194 := he 194 (by decide) (by decide) (by decide) (by decide)
  exact ⟨e 1 s isB1 h1, ⟨ho, hq, by rw [e8]; exact g1, by rw [e8]; exact g2, fun r hr => e _ _ hbk_isB (g3 r hr)⟩, fun t ht => by rw [e4]; exact (h3 t ht).imp id (Or.imp id (fun g => ⟨g.1, e _ _ (isBv ht) g.2⟩)), hP⟩
theorem CPa_F {m : Mem} {G W P : Nat → Int32} {L : Nat} (h : CPa m P L) (h1 : G 1 = nI L) : CPa (PM m G W) P L := ⟨h.1, by rw [PM_190]; exact h1, fun j hj => by rw [PM_ne (by decide) (by decide)]; exact h.2.2 j hj⟩
/-- what a question of the class leaves -/
def CQu (m : Mem) (a : Int32) (s : Rw) (o q : Nat) (rows srows : Nat → Rw) (P : Nat → Int32) (L : Nat) (v : Option Value) (m9 : Mem) : Prop := v = some (.int a) ∧ (∀ c, 195 ≤ c → m9 c = m c) ∧ CSt m9 s o q rows srows P L
set_option maxRecDepth 100000 in
set_option maxHeartbeats 4000000 in
theorem c_X5_wipe {X : jX} {ad : Nat → Nat} {mem : Mem} {s : Rw} {o q L : Nat} {rows srows : Nat → Rw} {P : Nat → Int32}  (hC : CSt mem s o q rows srows P L) : Cm X yX5_wipe cX5_wipe 1 (some .int) 1 ad [.ref 0] mem (CQu mem (nI L) s o q rows srows P 0) := by
  refine Cm.of (own := RX5) (nm := "wipe") (by decide +kernel) rfl rfl rfl rfl ?_
  refine J_aload_n dX5_wipe_0 rfl rfl ?_
  refine gX5_pad wf_X5_29 dX5_wipe_1 ?_
  refine cVi wv_X5_184 c_X4_clear dX5_wipe_4 ob4 rfl rfl (kk := ?_)
  refine r_int dX5_wipe_7 ?_
  exact ⟨by rw [hC.2.2.2.2.1], fun c hc => up_ne (by omega), CSt_pad hC (fun x _ hx _ _ => up_ne hx) ⟨by decide, by rw [up_apply, if_pos ⟨rfl, rfl⟩]; rfl, fun j hj => absurd hj (by omega)⟩⟩

set_option maxRecDepth 100000 in
set_option maxHeartbeats 4000000 in
theorem c_X5_fault {X : jX} {ad : Nat → Nat} {mem : Mem} {s : Rw} {o q L : Nat} {rows srows : Nat → Rw} {P : Nat → Int32}  (hC : CSt mem s o q rows srows P L) (had : ∀ k, ad (1000 + k) = jx X k) : Cm X yX5_fault cX5_fault 1 (some .int) 7 ad [.ref 0] mem (CQu mem (ftA P L) s o q rows srows P L) := by
  refine Cm.of (own := RX5) (nm := "fault") (by decide +kernel) rfl rfl rfl rfl ?_
  refine J_aload_n dX5_fault_0 rfl rfl ?_
  refine gX5_pad wf_X5_29 dX5_fault_1 ?_
  rw [show WS X ad mem = WS X ad (PM mem (mem 190) (mem 192)) by rw [PM_self]]
  refine cVg wv_X5_187 (c_X4_faultPlace hC.2.2.2.2.1 hC.2.2.2.1 hC.2.2.2.2.2 had) dX5_fault_4 ob4 rfl rfl (kk := (fun v m9 hf => ?_))
  obtain ⟨rfl, G, W, rfl, h1⟩ := hf
  refine r_int dX5_fault_7 ?_
  exact ⟨rfl, fun c hc => PM_ne (by omega) (by omega), CSt_pad hC (fun x _ hx _ hy => PM_ne hx hy) (CPa_F hC.2.2.2 h1)⟩

