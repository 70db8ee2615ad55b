/-- the reference's history shows the rows -/
def HRw (q : Nat) (rows : Nat → Rw) (H : Rw) : Prop := ∀ r, r < q → ∀ k, k < 302 → rows r k = hrw H r k
/-- the reference's saved rows, and which are saved -/
def SVw (srows : Nat → Rw) (b : Int32) (G : Rw) : Prop := (∃ x, x < 4 ∧ b = nI x) ∧ ∀ t, t < 2 → (∀ k, k < 302 → srows t k = hrw G t k) ∧ (srows t 302 = 0 ↔ (b >>> (nI t &&& 31)) &&& 1 = 0)
/-- the reference's side of a state -/
def Rf (m : Mem) (s : Rw) (q L : Nat) (rows srows : Nat → Rw) (P : Nat → Int32) : Prop := m 196 = s ∧ m 200 = P ∧ m 195 3 = nI q ∧ m 195 7 = nI L ∧ HRw q rows (m 198) ∧ SVw srows (m 195 5) (m 199)
/-- both systems show the same state -/
def SimE (m : Mem) : Prop := ∃ s o q L rows srows P, CSt m s o q rows srows P L ∧ Rf m s q L rows srows P
section SIM
variable {m m1 m2 m9 : Mem} {s t : Rw} {o q L : Nat} {rows srows : Nat → Rw} {P : Nat → Int32} {v v2 : Option Value}
theorem Rf_cls (h : Rf m s q L rows srows P) (hk : ∀ c, 195 ≤ c → m1 c = m c) : Rf m1 s q L rows srows P := by
  obtain ⟨e1, e2, e3, e4, e5, e6⟩ := h
  refine ⟨by rw [hk _ (by decide)]; exact e1, by rw [hk _ (by decide)]; exact e2, by rw [hk _ (by decide)]; exact e3, by rw [hk _ (by decide)]; exact e4, by rw [hk _ (by decide)]; exact e5, ?_⟩
  rw [hk 195 (by decide), hk 199 (by decide)]
  exact e6
theorem CSt_low (h : CSt m s o q rows srows P L) (he : ∀ x, x < 195 → m9 x = m x) : CSt m9 s o q rows srows P L := by
  have hp := h.2.2.2
  exact CSt_pad h (fun x hx _ _ _ => he x hx) ⟨hp.1, by rw [he 190 (by decide)]; exact hp.2.1, fun j hj => by rw [he 191 (by decide)]; exact hp.2.2 j hj⟩
theorem CSt_cut (h : CSt m s o q rows srows P L) (ht : ∀ x, x < 302 → t x = s x) : CSt m t o q rows srows P L := ⟨Sh2_cut h.1 ht, h.2⟩
theorem Stl_cut {a : Int32} {s0 : Rw} (h : Stl m a s0 s o q rows srows P L) (ht : ∀ x, x < 302 → t x = s x) : Stl m a s0 t o q rows srows P L := by
  unfold Stl at h ⊢
  by_cases g : a < 0
  · rw [if_pos g] at h ⊢
    exact CSt_cut h ht
  · rw [if_neg g] at h ⊢
    obtain ⟨o', h⟩ := h
    exact ⟨o', CSt_cut h ht⟩
theorem HRw_rec {A H : Rw} (h : HRw q rows H) (hA : ∀ k, k < 302 → A k = s k) (hq : q < 7) : HRw (kn1 q) (rwN q s rows) (hsF q A H) := by
  intro r hr k hk
  unfold rwN hsF hrw
  unfold kn1 at hr
  by_cases h6 : q = 6
  · subst h6
    rw [if_pos rfl] at hr ⊢
    rw [if_pos rfl]
    by_cases h5 : r = 5
    · subst h5
      show s k = _
      unfold rwp
      rw [if_pos ⟨by omega, by omega⟩, show 302 * 5 + k - 302 * 5 = k by omega]
      exact (hA k hk).symm
    · show (if r = 5 then s else rows (r + 1)) k = _
      rw [if_neg h5]
      unfold rwp
      rw [if_neg (by omega), mrg_lt (by omega)]
      unfold shf
      rw [show 302 * r + k + 302 = 302 * (r + 1) + k by omega]
      exact h (r + 1) (by omega) k hk
  · rw [if_neg h6] at hr ⊢
    rw [if_neg h6]
    show (if r = q then s else rows r) k = _
    unfold rwp
    by_cases e : r = q
    · subst e
      rw [if_pos rfl, if_pos ⟨by omega, by omega⟩, show 302 * r + k - 302 * r = k by omega]
      exact (hA k hk).symm
    · rw [if_neg e, if_neg (by omega)]
      exact h r (by omega) k hk
theorem sim_rec {r : Int32 × Rw} {L9 : Nat} (h1 : Rf m1 s q L rows srows P) (hq : q < 7) (hS : Stl m1 r.1 s r.2 o q rows srows P L9) (hn : ¬ r.1 < 0) (g1 : m2 195 3 = nI (kn1 q)) (g2 : m2 195 7 = nI L9) (g3 : m2 195 5 = m1 195 5) (g4 : m2 198 = hsF q (asd m1 s 197) (m1 198)) (g5 : ∀ c, c ≠ 195 → c ≠ 197 → c ≠ 198 → m2 c = m1 c) : SimE (SM m2 r.2) := by
  unfold Stl at hS
  rw [if_neg hn] at hS
  obtain ⟨o', hS⟩ := hS
  obtain ⟨e1, e2, e3, e4, e5, e6⟩ := h1
  refine ⟨r.2, o', kn1 q, L9, rwN q s rows, srows, P, CSt_low hS (fun x hx => by rw [SM_ne (by omega)]; exact g5 x (by omega) (by omega) (by omega)), SM_at, ?_, ?_, ?_, ?_, ?_⟩
  · rw [SM_ne (by decide), g5 _ (by decide) (by decide) (by decide)]; exact e2
  · rw [SM_ne (by decide)]; exact g1
  · rw [SM_ne (by decide)]; exact g2
  · rw [SM_ne (by decide), g4]
    exact HRw_rec e5 (fun k hk => asd_at hk) hq
  · rw [SM_ne (by decide), SM_ne (by decide), g3, g5 199 (by decide) (by decide) (by decide)]; exact e6
theorem sim_same (h1 : Rf m1 s q L rows srows P) (hS : CSt m1 t o q rows srows P L) (g : ∀ c, c ≠ 197 → m2 c = m1 c) : SimE (SM m2 t) := by
  obtain ⟨e1, e2, e3, e4, e5, e6⟩ := h1
  refine ⟨t, o, q, L, rows, srows, P, CSt_low hS (fun x hx => by rw [SM_ne (by omega)]; exact g x (by omega)), SM_at, ?_, ?_, ?_, ?_, ?_⟩
  · rw [SM_ne (by decide), g _ (by decide)]; exact e2
  · rw [SM_ne (by decide), g _ (by decide)]; exact e3
  · rw [SM_ne (by decide), g _ (by decide)]; exact e4
  · rw [SM_ne (by decide), g _ (by decide)]; exact e5
  · rw [SM_ne (by decide), SM_ne (by decide), g 195 (by decide), g 199 (by decide)]; exact e6
/-- a change by both -/
theorem sim_change {r : Int32 × Rw} (hF : Rf m s q L rows srows P) (hq : q < 7) (h : ClR m r s o q rows srows P L v m1) (h2 : PbR m1 s q r v2 m9) : SimE m9 := by
  obtain ⟨-, hk, hS⟩ := h
  have h1 := Rf_cls hF hk
  obtain ⟨-, m2, rfl, g⟩ := h2
  by_cases hn : r.1 < 0
  · rw [if_pos hn] at g
    subst g
    unfold Stl at hS
    rw [if_pos hn] at hS
    exact sim_same h1 hS (fun c hc => asd_ne hc)
  · rw [if_neg hn] at g
    obtain ⟨g1, g2, g3, g4⟩ := g
    exact sim_rec h1 hq hS hn g1 (by rw [g4 7 (by decide), asd_ne (by decide)]; exact h1.2.2.2.1) (by rw [g4 5 (by decide), asd_ne (by decide)]) (by rw [g2, asd_ne (show 198 ≠ 197 by decide)]) (fun c hc hc2 hc3 => (g3 c hc hc3).trans (asd_ne hc2))
/-- a question to both -/
theorem sim_q0 (hF : Rf m s q L rows srows P) (hC : CSt m s o q rows srows P L) : SimE (SM m s) := sim_same hF hC (fun _ _ => rfl)
theorem sim_qu {a : Int32} (hF : Rf m s q L rows srows P) (h : CQu m a s o q rows srows P L v m1) (h2 : m9 = SM m1 s ∨ m9 = SM (asd m1 s) s) : SimE m9 := by
  obtain ⟨-, hk, hC⟩ := h
  rcases h2 with rfl | rfl
  · exact sim_same (Rf_cls hF hk) hC (fun _ _ => rfl)
  · exact sim_same (Rf_cls hF hk) hC (fun c hc => asd_ne hc)
theorem sim_rm {a : Int32} {G : Nat → Int32} (hF : Rf m s q L rows srows P) (h : CQu m a s o q rows srows P L v m1) (hG : ∀ k, k < 8 → G k = m1 195 k) : SimE (RM m1 G s) := by
  obtain ⟨-, hk, hC⟩ := h
  obtain ⟨e1, e2, e3, e4, e5, e6⟩ := Rf_cls hF hk
  unfold RM
  refine ⟨s, o, q, L, rows, srows, P, CSt_low hC (fun x hx => by rw [SM_ne (by omega)]; exact if_neg (by omega)), SM_at, ?_, ?_, ?_, ?_, ?_⟩
  · rw [SM_ne (by decide)]; exact e2
  · rw [SM_ne (by decide), upC_at, hG 3 (by decide)]; exact e3
  · rw [SM_ne (by decide), upC_at, hG 7 (by decide)]; exact e4
  · rw [SM_ne (by decide)]; exact e5
  · rw [SM_ne (by decide), SM_ne (by decide), upC_at, hG 5 (by decide)]; exact e6
theorem sim_wipe {a : Int32} (hF : Rf m s q L rows srows P) (h : CQu m a s o q rows srows P 0 v m1) : SimE (SM (up m1 195 7 0) s) := by
  obtain ⟨-, hk, hC⟩ := h
  obtain ⟨e1, e2, e3, e4, e5, e6⟩ := Rf_cls hF hk
  refine ⟨s, o, q, 0, rows, srows, P, CSt_low hC (fun x hx => by rw [SM_ne (by omega), up_ne (by omega)]), SM_at, ?_, ?_, ?_, ?_, ?_⟩
  · rw [SM_ne (by decide), up_ne (by decide)]; exact e2
  · rw [SM_ne (by decide), up_apply, if_neg (by decide)]; exact e3
  · rw [SM_ne (by decide), up_apply, if_pos ⟨rfl, rfl⟩]; rfl
  · rw [SM_ne (by decide), up_ne (by decide)]; exact e5
  · rw [SM_ne (by decide), SM_ne (by decide), up_apply, if_neg (by decide), up_ne (by decide)]; exact e6
/-- a number put on both pads -/
theorem sim_put {c : Int64} (hF : Rf m s q L rows srows P) (hC : CSt m s o q rows srows P L) (h : PaFin m P L c v m1) (h2 : PtFin m1 s L c v2 m9) : v = v2 ∧ SimE m9 := by
  rcases h with ⟨p1, rfl, rfl⟩ | ⟨a, ha, p1, hh⟩
  · rcases h2 with ⟨-, rfl, rfl⟩ | ⟨b, hb, p2, -⟩
    · exact ⟨rfl, sim_q0 hF hC⟩
    · exact absurd (p2.symm.trans p1) (nI_m2 b (by omega))
  · rcases h2 with ⟨p2, -, -⟩ | ⟨b, hb, p2, hh2⟩
    · exact absurd (p1.symm.trans p2) (nI_m2 a (by omega))
    · obtain rfl : a = b := nI_ij (by omega) (by omega) (p1.symm.trans p2)
      rcases hh with ⟨hl, rfl, hP, hx⟩ | ⟨hl, rfl, rfl⟩
      · rcases hh2 with ⟨-, rfl, rfl⟩ | ⟨hl2, -, -⟩
        · refine ⟨rfl, ?_⟩
          obtain ⟨e1, e2, e3, e4, e5, e6⟩ := Rf_cls hF (fun c hc => hx c (by omega) (by omega))
          have hC1 := CSt_pad hC (fun x _ h0 h1 _ => hx x h0 h1) hP
          have z : ∀ x, x ≠ 195 → x ≠ 196 → x ≠ 200 → SM (pdm m1 L c a a) s x = m1 x := fun x h5 h6 h0 => by
            rw [SM_ne h6]; unfold pdm; rw [up_ne h5]; exact if_neg h0
          have z5 : ∀ k, k ≠ 7 → SM (pdm m1 L c a a) s 195 k = m1 195 k := fun k hk => by
            rw [SM_ne (by decide)]; unfold pdm; rw [up_apply, if_neg (fun g => hk g.2)]; rfl
          refine ⟨s, o, q, L + a, rows, srows, wrP P L c a a, CSt_low hC1 (fun x hx => z x (by omega) (by omega) (by omega)), SM_at, ?_, ?_, ?_, ?_, ?_⟩
          · rw [SM_ne (by decide)]; unfold pdm; rw [up_ne (by decide), upC_at, e2]
          · rw [z5 3 (by decide)]; exact e3
          · rw [SM_ne (by decide)]; exact pdm_7
          · rw [z _ (by decide) (by decide) (by decide)]; exact e5
          · rw [z5 5 (by decide), z 199 (by decide) (by decide) (by decide)]; exact e6
        · exact absurd hl hl2
      · rcases hh2 with ⟨hl2, -, -⟩ | ⟨-, rfl, rfl⟩
        · exact absurd hl2 hl
        · exact ⟨rfl, sim_q0 hF hC⟩
/-- taking back by both -/
theorem sim_undo (hF : Rf m s q L rows srows P) (hC : CSt m s o q rows srows P L) (h : CUn m o q rows srows P L v m1) (h2 : (q = 0 ∧ v2 = some (.int (-5)) ∧ m9 = SM m1 s) ∨ ∃ p, q = p + 1 ∧ v2 = some (.int (nI p)) ∧ m9 = SM (up m1 195 3 (nI p)) (mrg 302 (hrw (m1 198) p) s)) : v = v2 ∧ SimE m9 := by
  obtain ⟨hk, h⟩ := h
  rcases h with ⟨rfl, rfl, rfl⟩ | ⟨p, rfl, rfl, hC9⟩
  · rcases h2 with ⟨-, rfl, rfl⟩ | ⟨p, hp, -⟩
    · exact ⟨rfl, sim_q0 hF hC⟩
    · exact absurd hp (by omega)
  · rcases h2 with ⟨hp, -⟩ | ⟨p2, hp, rfl, rfl⟩
    · exact absurd hp (by omega)
    · obtain rfl : p = p2 := by omega
      obtain ⟨e1, e2, e3, e4, e5, e6⟩ := Rf_cls hF hk
      refine ⟨rfl, mrg 302 (hrw (m1 198) p) s, o, p, L, rows, srows, P, CSt_low (CSt_cut hC9 (fun x hx => by rw [mrg_lt hx]; exact (e5 p (by omega) x hx).symm)) (fun x hx => by rw [SM_ne (by omega), up_ne (by omega)]), SM_at, ?_, ?_, ?_, ?_, ?_⟩
      · rw [SM_ne (by decide), up_ne (by decide)]; exact e2
      · rw [SM_ne (by decide), up_apply, if_pos ⟨rfl, rfl⟩]
      · rw [SM_ne (by decide), up_apply, if_neg (by decide)]; exact e4
      · rw [SM_ne (by decide), up_ne (by decide)]; exact fun r hr => e5 r (by omega)
      · rw [SM_ne (by decide), SM_ne (by decide), up_apply, if_neg (by decide), up_ne (by decide)]; exact e6
theorem bits_or : ∀ x, x < 4 → ∀ t, t < 2 → (nI x ||| 1 <<< (nI t &&& 31)) = nI (x ||| 1 <<< t) ∧ (x ||| 1 <<< t) < 4 ∧ ∀ j, j < 2 → ((nI (x ||| 1 <<< t) >>> (nI j &&& 31)) &&& 1 = 0 ↔ (j ≠ t ∧ (nI x >>> (nI j &&& 31)) &&& 1 = 0)) := by decide
theorem SVw_save {b : Int32} {G : Rw} {t0 : Nat} (h : SVw srows b G) (ht : t0 < 2) : SVw (fun j => if j = t0 then (fun k => if k < 302 then s k else 1) else srows j) (b ||| 1 <<< (nI t0 &&& 31)) (rwp t0 302 s G) := by
  obtain ⟨⟨x, hx, rfl⟩, h⟩ := h
  obtain ⟨b1, b2, b3⟩ := bits_or x hx t0 ht
  rw [b1]
  refine ⟨⟨_, b2, rfl⟩, fun t h2 => ?_⟩
  obtain ⟨g1, g2⟩ := h t h2
  have b4 := b3 t h2
  by_cases e : t = t0
  · subst e
    have ef : (fun j => if j = t then (fun k => if k < 302 then s k else (1 : Int32)) else srows j) t = (fun k => if k < 302 then s k else 1) := if_pos rfl
    rw [ef]
    refine ⟨fun k hk => ?_, ?_⟩
    · show (if k < 302 then s k else 1) = hrw (rwp t 302 s G) t k
      unfold hrw rwp
      rw [if_pos hk, if_pos ⟨by omega, by omega⟩, show 302 * t + k - 302 * t = k by omega]
    · rw [b4]
      exact ⟨fun g => absurd (show (1 : Int32) = 0 from g) (by decide), fun g => absurd rfl g.1⟩
  · have ef : (fun j => if j = t0 then (fun k => if k < 302 then s k else (1 : Int32)) else srows j) t = srows t := if_neg e
    rw [ef]
    refine ⟨fun k hk => ?_, ?_⟩
    · rw [g1 k hk]
      unfold hrw rwp
      rw [if_neg (by omega)]
    · rw [b4, g2]
      exact ⟨fun g => ⟨e, g⟩, fun g => g.2⟩
/-- saving by both -/
theorem sim_save {x : Int32} (hF : Rf m s q L rows srows P) (hC : CSt m s o q rows srows P L) (h : CSv m x s o q rows srows P L v m1) (h2 : (jin x 0 1 = 0 ∧ v2 = some (.int (-2)) ∧ m9 = SM m1 s) ∨ ∃ t, t < 2 ∧ x = nI t ∧ v2 = some (.int (s 5)) ∧ m9 = SM (svM m1 s t) s) : v = v2 ∧ SimE m9 := by
  have j01 : ∀ t, t < 2 → ¬ jin (nI t) 0 1 = 0 := by decide
  rcases h with ⟨hj, rfl, rfl⟩ | ⟨t, ht, rfl, rfl, hk, hC9⟩
  · rcases h2 with ⟨-, rfl, rfl⟩ | ⟨t, ht, rfl, -⟩
    · exact ⟨rfl, sim_q0 hF hC⟩
    · exact absurd hj (j01 t ht)
  · rcases h2 with ⟨hj, -⟩ | ⟨t2, ht2, e, rfl, rfl⟩
    · exact absurd hj (j01 t ht)
    · obtain rfl : t = t2 := nI_ij (by omega) (by omega) e
      obtain ⟨e1, e2, e3, e4, e5, e6⟩ := Rf_cls hF hk
      have z : ∀ x, x ≠ 195 → x ≠ 196 → x ≠ 199 → SM (svM m1 s t) s x = m1 x := fun x h5 h6 h0 => by
        rw [SM_ne h6]; unfold svM; rw [up_ne h5]; exact if_neg h0
      have z5 : ∀ k, k ≠ 5 → SM (svM m1 s t) s 195 k = m1 195 k := fun k hk => by
        rw [SM_ne (by decide)]; unfold svM; rw [up_apply, if_neg (fun g => hk g.2)]; rfl
      refine ⟨rfl, s, o, q, L, rows, _, P, CSt_low hC9 (fun x hx => z x (by omega) (by omega) (by omega)), SM_at, ?_, ?_, ?_, ?_, ?_⟩
      · rw [z 200 (by decide) (by decide) (by decide)]; exact e2
      · rw [z5 3 (by decide)]; exact e3
      · rw [z5 7 (by decide)]; exact e4
      · rw [z 198 (by decide) (by decide) (by decide)]; exact e5
      · rw [SM_ne (by decide), SM_ne (by decide)]
        unfold svM
        rw [up_apply, if_pos ⟨rfl, rfl⟩, up_ne (by decide), upC_at]
        exact SVw_save e6 ht
/-- bringing back by both -/
theorem sim_restore {x : Int32} (hF : Rf m s q L rows srows P) (hC : CSt m s o q rows srows P L) (hq : q < 7) (h : CRe m x s o q rows srows P L v m1) (h2 : (jin x 0 1 = 0 ∧ v2 = some (.int (-2)) ∧ m9 = SM m1 s) ∨ ∃ t, t < 2 ∧ x = nI t ∧ (((m1 195 5 >>> (nI t &&& 31)) &&& 1 = 0 ∧ v2 = some (.int (-5)) ∧ m9 = SM m1 s) ∨ (¬ (m1 195 5 >>> (nI t &&& 31)) &&& 1 = 0 ∧ ∃ m2, RecR (asd m1 s) m2 q ∧ v2 = some (.int (mrg 302 (hrw (m1 199) t) s 5)) ∧ m9 = SM m2 (mrg 302 (hrw (m1 199) t) s)))) : v = v2 ∧ SimE m9 := by
  have j01 : ∀ t, t < 2 → ¬ jin (nI t) 0 1 = 0 := by decide
  rcases h with ⟨hj, rfl, rfl⟩ | ⟨t, ht, rfl, h⟩
  · rcases h2 with ⟨-, rfl, rfl⟩ | ⟨t, ht, rfl, -⟩
    · exact ⟨rfl, sim_q0 hF hC⟩
    · exact absurd hj (j01 t ht)
  · rcases h2 with ⟨hj, -⟩ | ⟨t2, ht2, e, h2⟩
    · exact absurd hj (j01 t ht)
    · obtain rfl : t = t2 := nI_ij (by omega) (by omega) e
      rcases h with ⟨h0, rfl, rfl⟩ | ⟨h0, rfl, hk, hS⟩
      · have g := (hF.2.2.2.2.2.2 t ht).2.mp h0
        rcases h2 with ⟨-, rfl, rfl⟩ | ⟨g2, -⟩
        · exact ⟨rfl, sim_q0 hF hC⟩
        · exact absurd g g2
      · have h1 := Rf_cls hF hk
        obtain ⟨e1, e2, e3, e4, e5, e6⟩ := id h1
        have g := fun g0 => h0 ((e6.2 t ht).2.mpr g0)
        rcases h2 with ⟨g2, -⟩ | ⟨-, m2, ⟨g1, g2, g3, g4⟩, rfl, rfl⟩
        · exact absurd g2 g
        · have er := (e6.2 t ht).1
          have e5r : mrg 302 (hrw (m1 199) t) s 5 = srows t 5 := by rw [mrg_lt (by decide)]; exact (er 5 (by decide)).symm
          obtain ⟨n, w, -, hV⟩ := ((hC.2.2.1 t ht).2.resolve_left h0).2
          have hnn : ¬ srows t 5 < 0 := by rw [hV.1.2.1]; exact nI_lt0 (by have := hV.1.1; omega)
          refine ⟨by rw [e5r], ?_⟩
          have hS2 : Stl m1 (srows t 5) s (mrg 302 (hrw (m1 199) t) s) o q rows srows P L := Stl_cut hS (fun x hx => by rw [mrg_lt hx]; exact (er x hx).symm)
          exact sim_rec (r := (srows t 5, mrg 302 (hrw (m1 199) t) s)) h1 hq hS2 hnn g1 (by rw [g4 7 (by decide), asd_ne (by decide)]; exact e4) (by rw [g4 5 (by decide), asd_ne (by decide)]) (by rw [g2, asd_ne (show 198 ≠ 197 by decide)]) (fun c hc hc2 hc3 => (g3 c hc hc3).trans (asd_ne hc2))
theorem gD_nn : ∀ j i n s, n + j ≤ 1000 → ∃ n', n' ≤ n + j ∧ (gD P L j i (nI n) s).1 = nI n' := by
  intro j
  induction j with
  | zero => intro i n s h; exact ⟨n, by omega, rfl⟩
  | succ j ih =>
    intro i n s h
    have e0 : nI n + 0 = nI n := Int32.add_zero _
    unfold gD
    split
    · split
      · exact ⟨n, by omega, e0⟩
      · split
        · split
          · rw [← nI_succ]
            obtain ⟨n', h1, h2⟩ := ih _ (n + 1) _ (by omega)
            exact ⟨n', by omega, h2⟩
          · exact ⟨n + 1, by omega, nI_succ n ▸ rfl⟩
        · exact ⟨n + 1, by omega, nI_succ n ▸ rfl⟩
    · exact ⟨n, by omega, e0⟩
/-- a text carried out by both -/
theorem sim_carry (hF : Rf m s q L rows srows P) (hq : q < 7) (h : CCo m s o q rows srows P L v m1) (h2 : CoFin m1 s q L v2 m9) : v = v2 ∧ SimE m9 := by
  unfold CCo at h
  unfold CoFin at h2
  have e2 : m1 200 = P := by
    split at h
    · exact (Rf_cls hF h.2.1).2.1
    · exact (Rf_cls hF h.2.1).2.1
  rw [e2] at h2
  by_cases hf : ftA P L = -6
  · rw [if_pos hf] at h h2
    obtain ⟨rfl, hk, hS⟩ := h
    obtain ⟨rfl, m2, rfl, g1, g2, g3, g4, g5⟩ := h2
    obtain ⟨n', hn', e⟩ := gD_nn (P := P) (L := L) 80 0 0 s (by decide)
    have hnn : ¬ (gD P L 80 0 0 s).1 < 0 := by
      rw [show (gD P L 80 0 0 s).1 = nI n' from e]
      exact nI_lt0 (by omega)
    exact ⟨rfl, sim_rec (Rf_cls hF hk) hq hS hnn g1 g2 g3 g4 g5⟩
  · rw [if_neg hf] at h h2
    obtain ⟨rfl, G, rfl, hG⟩ := h2
    exact ⟨h.1, sim_rm hF h hG⟩
end SIM
