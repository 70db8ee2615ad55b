/-- the reference's numbers beside its row -/
def RM (m : Mem) (F : Nat → Int32) (s : Rw) : Mem := SM (upC m 195 F) s
theorem RM_self {m : Mem} {s : Rw} : RM m (m 195) s = SM m s := by unfold RM; rw [upC_self]
theorem RM_up {m : Mem} {F : Nat → Int32} {s : Rw} {k : Nat} {v : Int32} : up (RM m F s) 195 k v = RM m (upd F k v) s := by unfold RM; rw [SM_up2 (by decide), upC_up]
theorem RM_at {m : Mem} {F : Nat → Int32} {s : Rw} {k : Nat} : RM m F s 195 k = F k := by unfold RM; rw [SM_ne (by decide), upC_at]
section RRULES
variable {X : jX} {own : String} {cc : ByteArray} {nL : Nat} {ret : Option FieldType} {nm : String} {d CR SR : Nat} {Q : List Frame → Array Value → State → State → Prop} {ad : Nat → Nat} {cells slots pc : Nat} {lv : List (Nat × Value)} {st : List Value} {m : Mem} {F : Nat → Int32} {s : Rw}
theorem gR_known {index : Nat} (hw : Cond.fieldLink own index "PlugPinsModel" "known" "I" ∈ TW) (hdg : decode cc pc = .ok (.getfield index, 3)) (kk : Jg X own cc nL ret nm d CR SR Q ad cells slots (pc + 3) (lv) (.int (F 3) :: st) (WS X ad (RM m (F) s))) : Jg X own cc nL ret nm d CR SR Q ad cells slots (pc) (lv) (.ref (195) :: st) (WS X ad (RM m (F) s)) := by
  refine gX6_known hw hdg ?_
  rw [RM_at]
  exact kk
theorem pR_known {index : Nat} {x : Int32} (hw : Cond.fieldLink own index "PlugPinsModel" "known" "I" ∈ TW) (hdg : decode cc pc = .ok (.putfield index, 3)) (kk : Jg X own cc nL ret nm d CR SR Q ad cells slots (pc + 3) (lv) (st) (WS X ad (RM m (upd F 3 x) s))) : Jg X own cc nL ret nm d CR SR Q ad cells slots (pc) (lv) (.int x :: .ref (195) :: st) (WS X ad (RM m (F) s)) := by
  refine pX6_known hw hdg ?_
  rw [RM_up]
  exact kk
theorem gR_kept {index : Nat} (hw : Cond.fieldLink own index "PlugPinsModel" "kept" "I" ∈ TW) (hdg : decode cc pc = .ok (.getfield index, 3)) (kk : Jg X own cc nL ret nm d CR SR Q ad cells slots (pc + 3) (lv) (.int (F 5) :: st) (WS X ad (RM m (F) s))) : Jg X own cc nL ret nm d CR SR Q ad cells slots (pc) (lv) (.ref (195) :: st) (WS X ad (RM m (F) s)) := by
  refine gX6_kept hw hdg ?_
  rw [RM_at]
  exact kk
theorem pR_kept {index : Nat} {x : Int32} (hw : Cond.fieldLink own index "PlugPinsModel" "kept" "I" ∈ TW) (hdg : decode cc pc = .ok (.putfield index, 3)) (kk : Jg X own cc nL ret nm d CR SR Q ad cells slots (pc + 3) (lv) (st) (WS X ad (RM m (upd F 5 x) s))) : Jg X own cc nL ret nm d CR SR Q ad cells slots (pc) (lv) (.int x :: .ref (195) :: st) (WS X ad (RM m (F) s)) := by
  refine pX6_kept hw hdg ?_
  rw [RM_up]
  exact kk
theorem gR_length {index : Nat} (hw : Cond.fieldLink own index "PlugPinsModel" "length" "I" ∈ TW) (hdg : decode cc pc = .ok (.getfield index, 3)) (kk : Jg X own cc nL ret nm d CR SR Q ad cells slots (pc + 3) (lv) (.int (F 7) :: st) (WS X ad (RM m (F) s))) : Jg X own cc nL ret nm d CR SR Q ad cells slots (pc) (lv) (.ref (195) :: st) (WS X ad (RM m (F) s)) := by
  refine gX6_length hw hdg ?_
  rw [RM_at]
  exact kk
theorem pR_length {index : Nat} {x : Int32} (hw : Cond.fieldLink own index "PlugPinsModel" "length" "I" ∈ TW) (hdg : decode cc pc = .ok (.putfield index, 3)) (kk : Jg X own cc nL ret nm d CR SR Q ad cells slots (pc + 3) (lv) (st) (WS X ad (RM m (upd F 7 x) s))) : Jg X own cc nL ret nm d CR SR Q ad cells slots (pc) (lv) (.int x :: .ref (195) :: st) (WS X ad (RM m (F) s)) := by
  refine pX6_length hw hdg ?_
  rw [RM_up]
  exact kk
theorem gR_spot {index : Nat} (hw : Cond.fieldLink own index "PlugPinsModel" "spot" "I" ∈ TW) (hdg : decode cc pc = .ok (.getfield index, 3)) (kk : Jg X own cc nL ret nm d CR SR Q ad cells slots (pc + 3) (lv) (.int (F 8) :: st) (WS X ad (RM m (F) s))) : Jg X own cc nL ret nm d CR SR Q ad cells slots (pc) (lv) (.ref (195) :: st) (WS X ad (RM m (F) s)) := by
  refine gX6_spot hw hdg ?_
  rw [RM_at]
  exact kk
theorem pR_spot {index : Nat} {x : Int32} (hw : Cond.fieldLink own index "PlugPinsModel" "spot" "I" ∈ TW) (hdg : decode cc pc = .ok (.putfield index, 3)) (kk : Jg X own cc nL ret nm d CR SR Q ad cells slots (pc + 3) (lv) (st) (WS X ad (RM m (upd F 8 x) s))) : Jg X own cc nL ret nm d CR SR Q ad cells slots (pc) (lv) (.int x :: .ref (195) :: st) (WS X ad (RM m (F) s)) := by
  refine pX6_spot hw hdg ?_
  rw [RM_up]
  exact kk
theorem gR_isFaulty {index : Nat} (hw : Cond.fieldLink own index "PlugPinsModel" "isFaulty" "Z" ∈ TW) (hdg : decode cc pc = .ok (.getfield index, 3)) (kk : Jg X own cc nL ret nm d CR SR Q ad cells slots (pc + 3) (lv) (.int (F 9) :: st) (WS X ad (RM m (F) s))) : Jg X own cc nL ret nm d CR SR Q ad cells slots (pc) (lv) (.ref (195) :: st) (WS X ad (RM m (F) s)) := by
  refine gX6_isFaulty hw hdg ?_
  rw [RM_at]
  exact kk
theorem pR_isFaulty {index : Nat} {x : Int32} (hw : Cond.fieldLink own index "PlugPinsModel" "isFaulty" "Z" ∈ TW) (hdg : decode cc pc = .ok (.putfield index, 3)) (hz : x = 0 ∨ x = 1) (kk : Jg X own cc nL ret nm d CR SR Q ad cells slots (pc + 3) (lv) (st) (WS X ad (RM m (upd F 9 x) s))) : Jg X own cc nL ret nm d CR SR Q ad cells slots (pc) (lv) (.int x :: .ref (195) :: st) (WS X ad (RM m (F) s)) := by
  refine pX6_isFaulty hw hdg hz ?_
  rw [RM_up]
  exact kk
theorem gR_letter {index : Nat} (hw : Cond.fieldLink own index "PlugPinsModel" "letter" "I" ∈ TW) (hdg : decode cc pc = .ok (.getfield index, 3)) (kk : Jg X own cc nL ret nm d CR SR Q ad cells slots (pc + 3) (lv) (.int (F 10) :: st) (WS X ad (RM m (F) s))) : Jg X own cc nL ret nm d CR SR Q ad cells slots (pc) (lv) (.ref (195) :: st) (WS X ad (RM m (F) s)) := by
  refine gX6_letter hw hdg ?_
  rw [RM_at]
  exact kk
theorem pR_letter {index : Nat} {x : Int32} (hw : Cond.fieldLink own index "PlugPinsModel" "letter" "I" ∈ TW) (hdg : decode cc pc = .ok (.putfield index, 3)) (kk : Jg X own cc nL ret nm d CR SR Q ad cells slots (pc + 3) (lv) (st) (WS X ad (RM m (upd F 10 x) s))) : Jg X own cc nL ret nm d CR SR Q ad cells slots (pc) (lv) (.int x :: .ref (195) :: st) (WS X ad (RM m (F) s)) := by
  refine pX6_letter hw hdg ?_
  rw [RM_up]
  exact kk
theorem gR_first {index : Nat} (hw : Cond.fieldLink own index "PlugPinsModel" "first" "I" ∈ TW) (hdg : decode cc pc = .ok (.getfield index, 3)) (kk : Jg X own cc nL ret nm d CR SR Q ad cells slots (pc + 3) (lv) (.int (F 11) :: st) (WS X ad (RM m (F) s))) : Jg X own cc nL ret nm d CR SR Q ad cells slots (pc) (lv) (.ref (195) :: st) (WS X ad (RM m (F) s)) := by
  refine gX6_first hw hdg ?_
  rw [RM_at]
  exact kk
theorem pR_first {index : Nat} {x : Int32} (hw : Cond.fieldLink own index "PlugPinsModel" "first" "I" ∈ TW) (hdg : decode cc pc = .ok (.putfield index, 3)) (kk : Jg X own cc nL ret nm d CR SR Q ad cells slots (pc + 3) (lv) (st) (WS X ad (RM m (upd F 11 x) s))) : Jg X own cc nL ret nm d CR SR Q ad cells slots (pc) (lv) (.int x :: .ref (195) :: st) (WS X ad (RM m (F) s)) := by
  refine pX6_first hw hdg ?_
  rw [RM_up]
  exact kk
theorem gR_second {index : Nat} (hw : Cond.fieldLink own index "PlugPinsModel" "second" "I" ∈ TW) (hdg : decode cc pc = .ok (.getfield index, 3)) (kk : Jg X own cc nL ret nm d CR SR Q ad cells slots (pc + 3) (lv) (.int (F 12) :: st) (WS X ad (RM m (F) s))) : Jg X own cc nL ret nm d CR SR Q ad cells slots (pc) (lv) (.ref (195) :: st) (WS X ad (RM m (F) s)) := by
  refine gX6_second hw hdg ?_
  rw [RM_at]
  exact kk
theorem pR_second {index : Nat} {x : Int32} (hw : Cond.fieldLink own index "PlugPinsModel" "second" "I" ∈ TW) (hdg : decode cc pc = .ok (.putfield index, 3)) (kk : Jg X own cc nL ret nm d CR SR Q ad cells slots (pc + 3) (lv) (st) (WS X ad (RM m (upd F 12 x) s))) : Jg X own cc nL ret nm d CR SR Q ad cells slots (pc) (lv) (.int x :: .ref (195) :: st) (WS X ad (RM m (F) s)) := by
  refine pX6_second hw hdg ?_
  rw [RM_up]
  exact kk
theorem gR_third {index : Nat} (hw : Cond.fieldLink own index "PlugPinsModel" "third" "I" ∈ TW) (hdg : decode cc pc = .ok (.getfield index, 3)) (kk : Jg X own cc nL ret nm d CR SR Q ad cells slots (pc + 3) (lv) (.int (F 13) :: st) (WS X ad (RM m (F) s))) : Jg X own cc nL ret nm d CR SR Q ad cells slots (pc) (lv) (.ref (195) :: st) (WS X ad (RM m (F) s)) := by
  refine gX6_third hw hdg ?_
  rw [RM_at]
  exact kk
theorem pR_third {index : Nat} {x : Int32} (hw : Cond.fieldLink own index "PlugPinsModel" "third" "I" ∈ TW) (hdg : decode cc pc = .ok (.putfield index, 3)) (kk : Jg X own cc nL ret nm d CR SR Q ad cells slots (pc + 3) (lv) (st) (WS X ad (RM m (upd F 13 x) s))) : Jg X own cc nL ret nm d CR SR Q ad cells slots (pc) (lv) (.int x :: .ref (195) :: st) (WS X ad (RM m (F) s)) := by
  refine pX6_third hw hdg ?_
  rw [RM_up]
  exact kk
theorem rR_pad (k : Nat) {i : Int32} (hk : k < 80) (hi : i = nI k) (hdg : decode cc pc = .ok (.iaload, 1)) (kk : Jg X own cc nL ret nm d CR SR Q ad cells slots (pc + 1) (lv) (.int (m 200 k) :: st) (WS X ad (RM m (F) s))) : Jg X own cc nL ret nm d CR SR Q ad cells slots (pc) (lv) (.int i :: .ref 200 :: st) (WS X ad (RM m (F) s)) := by
  unfold RM
  refine rd_mpad k hk hi hdg ?_
  rw [upC_ne (by decide)]
  exact kk
end RRULES
/-- a sign of a range stands at a place -/
def nx (P : Nat → Int32) (L i : Nat) (lo hi : Int32) : Int32 := if i < L then jin (P i) lo hi else 0
/-- taking a sign; a number: the place, and whether no fault was met -/
def dS (P : Nat → Int32) (L : Nat) (lo hi : Int32) (p : Nat × Bool) : Nat × Bool := if p.2 = true then (if nx P L p.1 lo hi = 0 then (p.1, false) else (p.1 + 1, true)) else (p.1, false)
def nS (P : Nat → Int32) (L : Nat) (p : Nat × Bool) : Nat × Bool := if p.2 = true then (if nx P L p.1 48 57 = 0 then (p.1, false) else if P p.1 - 48 ≤ 0 then (p.1 + 1, true) else if nx P L (p.1 + 1) 48 57 = 0 then (p.1 + 1, true) else (p.1 + 2, true)) else (p.1, false)
def nV (P : Nat → Int32) (L i : Nat) : Int32 := if P i - 48 ≤ 0 then P i - 48 else if nx P L (i + 1) 48 57 = 0 then P i - 48 else 10 * (P i - 48) + (P (i + 1) - 48)
def oS (P : Nat → Int32) (L i : Nat) : Nat × Bool := if i < L then
    (if P i = 98 then nS P L (dS P L 46 46 (nS P L (i + 1, true))) else if P i = 105 then nS P L (dS P L 43 43 (dS P L 48 57 (dS P L 64 64 (dS P L 48 57 (i + 1, true))))) else if P i = 111 then nS P L (dS P L 45 45 (dS P L 48 57 (i + 1, true))) else if P i = 97 then dS P L 48 57 (i + 1, true) else if P i = 119 then dS P L 48 57 (dS P L 48 57 (i + 1, true)) else if P i = 116 then nS P L (i + 1, true) else (i, false))
  else (i, false)
/-- an order's values -/
def oV (P : Nat → Int32) (L i : Nat) (x y z : Int32) : Prop :=
  if P i = 98 then x = nV P L (i + 1) ∧ y = nV P L (dS P L 46 46 (nS P L (i + 1, true))).1 else if P i = 105 then x = P (i + 1) - 48 ∧ y = P (i + 3) - 48 ∧ z = nV P L (i + 5) else if P i = 111 then x = P (i + 1) - 48 ∧ y = nV P L (i + 3) else if P i = 97 then x = P (i + 1) - 48 else if P i = 119 then x = P (i + 1) - 48 ∧ y = P (i + 2) - 48 else x = nV P L (i + 1)
theorem dS_ok {P : Nat → Int32} {L : Nat} {lo hi : Int32} {p : Nat × Bool} (h : (dS P L lo hi p).2 = true) : p.2 = true ∧ p.1 < L ∧ ¬ jin (P p.1) lo hi = 0 ∧ dS P L lo hi p = (p.1 + 1, true) := by
  unfold dS at h ⊢
  split at h
  · next h1 =>
    split at h
    · exact absurd (show false = true from h) (by decide)
    · next h2 =>
      rw [if_pos h1, if_neg h2]
      unfold nx at h2
      split at h2
      · next h3 => exact ⟨h1, h3, h2, rfl⟩
      · exact absurd rfl h2
  · exact absurd (show false = true from h) (by decide)
theorem nS_ok {P : Nat → Int32} {L : Nat} {p : Nat × Bool} (h : (nS P L p).2 = true) : p.2 = true ∧ p.1 < L := by
  unfold nS at h
  split at h
  · next h1 =>
    split at h
    · exact absurd (show false = true from h) (by decide)
    · next h2 =>
      unfold nx at h2
      split at h2
      · next h3 => exact ⟨h1, h3⟩
      · exact absurd rfl h2
  · exact absurd (show false = true from h) (by decide)
theorem nx_lt {P : Nat → Int32} {L i : Nat} {lo hi : Int32} (h : ¬ nx P L i lo hi = 0) : i < L := by
  unfold nx at h
  split at h
  · assumption
  · exact absurd rfl h
theorem dS_le {P : Nat → Int32} {L : Nat} {lo hi : Int32} {p : Nat × Bool} (h : p.1 ≤ L) : p.1 ≤ (dS P L lo hi p).1 ∧ (dS P L lo hi p).1 ≤ L := by
  unfold dS
  split
  · split
    · exact ⟨Nat.le_refl _, h⟩
    · next h2 => have := nx_lt h2; exact ⟨Nat.le_succ _, this⟩
  · exact ⟨Nat.le_refl _, h⟩
theorem nS_le {P : Nat → Int32} {L : Nat} {p : Nat × Bool} (h : p.1 ≤ L) : p.1 ≤ (nS P L p).1 ∧ (nS P L p).1 ≤ L := by
  unfold nS
  split
  · split
    · exact ⟨Nat.le_refl _, h⟩
    · next h2 =>
      have := nx_lt h2
      split
      · exact ⟨Nat.le_succ _, this⟩
      · split
        · exact ⟨Nat.le_succ _, this⟩
        · next h3 => have := nx_lt h3; exact ⟨by show p.1 ≤ p.1 + 2; omega, this⟩
  · exact ⟨Nat.le_refl _, h⟩
/-- the reference's reader stands at a place -/
def RF (F : Nat → Int32) (L : Nat) (p : Nat × Bool) : Prop := F 7 = nI L ∧ F 8 = nI p.1 ∧ F 9 = (if p.2 = true then 0 else 1) ∧ p.1 ≤ L ∧ L ≤ 80
theorem RF_upd {F : Nat → Int32} {L k : Nat} {p : Nat × Bool} {v : Int32} (h : RF F L p) (hk : 10 ≤ k) : RF (upd F k v) L p := by
  obtain ⟨h1, h2, h3, h4⟩ := h
  exact ⟨by rw [upd_at, if_neg (by omega)]; exact h1, by rw [upd_at, if_neg (by omega)]; exact h2, by rw [upd_at, if_neg (by omega)]; exact h3, h4⟩
def isz (P : Nat → Int32) (L : Nat) (p : Nat × Bool) (lo hi : Int32) : Int32 := if p.2 = true then nx P L p.1 lo hi else 0
theorem tk0 {F P : Nat → Int32} {L : Nat} {p : Nat × Bool} {lo hi : Int32} (h : RF F L p) (hz : isz P L p lo hi = 0) : (dS P L lo hi p).2 = false ∧ RF (upd (upd F 8 (F 8 + 0)) 9 1) L (dS P L lo hi p) := by
  obtain ⟨h1, h2, h3, h4, h5⟩ := h
  have e : dS P L lo hi p = (p.1, false) := by
    unfold dS
    unfold isz at hz
    split
    · next h9 => rw [if_pos h9] at hz; rw [if_pos hz]
    · rfl
  rw [e]
  refine ⟨rfl, h1, ?_, ?_, h4, h5⟩
  · show F 8 + 0 = nI p.1
    rw [h2, Int32.add_zero]
  · show (1 : Int32) = _
    rfl
theorem tk1 {F P : Nat → Int32} {L : Nat} {p : Nat × Bool} {lo hi : Int32} (h : RF F L p) (hz : ¬ isz P L p lo hi = 0) : F 9 = 0 ∧ p.1 < L ∧ (dS P L lo hi p).2 = true ∧ RF (upd (upd F 8 (F 8 + 1)) 9 0) L (dS P L lo hi p) := by
  obtain ⟨h1, h2, h3, h4, h5⟩ := h
  unfold isz at hz
  split at hz
  · next h9 =>
    have e : dS P L lo hi p = (p.1 + 1, true) := by
      unfold dS
      rw [if_pos h9, if_neg hz]
    have hl := nx_lt hz
    rw [e]
    refine ⟨by rw [h3, if_pos h9], hl, rfl, h1, ?_, ?_, hl, h5⟩
    · show F 8 + 1 = nI (p.1 + 1)
      rw [h2, nI_succ]
    · show (0 : Int32) = _
      rfl
  · exact absurd rfl hz
theorem isz_t {p : Nat × Bool} (h4 : (if p.2 = true then (0 : Int32) else 1) = 0) : p.2 = true := by
  split at h4
  · assumption
  · exact absurd h4 (by decide)
theorem isz_d {P : Nat → Int32} {L : Nat} {p : Nat × Bool} {lo hi : Int32} (h4 : ¬ (if p.2 = true then (0 : Int32) else 1) = 0) : some (Value.int 0) = some (Value.int (isz P L p lo hi)) := by
  unfold isz
  split at h4
  · exact absurd rfl h4
  · next h => rw [if_neg h]
theorem isz_c {P : Nat → Int32} {L : Nat} {p : Nat × Bool} {lo hi : Int32} (h4 : (if p.2 = true then (0 : Int32) else 1) = 0) (h15 : nI L ≤ nI p.1) (h80 : L ≤ 80) (hl : p.1 ≤ L) : some (Value.int 0) = some (Value.int (isz P L p lo hi)) := by
  unfold isz nx
  rw [if_pos (isz_t h4)]
  by_cases hp : p.1 < L
  · exact absurd h15 (nI_nle1 hp (by omega))
  · rw [if_neg hp]
theorem isz_a {P : Nat → Int32} {L : Nat} {p : Nat × Bool} {lo hi : Int32} (h4 : (if p.2 = true then (0 : Int32) else 1) = 0) (h15 : p.1 < L) (h32 : jin (P p.1) lo hi = 0) : some (Value.int 0) = some (Value.int (isz P L p lo hi)) := by
  unfold isz nx
  rw [if_pos (isz_t h4), if_pos h15, h32]
theorem isz_b {P : Nat → Int32} {L : Nat} {p : Nat × Bool} {lo hi : Int32} (h4 : (if p.2 = true then (0 : Int32) else 1) = 0) (h15 : p.1 < L) (h32 : ¬ jin (P p.1) lo hi = 0) : some (Value.int 1) = some (Value.int (isz P L p lo hi)) := by
  unfold isz nx
  rw [if_pos (isz_t h4), if_pos h15]
  rcases (jin01 : jin (P p.1) lo hi = 0 ∨ jin (P p.1) lo hi = 1) with h | h
  · exact absurd h h32
  · rw [h]
theorem isz01 {P : Nat → Int32} {L : Nat} {p : Nat × Bool} {lo hi : Int32} : isz P L p lo hi = 0 ∨ isz P L p lo hi = 1 := by
  unfold isz nx
  split
  · split
    · exact jin01
    · exact Or.inl rfl
  · exact Or.inl rfl
theorem nlt_of {a L : Nat} (h : ¬ nI L ≤ nI a) (ha : a ≤ 80) : a < L := by
  rcases Nat.lt_or_ge a L with g | g
  · exact g
  · exact absurd (nI_le1 g (by omega)) h
set_option maxRecDepth 100000 in
set_option maxHeartbeats 4000000 in
theorem c_X6_isNext {X : jX} {ad : Nat → Nat} {m : Mem} {s : Rw} {F : Nat → Int32} {L : Nat} {p : Nat × Bool} {lo hi : Int32} (hR : RF F L p) : Cd X yX6_isNext cX6_isNext 3 (some .boolean) 1 ad [.ref 195, .int lo, .int hi] (RM m F s) (some (.int (isz (m 200) L p lo hi))) ((RM m F s)) := by
  refine Cm.of (own := RX6) (nm := "isNext") (by decide +kernel) rfl rfl rfl rfl ?_
  obtain ⟨h7, h8, h9, hl, h80⟩ := hR
  refine J_aload_n dX6_isNext_0 rfl rfl ?_
  refine gR_isFaulty wf_X6_163 dX6_isNext_1 ?_
  refine J_topi (fun z9 hz9 => ?_)
  obtain rfl : z9 = (if p.2 = true then 0 else 1) := hz9.trans (by exact h9)
  clear hz9
  refine J_if_ne (tgt := 39) dX6_isNext_4 (by decide) (fun h4 => ?_) (fun h4 => ?_)
  · refine J_iconst (v := 0) dX6_isNext_39 (by decide) ?_
    refine r_bool dX6_isNext_40 (by first | exact Or.inl rfl | exact Or.inr rfl | exact i01 | exact jin01) ?_
    first | exact ⟨isz_a h4 hpl h32, rfl⟩ | exact ⟨isz_b h4 hpl h32, rfl⟩ | exact ⟨isz_c h4 h15 h80 hl, rfl⟩ | exact ⟨isz_d h4, rfl⟩
  · refine J_aload_n dX6_isNext_7 rfl rfl ?_
    refine gR_spot wf_X6_167 dX6_isNext_8 ?_
    refine J_topi (fun z9 hz9 => ?_)
    obtain rfl : z9 = (nI p.1) := hz9.trans (by exact h8)
    clear hz9
    refine J_aload_n dX6_isNext_11 rfl rfl ?_
    refine gR_length wf_X6_152 dX6_isNext_12 ?_
    refine J_topi (fun z9 hz9 => ?_)
    obtain rfl : z9 = (nI L) := hz9.trans (by exact h7)
    clear hz9
    refine J_icmp_ge (tgt := 39) dX6_isNext_15 (by decide) (fun h15 => ?_) (fun h15 => ?_)
    · refine J_iconst (v := 0) dX6_isNext_39 (by decide) ?_
      refine r_bool dX6_isNext_40 (by first | exact Or.inl rfl | exact Or.inr rfl | exact i01 | exact jin01) ?_
      first | exact ⟨isz_a h4 hpl h32, rfl⟩ | exact ⟨isz_b h4 hpl h32, rfl⟩ | exact ⟨isz_c h4 h15 h80 hl, rfl⟩ | exact ⟨isz_d h4, rfl⟩
    · have hpl : p.1 < L := nlt_of h15 (by omega)
      refine J_aload_n dX6_isNext_18 rfl rfl ?_
      refine gX6_pad wf_X6_22 dX6_isNext_19 ?_
      refine J_aload_n dX6_isNext_22 rfl rfl ?_
      refine gR_spot wf_X6_167 dX6_isNext_23 ?_
      refine J_topi (fun z9 hz9 => ?_)
      obtain rfl : z9 = (nI p.1) := hz9.trans (by exact h8)
      clear hz9
      refine rR_pad p.1 (by omega) rfl dX6_isNext_26 ?_
      refine J_iload_n dX6_isNext_27 rfl rfl ?_
      refine J_iload_n dX6_isNext_28 rfl rfl ?_
      refine cSi ws_X6_25 c_X6_in dX6_isNext_29 (kk := ?_)
      refine J_if_eq (tgt := 39) dX6_isNext_32 (by decide) (fun h32 => ?_) (fun h32 => ?_)
      · refine J_iconst (v := 0) dX6_isNext_39 (by decide) ?_
        refine r_bool dX6_isNext_40 (by first | exact Or.inl rfl | exact Or.inr rfl | exact i01 | exact jin01) ?_
        first | exact ⟨isz_a h4 hpl h32, rfl⟩ | exact ⟨isz_b h4 hpl h32, rfl⟩ | exact ⟨isz_c h4 h15 h80 hl, rfl⟩ | exact ⟨isz_d h4, rfl⟩
      · refine J_iconst (v := 1) dX6_isNext_35 (by decide) ?_
        refine J_goto (tgt := 40) dX6_isNext_36 (by decide) ?_
        refine r_bool dX6_isNext_40 (by first | exact Or.inl rfl | exact Or.inr rfl | exact i01 | exact jin01) ?_
        first | exact ⟨isz_a h4 hpl h32, rfl⟩ | exact ⟨isz_b h4 hpl h32, rfl⟩ | exact ⟨isz_c h4 h15 h80 hl, rfl⟩ | exact ⟨isz_d h4, rfl⟩

theorem fr89 {F : Nat → Int32} {x y : Int32} : ∀ k, k ≠ 8 → k ≠ 9 → upd (upd F 8 x) 9 y k = F k := fun k h1 h2 => by rw [upd_at, if_neg h2, upd_at, if_neg h1]
set_option maxRecDepth 100000 in
set_option maxHeartbeats 4000000 in
theorem c_X6_takes {X : jX} {ad : Nat → Nat} {m : Mem} {s : Rw} {F : Nat → Int32} {L : Nat} {p : Nat × Bool} {lo hi : Int32} (hR : RF F L p) : Cm X yX6_takes cX6_takes 5 (some .int) 2 ad [.ref 195, .int lo, .int hi] (RM m F s) (fun v m9 => ∃ G, m9 = RM m G s ∧ v = some (.int (if (dS (m 200) L lo hi p).2 = true then m 200 p.1 - lo else 0)) ∧ RF G L (dS (m 200) L lo hi p) ∧ ∀ k, k ≠ 8 → k ≠ 9 → G k = F k) := by
  refine Cm.of (own := RX6) (nm := "takes") (by decide +kernel) rfl rfl rfl rfl ?_
  refine J_aload_n dX6_takes_0 rfl rfl ?_
  refine J_iload_n dX6_takes_1 rfl rfl ?_
  refine J_iload_n dX6_takes_2 rfl rfl ?_
  refine cVi wv_X6_170 (c_X6_isNext hR) dX6_takes_3 ob6 rfl rfl (kk := ?_)
  refine J_istore_n dX6_takes_6 rfl rfl rfl ?_
  refine J_iload_n dX6_takes_7 rfl rfl ?_
  refine J_if_eq (tgt := 25) dX6_takes_8 (by decide) (fun h8 => ?_) (fun h8 => ?_)
  · refine J_iconst (v := 0) dX6_takes_25 (by decide) ?_
    refine J_istore dX6_takes_26 rfl rfl ?_
    refine J_aload_n dX6_takes_28 rfl rfl ?_
    refine J_dup dX6_takes_29 rfl ?_
    refine gR_spot wf_X6_167 dX6_takes_30 ?_
    refine J_topi (fun z9 hz9 => ?_)
    obtain rfl : z9 = (F 8) := hz9.trans (by rfl)
    clear hz9
    refine J_iload_n dX6_takes_33 rfl rfl ?_
    refine J_if_eq (tgt := 41) dX6_takes_34 (by decide) (fun h34 => ?_) (fun h34 => ?_)
    · refine J_iconst (v := 0) dX6_takes_41 (by decide) ?_
      refine J_iadd dX6_takes_42 ?_
      refine pR_spot wf_X6_167 dX6_takes_43 ?_
      refine J_aload_n dX6_takes_46 rfl rfl ?_
      refine J_aload_n dX6_takes_47 rfl rfl ?_
      refine gR_isFaulty wf_X6_163 dX6_takes_48 ?_
      refine J_topi (fun z9 hz9 => ?_)
      obtain rfl : z9 = (F 9) := hz9.trans (by rfl)
      clear hz9
      refine J_if_ne (tgt := 58) dX6_takes_51 (by decide) (fun h51 => ?_) (fun h51 => ?_)
      · refine J_iconst (v := 1) dX6_takes_58 (by decide) ?_
        refine J_goto (tgt := 63) dX6_takes_59 (by decide) ?_
        refine pR_isFaulty wf_X6_163 dX6_takes_63 (by first | exact Or.inl rfl | exact Or.inr rfl | exact i01 | exact jin01) ?_
        refine J_iload dX6_takes_66 rfl ?_
        refine r_int dX6_takes_68 ?_
        first | exact absurd h8 h34 | exact absurd h34 h8 | exact absurd h8 h55 | exact absurd h55 h8 | exact absurd hf0 h51 | (obtain ⟨hd0, hG⟩ := tk0 hR h8; exact ⟨_, rfl, by rw [if_neg (by rw [hd0]; decide)], hG, fr89⟩) | exact ⟨_, rfl, by rw [if_pos hd1], hG, fr89⟩
      · refine J_iload_n dX6_takes_54 rfl rfl ?_
        refine J_if_ne (tgt := 62) dX6_takes_55 (by decide) (fun h55 => ?_) (fun h55 => ?_)
        · refine J_iconst (v := 0) dX6_takes_62 (by decide) ?_
          refine pR_isFaulty wf_X6_163 dX6_takes_63 (by first | exact Or.inl rfl | exact Or.inr rfl | exact i01 | exact jin01) ?_
          refine J_iload dX6_takes_66 rfl ?_
          refine r_int dX6_takes_68 ?_
          first | exact absurd h8 h34 | exact absurd h34 h8 | exact absurd h8 h55 | exact absurd h55 h8 | exact absurd hf0 h51 | (obtain ⟨hd0, hG⟩ := tk0 hR h8; exact ⟨_, rfl, by rw [if_neg (by rw [hd0]; decide)], hG, fr89⟩) | exact ⟨_, rfl, by rw [if_pos hd1], hG, fr89⟩
        · refine J_iconst (v := 1) dX6_takes_58 (by decide) ?_
          refine J_goto (tgt := 63) dX6_takes_59 (by decide) ?_
          refine pR_isFaulty wf_X6_163 dX6_takes_63 (by first | exact Or.inl rfl | exact Or.inr rfl | exact i01 | exact jin01) ?_
          refine J_iload dX6_takes_66 rfl ?_
          refine r_int dX6_takes_68 ?_
          first | exact absurd h8 h34 | exact absurd h34 h8 | exact absurd h8 h55 | exact absurd h55 h8 | exact absurd hf0 h51 | (obtain ⟨hd0, hG⟩ := tk0 hR h8; exact ⟨_, rfl, by rw [if_neg (by rw [hd0]; decide)], hG, fr89⟩) | exact ⟨_, rfl, by rw [if_pos hd1], hG, fr89⟩
    · refine J_iconst (v := 1) dX6_takes_37 (by decide) ?_
      refine J_goto (tgt := 42) dX6_takes_38 (by decide) ?_
      refine J_iadd dX6_takes_42 ?_
      refine pR_spot wf_X6_167 dX6_takes_43 ?_
      refine J_aload_n dX6_takes_46 rfl rfl ?_
      refine J_aload_n dX6_takes_47 rfl rfl ?_
      refine gR_isFaulty wf_X6_163 dX6_takes_48 ?_
      refine J_topi (fun z9 hz9 => ?_)
      obtain rfl : z9 = (F 9) := hz9.trans (by rfl)
      clear hz9
      refine J_if_ne (tgt := 58) dX6_takes_51 (by decide) (fun h51 => ?_) (fun h51 => ?_)
      · refine J_iconst (v := 1) dX6_takes_58 (by decide) ?_
        refine J_goto (tgt := 63) dX6_takes_59 (by decide) ?_
        refine pR_isFaulty wf_X6_163 dX6_takes_63 (by first | exact Or.inl rfl | exact Or.inr rfl | exact i01 | exact jin01) ?_
        refine J_iload dX6_takes_66 rfl ?_
        refine r_int dX6_takes_68 ?_
        first | exact absurd h8 h34 | exact absurd h34 h8 | exact absurd h8 h55 | exact absurd h55 h8 | exact absurd hf0 h51 | (obtain ⟨hd0, hG⟩ := tk0 hR h8; exact ⟨_, rfl, by rw [if_neg (by rw [hd0]; decide)], hG, fr89⟩) | exact ⟨_, rfl, by rw [if_pos hd1], hG, fr89⟩
      · refine J_iload_n dX6_takes_54 rfl rfl ?_
        refine J_if_ne (tgt := 62) dX6_takes_55 (by decide) (fun h55 => ?_) (fun h55 => ?_)
        · refine J_iconst (v := 0) dX6_takes_62 (by decide) ?_
          refine pR_isFaulty wf_X6_163 dX6_takes_63 (by first | exact Or.inl rfl | exact Or.inr rfl | exact i01 | exact jin01) ?_
          refine J_iload dX6_takes_66 rfl ?_
          refine r_int dX6_takes_68 ?_
          first | exact absurd h8 h34 | exact absurd h34 h8 | exact absurd h8 h55 | exact absurd h55 h8 | exact absurd hf0 h51 | (obtain ⟨hd0, hG⟩ := tk0 hR h8; exact ⟨_, rfl, by rw [if_neg (by rw [hd0]; decide)], hG, fr89⟩) | exact ⟨_, rfl, by rw [if_pos hd1], hG, fr89⟩
        · refine J_iconst (v := 1) dX6_takes_58 (by decide) ?_
          refine J_goto (tgt := 63) dX6_takes_59 (by decide) ?_
          refine pR_isFaulty wf_X6_163 dX6_takes_63 (by first | exact Or.inl rfl | exact Or.inr rfl | exact i01 | exact jin01) ?_
          refine J_iload dX6_takes_66 rfl ?_
          refine r_int dX6_takes_68 ?_
          first | exact absurd h8 h34 | exact absurd h34 h8 | exact absurd h8 h55 | exact absurd h55 h8 | exact absurd hf0 h51 | (obtain ⟨hd0, hG⟩ := tk0 hR h8; exact ⟨_, rfl, by rw [if_neg (by rw [hd0]; decide)], hG, fr89⟩) | exact ⟨_, rfl, by rw [if_pos hd1], hG, fr89⟩
  · obtain ⟨hf0, hpl, hd1, hG⟩ := tk1 hR h8
    refine J_aload_n dX6_takes_11 rfl rfl ?_
    refine gX6_pad wf_X6_22 dX6_takes_12 ?_
    refine J_aload_n dX6_takes_15 rfl rfl ?_
    refine gR_spot wf_X6_167 dX6_takes_16 ?_
    refine J_topi (fun z9 hz9 => ?_)
    obtain rfl : z9 = (nI p.1) := hz9.trans (by exact hR.2.1)
    clear hz9
    refine rR_pad p.1 (by have := hR.2.2.2.2; omega) rfl dX6_takes_19 ?_
    refine J_iload_n dX6_takes_20 rfl rfl ?_
    refine J_isub dX6_takes_21 ?_
    refine J_goto (tgt := 26) dX6_takes_22 (by decide) ?_
    refine J_istore dX6_takes_26 rfl rfl ?_
    refine J_aload_n dX6_takes_28 rfl rfl ?_
    refine J_dup dX6_takes_29 rfl ?_
    refine gR_spot wf_X6_167 dX6_takes_30 ?_
    refine J_topi (fun z9 hz9 => ?_)
    obtain rfl : z9 = (F 8) := hz9.trans (by rfl)
    clear hz9
    refine J_iload_n dX6_takes_33 rfl rfl ?_
    refine J_if_eq (tgt := 41) dX6_takes_34 (by decide) (fun h34 => ?_) (fun h34 => ?_)
    · refine J_iconst (v := 0) dX6_takes_41 (by decide) ?_
      refine J_iadd dX6_takes_42 ?_
      refine pR_spot wf_X6_167 dX6_takes_43 ?_
      refine J_aload_n dX6_takes_46 rfl rfl ?_
      refine J_aload_n dX6_takes_47 rfl rfl ?_
      refine gR_isFaulty wf_X6_163 dX6_takes_48 ?_
      refine J_topi (fun z9 hz9 => ?_)
      obtain rfl : z9 = (F 9) := hz9.trans (by rfl)
      clear hz9
      refine J_if_ne (tgt := 58) dX6_takes_51 (by decide) (fun h51 => ?_) (fun h51 => ?_)
      · refine J_iconst (v := 1) dX6_takes_58 (by decide) ?_
        refine J_goto (tgt := 63) dX6_takes_59 (by decide) ?_
        refine pR_isFaulty wf_X6_163 dX6_takes_63 (by first | exact Or.inl rfl | exact Or.inr rfl | exact i01 | exact jin01) ?_
        refine J_iload dX6_takes_66 rfl ?_
        refine r_int dX6_takes_68 ?_
        first | exact absurd h8 h34 | exact absurd h34 h8 | exact absurd h8 h55 | exact absurd h55 h8 | exact absurd hf0 h51 | (obtain ⟨hd0, hG⟩ := tk0 hR h8; exact ⟨_, rfl, by rw [if_neg (by rw [hd0]; decide)], hG, fr89⟩) | exact ⟨_, rfl, by rw [if_pos hd1], hG, fr89⟩
      · refine J_iload_n dX6_takes_54 rfl rfl ?_
        refine J_if_ne (tgt := 62) dX6_takes_55 (by decide) (fun h55 => ?_) (fun h55 => ?_)
        · refine J_iconst (v := 0) dX6_takes_62 (by decide) ?_
          refine pR_isFaulty wf_X6_163 dX6_takes_63 (by first | exact Or.inl rfl | exact Or.inr rfl | exact i01 | exact jin01) ?_
          refine J_iload dX6_takes_66 rfl ?_
          refine r_int dX6_takes_68 ?_
          first | exact absurd h8 h34 | exact absurd h34 h8 | exact absurd h8 h55 | exact absurd h55 h8 | exact absurd hf0 h51 | (obtain ⟨hd0, hG⟩ := tk0 hR h8; exact ⟨_, rfl, by rw [if_neg (by rw [hd0]; decide)], hG, fr89⟩) | exact ⟨_, rfl, by rw [if_pos hd1], hG, fr89⟩
        · refine J_iconst (v := 1) dX6_takes_58 (by decide) ?_
          refine J_goto (tgt := 63) dX6_takes_59 (by decide) ?_
          refine pR_isFaulty wf_X6_163 dX6_takes_63 (by first | exact Or.inl rfl | exact Or.inr rfl | exact i01 | exact jin01) ?_
          refine J_iload dX6_takes_66 rfl ?_
          refine r_int dX6_takes_68 ?_
          first | exact absurd h8 h34 | exact absurd h34 h8 | exact absurd h8 h55 | exact absurd h55 h8 | exact absurd hf0 h51 | (obtain ⟨hd0, hG⟩ := tk0 hR h8; exact ⟨_, rfl, by rw [if_neg (by rw [hd0]; decide)], hG, fr89⟩) | exact ⟨_, rfl, by rw [if_pos hd1], hG, fr89⟩
    · refine J_iconst (v := 1) dX6_takes_37 (by decide) ?_
      refine J_goto (tgt := 42) dX6_takes_38 (by decide) ?_
      refine J_iadd dX6_takes_42 ?_
      refine pR_spot wf_X6_167 dX6_takes_43 ?_
      refine J_aload_n dX6_takes_46 rfl rfl ?_
      refine J_aload_n dX6_takes_47 rfl rfl ?_
      refine gR_isFaulty wf_X6_163 dX6_takes_48 ?_
      refine J_topi (fun z9 hz9 => ?_)
      obtain rfl : z9 = (F 9) := hz9.trans (by rfl)
      clear hz9
      refine J_if_ne (tgt := 58) dX6_takes_51 (by decide) (fun h51 => ?_) (fun h51 => ?_)
      · refine J_iconst (v := 1) dX6_takes_58 (by decide) ?_
        refine J_goto (tgt := 63) dX6_takes_59 (by decide) ?_
        refine pR_isFaulty wf_X6_163 dX6_takes_63 (by first | exact Or.inl rfl | exact Or.inr rfl | exact i01 | exact jin01) ?_
        refine J_iload dX6_takes_66 rfl ?_
        refine r_int dX6_takes_68 ?_
        first | exact absurd h8 h34 | exact absurd h34 h8 | exact absurd h8 h55 | exact absurd h55 h8 | exact absurd hf0 h51 | (obtain ⟨hd0, hG⟩ := tk0 hR h8; exact ⟨_, rfl, by rw [if_neg (by rw [hd0]; decide)], hG, fr89⟩) | exact ⟨_, rfl, by rw [if_pos hd1], hG, fr89⟩
      · refine J_iload_n dX6_takes_54 rfl rfl ?_
        refine J_if_ne (tgt := 62) dX6_takes_55 (by decide) (fun h55 => ?_) (fun h55 => ?_)
        · refine J_iconst (v := 0) dX6_takes_62 (by decide) ?_
          refine pR_isFaulty wf_X6_163 dX6_takes_63 (by first | exact Or.inl rfl | exact Or.inr rfl | exact i01 | exact jin01) ?_
          refine J_iload dX6_takes_66 rfl ?_
          refine r_int dX6_takes_68 ?_
          first | exact absurd h8 h34 | exact absurd h34 h8 | exact absurd h8 h55 | exact absurd h55 h8 | exact absurd hf0 h51 | (obtain ⟨hd0, hG⟩ := tk0 hR h8; exact ⟨_, rfl, by rw [if_neg (by rw [hd0]; decide)], hG, fr89⟩) | exact ⟨_, rfl, by rw [if_pos hd1], hG, fr89⟩
        · refine J_iconst (v := 1) dX6_takes_58 (by decide) ?_
          refine J_goto (tgt := 63) dX6_takes_59 (by decide) ?_
          refine pR_isFaulty wf_X6_163 dX6_takes_63 (by first | exact Or.inl rfl | exact Or.inr rfl | exact i01 | exact jin01) ?_
          refine J_iload dX6_takes_66 rfl ?_
          refine r_int dX6_takes_68 ?_
          first | exact absurd h8 h34 | exact absurd h34 h8 | exact absurd h8 h55 | exact absurd h55 h8 | exact absurd hf0 h51 | (obtain ⟨hd0, hG⟩ := tk0 hR h8; exact ⟨_, rfl, by rw [if_neg (by rw [hd0]; decide)], hG, fr89⟩) | exact ⟨_, rfl, by rw [if_pos hd1], hG, fr89⟩

theorem dS_no {P : Nat → Int32} {L : Nat} {lo hi : Int32} {p : Nat × Bool} (h : ¬ (dS P L lo hi p).2 = true) : dS P L lo hi p = (p.1, false) := by
  unfold dS at h ⊢
  split
  · next h1 =>
    rw [if_pos h1] at h
    split
    · rfl
    · next h2 => rw [if_neg h2] at h; exact absurd rfl h
  · rfl
theorem nS_no {P : Nat → Int32} {L : Nat} {p : Nat × Bool} (h : dS P L 48 57 p = (p.1, false)) : nS P L p = (p.1, false) := by
  unfold dS at h
  unfold nS
  split
  · next h1 =>
    rw [if_pos h1] at h
    split
    · rfl
    · next h2 =>
      rw [if_neg h2] at h
      exact absurd (congrArg Prod.fst h) (by show ¬ (p.1 + 1 = p.1); omega)
  · rfl
/-- a number of one sign -/
theorem nS_1 {P : Nat → Int32} {L : Nat} {p : Nat × Bool} (h : (dS P L 48 57 p).2 = true) (hz : P p.1 - 48 ≤ 0 ∨ isz P L (dS P L 48 57 p) 48 57 = 0) : nS P L p = dS P L 48 57 p ∧ nV P L p.1 = P p.1 - 48 := by
  obtain ⟨h1, h2, h3, h4⟩ := dS_ok h
  have hx : ¬ nx P L p.1 48 57 = 0 := by unfold nx; rw [if_pos h2]; exact h3
  rw [h4] at hz ⊢
  unfold nS nV
  rw [if_pos h1, if_neg hx]
  by_cases h5 : P p.1 - 48 ≤ 0
  · rw [if_pos h5, if_pos h5]; exact ⟨rfl, rfl⟩
  · rcases hz with hz | hz
    · exact absurd hz h5
    · have hz : nx P L (p.1 + 1) 48 57 = 0 := by unfold isz at hz; rw [if_pos rfl] at hz; exact hz
      rw [if_neg h5, if_neg h5, if_pos hz, if_pos hz]; exact ⟨rfl, rfl⟩
/-- a number of two signs -/
theorem nS_2 {P : Nat → Int32} {L : Nat} {p : Nat × Bool} (h : (dS P L 48 57 p).2 = true) (h5 : ¬ P p.1 - 48 ≤ 0) (hz : ¬ isz P L (dS P L 48 57 p) 48 57 = 0) : nS P L p = dS P L 48 57 (dS P L 48 57 p) ∧ (dS P L 48 57 (dS P L 48 57 p)).2 = true ∧ nV P L p.1 = 10 * (P p.1 - 48) + (P (dS P L 48 57 p).1 - 48) := by
  obtain ⟨h1, h2, h3, h4⟩ := dS_ok h
  have hx : ¬ nx P L p.1 48 57 = 0 := by unfold nx; rw [if_pos h2]; exact h3
  rw [h4] at hz ⊢
  have hz : ¬ nx P L (p.1 + 1) 48 57 = 0 := by unfold isz at hz; rw [if_pos rfl] at hz; exact hz
  unfold nS nV dS
  rw [if_pos h1, if_neg hx, if_neg h5, if_neg hz, if_neg h5, if_neg hz, if_pos rfl, if_neg hz]
  exact ⟨rfl, rfl, rfl⟩
theorem num_end1 {P : Nat → Int32} {L : Nat} {p : Nat × Bool} {G : Nat → Int32} (hG : RF G L (dS P L 48 57 p)) (hz : (if (dS P L 48 57 p).2 = true then P p.1 - 48 else 0) ≤ 0 ∨ isz P L (dS P L 48 57 p) 48 57 = 0) : ((nS P L p).2 = true → (if (dS P L 48 57 p).2 = true then P p.1 - 48 else 0) = nV P L p.1) ∧ RF G L (nS P L p) := by
  by_cases h : (dS P L 48 57 p).2 = true
  · rw [if_pos h] at hz ⊢
    obtain ⟨e1, e2⟩ := nS_1 h hz
    rw [e1, e2]
    exact ⟨fun _ => rfl, hG⟩
  · have e := dS_no h
    have e2 := nS_no e
    rw [e2]
    rw [e] at hG
    exact ⟨fun q => absurd (show false = true from q) (by decide), hG⟩
theorem num_2 {P : Nat → Int32} {L : Nat} {p : Nat × Bool} (h10 : ¬ (if (dS P L 48 57 p).2 = true then P p.1 - 48 else 0) ≤ 0) : (dS P L 48 57 p).2 = true ∧ ¬ P p.1 - 48 ≤ 0 := by
  by_cases h : (dS P L 48 57 p).2 = true
  · rw [if_pos h] at h10; exact ⟨h, h10⟩
  · rw [if_neg h] at h10; exact absurd (by decide) h10
def NumFin (m : Mem) (s : Rw) (F : Nat → Int32) (L : Nat) (p : Nat × Bool) (v : Option Value) (m9 : Mem) : Prop := ∃ G a, m9 = RM m G s ∧ v = some (.int a) ∧ ((nS (m 200) L p).2 = true → a = nV (m 200) L p.1) ∧ RF G L (nS (m 200) L p) ∧ ∀ k, k ≠ 8 → k ≠ 9 → G k = F k
theorem numA {m : Mem} {s : Rw} {F G : Nat → Int32} {L : Nat} {p : Nat × Bool} (hG : RF G L (dS (m 200) L 48 57 p)) (hfr : ∀ k, k ≠ 8 → k ≠ 9 → G k = F k) (hz : (if (dS (m 200) L 48 57 p).2 = true then m 200 p.1 - 48 else 0) ≤ 0) : NumFin m s F L p (some (.int (if (dS (m 200) L 48 57 p).2 = true then m 200 p.1 - 48 else 0))) (RM m G s) := by
  obtain ⟨a1, a2⟩ := num_end1 hG (Or.inl hz)
  exact ⟨G, _, rfl, rfl, a1, a2, hfr⟩
theorem numB {m : Mem} {s : Rw} {F G : Nat → Int32} {L : Nat} {p : Nat × Bool} (hG : RF G L (dS (m 200) L 48 57 p)) (hfr : ∀ k, k ≠ 8 → k ≠ 9 → G k = F k) (hz : isz (m 200) L (dS (m 200) L 48 57 p) 48 57 = 0) : NumFin m s F L p (some (.int (if (dS (m 200) L 48 57 p).2 = true then m 200 p.1 - 48 else 0))) (RM m G s) := by
  obtain ⟨a1, a2⟩ := num_end1 hG (Or.inr hz)
  exact ⟨G, _, rfl, rfl, a1, a2, hfr⟩
theorem numC {m : Mem} {s : Rw} {F G G3 : Nat → Int32} {L : Nat} {p : Nat × Bool} (hfr : ∀ k, k ≠ 8 → k ≠ 9 → G k = F k) (h10 : ¬ (if (dS (m 200) L 48 57 p).2 = true then m 200 p.1 - 48 else 0) ≤ 0) (h21 : ¬ isz (m 200) L (dS (m 200) L 48 57 p) 48 57 = 0) (hR3 : RF G3 L (dS (m 200) L 48 57 (dS (m 200) L 48 57 p))) (hfr3 : ∀ k, k ≠ 8 → k ≠ 9 → G3 k = G k) : NumFin m s F L p (some (.int (10 * (if (dS (m 200) L 48 57 p).2 = true then m 200 p.1 - 48 else 0) + (if (dS (m 200) L 48 57 (dS (m 200) L 48 57 p)).2 = true then m 200 (dS (m 200) L 48 57 p).1 - 48 else 0)))) (RM m G3 s) := by
  obtain ⟨b1, b2⟩ := num_2 h10
  obtain ⟨a1, a2, a3⟩ := nS_2 b1 b2 h21
  exact ⟨G3, _, rfl, rfl, fun _ => by rw [a3, if_pos b1, if_pos a2], by rw [a1]; exact hR3, fun k k1 k2 => (hfr3 k k1 k2).trans (hfr k k1 k2)⟩
set_option maxRecDepth 100000 in
set_option maxHeartbeats 4000000 in
theorem c_X6_number {X : jX} {ad : Nat → Nat} {m : Mem} {s : Rw} {F : Nat → Int32} {L : Nat} {p : Nat × Bool}  (hR : RF F L p) : Cm X yX6_number cX6_number 2 (some .int) 3 ad [.ref 195] (RM m F s) (NumFin m s F L p) := by
  refine Cm.of (own := RX6) (nm := "number") (by decide +kernel) rfl rfl rfl rfl ?_
  refine J_aload_n dX6_number_0 rfl rfl ?_
  refine J_bipush (v := 48) dX6_number_1 (by decide) ?_
  refine J_bipush (v := 57) dX6_number_3 (by decide) ?_
  refine cVg wv_X6_173 (c_X6_takes (lo := 48) (hi := 57) hR) dX6_number_5 ob6 rfl rfl (kk := (fun v m9 hf => ?_))
  obtain ⟨G, rfl, rfl, hR2, hfr⟩ := hf
  refine J_istore_n dX6_number_8 rfl rfl rfl ?_
  refine J_iload_n dX6_number_9 rfl rfl ?_
  refine J_if_le (tgt := 38) dX6_number_10 (by decide) (fun h10 => ?_) (fun h10 => ?_)
  · refine J_iload_n dX6_number_38 rfl rfl ?_
    refine r_int dX6_number_39 ?_
    first | exact numA hR2 hfr h10 | exact numB hR2 hfr h21 | exact numC hfr h10 h21 hR3 hfr3
  · refine J_aload_n dX6_number_13 rfl rfl ?_
    refine J_bipush (v := 48) dX6_number_14 (by decide) ?_
    refine J_bipush (v := 57) dX6_number_16 (by decide) ?_
    refine cVi wv_X6_170 (c_X6_isNext (lo := 48) (hi := 57) hR2) dX6_number_18 ob6 rfl rfl (kk := ?_)
    refine J_if_eq (tgt := 38) dX6_number_21 (by decide) (fun h21 => ?_) (fun h21 => ?_)
    · refine J_iload_n dX6_number_38 rfl rfl ?_
      refine r_int dX6_number_39 ?_
      first | exact numA hR2 hfr h10 | exact numB hR2 hfr h21 | exact numC hfr h10 h21 hR3 hfr3
    · refine J_bipush (v := 10) dX6_number_24 (by decide) ?_
      refine J_iload_n dX6_number_26 rfl rfl ?_
      refine J_imul dX6_number_27 ?_
      refine J_aload_n dX6_number_28 rfl rfl ?_
      refine J_bipush (v := 48) dX6_number_29 (by decide) ?_
      refine J_bipush (v := 57) dX6_number_31 (by decide) ?_
      refine cVg wv_X6_173 (c_X6_takes (lo := 48) (hi := 57) hR2) dX6_number_33 ob6 rfl rfl (kk := (fun v m9 hf => ?_))
      obtain ⟨G3, rfl, rfl, hR3, hfr3⟩ := hf
      refine J_iadd dX6_number_36 ?_
      refine J_istore_n dX6_number_37 rfl rfl rfl ?_
      refine J_iload_n dX6_number_38 rfl rfl ?_
      refine r_int dX6_number_39 ?_
      first | exact numA hR2 hfr h10 | exact numB hR2 hfr h21 | exact numC hfr h10 h21 hR3 hfr3

set_option maxRecDepth 100000 in
set_option maxHeartbeats 4000000 in
theorem c_X6_between {X : jX} {ad : Nat → Nat} {mem : Mem} {c : Int32}  : Cd X yX6_between cX6_between 1 (some .int) 0 ad [.int c] mem (some (.int (if c = 98 then 46 else if c = 105 then 64 else 45))) (mem) := by
  refine Cm.of (own := RX6) (nm := "between") (by decide +kernel) rfl rfl rfl rfl ?_
  refine J_iload_n dX6_between_0 rfl rfl ?_
  refine J_bipush (v := 98) dX6_between_1 (by decide) ?_
  refine J_icmp_ne (tgt := 11) dX6_between_3 (by decide) (fun h3 => ?_) (fun h3 => ?_)
  · refine J_iload_n dX6_between_11 rfl rfl ?_
    refine J_bipush (v := 105) dX6_between_12 (by decide) ?_
    refine J_icmp_ne (tgt := 22) dX6_between_14 (by decide) (fun h14 => ?_) (fun h14 => ?_)
    · refine J_bipush (v := 45) dX6_between_22 (by decide) ?_
      refine r_int dX6_between_24 ?_
      exact ⟨by first | (rw [if_pos h3]; done) | (rw [if_neg h3, if_pos h14]; done) | (rw [if_neg h3, if_neg h14]; done), rfl⟩
    · refine J_bipush (v := 64) dX6_between_17 (by decide) ?_
      refine J_goto (tgt := 24) dX6_between_19 (by decide) ?_
      refine r_int dX6_between_24 ?_
      exact ⟨by first | (rw [if_pos h3]; done) | (rw [if_neg h3, if_pos h14]; done) | (rw [if_neg h3, if_neg h14]; done), rfl⟩
  · refine J_bipush (v := 46) dX6_between_6 (by decide) ?_
    refine J_goto (tgt := 24) dX6_between_8 (by decide) ?_
    refine r_int dX6_between_24 ?_
    exact ⟨by first | (rw [if_pos h3]; done) | (rw [if_neg h3, if_pos h14]; done) | (rw [if_neg h3, if_neg h14]; done), rfl⟩

