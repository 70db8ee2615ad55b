theorem up_apply (m : Mem) (c k : Nat) (v : Int32) (c' k' : Nat) : up m c k v c' k' = if c' = c ∧ k' = k then v else m c' k' := by
  unfold up upC upd
  by_cases h : c' = c
  · subst h
    by_cases h2 : k' = k <;> simp [h2]
  · simp [h]
theorem upC_apply (m : Mem) (c : Nat) (F : Nat → Int32) (c' : Nat) : upC m c F c' = if c' = c then F else m c' := rfl
theorem upC_ne {m : Mem} {c : Nat} {F : Nat → Int32} {c' : Nat} (h : c' ≠ c) : upC m c F c' = m c' := if_neg h
theorem up_ne {m : Mem} {c k : Nat} {v : Int32} {c' : Nat} (h : c' ≠ c) : up m c k v c' = m c' := if_neg h
theorem le0 {x : Int32} (h : x = 0) : x ≤ 0 := by subst h; decide
def jin (v lo hi : Int32) : Int32 := if v < lo then 0 else if hi < v then 0 else 1
theorem jin01 {v lo hi : Int32} : jin v lo hi = 0 ∨ jin v lo hi = 1 := by
  unfold jin
  split
  · exact Or.inl rfl
  · split
    · exact Or.inl rfl
    · exact Or.inr rfl
theorem nIin {k n : Nat} (h : k < n) (hn : n < 2147483648) : vp_in (nI k) n := vp_in_nI h (by omega)
theorem nI_ofN {x : Int32} (h : ¬ x < 0) : x = nI x.toNatClampNeg := by
  have h1 := Int32.not_lt.mp h
  rw [Int32.le_iff_toInt_le] at h1
  have h0 : (0 : Int32).toInt = 0 := rfl
  rw [h0] at h1
  have h2 : x.toInt < 2147483648 := x.toInt_lt
  have h3 : x.toNatClampNeg = x.toInt.toNat := rfl
  apply Int32.toInt_inj.mp
  rw [nI_toInt (by omega)]
  omega
theorem tin {w : Int32} {n : Nat} {m : Int} (hn : m + 1 = (n : Int)) (h : ¬ (w.toInt < 0 ∨ m < w.toInt)) : ∃ k, k < n ∧ w = nI k := by
  have hx : ¬ w < 0 := by
    rw [Int32.not_lt, Int32.le_iff_toInt_le]
    have h0 : (0 : Int32).toInt = 0 := rfl
    rw [h0]
    omega
  refine ⟨w.toNatClampNeg, ?_, nI_ofN hx⟩
  have h3 : w.toNatClampNeg = w.toInt.toNat := rfl
  omega
theorem jin_nat {x lo hi : Int32} {n : Nat} (hlo : ¬ lo < 0) (hn : hi.toInt = (n : Int)) (h : ¬ jin x lo hi = 0) : ∃ k, k ≤ n ∧ x = nI k := by
  unfold jin at h
  split at h
  · exact absurd rfl h
  · next h1 =>
    split at h
    · exact absurd rfl h
    · next h2 =>
      have a1 := Int32.not_lt.mp h1
      have a2 := Int32.not_lt.mp h2
      have a3 := Int32.not_lt.mp hlo
      rw [Int32.le_iff_toInt_le] at a1 a2 a3
      have h0 : (0 : Int32).toInt = 0 := rfl
      rw [h0] at a3
      have hx : ¬ x < 0 := by
        rw [Int32.not_lt, Int32.le_iff_toInt_le, h0]
        omega
      refine ⟨x.toNatClampNeg, ?_, nI_ofN hx⟩
      have h3 : x.toNatClampNeg = x.toInt.toNat := rfl
      omega
theorem nI_le1 {a b : Nat} (h : a ≤ b) (hb : b < 100000) : nI a ≤ nI b := by
  rw [Int32.le_iff_toInt_le, nI_toInt (by omega), nI_toInt (by omega)]
  omega
theorem nI_nle1 {a b : Nat} (h : a < b) (hb : b < 100000) : ¬ nI b ≤ nI a := by
  rw [Int32.le_iff_toInt_le, nI_toInt (by omega), nI_toInt (by omega)]
  omega
def lst (s : Int32) : Int32 := if s = 0 then 0 else if s = 4 then 10 else 1
def mst (s : Int32) : Int32 := if s = 0 then 1 else if s = 1 then 50 else if s = 4 then 300 else 9
theorem nI_cl {k : Nat} (h : k < 2147483648) : (nI k).toNatClampNeg = k := by
  have e : (nI k).toNatClampNeg = (nI k).toInt.toNat := rfl
  rw [e, nI_toInt (by omega)]
  rfl
section DUP
variable {X : jX} {own : String} {cc : ByteArray} {nL : Nat} {ret : Option FieldType} {nm : String} {d CR SR : Nat} {Q : List Frame → Array Value → State → State → Prop} {ad : Nat → Nat} {cells slots pc : Nat} {lv : List (Nat × Value)} {st : List Value} {ws : va_W}
theorem J_dup2 {v u : Value} (hdg : decode cc pc = .ok (.dup2, 1)) (hv : v.category = 1) (hu : u.category = 1) (k : Jg X own cc nL ret nm d CR SR Q ad cells slots (pc + 1) (lv) (v :: u :: v :: u :: st) (ws)) : Jg X own cc nL ret nm d CR SR Q ad cells slots (pc) (lv) (v :: u :: st) (ws) := by
  intro p e R s m args below meth c H locs ls hC hP hD hS hl
  exact lv_dup2_11 hC.1 hC.2.1 hdg (by rw [em_cat]; exact hv) (by rw [em_cat]; exact hu) (k p e R s m args below meth c H locs ls hC hP hD hS hl)
end DUP

/-- the memory with the reference's row -/
abbrev Rw : Type := Nat → Int32
def SM (m : Mem) (s : Rw) : Mem := upC m 196 s
theorem SM_self (m : Mem) : SM m (m 196) = m := by
  funext c
  unfold SM upC
  split
  · next h => rw [h]
  · rfl
theorem SM_at {m : Mem} {s : Rw} : SM m s 196 = s := by
  unfold SM upC
  exact if_pos rfl
theorem SM_ne {m : Mem} {s : Rw} {c : Nat} (h : c ≠ 196) : SM m s c = m c := by
  unfold SM upC
  exact if_neg h
theorem SM_up {m : Mem} {s : Rw} {k : Nat} {v : Int32} : up (SM m s) 196 k v = SM m (upd s k v) := by
  funext c
  unfold up SM upC
  by_cases h : c = 196
  · subst h; simp
  · simp [h]
theorem SM_upC {m : Mem} {s t : Rw} {c : Nat} (h : c ≠ 196) : upC (SM m s) c t = SM (upC m c t) s := by
  funext c'
  unfold SM upC
  by_cases h1 : c' = 196
  · subst h1; simp [Ne.symm h]
  · simp [h1]
theorem SM_up2 {m : Mem} {s : Rw} {c k : Nat} {v : Int32} (h : c ≠ 196) : up (SM m s) c k v = SM (up m c k v) s := by
  unfold up
  rw [SM_upC h, SM_ne h]
theorem SM_SM {m : Mem} {s t : Rw} : upC (SM m s) 196 t = SM m t := by
  funext c
  unfold SM upC
  by_cases h : c = 196 <;> simp [h]
theorem upd_at {s : Rw} {k j : Nat} {v : Int32} : upd s k v j = if j = k then v else s j := rfl
/-- a board's places -/
def fb (i k : Nat) : Nat := 6 + 11 * i + k
theorem fb_lt {i k : Nat} (hi : i < 8) (hk : k < 11) : fb i k < 94 := by unfold fb; omega
theorem fb_302 {i k : Nat} (hi : i < 8) (hk : k < 11) : fb i k < 302 := by unfold fb; omega
theorem fb_inj {i j k l : Nat} (hk : k < 11) (hl : l < 11) : (fb i k = fb j l) = (i = j ∧ k = l) := by
  apply propext
  unfold fb
  constructor
  · intro h; omega
  · rintro ⟨rfl, rfl⟩; rfl
theorem fb_i32 {i k : Nat} : (6 + 11 * nI i + nI k : Int32) = nI (fb i k) := by
  have h : (11 : Int32) * nI i = nI (11 * i) := by simp [nI]
  have h2 : (6 : Int32) + nI (11 * i) = nI (6 + 11 * i) := by simp [nI]
  rw [h, h2, nI_add]
  rfl
theorem wd_i32 {k : Nat} : (95 + nI k : Int32) = nI (95 + k) := by simp [nI]
section ROW
variable {X : jX} {own : String} {cc : ByteArray} {nL : Nat} {ret : Option FieldType} {nm : String} {d CR SR : Nat} {Q : List Frame → Array Value → State → State → Prop} {ad : Nat → Nat} {cells slots pc : Nat} {lv : List (Nat × Value)} {st : List Value} {m : Mem} {s : Rw}
theorem rd_s (k : Nat) {i : Int32} (hk : k < 302) (hi : i = nI k) (hdg : decode cc pc = .ok (.iaload, 1)) (kk : Jg X own cc nL ret nm d CR SR Q ad cells slots (pc + 1) lv (.int (s k) :: st) (WS X ad (SM m s))) : Jg X own cc nL ret nm d CR SR Q ad cells slots (pc) lv (.int i :: .ref 196 :: st) (WS X ad (SM m s)) := by
  subst hi
  refine al_ms hdg (nIin hk (by decide)) ?_
  rw [nI_cl (by omega), SM_at]
  exact kk
theorem wr_s (k : Nat) {i x : Int32} (hk : k < 302) (hi : i = nI k) (hdg : decode cc pc = .ok (.iastore, 1)) (kk : Jg X own cc nL ret nm d CR SR Q ad cells slots (pc + 1) lv (st) (WS X ad (SM m (upd s k x)))) : Jg X own cc nL ret nm d CR SR Q ad cells slots (pc) lv (.int x :: .int i :: .ref 196 :: st) (WS X ad (SM m s)) := by
  subst hi
  refine as_ms hdg (nIin hk (by decide)) ?_
  rw [nI_cl (by omega), SM_up]
  exact kk
end ROW
