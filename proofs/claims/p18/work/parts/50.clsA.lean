/-- the memory with a block's cells -/
def SB (m : Mem) (b : Nat) (B : Mem) : Mem := fun c => if b ≤ c ∧ c < b + 17 then B (c - b) else m c
def blk (m : Mem) (b : Nat) : Mem := fun r => m (b + r)
theorem SB_at {m : Mem} {b r : Nat} {B : Mem} (hr : r < 17) : SB m b B (b + r) = B r := by
  unfold SB
  rw [if_pos (by omega), show b + r - b = r by omega]
theorem SB_0 {m : Mem} {b : Nat} {B : Mem} : SB m b B b = B 0 := SB_at (r := 0) (by decide)
theorem SB_ne {m : Mem} {b c : Nat} {B : Mem} (h : c < b ∨ b + 17 ≤ c) : SB m b B c = m c := by
  unfold SB
  rw [if_neg (by omega)]
theorem SB_self {m : Mem} {b : Nat} : SB m b (blk m b) = m := by
  funext c
  unfold SB blk
  split
  · next h => rw [show b + (c - b) = c by omega]
  · rfl
theorem SB_upC {m : Mem} {b r : Nat} {B : Mem} {F : Nat → Int32} (hr : r < 17) : upC (SB m b B) (b + r) F = SB m b (upC B r F) := by
  funext c
  unfold upC SB
  by_cases h : c = b + r
  · subst h
    rw [if_pos rfl, if_pos (by omega)]
    show F = if b + r - b = r then F else B (b + r - b)
    rw [if_pos (by omega)]
  · rw [if_neg h]
    split
    · next h2 =>
      show B (c - b) = if c - b = r then F else B (c - b)
      rw [if_neg (by omega)]
    · rfl
theorem SB_up {m : Mem} {b r k : Nat} {B : Mem} {v : Int32} (hr : r < 17) : up (SB m b B) (b + r) k v = SB m b (up B r k v) := by
  unfold up
  rw [SB_upC hr, SB_at hr]
theorem SB_up0 {m : Mem} {b k : Nat} {B : Mem} {v : Int32} : up (SB m b B) b k v = SB m b (up B 0 k v) := SB_up (r := 0) (by decide)
theorem SB_SB {m : Mem} {b : Nat} {B C : Mem} : SB (SB m b B) b C = SB m b C := by
  funext c
  unfold SB
  split
  · rfl
  · rfl
theorem SB_agree {m : Mem} {b : Nat} {B C : Mem} (h : ∀ r, r < 17 → B r = C r) : SB m b B = SB m b C := by
  funext c
  unfold SB
  split
  · exact h _ (by omega)
  · rfl
section SBR
variable {X : jX} {own : String} {cc : ByteArray} {nL : Nat} {ret : Option FieldType} {nm : String} {d CR SR : Nat} {Q : List Frame → Array Value → State → State → Prop} {ad : Nat → Nat} {cells slots pc : Nat} {lv : List (Nat × Value)} {st : List Value} {m B : Mem}
theorem gB_boardCount {b : Nat} (h : isB b) {index : Nat} (hw : Cond.fieldLink own index "PlugPins$Backplane" "boardCount" "I" ∈ TW) (hdg : decode cc pc = .ok (.getfield index, 3)) (kk : Jg X own cc nL ret nm d CR SR Q ad cells slots (pc + 3) (lv) (.int (B (0) 3) :: st) (WS X ad (SB m b (B)))) : Jg X own cc nL ret nm d CR SR Q ad cells slots (pc) (lv) (.ref (b) :: st) (WS X ad (SB m b (B))) := by
  refine gX0_boardCount h hw hdg ?_
  rw [SB_0]
  exact kk
theorem pB_boardCount {b : Nat} (h : isB b) {index : Nat} {x : Int32} (hw : Cond.fieldLink own index "PlugPins$Backplane" "boardCount" "I" ∈ TW) (hdg : decode cc pc = .ok (.putfield index, 3)) (kk : Jg X own cc nL ret nm d CR SR Q ad cells slots (pc + 3) (lv) (st) (WS X ad (SB m b (up B (0) 3 x)))) : Jg X own cc nL ret nm d CR SR Q ad cells slots (pc) (lv) (.int x :: .ref (b) :: st) (WS X ad (SB m b (B))) := by
  refine pX0_boardCount h hw hdg ?_
  rw [SB_up0]
  exact kk
theorem gB_time {b : Nat} (h : isB b) {index : Nat} (hw : Cond.fieldLink own index "PlugPins$Backplane" "time" "I" ∈ TW) (hdg : decode cc pc = .ok (.getfield index, 3)) (kk : Jg X own cc nL ret nm d CR SR Q ad cells slots (pc + 3) (lv) (.int (B (0) 4) :: st) (WS X ad (SB m b (B)))) : Jg X own cc nL ret nm d CR SR Q ad cells slots (pc) (lv) (.ref (b) :: st) (WS X ad (SB m b (B))) := by
  refine gX0_time h hw hdg ?_
  rw [SB_0]
  exact kk
theorem pB_time {b : Nat} (h : isB b) {index : Nat} {x : Int32} (hw : Cond.fieldLink own index "PlugPins$Backplane" "time" "I" ∈ TW) (hdg : decode cc pc = .ok (.putfield index, 3)) (kk : Jg X own cc nL ret nm d CR SR Q ad cells slots (pc + 3) (lv) (st) (WS X ad (SB m b (up B (0) 4 x)))) : Jg X own cc nL ret nm d CR SR Q ad cells slots (pc) (lv) (.int x :: .ref (b) :: st) (WS X ad (SB m b (B))) := by
  refine pX0_time h hw hdg ?_
  rw [SB_up0]
  exact kk
theorem gB_plugs {b : Nat} (h : isB b) {index : Nat} (hw : Cond.fieldLink own index "PlugPins$Backplane" "plugs" "I" ∈ TW) (hdg : decode cc pc = .ok (.getfield index, 3)) (kk : Jg X own cc nL ret nm d CR SR Q ad cells slots (pc + 3) (lv) (.int (B (0) 5) :: st) (WS X ad (SB m b (B)))) : Jg X own cc nL ret nm d CR SR Q ad cells slots (pc) (lv) (.ref (b) :: st) (WS X ad (SB m b (B))) := by
  refine gX0_plugs h hw hdg ?_
  rw [SB_0]
  exact kk
theorem pB_plugs {b : Nat} (h : isB b) {index : Nat} {x : Int32} (hw : Cond.fieldLink own index "PlugPins$Backplane" "plugs" "I" ∈ TW) (hdg : decode cc pc = .ok (.putfield index, 3)) (kk : Jg X own cc nL ret nm d CR SR Q ad cells slots (pc + 3) (lv) (st) (WS X ad (SB m b (up B (0) 5 x)))) : Jg X own cc nL ret nm d CR SR Q ad cells slots (pc) (lv) (.int x :: .ref (b) :: st) (WS X ad (SB m b (B))) := by
  refine pX0_plugs h hw hdg ?_
  rw [SB_up0]
  exact kk
theorem gB_code {b i : Nat} (h : isB b) (hi : i < 8) {index : Nat} (hw : Cond.fieldLink own index "PlugPins$Board" "code" "I" ∈ TW) (hdg : decode cc pc = .ok (.getfield index, 3)) (kk : Jg X own cc nL ret nm d CR SR Q ad cells slots (pc + 3) (lv) (.int (B (3 + i) 0) :: st) (WS X ad (SB m b (B)))) : Jg X own cc nL ret nm d CR SR Q ad cells slots (pc) (lv) (.ref (b + (3 + i)) :: st) (WS X ad (SB m b (B))) := by
  refine gX1_code h hi hw hdg ?_
  rw [SB_at (by omega)]
  exact kk
theorem pB_code {b i : Nat} (h : isB b) (hi : i < 8) {index : Nat} {x : Int32} (hw : Cond.fieldLink own index "PlugPins$Board" "code" "I" ∈ TW) (hdg : decode cc pc = .ok (.putfield index, 3)) (kk : Jg X own cc nL ret nm d CR SR Q ad cells slots (pc + 3) (lv) (st) (WS X ad (SB m b (up B (3 + i) 0 x)))) : Jg X own cc nL ret nm d CR SR Q ad cells slots (pc) (lv) (.int x :: .ref (b + (3 + i)) :: st) (WS X ad (SB m b (B))) := by
  refine pX1_code h hi hw hdg ?_
  rw [SB_up (by omega)]
  exact kk
theorem gB_current {b i : Nat} (h : isB b) (hi : i < 8) {index : Nat} (hw : Cond.fieldLink own index "PlugPins$Board" "current" "I" ∈ TW) (hdg : decode cc pc = .ok (.getfield index, 3)) (kk : Jg X own cc nL ret nm d CR SR Q ad cells slots (pc + 3) (lv) (.int (B (3 + i) 1) :: st) (WS X ad (SB m b (B)))) : Jg X own cc nL ret nm d CR SR Q ad cells slots (pc) (lv) (.ref (b + (3 + i)) :: st) (WS X ad (SB m b (B))) := by
  refine gX1_current h hi hw hdg ?_
  rw [SB_at (by omega)]
  exact kk
theorem pB_current {b i : Nat} (h : isB b) (hi : i < 8) {index : Nat} {x : Int32} (hw : Cond.fieldLink own index "PlugPins$Board" "current" "I" ∈ TW) (hdg : decode cc pc = .ok (.putfield index, 3)) (kk : Jg X own cc nL ret nm d CR SR Q ad cells slots (pc + 3) (lv) (st) (WS X ad (SB m b (up B (3 + i) 1 x)))) : Jg X own cc nL ret nm d CR SR Q ad cells slots (pc) (lv) (.int x :: .ref (b + (3 + i)) :: st) (WS X ad (SB m b (B))) := by
  refine pX1_current h hi hw hdg ?_
  rw [SB_up (by omega)]
  exact kk
theorem gB_slot {b i : Nat} (h : isB b) (hi : i < 8) {index : Nat} (hw : Cond.fieldLink own index "PlugPins$Board" "slot" "I" ∈ TW) (hdg : decode cc pc = .ok (.getfield index, 3)) (kk : Jg X own cc nL ret nm d CR SR Q ad cells slots (pc + 3) (lv) (.int (B (3 + i) 2) :: st) (WS X ad (SB m b (B)))) : Jg X own cc nL ret nm d CR SR Q ad cells slots (pc) (lv) (.ref (b + (3 + i)) :: st) (WS X ad (SB m b (B))) := by
  refine gX1_slot h hi hw hdg ?_
  rw [SB_at (by omega)]
  exact kk
theorem pB_slot {b i : Nat} (h : isB b) (hi : i < 8) {index : Nat} {x : Int32} (hw : Cond.fieldLink own index "PlugPins$Board" "slot" "I" ∈ TW) (hdg : decode cc pc = .ok (.putfield index, 3)) (kk : Jg X own cc nL ret nm d CR SR Q ad cells slots (pc + 3) (lv) (st) (WS X ad (SB m b (up B (3 + i) 2 x)))) : Jg X own cc nL ret nm d CR SR Q ad cells slots (pc) (lv) (.int x :: .ref (b + (3 + i)) :: st) (WS X ad (SB m b (B))) := by
  refine pX1_slot h hi hw hdg ?_
  rw [SB_up (by omega)]
  exact kk
theorem gB_depth {b i : Nat} (h : isB b) (hi : i < 8) {index : Nat} (hw : Cond.fieldLink own index "PlugPins$Board" "depth" "I" ∈ TW) (hdg : decode cc pc = .ok (.getfield index, 3)) (kk : Jg X own cc nL ret nm d CR SR Q ad cells slots (pc + 3) (lv) (.int (B (3 + i) 3) :: st) (WS X ad (SB m b (B)))) : Jg X own cc nL ret nm d CR SR Q ad cells slots (pc) (lv) (.ref (b + (3 + i)) :: st) (WS X ad (SB m b (B))) := by
  refine gX1_depth h hi hw hdg ?_
  rw [SB_at (by omega)]
  exact kk
theorem pB_depth {b i : Nat} (h : isB b) (hi : i < 8) {index : Nat} {x : Int32} (hw : Cond.fieldLink own index "PlugPins$Board" "depth" "I" ∈ TW) (hdg : decode cc pc = .ok (.putfield index, 3)) (kk : Jg X own cc nL ret nm d CR SR Q ad cells slots (pc + 3) (lv) (st) (WS X ad (SB m b (up B (3 + i) 3 x)))) : Jg X own cc nL ret nm d CR SR Q ad cells slots (pc) (lv) (.int x :: .ref (b + (3 + i)) :: st) (WS X ad (SB m b (B))) := by
  refine pX1_depth h hi hw hdg ?_
  rw [SB_up (by omega)]
  exact kk
theorem gB_speed {b i : Nat} (h : isB b) (hi : i < 8) {index : Nat} (hw : Cond.fieldLink own index "PlugPins$Board" "speed" "I" ∈ TW) (hdg : decode cc pc = .ok (.getfield index, 3)) (kk : Jg X own cc nL ret nm d CR SR Q ad cells slots (pc + 3) (lv) (.int (B (3 + i) 4) :: st) (WS X ad (SB m b (B)))) : Jg X own cc nL ret nm d CR SR Q ad cells slots (pc) (lv) (.ref (b + (3 + i)) :: st) (WS X ad (SB m b (B))) := by
  refine gX1_speed h hi hw hdg ?_
  rw [SB_at (by omega)]
  exact kk
theorem pB_speed {b i : Nat} (h : isB b) (hi : i < 8) {index : Nat} {x : Int32} (hw : Cond.fieldLink own index "PlugPins$Board" "speed" "I" ∈ TW) (hdg : decode cc pc = .ok (.putfield index, 3)) (kk : Jg X own cc nL ret nm d CR SR Q ad cells slots (pc + 3) (lv) (st) (WS X ad (SB m b (up B (3 + i) 4 x)))) : Jg X own cc nL ret nm d CR SR Q ad cells slots (pc) (lv) (.int x :: .ref (b + (3 + i)) :: st) (WS X ad (SB m b (B))) := by
  refine pX1_speed h hi hw hdg ?_
  rw [SB_up (by omega)]
  exact kk
theorem gB_power {b i : Nat} (h : isB b) (hi : i < 8) {index : Nat} (hw : Cond.fieldLink own index "PlugPins$Board" "power" "I" ∈ TW) (hdg : decode cc pc = .ok (.getfield index, 3)) (kk : Jg X own cc nL ret nm d CR SR Q ad cells slots (pc + 3) (lv) (.int (B (3 + i) 5) :: st) (WS X ad (SB m b (B)))) : Jg X own cc nL ret nm d CR SR Q ad cells slots (pc) (lv) (.ref (b + (3 + i)) :: st) (WS X ad (SB m b (B))) := by
  refine gX1_power h hi hw hdg ?_
  rw [SB_at (by omega)]
  exact kk
theorem pB_power {b i : Nat} (h : isB b) (hi : i < 8) {index : Nat} {x : Int32} (hw : Cond.fieldLink own index "PlugPins$Board" "power" "I" ∈ TW) (hdg : decode cc pc = .ok (.putfield index, 3)) (kk : Jg X own cc nL ret nm d CR SR Q ad cells slots (pc + 3) (lv) (st) (WS X ad (SB m b (up B (3 + i) 5 x)))) : Jg X own cc nL ret nm d CR SR Q ad cells slots (pc) (lv) (.int x :: .ref (b + (3 + i)) :: st) (WS X ad (SB m b (B))) := by
  refine pX1_power h hi hw hdg ?_
  rw [SB_up (by omega)]
  exact kk
theorem gB_isKnown {b i : Nat} (h : isB b) (hi : i < 8) {index : Nat} (hw : Cond.fieldLink own index "PlugPins$Board" "isKnown" "Z" ∈ TW) (hdg : decode cc pc = .ok (.getfield index, 3)) (kk : Jg X own cc nL ret nm d CR SR Q ad cells slots (pc + 3) (lv) (.int (B (3 + i) 6) :: st) (WS X ad (SB m b (B)))) : Jg X own cc nL ret nm d CR SR Q ad cells slots (pc) (lv) (.ref (b + (3 + i)) :: st) (WS X ad (SB m b (B))) := by
  refine gX1_isKnown h hi hw hdg ?_
  rw [SB_at (by omega)]
  exact kk
theorem pB_isKnown {b i : Nat} (h : isB b) (hi : i < 8) {index : Nat} {x : Int32} (hw : Cond.fieldLink own index "PlugPins$Board" "isKnown" "Z" ∈ TW) (hdg : decode cc pc = .ok (.putfield index, 3)) (hz : x = 0 ∨ x = 1) (kk : Jg X own cc nL ret nm d CR SR Q ad cells slots (pc + 3) (lv) (st) (WS X ad (SB m b (up B (3 + i) 6 x)))) : Jg X own cc nL ret nm d CR SR Q ad cells slots (pc) (lv) (.int x :: .ref (b + (3 + i)) :: st) (WS X ad (SB m b (B))) := by
  refine pX1_isKnown h hi hw hdg hz ?_
  rw [SB_up (by omega)]
  exact kk
theorem gB_hasAsked {b i : Nat} (h : isB b) (hi : i < 8) {index : Nat} (hw : Cond.fieldLink own index "PlugPins$Board" "hasAsked" "Z" ∈ TW) (hdg : decode cc pc = .ok (.getfield index, 3)) (kk : Jg X own cc nL ret nm d CR SR Q ad cells slots (pc + 3) (lv) (.int (B (3 + i) 7) :: st) (WS X ad (SB m b (B)))) : Jg X own cc nL ret nm d CR SR Q ad cells slots (pc) (lv) (.ref (b + (3 + i)) :: st) (WS X ad (SB m b (B))) := by
  refine gX1_hasAsked h hi hw hdg ?_
  rw [SB_at (by omega)]
  exact kk
theorem pB_hasAsked {b i : Nat} (h : isB b) (hi : i < 8) {index : Nat} {x : Int32} (hw : Cond.fieldLink own index "PlugPins$Board" "hasAsked" "Z" ∈ TW) (hdg : decode cc pc = .ok (.putfield index, 3)) (hz : x = 0 ∨ x = 1) (kk : Jg X own cc nL ret nm d CR SR Q ad cells slots (pc + 3) (lv) (st) (WS X ad (SB m b (up B (3 + i) 7 x)))) : Jg X own cc nL ret nm d CR SR Q ad cells slots (pc) (lv) (.int x :: .ref (b + (3 + i)) :: st) (WS X ad (SB m b (B))) := by
  refine pX1_hasAsked h hi hw hdg hz ?_
  rw [SB_up (by omega)]
  exact kk
theorem gB_greeted {b i : Nat} (h : isB b) (hi : i < 8) {index : Nat} (hw : Cond.fieldLink own index "PlugPins$Board" "greeted" "I" ∈ TW) (hdg : decode cc pc = .ok (.getfield index, 3)) (kk : Jg X own cc nL ret nm d CR SR Q ad cells slots (pc + 3) (lv) (.int (B (3 + i) 8) :: st) (WS X ad (SB m b (B)))) : Jg X own cc nL ret nm d CR SR Q ad cells slots (pc) (lv) (.ref (b + (3 + i)) :: st) (WS X ad (SB m b (B))) := by
  refine gX1_greeted h hi hw hdg ?_
  rw [SB_at (by omega)]
  exact kk
theorem pB_greeted {b i : Nat} (h : isB b) (hi : i < 8) {index : Nat} {x : Int32} (hw : Cond.fieldLink own index "PlugPins$Board" "greeted" "I" ∈ TW) (hdg : decode cc pc = .ok (.putfield index, 3)) (kk : Jg X own cc nL ret nm d CR SR Q ad cells slots (pc + 3) (lv) (st) (WS X ad (SB m b (up B (3 + i) 8 x)))) : Jg X own cc nL ret nm d CR SR Q ad cells slots (pc) (lv) (.int x :: .ref (b + (3 + i)) :: st) (WS X ad (SB m b (B))) := by
  refine pX1_greeted h hi hw hdg ?_
  rw [SB_up (by omega)]
  exact kk
theorem gB_pulledTooSoon {b i : Nat} (h : isB b) (hi : i < 8) {index : Nat} (hw : Cond.fieldLink own index "PlugPins$Board" "pulledTooSoon" "I" ∈ TW) (hdg : decode cc pc = .ok (.getfield index, 3)) (kk : Jg X own cc nL ret nm d CR SR Q ad cells slots (pc + 3) (lv) (.int (B (3 + i) 9) :: st) (WS X ad (SB m b (B)))) : Jg X own cc nL ret nm d CR SR Q ad cells slots (pc) (lv) (.ref (b + (3 + i)) :: st) (WS X ad (SB m b (B))) := by
  refine gX1_pulledTooSoon h hi hw hdg ?_
  rw [SB_at (by omega)]
  exact kk
theorem pB_pulledTooSoon {b i : Nat} (h : isB b) (hi : i < 8) {index : Nat} {x : Int32} (hw : Cond.fieldLink own index "PlugPins$Board" "pulledTooSoon" "I" ∈ TW) (hdg : decode cc pc = .ok (.putfield index, 3)) (kk : Jg X own cc nL ret nm d CR SR Q ad cells slots (pc + 3) (lv) (st) (WS X ad (SB m b (up B (3 + i) 9 x)))) : Jg X own cc nL ret nm d CR SR Q ad cells slots (pc) (lv) (.int x :: .ref (b + (3 + i)) :: st) (WS X ad (SB m b (B))) := by
  refine pX1_pulledTooSoon h hi hw hdg ?_
  rw [SB_up (by omega)]
  exact kk
theorem gB_sent {b : Nat} (h : isB b) {index : Nat} (hw : Cond.fieldLink own index "PlugPins$Bus" "sent" "I" ∈ TW) (hdg : decode cc pc = .ok (.getfield index, 3)) (kk : Jg X own cc nL ret nm d CR SR Q ad cells slots (pc + 3) (lv) (.int (B (11) 4) :: st) (WS X ad (SB m b (B)))) : Jg X own cc nL ret nm d CR SR Q ad cells slots (pc) (lv) (.ref (b + 11) :: st) (WS X ad (SB m b (B))) := by
  refine gX2_sent h hw hdg ?_
  rw [SB_at (by omega)]
  exact kk
theorem pB_sent {b : Nat} (h : isB b) {index : Nat} {x : Int32} (hw : Cond.fieldLink own index "PlugPins$Bus" "sent" "I" ∈ TW) (hdg : decode cc pc = .ok (.putfield index, 3)) (kk : Jg X own cc nL ret nm d CR SR Q ad cells slots (pc + 3) (lv) (st) (WS X ad (SB m b (up B (11) 4 x)))) : Jg X own cc nL ret nm d CR SR Q ad cells slots (pc) (lv) (.int x :: .ref (b + 11) :: st) (WS X ad (SB m b (B))) := by
  refine pX2_sent h hw hdg ?_
  rw [SB_up (by omega)]
  exact kk
theorem gB_queued {b : Nat} (h : isB b) {index : Nat} (hw : Cond.fieldLink own index "PlugPins$Bus" "queued" "I" ∈ TW) (hdg : decode cc pc = .ok (.getfield index, 3)) (kk : Jg X own cc nL ret nm d CR SR Q ad cells slots (pc + 3) (lv) (.int (B (11) 6) :: st) (WS X ad (SB m b (B)))) : Jg X own cc nL ret nm d CR SR Q ad cells slots (pc) (lv) (.ref (b + 11) :: st) (WS X ad (SB m b (B))) := by
  refine gX2_queued h hw hdg ?_
  rw [SB_at (by omega)]
  exact kk
theorem pB_queued {b : Nat} (h : isB b) {index : Nat} {x : Int32} (hw : Cond.fieldLink own index "PlugPins$Bus" "queued" "I" ∈ TW) (hdg : decode cc pc = .ok (.putfield index, 3)) (kk : Jg X own cc nL ret nm d CR SR Q ad cells slots (pc + 3) (lv) (st) (WS X ad (SB m b (up B (11) 6 x)))) : Jg X own cc nL ret nm d CR SR Q ad cells slots (pc) (lv) (.int x :: .ref (b + 11) :: st) (WS X ad (SB m b (B))) := by
  refine pX2_queued h hw hdg ?_
  rw [SB_up (by omega)]
  exact kk
theorem gB_onBus {b : Nat} (h : isB b) {index : Nat} (hw : Cond.fieldLink own index "PlugPins$Bus" "onBus" "I" ∈ TW) (hdg : decode cc pc = .ok (.getfield index, 3)) (kk : Jg X own cc nL ret nm d CR SR Q ad cells slots (pc + 3) (lv) (.int (B (11) 7) :: st) (WS X ad (SB m b (B)))) : Jg X own cc nL ret nm d CR SR Q ad cells slots (pc) (lv) (.ref (b + 11) :: st) (WS X ad (SB m b (B))) := by
  refine gX2_onBus h hw hdg ?_
  rw [SB_at (by omega)]
  exact kk
theorem pB_onBus {b : Nat} (h : isB b) {index : Nat} {x : Int32} (hw : Cond.fieldLink own index "PlugPins$Bus" "onBus" "I" ∈ TW) (hdg : decode cc pc = .ok (.putfield index, 3)) (kk : Jg X own cc nL ret nm d CR SR Q ad cells slots (pc + 3) (lv) (st) (WS X ad (SB m b (up B (11) 7 x)))) : Jg X own cc nL ret nm d CR SR Q ad cells slots (pc) (lv) (.int x :: .ref (b + 11) :: st) (WS X ad (SB m b (B))) := by
  refine pX2_onBus h hw hdg ?_
  rw [SB_up (by omega)]
  exact kk
theorem gB_ticksLeft {b : Nat} (h : isB b) {index : Nat} (hw : Cond.fieldLink own index "PlugPins$Bus" "ticksLeft" "I" ∈ TW) (hdg : decode cc pc = .ok (.getfield index, 3)) (kk : Jg X own cc nL ret nm d CR SR Q ad cells slots (pc + 3) (lv) (.int (B (11) 8) :: st) (WS X ad (SB m b (B)))) : Jg X own cc nL ret nm d CR SR Q ad cells slots (pc) (lv) (.ref (b + 11) :: st) (WS X ad (SB m b (B))) := by
  refine gX2_ticksLeft h hw hdg ?_
  rw [SB_at (by omega)]
  exact kk
theorem pB_ticksLeft {b : Nat} (h : isB b) {index : Nat} {x : Int32} (hw : Cond.fieldLink own index "PlugPins$Bus" "ticksLeft" "I" ∈ TW) (hdg : decode cc pc = .ok (.putfield index, 3)) (kk : Jg X own cc nL ret nm d CR SR Q ad cells slots (pc + 3) (lv) (st) (WS X ad (SB m b (up B (11) 8 x)))) : Jg X own cc nL ret nm d CR SR Q ad cells slots (pc) (lv) (.int x :: .ref (b + 11) :: st) (WS X ad (SB m b (B))) := by
  refine pX2_ticksLeft h hw hdg ?_
  rw [SB_up (by omega)]
  exact kk
theorem gB_delivered {b : Nat} (h : isB b) {index : Nat} (hw : Cond.fieldLink own index "PlugPins$Bus" "delivered" "I" ∈ TW) (hdg : decode cc pc = .ok (.getfield index, 3)) (kk : Jg X own cc nL ret nm d CR SR Q ad cells slots (pc + 3) (lv) (.int (B (11) 9) :: st) (WS X ad (SB m b (B)))) : Jg X own cc nL ret nm d CR SR Q ad cells slots (pc) (lv) (.ref (b + 11) :: st) (WS X ad (SB m b (B))) := by
  refine gX2_delivered h hw hdg ?_
  rw [SB_at (by omega)]
  exact kk
theorem pB_delivered {b : Nat} (h : isB b) {index : Nat} {x : Int32} (hw : Cond.fieldLink own index "PlugPins$Bus" "delivered" "I" ∈ TW) (hdg : decode cc pc = .ok (.putfield index, 3)) (kk : Jg X own cc nL ret nm d CR SR Q ad cells slots (pc + 3) (lv) (st) (WS X ad (SB m b (up B (11) 9 x)))) : Jg X own cc nL ret nm d CR SR Q ad cells slots (pc) (lv) (.int x :: .ref (b + 11) :: st) (WS X ad (SB m b (B))) := by
  refine pX2_delivered h hw hdg ?_
  rw [SB_up (by omega)]
  exact kk
theorem gB_lost {b : Nat} (h : isB b) {index : Nat} (hw : Cond.fieldLink own index "PlugPins$Bus" "lost" "I" ∈ TW) (hdg : decode cc pc = .ok (.getfield index, 3)) (kk : Jg X own cc nL ret nm d CR SR Q ad cells slots (pc + 3) (lv) (.int (B (11) 10) :: st) (WS X ad (SB m b (B)))) : Jg X own cc nL ret nm d CR SR Q ad cells slots (pc) (lv) (.ref (b + 11) :: st) (WS X ad (SB m b (B))) := by
  refine gX2_lost h hw hdg ?_
  rw [SB_at (by omega)]
  exact kk
theorem pB_lost {b : Nat} (h : isB b) {index : Nat} {x : Int32} (hw : Cond.fieldLink own index "PlugPins$Bus" "lost" "I" ∈ TW) (hdg : decode cc pc = .ok (.putfield index, 3)) (kk : Jg X own cc nL ret nm d CR SR Q ad cells slots (pc + 3) (lv) (st) (WS X ad (SB m b (up B (11) 10 x)))) : Jg X own cc nL ret nm d CR SR Q ad cells slots (pc) (lv) (.int x :: .ref (b + 11) :: st) (WS X ad (SB m b (B))) := by
  refine pX2_lost h hw hdg ?_
  rw [SB_up (by omega)]
  exact kk
theorem gB_hurtSoFar {b : Nat} (h : isB b) {index : Nat} (hw : Cond.fieldLink own index "PlugPins$Bus" "hurtSoFar" "I" ∈ TW) (hdg : decode cc pc = .ok (.getfield index, 3)) (kk : Jg X own cc nL ret nm d CR SR Q ad cells slots (pc + 3) (lv) (.int (B (11) 11) :: st) (WS X ad (SB m b (B)))) : Jg X own cc nL ret nm d CR SR Q ad cells slots (pc) (lv) (.ref (b + 11) :: st) (WS X ad (SB m b (B))) := by
  refine gX2_hurtSoFar h hw hdg ?_
  rw [SB_at (by omega)]
  exact kk
theorem pB_hurtSoFar {b : Nat} (h : isB b) {index : Nat} {x : Int32} (hw : Cond.fieldLink own index "PlugPins$Bus" "hurtSoFar" "I" ∈ TW) (hdg : decode cc pc = .ok (.putfield index, 3)) (kk : Jg X own cc nL ret nm d CR SR Q ad cells slots (pc + 3) (lv) (st) (WS X ad (SB m b (up B (11) 11 x)))) : Jg X own cc nL ret nm d CR SR Q ad cells slots (pc) (lv) (.int x :: .ref (b + 11) :: st) (WS X ad (SB m b (B))) := by
  refine pX2_hurtSoFar h hw hdg ?_
  rw [SB_up (by omega)]
  exact kk
theorem rB_set {b : Nat} (h : isB b) (k : Nat) {i : Int32} (hk : k < 5) (hi : i = nI k) (hdg : decode cc pc = .ok (.iaload, 1)) (kk : Jg X own cc nL ret nm d CR SR Q ad cells slots (pc + 1) (lv) (.int (B 1 k) :: st) (WS X ad (SB m b (B)))) : Jg X own cc nL ret nm d CR SR Q ad cells slots (pc) (lv) (.int i :: .ref (b + 1) :: st) (WS X ad (SB m b (B))) := by
  subst hi
  refine al_set h hdg (nIin hk (by decide)) ?_
  rw [nI_cl (by omega), show b + 1 = b + 1 from rfl, SB_at (by decide)]
  exact kk
theorem wB_set {b : Nat} (h : isB b) (k : Nat) {i x : Int32} (hk : k < 5) (hi : i = nI k) (hdg : decode cc pc = .ok (.iastore, 1)) (kk : Jg X own cc nL ret nm d CR SR Q ad cells slots (pc + 1) (lv) (st) (WS X ad (SB m b (up B 1 k x)))) : Jg X own cc nL ret nm d CR SR Q ad cells slots (pc) (lv) (.int x :: .int i :: .ref (b + 1) :: st) (WS X ad (SB m b (B))) := by
  subst hi
  refine as_set h hdg (nIin hk (by decide)) ?_
  rw [nI_cl (by omega), show b + 1 = b + 1 from rfl, SB_up (by decide)]
  exact kk
theorem rB_w12 {b : Nat} (h : isB b) (k : Nat) {i : Int32} (hk : k < 200) (hi : i = nI k) (hdg : decode cc pc = .ok (.iaload, 1)) (kk : Jg X own cc nL ret nm d CR SR Q ad cells slots (pc + 1) (lv) (.int (B 12 k) :: st) (WS X ad (SB m b (B)))) : Jg X own cc nL ret nm d CR SR Q ad cells slots (pc) (lv) (.int i :: .ref (b + 11 + 1) :: st) (WS X ad (SB m b (B))) := by
  subst hi
  refine al_w12 h hdg (nIin hk (by decide)) ?_
  rw [nI_cl (by omega), show b + 11 + 1 = b + 12 from rfl, SB_at (by decide)]
  exact kk
theorem wB_w12 {b : Nat} (h : isB b) (k : Nat) {i x : Int32} (hk : k < 200) (hi : i = nI k) (hdg : decode cc pc = .ok (.iastore, 1)) (kk : Jg X own cc nL ret nm d CR SR Q ad cells slots (pc + 1) (lv) (st) (WS X ad (SB m b (up B 12 k x)))) : Jg X own cc nL ret nm d CR SR Q ad cells slots (pc) (lv) (.int x :: .int i :: .ref (b + 11 + 1) :: st) (WS X ad (SB m b (B))) := by
  subst hi
  refine as_w12 h hdg (nIin hk (by decide)) ?_
  rw [nI_cl (by omega), show b + 11 + 1 = b + 12 from rfl, SB_up (by decide)]
  exact kk
theorem rB_w13 {b : Nat} (h : isB b) (k : Nat) {i : Int32} (hk : k < 200) (hi : i = nI k) (hdg : decode cc pc = .ok (.iaload, 1)) (kk : Jg X own cc nL ret nm d CR SR Q ad cells slots (pc + 1) (lv) (.int (B 13 k) :: st) (WS X ad (SB m b (B)))) : Jg X own cc nL ret nm d CR SR Q ad cells slots (pc) (lv) (.int i :: .ref (b + 11 + 2) :: st) (WS X ad (SB m b (B))) := by
  subst hi
  refine al_w13 h hdg (nIin hk (by decide)) ?_
  rw [nI_cl (by omega), show b + 11 + 2 = b + 13 from rfl, SB_at (by decide)]
  exact kk
theorem wB_w13 {b : Nat} (h : isB b) (k : Nat) {i x : Int32} (hk : k < 200) (hi : i = nI k) (hdg : decode cc pc = .ok (.iastore, 1)) (kk : Jg X own cc nL ret nm d CR SR Q ad cells slots (pc + 1) (lv) (st) (WS X ad (SB m b (up B 13 k x)))) : Jg X own cc nL ret nm d CR SR Q ad cells slots (pc) (lv) (.int x :: .int i :: .ref (b + 11 + 2) :: st) (WS X ad (SB m b (B))) := by
  subst hi
  refine as_w13 h hdg (nIin hk (by decide)) ?_
  rw [nI_cl (by omega), show b + 11 + 2 = b + 13 from rfl, SB_up (by decide)]
  exact kk
theorem rB_w14 {b : Nat} (h : isB b) (k : Nat) {i : Int32} (hk : k < 200) (hi : i = nI k) (hdg : decode cc pc = .ok (.iaload, 1)) (kk : Jg X own cc nL ret nm d CR SR Q ad cells slots (pc + 1) (lv) (.int (B 14 k) :: st) (WS X ad (SB m b (B)))) : Jg X own cc nL ret nm d CR SR Q ad cells slots (pc) (lv) (.int i :: .ref (b + 11 + 3) :: st) (WS X ad (SB m b (B))) := by
  subst hi
  refine al_w14 h hdg (nIin hk (by decide)) ?_
  rw [nI_cl (by omega), show b + 11 + 3 = b + 14 from rfl, SB_at (by decide)]
  exact kk
theorem wB_w14 {b : Nat} (h : isB b) (k : Nat) {i x : Int32} (hk : k < 200) (hi : i = nI k) (hdg : decode cc pc = .ok (.iastore, 1)) (kk : Jg X own cc nL ret nm d CR SR Q ad cells slots (pc + 1) (lv) (st) (WS X ad (SB m b (up B 14 k x)))) : Jg X own cc nL ret nm d CR SR Q ad cells slots (pc) (lv) (.int x :: .int i :: .ref (b + 11 + 3) :: st) (WS X ad (SB m b (B))) := by
  subst hi
  refine as_w14 h hdg (nIin hk (by decide)) ?_
  rw [nI_cl (by omega), show b + 11 + 3 = b + 14 from rfl, SB_up (by decide)]
  exact kk
theorem rB_w15 {b : Nat} (h : isB b) (k : Nat) {i : Int32} (hk : k < 200) (hi : i = nI k) (hdg : decode cc pc = .ok (.iaload, 1)) (kk : Jg X own cc nL ret nm d CR SR Q ad cells slots (pc + 1) (lv) (.int (B 15 k) :: st) (WS X ad (SB m b (B)))) : Jg X own cc nL ret nm d CR SR Q ad cells slots (pc) (lv) (.int i :: .ref (b + 11 + 4) :: st) (WS X ad (SB m b (B))) := by
  subst hi
  refine al_w15 h hdg (nIin hk (by decide)) ?_
  rw [nI_cl (by omega), show b + 11 + 4 = b + 15 from rfl, SB_at (by decide)]
  exact kk
theorem wB_w15 {b : Nat} (h : isB b) (k : Nat) {i x : Int32} (hk : k < 200) (hi : i = nI k) (hdg : decode cc pc = .ok (.iastore, 1)) (kk : Jg X own cc nL ret nm d CR SR Q ad cells slots (pc + 1) (lv) (st) (WS X ad (SB m b (up B 15 k x)))) : Jg X own cc nL ret nm d CR SR Q ad cells slots (pc) (lv) (.int x :: .int i :: .ref (b + 11 + 4) :: st) (WS X ad (SB m b (B))) := by
  subst hi
  refine as_w15 h hdg (nIin hk (by decide)) ?_
  rw [nI_cl (by omega), show b + 11 + 4 = b + 15 from rfl, SB_up (by decide)]
  exact kk
theorem rB_w16 {b : Nat} (h : isB b) (k : Nat) {i : Int32} (hk : k < 10) (hi : i = nI k) (hdg : decode cc pc = .ok (.iaload, 1)) (kk : Jg X own cc nL ret nm d CR SR Q ad cells slots (pc + 1) (lv) (.int (B 16 k) :: st) (WS X ad (SB m b (B)))) : Jg X own cc nL ret nm d CR SR Q ad cells slots (pc) (lv) (.int i :: .ref (b + 11 + 5) :: st) (WS X ad (SB m b (B))) := by
  subst hi
  refine al_w16 h hdg (nIin hk (by decide)) ?_
  rw [nI_cl (by omega), show b + 11 + 5 = b + 16 from rfl, SB_at (by decide)]
  exact kk
theorem wB_w16 {b : Nat} (h : isB b) (k : Nat) {i x : Int32} (hk : k < 10) (hi : i = nI k) (hdg : decode cc pc = .ok (.iastore, 1)) (kk : Jg X own cc nL ret nm d CR SR Q ad cells slots (pc + 1) (lv) (st) (WS X ad (SB m b (up B 16 k x)))) : Jg X own cc nL ret nm d CR SR Q ad cells slots (pc) (lv) (.int x :: .int i :: .ref (b + 11 + 5) :: st) (WS X ad (SB m b (B))) := by
  subst hi
  refine as_w16 h hdg (nIin hk (by decide)) ?_
  rw [nI_cl (by omega), show b + 11 + 5 = b + 16 from rfl, SB_up (by decide)]
  exact kk
end SBR
set_option maxRecDepth 100000 in
set_option maxHeartbeats 4000000 in
theorem c_X5_isIn {X : jX} {ad : Nat → Nat} {mem : Mem} {v lo hi : Int32}  : Cd X yX5_isIn cX5_isIn 3 (some .boolean) 0 ad [.int v, .int lo, .int hi] mem (some (.int (jin v lo hi))) (mem) := by
  refine Cm.of (own := RX5) (nm := "isIn") (by decide +kernel) rfl rfl rfl rfl ?_
  refine J_iload_n dX5_isIn_0 rfl rfl ?_
  refine J_iload_n dX5_isIn_1 rfl rfl ?_
  refine J_icmp_lt (tgt := 14) dX5_isIn_2 (by decide) (fun h2 => ?_) (fun h2 => ?_)
  · refine J_iconst (v := 0) dX5_isIn_14 (by decide) ?_
    refine r_bool dX5_isIn_15 (by first | exact Or.inl rfl | exact Or.inr rfl | exact i01 | exact jin01) ?_
    exact ⟨by simp only [jin, *, reduceIte], rfl⟩
  · refine J_iload_n dX5_isIn_5 rfl rfl ?_
    refine J_iload_n dX5_isIn_6 rfl rfl ?_
    refine J_icmp_gt (tgt := 14) dX5_isIn_7 (by decide) (fun h7 => ?_) (fun h7 => ?_)
    · refine J_iconst (v := 0) dX5_isIn_14 (by decide) ?_
      refine r_bool dX5_isIn_15 (by first | exact Or.inl rfl | exact Or.inr rfl | exact i01 | exact jin01) ?_
      exact ⟨by simp only [jin, *, reduceIte], rfl⟩
    · refine J_iconst (v := 1) dX5_isIn_10 (by decide) ?_
      refine J_goto (tgt := 15) dX5_isIn_11 (by decide) ?_
      refine r_bool dX5_isIn_15 (by first | exact Or.inl rfl | exact Or.inr rfl | exact i01 | exact jin01) ?_
      exact ⟨by simp only [jin, *, reduceIte], rfl⟩

set_option maxRecDepth 100000 in
set_option maxHeartbeats 4000000 in
theorem c_X5_isSlot {X : jX} {ad : Nat → Nat} {mem : Mem} {v : Int32}  : Cd X yX5_isSlot cX5_isSlot 1 (some .boolean) 1 ad [.int v] mem (some (.int (jin v 0 4))) (mem) := by
  refine Cm.of (own := RX5) (nm := "isSlot") (by decide +kernel) rfl rfl rfl rfl ?_
  refine J_iload_n dX5_isSlot_0 rfl rfl ?_
  refine J_iconst (v := 0) dX5_isSlot_1 (by decide) ?_
  refine J_iconst (v := 4) dX5_isSlot_2 (by decide) ?_
  refine cSi ws_X5_146 c_X5_isIn dX5_isSlot_3 (kk := ?_)
  refine r_bool dX5_isSlot_6 (by first | exact Or.inl rfl | exact Or.inr rfl | exact i01 | exact jin01) ?_
  exact ⟨rfl, rfl⟩

