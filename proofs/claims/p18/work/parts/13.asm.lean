/-- the cells' addresses -/
def adW (X : jX) (h0 hh hq pp p1 p2 sv zs m0 m1 m2 m3 m4 m5 : Nat) (A B C D : Nat → Nat) (E : Nat → Nat → Nat) (c : Nat) : Nat := match c with
  | 0 => h0
  | k + 1 => if k < 187 then (match k / 17 with
      | 0 => A (k % 17)
      | 1 => B (k % 17)
      | 9 => C (k % 17)
      | 10 => D (k % 17)
      | j + 2 => E j (k % 17))
    else if k < 200 then (match k - 187 with
      | 0 => hh
      | 1 => hq
      | 2 => pp
      | 3 => p1
      | 4 => p2
      | 5 => sv
      | 6 => zs
      | 7 => m0
      | 8 => m1
      | 9 => m2
      | 10 => m3
      | 11 => m4
      | _ => m5)
    else if k = 998 then jb X else jx X (k - 999)
/-- the memory behind the constructors -/
def mem0 : Mem := fun c => match c with
  | 0 => fun _ => 0
  | k + 1 => if k < 187 then (match k % 17 with
      | 1 => fun j => [1, 20, 3, 2, 120].getD j 0
      | 11 => fun j => match j with
        | 7 => -6
        | _ => 0
      | _ => fun _ => 0)
    else if k = 195 then s0 else fun _ => 0
def posW : List Nat := [0, 1, 2, 3, 4, 5, 6, 7, 8, 9, 10, 11, 12, 13, 14, 15, 16, 17, 18, 19, 20, 21, 22, 23, 24, 25, 26, 27, 28, 29, 30, 31, 32, 33, 34, 37, 38, 39, 40, 41, 42, 43, 44, 45, 46, 47, 48, 49, 50, 51, 52, 53, 54, 55, 56, 57, 58, 59, 60, 61, 62, 63, 64, 65, 66, 67, 68, 69, 70, 71, 72, 73, 74, 75, 76, 77, 78, 79, 80, 81, 82, 83, 84, 85, 86, 87, 88, 89, 90, 91, 92, 93, 94, 95, 96, 97, 98, 99, 100, 101, 102, 103, 104, 105, 106, 107, 108, 109, 110, 111, 112, 113, 114, 115, 116, 117, 118, 119, 120, 121, 122, 123, 124, 125, 126, 127, 128, 129, 130, 131, 132, 133, 134, 135, 136, 137, 138, 139, 140, 141, 142, 143, 144, 145, 146, 147, 148, 149, 150, 151, 152, 153, 154, 155, 160, 161, 162, 163, 164, 165, 166, 167, 168, 169, 170, 171, 172, 173, 174, 175, 176, 177, 178, 179, 180, 181, 182, 183, 184, 185, 186, 187, 188, 189, 190, 191, 192, 193, 35, 36, 156, 157, 158, 159, 194, 195, 196, 197, 198, 199, 200]
set_option maxRecDepth 1000000 in
set_option maxHeartbeats 40000000 in
theorem asm_eq (X : jX) (h0 hh hq pp p1 p2 sv zs m0 m1 m2 m3 m4 m5 : Nat) (A B C D : Nat → Nat) (E : Nat → Nat → Nat) :
    posW.map (fun i => (ppW X h0 hh hq pp p1 p2 sv zs A B C D E ++ modW X m0 m1 m2 m3 m4 m5)[i]?) = (WS X (adW X h0 hh hq pp p1 p2 sv zs m0 m1 m2 m3 m4 m5 A B C D E) mem0).map some := by
  rfl
theorem asm_P {X : jX} {H : Heap} {h0 hh hq pp p1 p2 sv zs m0 m1 m2 m3 m4 m5 : Nat} {A B C D : Nat → Nat} {E : Nat → Nat → Nat} (h : va_P (jD X) vwCl (ppW X h0 hh hq pp p1 p2 sv zs A B C D E ++ modW X m0 m1 m2 m3 m4 m5) H) : va_P (jD X) vwCl (WS X (adW X h0 hh hq pp p1 p2 sv zs m0 m1 m2 m3 m4 m5 A B C D E) mem0) H := by
  have e := asm_eq X h0 hh hq pp p1 p2 sv zs m0 m1 m2 m3 m4 m5 A B C D E
  intro k q hk
  have h1 : (posW.map (fun i => (ppW X h0 hh hq pp p1 p2 sv zs A B C D E ++ modW X m0 m1 m2 m3 m4 m5)[i]?))[k]? = some (some q) := by rw [e, List.getElem?_map, hk]; rfl
  rw [List.getElem?_map] at h1
  cases hi : posW[k]? with
  | none => rw [hi] at h1; cases h1
  | some i => rw [hi] at h1; exact h i q (Option.some.inj h1)
theorem asm_D {X : jX} {h0 hh hq pp p1 p2 sv zs m0 m1 m2 m3 m4 m5 : Nat} {A B C D : Nat → Nat} {E : Nat → Nat → Nat} (h : va_D (jA X) (ppW X h0 hh hq pp p1 p2 sv zs A B C D E ++ modW X m0 m1 m2 m3 m4 m5)) : va_D (jA X) (WS X (adW X h0 hh hq pp p1 p2 sv zs m0 m1 m2 m3 m4 m5 A B C D E) mem0) :=
  h.sub posW (by decide +kernel) (asm_eq X h0 hh hq pp p1 p2 sv zs m0 m1 m2 m3 m4 m5 A B C D E)

