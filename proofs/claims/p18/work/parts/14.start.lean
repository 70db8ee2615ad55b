theorem len_small {args : Array Value} {s : State} {t : Term} {a : Nat} {cell : Cell} {v : Value} (ht : t.eval args s none [] s = some (.ref a)) (harr : s.arrayAt? a = some cell) (hv : (Term.length t).eval args s none [] s = some v) : cell.slots.size < 2 ^ 31 := by
  simp only [Term.eval, ht, harr, Option.bind_eq_bind, Option.bind_some] at hv
  by_cases hlt : cell.slots.size < 2147483648
  · exact hlt
  · simp [hlt] at hv
set_option maxRecDepth 100000 in
set_option maxHeartbeats 4000000 in
theorem jE_start {s : State} {args : Array Value} {b L : Nat} {xs : Nat → Int32} (l : Launch) (hts : ∀ w ∈ lw_tbl, w.before args s = true) (hX : va_X b L xs s s.heap) (hbl : b < s.heap.size) (hgv : (Jvm.Cond.and given_1 narrow_1).before args s = true) :
    ∃ (D : va_G) (cA : Nat → ClassId) (x : Nat → Nat), jE (l, D, cA, x, s.heap.size, b, L, xs) s s.heap := by
  have hs := flat_of_before _ hgv
  have htw : ∀ w ∈ TW, w.before args s = true := fun w h => hts w (List.mem_filter.mp h).1
  have hA : ∀ a : Nat, a < s.heap.size → ¬ (fun q : Nat => s.heap.size ≤ q) a := fun a h => Nat.not_le.mpr h
  obtain ⟨c0, i0, hK0⟩ := u_known (C := RX0) (T := TX0) (N := 6) (n := 6) htw inTX0 (htw _ wi_X0)
  obtain ⟨c1, i1, hK1⟩ := u_known (C := RX1) (T := TX1) (N := 10) (n := 10) htw inTX1 (htw _ wi_X1)
  obtain ⟨c2, i2, hK2⟩ := u_known (C := RX2) (T := TX2) (N := 12) (n := 12) htw inTX2 (htw _ wi_X2)
  obtain ⟨c3, i3, hK3⟩ := u_known (C := RX3) (T := TX3) (N := 3) (n := 3) htw inTX3 (htw _ wi_X3)
  obtain ⟨c4, i4, hK4⟩ := u_known (C := RX4) (T := TX4) (N := 5) (n := 5) htw inTX4 (htw _ wi_X4)
  obtain ⟨c5, i5, hK5⟩ := u_known (C := RX5) (T := TX5) (N := 6) (n := 6) htw inTX5 (htw _ wi_X5)
  obtain ⟨c6, i6, hK6⟩ := u_known (C := RX6) (T := TX6) (N := 14) (n := 14) htw inTX6 (htw _ wi_X6)
  obtain ⟨D, hKc⟩ : ∃ D : va_G, ∀ (k : Nat) (q : vw_C), vwCl[k]? = some q → u_Kn s q.1 q.2.1 q.2.2 (D.1 k) (D.2 k) := by
    refine ⟨(fun k => [c0, c1, c2, c3, c4, c5, c6].getD k c0, fun k => [i0, i1, i2, i3, i4, i5, i6].getD k i0), ?_⟩
    intro k q hq
    match k, hq with
    | 0, hq => cases hq; exact hK0
    | 1, hq => cases hq; exact hK1
    | 2, hq => cases hq; exact hK2
    | 3, hq => cases hq; exact hK3
    | 4, hq => cases hq; exact hK4
    | 5, hq => cases hq; exact hK5
    | 6, hq => cases hq; exact hK6
    | k + 7, hq => simp [vwCl] at hq
  obtain ⟨a0, k0, p0, f0, g0, e0⟩ := Cond.arrayClass_spec (show (Cond.arrayClass .int).holds args s none s [] = true from (hts _ (List.mem_of_getElem? (i := 140) (by decide +kernel))))
  have hA0 : ArrOfT s a0 .int := fun n z => ⟨fun k h => (by cases h), k0, g0, p0, e0⟩
  obtain ⟨a1, k1, p1, f1, g1, e1⟩ := Cond.arrayClass_spec (show (Cond.arrayClass .boolean).holds args s none s [] = true from (hts _ (List.mem_of_getElem? (i := 280) (by decide +kernel))))
  have hA1 : ArrOfT s a1 .boolean := fun n z => ⟨fun k h => (by cases h), k1, g1, p1, e1⟩
  have ho2 : (Cond.arrayOver (.object RX1)).before args s = true := (hts _ (List.mem_of_getElem? (i := 92) (by decide +kernel)))
  obtain ⟨p2, a2, k2, f2, -, g2, e2, n2⟩ := Cond.arrayOver_spec (n := RX1) (show (Cond.arrayOver (.object RX1)).holds args s none s [] = true from ho2)
  have hA2 : ArrOfT s a2 (.object RX1) := fun n z => ⟨fun k h => (by cases h), k2, g2, p2, e2⟩
  have ho3 : (Cond.arrayOver (.object RX0)).before args s = true := (hts _ (List.mem_of_getElem? (i := 223) (by decide +kernel)))
  obtain ⟨p3, a3, k3, f3, -, g3, e3, n3⟩ := Cond.arrayOver_spec (n := RX0) (show (Cond.arrayOver (.object RX0)).holds args s none s [] = true from ho3)
  have hA3 : ArrOfT s a3 (.object RX0) := fun n z => ⟨fun k h => (by cases h), k3, g3, p3, e3⟩
  obtain ⟨t0, u0, hT0⟩ := va_Tof (args := args) (s := s) (tm := (Term.static "PlugPins" "FIRST_SETTINGS" "[I")) (ty := .int) (N := 5) (f := fun j => .int (([1, 20, 3, 2, 120] : List Int32).getD j 0)) (A := fun q : Nat => s.heap.size ≤ q) (by decide) (hs _ (by decide +kernel)) (va_eqt (hs (Cond.eq (.length (Term.static "PlugPins" "FIRST_SETTINGS" "[I")) (.int 5)) (by decide +kernel))) (fun j hj => by
      match j, hj with
      | 0, _ => exact va_eqt (hs (Cond.eq (.elem (Term.static "PlugPins" "FIRST_SETTINGS" "[I") (.int 0)) (.int 1)) (by decide +kernel))
      | 1, _ => exact va_eqt (hs (Cond.eq (.elem (Term.static "PlugPins" "FIRST_SETTINGS" "[I") (.int 1)) (.int 20)) (by decide +kernel))
      | 2, _ => exact va_eqt (hs (Cond.eq (.elem (Term.static "PlugPins" "FIRST_SETTINGS" "[I") (.int 2)) (.int 3)) (by decide +kernel))
      | 3, _ => exact va_eqt (hs (Cond.eq (.elem (Term.static "PlugPins" "FIRST_SETTINGS" "[I") (.int 3)) (.int 2)) (by decide +kernel))
      | 4, _ => exact va_eqt (hs (Cond.eq (.elem (Term.static "PlugPins" "FIRST_SETTINGS" "[I") (.int 4)) (.int 120)) (by decide +kernel))) hA
  have hZ0 := va_Zof (A := fun q : Nat => s.heap.size ≤ q) (hts _ (List.mem_of_getElem? (i := 83) (by decide +kernel))) (hts _ (List.mem_of_getElem? (i := 55) (by decide +kernel))) u0 hA
  obtain ⟨t1, u1, hT1⟩ := va_Tof (args := args) (s := s) (tm := (Term.static "PlugPins" "LOWEST_SETTINGS" "[I")) (ty := .int) (N := 5) (f := fun j => .int (([0, 1, 1, 1, 10] : List Int32).getD j 0)) (A := fun q : Nat => s.heap.size ≤ q) (by decide) (hs _ (by decide +kernel)) (va_eqt (hs (Cond.eq (.length (Term.static "PlugPins" "LOWEST_SETTINGS" "[I")) (.int 5)) (by decide +kernel))) (fun j hj => by
      match j, hj with
      | 0, _ => exact va_eqt (hs (Cond.eq (.elem (Term.static "PlugPins" "LOWEST_SETTINGS" "[I") (.int 0)) (.int 0)) (by decide +kernel))
      | 1, _ => exact va_eqt (hs (Cond.eq (.elem (Term.static "PlugPins" "LOWEST_SETTINGS" "[I") (.int 1)) (.int 1)) (by decide +kernel))
      | 2, _ => exact va_eqt (hs (Cond.eq (.elem (Term.static "PlugPins" "LOWEST_SETTINGS" "[I") (.int 2)) (.int 1)) (by decide +kernel))
      | 3, _ => exact va_eqt (hs (Cond.eq (.elem (Term.static "PlugPins" "LOWEST_SETTINGS" "[I") (.int 3)) (.int 1)) (by decide +kernel))
      | 4, _ => exact va_eqt (hs (Cond.eq (.elem (Term.static "PlugPins" "LOWEST_SETTINGS" "[I") (.int 4)) (.int 10)) (by decide +kernel))) hA
  have hZ1 := va_Zof (A := fun q : Nat => s.heap.size ≤ q) (hts _ (List.mem_of_getElem? (i := 320) (by decide +kernel))) (hts _ (List.mem_of_getElem? (i := 55) (by decide +kernel))) u1 hA
  obtain ⟨t2, u2, hT2⟩ := va_Tof (args := args) (s := s) (tm := (Term.static "PlugPins" "HIGHEST_SETTINGS" "[I")) (ty := .int) (N := 5) (f := fun j => .int (([1, 50, 9, 9, 300] : List Int32).getD j 0)) (A := fun q : Nat => s.heap.size ≤ q) (by decide) (hs _ (by decide +kernel)) (va_eqt (hs (Cond.eq (.length (Term.static "PlugPins" "HIGHEST_SETTINGS" "[I")) (.int 5)) (by decide +kernel))) (fun j hj => by
      match j, hj with
      | 0, _ => exact va_eqt (hs (Cond.eq (.elem (Term.static "PlugPins" "HIGHEST_SETTINGS" "[I") (.int 0)) (.int 1)) (by decide +kernel))
      | 1, _ => exact va_eqt (hs (Cond.eq (.elem (Term.static "PlugPins" "HIGHEST_SETTINGS" "[I") (.int 1)) (.int 50)) (by decide +kernel))
      | 2, _ => exact va_eqt (hs (Cond.eq (.elem (Term.static "PlugPins" "HIGHEST_SETTINGS" "[I") (.int 2)) (.int 9)) (by decide +kernel))
      | 3, _ => exact va_eqt (hs (Cond.eq (.elem (Term.static "PlugPins" "HIGHEST_SETTINGS" "[I") (.int 3)) (.int 9)) (by decide +kernel))
      | 4, _ => exact va_eqt (hs (Cond.eq (.elem (Term.static "PlugPins" "HIGHEST_SETTINGS" "[I") (.int 4)) (.int 300)) (by decide +kernel))) hA
  have hZ2 := va_Zof (A := fun q : Nat => s.heap.size ≤ q) (hts _ (List.mem_of_getElem? (i := 322) (by decide +kernel))) (hts _ (List.mem_of_getElem? (i := 55) (by decide +kernel))) u2 hA
  have hZC := va_Zof (A := fun q : Nat => s.heap.size ≤ q) (hts _ (List.mem_of_getElem? (i := 676) (by decide +kernel))) (hts _ (List.mem_of_getElem? (i := 64) (by decide +kernel))) (va_eqi (hs (Cond.eq (.static "java/lang/String" "COMPACT_STRINGS" "Z") (.int 1)) (by decide +kernel))) hA
  have hZq := va_Zqof (C := "jdk/internal/util/Preconditions") (n := "SIOOBE_FORMATTER") (d := "Ljava/util/function/BiFunction;") (A := fun q : Nat => s.heap.size ≤ q) (hts _ (List.mem_of_getElem? (i := 692) (by decide +kernel))) (hts _ (List.mem_of_getElem? (i := 66) (by decide +kernel))) (hs _ (by decide +kernel)) hA
  obtain ⟨tf, hZf⟩ : ∃ tf : Nat, va_Z "jdk/internal/util/Preconditions" "SIOOBE_FORMATTER" "Ljava/util/function/BiFunction;" .null (fun q : Nat => s.heap.size ≤ q) s s.heap ∨ va_Z "jdk/internal/util/Preconditions" "SIOOBE_FORMATTER" "Ljava/util/function/BiFunction;" (.ref tf) (fun q : Nat => s.heap.size ≤ q) s s.heap := by
    rcases hZq with h | ⟨t, h⟩
    · exact ⟨0, Or.inl h⟩
    · exact ⟨t, Or.inr h⟩
  obtain ⟨adK, adV, hSt, hev⟩ := vk_Sof (args := args) (s := s) (N := 7) (tm := fun i => .string RX4 (77 + 2 * i)) (len := jLen) (byt := jByt) (A := fun q : Nat => s.heap.size ≤ q) (fun i hi => by
      match i, hi with
      | 0, _ => decide
      | 1, _ => decide
      | 2, _ => decide
      | 3, _ => decide
      | 4, _ => decide
      | 5, _ => decide
      | 6, _ => decide) (fun i hi => by
      match i, hi with
      | 0, _ => exact hs _ (by decide +kernel)
      | 1, _ => exact hs _ (by decide +kernel)
      | 2, _ => exact hs _ (by decide +kernel)
      | 3, _ => exact hs _ (by decide +kernel)
      | 4, _ => exact hs _ (by decide +kernel)
      | 5, _ => exact hs _ (by decide +kernel)
      | 6, _ => exact hs _ (by decide +kernel)) (fun i hi => by
      match i, hi with
      | 0, _ => exact hs _ (by decide +kernel)
      | 1, _ => exact hs _ (by decide +kernel)
      | 2, _ => exact hs _ (by decide +kernel)
      | 3, _ => exact hs _ (by decide +kernel)
      | 4, _ => exact hs _ (by decide +kernel)
      | 5, _ => exact hs _ (by decide +kernel)
      | 6, _ => exact hs _ (by decide +kernel)) (fun i hi => by
      match i, hi with
      | 0, _ => exact hs _ (by decide +kernel)
      | 1, _ => exact hs _ (by decide +kernel)
      | 2, _ => exact hs _ (by decide +kernel)
      | 3, _ => exact hs _ (by decide +kernel)
      | 4, _ => exact hs _ (by decide +kernel)
      | 5, _ => exact hs _ (by decide +kernel)
      | 6, _ => exact hs _ (by decide +kernel)) (fun i hi => by
      match i, hi with
      | 0, _ => exact hs _ (by decide +kernel)
      | 1, _ => exact hs _ (by decide +kernel)
      | 2, _ => exact hs _ (by decide +kernel)
      | 3, _ => exact hs _ (by decide +kernel)
      | 4, _ => exact hs _ (by decide +kernel)
      | 5, _ => exact hs _ (by decide +kernel)
      | 6, _ => exact hs _ (by decide +kernel)) (fun i hi j hj => by
      match i, hi, j, hj with
      | 0, _, 0, _ => exact hs _ (by decide +kernel)
      | 0, _, 1, _ => exact hs _ (by decide +kernel)
      | 0, _, 2, _ => exact hs _ (by decide +kernel)
      | 1, _, 0, _ => exact hs _ (by decide +kernel)
      | 1, _, 1, _ => exact hs _ (by decide +kernel)
      | 1, _, 2, _ => exact hs _ (by decide +kernel)
      | 1, _, 3, _ => exact hs _ (by decide +kernel)
      | 1, _, 4, _ => exact hs _ (by decide +kernel)
      | 2, _, 0, _ => exact hs _ (by decide +kernel)
      | 2, _, 1, _ => exact hs _ (by decide +kernel)
      | 2, _, 2, _ => exact hs _ (by decide +kernel)
      | 3, _, 0, _ => exact hs _ (by decide +kernel)
      | 4, _, 0, _ => exact hs _ (by decide +kernel)
      | 4, _, 1, _ => exact hs _ (by decide +kernel)
      | 5, _, 0, _ => exact hs _ (by decide +kernel)
      | 6, _, j, hj => exact absurd hj (Nat.not_lt_zero j)) (fun i j hi hj hij => by
      match i, hi, j, hj, hij with
      | 0, _, 0, _, h => exact absurd rfl h
      | 0, _, 1, _, _ => exact Or.inl (hs _ (by decide +kernel))
      | 0, _, 2, _, _ => exact Or.inl (hs _ (by decide +kernel))
      | 0, _, 3, _, _ => exact Or.inl (hs _ (by decide +kernel))
      | 0, _, 4, _, _ => exact Or.inl (hs _ (by decide +kernel))
      | 0, _, 5, _, _ => exact Or.inl (hs _ (by decide +kernel))
      | 0, _, 6, _, _ => exact Or.inl (hs _ (by decide +kernel))
      | 1, _, 0, _, _ => exact Or.inr (hs _ (by decide +kernel))
      | 1, _, 1, _, h => exact absurd rfl h
      | 1, _, 2, _, _ => exact Or.inl (hs _ (by decide +kernel))
      | 1, _, 3, _, _ => exact Or.inl (hs _ (by decide +kernel))
      | 1, _, 4, _, _ => exact Or.inl (hs _ (by decide +kernel))
      | 1, _, 5, _, _ => exact Or.inl (hs _ (by decide +kernel))
      | 1, _, 6, _, _ => exact Or.inl (hs _ (by decide +kernel))
      | 2, _, 0, _, _ => exact Or.inr (hs _ (by decide +kernel))
      | 2, _, 1, _, _ => exact Or.inr (hs _ (by decide +kernel))
      | 2, _, 2, _, h => exact absurd rfl h
      | 2, _, 3, _, _ => exact Or.inl (hs _ (by decide +kernel))
      | 2, _, 4, _, _ => exact Or.inl (hs _ (by decide +kernel))
      | 2, _, 5, _, _ => exact Or.inl (hs _ (by decide +kernel))
      | 2, _, 6, _, _ => exact Or.inl (hs _ (by decide +kernel))
      | 3, _, 0, _, _ => exact Or.inr (hs _ (by decide +kernel))
      | 3, _, 1, _, _ => exact Or.inr (hs _ (by decide +kernel))
      | 3, _, 2, _, _ => exact Or.inr (hs _ (by decide +kernel))
      | 3, _, 3, _, h => exact absurd rfl h
      | 3, _, 4, _, _ => exact Or.inl (hs _ (by decide +kernel))
      | 3, _, 5, _, _ => exact Or.inl (hs _ (by decide +kernel))
      | 3, _, 6, _, _ => exact Or.inl (hs _ (by decide +kernel))
      | 4, _, 0, _, _ => exact Or.inr (hs _ (by decide +kernel))
      | 4, _, 1, _, _ => exact Or.inr (hs _ (by decide +kernel))
      | 4, _, 2, _, _ => exact Or.inr (hs _ (by decide +kernel))
      | 4, _, 3, _, _ => exact Or.inr (hs _ (by decide +kernel))
      | 4, _, 4, _, h => exact absurd rfl h
      | 4, _, 5, _, _ => exact Or.inl (hs _ (by decide +kernel))
      | 4, _, 6, _, _ => exact Or.inl (hs _ (by decide +kernel))
      | 5, _, 0, _, _ => exact Or.inr (hs _ (by decide +kernel))
      | 5, _, 1, _, _ => exact Or.inr (hs _ (by decide +kernel))
      | 5, _, 2, _, _ => exact Or.inr (hs _ (by decide +kernel))
      | 5, _, 3, _, _ => exact Or.inr (hs _ (by decide +kernel))
      | 5, _, 4, _, _ => exact Or.inr (hs _ (by decide +kernel))
      | 5, _, 5, _, h => exact absurd rfl h
      | 5, _, 6, _, _ => exact Or.inl (hs _ (by decide +kernel))
      | 6, _, 0, _, _ => exact Or.inr (hs _ (by decide +kernel))
      | 6, _, 1, _, _ => exact Or.inr (hs _ (by decide +kernel))
      | 6, _, 2, _, _ => exact Or.inr (hs _ (by decide +kernel))
      | 6, _, 3, _, _ => exact Or.inr (hs _ (by decide +kernel))
      | 6, _, 4, _, _ => exact Or.inr (hs _ (by decide +kernel))
      | 6, _, 5, _, _ => exact Or.inr (hs _ (by decide +kernel))
      | 6, _, 6, _, h => exact absurd rfl h) hA
  have hRs : ∀ i, i < 7 → vk_R RX4 (77 + 2 * i) (jTx.getD i "") (adK i) s := fun i hi => by
    have h2 := hev i hi
    match i, hi, h2 with
    | 0, _, h2 => exact vk_R.of (hts _ (List.mem_of_getElem? (i := 656) (by decide +kernel))) h2
    | 1, _, h2 => exact vk_R.of (hts _ (List.mem_of_getElem? (i := 657) (by decide +kernel))) h2
    | 2, _, h2 => exact vk_R.of (hts _ (List.mem_of_getElem? (i := 658) (by decide +kernel))) h2
    | 3, _, h2 => exact vk_R.of (hts _ (List.mem_of_getElem? (i := 659) (by decide +kernel))) h2
    | 4, _, h2 => exact vk_R.of (hts _ (List.mem_of_getElem? (i := 660) (by decide +kernel))) h2
    | 5, _, h2 => exact vk_R.of (hts _ (List.mem_of_getElem? (i := 661) (by decide +kernel))) h2
    | 6, _, h2 => exact vk_R.of (hts _ (List.mem_of_getElem? (i := 662) (by decide +kernel))) h2
  have hFx : ∃ cell : Cell, s.heap[t0]? = some cell ∧ s.isArrayOf cell .int ∧ cell.vm ≠ .unknown ∧ cell.vm.isStatics = false ∧ cell.slots = #[.int 1, .int 20, .int 3, .int 2, .int 120] ∧ cell.cls = a0 ∧ ¬ s.heap.size ≤ t0 := by
    obtain ⟨a, c, cB, kB, q1, q2, q3, q4, q5, q6, -⟩ := Cond.exactly_spec (args := args) (first := s) (o := none) (s := s) (idx := []) (t := (Term.static "PlugPins" "FIRST_SETTINGS" "[I")) (cls := "[I") (hs _ (by decide +kernel))
    cases u0.symm.trans q1
    obtain ⟨cell, h1, h2, h3, h4, h5, h6, h7⟩ := hT0
    cases h1.symm.trans q3
    have hlen := va_eqt (hs (Cond.eq (.length (.static "PlugPins" "FIRST_SETTINGS" "[I")) (.int 5)) (by decide +kernel))
    obtain ⟨b1, cell1, g1, g2, -⟩ := Term.length_spec hlen
    cases u0.symm.trans g1
    have hsz : cB.slots.size = 5 := by
      have hc1 : cell1 = cB := by
        have := (State.arrayAt?_spec g2).1
        exact Option.some.inj (this.symm.trans h1)
      subst hc1
      have hlt : cell1.slots.size < 2 ^ 31 := len_small u0 g2 hlen
      have e1 : Int32.ofNat cell1.slots.size = Int32.ofNat 5 := h5
      have e2 := congrArg Int32.toNatClampNeg e1
      rw [Int32.toNatClampNeg_ofNat_of_lt hlt, Int32.toNatClampNeg_ofNat_of_lt (by decide)] at e2
      exact e2
    refine ⟨cB, h1, h2, h3, q5, ?_, ?_, h7⟩
    · apply Array.ext_getElem?
      intro j
      by_cases hj : j < 5
      · rw [h6 j hj]
        match j, hj with
        | 0, _ => rfl
        | 1, _ => rfl
        | 2, _ => rfl
        | 3, _ => rfl
        | 4, _ => rfl
      · rw [Array.getElem?_eq_none (by omega), Array.getElem?_eq_none (by simp; omega)]
    · rw [q6]
      exact Option.some.inj (q2.symm.trans f0)
  refine ⟨D, fun k => [a0, a1, a2, a3].getD k a0, fun k => if k < 10 then [t0, t1, t2, tf].getD k 0 else if k < 20 then adK (k - 10) else adV (k - 20), ?_⟩
  refine ⟨?_, ⟨hKc, ?_⟩, va_Nw.of rfl (hts _ (List.mem_of_getElem? (i := 89) (by decide +kernel))), va_AO.of ho2, va_AO.of ho3, ?_, ?_, hFx, hZf, ?_, ?_, hX, hbl⟩
  · intro w hw
    simp only [jNest, List.mem_cons, List.not_mem_nil, or_false] at hw
    rcases hw with rfl | rfl | rfl | rfl | rfl | rfl | rfl
    · exact va_Nw.of rfl (hts _ (List.mem_of_getElem? (i := 82) (by decide +kernel)))
    · exact va_Nw.of rfl (hts _ (List.mem_of_getElem? (i := 319) (by decide +kernel)))
    · exact va_Nw.of rfl (hts _ (List.mem_of_getElem? (i := 321) (by decide +kernel)))
    · exact va_Nw.of rfl (hts _ (List.mem_of_getElem? (i := 94) (by decide +kernel)))
    · exact va_Nw.of rfl (hts _ (List.mem_of_getElem? (i := 316) (by decide +kernel)))
    · exact va_Nw.of rfl (hts _ (List.mem_of_getElem? (i := 355) (by decide +kernel)))
    · exact va_Nw.of rfl (hts _ (List.mem_of_getElem? (i := 624) (by decide +kernel)))
  · intro k q hq
    match k, hq with
    | 0, hq => cases hq; exact ⟨hA0, f0⟩
    | 1, hq => cases hq; exact ⟨hA1, f1⟩
    | 2, hq => cases hq; exact ⟨hA2, k2, p2, g2, e2, f2, n2⟩
    | 3, hq => cases hq; exact ⟨hA3, k3, p3, g3, e3, f3, n3⟩
    | k + 4, hq => simp [jT] at hq
  · intro q hq
    simp only [jStat, List.mem_cons, List.not_mem_nil, or_false] at hq
    rcases hq with rfl | rfl | rfl | rfl
    · exact hZ0
    · exact hZ1
    · exact hZ2
    · exact hZC
  · intro q hq
    simp only [jArr, List.mem_cons, List.not_mem_nil, or_false] at hq
    rcases hq with rfl | rfl
    · exact hT1
    · exact hT2
  · intro i hi
    have h := hRs i hi
    have e : (if 10 + i < 10 then [t0, t1, t2, tf].getD (10 + i) 0 else if 10 + i < 20 then adK (10 + i - 10) else adV (10 + i - 20)) = adK i := by
      rw [if_neg (by omega), if_pos (by omega)]
      congr 1
      omega
    show vk_R RX4 _ _ (if 10 + i < 10 then [t0, t1, t2, tf].getD (10 + i) 0 else if 10 + i < 20 then adK (10 + i - 10) else adV (10 + i - 20)) s
    rw [e]
    exact h
  · have eK : ∀ i, i < 7 → (if 10 + i < 10 then [t0, t1, t2, tf].getD (10 + i) 0 else if 10 + i < 20 then adK (10 + i - 10) else adV (10 + i - 20)) = adK i := fun i hi => by
      rw [if_neg (by omega), if_pos (by omega)]
      congr 1
      omega
    have eV : ∀ i, i < 7 → (if 20 + i < 10 then [t0, t1, t2, tf].getD (20 + i) 0 else if 20 + i < 20 then adK (20 + i - 10) else adV (20 + i - 20)) = adV i := fun i hi => by
      rw [if_neg (by omega), if_neg (by omega)]
      congr 1
      omega
    refine ⟨fun i hi => ?_, fun i j hi hj hij => ?_⟩
    · show va_O _ (if 10 + i < 10 then [t0, t1, t2, tf].getD (10 + i) 0 else if 10 + i < 20 then adK (10 + i - 10) else adV (10 + i - 20)) _ _ _ ∧ va_OF _ _ _ _ (if 10 + i < 10 then [t0, t1, t2, tf].getD (10 + i) 0 else if 10 + i < 20 then adK (10 + i - 10) else adV (10 + i - 20)) _ _ _ ∧ va_OF _ _ _ (.ref (if 20 + i < 10 then [t0, t1, t2, tf].getD (20 + i) 0 else if 20 + i < 20 then adK (20 + i - 10) else adV (20 + i - 20))) (if 10 + i < 10 then [t0, t1, t2, tf].getD (10 + i) 0 else if 10 + i < 20 then adK (10 + i - 10) else adV (10 + i - 20)) _ _ _ ∧ va_T _ (if 20 + i < 10 then [t0, t1, t2, tf].getD (20 + i) 0 else if 20 + i < 20 then adK (20 + i - 10) else adV (20 + i - 20)) _ _ _ _ _
      rw [eK i hi, eV i hi]
      exact hSt.1 i hi
    · have hij' : (if 10 + i < 10 then [t0, t1, t2, tf].getD (10 + i) 0 else if 10 + i < 20 then adK (10 + i - 10) else adV (10 + i - 20)) = (if 10 + j < 10 then [t0, t1, t2, tf].getD (10 + j) 0 else if 10 + j < 20 then adK (10 + j - 10) else adV (10 + j - 20)) := hij
      rw [eK i hi, eK j hj] at hij'
      exact hSt.2 i j hi hj hij'
