theorem inTX0 : ∀ w ∈ u_ws RX0 TX0 6, w ∈ TW := inTWs _ [203, 205, 207, 209, 211, 213] (by decide +kernel) (by decide +kernel)
theorem inTX1 : ∀ w ∈ u_ws RX1 TX1 10, w ∈ TW := inTWs _ [119, 121, 123, 125, 127, 129, 131, 133, 135, 137] (by decide +kernel) (by decide +kernel)
theorem inTX2 : ∀ w ∈ u_ws RX2 TX2 12, w ∈ TW := inTWs _ [167, 169, 171, 173, 175, 177, 179, 181, 183, 185, 187, 189] (by decide +kernel) (by decide +kernel)
theorem inTX3 : ∀ w ∈ u_ws RX3 TX3 3, w ∈ TW := inTWs _ [229, 231, 233] (by decide +kernel) (by decide +kernel)
theorem inTX4 : ∀ w ∈ u_ws RX4 TX4 5, w ∈ TW := inTWs _ [250, 252, 254, 256, 258] (by decide +kernel) (by decide +kernel)
theorem inTX5 : ∀ w ∈ u_ws RX5 TX5 6, w ∈ TW := inTWs _ [267, 269, 271, 273, 275, 277] (by decide +kernel) (by decide +kernel)
theorem inTX6 : ∀ w ∈ u_ws RX6 TX6 14, w ∈ TW := inTWs _ [779, 781, 783, 785, 787, 789, 791, 793, 795, 797, 799, 801, 803, 805] (by decide +kernel) (by decide +kernel)
section RULES
variable {X : jX} {own : String} {cc : ByteArray} {nL : Nat} {ret : Option FieldType} {nm : String} {d CR SR : Nat} {Q : List Frame → Array Value → State → State → Prop} {ad : Nat → Nat} {cells slots pc : Nat} {lv : List (Nat × Value)} {st : List Value} {ws : va_W}
theorem J_get {C : String} {T : u_T} {N ci index : Nat} (hc : vwCl[ci]? = some (C, T, N)) (hin : ∀ w ∈ u_ws C T N, w ∈ TW) (k : Nat) (hk : Nat.blt k N = true) (hlink : Cond.fieldLink own index (T k).1 (T k).2.1 (T k).2.2.1 ∈ TW) (hdg : decode cc pc = .ok (.getfield index, 3)) (q0 : Nat) {n : Nat} {fs : List Value} {v : Value} (he : ws[q0]? = some (ad n, .inr (ci, fs))) (hv : fs[k]? = some (em ad v)) (kk : Jg X own cc nL ret nm d CR SR (Q) ad (cells) (slots) (pc + 3) (lv) (v :: st) (ws)) : Jg X own cc nL ret nm d CR SR (Q) ad (cells) (slots) (pc) (lv) (.ref n :: st) (ws) := by
  intro p e R s m args below meth c H locs ls hC hP hD hS hl
  obtain ⟨hx, hb, hml, hr, hnm, hown, hts, hlk, hfr, hlo, hcr, hsr, hE, hz⟩ := id hC
  have hK := hE.2.1
  exact va_get hx hb hts hin hown hK hP q0 he hc k (Nat.le_of_ble_eq_true hk) (hts _ hlink) (fun _ h => h) hv hdg (kk p e R s m args below meth c H locs ls hC hP hD hS hl)
theorem J_put {C : String} {T : u_T} {N ci index : Nat} (hc : vwCl[ci]? = some (C, T, N)) (hin : ∀ w ∈ u_ws C T N, w ∈ TW) (ty0 : Nat → FieldType) (hty : ∀ k, k < N → parseFieldDescriptor (T k).2.2.1 = some (ty0 k)) (hnm1 : ∀ a, a < N → ∀ b, b < N → a ≠ b → (T a).2.1 ≠ (T b).2.1) (k : Nat) (hk : Nat.blt k N = true) (hlink : Cond.fieldLink own index (T k).1 (T k).2.1 (T k).2.2.1 ∈ TW) (hfin : (T k).2.2.2 = false) {ty : FieldType} {v : Value} (hd : parseFieldDescriptor (T k).2.2.1 = some ty) (hn : narrow ty (em ad v) = em ad v) (hfit : fits ty (em ad v) = true) (hdg : decode cc pc = .ok (.putfield index, 3)) (q0 : Nat) {n : Nat} {fs : List Value} (he : ws[q0]? = some (ad n, .inr (ci, fs))) (hlen : Nat.blt k fs.length = true) (kk : Jg X own cc nL ret nm d CR SR (Q) ad (cells) (slots) (pc + 3) (lv) (st) (ws.set q0 (ad n, .inr (ci, fs.set k (em ad v))))) : Jg X own cc nL ret nm d CR SR (Q) ad (cells) (slots) (pc) (lv) (v :: .ref n :: st) (ws) := by
  intro p e R s m args below meth c H locs ls hC hP hD hS hl
  obtain ⟨hx, hb, hml, hr, hnm, hown, hts, hlk, hfr, hlo, hcr, hsr, hE, hz⟩ := id hC
  have hK := hE.2.1
  exact va_put hx hb hts hin ty0 hty hnm1 hown hK hP hD hS q0 he hc k (Nat.le_of_ble_eq_true hk) (hts _ hlink) (fun _ h => h) hfin hd hn hfit (Nat.le_of_ble_eq_true hlen) hdg (fun H1 locs1 hP1 hD1 hS1 => kk p e R s m args below meth c H1 locs1 ls hC hP1 hD1 hS1 hl)
theorem J_putF {C : String} {T : u_T} {N ci index : Nat} (hc : vwCl[ci]? = some (C, T, N)) (hin : ∀ w ∈ u_ws C T N, w ∈ TW) (ty0 : Nat → FieldType) (hty : ∀ k, k < N → parseFieldDescriptor (T k).2.2.1 = some (ty0 k)) (hnm1 : ∀ a, a < N → ∀ b, b < N → a ≠ b → (T a).2.1 ≠ (T b).2.1) (k : Nat) (hk : Nat.blt k N = true) (hlink : Cond.fieldLink own index (T k).1 (T k).2.1 (T k).2.2.1 ∈ TW) (hfin : (T k).2.2.2 = true) (hnm0 : nm = "<init>") (hdecl : (T k).1 = own) {ty : FieldType} {v : Value} (hd : parseFieldDescriptor (T k).2.2.1 = some ty) (hn : narrow ty (em ad v) = em ad v) (hfit : fits ty (em ad v) = true) (hdg : decode cc pc = .ok (.putfield index, 3)) (q0 : Nat) {n : Nat} {fs : List Value} (he : ws[q0]? = some (ad n, .inr (ci, fs))) (hlen : Nat.blt k fs.length = true) (kk : Jg X own cc nL ret nm d CR SR (Q) ad (cells) (slots) (pc + 3) (lv) (st) (ws.set q0 (ad n, .inr (ci, fs.set k (em ad v))))) : Jg X own cc nL ret nm d CR SR (Q) ad (cells) (slots) (pc) (lv) (v :: .ref n :: st) (ws) := by
  intro p e R s m args below meth c H locs ls hC hP hD hS hl
  obtain ⟨hx, hb, hml, hr, hnm, hown, hts, hlk, hfr, hlo, hcr, hsr, hE, hz⟩ := id hC
  have hK := hE.2.1
  exact va_putF hx hb hts hin ty0 hty hnm1 hown hK hP hD hS q0 he hc k (Nat.le_of_ble_eq_true hk) (hts _ hlink) (fun _ h => h) hfin (hnm.trans hnm0) hdecl hd hn hfit (Nat.le_of_ble_eq_true hlen) hdg (fun H1 locs1 hP1 hD1 hS1 => kk p e R s m args below meth c H1 locs1 ls hC hP1 hD1 hS1 hl)
theorem J_iald {len : Nat} {f : Nat → Int32} {n : Nat} {i : Int32} (hdg : decode cc pc = .ok (.iaload, 1)) (q0 : Nat) (he : ws[q0]? = some (ad n, .inl (jcA X 0, len, .inl f))) (hi : vp_in i len) (kk : Jg X own cc nL ret nm d CR SR (Q) ad (cells) (slots) (pc + 1) (lv) (.int (f i.toNatClampNeg) :: st) (ws)) : Jg X own cc nL ret nm d CR SR (Q) ad (cells) (slots) (pc) (lv) (.int i :: .ref n :: st) (ws) := by
  intro p e R s m args below meth c H locs ls hC hP hD hS hl
  obtain ⟨hx, hb, hml, hr, hnm, hown, hts, hlk, hfr, hlo, hcr, hsr, hE, hz⟩ := id hC
  have hK := hE.2.1
  exact va_iald hx hb hK hP q0 0 he rfl hi hdg (kk p e R s m args below meth c H locs ls hC hP hD hS hl)
theorem J_zald {len : Nat} {f : Nat → Int32} {n : Nat} {i : Int32} (hdg : decode cc pc = .ok (.baload, 1)) (q0 : Nat) (he : ws[q0]? = some (ad n, .inl (jcA X 1, len, .inl f))) (hi : vp_in i len) (kk : Jg X own cc nL ret nm d CR SR (Q) ad (cells) (slots) (pc + 1) (lv) (.int (f i.toNatClampNeg) :: st) (ws)) : Jg X own cc nL ret nm d CR SR (Q) ad (cells) (slots) (pc) (lv) (.int i :: .ref n :: st) (ws) := by
  intro p e R s m args below meth c H locs ls hC hP hD hS hl
  obtain ⟨hx, hb, hml, hr, hnm, hown, hts, hlk, hfr, hlo, hcr, hsr, hE, hz⟩ := id hC
  have hK := hE.2.1
  exact va_zald hx hb hK hP q0 1 he rfl hi hdg (kk p e R s m args below meth c H locs ls hC hP hD hS hl)
theorem J_iast {len : Nat} {f : Nat → Int32} {n : Nat} {i x : Int32} (hdg : decode cc pc = .ok (.iastore, 1)) (q0 : Nat) (he : ws[q0]? = some (ad n, .inl (jcA X 0, len, .inl f))) (hi : vp_in i len) (kk : Jg X own cc nL ret nm d CR SR (Q) ad (cells) (slots) (pc + 1) (lv) (st) (ws.set q0 (ad n, .inl (jcA X 0, len, .inl (upd f i.toNatClampNeg x))))) : Jg X own cc nL ret nm d CR SR (Q) ad (cells) (slots) (pc) (lv) (.int x :: .int i :: .ref n :: st) (ws) := by
  intro p e R s m args below meth c H locs ls hC hP hD hS hl
  obtain ⟨hx, hb, hml, hr, hnm, hown, hts, hlk, hfr, hlo, hcr, hsr, hE, hz⟩ := id hC
  have hK := hE.2.1
  exact va_iast hx hb hK hP hD hS q0 0 he rfl hi hdg (fun H1 locs1 hP1 hD1 hS1 => kk p e R s m args below meth c H1 locs1 ls hC hP1 hD1 hS1 hl)
theorem J_zast {len : Nat} {f : Nat → Int32} {n : Nat} {i x : Int32} (hdg : decode cc pc = .ok (.bastore, 1)) (q0 : Nat) (he : ws[q0]? = some (ad n, .inl (jcA X 1, len, .inl f))) (hi : vp_in i len) (kk : Jg X own cc nL ret nm d CR SR (Q) ad (cells) (slots) (pc + 1) (lv) (st) (ws.set q0 (ad n, .inl (jcA X 1, len, .inl (upd f i.toNatClampNeg (vp_nar .boolean x)))))) : Jg X own cc nL ret nm d CR SR (Q) ad (cells) (slots) (pc) (lv) (.int x :: .int i :: .ref n :: st) (ws) := by
  intro p e R s m args below meth c H locs ls hC hP hD hS hl
  obtain ⟨hx, hb, hml, hr, hnm, hown, hts, hlk, hfr, hlo, hcr, hsr, hE, hz⟩ := id hC
  have hK := hE.2.1
  exact va_zast hx hb hK hP hD hS q0 1 he rfl hi hdg (fun H1 locs1 hP1 hD1 hS1 => kk p e R s m args below meth c H1 locs1 ls hC hP1 hD1 hS1 hl)
theorem J_aald2 {len : Nat} {f : Nat → Option Nat} {n : Nat} {i : Int32} {v : Value} (hdg : decode cc pc = .ok (.aaload, 1)) (q0 : Nat) (he : ws[q0]? = some (ad n, .inl (jcA X 2, len, .inr (.inr (.inr (.inr f)))))) (hi : vp_in i len) (hv : va_rf (f i.toNatClampNeg) = em ad v) (kk : Jg X own cc nL ret nm d CR SR (Q) ad (cells) (slots) (pc + 1) (lv) (v :: st) (ws)) : Jg X own cc nL ret nm d CR SR (Q) ad (cells) (slots) (pc) (lv) (.int i :: .ref n :: st) (ws) := by
  intro p e R s m args below meth c H locs ls hC hP hD hS hl
  obtain ⟨hx, hb, hml, hr, hnm, hown, hts, hlk, hfr, hlo, hcr, hsr, hE, hz⟩ := id hC
  have hK := hE.2.1
  refine va_aldq hx hb hK hP q0 2 (C := RX1) he rfl hi hdg ?_
  rw [hv]
  exact kk p e R s m args below meth c H locs ls hC hP hD hS hl
theorem J_aast2 {len : Nat} {f : Nat → Option Nat} {n v : Nat} {vs : List Value} {i : Int32} (hdg : decode cc pc = .ok (.aastore, 1)) (q0 qk : Nat) (he : ws[q0]? = some (ad n, .inl (jcA X 2, len, .inr (.inr (.inr (.inr f)))))) (hv : ws[qk]? = some (ad v, .inr (1, vs))) (hi : vp_in i len) (kk : Jg X own cc nL ret nm d CR SR (Q) ad (cells) (slots) (pc + 1) (lv) (st) (ws.set q0 (ad n, .inl (jcA X 2, len, .inr (.inr (.inr (.inr (va_up f i.toNatClampNeg (some (ad v)))))))))) : Jg X own cc nL ret nm d CR SR (Q) ad (cells) (slots) (pc) (lv) (.ref v :: .int i :: .ref n :: st) (ws) := by
  intro p e R s m args below meth c H locs ls hC hP hD hS hl
  obtain ⟨hx, hb, hml, hr, hnm, hown, hts, hlk, hfr, hlo, hcr, hsr, hE, hz⟩ := id hC
  have hK := hE.2.1
  exact va_astq hx hb hK hP hD hS q0 2 qk 1 he rfl hv rfl hi hdg (fun H1 locs1 hP1 hD1 hS1 => kk p e R s m args below meth c H1 locs1 ls hC hP1 hD1 hS1 hl)
theorem J_aald3 {len : Nat} {f : Nat → Option Nat} {n : Nat} {i : Int32} {v : Value} (hdg : decode cc pc = .ok (.aaload, 1)) (q0 : Nat) (he : ws[q0]? = some (ad n, .inl (jcA X 3, len, .inr (.inr (.inr (.inr f)))))) (hi : vp_in i len) (hv : va_rf (f i.toNatClampNeg) = em ad v) (kk : Jg X own cc nL ret nm d CR SR (Q) ad (cells) (slots) (pc + 1) (lv) (v :: st) (ws)) : Jg X own cc nL ret nm d CR SR (Q) ad (cells) (slots) (pc) (lv) (.int i :: .ref n :: st) (ws) := by
  intro p e R s m args below meth c H locs ls hC hP hD hS hl
  obtain ⟨hx, hb, hml, hr, hnm, hown, hts, hlk, hfr, hlo, hcr, hsr, hE, hz⟩ := id hC
  have hK := hE.2.1
  refine va_aldq hx hb hK hP q0 3 (C := RX0) he rfl hi hdg ?_
  rw [hv]
  exact kk p e R s m args below meth c H locs ls hC hP hD hS hl
theorem J_aast3 {len : Nat} {f : Nat → Option Nat} {n v : Nat} {vs : List Value} {i : Int32} (hdg : decode cc pc = .ok (.aastore, 1)) (q0 qk : Nat) (he : ws[q0]? = some (ad n, .inl (jcA X 3, len, .inr (.inr (.inr (.inr f)))))) (hv : ws[qk]? = some (ad v, .inr (0, vs))) (hi : vp_in i len) (kk : Jg X own cc nL ret nm d CR SR (Q) ad (cells) (slots) (pc + 1) (lv) (st) (ws.set q0 (ad n, .inl (jcA X 3, len, .inr (.inr (.inr (.inr (va_up f i.toNatClampNeg (some (ad v)))))))))) : Jg X own cc nL ret nm d CR SR (Q) ad (cells) (slots) (pc) (lv) (.ref v :: .int i :: .ref n :: st) (ws) := by
  intro p e R s m args below meth c H locs ls hC hP hD hS hl
  obtain ⟨hx, hb, hml, hr, hnm, hown, hts, hlk, hfr, hlo, hcr, hsr, hE, hz⟩ := id hC
  have hK := hE.2.1
  exact va_astq hx hb hK hP hD hS q0 3 qk 0 he rfl hv rfl hi hdg (fun H1 locs1 hP1 hD1 hS1 => kk p e R s m args below meth c H1 locs1 ls hC hP1 hD1 hS1 hl)
theorem J_new {C : String} {T : u_T} {N ci index : Nat} (hc : vwCl[ci]? = some (C, T, N)) (hin : ∀ w ∈ u_ws C T N, w ∈ TW) (ty : Nat → FieldType) (hty : ∀ k, k < N → parseFieldDescriptor (T k).2.2.1 = some (ty k)) (hcl : Cond.classLink own index C ∈ TW) (hinst : Cond.instantiable C N ∈ TW) (hini : Cond.initialized C ∈ TW) {fs : List Value} (hfs : ∀ j, j < N → defaultValue (ty j) = vp_V fs j) (hf : cells + 1 ≤ CR ∧ slots + N ≤ SR) (hdg : decode cc pc = .ok (.new index, 3)) (kk : ∀ q : Nat, Jg X own cc nL ret nm d CR SR (Q) (fun n => n) (cells + 1) (slots + N) (pc + 3) (lv) (.ref q :: st) (ws ++ [(q, .inr (ci, fs))])) : Jg X own cc nL ret nm d CR SR (Q) (fun n => n) (cells) (slots) (pc) (lv) (st) (ws) := by
  intro p e R s m args below meth c H locs ls hC hP hD hS hl
  obtain ⟨hx, hb, hml, hr, hnm, hown, hts, hlk, hfr, hlo, hcr, hsr, hE, hz⟩ := id hC
  have hK := hE.2.1
  exact va_new hx hb hts hin ty hty hown (hts _ hcl) (hts _ hinst) (hts _ hini) hK hP hD hS (fun q h => Nat.le_trans hz h) hc hfs (Nat.le_trans hf.1 hcr) (Nat.le_trans hf.2 hsr) hdg (fun q H1 hP1 hD1 hS1 => kk q p e R s m args below meth c H1 locs ls hC hP1 hD1 hS1 hl)
theorem jRA_one {U : State} {c1 c2 : ClassId} {ty : FieldType} (h1 : va_RA U c1 ty) (h2 : va_RA U c2 ty) : c1 = c2 := by
  cases ty with
  | object C =>
    obtain ⟨_, _, _, _, _, e1⟩ := h1
    obtain ⟨_, _, _, _, _, e2⟩ := h2
    exact Option.some.inj (e1.symm.trans e2)
  | _ => exact Option.some.inj (h1.symm.trans h2)
theorem jK_one {X : jX} {U : State} {cA : ClassId} {ty : FieldType} (h : va_K (jD X) vwCl (jT X ++ [(cA, ty)]) U) (t : Nat) (ht : (jT X)[t]? = some (jcA X t, ty)) : cA = jcA X t := by
  have h1 := (h.2 4 (cA, ty) rfl).2
  have h2 := (h.2 t (jcA X t, ty) (by rw [List.getElem?_append_left (List.getElem?_eq_some_iff.mp ht).1]; exact ht)).2
  exact jRA_one h1 h2
theorem J_newi {n : Int32} {N : Nat} (harr : Cond.arrayClass .int ∈ TW) (hn : ¬ n < 0) (hN : n.toNatClampNeg = N) (hbytes : N * 4 ≤ 536870912) (hf : cells + 1 ≤ CR ∧ slots + N ≤ SR) (hdg : decode cc pc = .ok (.newarray .int, 2)) (kk : ∀ q : Nat, Jg X own cc nL ret nm d CR SR (Q) (fun n => n) (cells + 1) (slots + N) (pc + 2) (lv) (.ref q :: st) (ws ++ [(q, .inl (jcA X 0, N, .inl (fun _ => 0)))])) : Jg X own cc nL ret nm d CR SR (Q) (fun n => n) (cells) (slots) (pc) (lv) (.int n :: st) (ws) := by
  intro p e R s m args below meth c H locs ls hC hP hD hS hl
  obtain ⟨hx, hb, hml, hr, hnm, hown, hts, hlk, hfr, hlo, hcr, hsr, hE, hz⟩ := id hC
  have hK := hE.2.1
  refine va_newa (atype := .int) hx hb (hts _ harr) rfl hK hP hD hS (fun q h => Nat.le_trans hz h) (a0 := (N, .inl (fun _ => 0))) (fun cA => rfl) hn hN hbytes (Nat.le_trans hf.1 hcr) (Nat.le_trans hf.2 hsr) hdg (fun q cA H1 hK1 hP1 hD1 hS1 => ?_)
  have e : cA = jcA X 0 := jK_one hK1 0 rfl
  subst e
  exact kk q p e R s m args below meth c H1 locs ls hC hP1 hD1 hS1 hl
theorem J_newz {n : Int32} {N : Nat} (harr : Cond.arrayClass .boolean ∈ TW) (hn : ¬ n < 0) (hN : n.toNatClampNeg = N) (hbytes : N * 1 ≤ 536870912) (hf : cells + 1 ≤ CR ∧ slots + N ≤ SR) (hdg : decode cc pc = .ok (.newarray .boolean, 2)) (kk : ∀ q : Nat, Jg X own cc nL ret nm d CR SR (Q) (fun n => n) (cells + 1) (slots + N) (pc + 2) (lv) (.ref q :: st) (ws ++ [(q, .inl (jcA X 1, N, .inl (fun _ => 0)))])) : Jg X own cc nL ret nm d CR SR (Q) (fun n => n) (cells) (slots) (pc) (lv) (.int n :: st) (ws) := by
  intro p e R s m args below meth c H locs ls hC hP hD hS hl
  obtain ⟨hx, hb, hml, hr, hnm, hown, hts, hlk, hfr, hlo, hcr, hsr, hE, hz⟩ := id hC
  have hK := hE.2.1
  refine va_newa (atype := .boolean) hx hb (hts _ harr) rfl hK hP hD hS (fun q h => Nat.le_trans hz h) (a0 := (N, .inl (fun _ => 0))) (fun cA => rfl) hn hN hbytes (Nat.le_trans hf.1 hcr) (Nat.le_trans hf.2 hsr) hdg (fun q cA H1 hK1 hP1 hD1 hS1 => ?_)
  have e : cA = jcA X 1 := jK_one hK1 1 rfl
  subst e
  exact kk q p e R s m args below meth c H1 locs ls hC hP1 hD1 hS1 hl
theorem J_newq2 {index : Nat} {n : Int32} {N : Nat} (hcl : Cond.classLink own index RX1 ∈ TW) (hn : ¬ n < 0) (hN : n.toNatClampNeg = N) (hbytes : N * 4 ≤ 536870912) (hf : cells + 1 ≤ CR ∧ slots + N ≤ SR) (hdg : decode cc pc = .ok (.anewarray index, 3)) (kk : ∀ q : Nat, Jg X own cc nL ret nm d CR SR (Q) (fun n => n) (cells + 1) (slots + N) (pc + 3) (lv) (.ref q :: st) (ws ++ [(q, .inl (jcA X 2, N, .inr (.inr (.inr (.inr (fun _ => none))))))])) : Jg X own cc nL ret nm d CR SR (Q) (fun n => n) (cells) (slots) (pc) (lv) (.int n :: st) (ws) := by
  intro p e R s m args below meth c H locs ls hC hP hD hS hl
  obtain ⟨hx, hb, hml, hr, hnm, hown, hts, hlk, hfr, hlo, hcr, hsr, hE, hz⟩ := id hC
  have hK := hE.2.1
  refine va_newq hx hb hown (hts _ hcl) (hE.2.2.2.1) hK hP hD hS (fun q h => Nat.le_trans hz h) hn hN hbytes (Nat.le_trans hf.1 hcr) (Nat.le_trans hf.2 hsr) hdg (fun q cA H1 hK1 hP1 hD1 hS1 => ?_)
  have e : cA = jcA X 2 := jK_one hK1 2 rfl
  subst e
  exact kk q p e R s m args below meth c H1 locs ls hC hP1 hD1 hS1 hl
theorem J_newq3 {index : Nat} {n : Int32} {N : Nat} (hcl : Cond.classLink own index RX0 ∈ TW) (hn : ¬ n < 0) (hN : n.toNatClampNeg = N) (hbytes : N * 4 ≤ 536870912) (hf : cells + 1 ≤ CR ∧ slots + N ≤ SR) (hdg : decode cc pc = .ok (.anewarray index, 3)) (kk : ∀ q : Nat, Jg X own cc nL ret nm d CR SR (Q) (fun n => n) (cells + 1) (slots + N) (pc + 3) (lv) (.ref q :: st) (ws ++ [(q, .inl (jcA X 3, N, .inr (.inr (.inr (.inr (fun _ => none))))))])) : Jg X own cc nL ret nm d CR SR (Q) (fun n => n) (cells) (slots) (pc) (lv) (.int n :: st) (ws) := by
  intro p e R s m args below meth c H locs ls hC hP hD hS hl
  obtain ⟨hx, hb, hml, hr, hnm, hown, hts, hlk, hfr, hlo, hcr, hsr, hE, hz⟩ := id hC
  have hK := hE.2.1
  refine va_newq hx hb hown (hts _ hcl) (hE.2.2.2.2.1) hK hP hD hS (fun q h => Nat.le_trans hz h) hn hN hbytes (Nat.le_trans hf.1 hcr) (Nat.le_trans hf.2 hsr) hdg (fun q cA H1 hK1 hP1 hD1 hS1 => ?_)
  have e : cA = jcA X 3 := jK_one hK1 3 rfl
  subst e
  exact kk q p e R s m args below meth c H1 locs ls hC hP1 hD1 hS1 hl
theorem J_objInit {idx n : Nat} (hl1 : Cond.methodLink own idx Lib.objectInit ∈ TW) (hi1 : Cond.instanceMethod Lib.objectInit ∈ TW) (hc1 : Cond.code Lib.objectInit ⟨#[0xb1]⟩ 1 none ∈ TW) (hdg : decode cc pc = .ok (.invokespecial idx, 3)) (hd : 1 ≤ d) (hcat : (st.map fun v => v.category).sum ≤ 8) (kk : Jg X own cc nL ret nm d CR SR (Q) ad (cells) (slots) (pc + 3) (lv) (st) (ws)) : Jg X own cc nL ret nm d CR SR (Q) ad (cells) (slots) (pc) (lv) (.ref n :: st) (ws) := by
  intro p e R s m args below meth c H locs ls hC hP hD hS hl
  obtain ⟨hx, hb, hml, hr, hnm, hown, hts, hlk, hfr, hlo, hcr, hsr, hE, hz⟩ := id hC
  have hK := hE.2.1
  have hcat' : ((st.map (em ad)).map fun v => v.category).sum ≤ 8 := by rw [List.map_map]; simpa [Function.comp_def, em_cat] using hcat
  exact W.objInit hx hb hown (hts _ hl1) (hts _ hi1) (hts _ hc1) rfl (by rw [hml]; exact hl.1) rfl hdg (by omega) (by show 2 * 0 + _ + 12 ≤ _; omega) (kk p e R s m args below meth c H locs ls hC hP hD hS hl)
end RULES
