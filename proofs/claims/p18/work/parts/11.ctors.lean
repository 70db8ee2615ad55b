section KRULES
variable {X : jX} {own : String} {cc : ByteArray} {nL : Nat} {ret : Option FieldType} {nm : String} {d CR SR : Nat} {Q : List Frame → Array Value → State → State → Prop} {cells slots pc : Nat} {lv : List (Nat × Value)} {st : List Value} {wsP l : va_W}
theorem pre_get {wsP l : va_W} {k : Nat} {e : Nat × va_E} (h : l[k]? = some e) : (wsP ++ l)[wsP.length + k]? = some e := by
  rw [List.getElem?_append_right (by omega)]
  simpa using h
theorem pre_set {wsP l : va_W} {k : Nat} {e : Nat × va_E} : (wsP ++ l).set (wsP.length + k) e = wsP ++ l.set k e := by
  rw [List.set_append_right _ _ (by omega)]
  simp
theorem K_get {C : String} {T : u_T} {N ci index : Nat} (hc : vwCl[ci]? = some (C, T, N)) (hin : ∀ w ∈ u_ws C T N, w ∈ TW) (k : Nat) (hk : Nat.blt k N = true) (hlink : Cond.fieldLink own index (T k).1 (T k).2.1 (T k).2.2.1 ∈ TW) (hdg : decode cc pc = .ok (.getfield index, 3)) (q0 : Nat) {n : Nat} {fs : List Value} {v : Value} (he : l[q0]? = some (n, .inr (ci, fs))) (hv : fs[k]? = some v) (hem : em (fun n => n) v = v) (kk : Jg X own cc nL ret nm d CR SR (Q) (fun n => n) (cells) (slots) (pc + 3) (lv) (v :: st) (wsP ++ l)) : Jg X own cc nL ret nm d CR SR (Q) (fun n => n) (cells) (slots) (pc) (lv) (.ref n :: st) (wsP ++ l) :=
  J_get hc hin k hk hlink hdg (wsP.length + q0) (pre_get he) (by rw [hem]; exact hv) kk
theorem K_put {C : String} {T : u_T} {N ci index : Nat} (hc : vwCl[ci]? = some (C, T, N)) (hin : ∀ w ∈ u_ws C T N, w ∈ TW) (ty0 : Nat → FieldType) (hty : ∀ k, k < N → parseFieldDescriptor (T k).2.2.1 = some (ty0 k)) (hnm1 : ∀ a, a < N → ∀ b, b < N → a ≠ b → (T a).2.1 ≠ (T b).2.1) (k : Nat) (hk : Nat.blt k N = true) (hlink : Cond.fieldLink own index (T k).1 (T k).2.1 (T k).2.2.1 ∈ TW) (hfin : (T k).2.2.2 = false) {ty : FieldType} {v : Value} (hd : parseFieldDescriptor (T k).2.2.1 = some ty) (hem : em (fun n => n) v = v) (hn : narrow ty v = v) (hfit : fits ty v = true) (hdg : decode cc pc = .ok (.putfield index, 3)) (q0 : Nat) {n : Nat} {fs : List Value} (he : l[q0]? = some (n, .inr (ci, fs))) (hlen : Nat.blt k fs.length = true) (kk : Jg X own cc nL ret nm d CR SR (Q) (fun n => n) (cells) (slots) (pc + 3) (lv) (st) (wsP ++ l.set q0 (n, .inr (ci, fs.set k v)))) : Jg X own cc nL ret nm d CR SR (Q) (fun n => n) (cells) (slots) (pc) (lv) (v :: .ref n :: st) (wsP ++ l) := by
  refine J_put (ty := ty) hc hin ty0 hty hnm1 k hk hlink hfin hd (by rw [hem]; exact hn) (by rw [hem]; exact hfit) hdg (wsP.length + q0) (pre_get he) hlen ?_
  rw [hem, pre_set]
  exact kk
theorem K_putF {C : String} {T : u_T} {N ci index : Nat} (hc : vwCl[ci]? = some (C, T, N)) (hin : ∀ w ∈ u_ws C T N, w ∈ TW) (ty0 : Nat → FieldType) (hty : ∀ k, k < N → parseFieldDescriptor (T k).2.2.1 = some (ty0 k)) (hnm1 : ∀ a, a < N → ∀ b, b < N → a ≠ b → (T a).2.1 ≠ (T b).2.1) (k : Nat) (hk : Nat.blt k N = true) (hlink : Cond.fieldLink own index (T k).1 (T k).2.1 (T k).2.2.1 ∈ TW) (hfin : (T k).2.2.2 = true) (hnm0 : nm = "<init>") (hdecl : (T k).1 = own) {ty : FieldType} {v : Value} (hd : parseFieldDescriptor (T k).2.2.1 = some ty) (hem : em (fun n => n) v = v) (hn : narrow ty v = v) (hfit : fits ty v = true) (hdg : decode cc pc = .ok (.putfield index, 3)) (q0 : Nat) {n : Nat} {fs : List Value} (he : l[q0]? = some (n, .inr (ci, fs))) (hlen : Nat.blt k fs.length = true) (kk : Jg X own cc nL ret nm d CR SR (Q) (fun n => n) (cells) (slots) (pc + 3) (lv) (st) (wsP ++ l.set q0 (n, .inr (ci, fs.set k v)))) : Jg X own cc nL ret nm d CR SR (Q) (fun n => n) (cells) (slots) (pc) (lv) (v :: .ref n :: st) (wsP ++ l) := by
  refine J_putF (ty := ty) hc hin ty0 hty hnm1 k hk hlink hfin hnm0 hdecl hd (by rw [hem]; exact hn) (by rw [hem]; exact hfit) hdg (wsP.length + q0) (pre_get he) hlen ?_
  rw [hem, pre_set]
  exact kk
theorem K_new {C : String} {T : u_T} {N ci index : Nat} (hc : vwCl[ci]? = some (C, T, N)) (hin : ∀ w ∈ u_ws C T N, w ∈ TW) (ty : Nat → FieldType) (hty : ∀ k, k < N → parseFieldDescriptor (T k).2.2.1 = some (ty k)) (hcl : Cond.classLink own index C ∈ TW) (hinst : Cond.instantiable C N ∈ TW) (hini : Cond.initialized C ∈ TW) (fs : List Value) (hfs : ∀ j, j < N → defaultValue (ty j) = vp_V fs j) (hf : Nat.ble (cells + 1) CR = true ∧ Nat.ble (slots + N) SR = true) (hdg : decode cc pc = .ok (.new index, 3)) (kk : ∀ q : Nat, Jg X own cc nL ret nm d CR SR (Q) (fun n => n) (cells + 1) (slots + N) (pc + 3) (lv) (.ref q :: st) ((wsP ++ l) ++ [(q, .inr (ci, fs))])) : Jg X own cc nL ret nm d CR SR (Q) (fun n => n) (cells) (slots) (pc) (lv) (st) (wsP ++ l) :=
  J_new hc hin ty hty hcl hinst hini hfs ⟨Nat.le_of_ble_eq_true hf.1, Nat.le_of_ble_eq_true hf.2⟩ hdg kk
theorem K_newi {n : Int32} (N : Nat) (hn : ¬ n < 0) (hN : n.toNatClampNeg = N) (hbytes : Nat.ble (N * 4) 536870912 = true) (hf : Nat.ble (cells + 1) CR = true ∧ Nat.ble (slots + N) SR = true) (hdg : decode cc pc = .ok (.newarray .int, 2)) (kk : ∀ q : Nat, Jg X own cc nL ret nm d CR SR (Q) (fun n => n) (cells + 1) (slots + N) (pc + 2) (lv) (.ref q :: st) (wsP ++ (l ++ [(q, .inl (jcA X 0, N, .inl (fun _ => 0)))]))) : Jg X own cc nL ret nm d CR SR (Q) (fun n => n) (cells) (slots) (pc) (lv) (.int n :: st) (wsP ++ l) :=
  J_newi wa_int hn hN (Nat.le_of_ble_eq_true hbytes) ⟨Nat.le_of_ble_eq_true hf.1, Nat.le_of_ble_eq_true hf.2⟩ hdg (fun q => J_ws (List.append_assoc wsP l _) (kk q))
theorem K_newz {n : Int32} (N : Nat) (hn : ¬ n < 0) (hN : n.toNatClampNeg = N) (hbytes : Nat.ble (N * 1) 536870912 = true) (hf : Nat.ble (cells + 1) CR = true ∧ Nat.ble (slots + N) SR = true) (hdg : decode cc pc = .ok (.newarray .boolean, 2)) (kk : ∀ q : Nat, Jg X own cc nL ret nm d CR SR (Q) (fun n => n) (cells + 1) (slots + N) (pc + 2) (lv) (.ref q :: st) (wsP ++ (l ++ [(q, .inl (jcA X 1, N, .inl (fun _ => 0)))]))) : Jg X own cc nL ret nm d CR SR (Q) (fun n => n) (cells) (slots) (pc) (lv) (.int n :: st) (wsP ++ l) :=
  J_newz wa_boolean hn hN (Nat.le_of_ble_eq_true hbytes) ⟨Nat.le_of_ble_eq_true hf.1, Nat.le_of_ble_eq_true hf.2⟩ hdg (fun q => J_ws (List.append_assoc wsP l _) (kk q))
theorem K_newq2 {index : Nat} {n : Int32} (N : Nat) (hcl : Cond.classLink own index RX1 ∈ TW) (hn : ¬ n < 0) (hN : n.toNatClampNeg = N) (hbytes : Nat.ble (N * 4) 536870912 = true) (hf : Nat.ble (cells + 1) CR = true ∧ Nat.ble (slots + N) SR = true) (hdg : decode cc pc = .ok (.anewarray index, 3)) (kk : ∀ q : Nat, Jg X own cc nL ret nm d CR SR (Q) (fun n => n) (cells + 1) (slots + N) (pc + 3) (lv) (.ref q :: st) (wsP ++ (l ++ [(q, .inl (jcA X 2, N, .inr (.inr (.inr (.inr (fun _ => none))))))]))) : Jg X own cc nL ret nm d CR SR (Q) (fun n => n) (cells) (slots) (pc) (lv) (.int n :: st) (wsP ++ l) :=
  J_newq2 hcl hn hN (Nat.le_of_ble_eq_true hbytes) ⟨Nat.le_of_ble_eq_true hf.1, Nat.le_of_ble_eq_true hf.2⟩ hdg (fun q => J_ws (List.append_assoc wsP l _) (kk q))
theorem K_aast2 {len : Nat} {f : Nat → Option Nat} {n v : Nat} {vs : List Value} {i : Int32} (k : Nat) (hk : i.toNatClampNeg = k) (hdg : decode cc pc = .ok (.aastore, 1)) (q0 qk : Nat) (he : l[q0]? = some (n, .inl (jcA X 2, len, .inr (.inr (.inr (.inr f)))))) (hv : l[qk]? = some (v, .inr (1, vs))) (hi : vp_in i len) (kk : Jg X own cc nL ret nm d CR SR (Q) (fun n => n) (cells) (slots) (pc + 1) (lv) (st) (wsP ++ l.set q0 (n, .inl (jcA X 2, len, .inr (.inr (.inr (.inr (va_up f k (some v))))))))) : Jg X own cc nL ret nm d CR SR (Q) (fun n => n) (cells) (slots) (pc) (lv) (.ref v :: .int i :: .ref n :: st) (wsP ++ l) := by
  subst hk
  refine J_aast2 hdg (wsP.length + q0) (wsP.length + qk) (pre_get he) (pre_get hv) hi ?_
  exact J_ws pre_set kk
theorem K_newq3 {index : Nat} {n : Int32} (N : Nat) (hcl : Cond.classLink own index RX0 ∈ TW) (hn : ¬ n < 0) (hN : n.toNatClampNeg = N) (hbytes : Nat.ble (N * 4) 536870912 = true) (hf : Nat.ble (cells + 1) CR = true ∧ Nat.ble (slots + N) SR = true) (hdg : decode cc pc = .ok (.anewarray index, 3)) (kk : ∀ q : Nat, Jg X own cc nL ret nm d CR SR (Q) (fun n => n) (cells + 1) (slots + N) (pc + 3) (lv) (.ref q :: st) (wsP ++ (l ++ [(q, .inl (jcA X 3, N, .inr (.inr (.inr (.inr (fun _ => none))))))]))) : Jg X own cc nL ret nm d CR SR (Q) (fun n => n) (cells) (slots) (pc) (lv) (.int n :: st) (wsP ++ l) :=
  J_newq3 hcl hn hN (Nat.le_of_ble_eq_true hbytes) ⟨Nat.le_of_ble_eq_true hf.1, Nat.le_of_ble_eq_true hf.2⟩ hdg (fun q => J_ws (List.append_assoc wsP l _) (kk q))
theorem K_aast3 {len : Nat} {f : Nat → Option Nat} {n v : Nat} {vs : List Value} {i : Int32} (k : Nat) (hk : i.toNatClampNeg = k) (hdg : decode cc pc = .ok (.aastore, 1)) (q0 qk : Nat) (he : l[q0]? = some (n, .inl (jcA X 3, len, .inr (.inr (.inr (.inr f)))))) (hv : l[qk]? = some (v, .inr (0, vs))) (hi : vp_in i len) (kk : Jg X own cc nL ret nm d CR SR (Q) (fun n => n) (cells) (slots) (pc + 1) (lv) (st) (wsP ++ l.set q0 (n, .inl (jcA X 3, len, .inr (.inr (.inr (.inr (va_up f k (some v))))))))) : Jg X own cc nL ret nm d CR SR (Q) (fun n => n) (cells) (slots) (pc) (lv) (.ref v :: .int i :: .ref n :: st) (wsP ++ l) := by
  subst hk
  refine J_aast3 hdg (wsP.length + q0) (wsP.length + qk) (pre_get he) (pre_get hv) hi ?_
  exact J_ws pre_set kk
theorem K_iast {len : Nat} {f : Nat → Int32} {n : Nat} {i x : Int32} (k : Nat) (hk : i.toNatClampNeg = k) (hdg : decode cc pc = .ok (.iastore, 1)) (q0 : Nat) (he : l[q0]? = some (n, .inl (jcA X 0, len, .inl f))) (hi : vp_in i len) (kk : Jg X own cc nL ret nm d CR SR (Q) (fun n => n) (cells) (slots) (pc + 1) (lv) (st) (wsP ++ l.set q0 (n, .inl (jcA X 0, len, .inl (upd f k x))))) : Jg X own cc nL ret nm d CR SR (Q) (fun n => n) (cells) (slots) (pc) (lv) (.int x :: .int i :: .ref n :: st) (wsP ++ l) := by
  subst hk
  refine J_iast hdg (wsP.length + q0) (pre_get he) hi ?_
  exact J_ws pre_set kk
theorem K_clone {index : Nat} {n : Nat} (ha : n = jx X 0) (hlink : Cond.methodLink own index ⟨"[I", "clone", "()Ljava/lang/Object;"⟩ ∈ TW) (hdg : decode cc pc = .ok (.invokevirtual index, 3)) (hd : Nat.ble 1 d = true) (hf : Nat.ble (cells + 1) CR = true ∧ Nat.ble (slots + 5) SR = true) (hcat : Nat.ble (st.map fun v => v.category).sum 8 = true) (kk : ∀ q : Nat, Jg X own cc nL ret nm d CR SR (Q) (fun n => n) (cells + 1) (slots + 5) (pc + 3) (lv) (.ref q :: st) (wsP ++ (l ++ [(q, .inl (jcA X 0, 5, .inl (fun j => [1, 20, 3, 2, 120].getD j 0)))]))) : Jg X own cc nL ret nm d CR SR (Q) (fun n => n) (cells) (slots) (pc) (lv) (.ref n :: st) (wsP ++ l) :=
  J_clone ha hlink wk_same wk_nat wk_inst wk_sel hdg (Nat.le_of_ble_eq_true hd) ⟨Nat.le_of_ble_eq_true hf.1, Nat.le_of_ble_eq_true hf.2⟩ (Nat.le_of_ble_eq_true hcat) (fun q => J_ws (List.append_assoc wsP l _) (kk q))
theorem K_castI {index n : Nat} {x : vp_A} (hlink : Cond.classLink own index "[I" ∈ TW) (q0 : Nat) (he : l[q0]? = some (n, .inl (jcA X 0, x))) (hdg : decode cc pc = .ok (.checkcast index, 3)) (kk : Jg X own cc nL ret nm d CR SR (Q) (fun n => n) (cells) (slots) (pc + 3) (lv) (.ref n :: st) (wsP ++ l)) : Jg X own cc nL ret nm d CR SR (Q) (fun n => n) (cells) (slots) (pc) (lv) (.ref n :: st) (wsP ++ l) :=
  J_castI hlink (wsP.length + q0) (pre_get he) hdg kk
theorem K_obj {idx n : Nat} {ws : va_W} (hl1 : Cond.methodLink own idx Lib.objectInit ∈ TW) (hdg : decode cc pc = .ok (.invokespecial idx, 3)) (hd : Nat.ble 1 d = true) (hcat : Nat.ble (st.map fun v => v.category).sum 8 = true) (kk : Jg X own cc nL ret nm d CR SR (Q) (fun n => n) (cells) (slots) (pc + 3) (lv) (st) (ws)) : Jg X own cc nL ret nm d CR SR (Q) (fun n => n) (cells) (slots) (pc) (lv) (.ref n :: st) (ws) :=
  J_objInit hl1 wk_obi wk_obc hdg (Nat.le_of_ble_eq_true hd) (Nat.le_of_ble_eq_true hcat) kk
theorem K_call {index : Nat} {y : MethodName} {cc' : ByteArray} {nL' d' mc ms b : Nat} {e0 : va_E} {R : va_W → Prop} (hw : jWI own index y cc' nL' 0) (hM : Ct X y cc' nL' none d' mc ms (fun n => n) [.ref b] ((wsP ++ l) ++ [(b, e0)]) (fun v ws' => v = none ∧ ∃ l', ws' = (wsP ++ l) ++ l' ∧ R l')) (hdg : decode cc pc = .ok (.invokespecial index, 3)) (hd : Nat.ble (d' + 1) d = true) (hf : Nat.ble (cells + mc) CR = true ∧ Nat.ble (slots + ms) SR = true) (hcat : Nat.ble (st.map fun v => v.category).sum 8 = true) (kk : ∀ l' : va_W, R l' → Jg X own cc nL ret nm d CR SR (Q) (fun n => n) (cells + mc) (slots + ms) (pc + 3) (lv) (st) (wsP ++ (l ++ l'))) : Jg X own cc nL ret nm d CR SR (Q) (fun n => n) (cells) (slots) (pc) (lv) (.ref b :: st) ((wsP ++ l) ++ [(b, e0)]) :=
  J_callI (As := []) hw hM rfl rfl hdg hd hf hcat (fun v ws' hv => by
    obtain ⟨rfl, l', rfl, hR⟩ := hv
    exact J_ws (List.append_assoc wsP l l') (kk l' hR))
theorem K_callN {index : Nat} {y : MethodName} {cc' : ByteArray} {nL' d' mc ms b : Nat} {e0 : va_E} {R : va_W → Prop} (hw : jWIN own index y cc' nL' 0) (hM : Ct X y cc' nL' none d' mc ms (fun n => n) [.ref b] ((wsP ++ l) ++ [(b, e0)]) (fun v ws' => v = none ∧ ∃ l', ws' = (wsP ++ l) ++ l' ∧ R l')) (hdg : decode cc pc = .ok (.invokespecial index, 3)) (hd : Nat.ble (d' + 1) d = true) (hf : Nat.ble (cells + mc) CR = true ∧ Nat.ble (slots + ms) SR = true) (hcat : Nat.ble (st.map fun v => v.category).sum 8 = true) (kk : ∀ l' : va_W, R l' → Jg X own cc nL ret nm d CR SR (Q) (fun n => n) (cells + mc) (slots + ms) (pc + 3) (lv) (st) (wsP ++ (l ++ l'))) : Jg X own cc nL ret nm d CR SR (Q) (fun n => n) (cells) (slots) (pc) (lv) (.ref b :: st) ((wsP ++ l) ++ [(b, e0)]) :=
  J_callIN (As := []) hw hM rfl rfl hdg hd hf hcat (fun v ws' hv => by
    obtain ⟨rfl, l', rfl, hR⟩ := hv
    exact J_ws (List.append_assoc wsP l l') (kk l' hR))
end KRULES
def busW (X : jX) (h0 a1 a2 a3 a4 a5 : Nat) : va_W := [(h0, .inr (2, [.ref a1, .ref a2, .ref a3, .ref a4, .int 0, .ref a5, .int 0, .int (-6), .int 0, .int 0, .int 0, .int 0])), (a1, .inl (jcA X 0, 200, .inl (fun _ => 0))), (a2, .inl (jcA X 0, 200, .inl (fun _ => 0))), (a3, .inl (jcA X 0, 200, .inl (fun _ => 0))), (a4, .inl (jcA X 0, 200, .inl (fun _ => 0))), (a5, .inl (jcA X 0, 10, .inl (fun _ => 0)))]
def bpW (X : jX) (a : Nat → Nat) : va_W := [(a 0, .inr (0, [.ref (a 1), .ref (a 2), .ref (a 11), .int 0, .int 0, .int 0])), (a 1, .inl (jcA X 0, 5, .inl (fun j => [1, 20, 3, 2, 120].getD j 0))), (a 2, .inl (jcA X 2, 8, .inr (.inr (.inr (.inr (fun j => [some (a 3), some (a 4), some (a 5), some (a 6), some (a 7), some (a 8), some (a 9), some (a 10)].getD j none)))))), (a 3, .inr (1, [.int 0, .int 0, .int 0, .int 0, .int 0, .int 0, .int 0, .int 0, .int 0, .int 0])), (a 4, .inr (1, [.int 0, .int 0, .int 0, .int 0, .int 0, .int 0, .int 0, .int 0, .int 0, .int 0])), (a 5, .inr (1, [.int 0, .int 0, .int 0, .int 0, .int 0, .int 0, .int 0, .int 0, .int 0, .int 0])), (a 6, .inr (1, [.int 0, .int 0, .int 0, .int 0, .int 0, .int 0, .int 0, .int 0, .int 0, .int 0])), (a 7, .inr (1, [.int 0, .int 0, .int 0, .int 0, .int 0, .int 0, .int 0, .int 0, .int 0, .int 0])), (a 8, .inr (1, [.int 0, .int 0, .int 0, .int 0, .int 0, .int 0, .int 0, .int 0, .int 0, .int 0])), (a 9, .inr (1, [.int 0, .int 0, .int 0, .int 0, .int 0, .int 0, .int 0, .int 0, .int 0, .int 0])), (a 10, .inr (1, [.int 0, .int 0, .int 0, .int 0, .int 0, .int 0, .int 0, .int 0, .int 0, .int 0]))] ++ busW X (a 11) (a 12) (a 13) (a 14) (a 15) (a 16)
def padW (X : jX) (h0 a1 a2 : Nat) : va_W := [(h0, .inr (4, [.ref a1, .int 0, .int 0, .int 0, .ref a2])), (a1, .inl (jcA X 0, 80, .inl (fun _ => 0))), (a2, .inl (jcA X 0, 3, .inl (fun _ => 0)))]
def hisW (X : jX) (h0 q : Nat) (A : Nat → Nat → Nat) : va_W := [(h0, .inr (3, [.ref q, .int 0, .int 0])), (q, .inl (jcA X 3, 7, .inr (.inr (.inr (.inr (fun j => [some (A 0 0), some (A 1 0), some (A 2 0), some (A 3 0), some (A 4 0), some (A 5 0), some (A 6 0)].getD j none))))))] ++ (bpW X (A 0) ++ (bpW X (A 1) ++ (bpW X (A 2) ++ (bpW X (A 3) ++ (bpW X (A 4) ++ (bpW X (A 5) ++ bpW X (A 6)))))))
def s0 : Nat → Int32 := fun j => if j = 295 then -6 else [1, 20, 3, 2, 120].getD j 0
def modW (X : jX) (h0 a1 a2 a3 a4 a5 : Nat) : va_W := [(h0, .inr (6, [.ref a1, .ref a2, .ref a3, .int 0, .ref a4, .int 0, .ref a5, .int 0, .int 0, .int 0, .int 0, .int 0, .int 0, .int 0])), (a1, .inl (jcA X 0, 302, .inl s0)), (a2, .inl (jcA X 0, 302, .inl (fun _ => 0))), (a3, .inl (jcA X 0, 1812, .inl (fun _ => 0))), (a4, .inl (jcA X 0, 604, .inl (fun _ => 0))), (a5, .inl (jcA X 0, 80, .inl (fun _ => 0)))]
theorem defs0 : ∀ j, j < 6 → defaultValue (tyX0 j) = vp_V [.null, .null, .null, .int 0, .int 0, .int 0] j := by decide +kernel
theorem defs1 : ∀ j, j < 10 → defaultValue (tyX1 j) = vp_V [.int 0, .int 0, .int 0, .int 0, .int 0, .int 0, .int 0, .int 0, .int 0, .int 0] j := by decide +kernel
theorem defs2 : ∀ j, j < 12 → defaultValue (tyX2 j) = vp_V [.null, .null, .null, .null, .int 0, .null, .int 0, .int 0, .int 0, .int 0, .int 0, .int 0] j := by decide +kernel
theorem defs3 : ∀ j, j < 3 → defaultValue (tyX3 j) = vp_V [.null, .int 0, .int 0] j := by decide +kernel
theorem defs4 : ∀ j, j < 5 → defaultValue (tyX4 j) = vp_V [.null, .int 0, .int 0, .int 0, .null] j := by decide +kernel
theorem defs5 : ∀ j, j < 6 → defaultValue (tyX5 j) = vp_V [.null, .null, .null, .null, .null, .null] j := by decide +kernel
theorem defs6 : ∀ j, j < 14 → defaultValue (tyX6 j) = vp_V [.null, .null, .null, .int 0, .null, .int 0, .null, .int 0, .int 0, .int 0, .int 0, .int 0, .int 0, .int 0] j := by decide +kernel
theorem blt_in {i : Int32} {k n : Nat} (h0 : ¬ i < 0) (hk : i.toNatClampNeg = k) (h : Nat.blt k n = true) : vp_in i n := by
  rintro (h1 | h1)
  · exact h0 h1
  · rw [hk] at h1
    have := Nat.le_of_ble_eq_true h
    omega
set_option maxRecDepth 100000 in
set_option maxHeartbeats 4000000 in
theorem c_X1_init {X : jX} (wsP : va_W) (h0 : Nat) : Ct X yX1_init cX1_init 1 none 1 0 0 (fun n => n) [.ref h0] (wsP ++ [(h0, .inr (1, [.int 0, .int 0, .int 0, .int 0, .int 0, .int 0, .int 0, .int 0, .int 0, .int 0]))]) (fun v ws' => v = none ∧ ∃ l', ws' = wsP ++ l' ∧ l' = [(h0, .inr (1, [.int 0, .int 0, .int 0, .int 0, .int 0, .int 0, .int 0, .int 0, .int 0, .int 0]))]) := by
  refine Ct.of (own := RX1) (nm := "<init>") (by decide +kernel) rfl rfl rfl rfl ?_
  refine J_aload_n dX1_init_0 rfl rfl ?_
  refine K_obj wm_X1_3 dX1_init_1 rfl rfl ?_
  refine J_return dX1_init_4 rfl rfl ?_
  exact ⟨rfl, [(h0, .inr (1, [.int 0, .int 0, .int 0, .int 0, .int 0, .int 0, .int 0, .int 0, .int 0, .int 0]))], rfl, rfl⟩
set_option maxRecDepth 100000 in
set_option maxHeartbeats 4000000 in
theorem c_X2_init {X : jX} (wsP : va_W) (h0 : Nat) : Ct X yX2_init cX2_init 1 none 1 5 810 (fun n => n) [.ref h0] (wsP ++ [(h0, .inr (2, [.null, .null, .null, .null, .int 0, .null, .int 0, .int 0, .int 0, .int 0, .int 0, .int 0]))]) (fun v ws' => v = none ∧ ∃ l', ws' = wsP ++ l' ∧ ∃ a1 a2 a3 a4 a5, l' = busW X h0 a1 a2 a3 a4 a5) := by
  refine Ct.of (own := RX2) (nm := "<init>") (by decide +kernel) rfl rfl rfl rfl ?_
  refine J_aload_n dX2_init_0 rfl rfl ?_
  refine K_obj wm_X2_3 dX2_init_1 rfl rfl ?_
  refine J_aload_n dX2_init_4 rfl rfl ?_
  refine J_sipush (v := 200) dX2_init_5 (by decide) ?_
  refine K_newi 200 (by decide) (by decide) rfl ⟨rfl, rfl⟩ dX2_init_8 (fun a1 => ?_)
  refine K_putF (T := TX2) (ci := 2) (N := 12) (ty := tyX2 0) rfl inTX2 tyX2 tyX2_ok nmX2 0 rfl wf_X2_9 rfl rfl rfl (by decide +kernel) rfl rfl rfl dX2_init_10 0 rfl rfl ?_
  refine J_aload_n dX2_init_13 rfl rfl ?_
  refine J_sipush (v := 200) dX2_init_14 (by decide) ?_
  refine K_newi 200 (by decide) (by decide) rfl ⟨rfl, rfl⟩ dX2_init_17 (fun a2 => ?_)
  refine K_putF (T := TX2) (ci := 2) (N := 12) (ty := tyX2 1) rfl inTX2 tyX2 tyX2_ok nmX2 1 rfl wf_X2_15 rfl rfl rfl (by decide +kernel) rfl rfl rfl dX2_init_19 0 rfl rfl ?_
  refine J_aload_n dX2_init_22 rfl rfl ?_
  refine J_sipush (v := 200) dX2_init_23 (by decide) ?_
  refine K_newi 200 (by decide) (by decide) rfl ⟨rfl, rfl⟩ dX2_init_26 (fun a3 => ?_)
  refine K_putF (T := TX2) (ci := 2) (N := 12) (ty := tyX2 2) rfl inTX2 tyX2 tyX2_ok nmX2 2 rfl wf_X2_18 rfl rfl rfl (by decide +kernel) rfl rfl rfl dX2_init_28 0 rfl rfl ?_
  refine J_aload_n dX2_init_31 rfl rfl ?_
  refine J_sipush (v := 200) dX2_init_32 (by decide) ?_
  refine K_newi 200 (by decide) (by decide) rfl ⟨rfl, rfl⟩ dX2_init_35 (fun a4 => ?_)
  refine K_putF (T := TX2) (ci := 2) (N := 12) (ty := tyX2 3) rfl inTX2 tyX2 tyX2_ok nmX2 3 rfl wf_X2_21 rfl rfl rfl (by decide +kernel) rfl rfl rfl dX2_init_37 0 rfl rfl ?_
  refine J_aload_n dX2_init_40 rfl rfl ?_
  refine J_bipush (v := 10) dX2_init_41 (by decide) ?_
  refine K_newi 10 (by decide) (by decide) rfl ⟨rfl, rfl⟩ dX2_init_43 (fun a5 => ?_)
  refine K_putF (T := TX2) (ci := 2) (N := 12) (ty := tyX2 5) rfl inTX2 tyX2 tyX2_ok nmX2 5 rfl wf_X2_24 rfl rfl rfl (by decide +kernel) rfl rfl rfl dX2_init_45 0 rfl rfl ?_
  refine J_aload_n dX2_init_48 rfl rfl ?_
  refine J_bipush (v := -6) dX2_init_49 (by decide) ?_
  refine K_put (T := TX2) (ci := 2) (N := 12) (ty := tyX2 7) rfl inTX2 tyX2 tyX2_ok nmX2 7 rfl wf_X2_27 rfl (by decide +kernel) rfl rfl rfl dX2_init_51 0 rfl rfl ?_
  refine J_return dX2_init_54 rfl rfl ?_
  exact ⟨rfl, _, rfl, a1, a2, a3, a4, a5, rfl⟩
set_option maxRecDepth 100000 in
set_option maxHeartbeats 4000000 in
theorem c_X0_init {X : jX} (wsP : va_W) (h0 : Nat) : Ct X yX0_init cX0_init 2 none 2 16 915 (fun n => n) [.ref h0] (wsP ++ [(h0, .inr (0, [.null, .null, .null, .int 0, .int 0, .int 0]))]) (fun v ws' => v = none ∧ ∃ l', ws' = wsP ++ l' ∧ ∃ a : Nat → Nat, a 0 = h0 ∧ l' = bpW X a) := by
  refine Ct.of (own := RX0) (nm := "<init>") (by decide +kernel) rfl rfl rfl rfl ?_
  refine J_aload_n dX0_init_0 rfl rfl ?_
  refine K_obj wm_X0_3 dX0_init_1 rfl rfl ?_
  refine J_aload_n dX0_init_4 rfl rfl ?_
  refine J_getsN (n := jx X 0) (nme := "FIRST_SETTINGS") 0 rfl wn_X0_9 dX0_init_5 ?_
  refine K_clone rfl wm_X0_13 dX0_init_8 rfl ⟨rfl, rfl⟩ rfl (fun q1 => ?_)
  refine K_castI wc_X0_14 1 rfl dX0_init_11 ?_
  refine K_putF (T := TX0) (ci := 0) (N := 6) (ty := tyX0 0) rfl inTX0 tyX0 tyX0_ok nmX0 0 rfl wf_X0_18 rfl rfl rfl (by decide +kernel) rfl rfl rfl dX0_init_14 0 rfl rfl ?_
  refine J_aload_n dX0_init_17 rfl rfl ?_
  refine J_bipush (v := 8) dX0_init_18 (by decide) ?_
  refine K_newq2 8 wc_X0_23 (by decide) (by decide) rfl ⟨rfl, rfl⟩ dX0_init_20 (fun q2 => ?_)
  refine K_putF (T := TX0) (ci := 0) (N := 6) (ty := tyX0 1) rfl inTX0 tyX0 tyX0_ok nmX0 1 rfl wf_X0_25 rfl rfl rfl (by decide +kernel) rfl rfl rfl dX0_init_23 0 rfl rfl ?_
  refine J_iconst (v := 0) dX0_init_26 (by decide) ?_
  refine J_istore_n dX0_init_27 rfl rfl rfl ?_
  refine J_ws (ws' := wsP ++ [(h0, .inr (0, [.ref q1, .ref q2, .null, .int 0, .int 0, .int 0])), (q1, .inl (jcA X 0, 5, .inl (fun j => [1, 20, 3, 2, 120].getD j 0))), (q2, .inl (jcA X 2, 8, .inr (.inr (.inr (.inr (fun _ => none))))))]) rfl ?_
  refine J_iload_n dX0_init_28 rfl rfl ?_
  refine J_bipush (v := 8) dX0_init_29 (by decide) ?_
  refine J_icmp_ge (tgt := 53) dX0_init_31 (by decide) (fun h => absurd h (by decide)) (fun _ => ?_)
  refine J_aload_n dX0_init_34 rfl rfl ?_
  refine K_get (T := TX0) (ci := 0) (N := 6) rfl inTX0 1 rfl wf_X0_25 dX0_init_35 0 rfl rfl rfl ?_
  refine J_iload_n dX0_init_38 rfl rfl ?_
  refine K_new (T := TX1) (ci := 1) (N := 10) rfl inTX1 tyX1 tyX1_ok wc_X0_23 wi_X1 wt_X1 [.int 0, .int 0, .int 0, .int 0, .int 0, .int 0, .int 0, .int 0, .int 0, .int 0] defs1 ⟨rfl, rfl⟩ dX0_init_39 (fun b0 => ?_)
  refine J_dup dX0_init_42 rfl ?_
  refine K_callN wj_X0_29 (c_X1_init _ b0) dX0_init_43 rfl ⟨rfl, rfl⟩ rfl (fun l0 hl0 => ?_)
  subst hl0
  refine K_aast2 0 (by decide) dX0_init_46 2 3 rfl rfl (blt_in (k := 0) (by decide) (by decide) rfl) ?_
  refine J_iinc (v := 1) dX0_init_47 rfl (by decide) rfl rfl ?_
  refine J_goto (tgt := 28) dX0_init_50 (by decide) ?_
  refine J_ws (ws' := wsP ++ [(h0, .inr (0, [.ref q1, .ref q2, .null, .int 0, .int 0, .int 0])), (q1, .inl (jcA X 0, 5, .inl (fun j => [1, 20, 3, 2, 120].getD j 0))), (q2, .inl (jcA X 2, 8, .inr (.inr (.inr (.inr (va_up (fun _ => none) 0 (some b0))))))), (b0, .inr (1, [.int 0, .int 0, .int 0, .int 0, .int 0, .int 0, .int 0, .int 0, .int 0, .int 0]))]) rfl ?_
  refine J_iload_n dX0_init_28 rfl rfl ?_
  refine J_bipush (v := 8) dX0_init_29 (by decide) ?_
  refine J_icmp_ge (tgt := 53) dX0_init_31 (by decide) (fun h => absurd h (by decide)) (fun _ => ?_)
  refine J_aload_n dX0_init_34 rfl rfl ?_
  refine K_get (T := TX0) (ci := 0) (N := 6) rfl inTX0 1 rfl wf_X0_25 dX0_init_35 0 rfl rfl rfl ?_
  refine J_iload_n dX0_init_38 rfl rfl ?_
  refine K_new (T := TX1) (ci := 1) (N := 10) rfl inTX1 tyX1 tyX1_ok wc_X0_23 wi_X1 wt_X1 [.int 0, .int 0, .int 0, .int 0, .int 0, .int 0, .int 0, .int 0, .int 0, .int 0] defs1 ⟨rfl, rfl⟩ dX0_init_39 (fun b1 => ?_)
  refine J_dup dX0_init_42 rfl ?_
  refine K_callN wj_X0_29 (c_X1_init _ b1) dX0_init_43 rfl ⟨rfl, rfl⟩ rfl (fun l1 hl1 => ?_)
  subst hl1
  refine K_aast2 1 (by decide) dX0_init_46 2 4 rfl rfl (blt_in (k := 1) (by decide) (by decide) rfl) ?_
  refine J_iinc (v := 2) dX0_init_47 rfl (by decide) rfl rfl ?_
  refine J_goto (tgt := 28) dX0_init_50 (by decide) ?_
  refine J_ws (ws' := wsP ++ [(h0, .inr (0, [.ref q1, .ref q2, .null, .int 0, .int 0, .int 0])), (q1, .inl (jcA X 0, 5, .inl (fun j => [1, 20, 3, 2, 120].getD j 0))), (q2, .inl (jcA X 2, 8, .inr (.inr (.inr (.inr (va_up (va_up (fun _ => none) 0 (some b0)) 1 (some b1))))))), (b0, .inr (1, [.int 0, .int 0, .int 0, .int 0, .int 0, .int 0, .int 0, .int 0, .int 0, .int 0])), (b1, .inr (1, [.int 0, .int 0, .int 0, .int 0, .int 0, .int 0, .int 0, .int 0, .int 0, .int 0]))]) rfl ?_
  refine J_iload_n dX0_init_28 rfl rfl ?_
  refine J_bipush (v := 8) dX0_init_29 (by decide) ?_
  refine J_icmp_ge (tgt := 53) dX0_init_31 (by decide) (fun h => absurd h (by decide)) (fun _ => ?_)
  refine J_aload_n dX0_init_34 rfl rfl ?_
  refine K_get (T := TX0) (ci := 0) (N := 6) rfl inTX0 1 rfl wf_X0_25 dX0_init_35 0 rfl rfl rfl ?_
  refine J_iload_n dX0_init_38 rfl rfl ?_
  refine K_new (T := TX1) (ci := 1) (N := 10) rfl inTX1 tyX1 tyX1_ok wc_X0_23 wi_X1 wt_X1 [.int 0, .int 0, .int 0, .int 0, .int 0, .int 0, .int 0, .int 0, .int 0, .int 0] defs1 ⟨rfl, rfl⟩ dX0_init_39 (fun b2 => ?_)
  refine J_dup dX0_init_42 rfl ?_
  refine K_callN wj_X0_29 (c_X1_init _ b2) dX0_init_43 rfl ⟨rfl, rfl⟩ rfl (fun l2 hl2 => ?_)
  subst hl2
  refine K_aast2 2 (by decide) dX0_init_46 2 5 rfl rfl (blt_in (k := 2) (by decide) (by decide) rfl) ?_
  refine J_iinc (v := 3) dX0_init_47 rfl (by decide) rfl rfl ?_
  refine J_goto (tgt := 28) dX0_init_50 (by decide) ?_
  refine J_ws (ws' := wsP ++ [(h0, .inr (0, [.ref q1, .ref q2, .null, .int 0, .int 0, .int 0])), (q1, .inl (jcA X 0, 5, .inl (fun j => [1, 20, 3, 2, 120].getD j 0))), (q2, .inl (jcA X 2, 8, .inr (.inr (.inr (.inr (va_up (va_up (va_up (fun _ => none) 0 (some b0)) 1 (some b1)) 2 (some b2))))))), (b0, .inr (1, [.int 0, .int 0, .int 0, .int 0, .int 0, .int 0, .int 0, .int 0, .int 0, .int 0])), (b1, .inr (1, [.int 0, .int 0, .int 0, .int 0, .int 0, .int 0, .int 0, .int 0, .int 0, .int 0])), (b2, .inr (1, [.int 0, .int 0, .int 0, .int 0, .int 0, .int 0, .int 0, .int 0, .int 0, .int 0]))]) rfl ?_
  refine J_iload_n dX0_init_28 rfl rfl ?_
  refine J_bipush (v := 8) dX0_init_29 (by decide) ?_
  refine J_icmp_ge (tgt := 53) dX0_init_31 (by decide) (fun h => absurd h (by decide)) (fun _ => ?_)
  refine J_aload_n dX0_init_34 rfl rfl ?_
  refine K_get (T := TX0) (ci := 0) (N := 6) rfl inTX0 1 rfl wf_X0_25 dX0_init_35 0 rfl rfl rfl ?_
  refine J_iload_n dX0_init_38 rfl rfl ?_
  refine K_new (T := TX1) (ci := 1) (N := 10) rfl inTX1 tyX1 tyX1_ok wc_X0_23 wi_X1 wt_X1 [.int 0, .int 0, .int 0, .int 0, .int 0, .int 0, .int 0, .int 0, .int 0, .int 0] defs1 ⟨rfl, rfl⟩ dX0_init_39 (fun b3 => ?_)
  refine J_dup dX0_init_42 rfl ?_
  refine K_callN wj_X0_29 (c_X1_init _ b3) dX0_init_43 rfl ⟨rfl, rfl⟩ rfl (fun l3 hl3 => ?_)
  subst hl3
  refine K_aast2 3 (by decide) dX0_init_46 2 6 rfl rfl (blt_in (k := 3) (by decide) (by decide) rfl) ?_
  refine J_iinc (v := 4) dX0_init_47 rfl (by decide) rfl rfl ?_
  refine J_goto (tgt := 28) dX0_init_50 (by decide) ?_
  refine J_ws (ws' := wsP ++ [(h0, .inr (0, [.ref q1, .ref q2, .null, .int 0, .int 0, .int 0])), (q1, .inl (jcA X 0, 5, .inl (fun j => [1, 20, 3, 2, 120].getD j 0))), (q2, .inl (jcA X 2, 8, .inr (.inr (.inr (.inr (va_up (va_up (va_up (va_up (fun _ => none) 0 (some b0)) 1 (some b1)) 2 (some b2)) 3 (some b3))))))), (b0, .inr (1, [.int 0, .int 0, .int 0, .int 0, .int 0, .int 0, .int 0, .int 0, .int 0, .int 0])), (b1, .inr (1, [.int 0, .int 0, .int 0, .int 0, .int 0, .int 0, .int 0, .int 0, .int 0, .int 0])), (b2, .inr (1, [.int 0, .int 0, .int 0, .int 0, .int 0, .int 0, .int 0, .int 0, .int 0, .int 0])), (b3, .inr (1, [.int 0, .int 0, .int 0, .int 0, .int 0, .int 0, .int 0, .int 0, .int 0, .int 0]))]) rfl ?_
  refine J_iload_n dX0_init_28 rfl rfl ?_
  refine J_bipush (v := 8) dX0_init_29 (by decide) ?_
  refine J_icmp_ge (tgt := 53) dX0_init_31 (by decide) (fun h => absurd h (by decide)) (fun _ => ?_)
  refine J_aload_n dX0_init_34 rfl rfl ?_
  refine K_get (T := TX0) (ci := 0) (N := 6) rfl inTX0 1 rfl wf_X0_25 dX0_init_35 0 rfl rfl rfl ?_
  refine J_iload_n dX0_init_38 rfl rfl ?_
  refine K_new (T := TX1) (ci := 1) (N := 10) rfl inTX1 tyX1 tyX1_ok wc_X0_23 wi_X1 wt_X1 [.int 0, .int 0, .int 0, .int 0, .int 0, .int 0, .int 0, .int 0, .int 0, .int 0] defs1 ⟨rfl, rfl⟩ dX0_init_39 (fun b4 => ?_)
  refine J_dup dX0_init_42 rfl ?_
  refine K_callN wj_X0_29 (c_X1_init _ b4) dX0_init_43 rfl ⟨rfl, rfl⟩ rfl (fun l4 hl4 => ?_)
  subst hl4
  refine K_aast2 4 (by decide) dX0_init_46 2 7 rfl rfl (blt_in (k := 4) (by decide) (by decide) rfl) ?_
  refine J_iinc (v := 5) dX0_init_47 rfl (by decide) rfl rfl ?_
  refine J_goto (tgt := 28) dX0_init_50 (by decide) ?_
  refine J_ws (ws' := wsP ++ [(h0, .inr (0, [.ref q1, .ref q2, .null, .int 0, .int 0, .int 0])), (q1, .inl (jcA X 0, 5, .inl (fun j => [1, 20, 3, 2, 120].getD j 0))), (q2, .inl (jcA X 2, 8, .inr (.inr (.inr (.inr (va_up (va_up (va_up (va_up (va_up (fun _ => none) 0 (some b0)) 1 (some b1)) 2 (some b2)) 3 (some b3)) 4 (some b4))))))), (b0, .inr (1, [.int 0, .int 0, .int 0, .int 0, .int 0, .int 0, .int 0, .int 0, .int 0, .int 0])), (b1, .inr (1, [.int 0, .int 0, .int 0, .int 0, .int 0, .int 0, .int 0, .int 0, .int 0, .int 0])), (b2, .inr (1, [.int 0, .int 0, .int 0, .int 0, .int 0, .int 0, .int 0, .int 0, .int 0, .int 0])), (b3, .inr (1, [.int 0, .int 0, .int 0, .int 0, .int 0, .int 0, .int 0, .int 0, .int 0, .int 0])), (b4, .inr (1, [.int 0, .int 0, .int 0, .int 0, .int 0, .int 0, .int 0, .int 0, .int 0, .int 0]))]) rfl ?_
  refine J_iload_n dX0_init_28 rfl rfl ?_
  refine J_bipush (v := 8) dX0_init_29 (by decide) ?_
  refine J_icmp_ge (tgt := 53) dX0_init_31 (by decide) (fun h => absurd h (by decide)) (fun _ => ?_)
  refine J_aload_n dX0_init_34 rfl rfl ?_
  refine K_get (T := TX0) (ci := 0) (N := 6) rfl inTX0 1 rfl wf_X0_25 dX0_init_35 0 rfl rfl rfl ?_
  refine J_iload_n dX0_init_38 rfl rfl ?_
  refine K_new (T := TX1) (ci := 1) (N := 10) rfl inTX1 tyX1 tyX1_ok wc_X0_23 wi_X1 wt_X1 [.int 0, .int 0, .int 0, .int 0, .int 0, .int 0, .int 0, .int 0, .int 0, .int 0] defs1 ⟨rfl, rfl⟩ dX0_init_39 (fun b5 => ?_)
  refine J_dup dX0_init_42 rfl ?_
  refine K_callN wj_X0_29 (c_X1_init _ b5) dX0_init_43 rfl ⟨rfl, rfl⟩ rfl (fun l5 hl5 => ?_)
  subst hl5
  refine K_aast2 5 (by decide) dX0_init_46 2 8 rfl rfl (blt_in (k := 5) (by decide) (by decide) rfl) ?_
  refine J_iinc (v := 6) dX0_init_47 rfl (by decide) rfl rfl ?_
  refine J_goto (tgt := 28) dX0_init_50 (by decide) ?_
  refine J_ws (ws' := wsP ++ [(h0, .inr (0, [.ref q1, .ref q2, .null, .int 0, .int 0, .int 0])), (q1, .inl (jcA X 0, 5, .inl (fun j => [1, 20, 3, 2, 120].getD j 0))), (q2, .inl (jcA X 2, 8, .inr (.inr (.inr (.inr (va_up (va_up (va_up (va_up (va_up (va_up (fun _ => none) 0 (some b0)) 1 (some b1)) 2 (some b2)) 3 (some b3)) 4 (some b4)) 5 (some b5))))))), (b0, .inr (1, [.int 0, .int 0, .int 0, .int 0, .int 0, .int 0, .int 0, .int 0, .int 0, .int 0])), (b1, .inr (1, [.int 0, .int 0, .int 0, .int 0, .int 0, .int 0, .int 0, .int 0, .int 0, .int 0])), (b2, .inr (1, [.int 0, .int 0, .int 0, .int 0, .int 0, .int 0, .int 0, .int 0, .int 0, .int 0])), (b3, .inr (1, [.int 0, .int 0, .int 0, .int 0, .int 0, .int 0, .int 0, .int 0, .int 0, .int 0])), (b4, .inr (1, [.int 0, .int 0, .int 0, .int 0, .int 0, .int 0, .int 0, .int 0, .int 0, .int 0])), (b5, .inr (1, [.int 0, .int 0, .int 0, .int 0, .int 0, .int 0, .int 0, .int 0, .int 0, .int 0]))]) rfl ?_
  refine J_iload_n dX0_init_28 rfl rfl ?_
  refine J_bipush (v := 8) dX0_init_29 (by decide) ?_
  refine J_icmp_ge (tgt := 53) dX0_init_31 (by decide) (fun h => absurd h (by decide)) (fun _ => ?_)
  refine J_aload_n dX0_init_34 rfl rfl ?_
  refine K_get (T := TX0) (ci := 0) (N := 6) rfl inTX0 1 rfl wf_X0_25 dX0_init_35 0 rfl rfl rfl ?_
  refine J_iload_n dX0_init_38 rfl rfl ?_
  refine K_new (T := TX1) (ci := 1) (N := 10) rfl inTX1 tyX1 tyX1_ok wc_X0_23 wi_X1 wt_X1 [.int 0, .int 0, .int 0, .int 0, .int 0, .int 0, .int 0, .int 0, .int 0, .int 0] defs1 ⟨rfl, rfl⟩ dX0_init_39 (fun b6 => ?_)
  refine J_dup dX0_init_42 rfl ?_
  refine K_callN wj_X0_29 (c_X1_init _ b6) dX0_init_43 rfl ⟨rfl, rfl⟩ rfl (fun l6 hl6 => ?_)
  subst hl6
  refine K_aast2 6 (by decide) dX0_init_46 2 9 rfl rfl (blt_in (k := 6) (by decide) (by decide) rfl) ?_
  refine J_iinc (v := 7) dX0_init_47 rfl (by decide) rfl rfl ?_
  refine J_goto (tgt := 28) dX0_init_50 (by decide) ?_
  refine J_ws (ws' := wsP ++ [(h0, .inr (0, [.ref q1, .ref q2, .null, .int 0, .int 0, .int 0])), (q1, .inl (jcA X 0, 5, .inl (fun j => [1, 20, 3, 2, 120].getD j 0))), (q2, .inl (jcA X 2, 8, .inr (.inr (.inr (.inr (va_up (va_up (va_up (va_up (va_up (va_up (va_up (fun _ => none) 0 (some b0)) 1 (some b1)) 2 (some b2)) 3 (some b3)) 4 (some b4)) 5 (some b5)) 6 (some b6))))))), (b0, .inr (1, [.int 0, .int 0, .int 0, .int 0, .int 0, .int 0, .int 0, .int 0, .int 0, .int 0])), (b1, .inr (1, [.int 0, .int 0, .int 0, .int 0, .int 0, .int 0, .int 0, .int 0, .int 0, .int 0])), (b2, .inr (1, [.int 0, .int 0, .int 0, .int 0, .int 0, .int 0, .int 0, .int 0, .int 0, .int 0])), (b3, .inr (1, [.int 0, .int 0, .int 0, .int 0, .int 0, .int 0, .int 0, .int 0, .int 0, .int 0])), (b4, .inr (1, [.int 0, .int 0, .int 0, .int 0, .int 0, .int 0, .int 0, .int 0, .int 0, .int 0])), (b5, .inr (1, [.int 0, .int 0, .int 0, .int 0, .int 0, .int 0, .int 0, .int 0, .int 0, .int 0])), (b6, .inr (1, [.int 0, .int 0, .int 0, .int 0, .int 0, .int 0, .int 0, .int 0, .int 0, .int 0]))]) rfl ?_
  refine J_iload_n dX0_init_28 rfl rfl ?_
  refine J_bipush (v := 8) dX0_init_29 (by decide) ?_
  refine J_icmp_ge (tgt := 53) dX0_init_31 (by decide) (fun h => absurd h (by decide)) (fun _ => ?_)
  refine J_aload_n dX0_init_34 rfl rfl ?_
  refine K_get (T := TX0) (ci := 0) (N := 6) rfl inTX0 1 rfl wf_X0_25 dX0_init_35 0 rfl rfl rfl ?_
  refine J_iload_n dX0_init_38 rfl rfl ?_
  refine K_new (T := TX1) (ci := 1) (N := 10) rfl inTX1 tyX1 tyX1_ok wc_X0_23 wi_X1 wt_X1 [.int 0, .int 0, .int 0, .int 0, .int 0, .int 0, .int 0, .int 0, .int 0, .int 0] defs1 ⟨rfl, rfl⟩ dX0_init_39 (fun b7 => ?_)
  refine J_dup dX0_init_42 rfl ?_
  refine K_callN wj_X0_29 (c_X1_init _ b7) dX0_init_43 rfl ⟨rfl, rfl⟩ rfl (fun l7 hl7 => ?_)
  subst hl7
  refine K_aast2 7 (by decide) dX0_init_46 2 10 rfl rfl (blt_in (k := 7) (by decide) (by decide) rfl) ?_
  refine J_iinc (v := 8) dX0_init_47 rfl (by decide) rfl rfl ?_
  refine J_goto (tgt := 28) dX0_init_50 (by decide) ?_
  refine J_ws (ws' := wsP ++ [(h0, .inr (0, [.ref q1, .ref q2, .null, .int 0, .int 0, .int 0])), (q1, .inl (jcA X 0, 5, .inl (fun j => [1, 20, 3, 2, 120].getD j 0))), (q2, .inl (jcA X 2, 8, .inr (.inr (.inr (.inr (va_up (va_up (va_up (va_up (va_up (va_up (va_up (va_up (fun _ => none) 0 (some b0)) 1 (some b1)) 2 (some b2)) 3 (some b3)) 4 (some b4)) 5 (some b5)) 6 (some b6)) 7 (some b7))))))), (b0, .inr (1, [.int 0, .int 0, .int 0, .int 0, .int 0, .int 0, .int 0, .int 0, .int 0, .int 0])), (b1, .inr (1, [.int 0, .int 0, .int 0, .int 0, .int 0, .int 0, .int 0, .int 0, .int 0, .int 0])), (b2, .inr (1, [.int 0, .int 0, .int 0, .int 0, .int 0, .int 0, .int 0, .int 0, .int 0, .int 0])), (b3, .inr (1, [.int 0, .int 0, .int 0, .int 0, .int 0, .int 0, .int 0, .int 0, .int 0, .int 0])), (b4, .inr (1, [.int 0, .int 0, .int 0, .int 0, .int 0, .int 0, .int 0, .int 0, .int 0, .int 0])), (b5, .inr (1, [.int 0, .int 0, .int 0, .int 0, .int 0, .int 0, .int 0, .int 0, .int 0, .int 0])), (b6, .inr (1, [.int 0, .int 0, .int 0, .int 0, .int 0, .int 0, .int 0, .int 0, .int 0, .int 0])), (b7, .inr (1, [.int 0, .int 0, .int 0, .int 0, .int 0, .int 0, .int 0, .int 0, .int 0, .int 0]))]) rfl ?_
  refine J_iload_n dX0_init_28 rfl rfl ?_
  refine J_bipush (v := 8) dX0_init_29 (by decide) ?_
  refine J_icmp_ge (tgt := 53) dX0_init_31 (by decide) (fun _ => ?_) (fun h => absurd (by decide) h)
  refine J_aload_n dX0_init_53 rfl rfl ?_
  refine K_new (T := TX2) (ci := 2) (N := 12) rfl inTX2 tyX2 tyX2_ok wc_X0_30 wi_X2 wt_X2 [.null, .null, .null, .null, .int 0, .null, .int 0, .int 0, .int 0, .int 0, .int 0, .int 0] defs2 ⟨rfl, rfl⟩ dX0_init_54 (fun u => ?_)
  refine J_dup dX0_init_57 rfl ?_
  refine K_call wj_X0_32 (c_X2_init _ u) dX0_init_58 rfl ⟨rfl, rfl⟩ rfl (fun lb hlb => ?_)
  obtain ⟨a1, a2, a3, a4, a5, rfl⟩ := hlb
  refine K_putF (T := TX0) (ci := 0) (N := 6) (ty := tyX0 2) rfl inTX0 tyX0 tyX0_ok nmX0 2 rfl wf_X0_33 rfl rfl rfl (by decide +kernel) rfl rfl rfl dX0_init_61 0 rfl rfl ?_
  refine J_return dX0_init_64 rfl rfl ?_
  refine ⟨rfl, _, rfl, fun k => [h0, q1, q2, b0, b1, b2, b3, b4, b5, b6, b7, u, a1, a2, a3, a4, a5].getD k 0, rfl, ?_⟩
  have e : (fun j => [some b0, some b1, some b2, some b3, some b4, some b5, some b6, some b7].getD j none) = va_up (va_up (va_up (va_up (va_up (va_up (va_up (va_up (fun _ => none) 0 (some b0)) 1 (some b1)) 2 (some b2)) 3 (some b3)) 4 (some b4)) 5 (some b5)) 6 (some b6)) 7 (some b7) := by
    funext j
    match j with
    | 0 => rfl
    | 1 => rfl
    | 2 => rfl
    | 3 => rfl
    | 4 => rfl
    | 5 => rfl
    | 6 => rfl
    | 7 => rfl
    | j + 8 => simp [va_up]
  rw [← e]
  rfl
set_option maxRecDepth 100000 in
set_option maxHeartbeats 4000000 in
theorem c_X4_init {X : jX} (wsP : va_W) (h0 : Nat) : Ct X yX4_init cX4_init 1 none 1 2 83 (fun n => n) [.ref h0] (wsP ++ [(h0, .inr (4, [.null, .int 0, .int 0, .int 0, .null]))]) (fun v ws' => v = none ∧ ∃ l', ws' = wsP ++ l' ∧ ∃ a1 a2, l' = padW X h0 a1 a2) := by
  refine Ct.of (own := RX4) (nm := "<init>") (by decide +kernel) rfl rfl rfl rfl ?_
  refine J_aload_n dX4_init_0 rfl rfl ?_
  refine K_obj wm_X4_3 dX4_init_1 rfl rfl ?_
  refine J_aload_n dX4_init_4 rfl rfl ?_
  refine J_bipush (v := 80) dX4_init_5 (by decide) ?_
  refine K_newi 80 (by decide) (by decide) rfl ⟨rfl, rfl⟩ dX4_init_7 (fun a1 => ?_)
  refine K_putF (T := TX4) (ci := 4) (N := 5) (ty := tyX4 0) rfl inTX4 tyX4 tyX4_ok nmX4 0 rfl wf_X4_9 rfl rfl rfl (by decide +kernel) rfl rfl rfl dX4_init_9 0 rfl rfl ?_
  refine J_aload_n dX4_init_12 rfl rfl ?_
  refine J_iconst (v := 3) dX4_init_13 (by decide) ?_
  refine K_newi 3 (by decide) (by decide) rfl ⟨rfl, rfl⟩ dX4_init_14 (fun a2 => ?_)
  refine K_putF (T := TX4) (ci := 4) (N := 5) (ty := tyX4 4) rfl inTX4 tyX4 tyX4_ok nmX4 4 rfl wf_X4_15 rfl rfl rfl (by decide +kernel) rfl rfl rfl dX4_init_16 0 rfl rfl ?_
  refine J_return dX4_init_19 rfl rfl ?_
  exact ⟨rfl, _, rfl, a1, a2, rfl⟩
set_option maxRecDepth 100000 in
set_option maxHeartbeats 4000000 in
theorem c_X6_init {X : jX} (wsP : va_W) (h0 : Nat) : Ct X yX6_init cX6_init 1 none 1 5 3100 (fun n => n) [.ref h0] (wsP ++ [(h0, .inr (6, [.null, .null, .null, .int 0, .null, .int 0, .null, .int 0, .int 0, .int 0, .int 0, .int 0, .int 0, .int 0]))]) (fun v ws' => v = none ∧ ∃ l', ws' = wsP ++ l' ∧ ∃ a1 a2 a3 a4 a5, l' = modW X h0 a1 a2 a3 a4 a5) := by
  refine Ct.of (own := RX6) (nm := "<init>") (by decide +kernel) rfl rfl rfl rfl ?_
  refine J_aload_n dX6_init_0 rfl rfl ?_
  refine K_obj wm_X6_1 dX6_init_1 rfl rfl ?_
  refine J_aload_n dX6_init_4 rfl rfl ?_
  refine J_sipush (v := 302) dX6_init_5 (by decide) ?_
  refine K_newi 302 (by decide) (by decide) rfl ⟨rfl, rfl⟩ dX6_init_8 (fun a1 => ?_)
  refine K_putF (T := TX6) (ci := 6) (N := 14) (ty := tyX6 0) rfl inTX6 tyX6 tyX6_ok nmX6 0 rfl wf_X6_7 rfl rfl rfl (by decide +kernel) rfl rfl rfl dX6_init_10 0 rfl rfl ?_
  refine J_aload_n dX6_init_13 rfl rfl ?_
  refine J_sipush (v := 302) dX6_init_14 (by decide) ?_
  refine K_newi 302 (by decide) (by decide) rfl ⟨rfl, rfl⟩ dX6_init_17 (fun a2 => ?_)
  refine K_putF (T := TX6) (ci := 6) (N := 14) (ty := tyX6 1) rfl inTX6 tyX6 tyX6_ok nmX6 1 rfl wf_X6_13 rfl rfl rfl (by decide +kernel) rfl rfl rfl dX6_init_19 0 rfl rfl ?_
  refine J_aload_n dX6_init_22 rfl rfl ?_
  refine J_sipush (v := 1812) dX6_init_23 (by decide) ?_
  refine K_newi 1812 (by decide) (by decide) rfl ⟨rfl, rfl⟩ dX6_init_26 (fun a3 => ?_)
  refine K_putF (T := TX6) (ci := 6) (N := 14) (ty := tyX6 2) rfl inTX6 tyX6 tyX6_ok nmX6 2 rfl wf_X6_16 rfl rfl rfl (by decide +kernel) rfl rfl rfl dX6_init_28 0 rfl rfl ?_
  refine J_aload_n dX6_init_31 rfl rfl ?_
  refine J_sipush (v := 604) dX6_init_32 (by decide) ?_
  refine K_newi 604 (by decide) (by decide) rfl ⟨rfl, rfl⟩ dX6_init_35 (fun a4 => ?_)
  refine K_putF (T := TX6) (ci := 6) (N := 14) (ty := tyX6 4) rfl inTX6 tyX6 tyX6_ok nmX6 4 rfl wf_X6_19 rfl rfl rfl (by decide +kernel) rfl rfl rfl dX6_init_37 0 rfl rfl ?_
  refine J_aload_n dX6_init_40 rfl rfl ?_
  refine J_bipush (v := 80) dX6_init_41 (by decide) ?_
  refine K_newi 80 (by decide) (by decide) rfl ⟨rfl, rfl⟩ dX6_init_43 (fun a5 => ?_)
  refine K_putF (T := TX6) (ci := 6) (N := 14) (ty := tyX6 6) rfl inTX6 tyX6 tyX6_ok nmX6 6 rfl wf_X6_22 rfl rfl rfl (by decide +kernel) rfl rfl rfl dX6_init_45 0 rfl rfl ?_
  refine J_aload_n dX6_init_48 rfl rfl ?_
  refine K_get (T := TX6) (ci := 6) (N := 14) rfl inTX6 0 rfl wf_X6_7 dX6_init_49 0 rfl rfl rfl ?_
  refine J_iconst (v := 0) dX6_init_52 (by decide) ?_
  refine J_iconst (v := 1) dX6_init_53 (by decide) ?_
  refine K_iast 0 (by decide) dX6_init_54 1 rfl (blt_in (k := 0) (by decide) (by decide) rfl) ?_
  refine J_aload_n dX6_init_55 rfl rfl ?_
  refine K_get (T := TX6) (ci := 6) (N := 14) rfl inTX6 0 rfl wf_X6_7 dX6_init_56 0 rfl rfl rfl ?_
  refine J_iconst (v := 1) dX6_init_59 (by decide) ?_
  refine J_bipush (v := 20) dX6_init_60 (by decide) ?_
  refine K_iast 1 (by decide) dX6_init_62 1 rfl (blt_in (k := 1) (by decide) (by decide) rfl) ?_
  refine J_aload_n dX6_init_63 rfl rfl ?_
  refine K_get (T := TX6) (ci := 6) (N := 14) rfl inTX6 0 rfl wf_X6_7 dX6_init_64 0 rfl rfl rfl ?_
  refine J_iconst (v := 2) dX6_init_67 (by decide) ?_
  refine J_iconst (v := 3) dX6_init_68 (by decide) ?_
  refine K_iast 2 (by decide) dX6_init_69 1 rfl (blt_in (k := 2) (by decide) (by decide) rfl) ?_
  refine J_aload_n dX6_init_70 rfl rfl ?_
  refine K_get (T := TX6) (ci := 6) (N := 14) rfl inTX6 0 rfl wf_X6_7 dX6_init_71 0 rfl rfl rfl ?_
  refine J_iconst (v := 3) dX6_init_74 (by decide) ?_
  refine J_iconst (v := 2) dX6_init_75 (by decide) ?_
  refine K_iast 3 (by decide) dX6_init_76 1 rfl (blt_in (k := 3) (by decide) (by decide) rfl) ?_
  refine J_aload_n dX6_init_77 rfl rfl ?_
  refine K_get (T := TX6) (ci := 6) (N := 14) rfl inTX6 0 rfl wf_X6_7 dX6_init_78 0 rfl rfl rfl ?_
  refine J_iconst (v := 4) dX6_init_81 (by decide) ?_
  refine J_bipush (v := 120) dX6_init_82 (by decide) ?_
  refine K_iast 4 (by decide) dX6_init_84 1 rfl (blt_in (k := 4) (by decide) (by decide) rfl) ?_
  refine J_aload_n dX6_init_85 rfl rfl ?_
  refine K_get (T := TX6) (ci := 6) (N := 14) rfl inTX6 0 rfl wf_X6_7 dX6_init_86 0 rfl rfl rfl ?_
  refine J_sipush (v := 295) dX6_init_89 (by decide) ?_
  refine J_bipush (v := -6) dX6_init_92 (by decide) ?_
  refine K_iast 295 (by decide) dX6_init_94 1 rfl (blt_in (k := 295) (by decide) (by decide) rfl) ?_
  refine J_return dX6_init_95 rfl rfl ?_
  refine ⟨rfl, _, rfl, a1, a2, a3, a4, a5, ?_⟩
  have e : s0 = upd (upd (upd (upd (upd (upd (fun _ => 0) 0 1) 1 20) 2 3) 3 2) 4 120) 295 (-6) := by
    funext j
    match j with
    | 0 => rfl
    | 1 => rfl
    | 2 => rfl
    | 3 => rfl
    | 4 => rfl
    | j + 5 => by_cases h : j + 5 = 295
               · simp [s0, upd, h]
               · simp [s0, upd, h]
  unfold modW
  rw [e]
  rfl
