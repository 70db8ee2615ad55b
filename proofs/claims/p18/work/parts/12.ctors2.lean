theorem bpW_cons (X : jX) (a : Nat → Nat) : ∃ rest, bpW X a = (a 0, .inr (0, [.ref (a 1), .ref (a 2), .ref (a 11), .int 0, .int 0, .int 0])) :: rest := ⟨_, rfl⟩
theorem at_T {α : Type} (x : α) (T U : List α) : (T ++ x :: U)[T.length]? = some x := by simp
theorem set_T {α : Type} (x y : α) (T U : List α) : (T ++ x :: U).set T.length y = T ++ y :: U := by simp
set_option maxRecDepth 100000 in
set_option maxHeartbeats 4000000 in
theorem c_X3_init {X : jX} (wsP : va_W) (h0 : Nat) : Ct X yX3_init cX3_init 2 none 3 120 6454 (fun n => n) [.ref h0] (wsP ++ [(h0, .inr (3, [.null, .int 0, .int 0]))]) (fun v ws' => v = none ∧ ∃ l', ws' = wsP ++ l' ∧ ∃ (q : Nat) (A : Nat → Nat → Nat), l' = hisW X h0 q A) := by
  refine Ct.of (own := RX3) (nm := "<init>") (by decide +kernel) rfl rfl rfl rfl ?_
  refine J_aload_n dX3_init_0 rfl rfl ?_
  refine K_obj wm_X3_3 dX3_init_1 rfl rfl ?_
  refine J_aload_n dX3_init_4 rfl rfl ?_
  refine J_bipush (v := 7) dX3_init_5 (by decide) ?_
  refine K_newq3 7 wc_X3_11 (by decide) (by decide) rfl ⟨rfl, rfl⟩ dX3_init_7 (fun q => ?_)
  refine K_putF (T := TX3) (ci := 3) (N := 3) (ty := tyX3 0) rfl inTX3 tyX3 tyX3_ok nmX3 0 rfl wf_X3_13 rfl rfl rfl (by decide +kernel) rfl rfl rfl dX3_init_10 0 rfl rfl ?_
  refine J_iconst (v := 0) dX3_init_13 (by decide) ?_
  refine J_istore_n dX3_init_14 rfl rfl rfl ?_
  refine J_ws (ws' := wsP ++ ((h0, .inr (3, [.ref q, .int 0, .int 0])) :: (q, .inl (jcA X 3, 7, .inr (.inr (.inr (.inr (fun _ => none)))))) :: ([]))) rfl ?_
  refine J_iload_n dX3_init_15 rfl rfl ?_
  refine J_bipush (v := 7) dX3_init_16 (by decide) ?_
  refine J_icmp_ge (tgt := 40) dX3_init_18 (by decide) (fun h => absurd h (by decide)) (fun _ => ?_)
  refine J_aload_n dX3_init_21 rfl rfl ?_
  refine K_get (T := TX3) (ci := 3) (N := 3) rfl inTX3 0 rfl wf_X3_13 dX3_init_22 0 rfl rfl rfl ?_
  refine J_iload_n dX3_init_25 rfl rfl ?_
  refine K_new (T := TX0) (ci := 0) (N := 6) rfl inTX0 tyX0 tyX0_ok wc_X3_11 wi_X0 wt_X0 [.null, .null, .null, .int 0, .int 0, .int 0] defs0 ⟨rfl, rfl⟩ dX3_init_26 (fun b0 => ?_)
  refine J_dup dX3_init_29 rfl ?_
  refine K_call wj_X3_17 (c_X0_init _ b0) dX3_init_30 rfl ⟨rfl, rfl⟩ rfl (fun l0 hl0 => ?_)
  obtain ⟨a0, ha0, rfl⟩ := hl0
  refine J_ws (ws' := wsP ++ ((h0, .inr (3, [.ref q, .int 0, .int 0])) :: (q, .inl (jcA X 3, 7, .inr (.inr (.inr (.inr (fun _ => none)))))) :: (bpW X a0))) (by simp only [List.cons_append, List.nil_append, List.append_assoc, List.set_cons_succ, List.set_cons_zero, List.append_nil]) ?_
  rw [← ha0]
  have hv0 : ((h0, .inr (3, [.ref q, .int 0, .int 0])) :: (q, .inl (jcA X 3, 7, .inr (.inr (.inr (.inr (fun _ => none)))))) :: (bpW X a0) : va_W)[2]? = some (a0 0, .inr (0, [.ref (a0 1), .ref (a0 2), .ref (a0 11), .int 0, .int 0, .int 0])) := by rfl
  refine K_aast3 0 (by decide) dX3_init_33 1 2 rfl hv0 (blt_in (k := 0) (by decide) (by decide) rfl) ?_
  refine J_iinc (v := 1) dX3_init_34 rfl (by decide) rfl rfl ?_
  refine J_goto (tgt := 15) dX3_init_37 (by decide) ?_
  refine J_ws (ws' := wsP ++ ((h0, .inr (3, [.ref q, .int 0, .int 0])) :: (q, .inl (jcA X 3, 7, .inr (.inr (.inr (.inr (va_up (fun _ => none) 0 (some (a0 0)))))))) :: (bpW X a0))) (by simp only [List.cons_append, List.nil_append, List.append_assoc, List.set_cons_succ, List.set_cons_zero, List.append_nil]) ?_
  refine J_iload_n dX3_init_15 rfl rfl ?_
  refine J_bipush (v := 7) dX3_init_16 (by decide) ?_
  refine J_icmp_ge (tgt := 40) dX3_init_18 (by decide) (fun h => absurd h (by decide)) (fun _ => ?_)
  refine J_aload_n dX3_init_21 rfl rfl ?_
  refine K_get (T := TX3) (ci := 3) (N := 3) rfl inTX3 0 rfl wf_X3_13 dX3_init_22 0 rfl rfl rfl ?_
  refine J_iload_n dX3_init_25 rfl rfl ?_
  refine K_new (T := TX0) (ci := 0) (N := 6) rfl inTX0 tyX0 tyX0_ok wc_X3_11 wi_X0 wt_X0 [.null, .null, .null, .int 0, .int 0, .int 0] defs0 ⟨rfl, rfl⟩ dX3_init_26 (fun b1 => ?_)
  refine J_dup dX3_init_29 rfl ?_
  refine K_call wj_X3_17 (c_X0_init _ b1) dX3_init_30 rfl ⟨rfl, rfl⟩ rfl (fun l1 hl1 => ?_)
  obtain ⟨a1, ha1, rfl⟩ := hl1
  refine J_ws (ws' := wsP ++ ((h0, .inr (3, [.ref q, .int 0, .int 0])) :: (q, .inl (jcA X 3, 7, .inr (.inr (.inr (.inr (va_up (fun _ => none) 0 (some (a0 0)))))))) :: (bpW X a0 ++ (bpW X a1)))) (by simp only [List.cons_append, List.nil_append, List.append_assoc, List.set_cons_succ, List.set_cons_zero, List.append_nil]) ?_
  rw [← ha1]
  have hv1 : ((h0, .inr (3, [.ref q, .int 0, .int 0])) :: (q, .inl (jcA X 3, 7, .inr (.inr (.inr (.inr (va_up (fun _ => none) 0 (some (a0 0)))))))) :: (bpW X a0 ++ (bpW X a1)) : va_W)[19]? = some (a1 0, .inr (0, [.ref (a1 1), .ref (a1 2), .ref (a1 11), .int 0, .int 0, .int 0])) := by rfl
  refine K_aast3 1 (by decide) dX3_init_33 1 19 rfl hv1 (blt_in (k := 1) (by decide) (by decide) rfl) ?_
  refine J_iinc (v := 2) dX3_init_34 rfl (by decide) rfl rfl ?_
  refine J_goto (tgt := 15) dX3_init_37 (by decide) ?_
  refine J_ws (ws' := wsP ++ ((h0, .inr (3, [.ref q, .int 0, .int 0])) :: (q, .inl (jcA X 3, 7, .inr (.inr (.inr (.inr (va_up (va_up (fun _ => none) 0 (some (a0 0))) 1 (some (a1 0)))))))) :: (bpW X a0 ++ (bpW X a1)))) (by simp only [List.cons_append, List.nil_append, List.append_assoc, List.set_cons_succ, List.set_cons_zero, List.append_nil]) ?_
  refine J_iload_n dX3_init_15 rfl rfl ?_
  refine J_bipush (v := 7) dX3_init_16 (by decide) ?_
  refine J_icmp_ge (tgt := 40) dX3_init_18 (by decide) (fun h => absurd h (by decide)) (fun _ => ?_)
  refine J_aload_n dX3_init_21 rfl rfl ?_
  refine K_get (T := TX3) (ci := 3) (N := 3) rfl inTX3 0 rfl wf_X3_13 dX3_init_22 0 rfl rfl rfl ?_
  refine J_iload_n dX3_init_25 rfl rfl ?_
  refine K_new (T := TX0) (ci := 0) (N := 6) rfl inTX0 tyX0 tyX0_ok wc_X3_11 wi_X0 wt_X0 [.null, .null, .null, .int 0, .int 0, .int 0] defs0 ⟨rfl, rfl⟩ dX3_init_26 (fun b2 => ?_)
  refine J_dup dX3_init_29 rfl ?_
  refine K_call wj_X3_17 (c_X0_init _ b2) dX3_init_30 rfl ⟨rfl, rfl⟩ rfl (fun l2 hl2 => ?_)
  obtain ⟨a2, ha2, rfl⟩ := hl2
  refine J_ws (ws' := wsP ++ ((h0, .inr (3, [.ref q, .int 0, .int 0])) :: (q, .inl (jcA X 3, 7, .inr (.inr (.inr (.inr (va_up (va_up (fun _ => none) 0 (some (a0 0))) 1 (some (a1 0)))))))) :: (bpW X a0 ++ (bpW X a1 ++ (bpW X a2))))) (by simp only [List.cons_append, List.nil_append, List.append_assoc, List.set_cons_succ, List.set_cons_zero, List.append_nil]) ?_
  rw [← ha2]
  have hv2 : ((h0, .inr (3, [.ref q, .int 0, .int 0])) :: (q, .inl (jcA X 3, 7, .inr (.inr (.inr (.inr (va_up (va_up (fun _ => none) 0 (some (a0 0))) 1 (some (a1 0)))))))) :: (bpW X a0 ++ (bpW X a1 ++ (bpW X a2))) : va_W)[36]? = some (a2 0, .inr (0, [.ref (a2 1), .ref (a2 2), .ref (a2 11), .int 0, .int 0, .int 0])) := by rfl
  refine K_aast3 2 (by decide) dX3_init_33 1 36 rfl hv2 (blt_in (k := 2) (by decide) (by decide) rfl) ?_
  refine J_iinc (v := 3) dX3_init_34 rfl (by decide) rfl rfl ?_
  refine J_goto (tgt := 15) dX3_init_37 (by decide) ?_
  refine J_ws (ws' := wsP ++ ((h0, .inr (3, [.ref q, .int 0, .int 0])) :: (q, .inl (jcA X 3, 7, .inr (.inr (.inr (.inr (va_up (va_up (va_up (fun _ => none) 0 (some (a0 0))) 1 (some (a1 0))) 2 (some (a2 0)))))))) :: (bpW X a0 ++ (bpW X a1 ++ (bpW X a2))))) (by simp only [List.cons_append, List.nil_append, List.append_assoc, List.set_cons_succ, List.set_cons_zero, List.append_nil]) ?_
  refine J_iload_n dX3_init_15 rfl rfl ?_
  refine J_bipush (v := 7) dX3_init_16 (by decide) ?_
  refine J_icmp_ge (tgt := 40) dX3_init_18 (by decide) (fun h => absurd h (by decide)) (fun _ => ?_)
  refine J_aload_n dX3_init_21 rfl rfl ?_
  refine K_get (T := TX3) (ci := 3) (N := 3) rfl inTX3 0 rfl wf_X3_13 dX3_init_22 0 rfl rfl rfl ?_
  refine J_iload_n dX3_init_25 rfl rfl ?_
  refine K_new (T := TX0) (ci := 0) (N := 6) rfl inTX0 tyX0 tyX0_ok wc_X3_11 wi_X0 wt_X0 [.null, .null, .null, .int 0, .int 0, .int 0] defs0 ⟨rfl, rfl⟩ dX3_init_26 (fun b3 => ?_)
  refine J_dup dX3_init_29 rfl ?_
  refine K_call wj_X3_17 (c_X0_init _ b3) dX3_init_30 rfl ⟨rfl, rfl⟩ rfl (fun l3 hl3 => ?_)
  obtain ⟨a3, ha3, rfl⟩ := hl3
  refine J_ws (ws' := wsP ++ ((h0, .inr (3, [.ref q, .int 0, .int 0])) :: (q, .inl (jcA X 3, 7, .inr (.inr (.inr (.inr (va_up (va_up (va_up (fun _ => none) 0 (some (a0 0))) 1 (some (a1 0))) 2 (some (a2 0)))))))) :: (bpW X a0 ++ (bpW X a1 ++ (bpW X a2 ++ (bpW X a3)))))) (by simp only [List.cons_append, List.nil_append, List.append_assoc, List.set_cons_succ, List.set_cons_zero, List.append_nil]) ?_
  rw [← ha3]
  have hv3 : ((h0, .inr (3, [.ref q, .int 0, .int 0])) :: (q, .inl (jcA X 3, 7, .inr (.inr (.inr (.inr (va_up (va_up (va_up (fun _ => none) 0 (some (a0 0))) 1 (some (a1 0))) 2 (some (a2 0)))))))) :: (bpW X a0 ++ (bpW X a1 ++ (bpW X a2 ++ (bpW X a3)))) : va_W)[53]? = some (a3 0, .inr (0, [.ref (a3 1), .ref (a3 2), .ref (a3 11), .int 0, .int 0, .int 0])) := by rfl
  refine K_aast3 3 (by decide) dX3_init_33 1 53 rfl hv3 (blt_in (k := 3) (by decide) (by decide) rfl) ?_
  refine J_iinc (v := 4) dX3_init_34 rfl (by decide) rfl rfl ?_
  refine J_goto (tgt := 15) dX3_init_37 (by decide) ?_
  refine J_ws (ws' := wsP ++ ((h0, .inr (3, [.ref q, .int 0, .int 0])) :: (q, .inl (jcA X 3, 7, .inr (.inr (.inr (.inr (va_up (va_up (va_up (va_up (fun _ => none) 0 (some (a0 0))) 1 (some (a1 0))) 2 (some (a2 0))) 3 (some (a3 0)))))))) :: (bpW X a0 ++ (bpW X a1 ++ (bpW X a2 ++ (bpW X a3)))))) (by simp only [List.cons_append, List.nil_append, List.append_assoc, List.set_cons_succ, List.set_cons_zero, List.append_nil]) ?_
  refine J_iload_n dX3_init_15 rfl rfl ?_
  refine J_bipush (v := 7) dX3_init_16 (by decide) ?_
  refine J_icmp_ge (tgt := 40) dX3_init_18 (by decide) (fun h => absurd h (by decide)) (fun _ => ?_)
  refine J_aload_n dX3_init_21 rfl rfl ?_
  refine K_get (T := TX3) (ci := 3) (N := 3) rfl inTX3 0 rfl wf_X3_13 dX3_init_22 0 rfl rfl rfl ?_
  refine J_iload_n dX3_init_25 rfl rfl ?_
  refine K_new (T := TX0) (ci := 0) (N := 6) rfl inTX0 tyX0 tyX0_ok wc_X3_11 wi_X0 wt_X0 [.null, .null, .null, .int 0, .int 0, .int 0] defs0 ⟨rfl, rfl⟩ dX3_init_26 (fun b4 => ?_)
  refine J_dup dX3_init_29 rfl ?_
  refine K_call wj_X3_17 (c_X0_init _ b4) dX3_init_30 rfl ⟨rfl, rfl⟩ rfl (fun l4 hl4 => ?_)
  obtain ⟨a4, ha4, rfl⟩ := hl4
  refine J_ws (ws' := wsP ++ ((h0, .inr (3, [.ref q, .int 0, .int 0])) :: (q, .inl (jcA X 3, 7, .inr (.inr (.inr (.inr (va_up (va_up (va_up (va_up (fun _ => none) 0 (some (a0 0))) 1 (some (a1 0))) 2 (some (a2 0))) 3 (some (a3 0)))))))) :: (bpW X a0 ++ (bpW X a1 ++ (bpW X a2 ++ (bpW X a3 ++ (bpW X a4))))))) (by simp only [List.cons_append, List.nil_append, List.append_assoc, List.set_cons_succ, List.set_cons_zero, List.append_nil]) ?_
  rw [← ha4]
  have hv4 : ((h0, .inr (3, [.ref q, .int 0, .int 0])) :: (q, .inl (jcA X 3, 7, .inr (.inr (.inr (.inr (va_up (va_up (va_up (va_up (fun _ => none) 0 (some (a0 0))) 1 (some (a1 0))) 2 (some (a2 0))) 3 (some (a3 0)))))))) :: (bpW X a0 ++ (bpW X a1 ++ (bpW X a2 ++ (bpW X a3 ++ (bpW X a4))))) : va_W)[70]? = some (a4 0, .inr (0, [.ref (a4 1), .ref (a4 2), .ref (a4 11), .int 0, .int 0, .int 0])) := by rfl
  refine K_aast3 4 (by decide) dX3_init_33 1 70 rfl hv4 (blt_in (k := 4) (by decide) (by decide) rfl) ?_
  refine J_iinc (v := 5) dX3_init_34 rfl (by decide) rfl rfl ?_
  refine J_goto (tgt := 15) dX3_init_37 (by decide) ?_
  refine J_ws (ws' := wsP ++ ((h0, .inr (3, [.ref q, .int 0, .int 0])) :: (q, .inl (jcA X 3, 7, .inr (.inr (.inr (.inr (va_up (va_up (va_up (va_up (va_up (fun _ => none) 0 (some (a0 0))) 1 (some (a1 0))) 2 (some (a2 0))) 3 (some (a3 0))) 4 (some (a4 0)))))))) :: (bpW X a0 ++ (bpW X a1 ++ (bpW X a2 ++ (bpW X a3 ++ (bpW X a4))))))) (by simp only [List.cons_append, List.nil_append, List.append_assoc, List.set_cons_succ, List.set_cons_zero, List.append_nil]) ?_
  refine J_iload_n dX3_init_15 rfl rfl ?_
  refine J_bipush (v := 7) dX3_init_16 (by decide) ?_
  refine J_icmp_ge (tgt := 40) dX3_init_18 (by decide) (fun h => absurd h (by decide)) (fun _ => ?_)
  refine J_aload_n dX3_init_21 rfl rfl ?_
  refine K_get (T := TX3) (ci := 3) (N := 3) rfl inTX3 0 rfl wf_X3_13 dX3_init_22 0 rfl rfl rfl ?_
  refine J_iload_n dX3_init_25 rfl rfl ?_
  refine K_new (T := TX0) (ci := 0) (N := 6) rfl inTX0 tyX0 tyX0_ok wc_X3_11 wi_X0 wt_X0 [.null, .null, .null, .int 0, .int 0, .int 0] defs0 ⟨rfl, rfl⟩ dX3_init_26 (fun b5 => ?_)
  refine J_dup dX3_init_29 rfl ?_
  refine K_call wj_X3_17 (c_X0_init _ b5) dX3_init_30 rfl ⟨rfl, rfl⟩ rfl (fun l5 hl5 => ?_)
  obtain ⟨a5, ha5, rfl⟩ := hl5
  refine J_ws (ws' := wsP ++ ((h0, .inr (3, [.ref q, .int 0, .int 0])) :: (q, .inl (jcA X 3, 7, .inr (.inr (.inr (.inr (va_up (va_up (va_up (va_up (va_up (fun _ => none) 0 (some (a0 0))) 1 (some (a1 0))) 2 (some (a2 0))) 3 (some (a3 0))) 4 (some (a4 0)))))))) :: (bpW X a0 ++ (bpW X a1 ++ (bpW X a2 ++ (bpW X a3 ++ (bpW X a4 ++ (bpW X a5)))))))) (by simp only [List.cons_append, List.nil_append, List.append_assoc, List.set_cons_succ, List.set_cons_zero, List.append_nil]) ?_
  rw [← ha5]
  have hv5 : ((h0, .inr (3, [.ref q, .int 0, .int 0])) :: (q, .inl (jcA X 3, 7, .inr (.inr (.inr (.inr (va_up (va_up (va_up (va_up (va_up (fun _ => none) 0 (some (a0 0))) 1 (some (a1 0))) 2 (some (a2 0))) 3 (some (a3 0))) 4 (some (a4 0)))))))) :: (bpW X a0 ++ (bpW X a1 ++ (bpW X a2 ++ (bpW X a3 ++ (bpW X a4 ++ (bpW X a5)))))) : va_W)[87]? = some (a5 0, .inr (0, [.ref (a5 1), .ref (a5 2), .ref (a5 11), .int 0, .int 0, .int 0])) := by rfl
  refine K_aast3 5 (by decide) dX3_init_33 1 87 rfl hv5 (blt_in (k := 5) (by decide) (by decide) rfl) ?_
  refine J_iinc (v := 6) dX3_init_34 rfl (by decide) rfl rfl ?_
  refine J_goto (tgt := 15) dX3_init_37 (by decide) ?_
  refine J_ws (ws' := wsP ++ ((h0, .inr (3, [.ref q, .int 0, .int 0])) :: (q, .inl (jcA X 3, 7, .inr (.inr (.inr (.inr (va_up (va_up (va_up (va_up (va_up (va_up (fun _ => none) 0 (some (a0 0))) 1 (some (a1 0))) 2 (some (a2 0))) 3 (some (a3 0))) 4 (some (a4 0))) 5 (some (a5 0)))))))) :: (bpW X a0 ++ (bpW X a1 ++ (bpW X a2 ++ (bpW X a3 ++ (bpW X a4 ++ (bpW X a5)))))))) (by simp only [List.cons_append, List.nil_append, List.append_assoc, List.set_cons_succ, List.set_cons_zero, List.append_nil]) ?_
  refine J_iload_n dX3_init_15 rfl rfl ?_
  refine J_bipush (v := 7) dX3_init_16 (by decide) ?_
  refine J_icmp_ge (tgt := 40) dX3_init_18 (by decide) (fun h => absurd h (by decide)) (fun _ => ?_)
  refine J_aload_n dX3_init_21 rfl rfl ?_
  refine K_get (T := TX3) (ci := 3) (N := 3) rfl inTX3 0 rfl wf_X3_13 dX3_init_22 0 rfl rfl rfl ?_
  refine J_iload_n dX3_init_25 rfl rfl ?_
  refine K_new (T := TX0) (ci := 0) (N := 6) rfl inTX0 tyX0 tyX0_ok wc_X3_11 wi_X0 wt_X0 [.null, .null, .null, .int 0, .int 0, .int 0] defs0 ⟨rfl, rfl⟩ dX3_init_26 (fun b6 => ?_)
  refine J_dup dX3_init_29 rfl ?_
  refine K_call wj_X3_17 (c_X0_init _ b6) dX3_init_30 rfl ⟨rfl, rfl⟩ rfl (fun l6 hl6 => ?_)
  obtain ⟨a6, ha6, rfl⟩ := hl6
  refine J_ws (ws' := wsP ++ ((h0, .inr (3, [.ref q, .int 0, .int 0])) :: (q, .inl (jcA X 3, 7, .inr (.inr (.inr (.inr (va_up (va_up (va_up (va_up (va_up (va_up (fun _ => none) 0 (some (a0 0))) 1 (some (a1 0))) 2 (some (a2 0))) 3 (some (a3 0))) 4 (some (a4 0))) 5 (some (a5 0)))))))) :: (bpW X a0 ++ (bpW X a1 ++ (bpW X a2 ++ (bpW X a3 ++ (bpW X a4 ++ (bpW X a5 ++ (bpW X a6))))))))) (by simp only [List.cons_append, List.nil_append, List.append_assoc, List.set_cons_succ, List.set_cons_zero, List.append_nil]) ?_
  rw [← ha6]
  have hv6 : ((h0, .inr (3, [.ref q, .int 0, .int 0])) :: (q, .inl (jcA X 3, 7, .inr (.inr (.inr (.inr (va_up (va_up (va_up (va_up (va_up (va_up (fun _ => none) 0 (some (a0 0))) 1 (some (a1 0))) 2 (some (a2 0))) 3 (some (a3 0))) 4 (some (a4 0))) 5 (some (a5 0)))))))) :: (bpW X a0 ++ (bpW X a1 ++ (bpW X a2 ++ (bpW X a3 ++ (bpW X a4 ++ (bpW X a5 ++ (bpW X a6))))))) : va_W)[104]? = some (a6 0, .inr (0, [.ref (a6 1), .ref (a6 2), .ref (a6 11), .int 0, .int 0, .int 0])) := by rfl
  refine K_aast3 6 (by decide) dX3_init_33 1 104 rfl hv6 (blt_in (k := 6) (by decide) (by decide) rfl) ?_
  refine J_iinc (v := 7) dX3_init_34 rfl (by decide) rfl rfl ?_
  refine J_goto (tgt := 15) dX3_init_37 (by decide) ?_
  refine J_ws (ws' := wsP ++ ((h0, .inr (3, [.ref q, .int 0, .int 0])) :: (q, .inl (jcA X 3, 7, .inr (.inr (.inr (.inr (va_up (va_up (va_up (va_up (va_up (va_up (va_up (fun _ => none) 0 (some (a0 0))) 1 (some (a1 0))) 2 (some (a2 0))) 3 (some (a3 0))) 4 (some (a4 0))) 5 (some (a5 0))) 6 (some (a6 0)))))))) :: (bpW X a0 ++ (bpW X a1 ++ (bpW X a2 ++ (bpW X a3 ++ (bpW X a4 ++ (bpW X a5 ++ (bpW X a6))))))))) (by simp only [List.cons_append, List.nil_append, List.append_assoc, List.set_cons_succ, List.set_cons_zero, List.append_nil]) ?_
  refine J_iload_n dX3_init_15 rfl rfl ?_
  refine J_bipush (v := 7) dX3_init_16 (by decide) ?_
  refine J_icmp_ge (tgt := 40) dX3_init_18 (by decide) (fun _ => ?_) (fun h => absurd (by decide) h)
  refine J_return dX3_init_40 rfl rfl ?_
  refine ⟨rfl, _, rfl, q, fun k => match k with | 0 => a0 | 1 => a1 | 2 => a2 | 3 => a3 | 4 => a4 | 5 => a5 | _ => a6, ?_⟩
  have e : (fun j => [some (a0 0), some (a1 0), some (a2 0), some (a3 0), some (a4 0), some (a5 0), some (a6 0)].getD j none) = (va_up (va_up (va_up (va_up (va_up (va_up (va_up (fun _ => none) 0 (some (a0 0))) 1 (some (a1 0))) 2 (some (a2 0))) 3 (some (a3 0))) 4 (some (a4 0))) 5 (some (a5 0))) 6 (some (a6 0))) := by
    funext j
    match j with
    | 0 => rfl
    | 1 => rfl
    | 2 => rfl
    | 3 => rfl
    | 4 => rfl
    | 5 => rfl
    | 6 => rfl
    | j + 7 => simp [va_up]
  rw [← e]
  rfl
def ppW (X : jX) (h0 hh hq pp p1 p2 sv zs : Nat) (A B C D : Nat → Nat) (E : Nat → Nat → Nat) : va_W := (h0, .inr (5, [.ref (A 0), .ref (B 0), .ref hh, .ref pp, .ref sv, .ref zs])) :: (bpW X A ++ (bpW X B ++ (hisW X hh hq E ++ (padW X pp p1 p2 ++ ((sv, .inl (jcA X 3, 2, .inr (.inr (.inr (.inr (fun j => [some (C 0), some (D 0)].getD j none)))))) :: (bpW X C ++ (bpW X D ++ [(zs, .inl (jcA X 1, 2, .inl (fun _ => 0)))])))))))
set_option maxRecDepth 100000 in
set_option maxHeartbeats 4000000 in
theorem c_X5_init {X : jX} (wsP : va_W) (h0 : Nat) : Ct X yX5_init cX5_init 2 none 4 194 10233 (fun n => n) [.ref h0] (wsP ++ [(h0, .inr (5, [.null, .null, .null, .null, .null, .null]))]) (fun v ws' => v = none ∧ ∃ l', ws' = wsP ++ l' ∧ ∃ hh hq pp p1 p2 sv zs A B C D E, l' = ppW X h0 hh hq pp p1 p2 sv zs A B C D E) := by
  refine Ct.of (own := RX5) (nm := "<init>") (by decide +kernel) rfl rfl rfl rfl ?_
  refine J_aload_n dX5_init_0 rfl rfl ?_
  refine K_obj wm_X5_1 dX5_init_1 rfl rfl ?_
  refine J_aload_n dX5_init_4 rfl rfl ?_
  refine K_new (T := TX0) (ci := 0) (N := 6) rfl inTX0 tyX0 tyX0_ok wc_X5_7 wi_X0 wt_X0 [.null, .null, .null, .int 0, .int 0, .int 0] defs0 ⟨rfl, rfl⟩ dX5_init_5 (fun b => ?_)
  refine J_dup dX5_init_8 rfl ?_
  refine K_call wj_X5_9 (c_X0_init _ b) dX5_init_9 rfl ⟨rfl, rfl⟩ rfl (fun lb hlb => ?_)
  obtain ⟨A, hA, rfl⟩ := hlb
  refine K_putF (T := TX5) (ci := 5) (N := 6) (ty := tyX5 0) rfl inTX5 tyX5 tyX5_ok nmX5 0 rfl wf_X5_10 rfl rfl rfl (by decide +kernel) rfl rfl rfl dX5_init_12 0 rfl rfl ?_
  refine J_aload_n dX5_init_15 rfl rfl ?_
  refine K_new (T := TX0) (ci := 0) (N := 6) rfl inTX0 tyX0 tyX0_ok wc_X5_7 wi_X0 wt_X0 [.null, .null, .null, .int 0, .int 0, .int 0] defs0 ⟨rfl, rfl⟩ dX5_init_16 (fun t => ?_)
  refine J_dup dX5_init_19 rfl ?_
  refine K_call wj_X5_9 (c_X0_init _ t) dX5_init_20 rfl ⟨rfl, rfl⟩ rfl (fun lt hlt => ?_)
  obtain ⟨B, hB, rfl⟩ := hlt
  refine K_putF (T := TX5) (ci := 5) (N := 6) (ty := tyX5 1) rfl inTX5 tyX5 tyX5_ok nmX5 1 rfl wf_X5_16 rfl rfl rfl (by decide +kernel) rfl rfl rfl dX5_init_23 0 rfl rfl ?_
  refine J_aload_n dX5_init_26 rfl rfl ?_
  refine K_new (T := TX3) (ci := 3) (N := 3) rfl inTX3 tyX3 tyX3_ok wc_X5_19 wi_X3 wt_X3 [.null, .int 0, .int 0] defs3 ⟨rfl, rfl⟩ dX5_init_27 (fun hh => ?_)
  refine J_dup dX5_init_30 rfl ?_
  refine K_call wj_X5_21 (c_X3_init _ hh) dX5_init_31 rfl ⟨rfl, rfl⟩ rfl (fun lhh hlhh => ?_)
  obtain ⟨hq, E, rfl⟩ := hlhh
  refine K_putF (T := TX5) (ci := 5) (N := 6) (ty := tyX5 2) rfl inTX5 tyX5 tyX5_ok nmX5 2 rfl wf_X5_22 rfl rfl rfl (by decide +kernel) rfl rfl rfl dX5_init_34 0 rfl rfl ?_
  refine J_aload_n dX5_init_37 rfl rfl ?_
  refine K_new (T := TX4) (ci := 4) (N := 5) rfl inTX4 tyX4 tyX4_ok wc_X5_26 wi_X4 wt_X4 [.null, .int 0, .int 0, .int 0, .null] defs4 ⟨rfl, rfl⟩ dX5_init_38 (fun pp => ?_)
  refine J_dup dX5_init_41 rfl ?_
  refine K_call wj_X5_28 (c_X4_init _ pp) dX5_init_42 rfl ⟨rfl, rfl⟩ rfl (fun lpp hlpp => ?_)
  obtain ⟨p1, p2, rfl⟩ := hlpp
  refine K_putF (T := TX5) (ci := 5) (N := 6) (ty := tyX5 3) rfl inTX5 tyX5 tyX5_ok nmX5 3 rfl wf_X5_29 rfl rfl rfl (by decide +kernel) rfl rfl rfl dX5_init_45 0 rfl rfl ?_
  obtain ⟨T, hT⟩ : ∃ T : va_W, T = bpW X A ++ (bpW X B ++ (hisW X hh hq E ++ padW X pp p1 p2)) := ⟨_, rfl⟩
  refine J_ws (ws' := wsP ++ ((h0, .inr (5, [.ref b, .ref t, .ref hh, .ref pp, .null, .null])) :: T)) (by rw [hT]; simp only [List.cons_append, List.nil_append, List.append_assoc, List.set_cons_succ, List.set_cons_zero, List.append_nil]) ?_
  refine J_aload_n dX5_init_48 rfl rfl ?_
  refine J_iconst (v := 2) dX5_init_49 (by decide) ?_
  refine K_newq3 2 wc_X5_7 (by decide) (by decide) rfl ⟨rfl, rfl⟩ dX5_init_50 (fun sv => ?_)
  refine K_putF (T := TX5) (ci := 5) (N := 6) (ty := tyX5 4) rfl inTX5 tyX5 tyX5_ok nmX5 4 rfl wf_X5_33 rfl rfl rfl (by decide +kernel) rfl rfl rfl dX5_init_53 0 rfl rfl ?_
  refine J_ws (ws' := wsP ++ ((h0, .inr (5, [.ref b, .ref t, .ref hh, .ref pp, .ref sv, .null])) :: (T ++ [(sv, .inl (jcA X 3, 2, .inr (.inr (.inr (.inr (fun _ => none))))))]))) (by simp only [List.cons_append, List.nil_append, List.append_assoc, List.set_cons_succ, List.set_cons_zero, List.append_nil]) ?_
  refine J_iconst (v := 0) dX5_init_56 (by decide) ?_
  refine J_istore_n dX5_init_57 rfl rfl rfl ?_
  refine J_iload_n dX5_init_58 rfl rfl ?_
  refine J_iconst (v := 2) dX5_init_59 (by decide) ?_
  refine J_icmp_ge (tgt := 82) dX5_init_60 (by decide) (fun h => absurd h (by decide)) (fun _ => ?_)
  refine J_aload_n dX5_init_63 rfl rfl ?_
  refine K_get (T := TX5) (ci := 5) (N := 6) rfl inTX5 4 rfl wf_X5_33 dX5_init_64 0 rfl rfl rfl ?_
  refine J_iload_n dX5_init_67 rfl rfl ?_
  refine K_new (T := TX0) (ci := 0) (N := 6) rfl inTX0 tyX0 tyX0_ok wc_X5_7 wi_X0 wt_X0 [.null, .null, .null, .int 0, .int 0, .int 0] defs0 ⟨rfl, rfl⟩ dX5_init_68 (fun s0 => ?_)
  refine J_dup dX5_init_71 rfl ?_
  refine K_call wj_X5_9 (c_X0_init _ s0) dX5_init_72 rfl ⟨rfl, rfl⟩ rfl (fun m0 hm0 => ?_)
  obtain ⟨C, hC, rfl⟩ := hm0
  refine J_ws (ws' := wsP ++ ((h0, .inr (5, [.ref b, .ref t, .ref hh, .ref pp, .ref sv, .null])) :: (T ++ (sv, .inl (jcA X 3, 2, .inr (.inr (.inr (.inr (fun _ => none)))))) :: (bpW X C)))) (by simp only [List.cons_append, List.nil_append, List.append_assoc, List.set_cons_succ, List.set_cons_zero, List.append_nil]) ?_
  rw [← hC]
  have he0 : ((h0, .inr (5, [.ref b, .ref t, .ref hh, .ref pp, .ref sv, .null])) :: (T ++ (sv, .inl (jcA X 3, 2, .inr (.inr (.inr (.inr (fun _ => none)))))) :: (bpW X C)) : va_W)[T.length + 1]? = some (sv, .inl (jcA X 3, 2, .inr (.inr (.inr (.inr (fun _ => none)))))) := by rw [List.getElem?_cons_succ]; exact at_T _ _ _
  have hv0 : ((h0, .inr (5, [.ref b, .ref t, .ref hh, .ref pp, .ref sv, .null])) :: (T ++ (sv, .inl (jcA X 3, 2, .inr (.inr (.inr (.inr (fun _ => none)))))) :: (bpW X C)) : va_W)[(T ++ [(sv, .inl (jcA X 3, 2, .inr (.inr (.inr (.inr (fun _ => none))))))] : va_W).length + 0 + 1]? = some (C 0, .inr (0, [.ref (C 1), .ref (C 2), .ref (C 11), .int 0, .int 0, .int 0])) := by
    rw [List.getElem?_cons_succ, show (T ++ (sv, .inl (jcA X 3, 2, .inr (.inr (.inr (.inr (fun _ => none)))))) :: (bpW X C) : va_W) = (T ++ [(sv, .inl (jcA X 3, 2, .inr (.inr (.inr (.inr (fun _ => none))))))] : va_W) ++ (bpW X C) from by simp only [List.cons_append, List.nil_append, List.append_assoc, List.set_cons_succ, List.set_cons_zero, List.append_nil], List.getElem?_append_right (by omega), Nat.sub_self]
    rfl
  refine K_aast3 0 (by decide) dX5_init_75 (T.length + 1) _ he0 hv0 (blt_in (k := 0) (by decide) (by decide) rfl) ?_
  refine J_iinc (v := 1) dX5_init_76 rfl (by decide) rfl rfl ?_
  refine J_goto (tgt := 58) dX5_init_79 (by decide) ?_
  refine J_ws (ws' := wsP ++ ((h0, .inr (5, [.ref b, .ref t, .ref hh, .ref pp, .ref sv, .null])) :: (T ++ (sv, .inl (jcA X 3, 2, .inr (.inr (.inr (.inr (va_up (fun _ => none) 0 (some (C 0)))))))) :: (bpW X C)))) (by rw [List.set_cons_succ, set_T]) ?_
  refine J_iload_n dX5_init_58 rfl rfl ?_
  refine J_iconst (v := 2) dX5_init_59 (by decide) ?_
  refine J_icmp_ge (tgt := 82) dX5_init_60 (by decide) (fun h => absurd h (by decide)) (fun _ => ?_)
  refine J_aload_n dX5_init_63 rfl rfl ?_
  refine K_get (T := TX5) (ci := 5) (N := 6) rfl inTX5 4 rfl wf_X5_33 dX5_init_64 0 rfl rfl rfl ?_
  refine J_iload_n dX5_init_67 rfl rfl ?_
  refine K_new (T := TX0) (ci := 0) (N := 6) rfl inTX0 tyX0 tyX0_ok wc_X5_7 wi_X0 wt_X0 [.null, .null, .null, .int 0, .int 0, .int 0] defs0 ⟨rfl, rfl⟩ dX5_init_68 (fun s1 => ?_)
  refine J_dup dX5_init_71 rfl ?_
  refine K_call wj_X5_9 (c_X0_init _ s1) dX5_init_72 rfl ⟨rfl, rfl⟩ rfl (fun m1 hm1 => ?_)
  obtain ⟨D, hD, rfl⟩ := hm1
  refine J_ws (ws' := wsP ++ ((h0, .inr (5, [.ref b, .ref t, .ref hh, .ref pp, .ref sv, .null])) :: (T ++ (sv, .inl (jcA X 3, 2, .inr (.inr (.inr (.inr (va_up (fun _ => none) 0 (some (C 0)))))))) :: (bpW X C ++ bpW X D)))) (by simp only [List.cons_append, List.nil_append, List.append_assoc, List.set_cons_succ, List.set_cons_zero, List.append_nil]) ?_
  rw [← hD]
  have he1 : ((h0, .inr (5, [.ref b, .ref t, .ref hh, .ref pp, .ref sv, .null])) :: (T ++ (sv, .inl (jcA X 3, 2, .inr (.inr (.inr (.inr (va_up (fun _ => none) 0 (some (C 0)))))))) :: (bpW X C ++ bpW X D)) : va_W)[T.length + 1]? = some (sv, .inl (jcA X 3, 2, .inr (.inr (.inr (.inr (va_up (fun _ => none) 0 (some (C 0)))))))) := by rw [List.getElem?_cons_succ]; exact at_T _ _ _
  have hv1 : ((h0, .inr (5, [.ref b, .ref t, .ref hh, .ref pp, .ref sv, .null])) :: (T ++ (sv, .inl (jcA X 3, 2, .inr (.inr (.inr (.inr (va_up (fun _ => none) 0 (some (C 0)))))))) :: (bpW X C ++ bpW X D)) : va_W)[(T ++ [(sv, .inl (jcA X 3, 2, .inr (.inr (.inr (.inr (va_up (fun _ => none) 0 (some (C 0))))))))] : va_W).length + 17 + 1]? = some (D 0, .inr (0, [.ref (D 1), .ref (D 2), .ref (D 11), .int 0, .int 0, .int 0])) := by
    rw [List.getElem?_cons_succ, show (T ++ (sv, .inl (jcA X 3, 2, .inr (.inr (.inr (.inr (va_up (fun _ => none) 0 (some (C 0)))))))) :: (bpW X C ++ bpW X D) : va_W) = (T ++ [(sv, .inl (jcA X 3, 2, .inr (.inr (.inr (.inr (va_up (fun _ => none) 0 (some (C 0))))))))] : va_W) ++ (bpW X C ++ bpW X D) from by simp only [List.cons_append, List.nil_append, List.append_assoc, List.set_cons_succ, List.set_cons_zero, List.append_nil], List.getElem?_append_right (by omega), Nat.add_sub_cancel_left]
    rfl
  refine K_aast3 1 (by decide) dX5_init_75 (T.length + 1) _ he1 hv1 (blt_in (k := 1) (by decide) (by decide) rfl) ?_
  refine J_iinc (v := 2) dX5_init_76 rfl (by decide) rfl rfl ?_
  refine J_goto (tgt := 58) dX5_init_79 (by decide) ?_
  refine J_ws (ws' := wsP ++ ((h0, .inr (5, [.ref b, .ref t, .ref hh, .ref pp, .ref sv, .null])) :: (T ++ (sv, .inl (jcA X 3, 2, .inr (.inr (.inr (.inr (va_up (va_up (fun _ => none) 0 (some (C 0))) 1 (some (D 0)))))))) :: (bpW X C ++ bpW X D)))) (by rw [List.set_cons_succ, set_T]) ?_
  refine J_iload_n dX5_init_58 rfl rfl ?_
  refine J_iconst (v := 2) dX5_init_59 (by decide) ?_
  refine J_icmp_ge (tgt := 82) dX5_init_60 (by decide) (fun _ => ?_) (fun h => absurd (by decide) h)
  refine J_aload_n dX5_init_82 rfl rfl ?_
  refine J_iconst (v := 2) dX5_init_83 (by decide) ?_
  refine K_newz 2 (by decide) (by decide) rfl ⟨rfl, rfl⟩ dX5_init_84 (fun zs => ?_)
  refine K_putF (T := TX5) (ci := 5) (N := 6) (ty := tyX5 5) rfl inTX5 tyX5 tyX5_ok nmX5 5 rfl wf_X5_37 rfl rfl rfl (by decide +kernel) rfl rfl rfl dX5_init_86 0 rfl rfl ?_
  refine J_return dX5_init_89 rfl rfl ?_
  refine ⟨rfl, _, rfl, hh, hq, pp, p1, p2, sv, zs, A, B, C, D, E, ?_⟩
  have e : (fun j => [some (C 0), some (D 0)].getD j none) = (va_up (va_up (fun _ => none) 0 (some (C 0))) 1 (some (D 0))) := by
    funext j
    match j with
    | 0 => rfl
    | 1 => rfl
    | j + 2 => simp [va_up]
  unfold ppW
  rw [e, hA, hB, hT]
  simp only [List.cons_append, List.nil_append, List.append_assoc, List.set_cons_succ, List.set_cons_zero, List.append_nil]
