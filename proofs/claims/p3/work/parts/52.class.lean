abbrev y_Cs_variables : MethodName := ⟨"ClauseSearch", "variables", "(I)I"⟩
abbrev y_Cs_give : MethodName := ⟨"ClauseSearch", "give", "(I)I"⟩
abbrev y_Cs_value : MethodName := ⟨"ClauseSearch", "value", "(I)Z"⟩
theorem d_Cs_variables_0 : decode prog_1_method_2_code 0 = .ok (.iload_n 1, 1) := by decide +kernel
theorem d_Cs_variables_1 : decode prog_1_method_2_code 1 = .ok (.iconst 1, 1) := by decide +kernel
theorem d_Cs_variables_2 : decode prog_1_method_2_code 2 = .ok (.if_icmp .lt 10, 3) := by decide +kernel
theorem d_Cs_variables_5 : decode prog_1_method_2_code 5 = .ok (.iload_n 1, 1) := by decide +kernel
theorem d_Cs_variables_6 : decode prog_1_method_2_code 6 = .ok (.sipush 400, 3) := by decide +kernel
theorem d_Cs_variables_9 : decode prog_1_method_2_code 9 = .ok (.if_icmp .le 13, 3) := by decide +kernel
theorem d_Cs_variables_22 : decode prog_1_method_2_code 22 = .ok (.aload_n 0, 1) := by decide +kernel
theorem d_Cs_variables_23 : decode prog_1_method_2_code 23 = .ok (.getfield 43, 3) := by decide +kernel
theorem d_Cs_variables_26 : decode prog_1_method_2_code 26 = .ok (.iload_n 1, 1) := by decide +kernel
theorem d_Cs_variables_27 : decode prog_1_method_2_code 27 = .ok (.iadd, 1) := by decide +kernel
theorem d_Cs_variables_28 : decode prog_1_method_2_code 28 = .ok (.sipush 400, 3) := by decide +kernel
theorem d_Cs_variables_31 : decode prog_1_method_2_code 31 = .ok (.if_icmp .le 13, 3) := by decide +kernel
theorem d_Cs_variables_44 : decode prog_1_method_2_code 44 = .ok (.aload_n 0, 1) := by decide +kernel
theorem d_Cs_variables_45 : decode prog_1_method_2_code 45 = .ok (.dup, 1) := by decide +kernel
theorem d_Cs_variables_46 : decode prog_1_method_2_code 46 = .ok (.getfield 43, 3) := by decide +kernel
theorem d_Cs_variables_49 : decode prog_1_method_2_code 49 = .ok (.iload_n 1, 1) := by decide +kernel
theorem d_Cs_variables_50 : decode prog_1_method_2_code 50 = .ok (.iadd, 1) := by decide +kernel
theorem d_Cs_variables_51 : decode prog_1_method_2_code 51 = .ok (.putfield 43, 3) := by decide +kernel
theorem d_Cs_variables_54 : decode prog_1_method_2_code 54 = .ok (.aload_n 0, 1) := by decide +kernel
theorem d_Cs_variables_55 : decode prog_1_method_2_code 55 = .ok (.iconst 0, 1) := by decide +kernel
theorem d_Cs_variables_56 : decode prog_1_method_2_code 56 = .ok (.putfield 52, 3) := by decide +kernel
theorem d_Cs_variables_59 : decode prog_1_method_2_code 59 = .ok (.aload_n 0, 1) := by decide +kernel
theorem d_Cs_variables_60 : decode prog_1_method_2_code 60 = .ok (.getfield 43, 3) := by decide +kernel
theorem d_Cs_variables_63 : decode prog_1_method_2_code 63 = .ok (.ireturn, 1) := by decide +kernel
theorem d_Cs_give_0 : decode prog_1_method_3_code 0 = .ok (.iload_n 1, 1) := by decide +kernel
theorem d_Cs_give_1 : decode prog_1_method_3_code 1 = .ok (.ifCond .eq 20, 3) := by decide +kernel
theorem d_Cs_give_4 : decode prog_1_method_3_code 4 = .ok (.iload_n 1, 1) := by decide +kernel
theorem d_Cs_give_5 : decode prog_1_method_3_code 5 = .ok (.aload_n 0, 1) := by decide +kernel
theorem d_Cs_give_6 : decode prog_1_method_3_code 6 = .ok (.getfield 43, 3) := by decide +kernel
theorem d_Cs_give_9 : decode prog_1_method_3_code 9 = .ok (.if_icmp .gt 12, 3) := by decide +kernel
theorem d_Cs_give_12 : decode prog_1_method_3_code 12 = .ok (.iload_n 1, 1) := by decide +kernel
theorem d_Cs_give_13 : decode prog_1_method_3_code 13 = .ok (.aload_n 0, 1) := by decide +kernel
theorem d_Cs_give_14 : decode prog_1_method_3_code 14 = .ok (.getfield 43, 3) := by decide +kernel
theorem d_Cs_give_17 : decode prog_1_method_3_code 17 = .ok (.ineg, 1) := by decide +kernel
theorem d_Cs_give_18 : decode prog_1_method_3_code 18 = .ok (.if_icmp .ge 13, 3) := by decide +kernel
theorem d_Cs_give_31 : decode prog_1_method_3_code 31 = .ok (.aload_n 0, 1) := by decide +kernel
theorem d_Cs_give_32 : decode prog_1_method_3_code 32 = .ok (.getfield 58, 3) := by decide +kernel
theorem d_Cs_give_35 : decode prog_1_method_3_code 35 = .ok (.bipush 20, 2) := by decide +kernel
theorem d_Cs_give_37 : decode prog_1_method_3_code 37 = .ok (.if_icmp .lt 13, 3) := by decide +kernel
theorem d_Cs_give_50 : decode prog_1_method_3_code 50 = .ok (.aload_n 0, 1) := by decide +kernel
theorem d_Cs_give_51 : decode prog_1_method_3_code 51 = .ok (.getfield 9, 3) := by decide +kernel
theorem d_Cs_give_54 : decode prog_1_method_3_code 54 = .ok (.aload_n 0, 1) := by decide +kernel
theorem d_Cs_give_55 : decode prog_1_method_3_code 55 = .ok (.getfield 58, 3) := by decide +kernel
theorem d_Cs_give_58 : decode prog_1_method_3_code 58 = .ok (.iload_n 1, 1) := by decide +kernel
theorem d_Cs_give_59 : decode prog_1_method_3_code 59 = .ok (.ifCond .le 9, 3) := by decide +kernel
theorem d_Cs_give_62 : decode prog_1_method_3_code 62 = .ok (.iconst 2, 1) := by decide +kernel
theorem d_Cs_give_63 : decode prog_1_method_3_code 63 = .ok (.iload_n 1, 1) := by decide +kernel
theorem d_Cs_give_64 : decode prog_1_method_3_code 64 = .ok (.imul, 1) := by decide +kernel
theorem d_Cs_give_65 : decode prog_1_method_3_code 65 = .ok (.goto 8, 3) := by decide +kernel
theorem d_Cs_give_73 : decode prog_1_method_3_code 73 = .ok (.iastore, 1) := by decide +kernel
theorem d_Cs_give_74 : decode prog_1_method_3_code 74 = .ok (.aload_n 0, 1) := by decide +kernel
theorem d_Cs_give_75 : decode prog_1_method_3_code 75 = .ok (.dup, 1) := by decide +kernel
theorem d_Cs_give_76 : decode prog_1_method_3_code 76 = .ok (.getfield 58, 3) := by decide +kernel
theorem d_Cs_give_79 : decode prog_1_method_3_code 79 = .ok (.iconst 1, 1) := by decide +kernel
theorem d_Cs_give_80 : decode prog_1_method_3_code 80 = .ok (.iadd, 1) := by decide +kernel
theorem d_Cs_give_81 : decode prog_1_method_3_code 81 = .ok (.putfield 58, 3) := by decide +kernel
theorem d_Cs_give_84 : decode prog_1_method_3_code 84 = .ok (.aload_n 0, 1) := by decide +kernel
theorem d_Cs_give_85 : decode prog_1_method_3_code 85 = .ok (.getfield 58, 3) := by decide +kernel
theorem d_Cs_give_88 : decode prog_1_method_3_code 88 = .ok (.ireturn, 1) := by decide +kernel
theorem d_Cs_give_68 : decode prog_1_method_3_code 68 = .ok (.iconst 1, 1) := by decide +kernel
theorem d_Cs_give_69 : decode prog_1_method_3_code 69 = .ok (.iconst 2, 1) := by decide +kernel
theorem d_Cs_give_70 : decode prog_1_method_3_code 70 = .ok (.iload_n 1, 1) := by decide +kernel
theorem d_Cs_give_71 : decode prog_1_method_3_code 71 = .ok (.imul, 1) := by decide +kernel
theorem d_Cs_give_72 : decode prog_1_method_3_code 72 = .ok (.isub, 1) := by decide +kernel
theorem d_Cs_value_0 : decode prog_1_method_6_code 0 = .ok (.iload_n 1, 1) := by decide +kernel
theorem d_Cs_value_1 : decode prog_1_method_6_code 1 = .ok (.iconst 1, 1) := by decide +kernel
theorem d_Cs_value_2 : decode prog_1_method_6_code 2 = .ok (.if_icmp .lt 11, 3) := by decide +kernel
theorem d_Cs_value_5 : decode prog_1_method_6_code 5 = .ok (.iload_n 1, 1) := by decide +kernel
theorem d_Cs_value_6 : decode prog_1_method_6_code 6 = .ok (.aload_n 0, 1) := by decide +kernel
theorem d_Cs_value_7 : decode prog_1_method_6_code 7 = .ok (.getfield 43, 3) := by decide +kernel
theorem d_Cs_value_10 : decode prog_1_method_6_code 10 = .ok (.if_icmp .le 13, 3) := by decide +kernel
theorem d_Cs_value_23 : decode prog_1_method_6_code 23 = .ok (.aload_n 0, 1) := by decide +kernel
theorem d_Cs_value_24 : decode prog_1_method_6_code 24 = .ok (.getfield 52, 3) := by decide +kernel
theorem d_Cs_value_27 : decode prog_1_method_6_code 27 = .ok (.ifCond .ne 13, 3) := by decide +kernel
theorem d_Cs_value_40 : decode prog_1_method_6_code 40 = .ok (.aload_n 0, 1) := by decide +kernel
theorem d_Cs_value_41 : decode prog_1_method_6_code 41 = .ok (.getfield 32, 3) := by decide +kernel
theorem d_Cs_value_44 : decode prog_1_method_6_code 44 = .ok (.iload_n 1, 1) := by decide +kernel
theorem d_Cs_value_45 : decode prog_1_method_6_code 45 = .ok (.baload, 1) := by decide +kernel
theorem d_Cs_value_46 : decode prog_1_method_6_code 46 = .ok (.ireturn, 1) := by decide +kernel
set_option maxHeartbeats 4000000 in
set_option maxRecDepth 100000 in
/-- variables(n) -/
theorem c_Cs_variables (l : Launch) (dC : Nat → ClassId) (dI : Nat → Nat → Nat) (b0 : Nat) (r0 : Nat) (h1 : Nat) (o0 : Nat) (m1 : Nat) (sz : Nat) (q : Mx) (n0 : Nat) (hn1 : 1 ≤ n0) (hn2 : n0 ≤ 400) (h3 : q.vc + n0 ≤ 400) : Met l y_Cs_variables (wq y_Cs_variables prog_1_method_2_code 2 (some .int)) ({ frames := 0, cells := 0, slots := 0, locals := 0 }) (va_Pc [.ref b0, .int (nI n0)] (fun U => U.heap.size = sz ∧ va_P (dC, dI) vwCl [(b0, .inr (6, [.ref r0, .ref h1, .ref o0, .ref m1, .int (nI q.rs), .int (nI q.vc), .int q.ws, .int q.bw]))] U.heap ∧ va_K (dC, dI) vwCl [] U ∧ va_D (fun _ => True) [(b0, .inr (6, [.ref r0, .ref h1, .ref o0, .ref m1, .int (nI q.rs), .int (nI q.vc), .int q.ws, .int q.bw]))])) (va_Qi (fun (r : Int32) (r9 : Int32) => r = r9) (fun (r9 : Int32) t => r9 = nI (q.vc + n0) ∧ va_P (dC, dI) vwCl [(b0, .inr (6, [.ref r0, .ref h1, .ref o0, .ref m1, .int (nI q.rs), .int (nI (q.vc + n0)), .int 0, .int q.bw]))] t.heap ∧ va_K (dC, dI) vwCl [] t ∧ va_D (va_A [(b0, .inr (6, [.ref r0, .ref h1, .ref o0, .ref m1, .int (nI q.rs), .int (nI q.vc), .int q.ws, .int q.bw]))] sz) [(b0, .inr (6, [.ref r0, .ref h1, .ref o0, .ref m1, .int (nI q.rs), .int (nI (q.vc + n0)), .int 0, .int q.bw]))]) (va_A [(b0, .inr (6, [.ref r0, .ref h1, .ref o0, .ref m1, .int (nI q.rs), .int (nI q.vc), .int q.ws, .int q.bw]))] sz)) (0) (0) (va_A [(b0, .inr (6, [.ref r0, .ref h1, .ref o0, .ref m1, .int (nI q.rs), .int (nI q.vc), .int q.ws, .int q.bw]))] sz) := by
  refine Met.ofW (cc := prog_1_method_2_code) (maxL := 2) (ret := (some .int)) (by decide) rfl ?_
  intro p e s m args below meth c s₁ B hml hv
  obtain ⟨rfl, hsz, hP, hK, hD0⟩ := hv
  have hx := B.exec
  have hb := B.bytes
  have hr := B.returns
  have hw : ∀ w ∈ bg_W, w.before #[Value.ref b0, Value.int (nI n0)] s = true := fun w h => atoms_spec (ws := (wq y_Cs_variables prog_1_method_2_code 2 (some .int))) B.pre w (List.mem_cons_of_mem _ h)
  have hown : s.vm.findClass R_Cs = some m.cls := findClass_of_methodNamed B.named
  have hlocks := B.notSynchronized
  subst hsz
  have hD := hD0.self (sz := s.heap.size)
  generalize hAe : va_A [(b0, .inr (6, [.ref r0, .ref h1, .ref o0, .ref m1, .int (nI q.rs), .int (nI q.vc), .int q.ws, .int q.bw]))] s.heap.size = A at hD ⊢
  have hA : ∀ q : Nat, s.heap.size ≤ q → A q := fun q h => by rw [← hAe]; exact Or.inr h
  have hS : va_S A s.heap s.heap [] := va_S.rf
  have hP : va_P (dC, dI) vwCl [(b0, .inr (6, [.ref r0, .ref h1, .ref o0, .ref m1, .int (nI q.rs), .int (nI q.vc), .int q.ws, .int q.bw]))] s.heap := hP
  have hl := lv_entry ([.ref b0, .int (nI n0)]) (n := 2) (Nat.le_of_ble_eq_true rfl)
  rw [lg_entry_eq]
  generalize (lg_sl ([.ref b0, .int (nI n0)]) ++ List.replicate (2 - (lg_sl ([.ref b0, .int (nI n0)])).length) Slot.unset).toArray = ls at hl ⊢
  have hl : lv_has ls 2 [(0, .ref b0), (1, .int (nI n0))] := hl
  obtain ⟨H, hH⟩ : ∃ H : Heap, H = s.heap := ⟨_, rfl⟩
  rw [← hH] at hP
  have hS : va_S A s.heap H [] := by rw [hH]; exact va_S.rf
  show W p l e _ s m _ below meth c s.heap [] 0 0 _ _
  rw [← hH]
  refine lv_iload_n hx hb d_Cs_variables_0 rfl (lv_at hl 1 rfl) ?_
  refine lv_iconst (v := nI 1) hx hb d_Cs_variables_1 (by decide) ?_
  refine lv_icmp_lt (tgt := 12) hx hb d_Cs_variables_2 (by decide) (fun c_2 => by exfalso; have c_2 : n0 < 1 := (nI_ltI (a := n0) (b := 1) (by omega) (by omega)).mp c_2; omega) (fun c_2 => ?_)
  have c_2 : ¬ (n0 < 1) := fun qq9 => c_2 ((nI_ltI (a := n0) (b := 1) (by omega) (by omega)).mpr qq9)
  refine lv_iload_n hx hb d_Cs_variables_5 rfl (lv_at hl 1 rfl) ?_
  refine lv_sipush (v := nI 400) hx hb d_Cs_variables_6 (by decide) ?_
  refine lv_icmp_le (tgt := 22) hx hb d_Cs_variables_9 (by decide) (fun c_9 => ?_) (fun c_9 => by exfalso; have c_9 : ¬ (n0 ≤ 400) := fun qq9 => c_9 ((nI_leI (a := n0) (b := 400) (by omega) (by omega)).mpr qq9); omega)
  have c_9 : n0 ≤ 400 := (nI_leI (a := n0) (b := 400) (by omega) (by omega)).mp c_9
  refine lv_aload_n hx hb d_Cs_variables_22 rfl (lv_at hl 0 rfl) ?_
  refine va_get (D := (dC, dI)) (ci := 6) (v := .int (nI q.vc)) (C := R_Cs) (T := F_Cs) (N := 8) hx hb hw in_Cs hown hK hP 0 rfl rfl 5 (by decide) (hw (Cond.fieldLink "ClauseSearch" 43 "ClauseSearch" "variableCount" "I") k_260) (fun _ h9 => h9) rfl d_Cs_variables_23 ?_
  refine lv_iload_n hx hb d_Cs_variables_26 rfl (lv_at hl 1 rfl) ?_
  refine lv_iadd hx hb d_Cs_variables_27 ?_
  refine lv_topi (fun y_1 ey_1 => ?_)
  obtain rfl : y_1 = nI (q.vc + n0) := ey_1.trans (nI_add q.vc n0)
  refine lv_sipush (v := nI 400) hx hb d_Cs_variables_28 (by decide) ?_
  refine lv_icmp_le (tgt := 44) hx hb d_Cs_variables_31 (by decide) (fun c_31 => ?_) (fun c_31 => by exfalso; have c_31 : ¬ (q.vc + n0 ≤ 400) := fun qq9 => c_31 ((nI_leI (a := q.vc + n0) (b := 400) (by omega) (by omega)).mpr qq9); omega)
  have c_31 : q.vc + n0 ≤ 400 := (nI_leI (a := q.vc + n0) (b := 400) (by omega) (by omega)).mp c_31
  refine lv_aload_n hx hb d_Cs_variables_44 rfl (lv_at hl 0 rfl) ?_
  refine lv_dup hx hb d_Cs_variables_45 rfl ?_
  refine va_get (D := (dC, dI)) (ci := 6) (v := .int (nI q.vc)) (C := R_Cs) (T := F_Cs) (N := 8) hx hb hw in_Cs hown hK hP 0 rfl rfl 5 (by decide) (hw (Cond.fieldLink "ClauseSearch" 43 "ClauseSearch" "variableCount" "I") k_260) (fun _ h9 => h9) rfl d_Cs_variables_46 ?_
  refine lv_iload_n hx hb d_Cs_variables_49 rfl (lv_at hl 1 rfl) ?_
  refine lv_iadd hx hb d_Cs_variables_50 ?_
  refine lv_topi (fun y_2 ey_2 => ?_)
  obtain rfl : y_2 = nI (q.vc + n0) := ey_2.trans (nI_add q.vc n0)
  refine va_put (D := (dC, dI)) (ci := 6) (v := .int (nI (q.vc + n0))) (ty := .int) (C := R_Cs) (T := F_Cs) (N := 8) hx hb hw in_Cs t_Cs t_Cs_ok n_Cs hown hK hP hD hS 0 rfl rfl 5 (by decide) (hw (Cond.fieldLink "ClauseSearch" 43 "ClauseSearch" "variableCount" "I") k_260) (fun _ h9 => h9) rfl (by decide +kernel) rfl rfl (Nat.le_of_ble_eq_true rfl) d_Cs_variables_51 (fun H locs hP hD hS => ?_)
  have hP : va_P (dC, dI) vwCl [(b0, .inr (6, [.ref r0, .ref h1, .ref o0, .ref m1, .int (nI q.rs), .int (nI (q.vc + n0)), .int q.ws, .int q.bw]))] H := hP
  have hD : va_D A [(b0, .inr (6, [.ref r0, .ref h1, .ref o0, .ref m1, .int (nI q.rs), .int (nI (q.vc + n0)), .int q.ws, .int q.bw]))] := hD
  refine lv_aload_n hx hb d_Cs_variables_54 rfl (lv_at hl 0 rfl) ?_
  refine lv_iconst (v := 0) hx hb d_Cs_variables_55 (by decide) ?_
  refine va_put (D := (dC, dI)) (ci := 6) (v := .int 0) (ty := .boolean) (C := R_Cs) (T := F_Cs) (N := 8) hx hb hw in_Cs t_Cs t_Cs_ok n_Cs hown hK hP hD hS 0 rfl rfl 6 (by decide) (hw (Cond.fieldLink "ClauseSearch" 52 "ClauseSearch" "wayStands" "Z") k_261) (fun _ h9 => h9) rfl (by decide +kernel) rfl rfl (Nat.le_of_ble_eq_true rfl) d_Cs_variables_56 (fun H locs hP hD hS => ?_)
  have hP : va_P (dC, dI) vwCl [(b0, .inr (6, [.ref r0, .ref h1, .ref o0, .ref m1, .int (nI q.rs), .int (nI (q.vc + n0)), .int 0, .int q.bw]))] H := hP
  have hD : va_D A [(b0, .inr (6, [.ref r0, .ref h1, .ref o0, .ref m1, .int (nI q.rs), .int (nI (q.vc + n0)), .int 0, .int q.bw]))] := hD
  refine lv_aload_n hx hb d_Cs_variables_59 rfl (lv_at hl 0 rfl) ?_
  refine va_get (D := (dC, dI)) (ci := 6) (v := .int (nI (q.vc + n0))) (C := R_Cs) (T := F_Cs) (N := 8) hx hb hw in_Cs hown hK hP 0 rfl rfl 5 (by decide) (hw (Cond.fieldLink "ClauseSearch" 43 "ClauseSearch" "variableCount" "I") k_260) (fun _ h9 => h9) rfl d_Cs_variables_60 ?_
  have hK := hK.sub (tys' := []) [] rfl
  refine W.widen (k := 0) (n := 0) (by decide) (by decide) ?_
  exact W.iret (v := nI (q.vc + n0)) hx hb hr (fun t ht hW => ⟨⟨nI (q.vc + n0), nI (q.vc + n0), rfl, rfl, rfl, by rw [ht]; exact hP, va_K.moved hW.alike hK, hD⟩, hS.F ht⟩) hS.2.2 d_Cs_variables_63

set_option maxHeartbeats 4000000 in
set_option maxRecDepth 100000 in
/-- give(v) -/
theorem c_Cs_give_p (l : Launch) (dC : Nat → ClassId) (dI : Nat → Nat → Nat) (b0 : Nat) (r0 : Nat) (h1 : Nat) (o0 : Nat) (m1 : Nat) (x8 : ClassId) (sz : Nat) (q : Mx) (v0 : Nat) (gi1 : ¬ nI v0 = 0) (gi2 : ¬ nI q.vc < nI v0) (gi3 : -nI q.vc ≤ nI v0) (gi4 : q.rs < 20) (hv : 1 ≤ v0 ∧ v0 ≤ 400) : Met l y_Cs_give (wq y_Cs_give prog_1_method_3_code 2 (some .int)) ({ frames := 0, cells := 0, slots := 0, locals := 0 }) (va_Pc [.ref b0, .int (nI v0)] (fun U => U.heap.size = sz ∧ va_P (dC, dI) vwCl [(b0, .inr (6, [.ref r0, .ref h1, .ref o0, .ref m1, .int (nI q.rs), .int (nI q.vc), .int q.ws, .int q.bw])), (r0, .inl (x8, 20, .inl q.rw))] U.heap ∧ va_K (dC, dI) vwCl [(x8, .int)] U ∧ va_D (fun _ => True) [(b0, .inr (6, [.ref r0, .ref h1, .ref o0, .ref m1, .int (nI q.rs), .int (nI q.vc), .int q.ws, .int q.bw])), (r0, .inl (x8, 20, .inl q.rw))])) (va_Qi (fun (r : Int32) (r9 : Int32) => r = r9) (fun (r9 : Int32) t => r9 = nI (q.rs + 1) ∧ va_P (dC, dI) vwCl [(b0, .inr (6, [.ref r0, .ref h1, .ref o0, .ref m1, .int (nI (q.rs + 1)), .int (nI q.vc), .int q.ws, .int q.bw])), (r0, .inl (x8, 20, .inl (upd q.rw q.rs (nI (2 * v0)))))] t.heap ∧ va_K (dC, dI) vwCl [(x8, .int)] t ∧ va_D (va_A [(b0, .inr (6, [.ref r0, .ref h1, .ref o0, .ref m1, .int (nI q.rs), .int (nI q.vc), .int q.ws, .int q.bw])), (r0, .inl (x8, 20, .inl q.rw))] sz) [(b0, .inr (6, [.ref r0, .ref h1, .ref o0, .ref m1, .int (nI (q.rs + 1)), .int (nI q.vc), .int q.ws, .int q.bw])), (r0, .inl (x8, 20, .inl (upd q.rw q.rs (nI (2 * v0)))))]) (va_A [(b0, .inr (6, [.ref r0, .ref h1, .ref o0, .ref m1, .int (nI q.rs), .int (nI q.vc), .int q.ws, .int q.bw])), (r0, .inl (x8, 20, .inl q.rw))] sz)) (0) (0) (va_A [(b0, .inr (6, [.ref r0, .ref h1, .ref o0, .ref m1, .int (nI q.rs), .int (nI q.vc), .int q.ws, .int q.bw])), (r0, .inl (x8, 20, .inl q.rw))] sz) := by
  refine Met.ofW (cc := prog_1_method_3_code) (maxL := 2) (ret := (some .int)) (by decide) rfl ?_
  intro p e s m args below meth c s₁ B hml hv
  obtain ⟨rfl, hsz, hP, hK, hD0⟩ := hv
  have hx := B.exec
  have hb := B.bytes
  have hr := B.returns
  have hw : ∀ w ∈ bg_W, w.before #[Value.ref b0, Value.int (nI v0)] s = true := fun w h => atoms_spec (ws := (wq y_Cs_give prog_1_method_3_code 2 (some .int))) B.pre w (List.mem_cons_of_mem _ h)
  have hown : s.vm.findClass R_Cs = some m.cls := findClass_of_methodNamed B.named
  have hlocks := B.notSynchronized
  subst hsz
  have hD := hD0.self (sz := s.heap.size)
  generalize hAe : va_A [(b0, .inr (6, [.ref r0, .ref h1, .ref o0, .ref m1, .int (nI q.rs), .int (nI q.vc), .int q.ws, .int q.bw])), (r0, .inl (x8, 20, .inl q.rw))] s.heap.size = A at hD ⊢
  have hA : ∀ q : Nat, s.heap.size ≤ q → A q := fun q h => by rw [← hAe]; exact Or.inr h
  have hS : va_S A s.heap s.heap [] := va_S.rf
  have hP : va_P (dC, dI) vwCl [(b0, .inr (6, [.ref r0, .ref h1, .ref o0, .ref m1, .int (nI q.rs), .int (nI q.vc), .int q.ws, .int q.bw])), (r0, .inl (x8, 20, .inl q.rw))] s.heap := hP
  have hl := lv_entry ([.ref b0, .int (nI v0)]) (n := 2) (Nat.le_of_ble_eq_true rfl)
  rw [lg_entry_eq]
  generalize (lg_sl ([.ref b0, .int (nI v0)]) ++ List.replicate (2 - (lg_sl ([.ref b0, .int (nI v0)])).length) Slot.unset).toArray = ls at hl ⊢
  have hl : lv_has ls 2 [(0, .ref b0), (1, .int (nI v0))] := hl
  obtain ⟨H, hH⟩ : ∃ H : Heap, H = s.heap := ⟨_, rfl⟩
  rw [← hH] at hP
  have hS : va_S A s.heap H [] := by rw [hH]; exact va_S.rf
  show W p l e _ s m _ below meth c s.heap [] 0 0 _ _
  rw [← hH]
  refine lv_iload_n hx hb d_Cs_give_0 rfl (lv_at hl 1 rfl) ?_
  refine lv_if_eq (tgt := 21) hx hb d_Cs_give_1 (by decide) (fun c_1 => absurd c_1 (gi1)) (fun c_1 => ?_)
  refine lv_iload_n hx hb d_Cs_give_4 rfl (lv_at hl 1 rfl) ?_
  refine lv_aload_n hx hb d_Cs_give_5 rfl (lv_at hl 0 rfl) ?_
  refine va_get (D := (dC, dI)) (ci := 6) (v := .int (nI q.vc)) (C := R_Cs) (T := F_Cs) (N := 8) hx hb hw in_Cs hown hK hP 0 rfl rfl 5 (by decide) (hw (Cond.fieldLink "ClauseSearch" 43 "ClauseSearch" "variableCount" "I") k_260) (fun _ h9 => h9) rfl d_Cs_give_6 ?_
  refine lv_icmp_gt (tgt := 21) hx hb d_Cs_give_9 (by decide) (fun c_9 => absurd c_9 (gi2)) (fun c_9 => ?_)
  refine lv_iload_n hx hb d_Cs_give_12 rfl (lv_at hl 1 rfl) ?_
  refine lv_aload_n hx hb d_Cs_give_13 rfl (lv_at hl 0 rfl) ?_
  refine va_get (D := (dC, dI)) (ci := 6) (v := .int (nI q.vc)) (C := R_Cs) (T := F_Cs) (N := 8) hx hb hw in_Cs hown hK hP 0 rfl rfl 5 (by decide) (hw (Cond.fieldLink "ClauseSearch" 43 "ClauseSearch" "variableCount" "I") k_260) (fun _ h9 => h9) rfl d_Cs_give_14 ?_
  refine lv_ineg hx hb d_Cs_give_17 ?_
  refine lv_icmp_ge (tgt := 31) hx hb d_Cs_give_18 (by decide) (fun c_18 => ?_) (fun c_18 => absurd c_18 (fun x => x gi3))
  refine lv_aload_n hx hb d_Cs_give_31 rfl (lv_at hl 0 rfl) ?_
  refine va_get (D := (dC, dI)) (ci := 6) (v := .int (nI q.rs)) (C := R_Cs) (T := F_Cs) (N := 8) hx hb hw in_Cs hown hK hP 0 rfl rfl 4 (by decide) (hw (Cond.fieldLink "ClauseSearch" 58 "ClauseSearch" "rowSize" "I") k_259) (fun _ h9 => h9) rfl d_Cs_give_32 ?_
  refine lv_bipush (v := nI 20) hx hb d_Cs_give_35 (by decide) ?_
  refine lv_icmp_lt (tgt := 50) hx hb d_Cs_give_37 (by decide) (fun c_37 => ?_) (fun c_37 => by exfalso; have c_37 : ¬ (q.rs < 20) := fun qq9 => c_37 ((nI_ltI (a := q.rs) (b := 20) (by omega) (by omega)).mpr qq9); omega)
  have c_37 : q.rs < 20 := (nI_ltI (a := q.rs) (b := 20) (by omega) (by omega)).mp c_37
  refine lv_aload_n hx hb d_Cs_give_50 rfl (lv_at hl 0 rfl) ?_
  refine va_get (D := (dC, dI)) (ci := 6) (v := .ref r0) (C := R_Cs) (T := F_Cs) (N := 8) hx hb hw in_Cs hown hK hP 0 rfl rfl 0 (by decide) (hw (Cond.fieldLink "ClauseSearch" 9 "ClauseSearch" "row" "[I") k_255) (fun _ h9 => h9) rfl d_Cs_give_51 ?_
  refine lv_aload_n hx hb d_Cs_give_54 rfl (lv_at hl 0 rfl) ?_
  refine va_get (D := (dC, dI)) (ci := 6) (v := .int (nI q.rs)) (C := R_Cs) (T := F_Cs) (N := 8) hx hb hw in_Cs hown hK hP 0 rfl rfl 4 (by decide) (hw (Cond.fieldLink "ClauseSearch" 58 "ClauseSearch" "rowSize" "I") k_259) (fun _ h9 => h9) rfl d_Cs_give_55 ?_
  refine lv_iload_n hx hb d_Cs_give_58 rfl (lv_at hl 1 rfl) ?_
  refine lv_if_le (tgt := 68) hx hb d_Cs_give_59 (by decide) (fun c_59 => by exfalso; have c_59 : v0 ≤ 0 := (nI_leI (a := v0) (b := 0) (by omega) (by omega)).mp c_59; omega) (fun c_59 => ?_)
  have c_59 : ¬ (v0 ≤ 0) := fun qq9 => c_59 ((nI_leI (a := v0) (b := 0) (by omega) (by omega)).mpr qq9)
  refine lv_iconst (v := nI 2) hx hb d_Cs_give_62 (by decide) ?_
  refine lv_iload_n hx hb d_Cs_give_63 rfl (lv_at hl 1 rfl) ?_
  refine lv_imul hx hb d_Cs_give_64 ?_
  refine lv_topi (fun y_1 ey_1 => ?_)
  obtain rfl : y_1 = nI (2 * v0) := ey_1.trans (pk_mul 2 v0)
  refine lv_goto (tgt := 73) hx hb d_Cs_give_65 (by decide) ?_
  refine va_iast hx hb hK hP hD hS 1 0 rfl rfl (vp_in_nI (by omega) (by omega)) d_Cs_give_73 (fun H locs hP hD hS => ?_)
  rw [nI_clamp (n := q.rs) (by omega)] at hP hD
  have hP : va_P (dC, dI) vwCl [(b0, .inr (6, [.ref r0, .ref h1, .ref o0, .ref m1, .int (nI q.rs), .int (nI q.vc), .int q.ws, .int q.bw])), (r0, .inl (x8, 20, .inl (upd q.rw q.rs (nI (2 * v0)))))] H := hP
  have hD : va_D A [(b0, .inr (6, [.ref r0, .ref h1, .ref o0, .ref m1, .int (nI q.rs), .int (nI q.vc), .int q.ws, .int q.bw])), (r0, .inl (x8, 20, .inl (upd q.rw q.rs (nI (2 * v0)))))] := hD
  refine lv_aload_n hx hb d_Cs_give_74 rfl (lv_at hl 0 rfl) ?_
  refine lv_dup hx hb d_Cs_give_75 rfl ?_
  refine va_get (D := (dC, dI)) (ci := 6) (v := .int (nI q.rs)) (C := R_Cs) (T := F_Cs) (N := 8) hx hb hw in_Cs hown hK hP 0 rfl rfl 4 (by decide) (hw (Cond.fieldLink "ClauseSearch" 58 "ClauseSearch" "rowSize" "I") k_259) (fun _ h9 => h9) rfl d_Cs_give_76 ?_
  refine lv_iconst (v := nI 1) hx hb d_Cs_give_79 (by decide) ?_
  refine lv_iadd hx hb d_Cs_give_80 ?_
  refine lv_topi (fun y_2 ey_2 => ?_)
  obtain rfl : y_2 = nI (q.rs + 1) := ey_2.trans (nI_add q.rs 1)
  refine va_put (D := (dC, dI)) (ci := 6) (v := .int (nI (q.rs + 1))) (ty := .int) (C := R_Cs) (T := F_Cs) (N := 8) hx hb hw in_Cs t_Cs t_Cs_ok n_Cs hown hK hP hD hS 0 rfl rfl 4 (by decide) (hw (Cond.fieldLink "ClauseSearch" 58 "ClauseSearch" "rowSize" "I") k_259) (fun _ h9 => h9) rfl (by decide +kernel) rfl rfl (Nat.le_of_ble_eq_true rfl) d_Cs_give_81 (fun H locs hP hD hS => ?_)
  have hP : va_P (dC, dI) vwCl [(b0, .inr (6, [.ref r0, .ref h1, .ref o0, .ref m1, .int (nI (q.rs + 1)), .int (nI q.vc), .int q.ws, .int q.bw])), (r0, .inl (x8, 20, .inl (upd q.rw q.rs (nI (2 * v0)))))] H := hP
  have hD : va_D A [(b0, .inr (6, [.ref r0, .ref h1, .ref o0, .ref m1, .int (nI (q.rs + 1)), .int (nI q.vc), .int q.ws, .int q.bw])), (r0, .inl (x8, 20, .inl (upd q.rw q.rs (nI (2 * v0)))))] := hD
  refine lv_aload_n hx hb d_Cs_give_84 rfl (lv_at hl 0 rfl) ?_
  refine va_get (D := (dC, dI)) (ci := 6) (v := .int (nI (q.rs + 1))) (C := R_Cs) (T := F_Cs) (N := 8) hx hb hw in_Cs hown hK hP 0 rfl rfl 4 (by decide) (hw (Cond.fieldLink "ClauseSearch" 58 "ClauseSearch" "rowSize" "I") k_259) (fun _ h9 => h9) rfl d_Cs_give_85 ?_
  have hK := hK.sub (tys' := [(x8, .int)]) [0] rfl
  refine W.widen (k := 0) (n := 0) (by decide) (by decide) ?_
  exact W.iret (v := nI (q.rs + 1)) hx hb hr (fun t ht hW => ⟨⟨nI (q.rs + 1), nI (q.rs + 1), rfl, rfl, rfl, by rw [ht]; exact hP, va_K.moved hW.alike hK, hD⟩, hS.F ht⟩) hS.2.2 d_Cs_give_88

set_option maxHeartbeats 4000000 in
set_option maxRecDepth 100000 in
/-- give(-v) -/
theorem c_Cs_give_n (l : Launch) (dC : Nat → ClassId) (dI : Nat → Nat → Nat) (b0 : Nat) (r0 : Nat) (h1 : Nat) (o0 : Nat) (m1 : Nat) (x8 : ClassId) (sz : Nat) (q : Mx) (v0 : Nat) (gi1 : ¬ ng v0 = 0) (gi2 : ¬ nI q.vc < ng v0) (gi3 : -nI q.vc ≤ ng v0) (gi4 : q.rs < 20) (hv : 1 ≤ v0 ∧ v0 ≤ 400) : Met l y_Cs_give (wq y_Cs_give prog_1_method_3_code 2 (some .int)) ({ frames := 0, cells := 0, slots := 0, locals := 0 }) (va_Pc [.ref b0, .int (ng v0)] (fun U => U.heap.size = sz ∧ va_P (dC, dI) vwCl [(b0, .inr (6, [.ref r0, .ref h1, .ref o0, .ref m1, .int (nI q.rs), .int (nI q.vc), .int q.ws, .int q.bw])), (r0, .inl (x8, 20, .inl q.rw))] U.heap ∧ va_K (dC, dI) vwCl [(x8, .int)] U ∧ va_D (fun _ => True) [(b0, .inr (6, [.ref r0, .ref h1, .ref o0, .ref m1, .int (nI q.rs), .int (nI q.vc), .int q.ws, .int q.bw])), (r0, .inl (x8, 20, .inl q.rw))])) (va_Qi (fun (r : Int32) (r9 : Int32) => r = r9) (fun (r9 : Int32) t => r9 = nI (q.rs + 1) ∧ va_P (dC, dI) vwCl [(b0, .inr (6, [.ref r0, .ref h1, .ref o0, .ref m1, .int (nI (q.rs + 1)), .int (nI q.vc), .int q.ws, .int q.bw])), (r0, .inl (x8, 20, .inl (upd q.rw q.rs (nI (2 * v0 + 1)))))] t.heap ∧ va_K (dC, dI) vwCl [(x8, .int)] t ∧ va_D (va_A [(b0, .inr (6, [.ref r0, .ref h1, .ref o0, .ref m1, .int (nI q.rs), .int (nI q.vc), .int q.ws, .int q.bw])), (r0, .inl (x8, 20, .inl q.rw))] sz) [(b0, .inr (6, [.ref r0, .ref h1, .ref o0, .ref m1, .int (nI (q.rs + 1)), .int (nI q.vc), .int q.ws, .int q.bw])), (r0, .inl (x8, 20, .inl (upd q.rw q.rs (nI (2 * v0 + 1)))))]) (va_A [(b0, .inr (6, [.ref r0, .ref h1, .ref o0, .ref m1, .int (nI q.rs), .int (nI q.vc), .int q.ws, .int q.bw])), (r0, .inl (x8, 20, .inl q.rw))] sz)) (0) (0) (va_A [(b0, .inr (6, [.ref r0, .ref h1, .ref o0, .ref m1, .int (nI q.rs), .int (nI q.vc), .int q.ws, .int q.bw])), (r0, .inl (x8, 20, .inl q.rw))] sz) := by
  refine Met.ofW (cc := prog_1_method_3_code) (maxL := 2) (ret := (some .int)) (by decide) rfl ?_
  intro p e s m args below meth c s₁ B hml hv
  obtain ⟨rfl, hsz, hP, hK, hD0⟩ := hv
  have hx := B.exec
  have hb := B.bytes
  have hr := B.returns
  have hw : ∀ w ∈ bg_W, w.before #[Value.ref b0, Value.int (ng v0)] s = true := fun w h => atoms_spec (ws := (wq y_Cs_give prog_1_method_3_code 2 (some .int))) B.pre w (List.mem_cons_of_mem _ h)
  have hown : s.vm.findClass R_Cs = some m.cls := findClass_of_methodNamed B.named
  have hlocks := B.notSynchronized
  subst hsz
  have hD := hD0.self (sz := s.heap.size)
  generalize hAe : va_A [(b0, .inr (6, [.ref r0, .ref h1, .ref o0, .ref m1, .int (nI q.rs), .int (nI q.vc), .int q.ws, .int q.bw])), (r0, .inl (x8, 20, .inl q.rw))] s.heap.size = A at hD ⊢
  have hA : ∀ q : Nat, s.heap.size ≤ q → A q := fun q h => by rw [← hAe]; exact Or.inr h
  have hS : va_S A s.heap s.heap [] := va_S.rf
  have hP : va_P (dC, dI) vwCl [(b0, .inr (6, [.ref r0, .ref h1, .ref o0, .ref m1, .int (nI q.rs), .int (nI q.vc), .int q.ws, .int q.bw])), (r0, .inl (x8, 20, .inl q.rw))] s.heap := hP
  have hl := lv_entry ([.ref b0, .int (ng v0)]) (n := 2) (Nat.le_of_ble_eq_true rfl)
  rw [lg_entry_eq]
  generalize (lg_sl ([.ref b0, .int (ng v0)]) ++ List.replicate (2 - (lg_sl ([.ref b0, .int (ng v0)])).length) Slot.unset).toArray = ls at hl ⊢
  have hl : lv_has ls 2 [(0, .ref b0), (1, .int (ng v0))] := hl
  obtain ⟨H, hH⟩ : ∃ H : Heap, H = s.heap := ⟨_, rfl⟩
  rw [← hH] at hP
  have hS : va_S A s.heap H [] := by rw [hH]; exact va_S.rf
  show W p l e _ s m _ below meth c s.heap [] 0 0 _ _
  rw [← hH]
  refine lv_iload_n hx hb d_Cs_give_0 rfl (lv_at hl 1 rfl) ?_
  refine lv_if_eq (tgt := 21) hx hb d_Cs_give_1 (by decide) (fun c_1 => absurd c_1 (gi1)) (fun c_1 => ?_)
  refine lv_iload_n hx hb d_Cs_give_4 rfl (lv_at hl 1 rfl) ?_
  refine lv_aload_n hx hb d_Cs_give_5 rfl (lv_at hl 0 rfl) ?_
  refine va_get (D := (dC, dI)) (ci := 6) (v := .int (nI q.vc)) (C := R_Cs) (T := F_Cs) (N := 8) hx hb hw in_Cs hown hK hP 0 rfl rfl 5 (by decide) (hw (Cond.fieldLink "ClauseSearch" 43 "ClauseSearch" "variableCount" "I") k_260) (fun _ h9 => h9) rfl d_Cs_give_6 ?_
  refine lv_icmp_gt (tgt := 21) hx hb d_Cs_give_9 (by decide) (fun c_9 => absurd c_9 (gi2)) (fun c_9 => ?_)
  refine lv_iload_n hx hb d_Cs_give_12 rfl (lv_at hl 1 rfl) ?_
  refine lv_aload_n hx hb d_Cs_give_13 rfl (lv_at hl 0 rfl) ?_
  refine va_get (D := (dC, dI)) (ci := 6) (v := .int (nI q.vc)) (C := R_Cs) (T := F_Cs) (N := 8) hx hb hw in_Cs hown hK hP 0 rfl rfl 5 (by decide) (hw (Cond.fieldLink "ClauseSearch" 43 "ClauseSearch" "variableCount" "I") k_260) (fun _ h9 => h9) rfl d_Cs_give_14 ?_
  refine lv_ineg hx hb d_Cs_give_17 ?_
  refine lv_icmp_ge (tgt := 31) hx hb d_Cs_give_18 (by decide) (fun c_18 => ?_) (fun c_18 => absurd c_18 (fun x => x gi3))
  refine lv_aload_n hx hb d_Cs_give_31 rfl (lv_at hl 0 rfl) ?_
  refine va_get (D := (dC, dI)) (ci := 6) (v := .int (nI q.rs)) (C := R_Cs) (T := F_Cs) (N := 8) hx hb hw in_Cs hown hK hP 0 rfl rfl 4 (by decide) (hw (Cond.fieldLink "ClauseSearch" 58 "ClauseSearch" "rowSize" "I") k_259) (fun _ h9 => h9) rfl d_Cs_give_32 ?_
  refine lv_bipush (v := nI 20) hx hb d_Cs_give_35 (by decide) ?_
  refine lv_icmp_lt (tgt := 50) hx hb d_Cs_give_37 (by decide) (fun c_37 => ?_) (fun c_37 => by exfalso; have c_37 : ¬ (q.rs < 20) := fun qq9 => c_37 ((nI_ltI (a := q.rs) (b := 20) (by omega) (by omega)).mpr qq9); omega)
  have c_37 : q.rs < 20 := (nI_ltI (a := q.rs) (b := 20) (by omega) (by omega)).mp c_37
  refine lv_aload_n hx hb d_Cs_give_50 rfl (lv_at hl 0 rfl) ?_
  refine va_get (D := (dC, dI)) (ci := 6) (v := .ref r0) (C := R_Cs) (T := F_Cs) (N := 8) hx hb hw in_Cs hown hK hP 0 rfl rfl 0 (by decide) (hw (Cond.fieldLink "ClauseSearch" 9 "ClauseSearch" "row" "[I") k_255) (fun _ h9 => h9) rfl d_Cs_give_51 ?_
  refine lv_aload_n hx hb d_Cs_give_54 rfl (lv_at hl 0 rfl) ?_
  refine va_get (D := (dC, dI)) (ci := 6) (v := .int (nI q.rs)) (C := R_Cs) (T := F_Cs) (N := 8) hx hb hw in_Cs hown hK hP 0 rfl rfl 4 (by decide) (hw (Cond.fieldLink "ClauseSearch" 58 "ClauseSearch" "rowSize" "I") k_259) (fun _ h9 => h9) rfl d_Cs_give_55 ?_
  refine lv_iload_n hx hb d_Cs_give_58 rfl (lv_at hl 1 rfl) ?_
  refine lv_if_le (tgt := 68) hx hb d_Cs_give_59 (by decide) (fun c_59 => ?_) (fun c_59 => absurd c_59 (fun x => x (Int32.le_of_lt (ng_lt hv.1 hv.2))))
  refine lv_iconst (v := nI 1) hx hb d_Cs_give_68 (by decide) ?_
  refine lv_iconst (v := nI 2) hx hb d_Cs_give_69 (by decide) ?_
  refine lv_iload_n hx hb d_Cs_give_70 rfl (lv_at hl 1 rfl) ?_
  refine lv_imul hx hb d_Cs_give_71 ?_
  refine lv_topi (fun y_1 ey_1 => ?_)
  obtain rfl : y_1 = nI 2 * ng v0 := ey_1.trans (rfl)
  refine lv_isub hx hb d_Cs_give_72 ?_
  refine lv_topi (fun y_2 ey_2 => ?_)
  obtain rfl : y_2 = nI (2 * v0 + 1) := ey_2.trans (n_mul v0)
  refine va_iast hx hb hK hP hD hS 1 0 rfl rfl (vp_in_nI (by omega) (by omega)) d_Cs_give_73 (fun H locs hP hD hS => ?_)
  rw [nI_clamp (n := q.rs) (by omega)] at hP hD
  have hP : va_P (dC, dI) vwCl [(b0, .inr (6, [.ref r0, .ref h1, .ref o0, .ref m1, .int (nI q.rs), .int (nI q.vc), .int q.ws, .int q.bw])), (r0, .inl (x8, 20, .inl (upd q.rw q.rs (nI (2 * v0 + 1)))))] H := hP
  have hD : va_D A [(b0, .inr (6, [.ref r0, .ref h1, .ref o0, .ref m1, .int (nI q.rs), .int (nI q.vc), .int q.ws, .int q.bw])), (r0, .inl (x8, 20, .inl (upd q.rw q.rs (nI (2 * v0 + 1)))))] := hD
  refine lv_aload_n hx hb d_Cs_give_74 rfl (lv_at hl 0 rfl) ?_
  refine lv_dup hx hb d_Cs_give_75 rfl ?_
  refine va_get (D := (dC, dI)) (ci := 6) (v := .int (nI q.rs)) (C := R_Cs) (T := F_Cs) (N := 8) hx hb hw in_Cs hown hK hP 0 rfl rfl 4 (by decide) (hw (Cond.fieldLink "ClauseSearch" 58 "ClauseSearch" "rowSize" "I") k_259) (fun _ h9 => h9) rfl d_Cs_give_76 ?_
  refine lv_iconst (v := nI 1) hx hb d_Cs_give_79 (by decide) ?_
  refine lv_iadd hx hb d_Cs_give_80 ?_
  refine lv_topi (fun y_3 ey_3 => ?_)
  obtain rfl : y_3 = nI (q.rs + 1) := ey_3.trans (nI_add q.rs 1)
  refine va_put (D := (dC, dI)) (ci := 6) (v := .int (nI (q.rs + 1))) (ty := .int) (C := R_Cs) (T := F_Cs) (N := 8) hx hb hw in_Cs t_Cs t_Cs_ok n_Cs hown hK hP hD hS 0 rfl rfl 4 (by decide) (hw (Cond.fieldLink "ClauseSearch" 58 "ClauseSearch" "rowSize" "I") k_259) (fun _ h9 => h9) rfl (by decide +kernel) rfl rfl (Nat.le_of_ble_eq_true rfl) d_Cs_give_81 (fun H locs hP hD hS => ?_)
  have hP : va_P (dC, dI) vwCl [(b0, .inr (6, [.ref r0, .ref h1, .ref o0, .ref m1, .int (nI (q.rs + 1)), .int (nI q.vc), .int q.ws, .int q.bw])), (r0, .inl (x8, 20, .inl (upd q.rw q.rs (nI (2 * v0 + 1)))))] H := hP
  have hD : va_D A [(b0, .inr (6, [.ref r0, .ref h1, .ref o0, .ref m1, .int (nI (q.rs + 1)), .int (nI q.vc), .int q.ws, .int q.bw])), (r0, .inl (x8, 20, .inl (upd q.rw q.rs (nI (2 * v0 + 1)))))] := hD
  refine lv_aload_n hx hb d_Cs_give_84 rfl (lv_at hl 0 rfl) ?_
  refine va_get (D := (dC, dI)) (ci := 6) (v := .int (nI (q.rs + 1))) (C := R_Cs) (T := F_Cs) (N := 8) hx hb hw in_Cs hown hK hP 0 rfl rfl 4 (by decide) (hw (Cond.fieldLink "ClauseSearch" 58 "ClauseSearch" "rowSize" "I") k_259) (fun _ h9 => h9) rfl d_Cs_give_85 ?_
  have hK := hK.sub (tys' := [(x8, .int)]) [0] rfl
  refine W.widen (k := 0) (n := 0) (by decide) (by decide) ?_
  exact W.iret (v := nI (q.rs + 1)) hx hb hr (fun t ht hW => ⟨⟨nI (q.rs + 1), nI (q.rs + 1), rfl, rfl, rfl, by rw [ht]; exact hP, va_K.moved hW.alike hK, hD⟩, hS.F ht⟩) hS.2.2 d_Cs_give_88

set_option maxHeartbeats 4000000 in
set_option maxRecDepth 100000 in
/-- value(v) -/
theorem c_Cs_value_0 (l : Launch) (dC : Nat → ClassId) (dI : Nat → Nat → Nat) (b0 : Nat) (r0 : Nat) (h1 : Nat) (o0 : Nat) (m1 : Nat) (x9 : ClassId) (sz : Nat) (q : Mx) (n0 : Nat) (hn1 : 1 ≤ n0) (hn2 : n0 ≤ q.vc) (hvc : q.vc ≤ 400) (hws : q.ws = 1) (hwv : q.wy n0 = 0) : Met l y_Cs_value (wq y_Cs_value prog_1_method_6_code 2 (some .boolean)) ({ frames := 0, cells := 0, slots := 0, locals := 0 }) (va_Pc [.ref b0, .int (nI n0)] (fun U => U.heap.size = sz ∧ va_P (dC, dI) vwCl [(b0, .inr (6, [.ref r0, .ref h1, .ref o0, .ref m1, .int (nI q.rs), .int (nI q.vc), .int 1, .int q.bw])), (m1, .inl (x9, 401, .inl q.wy))] U.heap ∧ va_K (dC, dI) vwCl [(x9, .boolean)] U ∧ va_D (fun _ => True) [(b0, .inr (6, [.ref r0, .ref h1, .ref o0, .ref m1, .int (nI q.rs), .int (nI q.vc), .int 1, .int q.bw])), (m1, .inl (x9, 401, .inl q.wy))])) (va_Qi (fun (r : Int32) (r9 : Int32) => r = r9) (fun (r9 : Int32) t => r9 = 0 ∧ va_P (dC, dI) vwCl [(b0, .inr (6, [.ref r0, .ref h1, .ref o0, .ref m1, .int (nI q.rs), .int (nI q.vc), .int 1, .int q.bw])), (m1, .inl (x9, 401, .inl q.wy))] t.heap ∧ va_K (dC, dI) vwCl [(x9, .boolean)] t ∧ va_D (va_A [(b0, .inr (6, [.ref r0, .ref h1, .ref o0, .ref m1, .int (nI q.rs), .int (nI q.vc), .int 1, .int q.bw])), (m1, .inl (x9, 401, .inl q.wy))] sz) [(b0, .inr (6, [.ref r0, .ref h1, .ref o0, .ref m1, .int (nI q.rs), .int (nI q.vc), .int 1, .int q.bw])), (m1, .inl (x9, 401, .inl q.wy))]) (va_A [(b0, .inr (6, [.ref r0, .ref h1, .ref o0, .ref m1, .int (nI q.rs), .int (nI q.vc), .int 1, .int q.bw])), (m1, .inl (x9, 401, .inl q.wy))] sz)) (0) (0) (va_A [(b0, .inr (6, [.ref r0, .ref h1, .ref o0, .ref m1, .int (nI q.rs), .int (nI q.vc), .int 1, .int q.bw])), (m1, .inl (x9, 401, .inl q.wy))] sz) := by
  refine Met.ofW (cc := prog_1_method_6_code) (maxL := 2) (ret := (some .boolean)) (by decide) rfl ?_
  intro p e s m args below meth c s₁ B hml hv
  obtain ⟨rfl, hsz, hP, hK, hD0⟩ := hv
  have hx := B.exec
  have hb := B.bytes
  have hr := B.returns
  have hw : ∀ w ∈ bg_W, w.before #[Value.ref b0, Value.int (nI n0)] s = true := fun w h => atoms_spec (ws := (wq y_Cs_value prog_1_method_6_code 2 (some .boolean))) B.pre w (List.mem_cons_of_mem _ h)
  have hown : s.vm.findClass R_Cs = some m.cls := findClass_of_methodNamed B.named
  have hlocks := B.notSynchronized
  subst hsz
  have hD := hD0.self (sz := s.heap.size)
  generalize hAe : va_A [(b0, .inr (6, [.ref r0, .ref h1, .ref o0, .ref m1, .int (nI q.rs), .int (nI q.vc), .int 1, .int q.bw])), (m1, .inl (x9, 401, .inl q.wy))] s.heap.size = A at hD ⊢
  have hA : ∀ q : Nat, s.heap.size ≤ q → A q := fun q h => by rw [← hAe]; exact Or.inr h
  have hS : va_S A s.heap s.heap [] := va_S.rf
  have hP : va_P (dC, dI) vwCl [(b0, .inr (6, [.ref r0, .ref h1, .ref o0, .ref m1, .int (nI q.rs), .int (nI q.vc), .int 1, .int q.bw])), (m1, .inl (x9, 401, .inl q.wy))] s.heap := hP
  have hl := lv_entry ([.ref b0, .int (nI n0)]) (n := 2) (Nat.le_of_ble_eq_true rfl)
  rw [lg_entry_eq]
  generalize (lg_sl ([.ref b0, .int (nI n0)]) ++ List.replicate (2 - (lg_sl ([.ref b0, .int (nI n0)])).length) Slot.unset).toArray = ls at hl ⊢
  have hl : lv_has ls 2 [(0, .ref b0), (1, .int (nI n0))] := hl
  obtain ⟨H, hH⟩ : ∃ H : Heap, H = s.heap := ⟨_, rfl⟩
  rw [← hH] at hP
  have hS : va_S A s.heap H [] := by rw [hH]; exact va_S.rf
  show W p l e _ s m _ below meth c s.heap [] 0 0 _ _
  rw [← hH]
  refine lv_iload_n hx hb d_Cs_value_0 rfl (lv_at hl 1 rfl) ?_
  refine lv_iconst (v := nI 1) hx hb d_Cs_value_1 (by decide) ?_
  refine lv_icmp_lt (tgt := 13) hx hb d_Cs_value_2 (by decide) (fun c_2 => by exfalso; have c_2 : n0 < 1 := (nI_ltI (a := n0) (b := 1) (by omega) (by omega)).mp c_2; omega) (fun c_2 => ?_)
  have c_2 : ¬ (n0 < 1) := fun qq9 => c_2 ((nI_ltI (a := n0) (b := 1) (by omega) (by omega)).mpr qq9)
  refine lv_iload_n hx hb d_Cs_value_5 rfl (lv_at hl 1 rfl) ?_
  refine lv_aload_n hx hb d_Cs_value_6 rfl (lv_at hl 0 rfl) ?_
  refine va_get (D := (dC, dI)) (ci := 6) (v := .int (nI q.vc)) (C := R_Cs) (T := F_Cs) (N := 8) hx hb hw in_Cs hown hK hP 0 rfl rfl 5 (by decide) (hw (Cond.fieldLink "ClauseSearch" 43 "ClauseSearch" "variableCount" "I") k_260) (fun _ h9 => h9) rfl d_Cs_value_7 ?_
  refine lv_icmp_le (tgt := 23) hx hb d_Cs_value_10 (by decide) (fun c_10 => ?_) (fun c_10 => by exfalso; have c_10 : ¬ (n0 ≤ q.vc) := fun qq9 => c_10 ((nI_leI (a := n0) (b := q.vc) (by omega) (by omega)).mpr qq9); omega)
  have c_10 : n0 ≤ q.vc := (nI_leI (a := n0) (b := q.vc) (by omega) (by omega)).mp c_10
  refine lv_aload_n hx hb d_Cs_value_23 rfl (lv_at hl 0 rfl) ?_
  refine va_get (D := (dC, dI)) (ci := 6) (v := .int 1) (C := R_Cs) (T := F_Cs) (N := 8) hx hb hw in_Cs hown hK hP 0 rfl rfl 6 (by decide) (hw (Cond.fieldLink "ClauseSearch" 52 "ClauseSearch" "wayStands" "Z") k_261) (fun _ h9 => h9) rfl d_Cs_value_24 ?_
  refine lv_if_ne (tgt := 40) hx hb d_Cs_value_27 (by decide) (fun c_27 => ?_) (fun c_27 => absurd c_27 (by decide))
  refine lv_aload_n hx hb d_Cs_value_40 rfl (lv_at hl 0 rfl) ?_
  refine va_get (D := (dC, dI)) (ci := 6) (v := .ref m1) (C := R_Cs) (T := F_Cs) (N := 8) hx hb hw in_Cs hown hK hP 0 rfl rfl 3 (by decide) (hw (Cond.fieldLink "ClauseSearch" 32 "ClauseSearch" "way" "[Z") k_258) (fun _ h9 => h9) rfl d_Cs_value_41 ?_
  refine lv_iload_n hx hb d_Cs_value_44 rfl (lv_at hl 1 rfl) ?_
  refine va_zald hx hb hK hP 1 0 rfl rfl (vp_in_nI (by omega) (by omega)) d_Cs_value_45 ?_
  refine lv_topi (fun y_1 ey_1 => ?_)
  rw [nI_clamp (by omega)] at ey_1
  rw [hwv] at ey_1
  subst ey_1
  have hK := hK.sub (tys' := [(x9, .boolean)]) [0] rfl
  refine W.widen (k := 0) (n := 0) (by decide) (by decide) ?_
  exact W.zret (v := 0) hx hb hr rfl (fun t ht hW => ⟨⟨0, 0, rfl, rfl, rfl, by rw [ht]; exact hP, va_K.moved hW.alike hK, hD⟩, hS.F ht⟩) hS.2.2 d_Cs_value_46

set_option maxHeartbeats 4000000 in
set_option maxRecDepth 100000 in
/-- value(v) -/
theorem c_Cs_value_1 (l : Launch) (dC : Nat → ClassId) (dI : Nat → Nat → Nat) (b0 : Nat) (r0 : Nat) (h1 : Nat) (o0 : Nat) (m1 : Nat) (x9 : ClassId) (sz : Nat) (q : Mx) (n0 : Nat) (hn1 : 1 ≤ n0) (hn2 : n0 ≤ q.vc) (hvc : q.vc ≤ 400) (hws : q.ws = 1) (hwv : q.wy n0 = 1) : Met l y_Cs_value (wq y_Cs_value prog_1_method_6_code 2 (some .boolean)) ({ frames := 0, cells := 0, slots := 0, locals := 0 }) (va_Pc [.ref b0, .int (nI n0)] (fun U => U.heap.size = sz ∧ va_P (dC, dI) vwCl [(b0, .inr (6, [.ref r0, .ref h1, .ref o0, .ref m1, .int (nI q.rs), .int (nI q.vc), .int 1, .int q.bw])), (m1, .inl (x9, 401, .inl q.wy))] U.heap ∧ va_K (dC, dI) vwCl [(x9, .boolean)] U ∧ va_D (fun _ => True) [(b0, .inr (6, [.ref r0, .ref h1, .ref o0, .ref m1, .int (nI q.rs), .int (nI q.vc), .int 1, .int q.bw])), (m1, .inl (x9, 401, .inl q.wy))])) (va_Qi (fun (r : Int32) (r9 : Int32) => r = r9) (fun (r9 : Int32) t => r9 = 1 ∧ va_P (dC, dI) vwCl [(b0, .inr (6, [.ref r0, .ref h1, .ref o0, .ref m1, .int (nI q.rs), .int (nI q.vc), .int 1, .int q.bw])), (m1, .inl (x9, 401, .inl q.wy))] t.heap ∧ va_K (dC, dI) vwCl [(x9, .boolean)] t ∧ va_D (va_A [(b0, .inr (6, [.ref r0, .ref h1, .ref o0, .ref m1, .int (nI q.rs), .int (nI q.vc), .int 1, .int q.bw])), (m1, .inl (x9, 401, .inl q.wy))] sz) [(b0, .inr (6, [.ref r0, .ref h1, .ref o0, .ref m1, .int (nI q.rs), .int (nI q.vc), .int 1, .int q.bw])), (m1, .inl (x9, 401, .inl q.wy))]) (va_A [(b0, .inr (6, [.ref r0, .ref h1, .ref o0, .ref m1, .int (nI q.rs), .int (nI q.vc), .int 1, .int q.bw])), (m1, .inl (x9, 401, .inl q.wy))] sz)) (0) (0) (va_A [(b0, .inr (6, [.ref r0, .ref h1, .ref o0, .ref m1, .int (nI q.rs), .int (nI q.vc), .int 1, .int q.bw])), (m1, .inl (x9, 401, .inl q.wy))] sz) := by
  refine Met.ofW (cc := prog_1_method_6_code) (maxL := 2) (ret := (some .boolean)) (by decide) rfl ?_
  intro p e s m args below meth c s₁ B hml hv
  obtain ⟨rfl, hsz, hP, hK, hD0⟩ := hv
  have hx := B.exec
  have hb := B.bytes
  have hr := B.returns
  have hw : ∀ w ∈ bg_W, w.before #[Value.ref b0, Value.int (nI n0)] s = true := fun w h => atoms_spec (ws := (wq y_Cs_value prog_1_method_6_code 2 (some .boolean))) B.pre w (List.mem_cons_of_mem _ h)
  have hown : s.vm.findClass R_Cs = some m.cls := findClass_of_methodNamed B.named
  have hlocks := B.notSynchronized
  subst hsz
  have hD := hD0.self (sz := s.heap.size)
  generalize hAe : va_A [(b0, .inr (6, [.ref r0, .ref h1, .ref o0, .ref m1, .int (nI q.rs), .int (nI q.vc), .int 1, .int q.bw])), (m1, .inl (x9, 401, .inl q.wy))] s.heap.size = A at hD ⊢
  have hA : ∀ q : Nat, s.heap.size ≤ q → A q := fun q h => by rw [← hAe]; exact Or.inr h
  have hS : va_S A s.heap s.heap [] := va_S.rf
  have hP : va_P (dC, dI) vwCl [(b0, .inr (6, [.ref r0, .ref h1, .ref o0, .ref m1, .int (nI q.rs), .int (nI q.vc), .int 1, .int q.bw])), (m1, .inl (x9, 401, .inl q.wy))] s.heap := hP
  have hl := lv_entry ([.ref b0, .int (nI n0)]) (n := 2) (Nat.le_of_ble_eq_true rfl)
  rw [lg_entry_eq]
  generalize (lg_sl ([.ref b0, .int (nI n0)]) ++ List.replicate (2 - (lg_sl ([.ref b0, .int (nI n0)])).length) Slot.unset).toArray = ls at hl ⊢
  have hl : lv_has ls 2 [(0, .ref b0), (1, .int (nI n0))] := hl
  obtain ⟨H, hH⟩ : ∃ H : Heap, H = s.heap := ⟨_, rfl⟩
  rw [← hH] at hP
  have hS : va_S A s.heap H [] := by rw [hH]; exact va_S.rf
  show W p l e _ s m _ below meth c s.heap [] 0 0 _ _
  rw [← hH]
  refine lv_iload_n hx hb d_Cs_value_0 rfl (lv_at hl 1 rfl) ?_
  refine lv_iconst (v := nI 1) hx hb d_Cs_value_1 (by decide) ?_
  refine lv_icmp_lt (tgt := 13) hx hb d_Cs_value_2 (by decide) (fun c_2 => by exfalso; have c_2 : n0 < 1 := (nI_ltI (a := n0) (b := 1) (by omega) (by omega)).mp c_2; omega) (fun c_2 => ?_)
  have c_2 : ¬ (n0 < 1) := fun qq9 => c_2 ((nI_ltI (a := n0) (b := 1) (by omega) (by omega)).mpr qq9)
  refine lv_iload_n hx hb d_Cs_value_5 rfl (lv_at hl 1 rfl) ?_
  refine lv_aload_n hx hb d_Cs_value_6 rfl (lv_at hl 0 rfl) ?_
  refine va_get (D := (dC, dI)) (ci := 6) (v := .int (nI q.vc)) (C := R_Cs) (T := F_Cs) (N := 8) hx hb hw in_Cs hown hK hP 0 rfl rfl 5 (by decide) (hw (Cond.fieldLink "ClauseSearch" 43 "ClauseSearch" "variableCount" "I") k_260) (fun _ h9 => h9) rfl d_Cs_value_7 ?_
  refine lv_icmp_le (tgt := 23) hx hb d_Cs_value_10 (by decide) (fun c_10 => ?_) (fun c_10 => by exfalso; have c_10 : ¬ (n0 ≤ q.vc) := fun qq9 => c_10 ((nI_leI (a := n0) (b := q.vc) (by omega) (by omega)).mpr qq9); omega)
  have c_10 : n0 ≤ q.vc := (nI_leI (a := n0) (b := q.vc) (by omega) (by omega)).mp c_10
  refine lv_aload_n hx hb d_Cs_value_23 rfl (lv_at hl 0 rfl) ?_
  refine va_get (D := (dC, dI)) (ci := 6) (v := .int 1) (C := R_Cs) (T := F_Cs) (N := 8) hx hb hw in_Cs hown hK hP 0 rfl rfl 6 (by decide) (hw (Cond.fieldLink "ClauseSearch" 52 "ClauseSearch" "wayStands" "Z") k_261) (fun _ h9 => h9) rfl d_Cs_value_24 ?_
  refine lv_if_ne (tgt := 40) hx hb d_Cs_value_27 (by decide) (fun c_27 => ?_) (fun c_27 => absurd c_27 (by decide))
  refine lv_aload_n hx hb d_Cs_value_40 rfl (lv_at hl 0 rfl) ?_
  refine va_get (D := (dC, dI)) (ci := 6) (v := .ref m1) (C := R_Cs) (T := F_Cs) (N := 8) hx hb hw in_Cs hown hK hP 0 rfl rfl 3 (by decide) (hw (Cond.fieldLink "ClauseSearch" 32 "ClauseSearch" "way" "[Z") k_258) (fun _ h9 => h9) rfl d_Cs_value_41 ?_
  refine lv_iload_n hx hb d_Cs_value_44 rfl (lv_at hl 1 rfl) ?_
  refine va_zald hx hb hK hP 1 0 rfl rfl (vp_in_nI (by omega) (by omega)) d_Cs_value_45 ?_
  refine lv_topi (fun y_1 ey_1 => ?_)
  rw [nI_clamp (by omega)] at ey_1
  rw [hwv] at ey_1
  subst ey_1
  have hK := hK.sub (tys' := [(x9, .boolean)]) [0] rfl
  refine W.widen (k := 0) (n := 0) (by decide) (by decide) ?_
  exact W.zret (v := 1) hx hb hr rfl (fun t ht hW => ⟨⟨1, 1, rfl, rfl, rfl, by rw [ht]; exact hP, va_K.moved hW.alike hK, hD⟩, hS.F ht⟩) hS.2.2 d_Cs_value_46
