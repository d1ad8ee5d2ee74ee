abbrev y_Md_thrown : MethodName := ⟨"ClauseSearchModel", "thrown", "()I"⟩
abbrev y_Md_good : MethodName := ⟨"ClauseSearchModel", "good", "(ZI)Z"⟩
abbrev y_Md_variables : MethodName := ⟨"ClauseSearchModel", "variables", "(I)I"⟩
abbrev y_Md_give : MethodName := ⟨"ClauseSearchModel", "give", "(I)I"⟩
abbrev y_Md_clause : MethodName := ⟨"ClauseSearchModel", "clause", "()I"⟩
abbrev y_Md_value : MethodName := ⟨"ClauseSearchModel", "value", "(I)Z"⟩
abbrev y_Md_count : MethodName := ⟨"ClauseSearchModel", "count", "(I)I"⟩
theorem k_21 : (Cond.selects "ClauseSearchModel" ⟨"ClauseSearchModel", "good", "(ZI)Z"⟩ ⟨"ClauseSearchModel", "good", "(ZI)Z"⟩) ∈ bg_W := bg_in 21 (by decide +kernel) (by decide +kernel)
theorem k_37 : (Cond.initialized "ClauseSearchModel") ∈ bg_W := bg_in 37 (by decide +kernel) (by decide +kernel)
theorem k_609 : (Cond.fieldLink "ClauseSearchModel" 43 "ClauseSearchModel" "variables" "I") ∈ bg_W := bg_in 609 (by decide +kernel) (by decide +kernel)
theorem k_610 : (Cond.fieldLink "ClauseSearchModel" 53 "ClauseSearchModel" "clauses" "I") ∈ bg_W := bg_in 610 (by decide +kernel) (by decide +kernel)
theorem k_611 : (Cond.fieldLink "ClauseSearchModel" 50 "ClauseSearchModel" "given" "I") ∈ bg_W := bg_in 611 (by decide +kernel) (by decide +kernel)
theorem k_613 : (Cond.fieldLink "ClauseSearchModel" 46 "ClauseSearchModel" "stands" "Z") ∈ bg_W := bg_in 613 (by decide +kernel) (by decide +kernel)
theorem k_614 : (Cond.fieldLink "ClauseSearchModel" 35 "ClauseSearchModel" "code" "I") ∈ bg_W := bg_in 614 (by decide +kernel) (by decide +kernel)
theorem k_658 : (Cond.methodLink "ClauseSearchModel" 39 ⟨"ClauseSearchModel", "good", "(ZI)Z"⟩) ∈ bg_W := bg_in 658 (by decide +kernel) (by decide +kernel)
theorem k_660 : (Cond.instanceMethod ⟨"ClauseSearchModel", "good", "(ZI)Z"⟩) ∈ bg_W := bg_in 660 (by decide +kernel) (by decide +kernel)
theorem k_661 : (Cond.code ⟨"ClauseSearchModel", "good", "(ZI)Z"⟩ prog_9_method_3_code 3 (some .boolean)) ∈ bg_W := bg_in 661 (by decide +kernel) (by decide +kernel)
theorem d_Md_thrown_0 : decode prog_9_method_2_code 0 = .ok (.aload_n 0, 1) := by decide +kernel
theorem d_Md_thrown_1 : decode prog_9_method_2_code 1 = .ok (.getfield 35, 3) := by decide +kernel
theorem d_Md_thrown_4 : decode prog_9_method_2_code 4 = .ok (.ireturn, 1) := by decide +kernel
theorem d_Md_good_0 : decode prog_9_method_3_code 0 = .ok (.aload_n 0, 1) := by decide +kernel
theorem d_Md_good_1 : decode prog_9_method_3_code 1 = .ok (.iload_n 1, 1) := by decide +kernel
theorem d_Md_good_2 : decode prog_9_method_3_code 2 = .ok (.ifCond .eq 7, 3) := by decide +kernel
theorem d_Md_good_5 : decode prog_9_method_3_code 5 = .ok (.iconst 0, 1) := by decide +kernel
theorem d_Md_good_6 : decode prog_9_method_3_code 6 = .ok (.goto 4, 3) := by decide +kernel
theorem d_Md_good_10 : decode prog_9_method_3_code 10 = .ok (.putfield 35, 3) := by decide +kernel
theorem d_Md_good_13 : decode prog_9_method_3_code 13 = .ok (.iload_n 1, 1) := by decide +kernel
theorem d_Md_good_14 : decode prog_9_method_3_code 14 = .ok (.ireturn, 1) := by decide +kernel
theorem d_Md_good_9 : decode prog_9_method_3_code 9 = .ok (.iload_n 2, 1) := by decide +kernel
theorem d_Md_variables_0 : decode prog_9_method_4_code 0 = .ok (.aload_n 0, 1) := by decide +kernel
theorem d_Md_variables_1 : decode prog_9_method_4_code 1 = .ok (.iload_n 1, 1) := by decide +kernel
theorem d_Md_variables_2 : decode prog_9_method_4_code 2 = .ok (.iconst 1, 1) := by decide +kernel
theorem d_Md_variables_3 : decode prog_9_method_4_code 3 = .ok (.if_icmp .lt 14, 3) := by decide +kernel
theorem d_Md_variables_17 : decode prog_9_method_4_code 17 = .ok (.iconst 0, 1) := by decide +kernel
theorem d_Md_variables_18 : decode prog_9_method_4_code 18 = .ok (.iconst 1, 1) := by decide +kernel
theorem d_Md_variables_19 : decode prog_9_method_4_code 19 = .ok (.invokevirtual 39, 3) := by decide +kernel
theorem d_Md_variables_22 : decode prog_9_method_4_code 22 = .ok (.ifCond .eq 28, 3) := by decide +kernel
theorem d_Md_variables_50 : decode prog_9_method_4_code 50 = .ok (.iconst 0, 1) := by decide +kernel
theorem d_Md_variables_51 : decode prog_9_method_4_code 51 = .ok (.ireturn, 1) := by decide +kernel
theorem d_Md_variables_6 : decode prog_9_method_4_code 6 = .ok (.iload_n 1, 1) := by decide +kernel
theorem d_Md_variables_7 : decode prog_9_method_4_code 7 = .ok (.sipush 400, 3) := by decide +kernel
theorem d_Md_variables_10 : decode prog_9_method_4_code 10 = .ok (.if_icmp .gt 7, 3) := by decide +kernel
theorem d_Md_variables_13 : decode prog_9_method_4_code 13 = .ok (.iconst 1, 1) := by decide +kernel
theorem d_Md_variables_14 : decode prog_9_method_4_code 14 = .ok (.goto 4, 3) := by decide +kernel
theorem d_Md_variables_25 : decode prog_9_method_4_code 25 = .ok (.aload_n 0, 1) := by decide +kernel
theorem d_Md_variables_26 : decode prog_9_method_4_code 26 = .ok (.aload_n 0, 1) := by decide +kernel
theorem d_Md_variables_27 : decode prog_9_method_4_code 27 = .ok (.getfield 43, 3) := by decide +kernel
theorem d_Md_variables_30 : decode prog_9_method_4_code 30 = .ok (.iload_n 1, 1) := by decide +kernel
theorem d_Md_variables_31 : decode prog_9_method_4_code 31 = .ok (.iadd, 1) := by decide +kernel
theorem d_Md_variables_32 : decode prog_9_method_4_code 32 = .ok (.sipush 400, 3) := by decide +kernel
theorem d_Md_variables_35 : decode prog_9_method_4_code 35 = .ok (.if_icmp .gt 7, 3) := by decide +kernel
theorem d_Md_variables_38 : decode prog_9_method_4_code 38 = .ok (.iconst 1, 1) := by decide +kernel
theorem d_Md_variables_39 : decode prog_9_method_4_code 39 = .ok (.goto 4, 3) := by decide +kernel
theorem d_Md_variables_43 : decode prog_9_method_4_code 43 = .ok (.iconst 2, 1) := by decide +kernel
theorem d_Md_variables_44 : decode prog_9_method_4_code 44 = .ok (.invokevirtual 39, 3) := by decide +kernel
theorem d_Md_variables_47 : decode prog_9_method_4_code 47 = .ok (.ifCond .ne 5, 3) := by decide +kernel
theorem d_Md_variables_52 : decode prog_9_method_4_code 52 = .ok (.aload_n 0, 1) := by decide +kernel
theorem d_Md_variables_53 : decode prog_9_method_4_code 53 = .ok (.dup, 1) := by decide +kernel
theorem d_Md_variables_54 : decode prog_9_method_4_code 54 = .ok (.getfield 43, 3) := by decide +kernel
theorem d_Md_variables_57 : decode prog_9_method_4_code 57 = .ok (.iload_n 1, 1) := by decide +kernel
theorem d_Md_variables_58 : decode prog_9_method_4_code 58 = .ok (.iadd, 1) := by decide +kernel
theorem d_Md_variables_59 : decode prog_9_method_4_code 59 = .ok (.putfield 43, 3) := by decide +kernel
theorem d_Md_variables_62 : decode prog_9_method_4_code 62 = .ok (.aload_n 0, 1) := by decide +kernel
theorem d_Md_variables_63 : decode prog_9_method_4_code 63 = .ok (.iconst 0, 1) := by decide +kernel
theorem d_Md_variables_64 : decode prog_9_method_4_code 64 = .ok (.putfield 46, 3) := by decide +kernel
theorem d_Md_variables_67 : decode prog_9_method_4_code 67 = .ok (.aload_n 0, 1) := by decide +kernel
theorem d_Md_variables_68 : decode prog_9_method_4_code 68 = .ok (.getfield 43, 3) := by decide +kernel
theorem d_Md_variables_71 : decode prog_9_method_4_code 71 = .ok (.ireturn, 1) := by decide +kernel
theorem d_Md_give_0 : decode prog_9_method_5_code 0 = .ok (.iload_n 1, 1) := by decide +kernel
theorem d_Md_give_1 : decode prog_9_method_5_code 1 = .ok (.ifCond .eq 24, 3) := by decide +kernel
theorem d_Md_give_25 : decode prog_9_method_5_code 25 = .ok (.iconst 0, 1) := by decide +kernel
theorem d_Md_give_26 : decode prog_9_method_5_code 26 = .ok (.istore_n 2, 1) := by decide +kernel
theorem d_Md_give_27 : decode prog_9_method_5_code 27 = .ok (.aload_n 0, 1) := by decide +kernel
theorem d_Md_give_28 : decode prog_9_method_5_code 28 = .ok (.iload_n 2, 1) := by decide +kernel
theorem d_Md_give_29 : decode prog_9_method_5_code 29 = .ok (.iconst 1, 1) := by decide +kernel
theorem d_Md_give_30 : decode prog_9_method_5_code 30 = .ok (.invokevirtual 39, 3) := by decide +kernel
theorem d_Md_give_33 : decode prog_9_method_5_code 33 = .ok (.ifCond .eq 25, 3) := by decide +kernel
theorem d_Md_give_58 : decode prog_9_method_5_code 58 = .ok (.iconst 0, 1) := by decide +kernel
theorem d_Md_give_59 : decode prog_9_method_5_code 59 = .ok (.ireturn, 1) := by decide +kernel
theorem d_Md_give_4 : decode prog_9_method_5_code 4 = .ok (.iload_n 1, 1) := by decide +kernel
theorem d_Md_give_5 : decode prog_9_method_5_code 5 = .ok (.aload_n 0, 1) := by decide +kernel
theorem d_Md_give_6 : decode prog_9_method_5_code 6 = .ok (.getfield 43, 3) := by decide +kernel
theorem d_Md_give_9 : decode prog_9_method_5_code 9 = .ok (.ineg, 1) := by decide +kernel
theorem d_Md_give_10 : decode prog_9_method_5_code 10 = .ok (.if_icmp .lt 15, 3) := by decide +kernel
theorem d_Md_give_13 : decode prog_9_method_5_code 13 = .ok (.iload_n 1, 1) := by decide +kernel
theorem d_Md_give_14 : decode prog_9_method_5_code 14 = .ok (.aload_n 0, 1) := by decide +kernel
theorem d_Md_give_15 : decode prog_9_method_5_code 15 = .ok (.getfield 43, 3) := by decide +kernel
theorem d_Md_give_18 : decode prog_9_method_5_code 18 = .ok (.if_icmp .gt 7, 3) := by decide +kernel
theorem d_Md_clause_0 : decode prog_9_method_6_code 0 = .ok (.aload_n 0, 1) := by decide +kernel
theorem d_Md_clause_1 : decode prog_9_method_6_code 1 = .ok (.aload_n 0, 1) := by decide +kernel
theorem d_Md_clause_2 : decode prog_9_method_6_code 2 = .ok (.getfield 50, 3) := by decide +kernel
theorem d_Md_clause_5 : decode prog_9_method_6_code 5 = .ok (.ifCond .le 7, 3) := by decide +kernel
theorem d_Md_clause_12 : decode prog_9_method_6_code 12 = .ok (.iconst 0, 1) := by decide +kernel
theorem d_Md_clause_13 : decode prog_9_method_6_code 13 = .ok (.iconst 1, 1) := by decide +kernel
theorem d_Md_clause_14 : decode prog_9_method_6_code 14 = .ok (.invokevirtual 39, 3) := by decide +kernel
theorem d_Md_clause_17 : decode prog_9_method_6_code 17 = .ok (.ifCond .eq 26, 3) := by decide +kernel
theorem d_Md_clause_43 : decode prog_9_method_6_code 43 = .ok (.iconst 0, 1) := by decide +kernel
theorem d_Md_clause_44 : decode prog_9_method_6_code 44 = .ok (.ireturn, 1) := by decide +kernel
theorem d_Md_value_0 : decode prog_9_method_14_code 0 = .ok (.aload_n 0, 1) := by decide +kernel
theorem d_Md_value_1 : decode prog_9_method_14_code 1 = .ok (.iload_n 1, 1) := by decide +kernel
theorem d_Md_value_2 : decode prog_9_method_14_code 2 = .ok (.iconst 1, 1) := by decide +kernel
theorem d_Md_value_3 : decode prog_9_method_14_code 3 = .ok (.if_icmp .lt 15, 3) := by decide +kernel
theorem d_Md_value_18 : decode prog_9_method_14_code 18 = .ok (.iconst 0, 1) := by decide +kernel
theorem d_Md_value_19 : decode prog_9_method_14_code 19 = .ok (.iconst 1, 1) := by decide +kernel
theorem d_Md_value_20 : decode prog_9_method_14_code 20 = .ok (.invokevirtual 39, 3) := by decide +kernel
theorem d_Md_value_23 : decode prog_9_method_14_code 23 = .ok (.ifCond .eq 15, 3) := by decide +kernel
theorem d_Md_value_38 : decode prog_9_method_14_code 38 = .ok (.iconst 0, 1) := by decide +kernel
theorem d_Md_value_39 : decode prog_9_method_14_code 39 = .ok (.ireturn, 1) := by decide +kernel
theorem d_Md_value_6 : decode prog_9_method_14_code 6 = .ok (.iload_n 1, 1) := by decide +kernel
theorem d_Md_value_7 : decode prog_9_method_14_code 7 = .ok (.aload_n 0, 1) := by decide +kernel
theorem d_Md_value_8 : decode prog_9_method_14_code 8 = .ok (.getfield 43, 3) := by decide +kernel
theorem d_Md_value_11 : decode prog_9_method_14_code 11 = .ok (.if_icmp .gt 7, 3) := by decide +kernel
theorem d_Md_count_0 : decode prog_9_method_15_code 0 = .ok (.aload_n 0, 1) := by decide +kernel
theorem d_Md_count_1 : decode prog_9_method_15_code 1 = .ok (.iload_n 1, 1) := by decide +kernel
theorem d_Md_count_2 : decode prog_9_method_15_code 2 = .ok (.ifCond .lt 12, 3) := by decide +kernel
theorem d_Md_count_14 : decode prog_9_method_15_code 14 = .ok (.iconst 0, 1) := by decide +kernel
theorem d_Md_count_15 : decode prog_9_method_15_code 15 = .ok (.iconst 1, 1) := by decide +kernel
theorem d_Md_count_16 : decode prog_9_method_15_code 16 = .ok (.invokevirtual 39, 3) := by decide +kernel
theorem d_Md_count_19 : decode prog_9_method_15_code 19 = .ok (.ifCond .ne 5, 3) := by decide +kernel
theorem d_Md_count_22 : decode prog_9_method_15_code 22 = .ok (.iconst 0, 1) := by decide +kernel
theorem d_Md_count_23 : decode prog_9_method_15_code 23 = .ok (.ireturn, 1) := by decide +kernel
theorem d_Md_count_5 : decode prog_9_method_15_code 5 = .ok (.iload_n 1, 1) := by decide +kernel
theorem d_Md_count_6 : decode prog_9_method_15_code 6 = .ok (.iconst 5, 1) := by decide +kernel
theorem d_Md_count_7 : decode prog_9_method_15_code 7 = .ok (.if_icmp .gt 7, 3) := by decide +kernel
theorem d_Md_count_10 : decode prog_9_method_15_code 10 = .ok (.iconst 1, 1) := by decide +kernel
theorem d_Md_count_11 : decode prog_9_method_15_code 11 = .ok (.goto 4, 3) := by decide +kernel
theorem d_Md_count_24 : decode prog_9_method_15_code 24 = .ok (.iload_n 1, 1) := by decide +kernel
theorem d_Md_count_25 : decode prog_9_method_15_code 25 = .ok (.ifCond .ne 10, 3) := by decide +kernel
theorem d_Md_count_35 : decode prog_9_method_15_code 35 = .ok (.iload_n 1, 1) := by decide +kernel
theorem d_Md_count_36 : decode prog_9_method_15_code 36 = .ok (.iconst 1, 1) := by decide +kernel
theorem d_Md_count_37 : decode prog_9_method_15_code 37 = .ok (.if_icmp .ne 10, 3) := by decide +kernel
theorem d_Md_count_47 : decode prog_9_method_15_code 47 = .ok (.iload_n 1, 1) := by decide +kernel
theorem d_Md_count_48 : decode prog_9_method_15_code 48 = .ok (.iconst 2, 1) := by decide +kernel
theorem d_Md_count_49 : decode prog_9_method_15_code 49 = .ok (.if_icmp .ne 10, 3) := by decide +kernel
theorem d_Md_count_59 : decode prog_9_method_15_code 59 = .ok (.iload_n 1, 1) := by decide +kernel
theorem d_Md_count_60 : decode prog_9_method_15_code 60 = .ok (.iconst 3, 1) := by decide +kernel
theorem d_Md_count_61 : decode prog_9_method_15_code 61 = .ok (.if_icmp .ne 14, 3) := by decide +kernel
theorem d_Md_count_75 : decode prog_9_method_15_code 75 = .ok (.iconst 0, 1) := by decide +kernel
theorem d_Md_count_76 : decode prog_9_method_15_code 76 = .ok (.ireturn, 1) := by decide +kernel
theorem d_Md_count_64 : decode prog_9_method_15_code 64 = .ok (.aload_n 0, 1) := by decide +kernel
theorem d_Md_count_65 : decode prog_9_method_15_code 65 = .ok (.getfield 46, 3) := by decide +kernel
theorem d_Md_count_68 : decode prog_9_method_15_code 68 = .ok (.ifCond .eq 7, 3) := by decide +kernel
theorem d_Md_count_52 : decode prog_9_method_15_code 52 = .ok (.aload_n 0, 1) := by decide +kernel
theorem d_Md_count_53 : decode prog_9_method_15_code 53 = .ok (.getfield 50, 3) := by decide +kernel
theorem d_Md_count_56 : decode prog_9_method_15_code 56 = .ok (.goto 20, 3) := by decide +kernel
theorem d_Md_count_40 : decode prog_9_method_15_code 40 = .ok (.aload_n 0, 1) := by decide +kernel
theorem d_Md_count_41 : decode prog_9_method_15_code 41 = .ok (.getfield 53, 3) := by decide +kernel
theorem d_Md_count_44 : decode prog_9_method_15_code 44 = .ok (.goto 32, 3) := by decide +kernel
theorem d_Md_count_28 : decode prog_9_method_15_code 28 = .ok (.aload_n 0, 1) := by decide +kernel
theorem d_Md_count_29 : decode prog_9_method_15_code 29 = .ok (.getfield 43, 3) := by decide +kernel
theorem d_Md_count_32 : decode prog_9_method_15_code 32 = .ok (.goto 44, 3) := by decide +kernel
set_option maxHeartbeats 4000000 in
set_option maxRecDepth 100000 in
/-- thrown() -/
theorem c_Md_thrown (l : Launch) (dC : Nat → ClassId) (dI : Nat → Nat → Nat) (m0 : Nat) (j0 : Nat) (j1 : Nat) (j2 : Nat) (j3 : Nat) (j4 : Nat) (j5 : Nat) (j6 : Nat) (j7 : Nat) (sz : Nat) (ev : Int32) (ec : Int32) (eg : Int32) (ea : Int32) (es : Int32) (eo : Int32) (el : Int32) : Met l y_Md_thrown (wq y_Md_thrown prog_9_method_2_code 1 (some .int)) ({ frames := 0, cells := 0, slots := 0, locals := 0 }) (va_Pc [.ref m0] (fun U => U.heap.size = sz ∧ va_P (dC, dI) vwCl [(m0, .inr (7, [.ref j0, .ref j1, .ref j2, .ref j3, .ref j4, .int ev, .int ec, .int eg, .int ea, .int es, .int eo, .ref j5, .int el, .ref j6, .ref j7]))] U.heap ∧ va_K (dC, dI) vwCl [] U ∧ va_D (fun _ => True) [(m0, .inr (7, [.ref j0, .ref j1, .ref j2, .ref j3, .ref j4, .int ev, .int ec, .int eg, .int ea, .int es, .int eo, .ref j5, .int el, .ref j6, .ref j7]))])) (va_Qi (fun (r : Int32) (_ : Unit) => r = eo) (fun (_ : Unit) t => va_P (dC, dI) vwCl [(m0, .inr (7, [.ref j0, .ref j1, .ref j2, .ref j3, .ref j4, .int ev, .int ec, .int eg, .int ea, .int es, .int eo, .ref j5, .int el, .ref j6, .ref j7]))] t.heap ∧ va_K (dC, dI) vwCl [] t ∧ va_D (va_A [(m0, .inr (7, [.ref j0, .ref j1, .ref j2, .ref j3, .ref j4, .int ev, .int ec, .int eg, .int ea, .int es, .int eo, .ref j5, .int el, .ref j6, .ref j7]))] sz) [(m0, .inr (7, [.ref j0, .ref j1, .ref j2, .ref j3, .ref j4, .int ev, .int ec, .int eg, .int ea, .int es, .int eo, .ref j5, .int el, .ref j6, .ref j7]))]) (va_A [(m0, .inr (7, [.ref j0, .ref j1, .ref j2, .ref j3, .ref j4, .int ev, .int ec, .int eg, .int ea, .int es, .int eo, .ref j5, .int el, .ref j6, .ref j7]))] sz)) 0 0 (va_A [(m0, .inr (7, [.ref j0, .ref j1, .ref j2, .ref j3, .ref j4, .int ev, .int ec, .int eg, .int ea, .int es, .int eo, .ref j5, .int el, .ref j6, .ref j7]))] sz) := by
  refine Met.ofW (cc := prog_9_method_2_code) (maxL := 1) (ret := (some .int)) (by decide) rfl ?_
  intro p e s m args below meth c s₁ B hml hv
  obtain ⟨rfl, hsz, hP, hK, hD0⟩ := hv
  have hx := B.exec
  have hb := B.bytes
  have hr := B.returns
  have hw : ∀ w ∈ bg_W, w.before #[Value.ref m0] s = true := fun w h => atoms_spec (ws := (wq y_Md_thrown prog_9_method_2_code 1 (some .int))) B.pre w (List.mem_cons_of_mem _ h)
  have hown : s.vm.findClass R_Md = some m.cls := findClass_of_methodNamed B.named
  have hlocks := B.notSynchronized
  subst hsz
  have hD := hD0.self (sz := s.heap.size)
  generalize hAe : va_A [(m0, .inr (7, [.ref j0, .ref j1, .ref j2, .ref j3, .ref j4, .int ev, .int ec, .int eg, .int ea, .int es, .int eo, .ref j5, .int el, .ref j6, .ref j7]))] s.heap.size = A at hD ⊢
  have hA : ∀ q : Nat, s.heap.size ≤ q → A q := fun q h => by rw [← hAe]; exact Or.inr h
  have hS : va_S A s.heap s.heap [] := va_S.rf
  have hP : va_P (dC, dI) vwCl [(m0, .inr (7, [.ref j0, .ref j1, .ref j2, .ref j3, .ref j4, .int ev, .int ec, .int eg, .int ea, .int es, .int eo, .ref j5, .int el, .ref j6, .ref j7]))] s.heap := hP
  have hl := lv_entry ([.ref m0]) (n := 1) (Nat.le_of_ble_eq_true rfl)
  rw [lg_entry_eq]
  generalize (lg_sl ([.ref m0]) ++ List.replicate (1 - (lg_sl ([.ref m0])).length) Slot.unset).toArray = ls at hl ⊢
  have hl : lv_has ls 1 [(0, .ref m0)] := hl
  obtain ⟨H, hH⟩ : ∃ H : Heap, H = s.heap := ⟨_, rfl⟩
  rw [← hH] at hP
  have hS : va_S A s.heap H [] := by rw [hH]; exact va_S.rf
  show W p l e _ s m _ below meth c s.heap [] 0 0 _ _
  rw [← hH]
  refine lv_aload_n hx hb d_Md_thrown_0 rfl (lv_at hl 0 rfl) ?_
  refine va_get (D := (dC, dI)) (ci := 7) (v := .int eo) (C := R_Md) (T := F_Md) (N := 15) hx hb hw in_Md hown hK hP 0 rfl rfl 10 (by decide) (hw (Cond.fieldLink "ClauseSearchModel" 35 "ClauseSearchModel" "code" "I") k_614) (fun _ h9 => h9) rfl d_Md_thrown_1 ?_
  refine W.widen (k := 0) (n := 0) (by decide) (by decide) ?_
  exact W.iret (v := eo) hx hb hr (fun t ht hW => ⟨⟨eo, (), rfl, rfl, by rw [ht]; exact hP, va_K.moved hW.alike hK, hD⟩, hS.F ht⟩) hS.2.2 d_Md_thrown_4

set_option maxHeartbeats 4000000 in
set_option maxRecDepth 100000 in
/-- good(true, c) -/
theorem c_Md_good_1 (l : Launch) (dC : Nat → ClassId) (dI : Nat → Nat → Nat) (m0 : Nat) (j0 : Nat) (j1 : Nat) (j2 : Nat) (j3 : Nat) (j4 : Nat) (j5 : Nat) (j6 : Nat) (j7 : Nat) (sz : Nat) (ev : Int32) (ec : Int32) (eg : Int32) (ea : Int32) (es : Int32) (eo : Int32) (el : Int32) (pc : Int32) : Met l y_Md_good (wq y_Md_good prog_9_method_3_code 3 (some .boolean)) ({ frames := 0, cells := 0, slots := 0, locals := 0 }) (va_Pc [.ref m0, .int 1, .int pc] (fun U => U.heap.size = sz ∧ va_P (dC, dI) vwCl [(m0, .inr (7, [.ref j0, .ref j1, .ref j2, .ref j3, .ref j4, .int ev, .int ec, .int eg, .int ea, .int es, .int eo, .ref j5, .int el, .ref j6, .ref j7]))] U.heap ∧ va_K (dC, dI) vwCl [] U ∧ va_D (fun _ => True) [(m0, .inr (7, [.ref j0, .ref j1, .ref j2, .ref j3, .ref j4, .int ev, .int ec, .int eg, .int ea, .int es, .int eo, .ref j5, .int el, .ref j6, .ref j7]))])) (va_Qi (fun (r : Int32) (_ : Unit) => r = 1) (fun (_ : Unit) t => va_P (dC, dI) vwCl [(m0, .inr (7, [.ref j0, .ref j1, .ref j2, .ref j3, .ref j4, .int ev, .int ec, .int eg, .int ea, .int es, .int 0, .ref j5, .int el, .ref j6, .ref j7]))] t.heap ∧ va_K (dC, dI) vwCl [] t ∧ va_D (va_A [(m0, .inr (7, [.ref j0, .ref j1, .ref j2, .ref j3, .ref j4, .int ev, .int ec, .int eg, .int ea, .int es, .int eo, .ref j5, .int el, .ref j6, .ref j7]))] sz) [(m0, .inr (7, [.ref j0, .ref j1, .ref j2, .ref j3, .ref j4, .int ev, .int ec, .int eg, .int ea, .int es, .int 0, .ref j5, .int el, .ref j6, .ref j7]))]) (va_A [(m0, .inr (7, [.ref j0, .ref j1, .ref j2, .ref j3, .ref j4, .int ev, .int ec, .int eg, .int ea, .int es, .int eo, .ref j5, .int el, .ref j6, .ref j7]))] sz)) 0 0 (va_A [(m0, .inr (7, [.ref j0, .ref j1, .ref j2, .ref j3, .ref j4, .int ev, .int ec, .int eg, .int ea, .int es, .int eo, .ref j5, .int el, .ref j6, .ref j7]))] sz) := by
  refine Met.ofW (cc := prog_9_method_3_code) (maxL := 3) (ret := (some .boolean)) (by decide) rfl ?_
  intro p e s m args below meth c s₁ B hml hv
  obtain ⟨rfl, hsz, hP, hK, hD0⟩ := hv
  have hx := B.exec
  have hb := B.bytes
  have hr := B.returns
  have hw : ∀ w ∈ bg_W, w.before #[Value.ref m0, Value.int 1, Value.int pc] s = true := fun w h => atoms_spec (ws := (wq y_Md_good prog_9_method_3_code 3 (some .boolean))) B.pre w (List.mem_cons_of_mem _ h)
  have hown : s.vm.findClass R_Md = some m.cls := findClass_of_methodNamed B.named
  have hlocks := B.notSynchronized
  subst hsz
  have hD := hD0.self (sz := s.heap.size)
  generalize hAe : va_A [(m0, .inr (7, [.ref j0, .ref j1, .ref j2, .ref j3, .ref j4, .int ev, .int ec, .int eg, .int ea, .int es, .int eo, .ref j5, .int el, .ref j6, .ref j7]))] s.heap.size = A at hD ⊢
  have hA : ∀ q : Nat, s.heap.size ≤ q → A q := fun q h => by rw [← hAe]; exact Or.inr h
  have hS : va_S A s.heap s.heap [] := va_S.rf
  have hP : va_P (dC, dI) vwCl [(m0, .inr (7, [.ref j0, .ref j1, .ref j2, .ref j3, .ref j4, .int ev, .int ec, .int eg, .int ea, .int es, .int eo, .ref j5, .int el, .ref j6, .ref j7]))] s.heap := hP
  have hl := lv_entry ([.ref m0, .int 1, .int pc]) (n := 3) (Nat.le_of_ble_eq_true rfl)
  rw [lg_entry_eq]
  generalize (lg_sl ([.ref m0, .int 1, .int pc]) ++ List.replicate (3 - (lg_sl ([.ref m0, .int 1, .int pc])).length) Slot.unset).toArray = ls at hl ⊢
  have hl : lv_has ls 3 [(0, .ref m0), (1, .int 1), (2, .int pc)] := hl
  obtain ⟨H, hH⟩ : ∃ H : Heap, H = s.heap := ⟨_, rfl⟩
  rw [← hH] at hP
  have hS : va_S A s.heap H [] := by rw [hH]; exact va_S.rf
  show W p l e _ s m _ below meth c s.heap [] 0 0 _ _
  rw [← hH]
  refine lv_aload_n hx hb d_Md_good_0 rfl (lv_at hl 0 rfl) ?_
  refine lv_iload_n hx hb d_Md_good_1 rfl (lv_at hl 1 rfl) ?_
  refine lv_if_eq (tgt := 9) hx hb d_Md_good_2 (by decide) (fun c_2 => absurd c_2 (by decide)) (fun c_2 => ?_)
  refine lv_iconst (v := 0) hx hb d_Md_good_5 (by decide) ?_
  refine lv_goto (tgt := 10) hx hb d_Md_good_6 (by decide) ?_
  refine va_put (D := (dC, dI)) (ci := 7) (v := .int 0) (ty := .int) (C := R_Md) (T := F_Md) (N := 15) hx hb hw in_Md t_Md t_Md_ok n_Md hown hK hP hD hS 0 rfl rfl 10 (by decide) (hw (Cond.fieldLink "ClauseSearchModel" 35 "ClauseSearchModel" "code" "I") k_614) (fun _ h9 => h9) rfl (by decide +kernel) rfl rfl (Nat.le_of_ble_eq_true rfl) d_Md_good_10 (fun H locs hP hD hS => ?_)
  have hP : va_P (dC, dI) vwCl [(m0, .inr (7, [.ref j0, .ref j1, .ref j2, .ref j3, .ref j4, .int ev, .int ec, .int eg, .int ea, .int es, .int 0, .ref j5, .int el, .ref j6, .ref j7]))] H := hP
  have hD : va_D A [(m0, .inr (7, [.ref j0, .ref j1, .ref j2, .ref j3, .ref j4, .int ev, .int ec, .int eg, .int ea, .int es, .int 0, .ref j5, .int el, .ref j6, .ref j7]))] := hD
  refine lv_iload_n hx hb d_Md_good_13 rfl (lv_at hl 1 rfl) ?_
  refine W.widen (k := 0) (n := 0) (by decide) (by decide) ?_
  exact W.zret (v := 1) hx hb hr rfl (fun t ht hW => ⟨⟨1, (), rfl, rfl, by rw [ht]; exact hP, va_K.moved hW.alike hK, hD⟩, hS.F ht⟩) hS.2.2 d_Md_good_14

set_option maxHeartbeats 4000000 in
set_option maxRecDepth 100000 in
/-- good(false, c) -/
theorem c_Md_good_0 (l : Launch) (dC : Nat → ClassId) (dI : Nat → Nat → Nat) (m0 : Nat) (j0 : Nat) (j1 : Nat) (j2 : Nat) (j3 : Nat) (j4 : Nat) (j5 : Nat) (j6 : Nat) (j7 : Nat) (sz : Nat) (ev : Int32) (ec : Int32) (eg : Int32) (ea : Int32) (es : Int32) (eo : Int32) (el : Int32) (pc : Int32) : Met l y_Md_good (wq y_Md_good prog_9_method_3_code 3 (some .boolean)) ({ frames := 0, cells := 0, slots := 0, locals := 0 }) (va_Pc [.ref m0, .int 0, .int pc] (fun U => U.heap.size = sz ∧ va_P (dC, dI) vwCl [(m0, .inr (7, [.ref j0, .ref j1, .ref j2, .ref j3, .ref j4, .int ev, .int ec, .int eg, .int ea, .int es, .int eo, .ref j5, .int el, .ref j6, .ref j7]))] U.heap ∧ va_K (dC, dI) vwCl [] U ∧ va_D (fun _ => True) [(m0, .inr (7, [.ref j0, .ref j1, .ref j2, .ref j3, .ref j4, .int ev, .int ec, .int eg, .int ea, .int es, .int eo, .ref j5, .int el, .ref j6, .ref j7]))])) (va_Qi (fun (r : Int32) (_ : Unit) => r = 0) (fun (_ : Unit) t => va_P (dC, dI) vwCl [(m0, .inr (7, [.ref j0, .ref j1, .ref j2, .ref j3, .ref j4, .int ev, .int ec, .int eg, .int ea, .int es, .int pc, .ref j5, .int el, .ref j6, .ref j7]))] t.heap ∧ va_K (dC, dI) vwCl [] t ∧ va_D (va_A [(m0, .inr (7, [.ref j0, .ref j1, .ref j2, .ref j3, .ref j4, .int ev, .int ec, .int eg, .int ea, .int es, .int eo, .ref j5, .int el, .ref j6, .ref j7]))] sz) [(m0, .inr (7, [.ref j0, .ref j1, .ref j2, .ref j3, .ref j4, .int ev, .int ec, .int eg, .int ea, .int es, .int pc, .ref j5, .int el, .ref j6, .ref j7]))]) (va_A [(m0, .inr (7, [.ref j0, .ref j1, .ref j2, .ref j3, .ref j4, .int ev, .int ec, .int eg, .int ea, .int es, .int eo, .ref j5, .int el, .ref j6, .ref j7]))] sz)) 0 0 (va_A [(m0, .inr (7, [.ref j0, .ref j1, .ref j2, .ref j3, .ref j4, .int ev, .int ec, .int eg, .int ea, .int es, .int eo, .ref j5, .int el, .ref j6, .ref j7]))] sz) := by
  refine Met.ofW (cc := prog_9_method_3_code) (maxL := 3) (ret := (some .boolean)) (by decide) rfl ?_
  intro p e s m args below meth c s₁ B hml hv
  obtain ⟨rfl, hsz, hP, hK, hD0⟩ := hv
  have hx := B.exec
  have hb := B.bytes
  have hr := B.returns
  have hw : ∀ w ∈ bg_W, w.before #[Value.ref m0, Value.int 0, Value.int pc] s = true := fun w h => atoms_spec (ws := (wq y_Md_good prog_9_method_3_code 3 (some .boolean))) B.pre w (List.mem_cons_of_mem _ h)
  have hown : s.vm.findClass R_Md = some m.cls := findClass_of_methodNamed B.named
  have hlocks := B.notSynchronized
  subst hsz
  have hD := hD0.self (sz := s.heap.size)
  generalize hAe : va_A [(m0, .inr (7, [.ref j0, .ref j1, .ref j2, .ref j3, .ref j4, .int ev, .int ec, .int eg, .int ea, .int es, .int eo, .ref j5, .int el, .ref j6, .ref j7]))] s.heap.size = A at hD ⊢
  have hA : ∀ q : Nat, s.heap.size ≤ q → A q := fun q h => by rw [← hAe]; exact Or.inr h
  have hS : va_S A s.heap s.heap [] := va_S.rf
  have hP : va_P (dC, dI) vwCl [(m0, .inr (7, [.ref j0, .ref j1, .ref j2, .ref j3, .ref j4, .int ev, .int ec, .int eg, .int ea, .int es, .int eo, .ref j5, .int el, .ref j6, .ref j7]))] s.heap := hP
  have hl := lv_entry ([.ref m0, .int 0, .int pc]) (n := 3) (Nat.le_of_ble_eq_true rfl)
  rw [lg_entry_eq]
  generalize (lg_sl ([.ref m0, .int 0, .int pc]) ++ List.replicate (3 - (lg_sl ([.ref m0, .int 0, .int pc])).length) Slot.unset).toArray = ls at hl ⊢
  have hl : lv_has ls 3 [(0, .ref m0), (1, .int 0), (2, .int pc)] := hl
  obtain ⟨H, hH⟩ : ∃ H : Heap, H = s.heap := ⟨_, rfl⟩
  rw [← hH] at hP
  have hS : va_S A s.heap H [] := by rw [hH]; exact va_S.rf
  show W p l e _ s m _ below meth c s.heap [] 0 0 _ _
  rw [← hH]
  refine lv_aload_n hx hb d_Md_good_0 rfl (lv_at hl 0 rfl) ?_
  refine lv_iload_n hx hb d_Md_good_1 rfl (lv_at hl 1 rfl) ?_
  refine lv_if_eq (tgt := 9) hx hb d_Md_good_2 (by decide) (fun c_2 => ?_) (fun c_2 => absurd c_2 (by decide))
  refine lv_iload_n hx hb d_Md_good_9 rfl (lv_at hl 2 rfl) ?_
  refine va_put (D := (dC, dI)) (ci := 7) (v := .int pc) (ty := .int) (C := R_Md) (T := F_Md) (N := 15) hx hb hw in_Md t_Md t_Md_ok n_Md hown hK hP hD hS 0 rfl rfl 10 (by decide) (hw (Cond.fieldLink "ClauseSearchModel" 35 "ClauseSearchModel" "code" "I") k_614) (fun _ h9 => h9) rfl (by decide +kernel) rfl rfl (Nat.le_of_ble_eq_true rfl) d_Md_good_10 (fun H locs hP hD hS => ?_)
  have hP : va_P (dC, dI) vwCl [(m0, .inr (7, [.ref j0, .ref j1, .ref j2, .ref j3, .ref j4, .int ev, .int ec, .int eg, .int ea, .int es, .int pc, .ref j5, .int el, .ref j6, .ref j7]))] H := hP
  have hD : va_D A [(m0, .inr (7, [.ref j0, .ref j1, .ref j2, .ref j3, .ref j4, .int ev, .int ec, .int eg, .int ea, .int es, .int pc, .ref j5, .int el, .ref j6, .ref j7]))] := hD
  refine lv_iload_n hx hb d_Md_good_13 rfl (lv_at hl 1 rfl) ?_
  refine W.widen (k := 0) (n := 0) (by decide) (by decide) ?_
  exact W.zret (v := 0) hx hb hr rfl (fun t ht hW => ⟨⟨0, (), rfl, rfl, by rw [ht]; exact hP, va_K.moved hW.alike hK, hD⟩, hS.F ht⟩) hS.2.2 d_Md_good_14

set_option maxHeartbeats 4000000 in
set_option maxRecDepth 100000 in
/-- variables(n) refuses n -/
theorem c_Md_variables_1 (l : Launch) (dC : Nat → ClassId) (dI : Nat → Nat → Nat) (m0 : Nat) (j0 : Nat) (j1 : Nat) (j2 : Nat) (j3 : Nat) (j4 : Nat) (j5 : Nat) (j6 : Nat) (j7 : Nat) (sz : Nat) (ev : Int32) (ec : Int32) (eg : Int32) (ea : Int32) (es : Int32) (eo : Int32) (el : Int32) (p0 : Int32) (h : p0 < 1 ∨ 400 < p0) : Met l y_Md_variables (wq y_Md_variables prog_9_method_4_code 2 (some .int)) ({ frames := 1, cells := 0, slots := 0, locals := 22 }) (va_Pc [.ref m0, .int p0] (fun U => U.heap.size = sz ∧ va_P (dC, dI) vwCl [(m0, .inr (7, [.ref j0, .ref j1, .ref j2, .ref j3, .ref j4, .int ev, .int ec, .int eg, .int ea, .int es, .int eo, .ref j5, .int el, .ref j6, .ref j7]))] U.heap ∧ va_K (dC, dI) vwCl [] U ∧ va_D (fun _ => True) [(m0, .inr (7, [.ref j0, .ref j1, .ref j2, .ref j3, .ref j4, .int ev, .int ec, .int eg, .int ea, .int es, .int eo, .ref j5, .int el, .ref j6, .ref j7]))])) (va_Qi (fun (r : Int32) (_ : Unit) => r = 0) (fun (_ : Unit) t => va_P (dC, dI) vwCl [(m0, .inr (7, [.ref j0, .ref j1, .ref j2, .ref j3, .ref j4, .int ev, .int ec, .int eg, .int ea, .int es, .int 1, .ref j5, .int el, .ref j6, .ref j7]))] t.heap ∧ va_K (dC, dI) vwCl [] t ∧ va_D (va_A [(m0, .inr (7, [.ref j0, .ref j1, .ref j2, .ref j3, .ref j4, .int ev, .int ec, .int eg, .int ea, .int es, .int eo, .ref j5, .int el, .ref j6, .ref j7]))] sz) [(m0, .inr (7, [.ref j0, .ref j1, .ref j2, .ref j3, .ref j4, .int ev, .int ec, .int eg, .int ea, .int es, .int 1, .ref j5, .int el, .ref j6, .ref j7]))]) (va_A [(m0, .inr (7, [.ref j0, .ref j1, .ref j2, .ref j3, .ref j4, .int ev, .int ec, .int eg, .int ea, .int es, .int eo, .ref j5, .int el, .ref j6, .ref j7]))] sz)) 0 0 (va_A [(m0, .inr (7, [.ref j0, .ref j1, .ref j2, .ref j3, .ref j4, .int ev, .int ec, .int eg, .int ea, .int es, .int eo, .ref j5, .int el, .ref j6, .ref j7]))] sz) := by
  refine Met.ofW (cc := prog_9_method_4_code) (maxL := 2) (ret := (some .int)) (by decide) rfl ?_
  intro p e s m args below meth c s₁ B hml hv
  obtain ⟨rfl, hsz, hP, hK, hD0⟩ := hv
  have hx := B.exec
  have hb := B.bytes
  have hr := B.returns
  have hw : ∀ w ∈ bg_W, w.before #[Value.ref m0, Value.int p0] s = true := fun w h => atoms_spec (ws := (wq y_Md_variables prog_9_method_4_code 2 (some .int))) B.pre w (List.mem_cons_of_mem _ h)
  have hown : s.vm.findClass R_Md = some m.cls := findClass_of_methodNamed B.named
  have hlocks := B.notSynchronized
  subst hsz
  have hD := hD0.self (sz := s.heap.size)
  generalize hAe : va_A [(m0, .inr (7, [.ref j0, .ref j1, .ref j2, .ref j3, .ref j4, .int ev, .int ec, .int eg, .int ea, .int es, .int eo, .ref j5, .int el, .ref j6, .ref j7]))] s.heap.size = A at hD ⊢
  have hA : ∀ q : Nat, s.heap.size ≤ q → A q := fun q h => by rw [← hAe]; exact Or.inr h
  have hS : va_S A s.heap s.heap [] := va_S.rf
  have hP : va_P (dC, dI) vwCl [(m0, .inr (7, [.ref j0, .ref j1, .ref j2, .ref j3, .ref j4, .int ev, .int ec, .int eg, .int ea, .int es, .int eo, .ref j5, .int el, .ref j6, .ref j7]))] s.heap := hP
  have hl := lv_entry ([.ref m0, .int p0]) (n := 2) (Nat.le_of_ble_eq_true rfl)
  rw [lg_entry_eq]
  generalize (lg_sl ([.ref m0, .int p0]) ++ List.replicate (2 - (lg_sl ([.ref m0, .int p0])).length) Slot.unset).toArray = ls at hl ⊢
  have hl : lv_has ls 2 [(0, .ref m0), (1, .int p0)] := hl
  obtain ⟨H, hH⟩ : ∃ H : Heap, H = s.heap := ⟨_, rfl⟩
  rw [← hH] at hP
  have hS : va_S A s.heap H [] := by rw [hH]; exact va_S.rf
  show W p l e _ s m _ below meth c s.heap [] 0 0 _ _
  rw [← hH]
  refine lv_aload_n hx hb d_Md_variables_0 rfl (lv_at hl 0 rfl) ?_
  refine lv_iload_n hx hb d_Md_variables_1 rfl (lv_at hl 1 rfl) ?_
  refine lv_iconst (v := 1) hx hb d_Md_variables_2 (by decide) ?_
  refine lv_icmp_lt (tgt := 17) hx hb d_Md_variables_3 (by decide) (fun c_3 => ?_) (fun c_3 => ?_)
  · refine lv_iconst (v := 0) hx hb d_Md_variables_17 (by decide) ?_
    refine lv_iconst (v := 1) hx hb d_Md_variables_18 (by decide) ?_
    have hPc := hP.sub (ws' := [(m0, .inr (7, [.ref j0, .ref j1, .ref j2, .ref j3, .ref j4, .int ev, .int ec, .int eg, .int ea, .int es, .int eo, .ref j5, .int el, .ref j6, .ref j7]))]) [0] rfl
    have hDc := hD.sub (ws' := [(m0, .inr (7, [.ref j0, .ref j1, .ref j2, .ref j3, .ref j4, .int ev, .int ec, .int eg, .int ea, .int es, .int eo, .ref j5, .int el, .ref j6, .ref j7]))]) [0] (by decide) rfl
    have hKc := hK.sub (tys' := []) [] rfl
    have hFc := va_free (wc := [(m0, .inr (7, [.ref j0, .ref j1, .ref j2, .ref j3, .ref j4, .int ev, .int ec, .int eg, .int ea, .int es, .int eo, .ref j5, .int el, .ref j6, .ref j7]))]) hD hS hA [0] rfl
    refine va_calli (va_runV (As := [.int 0, .int 1]) (rest := []) ⟨hx, hb, hml, hown, hw⟩ (c_Md_good_0 l dC dI m0 j0 j1 j2 j3 j4 j5 j6 j7 H.size ev ec eg ea es eo el 1) (cb_V (C := R_Md) 2 hw k_661 k_37 k_658 k_660 k_21 rfl rfl (by decide +kernel) ⟨Nat.le_of_ble_eq_true rfl, Nat.le_of_ble_eq_true rfl⟩) ⟨fun a U g mk q => by obtain ⟨q0, q1, qP, qK, qD⟩ := q; exact ⟨q0, q1, qP, va_K.moved (u := U) (U := U.calling g mk a) (Vm.Alike.refl U.vm) qK, qD⟩, va_recv hKc hPc (ci := 7) (q0 := 0) rfl rfl, fun U hU hW => ⟨rfl, by rw [hU], by rw [hU]; exact hPc, va_K.moved hW.alike hKc, hDc.weaken (fun _ _ _ _ => trivial)⟩⟩ rfl rfl hl.1 rfl (lv_room (Nat.le_of_ble_eq_true rfl)) d_Md_variables_19 ⟨Nat.le_of_ble_eq_true rfl, Nat.le_of_ble_eq_true rfl⟩) hS (fun q _ h => hFc q h) hFc (fun r_1 u t H1 locs ht hvm hw9 hB hz1 hk1 hS => ?_)
    obtain ⟨hP1, hK1, hD1⟩ := hB
    rw [ht] at hP1
    have hK1 := va_K.moved hvm.symm hK1
    obtain ⟨hP, hD⟩ := va_join (wr := []) (w1 := [(m0, .inr (7, [.ref j0, .ref j1, .ref j2, .ref j3, .ref j4, .int ev, .int ec, .int eg, .int ea, .int es, .int 1, .ref j5, .int el, .ref j6, .ref j7]))]) hP hD [0] [] rfl rfl (by decide) (by decide) hk1 hFc hP1 hD1
    generalize H1 = H at hP hS ⊢
    have hP : va_P (dC, dI) vwCl [(m0, .inr (7, [.ref j0, .ref j1, .ref j2, .ref j3, .ref j4, .int ev, .int ec, .int eg, .int ea, .int es, .int 1, .ref j5, .int el, .ref j6, .ref j7]))] H := hP
    have hD : va_D A [(m0, .inr (7, [.ref j0, .ref j1, .ref j2, .ref j3, .ref j4, .int ev, .int ec, .int eg, .int ea, .int es, .int 1, .ref j5, .int el, .ref j6, .ref j7]))] := hD
    refine W.widen (k := 0) (n := 0) (by decide) (by decide) ?_
    have hw9 : r_1 = 0 := hw9
    subst hw9
    refine lv_if_eq (tgt := 50) hx hb d_Md_variables_22 (by decide) (fun c_22 => ?_) (fun c_22 => absurd c_22 (by decide))
    refine lv_iconst (v := 0) hx hb d_Md_variables_50 (by decide) ?_
    refine W.widen (k := 0) (n := 0) (by decide) (by decide) ?_
    exact W.iret (v := 0) hx hb hr (fun t ht hW => ⟨⟨0, (), rfl, rfl, by rw [ht]; exact hP, va_K.moved hW.alike hK, hD⟩, hS.F ht⟩) hS.2.2 d_Md_variables_51
  · refine lv_iload_n hx hb d_Md_variables_6 rfl (lv_at hl 1 rfl) ?_
    refine lv_sipush (v := 400) hx hb d_Md_variables_7 (by decide) ?_
    refine lv_icmp_gt (tgt := 17) hx hb d_Md_variables_10 (by decide) (fun c_10 => ?_) (fun c_10 => absurd c_10 (by rcases h with h | h; exact absurd h c_3; exact fun q => q h))
    refine lv_iconst (v := 0) hx hb d_Md_variables_17 (by decide) ?_
    refine lv_iconst (v := 1) hx hb d_Md_variables_18 (by decide) ?_
    have hPc := hP.sub (ws' := [(m0, .inr (7, [.ref j0, .ref j1, .ref j2, .ref j3, .ref j4, .int ev, .int ec, .int eg, .int ea, .int es, .int eo, .ref j5, .int el, .ref j6, .ref j7]))]) [0] rfl
    have hDc := hD.sub (ws' := [(m0, .inr (7, [.ref j0, .ref j1, .ref j2, .ref j3, .ref j4, .int ev, .int ec, .int eg, .int ea, .int es, .int eo, .ref j5, .int el, .ref j6, .ref j7]))]) [0] (by decide) rfl
    have hKc := hK.sub (tys' := []) [] rfl
    have hFc := va_free (wc := [(m0, .inr (7, [.ref j0, .ref j1, .ref j2, .ref j3, .ref j4, .int ev, .int ec, .int eg, .int ea, .int es, .int eo, .ref j5, .int el, .ref j6, .ref j7]))]) hD hS hA [0] rfl
    refine va_calli (va_runV (As := [.int 0, .int 1]) (rest := []) ⟨hx, hb, hml, hown, hw⟩ (c_Md_good_0 l dC dI m0 j0 j1 j2 j3 j4 j5 j6 j7 H.size ev ec eg ea es eo el 1) (cb_V (C := R_Md) 2 hw k_661 k_37 k_658 k_660 k_21 rfl rfl (by decide +kernel) ⟨Nat.le_of_ble_eq_true rfl, Nat.le_of_ble_eq_true rfl⟩) ⟨fun a U g mk q => by obtain ⟨q0, q1, qP, qK, qD⟩ := q; exact ⟨q0, q1, qP, va_K.moved (u := U) (U := U.calling g mk a) (Vm.Alike.refl U.vm) qK, qD⟩, va_recv hKc hPc (ci := 7) (q0 := 0) rfl rfl, fun U hU hW => ⟨rfl, by rw [hU], by rw [hU]; exact hPc, va_K.moved hW.alike hKc, hDc.weaken (fun _ _ _ _ => trivial)⟩⟩ rfl rfl hl.1 rfl (lv_room (Nat.le_of_ble_eq_true rfl)) d_Md_variables_19 ⟨Nat.le_of_ble_eq_true rfl, Nat.le_of_ble_eq_true rfl⟩) hS (fun q _ h => hFc q h) hFc (fun r_2 u t H1 locs ht hvm hw9 hB hz1 hk1 hS => ?_)
    obtain ⟨hP1, hK1, hD1⟩ := hB
    rw [ht] at hP1
    have hK1 := va_K.moved hvm.symm hK1
    obtain ⟨hP, hD⟩ := va_join (wr := []) (w1 := [(m0, .inr (7, [.ref j0, .ref j1, .ref j2, .ref j3, .ref j4, .int ev, .int ec, .int eg, .int ea, .int es, .int 1, .ref j5, .int el, .ref j6, .ref j7]))]) hP hD [0] [] rfl rfl (by decide) (by decide) hk1 hFc hP1 hD1
    generalize H1 = H at hP hS ⊢
    have hP : va_P (dC, dI) vwCl [(m0, .inr (7, [.ref j0, .ref j1, .ref j2, .ref j3, .ref j4, .int ev, .int ec, .int eg, .int ea, .int es, .int 1, .ref j5, .int el, .ref j6, .ref j7]))] H := hP
    have hD : va_D A [(m0, .inr (7, [.ref j0, .ref j1, .ref j2, .ref j3, .ref j4, .int ev, .int ec, .int eg, .int ea, .int es, .int 1, .ref j5, .int el, .ref j6, .ref j7]))] := hD
    refine W.widen (k := 0) (n := 0) (by decide) (by decide) ?_
    have hw9 : r_2 = 0 := hw9
    subst hw9
    refine lv_if_eq (tgt := 50) hx hb d_Md_variables_22 (by decide) (fun c_22 => ?_) (fun c_22 => absurd c_22 (by decide))
    refine lv_iconst (v := 0) hx hb d_Md_variables_50 (by decide) ?_
    refine W.widen (k := 0) (n := 0) (by decide) (by decide) ?_
    exact W.iret (v := 0) hx hb hr (fun t ht hW => ⟨⟨0, (), rfl, rfl, by rw [ht]; exact hP, va_K.moved hW.alike hK, hD⟩, hS.F ht⟩) hS.2.2 d_Md_variables_51

set_option maxHeartbeats 4000000 in
set_option maxRecDepth 100000 in
/-- variables(n) -/
theorem c_Md_variables (l : Launch) (dC : Nat → ClassId) (dI : Nat → Nat → Nat) (m0 : Nat) (j0 : Nat) (j1 : Nat) (j2 : Nat) (j3 : Nat) (j4 : Nat) (j5 : Nat) (j6 : Nat) (j7 : Nat) (sz : Nat) (ev : Int32) (ec : Int32) (eg : Int32) (ea : Int32) (es : Int32) (eo : Int32) (el : Int32) (p0 : Int32) (h1 : ¬ p0 < 1) (h2 : ¬ 400 < p0) (h3 : ¬ 400 < ev + p0) : Met l y_Md_variables (wq y_Md_variables prog_9_method_4_code 2 (some .int)) ({ frames := 1, cells := 0, slots := 0, locals := 22 }) (va_Pc [.ref m0, .int p0] (fun U => U.heap.size = sz ∧ va_P (dC, dI) vwCl [(m0, .inr (7, [.ref j0, .ref j1, .ref j2, .ref j3, .ref j4, .int ev, .int ec, .int eg, .int ea, .int es, .int eo, .ref j5, .int el, .ref j6, .ref j7]))] U.heap ∧ va_K (dC, dI) vwCl [] U ∧ va_D (fun _ => True) [(m0, .inr (7, [.ref j0, .ref j1, .ref j2, .ref j3, .ref j4, .int ev, .int ec, .int eg, .int ea, .int es, .int eo, .ref j5, .int el, .ref j6, .ref j7]))])) (va_Qi (fun (r : Int32) (_ : Unit) => r = ev + p0) (fun (_ : Unit) t => va_P (dC, dI) vwCl [(m0, .inr (7, [.ref j0, .ref j1, .ref j2, .ref j3, .ref j4, .int (ev + p0), .int ec, .int eg, .int ea, .int 0, .int 0, .ref j5, .int el, .ref j6, .ref j7]))] t.heap ∧ va_K (dC, dI) vwCl [] t ∧ va_D (va_A [(m0, .inr (7, [.ref j0, .ref j1, .ref j2, .ref j3, .ref j4, .int ev, .int ec, .int eg, .int ea, .int es, .int eo, .ref j5, .int el, .ref j6, .ref j7]))] sz) [(m0, .inr (7, [.ref j0, .ref j1, .ref j2, .ref j3, .ref j4, .int (ev + p0), .int ec, .int eg, .int ea, .int 0, .int 0, .ref j5, .int el, .ref j6, .ref j7]))]) (va_A [(m0, .inr (7, [.ref j0, .ref j1, .ref j2, .ref j3, .ref j4, .int ev, .int ec, .int eg, .int ea, .int es, .int eo, .ref j5, .int el, .ref j6, .ref j7]))] sz)) 0 0 (va_A [(m0, .inr (7, [.ref j0, .ref j1, .ref j2, .ref j3, .ref j4, .int ev, .int ec, .int eg, .int ea, .int es, .int eo, .ref j5, .int el, .ref j6, .ref j7]))] sz) := by
  refine Met.ofW (cc := prog_9_method_4_code) (maxL := 2) (ret := (some .int)) (by decide) rfl ?_
  intro p e s m args below meth c s₁ B hml hv
  obtain ⟨rfl, hsz, hP, hK, hD0⟩ := hv
  have hx := B.exec
  have hb := B.bytes
  have hr := B.returns
  have hw : ∀ w ∈ bg_W, w.before #[Value.ref m0, Value.int p0] s = true := fun w h => atoms_spec (ws := (wq y_Md_variables prog_9_method_4_code 2 (some .int))) B.pre w (List.mem_cons_of_mem _ h)
  have hown : s.vm.findClass R_Md = some m.cls := findClass_of_methodNamed B.named
  have hlocks := B.notSynchronized
  subst hsz
  have hD := hD0.self (sz := s.heap.size)
  generalize hAe : va_A [(m0, .inr (7, [.ref j0, .ref j1, .ref j2, .ref j3, .ref j4, .int ev, .int ec, .int eg, .int ea, .int es, .int eo, .ref j5, .int el, .ref j6, .ref j7]))] s.heap.size = A at hD ⊢
  have hA : ∀ q : Nat, s.heap.size ≤ q → A q := fun q h => by rw [← hAe]; exact Or.inr h
  have hS : va_S A s.heap s.heap [] := va_S.rf
  have hP : va_P (dC, dI) vwCl [(m0, .inr (7, [.ref j0, .ref j1, .ref j2, .ref j3, .ref j4, .int ev, .int ec, .int eg, .int ea, .int es, .int eo, .ref j5, .int el, .ref j6, .ref j7]))] s.heap := hP
  have hl := lv_entry ([.ref m0, .int p0]) (n := 2) (Nat.le_of_ble_eq_true rfl)
  rw [lg_entry_eq]
  generalize (lg_sl ([.ref m0, .int p0]) ++ List.replicate (2 - (lg_sl ([.ref m0, .int p0])).length) Slot.unset).toArray = ls at hl ⊢
  have hl : lv_has ls 2 [(0, .ref m0), (1, .int p0)] := hl
  obtain ⟨H, hH⟩ : ∃ H : Heap, H = s.heap := ⟨_, rfl⟩
  rw [← hH] at hP
  have hS : va_S A s.heap H [] := by rw [hH]; exact va_S.rf
  show W p l e _ s m _ below meth c s.heap [] 0 0 _ _
  rw [← hH]
  refine lv_aload_n hx hb d_Md_variables_0 rfl (lv_at hl 0 rfl) ?_
  refine lv_iload_n hx hb d_Md_variables_1 rfl (lv_at hl 1 rfl) ?_
  refine lv_iconst (v := 1) hx hb d_Md_variables_2 (by decide) ?_
  refine lv_icmp_lt (tgt := 17) hx hb d_Md_variables_3 (by decide) (fun c_3 => absurd c_3 (h1)) (fun c_3 => ?_)
  refine lv_iload_n hx hb d_Md_variables_6 rfl (lv_at hl 1 rfl) ?_
  refine lv_sipush (v := 400) hx hb d_Md_variables_7 (by decide) ?_
  refine lv_icmp_gt (tgt := 17) hx hb d_Md_variables_10 (by decide) (fun c_10 => absurd c_10 (h2)) (fun c_10 => ?_)
  refine lv_iconst (v := 1) hx hb d_Md_variables_13 (by decide) ?_
  refine lv_goto (tgt := 18) hx hb d_Md_variables_14 (by decide) ?_
  refine lv_iconst (v := 1) hx hb d_Md_variables_18 (by decide) ?_
  have hPc := hP.sub (ws' := [(m0, .inr (7, [.ref j0, .ref j1, .ref j2, .ref j3, .ref j4, .int ev, .int ec, .int eg, .int ea, .int es, .int eo, .ref j5, .int el, .ref j6, .ref j7]))]) [0] rfl
  have hDc := hD.sub (ws' := [(m0, .inr (7, [.ref j0, .ref j1, .ref j2, .ref j3, .ref j4, .int ev, .int ec, .int eg, .int ea, .int es, .int eo, .ref j5, .int el, .ref j6, .ref j7]))]) [0] (by decide) rfl
  have hKc := hK.sub (tys' := []) [] rfl
  have hFc := va_free (wc := [(m0, .inr (7, [.ref j0, .ref j1, .ref j2, .ref j3, .ref j4, .int ev, .int ec, .int eg, .int ea, .int es, .int eo, .ref j5, .int el, .ref j6, .ref j7]))]) hD hS hA [0] rfl
  refine va_calli (va_runV (As := [.int 1, .int 1]) (rest := []) ⟨hx, hb, hml, hown, hw⟩ (c_Md_good_1 l dC dI m0 j0 j1 j2 j3 j4 j5 j6 j7 H.size ev ec eg ea es eo el 1) (cb_V (C := R_Md) 2 hw k_661 k_37 k_658 k_660 k_21 rfl rfl (by decide +kernel) ⟨Nat.le_of_ble_eq_true rfl, Nat.le_of_ble_eq_true rfl⟩) ⟨fun a U g mk q => by obtain ⟨q0, q1, qP, qK, qD⟩ := q; exact ⟨q0, q1, qP, va_K.moved (u := U) (U := U.calling g mk a) (Vm.Alike.refl U.vm) qK, qD⟩, va_recv hKc hPc (ci := 7) (q0 := 0) rfl rfl, fun U hU hW => ⟨rfl, by rw [hU], by rw [hU]; exact hPc, va_K.moved hW.alike hKc, hDc.weaken (fun _ _ _ _ => trivial)⟩⟩ rfl rfl hl.1 rfl (lv_room (Nat.le_of_ble_eq_true rfl)) d_Md_variables_19 ⟨Nat.le_of_ble_eq_true rfl, Nat.le_of_ble_eq_true rfl⟩) hS (fun q _ h => hFc q h) hFc (fun r_1 u t H1 locs ht hvm hw9 hB hz1 hk1 hS => ?_)
  obtain ⟨hP1, hK1, hD1⟩ := hB
  rw [ht] at hP1
  have hK1 := va_K.moved hvm.symm hK1
  obtain ⟨hP, hD⟩ := va_join (wr := []) (w1 := [(m0, .inr (7, [.ref j0, .ref j1, .ref j2, .ref j3, .ref j4, .int ev, .int ec, .int eg, .int ea, .int es, .int 0, .ref j5, .int el, .ref j6, .ref j7]))]) hP hD [0] [] rfl rfl (by decide) (by decide) hk1 hFc hP1 hD1
  generalize H1 = H at hP hS ⊢
  have hP : va_P (dC, dI) vwCl [(m0, .inr (7, [.ref j0, .ref j1, .ref j2, .ref j3, .ref j4, .int ev, .int ec, .int eg, .int ea, .int es, .int 0, .ref j5, .int el, .ref j6, .ref j7]))] H := hP
  have hD : va_D A [(m0, .inr (7, [.ref j0, .ref j1, .ref j2, .ref j3, .ref j4, .int ev, .int ec, .int eg, .int ea, .int es, .int 0, .ref j5, .int el, .ref j6, .ref j7]))] := hD
  refine W.widen (k := 0) (n := 0) (by decide) (by decide) ?_
  have hw9 : r_1 = 1 := hw9
  subst hw9
  refine lv_if_eq (tgt := 50) hx hb d_Md_variables_22 (by decide) (fun c_22 => absurd c_22 (by decide)) (fun c_22 => ?_)
  refine lv_aload_n hx hb d_Md_variables_25 rfl (lv_at hl 0 rfl) ?_
  refine lv_aload_n hx hb d_Md_variables_26 rfl (lv_at hl 0 rfl) ?_
  refine va_get (D := (dC, dI)) (ci := 7) (v := .int ev) (C := R_Md) (T := F_Md) (N := 15) hx hb hw in_Md hown hK hP 0 rfl rfl 5 (by decide) (hw (Cond.fieldLink "ClauseSearchModel" 43 "ClauseSearchModel" "variables" "I") k_609) (fun _ h9 => h9) rfl d_Md_variables_27 ?_
  refine lv_iload_n hx hb d_Md_variables_30 rfl (lv_at hl 1 rfl) ?_
  refine lv_iadd hx hb d_Md_variables_31 ?_
  refine lv_sipush (v := 400) hx hb d_Md_variables_32 (by decide) ?_
  refine lv_icmp_gt (tgt := 42) hx hb d_Md_variables_35 (by decide) (fun c_35 => absurd c_35 (h3)) (fun c_35 => ?_)
  refine lv_iconst (v := 1) hx hb d_Md_variables_38 (by decide) ?_
  refine lv_goto (tgt := 43) hx hb d_Md_variables_39 (by decide) ?_
  refine lv_iconst (v := 2) hx hb d_Md_variables_43 (by decide) ?_
  have hPc := hP.sub (ws' := [(m0, .inr (7, [.ref j0, .ref j1, .ref j2, .ref j3, .ref j4, .int ev, .int ec, .int eg, .int ea, .int es, .int 0, .ref j5, .int el, .ref j6, .ref j7]))]) [0] rfl
  have hDc := hD.sub (ws' := [(m0, .inr (7, [.ref j0, .ref j1, .ref j2, .ref j3, .ref j4, .int ev, .int ec, .int eg, .int ea, .int es, .int 0, .ref j5, .int el, .ref j6, .ref j7]))]) [0] (by decide) rfl
  have hKc := hK.sub (tys' := []) [] rfl
  have hFc := va_free (wc := [(m0, .inr (7, [.ref j0, .ref j1, .ref j2, .ref j3, .ref j4, .int ev, .int ec, .int eg, .int ea, .int es, .int 0, .ref j5, .int el, .ref j6, .ref j7]))]) hD hS hA [0] rfl
  refine va_calli (va_runV (As := [.int 1, .int 2]) (rest := []) ⟨hx, hb, hml, hown, hw⟩ (c_Md_good_1 l dC dI m0 j0 j1 j2 j3 j4 j5 j6 j7 H.size ev ec eg ea es 0 el 2) (cb_V (C := R_Md) 2 hw k_661 k_37 k_658 k_660 k_21 rfl rfl (by decide +kernel) ⟨Nat.le_of_ble_eq_true rfl, Nat.le_of_ble_eq_true rfl⟩) ⟨fun a U g mk q => by obtain ⟨q0, q1, qP, qK, qD⟩ := q; exact ⟨q0, q1, qP, va_K.moved (u := U) (U := U.calling g mk a) (Vm.Alike.refl U.vm) qK, qD⟩, va_recv hKc hPc (ci := 7) (q0 := 0) rfl rfl, fun U hU hW => ⟨rfl, by rw [hU], by rw [hU]; exact hPc, va_K.moved hW.alike hKc, hDc.weaken (fun _ _ _ _ => trivial)⟩⟩ rfl rfl hl.1 rfl (lv_room (Nat.le_of_ble_eq_true rfl)) d_Md_variables_44 ⟨Nat.le_of_ble_eq_true rfl, Nat.le_of_ble_eq_true rfl⟩) hS (fun q _ h => hFc q h) hFc (fun r_2 u t H1 locs ht hvm hw9 hB hz1 hk1 hS => ?_)
  obtain ⟨hP1, hK1, hD1⟩ := hB
  rw [ht] at hP1
  have hK1 := va_K.moved hvm.symm hK1
  obtain ⟨hP, hD⟩ := va_join (wr := []) (w1 := [(m0, .inr (7, [.ref j0, .ref j1, .ref j2, .ref j3, .ref j4, .int ev, .int ec, .int eg, .int ea, .int es, .int 0, .ref j5, .int el, .ref j6, .ref j7]))]) hP hD [0] [] rfl rfl (by decide) (by decide) hk1 hFc hP1 hD1
  generalize H1 = H at hP hS ⊢
  have hP : va_P (dC, dI) vwCl [(m0, .inr (7, [.ref j0, .ref j1, .ref j2, .ref j3, .ref j4, .int ev, .int ec, .int eg, .int ea, .int es, .int 0, .ref j5, .int el, .ref j6, .ref j7]))] H := hP
  have hD : va_D A [(m0, .inr (7, [.ref j0, .ref j1, .ref j2, .ref j3, .ref j4, .int ev, .int ec, .int eg, .int ea, .int es, .int 0, .ref j5, .int el, .ref j6, .ref j7]))] := hD
  refine W.widen (k := 0) (n := 0) (by decide) (by decide) ?_
  have hw9 : r_2 = 1 := hw9
  subst hw9
  refine lv_if_ne (tgt := 52) hx hb d_Md_variables_47 (by decide) (fun c_47 => ?_) (fun c_47 => absurd c_47 (by decide))
  refine lv_aload_n hx hb d_Md_variables_52 rfl (lv_at hl 0 rfl) ?_
  refine lv_dup hx hb d_Md_variables_53 rfl ?_
  refine va_get (D := (dC, dI)) (ci := 7) (v := .int ev) (C := R_Md) (T := F_Md) (N := 15) hx hb hw in_Md hown hK hP 0 rfl rfl 5 (by decide) (hw (Cond.fieldLink "ClauseSearchModel" 43 "ClauseSearchModel" "variables" "I") k_609) (fun _ h9 => h9) rfl d_Md_variables_54 ?_
  refine lv_iload_n hx hb d_Md_variables_57 rfl (lv_at hl 1 rfl) ?_
  refine lv_iadd hx hb d_Md_variables_58 ?_
  refine va_put (D := (dC, dI)) (ci := 7) (v := .int (ev + p0)) (ty := .int) (C := R_Md) (T := F_Md) (N := 15) hx hb hw in_Md t_Md t_Md_ok n_Md hown hK hP hD hS 0 rfl rfl 5 (by decide) (hw (Cond.fieldLink "ClauseSearchModel" 43 "ClauseSearchModel" "variables" "I") k_609) (fun _ h9 => h9) rfl (by decide +kernel) rfl rfl (Nat.le_of_ble_eq_true rfl) d_Md_variables_59 (fun H locs hP hD hS => ?_)
  have hP : va_P (dC, dI) vwCl [(m0, .inr (7, [.ref j0, .ref j1, .ref j2, .ref j3, .ref j4, .int (ev + p0), .int ec, .int eg, .int ea, .int es, .int 0, .ref j5, .int el, .ref j6, .ref j7]))] H := hP
  have hD : va_D A [(m0, .inr (7, [.ref j0, .ref j1, .ref j2, .ref j3, .ref j4, .int (ev + p0), .int ec, .int eg, .int ea, .int es, .int 0, .ref j5, .int el, .ref j6, .ref j7]))] := hD
  refine lv_aload_n hx hb d_Md_variables_62 rfl (lv_at hl 0 rfl) ?_
  refine lv_iconst (v := 0) hx hb d_Md_variables_63 (by decide) ?_
  refine va_put (D := (dC, dI)) (ci := 7) (v := .int 0) (ty := .boolean) (C := R_Md) (T := F_Md) (N := 15) hx hb hw in_Md t_Md t_Md_ok n_Md hown hK hP hD hS 0 rfl rfl 9 (by decide) (hw (Cond.fieldLink "ClauseSearchModel" 46 "ClauseSearchModel" "stands" "Z") k_613) (fun _ h9 => h9) rfl (by decide +kernel) rfl rfl (Nat.le_of_ble_eq_true rfl) d_Md_variables_64 (fun H locs hP hD hS => ?_)
  have hP : va_P (dC, dI) vwCl [(m0, .inr (7, [.ref j0, .ref j1, .ref j2, .ref j3, .ref j4, .int (ev + p0), .int ec, .int eg, .int ea, .int 0, .int 0, .ref j5, .int el, .ref j6, .ref j7]))] H := hP
  have hD : va_D A [(m0, .inr (7, [.ref j0, .ref j1, .ref j2, .ref j3, .ref j4, .int (ev + p0), .int ec, .int eg, .int ea, .int 0, .int 0, .ref j5, .int el, .ref j6, .ref j7]))] := hD
  refine lv_aload_n hx hb d_Md_variables_67 rfl (lv_at hl 0 rfl) ?_
  refine va_get (D := (dC, dI)) (ci := 7) (v := .int (ev + p0)) (C := R_Md) (T := F_Md) (N := 15) hx hb hw in_Md hown hK hP 0 rfl rfl 5 (by decide) (hw (Cond.fieldLink "ClauseSearchModel" 43 "ClauseSearchModel" "variables" "I") k_609) (fun _ h9 => h9) rfl d_Md_variables_68 ?_
  refine W.widen (k := 0) (n := 0) (by decide) (by decide) ?_
  exact W.iret (v := ev + p0) hx hb hr (fun t ht hW => ⟨⟨ev + p0, (), rfl, rfl, by rw [ht]; exact hP, va_K.moved hW.alike hK, hD⟩, hS.F ht⟩) hS.2.2 d_Md_variables_71

set_option maxHeartbeats 4000000 in
set_option maxRecDepth 100000 in
/-- give(l) refuses l -/
theorem c_Md_give_1 (l : Launch) (dC : Nat → ClassId) (dI : Nat → Nat → Nat) (m0 : Nat) (j0 : Nat) (j1 : Nat) (j2 : Nat) (j3 : Nat) (j4 : Nat) (j5 : Nat) (j6 : Nat) (j7 : Nat) (sz : Nat) (ev : Int32) (ec : Int32) (eg : Int32) (ea : Int32) (es : Int32) (eo : Int32) (el : Int32) (p0 : Int32) (h : p0 = 0 ∨ p0 < -ev ∨ ev < p0) : Met l y_Md_give (wq y_Md_give prog_9_method_5_code 3 (some .int)) ({ frames := 1, cells := 0, slots := 0, locals := 22 }) (va_Pc [.ref m0, .int p0] (fun U => U.heap.size = sz ∧ va_P (dC, dI) vwCl [(m0, .inr (7, [.ref j0, .ref j1, .ref j2, .ref j3, .ref j4, .int ev, .int ec, .int eg, .int ea, .int es, .int eo, .ref j5, .int el, .ref j6, .ref j7]))] U.heap ∧ va_K (dC, dI) vwCl [] U ∧ va_D (fun _ => True) [(m0, .inr (7, [.ref j0, .ref j1, .ref j2, .ref j3, .ref j4, .int ev, .int ec, .int eg, .int ea, .int es, .int eo, .ref j5, .int el, .ref j6, .ref j7]))])) (va_Qi (fun (r : Int32) (_ : Unit) => r = 0) (fun (_ : Unit) t => va_P (dC, dI) vwCl [(m0, .inr (7, [.ref j0, .ref j1, .ref j2, .ref j3, .ref j4, .int ev, .int ec, .int eg, .int ea, .int es, .int 1, .ref j5, .int el, .ref j6, .ref j7]))] t.heap ∧ va_K (dC, dI) vwCl [] t ∧ va_D (va_A [(m0, .inr (7, [.ref j0, .ref j1, .ref j2, .ref j3, .ref j4, .int ev, .int ec, .int eg, .int ea, .int es, .int eo, .ref j5, .int el, .ref j6, .ref j7]))] sz) [(m0, .inr (7, [.ref j0, .ref j1, .ref j2, .ref j3, .ref j4, .int ev, .int ec, .int eg, .int ea, .int es, .int 1, .ref j5, .int el, .ref j6, .ref j7]))]) (va_A [(m0, .inr (7, [.ref j0, .ref j1, .ref j2, .ref j3, .ref j4, .int ev, .int ec, .int eg, .int ea, .int es, .int eo, .ref j5, .int el, .ref j6, .ref j7]))] sz)) 0 0 (va_A [(m0, .inr (7, [.ref j0, .ref j1, .ref j2, .ref j3, .ref j4, .int ev, .int ec, .int eg, .int ea, .int es, .int eo, .ref j5, .int el, .ref j6, .ref j7]))] sz) := by
  refine Met.ofW (cc := prog_9_method_5_code) (maxL := 3) (ret := (some .int)) (by decide) rfl ?_
  intro p e s m args below meth c s₁ B hml hv
  obtain ⟨rfl, hsz, hP, hK, hD0⟩ := hv
  have hx := B.exec
  have hb := B.bytes
  have hr := B.returns
  have hw : ∀ w ∈ bg_W, w.before #[Value.ref m0, Value.int p0] s = true := fun w h => atoms_spec (ws := (wq y_Md_give prog_9_method_5_code 3 (some .int))) B.pre w (List.mem_cons_of_mem _ h)
  have hown : s.vm.findClass R_Md = some m.cls := findClass_of_methodNamed B.named
  have hlocks := B.notSynchronized
  subst hsz
  have hD := hD0.self (sz := s.heap.size)
  generalize hAe : va_A [(m0, .inr (7, [.ref j0, .ref j1, .ref j2, .ref j3, .ref j4, .int ev, .int ec, .int eg, .int ea, .int es, .int eo, .ref j5, .int el, .ref j6, .ref j7]))] s.heap.size = A at hD ⊢
  have hA : ∀ q : Nat, s.heap.size ≤ q → A q := fun q h => by rw [← hAe]; exact Or.inr h
  have hS : va_S A s.heap s.heap [] := va_S.rf
  have hP : va_P (dC, dI) vwCl [(m0, .inr (7, [.ref j0, .ref j1, .ref j2, .ref j3, .ref j4, .int ev, .int ec, .int eg, .int ea, .int es, .int eo, .ref j5, .int el, .ref j6, .ref j7]))] s.heap := hP
  have hl := lv_entry ([.ref m0, .int p0]) (n := 3) (Nat.le_of_ble_eq_true rfl)
  rw [lg_entry_eq]
  generalize (lg_sl ([.ref m0, .int p0]) ++ List.replicate (3 - (lg_sl ([.ref m0, .int p0])).length) Slot.unset).toArray = ls at hl ⊢
  have hl : lv_has ls 3 [(0, .ref m0), (1, .int p0)] := hl
  obtain ⟨H, hH⟩ : ∃ H : Heap, H = s.heap := ⟨_, rfl⟩
  rw [← hH] at hP
  have hS : va_S A s.heap H [] := by rw [hH]; exact va_S.rf
  show W p l e _ s m _ below meth c s.heap [] 0 0 _ _
  rw [← hH]
  refine lv_iload_n hx hb d_Md_give_0 rfl (lv_at hl 1 rfl) ?_
  refine lv_if_eq (tgt := 25) hx hb d_Md_give_1 (by decide) (fun c_1 => ?_) (fun c_1 => ?_)
  · refine lv_iconst (v := 0) hx hb d_Md_give_25 (by decide) ?_
    refine lv_istore_n (lv' := [(2, .int 0), (0, .ref m0), (1, .int p0)]) hx hb d_Md_give_26 rfl hl (by decide) rfl (fun ls hl => ?_)
    refine lv_aload_n hx hb d_Md_give_27 rfl (lv_at hl 1 rfl) ?_
    refine lv_iload_n hx hb d_Md_give_28 rfl (lv_at hl 0 rfl) ?_
    refine lv_iconst (v := 1) hx hb d_Md_give_29 (by decide) ?_
    have hPc := hP.sub (ws' := [(m0, .inr (7, [.ref j0, .ref j1, .ref j2, .ref j3, .ref j4, .int ev, .int ec, .int eg, .int ea, .int es, .int eo, .ref j5, .int el, .ref j6, .ref j7]))]) [0] rfl
    have hDc := hD.sub (ws' := [(m0, .inr (7, [.ref j0, .ref j1, .ref j2, .ref j3, .ref j4, .int ev, .int ec, .int eg, .int ea, .int es, .int eo, .ref j5, .int el, .ref j6, .ref j7]))]) [0] (by decide) rfl
    have hKc := hK.sub (tys' := []) [] rfl
    have hFc := va_free (wc := [(m0, .inr (7, [.ref j0, .ref j1, .ref j2, .ref j3, .ref j4, .int ev, .int ec, .int eg, .int ea, .int es, .int eo, .ref j5, .int el, .ref j6, .ref j7]))]) hD hS hA [0] rfl
    refine va_calli (va_runV (As := [.int 0, .int 1]) (rest := []) ⟨hx, hb, hml, hown, hw⟩ (c_Md_good_0 l dC dI m0 j0 j1 j2 j3 j4 j5 j6 j7 H.size ev ec eg ea es eo el 1) (cb_V (C := R_Md) 2 hw k_661 k_37 k_658 k_660 k_21 rfl rfl (by decide +kernel) ⟨Nat.le_of_ble_eq_true rfl, Nat.le_of_ble_eq_true rfl⟩) ⟨fun a U g mk q => by obtain ⟨q0, q1, qP, qK, qD⟩ := q; exact ⟨q0, q1, qP, va_K.moved (u := U) (U := U.calling g mk a) (Vm.Alike.refl U.vm) qK, qD⟩, va_recv hKc hPc (ci := 7) (q0 := 0) rfl rfl, fun U hU hW => ⟨rfl, by rw [hU], by rw [hU]; exact hPc, va_K.moved hW.alike hKc, hDc.weaken (fun _ _ _ _ => trivial)⟩⟩ rfl rfl hl.1 rfl (lv_room (Nat.le_of_ble_eq_true rfl)) d_Md_give_30 ⟨Nat.le_of_ble_eq_true rfl, Nat.le_of_ble_eq_true rfl⟩) hS (fun q _ h => hFc q h) hFc (fun r_1 u t H1 locs ht hvm hw9 hB hz1 hk1 hS => ?_)
    obtain ⟨hP1, hK1, hD1⟩ := hB
    rw [ht] at hP1
    have hK1 := va_K.moved hvm.symm hK1
    obtain ⟨hP, hD⟩ := va_join (wr := []) (w1 := [(m0, .inr (7, [.ref j0, .ref j1, .ref j2, .ref j3, .ref j4, .int ev, .int ec, .int eg, .int ea, .int es, .int 1, .ref j5, .int el, .ref j6, .ref j7]))]) hP hD [0] [] rfl rfl (by decide) (by decide) hk1 hFc hP1 hD1
    generalize H1 = H at hP hS ⊢
    have hP : va_P (dC, dI) vwCl [(m0, .inr (7, [.ref j0, .ref j1, .ref j2, .ref j3, .ref j4, .int ev, .int ec, .int eg, .int ea, .int es, .int 1, .ref j5, .int el, .ref j6, .ref j7]))] H := hP
    have hD : va_D A [(m0, .inr (7, [.ref j0, .ref j1, .ref j2, .ref j3, .ref j4, .int ev, .int ec, .int eg, .int ea, .int es, .int 1, .ref j5, .int el, .ref j6, .ref j7]))] := hD
    refine W.widen (k := 0) (n := 0) (by decide) (by decide) ?_
    have hw9 : r_1 = 0 := hw9
    subst hw9
    refine lv_if_eq (tgt := 58) hx hb d_Md_give_33 (by decide) (fun c_33 => ?_) (fun c_33 => absurd c_33 (by decide))
    refine lv_iconst (v := 0) hx hb d_Md_give_58 (by decide) ?_
    refine W.widen (k := 0) (n := 0) (by decide) (by decide) ?_
    exact W.iret (v := 0) hx hb hr (fun t ht hW => ⟨⟨0, (), rfl, rfl, by rw [ht]; exact hP, va_K.moved hW.alike hK, hD⟩, hS.F ht⟩) hS.2.2 d_Md_give_59
  · refine lv_iload_n hx hb d_Md_give_4 rfl (lv_at hl 1 rfl) ?_
    refine lv_aload_n hx hb d_Md_give_5 rfl (lv_at hl 0 rfl) ?_
    refine va_get (D := (dC, dI)) (ci := 7) (v := .int ev) (C := R_Md) (T := F_Md) (N := 15) hx hb hw in_Md hown hK hP 0 rfl rfl 5 (by decide) (hw (Cond.fieldLink "ClauseSearchModel" 43 "ClauseSearchModel" "variables" "I") k_609) (fun _ h9 => h9) rfl d_Md_give_6 ?_
    refine lv_ineg hx hb d_Md_give_9 ?_
    refine lv_icmp_lt (tgt := 25) hx hb d_Md_give_10 (by decide) (fun c_10 => ?_) (fun c_10 => ?_)
    · refine lv_iconst (v := 0) hx hb d_Md_give_25 (by decide) ?_
      refine lv_istore_n (lv' := [(2, .int 0), (0, .ref m0), (1, .int p0)]) hx hb d_Md_give_26 rfl hl (by decide) rfl (fun ls hl => ?_)
      refine lv_aload_n hx hb d_Md_give_27 rfl (lv_at hl 1 rfl) ?_
      refine lv_iload_n hx hb d_Md_give_28 rfl (lv_at hl 0 rfl) ?_
      refine lv_iconst (v := 1) hx hb d_Md_give_29 (by decide) ?_
      have hPc := hP.sub (ws' := [(m0, .inr (7, [.ref j0, .ref j1, .ref j2, .ref j3, .ref j4, .int ev, .int ec, .int eg, .int ea, .int es, .int eo, .ref j5, .int el, .ref j6, .ref j7]))]) [0] rfl
      have hDc := hD.sub (ws' := [(m0, .inr (7, [.ref j0, .ref j1, .ref j2, .ref j3, .ref j4, .int ev, .int ec, .int eg, .int ea, .int es, .int eo, .ref j5, .int el, .ref j6, .ref j7]))]) [0] (by decide) rfl
      have hKc := hK.sub (tys' := []) [] rfl
      have hFc := va_free (wc := [(m0, .inr (7, [.ref j0, .ref j1, .ref j2, .ref j3, .ref j4, .int ev, .int ec, .int eg, .int ea, .int es, .int eo, .ref j5, .int el, .ref j6, .ref j7]))]) hD hS hA [0] rfl
      refine va_calli (va_runV (As := [.int 0, .int 1]) (rest := []) ⟨hx, hb, hml, hown, hw⟩ (c_Md_good_0 l dC dI m0 j0 j1 j2 j3 j4 j5 j6 j7 H.size ev ec eg ea es eo el 1) (cb_V (C := R_Md) 2 hw k_661 k_37 k_658 k_660 k_21 rfl rfl (by decide +kernel) ⟨Nat.le_of_ble_eq_true rfl, Nat.le_of_ble_eq_true rfl⟩) ⟨fun a U g mk q => by obtain ⟨q0, q1, qP, qK, qD⟩ := q; exact ⟨q0, q1, qP, va_K.moved (u := U) (U := U.calling g mk a) (Vm.Alike.refl U.vm) qK, qD⟩, va_recv hKc hPc (ci := 7) (q0 := 0) rfl rfl, fun U hU hW => ⟨rfl, by rw [hU], by rw [hU]; exact hPc, va_K.moved hW.alike hKc, hDc.weaken (fun _ _ _ _ => trivial)⟩⟩ rfl rfl hl.1 rfl (lv_room (Nat.le_of_ble_eq_true rfl)) d_Md_give_30 ⟨Nat.le_of_ble_eq_true rfl, Nat.le_of_ble_eq_true rfl⟩) hS (fun q _ h => hFc q h) hFc (fun r_2 u t H1 locs ht hvm hw9 hB hz1 hk1 hS => ?_)
      obtain ⟨hP1, hK1, hD1⟩ := hB
      rw [ht] at hP1
      have hK1 := va_K.moved hvm.symm hK1
      obtain ⟨hP, hD⟩ := va_join (wr := []) (w1 := [(m0, .inr (7, [.ref j0, .ref j1, .ref j2, .ref j3, .ref j4, .int ev, .int ec, .int eg, .int ea, .int es, .int 1, .ref j5, .int el, .ref j6, .ref j7]))]) hP hD [0] [] rfl rfl (by decide) (by decide) hk1 hFc hP1 hD1
      generalize H1 = H at hP hS ⊢
      have hP : va_P (dC, dI) vwCl [(m0, .inr (7, [.ref j0, .ref j1, .ref j2, .ref j3, .ref j4, .int ev, .int ec, .int eg, .int ea, .int es, .int 1, .ref j5, .int el, .ref j6, .ref j7]))] H := hP
      have hD : va_D A [(m0, .inr (7, [.ref j0, .ref j1, .ref j2, .ref j3, .ref j4, .int ev, .int ec, .int eg, .int ea, .int es, .int 1, .ref j5, .int el, .ref j6, .ref j7]))] := hD
      refine W.widen (k := 0) (n := 0) (by decide) (by decide) ?_
      have hw9 : r_2 = 0 := hw9
      subst hw9
      refine lv_if_eq (tgt := 58) hx hb d_Md_give_33 (by decide) (fun c_33 => ?_) (fun c_33 => absurd c_33 (by decide))
      refine lv_iconst (v := 0) hx hb d_Md_give_58 (by decide) ?_
      refine W.widen (k := 0) (n := 0) (by decide) (by decide) ?_
      exact W.iret (v := 0) hx hb hr (fun t ht hW => ⟨⟨0, (), rfl, rfl, by rw [ht]; exact hP, va_K.moved hW.alike hK, hD⟩, hS.F ht⟩) hS.2.2 d_Md_give_59
    · refine lv_iload_n hx hb d_Md_give_13 rfl (lv_at hl 1 rfl) ?_
      refine lv_aload_n hx hb d_Md_give_14 rfl (lv_at hl 0 rfl) ?_
      refine va_get (D := (dC, dI)) (ci := 7) (v := .int ev) (C := R_Md) (T := F_Md) (N := 15) hx hb hw in_Md hown hK hP 0 rfl rfl 5 (by decide) (hw (Cond.fieldLink "ClauseSearchModel" 43 "ClauseSearchModel" "variables" "I") k_609) (fun _ h9 => h9) rfl d_Md_give_15 ?_
      refine lv_icmp_gt (tgt := 25) hx hb d_Md_give_18 (by decide) (fun c_18 => ?_) (fun c_18 => absurd c_18 (by rcases h with h | h | h; exact absurd h c_1; exact absurd h c_10; exact fun q => q h))
      refine lv_iconst (v := 0) hx hb d_Md_give_25 (by decide) ?_
      refine lv_istore_n (lv' := [(2, .int 0), (0, .ref m0), (1, .int p0)]) hx hb d_Md_give_26 rfl hl (by decide) rfl (fun ls hl => ?_)
      refine lv_aload_n hx hb d_Md_give_27 rfl (lv_at hl 1 rfl) ?_
      refine lv_iload_n hx hb d_Md_give_28 rfl (lv_at hl 0 rfl) ?_
      refine lv_iconst (v := 1) hx hb d_Md_give_29 (by decide) ?_
      have hPc := hP.sub (ws' := [(m0, .inr (7, [.ref j0, .ref j1, .ref j2, .ref j3, .ref j4, .int ev, .int ec, .int eg, .int ea, .int es, .int eo, .ref j5, .int el, .ref j6, .ref j7]))]) [0] rfl
      have hDc := hD.sub (ws' := [(m0, .inr (7, [.ref j0, .ref j1, .ref j2, .ref j3, .ref j4, .int ev, .int ec, .int eg, .int ea, .int es, .int eo, .ref j5, .int el, .ref j6, .ref j7]))]) [0] (by decide) rfl
      have hKc := hK.sub (tys' := []) [] rfl
      have hFc := va_free (wc := [(m0, .inr (7, [.ref j0, .ref j1, .ref j2, .ref j3, .ref j4, .int ev, .int ec, .int eg, .int ea, .int es, .int eo, .ref j5, .int el, .ref j6, .ref j7]))]) hD hS hA [0] rfl
      refine va_calli (va_runV (As := [.int 0, .int 1]) (rest := []) ⟨hx, hb, hml, hown, hw⟩ (c_Md_good_0 l dC dI m0 j0 j1 j2 j3 j4 j5 j6 j7 H.size ev ec eg ea es eo el 1) (cb_V (C := R_Md) 2 hw k_661 k_37 k_658 k_660 k_21 rfl rfl (by decide +kernel) ⟨Nat.le_of_ble_eq_true rfl, Nat.le_of_ble_eq_true rfl⟩) ⟨fun a U g mk q => by obtain ⟨q0, q1, qP, qK, qD⟩ := q; exact ⟨q0, q1, qP, va_K.moved (u := U) (U := U.calling g mk a) (Vm.Alike.refl U.vm) qK, qD⟩, va_recv hKc hPc (ci := 7) (q0 := 0) rfl rfl, fun U hU hW => ⟨rfl, by rw [hU], by rw [hU]; exact hPc, va_K.moved hW.alike hKc, hDc.weaken (fun _ _ _ _ => trivial)⟩⟩ rfl rfl hl.1 rfl (lv_room (Nat.le_of_ble_eq_true rfl)) d_Md_give_30 ⟨Nat.le_of_ble_eq_true rfl, Nat.le_of_ble_eq_true rfl⟩) hS (fun q _ h => hFc q h) hFc (fun r_3 u t H1 locs ht hvm hw9 hB hz1 hk1 hS => ?_)
      obtain ⟨hP1, hK1, hD1⟩ := hB
      rw [ht] at hP1
      have hK1 := va_K.moved hvm.symm hK1
      obtain ⟨hP, hD⟩ := va_join (wr := []) (w1 := [(m0, .inr (7, [.ref j0, .ref j1, .ref j2, .ref j3, .ref j4, .int ev, .int ec, .int eg, .int ea, .int es, .int 1, .ref j5, .int el, .ref j6, .ref j7]))]) hP hD [0] [] rfl rfl (by decide) (by decide) hk1 hFc hP1 hD1
      generalize H1 = H at hP hS ⊢
      have hP : va_P (dC, dI) vwCl [(m0, .inr (7, [.ref j0, .ref j1, .ref j2, .ref j3, .ref j4, .int ev, .int ec, .int eg, .int ea, .int es, .int 1, .ref j5, .int el, .ref j6, .ref j7]))] H := hP
      have hD : va_D A [(m0, .inr (7, [.ref j0, .ref j1, .ref j2, .ref j3, .ref j4, .int ev, .int ec, .int eg, .int ea, .int es, .int 1, .ref j5, .int el, .ref j6, .ref j7]))] := hD
      refine W.widen (k := 0) (n := 0) (by decide) (by decide) ?_
      have hw9 : r_3 = 0 := hw9
      subst hw9
      refine lv_if_eq (tgt := 58) hx hb d_Md_give_33 (by decide) (fun c_33 => ?_) (fun c_33 => absurd c_33 (by decide))
      refine lv_iconst (v := 0) hx hb d_Md_give_58 (by decide) ?_
      refine W.widen (k := 0) (n := 0) (by decide) (by decide) ?_
      exact W.iret (v := 0) hx hb hr (fun t ht hW => ⟨⟨0, (), rfl, rfl, by rw [ht]; exact hP, va_K.moved hW.alike hK, hD⟩, hS.F ht⟩) hS.2.2 d_Md_give_59

set_option maxHeartbeats 4000000 in
set_option maxRecDepth 100000 in
/-- clause() refuses an empty row -/
theorem c_Md_clause_1 (l : Launch) (dC : Nat → ClassId) (dI : Nat → Nat → Nat) (m0 : Nat) (j0 : Nat) (j1 : Nat) (j2 : Nat) (j3 : Nat) (j4 : Nat) (j5 : Nat) (j6 : Nat) (j7 : Nat) (sz : Nat) (ev : Int32) (ec : Int32) (eg : Int32) (ea : Int32) (es : Int32) (eo : Int32) (el : Int32) (h : eg ≤ 0) : Met l y_Md_clause (wq y_Md_clause prog_9_method_6_code 2 (some .int)) ({ frames := 1, cells := 0, slots := 0, locals := 22 }) (va_Pc [.ref m0] (fun U => U.heap.size = sz ∧ va_P (dC, dI) vwCl [(m0, .inr (7, [.ref j0, .ref j1, .ref j2, .ref j3, .ref j4, .int ev, .int ec, .int eg, .int ea, .int es, .int eo, .ref j5, .int el, .ref j6, .ref j7]))] U.heap ∧ va_K (dC, dI) vwCl [] U ∧ va_D (fun _ => True) [(m0, .inr (7, [.ref j0, .ref j1, .ref j2, .ref j3, .ref j4, .int ev, .int ec, .int eg, .int ea, .int es, .int eo, .ref j5, .int el, .ref j6, .ref j7]))])) (va_Qi (fun (r : Int32) (_ : Unit) => r = 0) (fun (_ : Unit) t => va_P (dC, dI) vwCl [(m0, .inr (7, [.ref j0, .ref j1, .ref j2, .ref j3, .ref j4, .int ev, .int ec, .int eg, .int ea, .int es, .int 1, .ref j5, .int el, .ref j6, .ref j7]))] t.heap ∧ va_K (dC, dI) vwCl [] t ∧ va_D (va_A [(m0, .inr (7, [.ref j0, .ref j1, .ref j2, .ref j3, .ref j4, .int ev, .int ec, .int eg, .int ea, .int es, .int eo, .ref j5, .int el, .ref j6, .ref j7]))] sz) [(m0, .inr (7, [.ref j0, .ref j1, .ref j2, .ref j3, .ref j4, .int ev, .int ec, .int eg, .int ea, .int es, .int 1, .ref j5, .int el, .ref j6, .ref j7]))]) (va_A [(m0, .inr (7, [.ref j0, .ref j1, .ref j2, .ref j3, .ref j4, .int ev, .int ec, .int eg, .int ea, .int es, .int eo, .ref j5, .int el, .ref j6, .ref j7]))] sz)) 0 0 (va_A [(m0, .inr (7, [.ref j0, .ref j1, .ref j2, .ref j3, .ref j4, .int ev, .int ec, .int eg, .int ea, .int es, .int eo, .ref j5, .int el, .ref j6, .ref j7]))] sz) := by
  refine Met.ofW (cc := prog_9_method_6_code) (maxL := 2) (ret := (some .int)) (by decide) rfl ?_
  intro p e s m args below meth c s₁ B hml hv
  obtain ⟨rfl, hsz, hP, hK, hD0⟩ := hv
  have hx := B.exec
  have hb := B.bytes
  have hr := B.returns
  have hw : ∀ w ∈ bg_W, w.before #[Value.ref m0] s = true := fun w h => atoms_spec (ws := (wq y_Md_clause prog_9_method_6_code 2 (some .int))) B.pre w (List.mem_cons_of_mem _ h)
  have hown : s.vm.findClass R_Md = some m.cls := findClass_of_methodNamed B.named
  have hlocks := B.notSynchronized
  subst hsz
  have hD := hD0.self (sz := s.heap.size)
  generalize hAe : va_A [(m0, .inr (7, [.ref j0, .ref j1, .ref j2, .ref j3, .ref j4, .int ev, .int ec, .int eg, .int ea, .int es, .int eo, .ref j5, .int el, .ref j6, .ref j7]))] s.heap.size = A at hD ⊢
  have hA : ∀ q : Nat, s.heap.size ≤ q → A q := fun q h => by rw [← hAe]; exact Or.inr h
  have hS : va_S A s.heap s.heap [] := va_S.rf
  have hP : va_P (dC, dI) vwCl [(m0, .inr (7, [.ref j0, .ref j1, .ref j2, .ref j3, .ref j4, .int ev, .int ec, .int eg, .int ea, .int es, .int eo, .ref j5, .int el, .ref j6, .ref j7]))] s.heap := hP
  have hl := lv_entry ([.ref m0]) (n := 2) (Nat.le_of_ble_eq_true rfl)
  rw [lg_entry_eq]
  generalize (lg_sl ([.ref m0]) ++ List.replicate (2 - (lg_sl ([.ref m0])).length) Slot.unset).toArray = ls at hl ⊢
  have hl : lv_has ls 2 [(0, .ref m0)] := hl
  obtain ⟨H, hH⟩ : ∃ H : Heap, H = s.heap := ⟨_, rfl⟩
  rw [← hH] at hP
  have hS : va_S A s.heap H [] := by rw [hH]; exact va_S.rf
  show W p l e _ s m _ below meth c s.heap [] 0 0 _ _
  rw [← hH]
  refine lv_aload_n hx hb d_Md_clause_0 rfl (lv_at hl 0 rfl) ?_
  refine lv_aload_n hx hb d_Md_clause_1 rfl (lv_at hl 0 rfl) ?_
  refine va_get (D := (dC, dI)) (ci := 7) (v := .int eg) (C := R_Md) (T := F_Md) (N := 15) hx hb hw in_Md hown hK hP 0 rfl rfl 7 (by decide) (hw (Cond.fieldLink "ClauseSearchModel" 50 "ClauseSearchModel" "given" "I") k_611) (fun _ h9 => h9) rfl d_Md_clause_2 ?_
  refine lv_if_le (tgt := 12) hx hb d_Md_clause_5 (by decide) (fun c_5 => ?_) (fun c_5 => absurd c_5 (fun q => q h))
  refine lv_iconst (v := 0) hx hb d_Md_clause_12 (by decide) ?_
  refine lv_iconst (v := 1) hx hb d_Md_clause_13 (by decide) ?_
  have hPc := hP.sub (ws' := [(m0, .inr (7, [.ref j0, .ref j1, .ref j2, .ref j3, .ref j4, .int ev, .int ec, .int eg, .int ea, .int es, .int eo, .ref j5, .int el, .ref j6, .ref j7]))]) [0] rfl
  have hDc := hD.sub (ws' := [(m0, .inr (7, [.ref j0, .ref j1, .ref j2, .ref j3, .ref j4, .int ev, .int ec, .int eg, .int ea, .int es, .int eo, .ref j5, .int el, .ref j6, .ref j7]))]) [0] (by decide) rfl
  have hKc := hK.sub (tys' := []) [] rfl
  have hFc := va_free (wc := [(m0, .inr (7, [.ref j0, .ref j1, .ref j2, .ref j3, .ref j4, .int ev, .int ec, .int eg, .int ea, .int es, .int eo, .ref j5, .int el, .ref j6, .ref j7]))]) hD hS hA [0] rfl
  refine va_calli (va_runV (As := [.int 0, .int 1]) (rest := []) ⟨hx, hb, hml, hown, hw⟩ (c_Md_good_0 l dC dI m0 j0 j1 j2 j3 j4 j5 j6 j7 H.size ev ec eg ea es eo el 1) (cb_V (C := R_Md) 2 hw k_661 k_37 k_658 k_660 k_21 rfl rfl (by decide +kernel) ⟨Nat.le_of_ble_eq_true rfl, Nat.le_of_ble_eq_true rfl⟩) ⟨fun a U g mk q => by obtain ⟨q0, q1, qP, qK, qD⟩ := q; exact ⟨q0, q1, qP, va_K.moved (u := U) (U := U.calling g mk a) (Vm.Alike.refl U.vm) qK, qD⟩, va_recv hKc hPc (ci := 7) (q0 := 0) rfl rfl, fun U hU hW => ⟨rfl, by rw [hU], by rw [hU]; exact hPc, va_K.moved hW.alike hKc, hDc.weaken (fun _ _ _ _ => trivial)⟩⟩ rfl rfl hl.1 rfl (lv_room (Nat.le_of_ble_eq_true rfl)) d_Md_clause_14 ⟨Nat.le_of_ble_eq_true rfl, Nat.le_of_ble_eq_true rfl⟩) hS (fun q _ h => hFc q h) hFc (fun r_1 u t H1 locs ht hvm hw9 hB hz1 hk1 hS => ?_)
  obtain ⟨hP1, hK1, hD1⟩ := hB
  rw [ht] at hP1
  have hK1 := va_K.moved hvm.symm hK1
  obtain ⟨hP, hD⟩ := va_join (wr := []) (w1 := [(m0, .inr (7, [.ref j0, .ref j1, .ref j2, .ref j3, .ref j4, .int ev, .int ec, .int eg, .int ea, .int es, .int 1, .ref j5, .int el, .ref j6, .ref j7]))]) hP hD [0] [] rfl rfl (by decide) (by decide) hk1 hFc hP1 hD1
  generalize H1 = H at hP hS ⊢
  have hP : va_P (dC, dI) vwCl [(m0, .inr (7, [.ref j0, .ref j1, .ref j2, .ref j3, .ref j4, .int ev, .int ec, .int eg, .int ea, .int es, .int 1, .ref j5, .int el, .ref j6, .ref j7]))] H := hP
  have hD : va_D A [(m0, .inr (7, [.ref j0, .ref j1, .ref j2, .ref j3, .ref j4, .int ev, .int ec, .int eg, .int ea, .int es, .int 1, .ref j5, .int el, .ref j6, .ref j7]))] := hD
  refine W.widen (k := 0) (n := 0) (by decide) (by decide) ?_
  have hw9 : r_1 = 0 := hw9
  subst hw9
  refine lv_if_eq (tgt := 43) hx hb d_Md_clause_17 (by decide) (fun c_17 => ?_) (fun c_17 => absurd c_17 (by decide))
  refine lv_iconst (v := 0) hx hb d_Md_clause_43 (by decide) ?_
  refine W.widen (k := 0) (n := 0) (by decide) (by decide) ?_
  exact W.iret (v := 0) hx hb hr (fun t ht hW => ⟨⟨0, (), rfl, rfl, by rw [ht]; exact hP, va_K.moved hW.alike hK, hD⟩, hS.F ht⟩) hS.2.2 d_Md_clause_44

set_option maxHeartbeats 4000000 in
set_option maxRecDepth 100000 in
/-- value(v) refuses v -/
theorem c_Md_value_1 (l : Launch) (dC : Nat → ClassId) (dI : Nat → Nat → Nat) (m0 : Nat) (j0 : Nat) (j1 : Nat) (j2 : Nat) (j3 : Nat) (j4 : Nat) (j5 : Nat) (j6 : Nat) (j7 : Nat) (sz : Nat) (ev : Int32) (ec : Int32) (eg : Int32) (ea : Int32) (es : Int32) (eo : Int32) (el : Int32) (p0 : Int32) (h : p0 < 1 ∨ ev < p0) : Met l y_Md_value (wq y_Md_value prog_9_method_14_code 2 (some .boolean)) ({ frames := 1, cells := 0, slots := 0, locals := 22 }) (va_Pc [.ref m0, .int p0] (fun U => U.heap.size = sz ∧ va_P (dC, dI) vwCl [(m0, .inr (7, [.ref j0, .ref j1, .ref j2, .ref j3, .ref j4, .int ev, .int ec, .int eg, .int ea, .int es, .int eo, .ref j5, .int el, .ref j6, .ref j7]))] U.heap ∧ va_K (dC, dI) vwCl [] U ∧ va_D (fun _ => True) [(m0, .inr (7, [.ref j0, .ref j1, .ref j2, .ref j3, .ref j4, .int ev, .int ec, .int eg, .int ea, .int es, .int eo, .ref j5, .int el, .ref j6, .ref j7]))])) (va_Qi (fun (r : Int32) (_ : Unit) => r = 0) (fun (_ : Unit) t => va_P (dC, dI) vwCl [(m0, .inr (7, [.ref j0, .ref j1, .ref j2, .ref j3, .ref j4, .int ev, .int ec, .int eg, .int ea, .int es, .int 1, .ref j5, .int el, .ref j6, .ref j7]))] t.heap ∧ va_K (dC, dI) vwCl [] t ∧ va_D (va_A [(m0, .inr (7, [.ref j0, .ref j1, .ref j2, .ref j3, .ref j4, .int ev, .int ec, .int eg, .int ea, .int es, .int eo, .ref j5, .int el, .ref j6, .ref j7]))] sz) [(m0, .inr (7, [.ref j0, .ref j1, .ref j2, .ref j3, .ref j4, .int ev, .int ec, .int eg, .int ea, .int es, .int 1, .ref j5, .int el, .ref j6, .ref j7]))]) (va_A [(m0, .inr (7, [.ref j0, .ref j1, .ref j2, .ref j3, .ref j4, .int ev, .int ec, .int eg, .int ea, .int es, .int eo, .ref j5, .int el, .ref j6, .ref j7]))] sz)) 0 0 (va_A [(m0, .inr (7, [.ref j0, .ref j1, .ref j2, .ref j3, .ref j4, .int ev, .int ec, .int eg, .int ea, .int es, .int eo, .ref j5, .int el, .ref j6, .ref j7]))] sz) := by
  refine Met.ofW (cc := prog_9_method_14_code) (maxL := 2) (ret := (some .boolean)) (by decide) rfl ?_
  intro p e s m args below meth c s₁ B hml hv
  obtain ⟨rfl, hsz, hP, hK, hD0⟩ := hv
  have hx := B.exec
  have hb := B.bytes
  have hr := B.returns
  have hw : ∀ w ∈ bg_W, w.before #[Value.ref m0, Value.int p0] s = true := fun w h => atoms_spec (ws := (wq y_Md_value prog_9_method_14_code 2 (some .boolean))) B.pre w (List.mem_cons_of_mem _ h)
  have hown : s.vm.findClass R_Md = some m.cls := findClass_of_methodNamed B.named
  have hlocks := B.notSynchronized
  subst hsz
  have hD := hD0.self (sz := s.heap.size)
  generalize hAe : va_A [(m0, .inr (7, [.ref j0, .ref j1, .ref j2, .ref j3, .ref j4, .int ev, .int ec, .int eg, .int ea, .int es, .int eo, .ref j5, .int el, .ref j6, .ref j7]))] s.heap.size = A at hD ⊢
  have hA : ∀ q : Nat, s.heap.size ≤ q → A q := fun q h => by rw [← hAe]; exact Or.inr h
  have hS : va_S A s.heap s.heap [] := va_S.rf
  have hP : va_P (dC, dI) vwCl [(m0, .inr (7, [.ref j0, .ref j1, .ref j2, .ref j3, .ref j4, .int ev, .int ec, .int eg, .int ea, .int es, .int eo, .ref j5, .int el, .ref j6, .ref j7]))] s.heap := hP
  have hl := lv_entry ([.ref m0, .int p0]) (n := 2) (Nat.le_of_ble_eq_true rfl)
  rw [lg_entry_eq]
  generalize (lg_sl ([.ref m0, .int p0]) ++ List.replicate (2 - (lg_sl ([.ref m0, .int p0])).length) Slot.unset).toArray = ls at hl ⊢
  have hl : lv_has ls 2 [(0, .ref m0), (1, .int p0)] := hl
  obtain ⟨H, hH⟩ : ∃ H : Heap, H = s.heap := ⟨_, rfl⟩
  rw [← hH] at hP
  have hS : va_S A s.heap H [] := by rw [hH]; exact va_S.rf
  show W p l e _ s m _ below meth c s.heap [] 0 0 _ _
  rw [← hH]
  refine lv_aload_n hx hb d_Md_value_0 rfl (lv_at hl 0 rfl) ?_
  refine lv_iload_n hx hb d_Md_value_1 rfl (lv_at hl 1 rfl) ?_
  refine lv_iconst (v := 1) hx hb d_Md_value_2 (by decide) ?_
  refine lv_icmp_lt (tgt := 18) hx hb d_Md_value_3 (by decide) (fun c_3 => ?_) (fun c_3 => ?_)
  · refine lv_iconst (v := 0) hx hb d_Md_value_18 (by decide) ?_
    refine lv_iconst (v := 1) hx hb d_Md_value_19 (by decide) ?_
    have hPc := hP.sub (ws' := [(m0, .inr (7, [.ref j0, .ref j1, .ref j2, .ref j3, .ref j4, .int ev, .int ec, .int eg, .int ea, .int es, .int eo, .ref j5, .int el, .ref j6, .ref j7]))]) [0] rfl
    have hDc := hD.sub (ws' := [(m0, .inr (7, [.ref j0, .ref j1, .ref j2, .ref j3, .ref j4, .int ev, .int ec, .int eg, .int ea, .int es, .int eo, .ref j5, .int el, .ref j6, .ref j7]))]) [0] (by decide) rfl
    have hKc := hK.sub (tys' := []) [] rfl
    have hFc := va_free (wc := [(m0, .inr (7, [.ref j0, .ref j1, .ref j2, .ref j3, .ref j4, .int ev, .int ec, .int eg, .int ea, .int es, .int eo, .ref j5, .int el, .ref j6, .ref j7]))]) hD hS hA [0] rfl
    refine va_calli (va_runV (As := [.int 0, .int 1]) (rest := []) ⟨hx, hb, hml, hown, hw⟩ (c_Md_good_0 l dC dI m0 j0 j1 j2 j3 j4 j5 j6 j7 H.size ev ec eg ea es eo el 1) (cb_V (C := R_Md) 2 hw k_661 k_37 k_658 k_660 k_21 rfl rfl (by decide +kernel) ⟨Nat.le_of_ble_eq_true rfl, Nat.le_of_ble_eq_true rfl⟩) ⟨fun a U g mk q => by obtain ⟨q0, q1, qP, qK, qD⟩ := q; exact ⟨q0, q1, qP, va_K.moved (u := U) (U := U.calling g mk a) (Vm.Alike.refl U.vm) qK, qD⟩, va_recv hKc hPc (ci := 7) (q0 := 0) rfl rfl, fun U hU hW => ⟨rfl, by rw [hU], by rw [hU]; exact hPc, va_K.moved hW.alike hKc, hDc.weaken (fun _ _ _ _ => trivial)⟩⟩ rfl rfl hl.1 rfl (lv_room (Nat.le_of_ble_eq_true rfl)) d_Md_value_20 ⟨Nat.le_of_ble_eq_true rfl, Nat.le_of_ble_eq_true rfl⟩) hS (fun q _ h => hFc q h) hFc (fun r_1 u t H1 locs ht hvm hw9 hB hz1 hk1 hS => ?_)
    obtain ⟨hP1, hK1, hD1⟩ := hB
    rw [ht] at hP1
    have hK1 := va_K.moved hvm.symm hK1
    obtain ⟨hP, hD⟩ := va_join (wr := []) (w1 := [(m0, .inr (7, [.ref j0, .ref j1, .ref j2, .ref j3, .ref j4, .int ev, .int ec, .int eg, .int ea, .int es, .int 1, .ref j5, .int el, .ref j6, .ref j7]))]) hP hD [0] [] rfl rfl (by decide) (by decide) hk1 hFc hP1 hD1
    generalize H1 = H at hP hS ⊢
    have hP : va_P (dC, dI) vwCl [(m0, .inr (7, [.ref j0, .ref j1, .ref j2, .ref j3, .ref j4, .int ev, .int ec, .int eg, .int ea, .int es, .int 1, .ref j5, .int el, .ref j6, .ref j7]))] H := hP
    have hD : va_D A [(m0, .inr (7, [.ref j0, .ref j1, .ref j2, .ref j3, .ref j4, .int ev, .int ec, .int eg, .int ea, .int es, .int 1, .ref j5, .int el, .ref j6, .ref j7]))] := hD
    refine W.widen (k := 0) (n := 0) (by decide) (by decide) ?_
    have hw9 : r_1 = 0 := hw9
    subst hw9
    refine lv_if_eq (tgt := 38) hx hb d_Md_value_23 (by decide) (fun c_23 => ?_) (fun c_23 => absurd c_23 (by decide))
    refine lv_iconst (v := 0) hx hb d_Md_value_38 (by decide) ?_
    refine W.widen (k := 0) (n := 0) (by decide) (by decide) ?_
    exact W.zret (v := 0) hx hb hr rfl (fun t ht hW => ⟨⟨0, (), rfl, rfl, by rw [ht]; exact hP, va_K.moved hW.alike hK, hD⟩, hS.F ht⟩) hS.2.2 d_Md_value_39
  · refine lv_iload_n hx hb d_Md_value_6 rfl (lv_at hl 1 rfl) ?_
    refine lv_aload_n hx hb d_Md_value_7 rfl (lv_at hl 0 rfl) ?_
    refine va_get (D := (dC, dI)) (ci := 7) (v := .int ev) (C := R_Md) (T := F_Md) (N := 15) hx hb hw in_Md hown hK hP 0 rfl rfl 5 (by decide) (hw (Cond.fieldLink "ClauseSearchModel" 43 "ClauseSearchModel" "variables" "I") k_609) (fun _ h9 => h9) rfl d_Md_value_8 ?_
    refine lv_icmp_gt (tgt := 18) hx hb d_Md_value_11 (by decide) (fun c_11 => ?_) (fun c_11 => absurd c_11 (by rcases h with h | h; exact absurd h c_3; exact fun q => q h))
    refine lv_iconst (v := 0) hx hb d_Md_value_18 (by decide) ?_
    refine lv_iconst (v := 1) hx hb d_Md_value_19 (by decide) ?_
    have hPc := hP.sub (ws' := [(m0, .inr (7, [.ref j0, .ref j1, .ref j2, .ref j3, .ref j4, .int ev, .int ec, .int eg, .int ea, .int es, .int eo, .ref j5, .int el, .ref j6, .ref j7]))]) [0] rfl
    have hDc := hD.sub (ws' := [(m0, .inr (7, [.ref j0, .ref j1, .ref j2, .ref j3, .ref j4, .int ev, .int ec, .int eg, .int ea, .int es, .int eo, .ref j5, .int el, .ref j6, .ref j7]))]) [0] (by decide) rfl
    have hKc := hK.sub (tys' := []) [] rfl
    have hFc := va_free (wc := [(m0, .inr (7, [.ref j0, .ref j1, .ref j2, .ref j3, .ref j4, .int ev, .int ec, .int eg, .int ea, .int es, .int eo, .ref j5, .int el, .ref j6, .ref j7]))]) hD hS hA [0] rfl
    refine va_calli (va_runV (As := [.int 0, .int 1]) (rest := []) ⟨hx, hb, hml, hown, hw⟩ (c_Md_good_0 l dC dI m0 j0 j1 j2 j3 j4 j5 j6 j7 H.size ev ec eg ea es eo el 1) (cb_V (C := R_Md) 2 hw k_661 k_37 k_658 k_660 k_21 rfl rfl (by decide +kernel) ⟨Nat.le_of_ble_eq_true rfl, Nat.le_of_ble_eq_true rfl⟩) ⟨fun a U g mk q => by obtain ⟨q0, q1, qP, qK, qD⟩ := q; exact ⟨q0, q1, qP, va_K.moved (u := U) (U := U.calling g mk a) (Vm.Alike.refl U.vm) qK, qD⟩, va_recv hKc hPc (ci := 7) (q0 := 0) rfl rfl, fun U hU hW => ⟨rfl, by rw [hU], by rw [hU]; exact hPc, va_K.moved hW.alike hKc, hDc.weaken (fun _ _ _ _ => trivial)⟩⟩ rfl rfl hl.1 rfl (lv_room (Nat.le_of_ble_eq_true rfl)) d_Md_value_20 ⟨Nat.le_of_ble_eq_true rfl, Nat.le_of_ble_eq_true rfl⟩) hS (fun q _ h => hFc q h) hFc (fun r_2 u t H1 locs ht hvm hw9 hB hz1 hk1 hS => ?_)
    obtain ⟨hP1, hK1, hD1⟩ := hB
    rw [ht] at hP1
    have hK1 := va_K.moved hvm.symm hK1
    obtain ⟨hP, hD⟩ := va_join (wr := []) (w1 := [(m0, .inr (7, [.ref j0, .ref j1, .ref j2, .ref j3, .ref j4, .int ev, .int ec, .int eg, .int ea, .int es, .int 1, .ref j5, .int el, .ref j6, .ref j7]))]) hP hD [0] [] rfl rfl (by decide) (by decide) hk1 hFc hP1 hD1
    generalize H1 = H at hP hS ⊢
    have hP : va_P (dC, dI) vwCl [(m0, .inr (7, [.ref j0, .ref j1, .ref j2, .ref j3, .ref j4, .int ev, .int ec, .int eg, .int ea, .int es, .int 1, .ref j5, .int el, .ref j6, .ref j7]))] H := hP
    have hD : va_D A [(m0, .inr (7, [.ref j0, .ref j1, .ref j2, .ref j3, .ref j4, .int ev, .int ec, .int eg, .int ea, .int es, .int 1, .ref j5, .int el, .ref j6, .ref j7]))] := hD
    refine W.widen (k := 0) (n := 0) (by decide) (by decide) ?_
    have hw9 : r_2 = 0 := hw9
    subst hw9
    refine lv_if_eq (tgt := 38) hx hb d_Md_value_23 (by decide) (fun c_23 => ?_) (fun c_23 => absurd c_23 (by decide))
    refine lv_iconst (v := 0) hx hb d_Md_value_38 (by decide) ?_
    refine W.widen (k := 0) (n := 0) (by decide) (by decide) ?_
    exact W.zret (v := 0) hx hb hr rfl (fun t ht hW => ⟨⟨0, (), rfl, rfl, by rw [ht]; exact hP, va_K.moved hW.alike hK, hD⟩, hS.F ht⟩) hS.2.2 d_Md_value_39

set_option maxHeartbeats 4000000 in
set_option maxRecDepth 100000 in
/-- count(what) refuses what -/
theorem c_Md_count_1 (l : Launch) (dC : Nat → ClassId) (dI : Nat → Nat → Nat) (m0 : Nat) (j0 : Nat) (j1 : Nat) (j2 : Nat) (j3 : Nat) (j4 : Nat) (j5 : Nat) (j6 : Nat) (j7 : Nat) (sz : Nat) (ev : Int32) (ec : Int32) (eg : Int32) (ea : Int32) (es : Int32) (eo : Int32) (el : Int32) (p0 : Int32) (h : p0 < 0 ∨ 5 < p0) : Met l y_Md_count (wq y_Md_count prog_9_method_15_code 2 (some .int)) ({ frames := 1, cells := 0, slots := 0, locals := 22 }) (va_Pc [.ref m0, .int p0] (fun U => U.heap.size = sz ∧ va_P (dC, dI) vwCl [(m0, .inr (7, [.ref j0, .ref j1, .ref j2, .ref j3, .ref j4, .int ev, .int ec, .int eg, .int ea, .int es, .int eo, .ref j5, .int el, .ref j6, .ref j7]))] U.heap ∧ va_K (dC, dI) vwCl [] U ∧ va_D (fun _ => True) [(m0, .inr (7, [.ref j0, .ref j1, .ref j2, .ref j3, .ref j4, .int ev, .int ec, .int eg, .int ea, .int es, .int eo, .ref j5, .int el, .ref j6, .ref j7]))])) (va_Qi (fun (r : Int32) (_ : Unit) => r = 0) (fun (_ : Unit) t => va_P (dC, dI) vwCl [(m0, .inr (7, [.ref j0, .ref j1, .ref j2, .ref j3, .ref j4, .int ev, .int ec, .int eg, .int ea, .int es, .int 1, .ref j5, .int el, .ref j6, .ref j7]))] t.heap ∧ va_K (dC, dI) vwCl [] t ∧ va_D (va_A [(m0, .inr (7, [.ref j0, .ref j1, .ref j2, .ref j3, .ref j4, .int ev, .int ec, .int eg, .int ea, .int es, .int eo, .ref j5, .int el, .ref j6, .ref j7]))] sz) [(m0, .inr (7, [.ref j0, .ref j1, .ref j2, .ref j3, .ref j4, .int ev, .int ec, .int eg, .int ea, .int es, .int 1, .ref j5, .int el, .ref j6, .ref j7]))]) (va_A [(m0, .inr (7, [.ref j0, .ref j1, .ref j2, .ref j3, .ref j4, .int ev, .int ec, .int eg, .int ea, .int es, .int eo, .ref j5, .int el, .ref j6, .ref j7]))] sz)) 0 0 (va_A [(m0, .inr (7, [.ref j0, .ref j1, .ref j2, .ref j3, .ref j4, .int ev, .int ec, .int eg, .int ea, .int es, .int eo, .ref j5, .int el, .ref j6, .ref j7]))] sz) := by
  refine Met.ofW (cc := prog_9_method_15_code) (maxL := 2) (ret := (some .int)) (by decide) rfl ?_
  intro p e s m args below meth c s₁ B hml hv
  obtain ⟨rfl, hsz, hP, hK, hD0⟩ := hv
  have hx := B.exec
  have hb := B.bytes
  have hr := B.returns
  have hw : ∀ w ∈ bg_W, w.before #[Value.ref m0, Value.int p0] s = true := fun w h => atoms_spec (ws := (wq y_Md_count prog_9_method_15_code 2 (some .int))) B.pre w (List.mem_cons_of_mem _ h)
  have hown : s.vm.findClass R_Md = some m.cls := findClass_of_methodNamed B.named
  have hlocks := B.notSynchronized
  subst hsz
  have hD := hD0.self (sz := s.heap.size)
  generalize hAe : va_A [(m0, .inr (7, [.ref j0, .ref j1, .ref j2, .ref j3, .ref j4, .int ev, .int ec, .int eg, .int ea, .int es, .int eo, .ref j5, .int el, .ref j6, .ref j7]))] s.heap.size = A at hD ⊢
  have hA : ∀ q : Nat, s.heap.size ≤ q → A q := fun q h => by rw [← hAe]; exact Or.inr h
  have hS : va_S A s.heap s.heap [] := va_S.rf
  have hP : va_P (dC, dI) vwCl [(m0, .inr (7, [.ref j0, .ref j1, .ref j2, .ref j3, .ref j4, .int ev, .int ec, .int eg, .int ea, .int es, .int eo, .ref j5, .int el, .ref j6, .ref j7]))] s.heap := hP
  have hl := lv_entry ([.ref m0, .int p0]) (n := 2) (Nat.le_of_ble_eq_true rfl)
  rw [lg_entry_eq]
  generalize (lg_sl ([.ref m0, .int p0]) ++ List.replicate (2 - (lg_sl ([.ref m0, .int p0])).length) Slot.unset).toArray = ls at hl ⊢
  have hl : lv_has ls 2 [(0, .ref m0), (1, .int p0)] := hl
  obtain ⟨H, hH⟩ : ∃ H : Heap, H = s.heap := ⟨_, rfl⟩
  rw [← hH] at hP
  have hS : va_S A s.heap H [] := by rw [hH]; exact va_S.rf
  show W p l e _ s m _ below meth c s.heap [] 0 0 _ _
  rw [← hH]
  refine lv_aload_n hx hb d_Md_count_0 rfl (lv_at hl 0 rfl) ?_
  refine lv_iload_n hx hb d_Md_count_1 rfl (lv_at hl 1 rfl) ?_
  refine lv_if_lt (tgt := 14) hx hb d_Md_count_2 (by decide) (fun c_2 => ?_) (fun c_2 => ?_)
  · refine lv_iconst (v := 0) hx hb d_Md_count_14 (by decide) ?_
    refine lv_iconst (v := 1) hx hb d_Md_count_15 (by decide) ?_
    have hPc := hP.sub (ws' := [(m0, .inr (7, [.ref j0, .ref j1, .ref j2, .ref j3, .ref j4, .int ev, .int ec, .int eg, .int ea, .int es, .int eo, .ref j5, .int el, .ref j6, .ref j7]))]) [0] rfl
    have hDc := hD.sub (ws' := [(m0, .inr (7, [.ref j0, .ref j1, .ref j2, .ref j3, .ref j4, .int ev, .int ec, .int eg, .int ea, .int es, .int eo, .ref j5, .int el, .ref j6, .ref j7]))]) [0] (by decide) rfl
    have hKc := hK.sub (tys' := []) [] rfl
    have hFc := va_free (wc := [(m0, .inr (7, [.ref j0, .ref j1, .ref j2, .ref j3, .ref j4, .int ev, .int ec, .int eg, .int ea, .int es, .int eo, .ref j5, .int el, .ref j6, .ref j7]))]) hD hS hA [0] rfl
    refine va_calli (va_runV (As := [.int 0, .int 1]) (rest := []) ⟨hx, hb, hml, hown, hw⟩ (c_Md_good_0 l dC dI m0 j0 j1 j2 j3 j4 j5 j6 j7 H.size ev ec eg ea es eo el 1) (cb_V (C := R_Md) 2 hw k_661 k_37 k_658 k_660 k_21 rfl rfl (by decide +kernel) ⟨Nat.le_of_ble_eq_true rfl, Nat.le_of_ble_eq_true rfl⟩) ⟨fun a U g mk q => by obtain ⟨q0, q1, qP, qK, qD⟩ := q; exact ⟨q0, q1, qP, va_K.moved (u := U) (U := U.calling g mk a) (Vm.Alike.refl U.vm) qK, qD⟩, va_recv hKc hPc (ci := 7) (q0 := 0) rfl rfl, fun U hU hW => ⟨rfl, by rw [hU], by rw [hU]; exact hPc, va_K.moved hW.alike hKc, hDc.weaken (fun _ _ _ _ => trivial)⟩⟩ rfl rfl hl.1 rfl (lv_room (Nat.le_of_ble_eq_true rfl)) d_Md_count_16 ⟨Nat.le_of_ble_eq_true rfl, Nat.le_of_ble_eq_true rfl⟩) hS (fun q _ h => hFc q h) hFc (fun r_1 u t H1 locs ht hvm hw9 hB hz1 hk1 hS => ?_)
    obtain ⟨hP1, hK1, hD1⟩ := hB
    rw [ht] at hP1
    have hK1 := va_K.moved hvm.symm hK1
    obtain ⟨hP, hD⟩ := va_join (wr := []) (w1 := [(m0, .inr (7, [.ref j0, .ref j1, .ref j2, .ref j3, .ref j4, .int ev, .int ec, .int eg, .int ea, .int es, .int 1, .ref j5, .int el, .ref j6, .ref j7]))]) hP hD [0] [] rfl rfl (by decide) (by decide) hk1 hFc hP1 hD1
    generalize H1 = H at hP hS ⊢
    have hP : va_P (dC, dI) vwCl [(m0, .inr (7, [.ref j0, .ref j1, .ref j2, .ref j3, .ref j4, .int ev, .int ec, .int eg, .int ea, .int es, .int 1, .ref j5, .int el, .ref j6, .ref j7]))] H := hP
    have hD : va_D A [(m0, .inr (7, [.ref j0, .ref j1, .ref j2, .ref j3, .ref j4, .int ev, .int ec, .int eg, .int ea, .int es, .int 1, .ref j5, .int el, .ref j6, .ref j7]))] := hD
    refine W.widen (k := 0) (n := 0) (by decide) (by decide) ?_
    have hw9 : r_1 = 0 := hw9
    subst hw9
    refine lv_if_ne (tgt := 24) hx hb d_Md_count_19 (by decide) (fun c_19 => absurd c_19 (by decide)) (fun c_19 => ?_)
    refine lv_iconst (v := 0) hx hb d_Md_count_22 (by decide) ?_
    refine W.widen (k := 0) (n := 0) (by decide) (by decide) ?_
    exact W.iret (v := 0) hx hb hr (fun t ht hW => ⟨⟨0, (), rfl, rfl, by rw [ht]; exact hP, va_K.moved hW.alike hK, hD⟩, hS.F ht⟩) hS.2.2 d_Md_count_23
  · refine lv_iload_n hx hb d_Md_count_5 rfl (lv_at hl 1 rfl) ?_
    refine lv_iconst (v := 5) hx hb d_Md_count_6 (by decide) ?_
    refine lv_icmp_gt (tgt := 14) hx hb d_Md_count_7 (by decide) (fun c_7 => ?_) (fun c_7 => absurd c_7 (by rcases h with h | h; exact absurd h c_2; exact fun q => q h))
    refine lv_iconst (v := 0) hx hb d_Md_count_14 (by decide) ?_
    refine lv_iconst (v := 1) hx hb d_Md_count_15 (by decide) ?_
    have hPc := hP.sub (ws' := [(m0, .inr (7, [.ref j0, .ref j1, .ref j2, .ref j3, .ref j4, .int ev, .int ec, .int eg, .int ea, .int es, .int eo, .ref j5, .int el, .ref j6, .ref j7]))]) [0] rfl
    have hDc := hD.sub (ws' := [(m0, .inr (7, [.ref j0, .ref j1, .ref j2, .ref j3, .ref j4, .int ev, .int ec, .int eg, .int ea, .int es, .int eo, .ref j5, .int el, .ref j6, .ref j7]))]) [0] (by decide) rfl
    have hKc := hK.sub (tys' := []) [] rfl
    have hFc := va_free (wc := [(m0, .inr (7, [.ref j0, .ref j1, .ref j2, .ref j3, .ref j4, .int ev, .int ec, .int eg, .int ea, .int es, .int eo, .ref j5, .int el, .ref j6, .ref j7]))]) hD hS hA [0] rfl
    refine va_calli (va_runV (As := [.int 0, .int 1]) (rest := []) ⟨hx, hb, hml, hown, hw⟩ (c_Md_good_0 l dC dI m0 j0 j1 j2 j3 j4 j5 j6 j7 H.size ev ec eg ea es eo el 1) (cb_V (C := R_Md) 2 hw k_661 k_37 k_658 k_660 k_21 rfl rfl (by decide +kernel) ⟨Nat.le_of_ble_eq_true rfl, Nat.le_of_ble_eq_true rfl⟩) ⟨fun a U g mk q => by obtain ⟨q0, q1, qP, qK, qD⟩ := q; exact ⟨q0, q1, qP, va_K.moved (u := U) (U := U.calling g mk a) (Vm.Alike.refl U.vm) qK, qD⟩, va_recv hKc hPc (ci := 7) (q0 := 0) rfl rfl, fun U hU hW => ⟨rfl, by rw [hU], by rw [hU]; exact hPc, va_K.moved hW.alike hKc, hDc.weaken (fun _ _ _ _ => trivial)⟩⟩ rfl rfl hl.1 rfl (lv_room (Nat.le_of_ble_eq_true rfl)) d_Md_count_16 ⟨Nat.le_of_ble_eq_true rfl, Nat.le_of_ble_eq_true rfl⟩) hS (fun q _ h => hFc q h) hFc (fun r_2 u t H1 locs ht hvm hw9 hB hz1 hk1 hS => ?_)
    obtain ⟨hP1, hK1, hD1⟩ := hB
    rw [ht] at hP1
    have hK1 := va_K.moved hvm.symm hK1
    obtain ⟨hP, hD⟩ := va_join (wr := []) (w1 := [(m0, .inr (7, [.ref j0, .ref j1, .ref j2, .ref j3, .ref j4, .int ev, .int ec, .int eg, .int ea, .int es, .int 1, .ref j5, .int el, .ref j6, .ref j7]))]) hP hD [0] [] rfl rfl (by decide) (by decide) hk1 hFc hP1 hD1
    generalize H1 = H at hP hS ⊢
    have hP : va_P (dC, dI) vwCl [(m0, .inr (7, [.ref j0, .ref j1, .ref j2, .ref j3, .ref j4, .int ev, .int ec, .int eg, .int ea, .int es, .int 1, .ref j5, .int el, .ref j6, .ref j7]))] H := hP
    have hD : va_D A [(m0, .inr (7, [.ref j0, .ref j1, .ref j2, .ref j3, .ref j4, .int ev, .int ec, .int eg, .int ea, .int es, .int 1, .ref j5, .int el, .ref j6, .ref j7]))] := hD
    refine W.widen (k := 0) (n := 0) (by decide) (by decide) ?_
    have hw9 : r_2 = 0 := hw9
    subst hw9
    refine lv_if_ne (tgt := 24) hx hb d_Md_count_19 (by decide) (fun c_19 => absurd c_19 (by decide)) (fun c_19 => ?_)
    refine lv_iconst (v := 0) hx hb d_Md_count_22 (by decide) ?_
    refine W.widen (k := 0) (n := 0) (by decide) (by decide) ?_
    exact W.iret (v := 0) hx hb hr (fun t ht hW => ⟨⟨0, (), rfl, rfl, by rw [ht]; exact hP, va_K.moved hW.alike hK, hD⟩, hS.F ht⟩) hS.2.2 d_Md_count_23

set_option maxHeartbeats 4000000 in
set_option maxRecDepth 100000 in
/-- count(what) of a new object -/
theorem c_Md_count_0 (l : Launch) (dC : Nat → ClassId) (dI : Nat → Nat → Nat) (m0 : Nat) (j0 : Nat) (j1 : Nat) (j2 : Nat) (j3 : Nat) (j4 : Nat) (j5 : Nat) (j6 : Nat) (j7 : Nat) (sz : Nat) (ea : Int32) (eo : Int32) (el : Int32) (p0 : Int32) (h1 : ¬ p0 < 0) (h2 : ¬ 5 < p0) : Met l y_Md_count (wq y_Md_count prog_9_method_15_code 2 (some .int)) ({ frames := 1, cells := 0, slots := 0, locals := 22 }) (va_Pc [.ref m0, .int p0] (fun U => U.heap.size = sz ∧ va_P (dC, dI) vwCl [(m0, .inr (7, [.ref j0, .ref j1, .ref j2, .ref j3, .ref j4, .int 0, .int 0, .int 0, .int ea, .int 0, .int eo, .ref j5, .int el, .ref j6, .ref j7]))] U.heap ∧ va_K (dC, dI) vwCl [] U ∧ va_D (fun _ => True) [(m0, .inr (7, [.ref j0, .ref j1, .ref j2, .ref j3, .ref j4, .int 0, .int 0, .int 0, .int ea, .int 0, .int eo, .ref j5, .int el, .ref j6, .ref j7]))])) (va_Qi (fun (r : Int32) (_ : Unit) => r = 0) (fun (_ : Unit) t => va_P (dC, dI) vwCl [(m0, .inr (7, [.ref j0, .ref j1, .ref j2, .ref j3, .ref j4, .int 0, .int 0, .int 0, .int ea, .int 0, .int 0, .ref j5, .int el, .ref j6, .ref j7]))] t.heap ∧ va_K (dC, dI) vwCl [] t ∧ va_D (va_A [(m0, .inr (7, [.ref j0, .ref j1, .ref j2, .ref j3, .ref j4, .int 0, .int 0, .int 0, .int ea, .int 0, .int eo, .ref j5, .int el, .ref j6, .ref j7]))] sz) [(m0, .inr (7, [.ref j0, .ref j1, .ref j2, .ref j3, .ref j4, .int 0, .int 0, .int 0, .int ea, .int 0, .int 0, .ref j5, .int el, .ref j6, .ref j7]))]) (va_A [(m0, .inr (7, [.ref j0, .ref j1, .ref j2, .ref j3, .ref j4, .int 0, .int 0, .int 0, .int ea, .int 0, .int eo, .ref j5, .int el, .ref j6, .ref j7]))] sz)) 0 0 (va_A [(m0, .inr (7, [.ref j0, .ref j1, .ref j2, .ref j3, .ref j4, .int 0, .int 0, .int 0, .int ea, .int 0, .int eo, .ref j5, .int el, .ref j6, .ref j7]))] sz) := by
  refine Met.ofW (cc := prog_9_method_15_code) (maxL := 2) (ret := (some .int)) (by decide) rfl ?_
  intro p e s m args below meth c s₁ B hml hv
  obtain ⟨rfl, hsz, hP, hK, hD0⟩ := hv
  have hx := B.exec
  have hb := B.bytes
  have hr := B.returns
  have hw : ∀ w ∈ bg_W, w.before #[Value.ref m0, Value.int p0] s = true := fun w h => atoms_spec (ws := (wq y_Md_count prog_9_method_15_code 2 (some .int))) B.pre w (List.mem_cons_of_mem _ h)
  have hown : s.vm.findClass R_Md = some m.cls := findClass_of_methodNamed B.named
  have hlocks := B.notSynchronized
  subst hsz
  have hD := hD0.self (sz := s.heap.size)
  generalize hAe : va_A [(m0, .inr (7, [.ref j0, .ref j1, .ref j2, .ref j3, .ref j4, .int 0, .int 0, .int 0, .int ea, .int 0, .int eo, .ref j5, .int el, .ref j6, .ref j7]))] s.heap.size = A at hD ⊢
  have hA : ∀ q : Nat, s.heap.size ≤ q → A q := fun q h => by rw [← hAe]; exact Or.inr h
  have hS : va_S A s.heap s.heap [] := va_S.rf
  have hP : va_P (dC, dI) vwCl [(m0, .inr (7, [.ref j0, .ref j1, .ref j2, .ref j3, .ref j4, .int 0, .int 0, .int 0, .int ea, .int 0, .int eo, .ref j5, .int el, .ref j6, .ref j7]))] s.heap := hP
  have hl := lv_entry ([.ref m0, .int p0]) (n := 2) (Nat.le_of_ble_eq_true rfl)
  rw [lg_entry_eq]
  generalize (lg_sl ([.ref m0, .int p0]) ++ List.replicate (2 - (lg_sl ([.ref m0, .int p0])).length) Slot.unset).toArray = ls at hl ⊢
  have hl : lv_has ls 2 [(0, .ref m0), (1, .int p0)] := hl
  obtain ⟨H, hH⟩ : ∃ H : Heap, H = s.heap := ⟨_, rfl⟩
  rw [← hH] at hP
  have hS : va_S A s.heap H [] := by rw [hH]; exact va_S.rf
  show W p l e _ s m _ below meth c s.heap [] 0 0 _ _
  rw [← hH]
  refine lv_aload_n hx hb d_Md_count_0 rfl (lv_at hl 0 rfl) ?_
  refine lv_iload_n hx hb d_Md_count_1 rfl (lv_at hl 1 rfl) ?_
  refine lv_if_lt (tgt := 14) hx hb d_Md_count_2 (by decide) (fun c_2 => absurd c_2 (h1)) (fun c_2 => ?_)
  refine lv_iload_n hx hb d_Md_count_5 rfl (lv_at hl 1 rfl) ?_
  refine lv_iconst (v := 5) hx hb d_Md_count_6 (by decide) ?_
  refine lv_icmp_gt (tgt := 14) hx hb d_Md_count_7 (by decide) (fun c_7 => absurd c_7 (h2)) (fun c_7 => ?_)
  refine lv_iconst (v := 1) hx hb d_Md_count_10 (by decide) ?_
  refine lv_goto (tgt := 15) hx hb d_Md_count_11 (by decide) ?_
  refine lv_iconst (v := 1) hx hb d_Md_count_15 (by decide) ?_
  have hPc := hP.sub (ws' := [(m0, .inr (7, [.ref j0, .ref j1, .ref j2, .ref j3, .ref j4, .int 0, .int 0, .int 0, .int ea, .int 0, .int eo, .ref j5, .int el, .ref j6, .ref j7]))]) [0] rfl
  have hDc := hD.sub (ws' := [(m0, .inr (7, [.ref j0, .ref j1, .ref j2, .ref j3, .ref j4, .int 0, .int 0, .int 0, .int ea, .int 0, .int eo, .ref j5, .int el, .ref j6, .ref j7]))]) [0] (by decide) rfl
  have hKc := hK.sub (tys' := []) [] rfl
  have hFc := va_free (wc := [(m0, .inr (7, [.ref j0, .ref j1, .ref j2, .ref j3, .ref j4, .int 0, .int 0, .int 0, .int ea, .int 0, .int eo, .ref j5, .int el, .ref j6, .ref j7]))]) hD hS hA [0] rfl
  refine va_calli (va_runV (As := [.int 1, .int 1]) (rest := []) ⟨hx, hb, hml, hown, hw⟩ (c_Md_good_1 l dC dI m0 j0 j1 j2 j3 j4 j5 j6 j7 H.size 0 0 0 ea 0 eo el 1) (cb_V (C := R_Md) 2 hw k_661 k_37 k_658 k_660 k_21 rfl rfl (by decide +kernel) ⟨Nat.le_of_ble_eq_true rfl, Nat.le_of_ble_eq_true rfl⟩) ⟨fun a U g mk q => by obtain ⟨q0, q1, qP, qK, qD⟩ := q; exact ⟨q0, q1, qP, va_K.moved (u := U) (U := U.calling g mk a) (Vm.Alike.refl U.vm) qK, qD⟩, va_recv hKc hPc (ci := 7) (q0 := 0) rfl rfl, fun U hU hW => ⟨rfl, by rw [hU], by rw [hU]; exact hPc, va_K.moved hW.alike hKc, hDc.weaken (fun _ _ _ _ => trivial)⟩⟩ rfl rfl hl.1 rfl (lv_room (Nat.le_of_ble_eq_true rfl)) d_Md_count_16 ⟨Nat.le_of_ble_eq_true rfl, Nat.le_of_ble_eq_true rfl⟩) hS (fun q _ h => hFc q h) hFc (fun r_1 u t H1 locs ht hvm hw9 hB hz1 hk1 hS => ?_)
  obtain ⟨hP1, hK1, hD1⟩ := hB
  rw [ht] at hP1
  have hK1 := va_K.moved hvm.symm hK1
  obtain ⟨hP, hD⟩ := va_join (wr := []) (w1 := [(m0, .inr (7, [.ref j0, .ref j1, .ref j2, .ref j3, .ref j4, .int 0, .int 0, .int 0, .int ea, .int 0, .int 0, .ref j5, .int el, .ref j6, .ref j7]))]) hP hD [0] [] rfl rfl (by decide) (by decide) hk1 hFc hP1 hD1
  generalize H1 = H at hP hS ⊢
  have hP : va_P (dC, dI) vwCl [(m0, .inr (7, [.ref j0, .ref j1, .ref j2, .ref j3, .ref j4, .int 0, .int 0, .int 0, .int ea, .int 0, .int 0, .ref j5, .int el, .ref j6, .ref j7]))] H := hP
  have hD : va_D A [(m0, .inr (7, [.ref j0, .ref j1, .ref j2, .ref j3, .ref j4, .int 0, .int 0, .int 0, .int ea, .int 0, .int 0, .ref j5, .int el, .ref j6, .ref j7]))] := hD
  refine W.widen (k := 0) (n := 0) (by decide) (by decide) ?_
  have hw9 : r_1 = 1 := hw9
  subst hw9
  refine lv_if_ne (tgt := 24) hx hb d_Md_count_19 (by decide) (fun c_19 => ?_) (fun c_19 => absurd c_19 (by decide))
  refine lv_iload_n hx hb d_Md_count_24 rfl (lv_at hl 1 rfl) ?_
  refine lv_if_ne (tgt := 35) hx hb d_Md_count_25 (by decide) (fun c_25 => ?_) (fun c_25 => ?_)
  · refine lv_iload_n hx hb d_Md_count_35 rfl (lv_at hl 1 rfl) ?_
    refine lv_iconst (v := 1) hx hb d_Md_count_36 (by decide) ?_
    refine lv_icmp_ne (tgt := 47) hx hb d_Md_count_37 (by decide) (fun c_37 => ?_) (fun c_37 => ?_)
    · refine lv_iload_n hx hb d_Md_count_47 rfl (lv_at hl 1 rfl) ?_
      refine lv_iconst (v := 2) hx hb d_Md_count_48 (by decide) ?_
      refine lv_icmp_ne (tgt := 59) hx hb d_Md_count_49 (by decide) (fun c_49 => ?_) (fun c_49 => ?_)
      · refine lv_iload_n hx hb d_Md_count_59 rfl (lv_at hl 1 rfl) ?_
        refine lv_iconst (v := 3) hx hb d_Md_count_60 (by decide) ?_
        refine lv_icmp_ne (tgt := 75) hx hb d_Md_count_61 (by decide) (fun c_61 => ?_) (fun c_61 => ?_)
        · refine lv_iconst (v := 0) hx hb d_Md_count_75 (by decide) ?_
          refine W.widen (k := 0) (n := 0) (by decide) (by decide) ?_
          exact W.iret (v := 0) hx hb hr (fun t ht hW => ⟨⟨0, (), rfl, rfl, by rw [ht]; exact hP, va_K.moved hW.alike hK, hD⟩, hS.F ht⟩) hS.2.2 d_Md_count_76
        · refine lv_aload_n hx hb d_Md_count_64 rfl (lv_at hl 0 rfl) ?_
          refine va_get (D := (dC, dI)) (ci := 7) (v := .int 0) (C := R_Md) (T := F_Md) (N := 15) hx hb hw in_Md hown hK hP 0 rfl rfl 9 (by decide) (hw (Cond.fieldLink "ClauseSearchModel" 46 "ClauseSearchModel" "stands" "Z") k_613) (fun _ h9 => h9) rfl d_Md_count_65 ?_
          refine lv_if_eq (tgt := 75) hx hb d_Md_count_68 (by decide) (fun c_68 => ?_) (fun c_68 => absurd c_68 (by decide))
          refine lv_iconst (v := 0) hx hb d_Md_count_75 (by decide) ?_
          refine W.widen (k := 0) (n := 0) (by decide) (by decide) ?_
          exact W.iret (v := 0) hx hb hr (fun t ht hW => ⟨⟨0, (), rfl, rfl, by rw [ht]; exact hP, va_K.moved hW.alike hK, hD⟩, hS.F ht⟩) hS.2.2 d_Md_count_76
      · refine lv_aload_n hx hb d_Md_count_52 rfl (lv_at hl 0 rfl) ?_
        refine va_get (D := (dC, dI)) (ci := 7) (v := .int 0) (C := R_Md) (T := F_Md) (N := 15) hx hb hw in_Md hown hK hP 0 rfl rfl 7 (by decide) (hw (Cond.fieldLink "ClauseSearchModel" 50 "ClauseSearchModel" "given" "I") k_611) (fun _ h9 => h9) rfl d_Md_count_53 ?_
        refine lv_goto (tgt := 76) hx hb d_Md_count_56 (by decide) ?_
        refine W.widen (k := 0) (n := 0) (by decide) (by decide) ?_
        exact W.iret (v := 0) hx hb hr (fun t ht hW => ⟨⟨0, (), rfl, rfl, by rw [ht]; exact hP, va_K.moved hW.alike hK, hD⟩, hS.F ht⟩) hS.2.2 d_Md_count_76
    · refine lv_aload_n hx hb d_Md_count_40 rfl (lv_at hl 0 rfl) ?_
      refine va_get (D := (dC, dI)) (ci := 7) (v := .int 0) (C := R_Md) (T := F_Md) (N := 15) hx hb hw in_Md hown hK hP 0 rfl rfl 6 (by decide) (hw (Cond.fieldLink "ClauseSearchModel" 53 "ClauseSearchModel" "clauses" "I") k_610) (fun _ h9 => h9) rfl d_Md_count_41 ?_
      refine lv_goto (tgt := 76) hx hb d_Md_count_44 (by decide) ?_
      refine W.widen (k := 0) (n := 0) (by decide) (by decide) ?_
      exact W.iret (v := 0) hx hb hr (fun t ht hW => ⟨⟨0, (), rfl, rfl, by rw [ht]; exact hP, va_K.moved hW.alike hK, hD⟩, hS.F ht⟩) hS.2.2 d_Md_count_76
  · refine lv_aload_n hx hb d_Md_count_28 rfl (lv_at hl 0 rfl) ?_
    refine va_get (D := (dC, dI)) (ci := 7) (v := .int 0) (C := R_Md) (T := F_Md) (N := 15) hx hb hw in_Md hown hK hP 0 rfl rfl 5 (by decide) (hw (Cond.fieldLink "ClauseSearchModel" 43 "ClauseSearchModel" "variables" "I") k_609) (fun _ h9 => h9) rfl d_Md_count_29 ?_
    refine lv_goto (tgt := 76) hx hb d_Md_count_32 (by decide) ?_
    refine W.widen (k := 0) (n := 0) (by decide) (by decide) ?_
    exact W.iret (v := 0) hx hb hr (fun t ht hW => ⟨⟨0, (), rfl, rfl, by rw [ht]; exact hP, va_K.moved hW.alike hK, hD⟩, hS.F ht⟩) hS.2.2 d_Md_count_76
