abbrev y_Md_thrown : MethodName := ⟨"ClauseSearchModel", "thrown", "()I"⟩
abbrev y_Md_good : MethodName := ⟨"ClauseSearchModel", "good", "(ZI)Z"⟩
abbrev y_Md_variables : MethodName := ⟨"ClauseSearchModel", "variables", "(I)I"⟩
abbrev y_Md_give : MethodName := ⟨"ClauseSearchModel", "give", "(I)I"⟩
abbrev y_Md_clause : MethodName := ⟨"ClauseSearchModel", "clause", "()I"⟩
theorem k_21 : (Cond.selects "ClauseSearchModel" ⟨"ClauseSearchModel", "good", "(ZI)Z"⟩ ⟨"ClauseSearchModel", "good", "(ZI)Z"⟩) ∈ bg_W := bg_in 21 (by decide +kernel) (by decide +kernel)
theorem k_658 : (Cond.methodLink "ClauseSearchModel" 39 ⟨"ClauseSearchModel", "good", "(ZI)Z"⟩) ∈ bg_W := bg_in 658 (by decide +kernel) (by decide +kernel)
theorem k_660 : (Cond.instanceMethod ⟨"ClauseSearchModel", "good", "(ZI)Z"⟩) ∈ bg_W := bg_in 660 (by decide +kernel) (by decide +kernel)
theorem k_661 : (Cond.code ⟨"ClauseSearchModel", "good", "(ZI)Z"⟩ prog_9_method_3_code 3 (some .boolean)) ∈ bg_W := bg_in 661 (by decide +kernel) (by decide +kernel)
theorem d_Md_thrown_0 : decode prog_9_method_2_code 0 = .ok (.aload_n 0, 1) := by decide +kernel
theorem d_Md_thrown_1 : decode prog_9_method_2_code 1 = .ok (.getfield 35, 3) := by decide +kernel
theorem d_Md_thrown_4 : decode prog_9_method_2_code 4 = .ok (.ireturn, 1) := by decide +kernel
theorem d_Md_good_0 : decode prog_9_method_3_code 0 = .ok (.aload_n 0, 1) := by decide +kernel
theorem d_Md_good_1 : decode prog_9_method_3_code 1 = .ok (.iload_n 1, 1) := by decide +kernel
theorem d_Md_good_2 : decode prog_9_method_3_code 2 = .ok (.ifCond .eq 7, 3) := by decide +kernel
theorem d_Md_good_5 : decode prog_9_method_3_code 5 = .ok (.iconst 0, 1) := by decide +kernel
theorem d_Md_good_6 : decode prog_9_method_3_code 6 = .ok (.goto 4, 3) := by decide +kernel
theorem d_Md_good_10 : decode prog_9_method_3_code 10 = .ok (.putfield 35, 3) := by decide +kernel
theorem d_Md_good_13 : decode prog_9_method_3_code 13 = .ok (.iload_n 1, 1) := by decide +kernel
theorem d_Md_good_14 : decode prog_9_method_3_code 14 = .ok (.ireturn, 1) := by decide +kernel
theorem d_Md_good_9 : decode prog_9_method_3_code 9 = .ok (.iload_n 2, 1) := by decide +kernel
theorem d_Md_variables_0 : decode prog_9_method_4_code 0 = .ok (.aload_n 0, 1) := by decide +kernel
theorem d_Md_variables_1 : decode prog_9_method_4_code 1 = .ok (.iload_n 1, 1) := by decide +kernel
theorem d_Md_variables_2 : decode prog_9_method_4_code 2 = .ok (.iconst 1, 1) := by decide +kernel
theorem d_Md_variables_3 : decode prog_9_method_4_code 3 = .ok (.if_icmp .lt 14, 3) := by decide +kernel
theorem d_Md_variables_17 : decode prog_9_method_4_code 17 = .ok (.iconst 0, 1) := by decide +kernel
theorem d_Md_variables_18 : decode prog_9_method_4_code 18 = .ok (.iconst 1, 1) := by decide +kernel
theorem d_Md_variables_19 : decode prog_9_method_4_code 19 = .ok (.invokevirtual 39, 3) := by decide +kernel
theorem d_Md_variables_22 : decode prog_9_method_4_code 22 = .ok (.ifCond .eq 28, 3) := by decide +kernel
theorem d_Md_variables_50 : decode prog_9_method_4_code 50 = .ok (.iconst 0, 1) := by decide +kernel
theorem d_Md_variables_51 : decode prog_9_method_4_code 51 = .ok (.ireturn, 1) := by decide +kernel
theorem d_Md_variables_6 : decode prog_9_method_4_code 6 = .ok (.iload_n 1, 1) := by decide +kernel
theorem d_Md_variables_7 : decode prog_9_method_4_code 7 = .ok (.sipush 400, 3) := by decide +kernel
theorem d_Md_variables_10 : decode prog_9_method_4_code 10 = .ok (.if_icmp .gt 7, 3) := by decide +kernel
theorem d_Md_variables_13 : decode prog_9_method_4_code 13 = .ok (.iconst 1, 1) := by decide +kernel
theorem d_Md_variables_14 : decode prog_9_method_4_code 14 = .ok (.goto 4, 3) := by decide +kernel
theorem d_Md_variables_25 : decode prog_9_method_4_code 25 = .ok (.aload_n 0, 1) := by decide +kernel
theorem d_Md_variables_26 : decode prog_9_method_4_code 26 = .ok (.aload_n 0, 1) := by decide +kernel
theorem d_Md_variables_27 : decode prog_9_method_4_code 27 = .ok (.getfield 43, 3) := by decide +kernel
theorem d_Md_variables_30 : decode prog_9_method_4_code 30 = .ok (.iload_n 1, 1) := by decide +kernel
theorem d_Md_variables_31 : decode prog_9_method_4_code 31 = .ok (.iadd, 1) := by decide +kernel
theorem d_Md_variables_32 : decode prog_9_method_4_code 32 = .ok (.sipush 400, 3) := by decide +kernel
theorem d_Md_variables_35 : decode prog_9_method_4_code 35 = .ok (.if_icmp .gt 7, 3) := by decide +kernel
theorem d_Md_variables_42 : decode prog_9_method_4_code 42 = .ok (.iconst 0, 1) := by decide +kernel
theorem d_Md_variables_43 : decode prog_9_method_4_code 43 = .ok (.iconst 2, 1) := by decide +kernel
theorem d_Md_variables_44 : decode prog_9_method_4_code 44 = .ok (.invokevirtual 39, 3) := by decide +kernel
theorem d_Md_variables_47 : decode prog_9_method_4_code 47 = .ok (.ifCond .ne 5, 3) := by decide +kernel
theorem d_Md_variables_38 : decode prog_9_method_4_code 38 = .ok (.iconst 1, 1) := by decide +kernel
theorem d_Md_variables_39 : decode prog_9_method_4_code 39 = .ok (.goto 4, 3) := by decide +kernel
theorem d_Md_variables_52 : decode prog_9_method_4_code 52 = .ok (.aload_n 0, 1) := by decide +kernel
theorem d_Md_variables_53 : decode prog_9_method_4_code 53 = .ok (.dup, 1) := by decide +kernel
theorem d_Md_variables_54 : decode prog_9_method_4_code 54 = .ok (.getfield 43, 3) := by decide +kernel
theorem d_Md_variables_57 : decode prog_9_method_4_code 57 = .ok (.iload_n 1, 1) := by decide +kernel
theorem d_Md_variables_58 : decode prog_9_method_4_code 58 = .ok (.iadd, 1) := by decide +kernel
theorem d_Md_variables_59 : decode prog_9_method_4_code 59 = .ok (.putfield 43, 3) := by decide +kernel
theorem d_Md_variables_62 : decode prog_9_method_4_code 62 = .ok (.aload_n 0, 1) := by decide +kernel
theorem d_Md_variables_63 : decode prog_9_method_4_code 63 = .ok (.iconst 0, 1) := by decide +kernel
theorem d_Md_variables_64 : decode prog_9_method_4_code 64 = .ok (.putfield 46, 3) := by decide +kernel
theorem d_Md_variables_67 : decode prog_9_method_4_code 67 = .ok (.aload_n 0, 1) := by decide +kernel
theorem d_Md_variables_68 : decode prog_9_method_4_code 68 = .ok (.getfield 43, 3) := by decide +kernel
theorem d_Md_variables_71 : decode prog_9_method_4_code 71 = .ok (.ireturn, 1) := by decide +kernel
theorem d_Md_give_0 : decode prog_9_method_5_code 0 = .ok (.iload_n 1, 1) := by decide +kernel
theorem d_Md_give_1 : decode prog_9_method_5_code 1 = .ok (.ifCond .eq 24, 3) := by decide +kernel
theorem d_Md_give_25 : decode prog_9_method_5_code 25 = .ok (.iconst 0, 1) := by decide +kernel
theorem d_Md_give_26 : decode prog_9_method_5_code 26 = .ok (.istore_n 2, 1) := by decide +kernel
theorem d_Md_give_27 : decode prog_9_method_5_code 27 = .ok (.aload_n 0, 1) := by decide +kernel
theorem d_Md_give_28 : decode prog_9_method_5_code 28 = .ok (.iload_n 2, 1) := by decide +kernel
theorem d_Md_give_29 : decode prog_9_method_5_code 29 = .ok (.iconst 1, 1) := by decide +kernel
theorem d_Md_give_30 : decode prog_9_method_5_code 30 = .ok (.invokevirtual 39, 3) := by decide +kernel
theorem d_Md_give_33 : decode prog_9_method_5_code 33 = .ok (.ifCond .eq 25, 3) := by decide +kernel
theorem d_Md_give_58 : decode prog_9_method_5_code 58 = .ok (.iconst 0, 1) := by decide +kernel
theorem d_Md_give_59 : decode prog_9_method_5_code 59 = .ok (.ireturn, 1) := by decide +kernel
theorem d_Md_give_4 : decode prog_9_method_5_code 4 = .ok (.iload_n 1, 1) := by decide +kernel
theorem d_Md_give_5 : decode prog_9_method_5_code 5 = .ok (.aload_n 0, 1) := by decide +kernel
theorem d_Md_give_6 : decode prog_9_method_5_code 6 = .ok (.getfield 43, 3) := by decide +kernel
theorem d_Md_give_9 : decode prog_9_method_5_code 9 = .ok (.ineg, 1) := by decide +kernel
theorem d_Md_give_10 : decode prog_9_method_5_code 10 = .ok (.if_icmp .lt 15, 3) := by decide +kernel
theorem d_Md_give_13 : decode prog_9_method_5_code 13 = .ok (.iload_n 1, 1) := by decide +kernel
theorem d_Md_give_14 : decode prog_9_method_5_code 14 = .ok (.aload_n 0, 1) := by decide +kernel
theorem d_Md_give_15 : decode prog_9_method_5_code 15 = .ok (.getfield 43, 3) := by decide +kernel
theorem d_Md_give_18 : decode prog_9_method_5_code 18 = .ok (.if_icmp .gt 7, 3) := by decide +kernel
theorem d_Md_give_21 : decode prog_9_method_5_code 21 = .ok (.iconst 1, 1) := by decide +kernel
theorem d_Md_give_22 : decode prog_9_method_5_code 22 = .ok (.goto 4, 3) := by decide +kernel
theorem d_Md_give_36 : decode prog_9_method_5_code 36 = .ok (.aload_n 0, 1) := by decide +kernel
theorem d_Md_give_37 : decode prog_9_method_5_code 37 = .ok (.aload_n 0, 1) := by decide +kernel
theorem d_Md_give_38 : decode prog_9_method_5_code 38 = .ok (.getfield 50, 3) := by decide +kernel
theorem d_Md_give_41 : decode prog_9_method_5_code 41 = .ok (.bipush 20, 2) := by decide +kernel
theorem d_Md_give_43 : decode prog_9_method_5_code 43 = .ok (.if_icmp .ge 7, 3) := by decide +kernel
theorem d_Md_give_50 : decode prog_9_method_5_code 50 = .ok (.iconst 0, 1) := by decide +kernel
theorem d_Md_give_51 : decode prog_9_method_5_code 51 = .ok (.iconst 2, 1) := by decide +kernel
theorem d_Md_give_52 : decode prog_9_method_5_code 52 = .ok (.invokevirtual 39, 3) := by decide +kernel
theorem d_Md_give_55 : decode prog_9_method_5_code 55 = .ok (.ifCond .ne 5, 3) := by decide +kernel
theorem d_Md_give_46 : decode prog_9_method_5_code 46 = .ok (.iconst 1, 1) := by decide +kernel
theorem d_Md_give_47 : decode prog_9_method_5_code 47 = .ok (.goto 4, 3) := by decide +kernel
theorem d_Md_give_60 : decode prog_9_method_5_code 60 = .ok (.aload_n 0, 1) := by decide +kernel
theorem d_Md_give_61 : decode prog_9_method_5_code 61 = .ok (.getfield 17, 3) := by decide +kernel
theorem d_Md_give_64 : decode prog_9_method_5_code 64 = .ok (.aload_n 0, 1) := by decide +kernel
theorem d_Md_give_65 : decode prog_9_method_5_code 65 = .ok (.getfield 50, 3) := by decide +kernel
theorem d_Md_give_68 : decode prog_9_method_5_code 68 = .ok (.iload_n 1, 1) := by decide +kernel
theorem d_Md_give_69 : decode prog_9_method_5_code 69 = .ok (.iastore, 1) := by decide +kernel
theorem d_Md_give_70 : decode prog_9_method_5_code 70 = .ok (.aload_n 0, 1) := by decide +kernel
theorem d_Md_give_71 : decode prog_9_method_5_code 71 = .ok (.dup, 1) := by decide +kernel
theorem d_Md_give_72 : decode prog_9_method_5_code 72 = .ok (.getfield 50, 3) := by decide +kernel
theorem d_Md_give_75 : decode prog_9_method_5_code 75 = .ok (.iconst 1, 1) := by decide +kernel
theorem d_Md_give_76 : decode prog_9_method_5_code 76 = .ok (.iadd, 1) := by decide +kernel
theorem d_Md_give_77 : decode prog_9_method_5_code 77 = .ok (.putfield 50, 3) := by decide +kernel
theorem d_Md_give_80 : decode prog_9_method_5_code 80 = .ok (.aload_n 0, 1) := by decide +kernel
theorem d_Md_give_81 : decode prog_9_method_5_code 81 = .ok (.getfield 50, 3) := by decide +kernel
theorem d_Md_give_84 : decode prog_9_method_5_code 84 = .ok (.ireturn, 1) := by decide +kernel
theorem d_Md_clause_0 : decode prog_9_method_6_code 0 = .ok (.aload_n 0, 1) := by decide +kernel
theorem d_Md_clause_1 : decode prog_9_method_6_code 1 = .ok (.aload_n 0, 1) := by decide +kernel
theorem d_Md_clause_2 : decode prog_9_method_6_code 2 = .ok (.getfield 50, 3) := by decide +kernel
theorem d_Md_clause_5 : decode prog_9_method_6_code 5 = .ok (.ifCond .le 7, 3) := by decide +kernel
theorem d_Md_clause_12 : decode prog_9_method_6_code 12 = .ok (.iconst 0, 1) := by decide +kernel
theorem d_Md_clause_13 : decode prog_9_method_6_code 13 = .ok (.iconst 1, 1) := by decide +kernel
theorem d_Md_clause_14 : decode prog_9_method_6_code 14 = .ok (.invokevirtual 39, 3) := by decide +kernel
theorem d_Md_clause_17 : decode prog_9_method_6_code 17 = .ok (.ifCond .eq 26, 3) := by decide +kernel
theorem d_Md_clause_43 : decode prog_9_method_6_code 43 = .ok (.iconst 0, 1) := by decide +kernel
theorem d_Md_clause_44 : decode prog_9_method_6_code 44 = .ok (.ireturn, 1) := by decide +kernel
set_option maxHeartbeats 4000000 in
set_option maxRecDepth 100000 in
/-- thrown() -/
theorem c_Md_thrown (l : Launch) (dC : Nat → ClassId) (dI : Nat → Nat → Nat) (e0 : Nat) (e1 : Nat) (e2 : Nat) (e3 : Nat) (e4 : Nat) (e5 : Nat) (e6 : Nat) (e7 : Nat) (e8 : Nat) (sz : Nat) (o : Dx) (cx : Int32) : Met l y_Md_thrown (wq y_Md_thrown prog_9_method_2_code 1 (some .int)) ({ frames := 0, cells := 0, slots := 0, locals := 0 }) (va_Pc [.ref e0] (fun U => U.heap.size = sz ∧ va_P (dC, dI) vwCl [(e0, .inr (7, [.ref e1, .ref e2, .ref e3, .ref e4, .ref e5, .int (nI o.vc), .int (nI o.cl), .int (nI o.gv), .int (nI o.na), .int o.sd, .int cx, .ref e6, .int (nI o.ln), .ref e7, .ref e8]))] U.heap ∧ va_K (dC, dI) vwCl [] U ∧ va_D (fun _ => True) [(e0, .inr (7, [.ref e1, .ref e2, .ref e3, .ref e4, .ref e5, .int (nI o.vc), .int (nI o.cl), .int (nI o.gv), .int (nI o.na), .int o.sd, .int cx, .ref e6, .int (nI o.ln), .ref e7, .ref e8]))])) (va_Qi (fun (r : Int32) (r9 : Int32) => r = r9) (fun (r9 : Int32) t => r9 = cx ∧ va_P (dC, dI) vwCl [(e0, .inr (7, [.ref e1, .ref e2, .ref e3, .ref e4, .ref e5, .int (nI o.vc), .int (nI o.cl), .int (nI o.gv), .int (nI o.na), .int o.sd, .int cx, .ref e6, .int (nI o.ln), .ref e7, .ref e8]))] t.heap ∧ va_K (dC, dI) vwCl [] t ∧ va_D (va_A [(e0, .inr (7, [.ref e1, .ref e2, .ref e3, .ref e4, .ref e5, .int (nI o.vc), .int (nI o.cl), .int (nI o.gv), .int (nI o.na), .int o.sd, .int cx, .ref e6, .int (nI o.ln), .ref e7, .ref e8]))] sz) [(e0, .inr (7, [.ref e1, .ref e2, .ref e3, .ref e4, .ref e5, .int (nI o.vc), .int (nI o.cl), .int (nI o.gv), .int (nI o.na), .int o.sd, .int cx, .ref e6, .int (nI o.ln), .ref e7, .ref e8]))]) (va_A [(e0, .inr (7, [.ref e1, .ref e2, .ref e3, .ref e4, .ref e5, .int (nI o.vc), .int (nI o.cl), .int (nI o.gv), .int (nI o.na), .int o.sd, .int cx, .ref e6, .int (nI o.ln), .ref e7, .ref e8]))] sz)) (0) (0) (va_A [(e0, .inr (7, [.ref e1, .ref e2, .ref e3, .ref e4, .ref e5, .int (nI o.vc), .int (nI o.cl), .int (nI o.gv), .int (nI o.na), .int o.sd, .int cx, .ref e6, .int (nI o.ln), .ref e7, .ref e8]))] sz) := by
  refine Met.ofW (cc := prog_9_method_2_code) (maxL := 1) (ret := (some .int)) (by decide) rfl ?_
  intro p e s m args below meth c s₁ B hml hv
  obtain ⟨rfl, hsz, hP, hK, hD0⟩ := hv
  have hx := B.exec
  have hb := B.bytes
  have hr := B.returns
  have hw : ∀ w ∈ bg_W, w.before #[Value.ref e0] s = true := fun w h => atoms_spec (ws := (wq y_Md_thrown prog_9_method_2_code 1 (some .int))) B.pre w (List.mem_cons_of_mem _ h)
  have hown : s.vm.findClass R_Md = some m.cls := findClass_of_methodNamed B.named
  have hlocks := B.notSynchronized
  subst hsz
  have hD := hD0.self (sz := s.heap.size)
  generalize hAe : va_A [(e0, .inr (7, [.ref e1, .ref e2, .ref e3, .ref e4, .ref e5, .int (nI o.vc), .int (nI o.cl), .int (nI o.gv), .int (nI o.na), .int o.sd, .int cx, .ref e6, .int (nI o.ln), .ref e7, .ref e8]))] s.heap.size = A at hD ⊢
  have hA : ∀ q : Nat, s.heap.size ≤ q → A q := fun q h => by rw [← hAe]; exact Or.inr h
  have hS : va_S A s.heap s.heap [] := va_S.rf
  have hP : va_P (dC, dI) vwCl [(e0, .inr (7, [.ref e1, .ref e2, .ref e3, .ref e4, .ref e5, .int (nI o.vc), .int (nI o.cl), .int (nI o.gv), .int (nI o.na), .int o.sd, .int cx, .ref e6, .int (nI o.ln), .ref e7, .ref e8]))] s.heap := hP
  have hl := lv_entry ([.ref e0]) (n := 1) (Nat.le_of_ble_eq_true rfl)
  rw [lg_entry_eq]
  generalize (lg_sl ([.ref e0]) ++ List.replicate (1 - (lg_sl ([.ref e0])).length) Slot.unset).toArray = ls at hl ⊢
  have hl : lv_has ls 1 [(0, .ref e0)] := hl
  obtain ⟨H, hH⟩ : ∃ H : Heap, H = s.heap := ⟨_, rfl⟩
  rw [← hH] at hP
  have hS : va_S A s.heap H [] := by rw [hH]; exact va_S.rf
  show W p l e _ s m _ below meth c s.heap [] 0 0 _ _
  rw [← hH]
  refine lv_aload_n hx hb d_Md_thrown_0 rfl (lv_at hl 0 rfl) ?_
  refine va_get (D := (dC, dI)) (ci := 7) (v := .int cx) (C := R_Md) (T := F_Md) (N := 15) hx hb hw in_Md hown hK hP 0 rfl rfl 10 (by decide) (hw (Cond.fieldLink "ClauseSearchModel" 35 "ClauseSearchModel" "code" "I") k_614) (fun _ h9 => h9) rfl d_Md_thrown_1 ?_
  have hK := hK.sub (tys' := []) [] rfl
  refine W.widen (k := 0) (n := 0) (by decide) (by decide) ?_
  exact W.iret (v := cx) hx hb hr (fun t ht hW => ⟨⟨cx, cx, rfl, rfl, rfl, by rw [ht]; exact hP, va_K.moved hW.alike hK, hD⟩, hS.F ht⟩) hS.2.2 d_Md_thrown_4

set_option maxHeartbeats 4000000 in
set_option maxRecDepth 100000 in
/-- good(true, c) -/
theorem c_Md_good_1 (l : Launch) (dC : Nat → ClassId) (dI : Nat → Nat → Nat) (e0 : Nat) (e1 : Nat) (e2 : Nat) (e3 : Nat) (e4 : Nat) (e5 : Nat) (e6 : Nat) (e7 : Nat) (e8 : Nat) (sz : Nat) (o : Dx) (cx : Int32) : Met l y_Md_good (wq y_Md_good prog_9_method_3_code 3 (some .boolean)) ({ frames := 0, cells := 0, slots := 0, locals := 0 }) (va_Pc [.ref e0, .int 1, .int cx] (fun U => U.heap.size = sz ∧ va_P (dC, dI) vwCl [(e0, .inr (7, [.ref e1, .ref e2, .ref e3, .ref e4, .ref e5, .int (nI o.vc), .int (nI o.cl), .int (nI o.gv), .int (nI o.na), .int o.sd, .int o.cd, .ref e6, .int (nI o.ln), .ref e7, .ref e8]))] U.heap ∧ va_K (dC, dI) vwCl [] U ∧ va_D (fun _ => True) [(e0, .inr (7, [.ref e1, .ref e2, .ref e3, .ref e4, .ref e5, .int (nI o.vc), .int (nI o.cl), .int (nI o.gv), .int (nI o.na), .int o.sd, .int o.cd, .ref e6, .int (nI o.ln), .ref e7, .ref e8]))])) (va_Qi (fun (r : Int32) (r9 : Int32) => r = r9) (fun (r9 : Int32) t => r9 = 1 ∧ va_P (dC, dI) vwCl [(e0, .inr (7, [.ref e1, .ref e2, .ref e3, .ref e4, .ref e5, .int (nI o.vc), .int (nI o.cl), .int (nI o.gv), .int (nI o.na), .int o.sd, .int 0, .ref e6, .int (nI o.ln), .ref e7, .ref e8]))] t.heap ∧ va_K (dC, dI) vwCl [] t ∧ va_D (va_A [(e0, .inr (7, [.ref e1, .ref e2, .ref e3, .ref e4, .ref e5, .int (nI o.vc), .int (nI o.cl), .int (nI o.gv), .int (nI o.na), .int o.sd, .int o.cd, .ref e6, .int (nI o.ln), .ref e7, .ref e8]))] sz) [(e0, .inr (7, [.ref e1, .ref e2, .ref e3, .ref e4, .ref e5, .int (nI o.vc), .int (nI o.cl), .int (nI o.gv), .int (nI o.na), .int o.sd, .int 0, .ref e6, .int (nI o.ln), .ref e7, .ref e8]))]) (va_A [(e0, .inr (7, [.ref e1, .ref e2, .ref e3, .ref e4, .ref e5, .int (nI o.vc), .int (nI o.cl), .int (nI o.gv), .int (nI o.na), .int o.sd, .int o.cd, .ref e6, .int (nI o.ln), .ref e7, .ref e8]))] sz)) (0) (0) (va_A [(e0, .inr (7, [.ref e1, .ref e2, .ref e3, .ref e4, .ref e5, .int (nI o.vc), .int (nI o.cl), .int (nI o.gv), .int (nI o.na), .int o.sd, .int o.cd, .ref e6, .int (nI o.ln), .ref e7, .ref e8]))] sz) := by
  refine Met.ofW (cc := prog_9_method_3_code) (maxL := 3) (ret := (some .boolean)) (by decide) rfl ?_
  intro p e s m args below meth c s₁ B hml hv
  obtain ⟨rfl, hsz, hP, hK, hD0⟩ := hv
  have hx := B.exec
  have hb := B.bytes
  have hr := B.returns
  have hw : ∀ w ∈ bg_W, w.before #[Value.ref e0, Value.int 1, Value.int cx] s = true := fun w h => atoms_spec (ws := (wq y_Md_good prog_9_method_3_code 3 (some .boolean))) B.pre w (List.mem_cons_of_mem _ h)
  have hown : s.vm.findClass R_Md = some m.cls := findClass_of_methodNamed B.named
  have hlocks := B.notSynchronized
  subst hsz
  have hD := hD0.self (sz := s.heap.size)
  generalize hAe : va_A [(e0, .inr (7, [.ref e1, .ref e2, .ref e3, .ref e4, .ref e5, .int (nI o.vc), .int (nI o.cl), .int (nI o.gv), .int (nI o.na), .int o.sd, .int o.cd, .ref e6, .int (nI o.ln), .ref e7, .ref e8]))] s.heap.size = A at hD ⊢
  have hA : ∀ q : Nat, s.heap.size ≤ q → A q := fun q h => by rw [← hAe]; exact Or.inr h
  have hS : va_S A s.heap s.heap [] := va_S.rf
  have hP : va_P (dC, dI) vwCl [(e0, .inr (7, [.ref e1, .ref e2, .ref e3, .ref e4, .ref e5, .int (nI o.vc), .int (nI o.cl), .int (nI o.gv), .int (nI o.na), .int o.sd, .int o.cd, .ref e6, .int (nI o.ln), .ref e7, .ref e8]))] s.heap := hP
  have hl := lv_entry ([.ref e0, .int 1, .int cx]) (n := 3) (Nat.le_of_ble_eq_true rfl)
  rw [lg_entry_eq]
  generalize (lg_sl ([.ref e0, .int 1, .int cx]) ++ List.replicate (3 - (lg_sl ([.ref e0, .int 1, .int cx])).length) Slot.unset).toArray = ls at hl ⊢
  have hl : lv_has ls 3 [(0, .ref e0), (1, .int 1), (2, .int cx)] := hl
  obtain ⟨H, hH⟩ : ∃ H : Heap, H = s.heap := ⟨_, rfl⟩
  rw [← hH] at hP
  have hS : va_S A s.heap H [] := by rw [hH]; exact va_S.rf
  show W p l e _ s m _ below meth c s.heap [] 0 0 _ _
  rw [← hH]
  refine lv_aload_n hx hb d_Md_good_0 rfl (lv_at hl 0 rfl) ?_
  refine lv_iload_n hx hb d_Md_good_1 rfl (lv_at hl 1 rfl) ?_
  refine lv_if_eq (tgt := 9) hx hb d_Md_good_2 (by decide) (fun c_2 => absurd c_2 (by decide)) (fun c_2 => ?_)
  refine lv_iconst (v := 0) hx hb d_Md_good_5 (by decide) ?_
  refine lv_goto (tgt := 10) hx hb d_Md_good_6 (by decide) ?_
  refine va_put (D := (dC, dI)) (ci := 7) (v := .int 0) (ty := .int) (C := R_Md) (T := F_Md) (N := 15) hx hb hw in_Md t_Md t_Md_ok n_Md hown hK hP hD hS 0 rfl rfl 10 (by decide) (hw (Cond.fieldLink "ClauseSearchModel" 35 "ClauseSearchModel" "code" "I") k_614) (fun _ h9 => h9) rfl (by decide +kernel) rfl rfl (Nat.le_of_ble_eq_true rfl) d_Md_good_10 (fun H locs hP hD hS => ?_)
  have hP : va_P (dC, dI) vwCl [(e0, .inr (7, [.ref e1, .ref e2, .ref e3, .ref e4, .ref e5, .int (nI o.vc), .int (nI o.cl), .int (nI o.gv), .int (nI o.na), .int o.sd, .int 0, .ref e6, .int (nI o.ln), .ref e7, .ref e8]))] H := hP
  have hD : va_D A [(e0, .inr (7, [.ref e1, .ref e2, .ref e3, .ref e4, .ref e5, .int (nI o.vc), .int (nI o.cl), .int (nI o.gv), .int (nI o.na), .int o.sd, .int 0, .ref e6, .int (nI o.ln), .ref e7, .ref e8]))] := hD
  refine lv_iload_n hx hb d_Md_good_13 rfl (lv_at hl 1 rfl) ?_
  have hK := hK.sub (tys' := []) [] rfl
  refine W.widen (k := 0) (n := 0) (by decide) (by decide) ?_
  exact W.zret (v := 1) hx hb hr rfl (fun t ht hW => ⟨⟨1, 1, rfl, rfl, rfl, by rw [ht]; exact hP, va_K.moved hW.alike hK, hD⟩, hS.F ht⟩) hS.2.2 d_Md_good_14

set_option maxHeartbeats 4000000 in
set_option maxRecDepth 100000 in
/-- good(false, c) -/
theorem c_Md_good_0 (l : Launch) (dC : Nat → ClassId) (dI : Nat → Nat → Nat) (e0 : Nat) (e1 : Nat) (e2 : Nat) (e3 : Nat) (e4 : Nat) (e5 : Nat) (e6 : Nat) (e7 : Nat) (e8 : Nat) (sz : Nat) (o : Dx) (cx : Int32) : Met l y_Md_good (wq y_Md_good prog_9_method_3_code 3 (some .boolean)) ({ frames := 0, cells := 0, slots := 0, locals := 0 }) (va_Pc [.ref e0, .int 0, .int cx] (fun U => U.heap.size = sz ∧ va_P (dC, dI) vwCl [(e0, .inr (7, [.ref e1, .ref e2, .ref e3, .ref e4, .ref e5, .int (nI o.vc), .int (nI o.cl), .int (nI o.gv), .int (nI o.na), .int o.sd, .int o.cd, .ref e6, .int (nI o.ln), .ref e7, .ref e8]))] U.heap ∧ va_K (dC, dI) vwCl [] U ∧ va_D (fun _ => True) [(e0, .inr (7, [.ref e1, .ref e2, .ref e3, .ref e4, .ref e5, .int (nI o.vc), .int (nI o.cl), .int (nI o.gv), .int (nI o.na), .int o.sd, .int o.cd, .ref e6, .int (nI o.ln), .ref e7, .ref e8]))])) (va_Qi (fun (r : Int32) (r9 : Int32) => r = r9) (fun (r9 : Int32) t => r9 = 0 ∧ va_P (dC, dI) vwCl [(e0, .inr (7, [.ref e1, .ref e2, .ref e3, .ref e4, .ref e5, .int (nI o.vc), .int (nI o.cl), .int (nI o.gv), .int (nI o.na), .int o.sd, .int cx, .ref e6, .int (nI o.ln), .ref e7, .ref e8]))] t.heap ∧ va_K (dC, dI) vwCl [] t ∧ va_D (va_A [(e0, .inr (7, [.ref e1, .ref e2, .ref e3, .ref e4, .ref e5, .int (nI o.vc), .int (nI o.cl), .int (nI o.gv), .int (nI o.na), .int o.sd, .int o.cd, .ref e6, .int (nI o.ln), .ref e7, .ref e8]))] sz) [(e0, .inr (7, [.ref e1, .ref e2, .ref e3, .ref e4, .ref e5, .int (nI o.vc), .int (nI o.cl), .int (nI o.gv), .int (nI o.na), .int o.sd, .int cx, .ref e6, .int (nI o.ln), .ref e7, .ref e8]))]) (va_A [(e0, .inr (7, [.ref e1, .ref e2, .ref e3, .ref e4, .ref e5, .int (nI o.vc), .int (nI o.cl), .int (nI o.gv), .int (nI o.na), .int o.sd, .int o.cd, .ref e6, .int (nI o.ln), .ref e7, .ref e8]))] sz)) (0) (0) (va_A [(e0, .inr (7, [.ref e1, .ref e2, .ref e3, .ref e4, .ref e5, .int (nI o.vc), .int (nI o.cl), .int (nI o.gv), .int (nI o.na), .int o.sd, .int o.cd, .ref e6, .int (nI o.ln), .ref e7, .ref e8]))] sz) := by
  refine Met.ofW (cc := prog_9_method_3_code) (maxL := 3) (ret := (some .boolean)) (by decide) rfl ?_
  intro p e s m args below meth c s₁ B hml hv
  obtain ⟨rfl, hsz, hP, hK, hD0⟩ := hv
  have hx := B.exec
  have hb := B.bytes
  have hr := B.returns
  have hw : ∀ w ∈ bg_W, w.before #[Value.ref e0, Value.int 0, Value.int cx] s = true := fun w h => atoms_spec (ws := (wq y_Md_good prog_9_method_3_code 3 (some .boolean))) B.pre w (List.mem_cons_of_mem _ h)
  have hown : s.vm.findClass R_Md = some m.cls := findClass_of_methodNamed B.named
  have hlocks := B.notSynchronized
  subst hsz
  have hD := hD0.self (sz := s.heap.size)
  generalize hAe : va_A [(e0, .inr (7, [.ref e1, .ref e2, .ref e3, .ref e4, .ref e5, .int (nI o.vc), .int (nI o.cl), .int (nI o.gv), .int (nI o.na), .int o.sd, .int o.cd, .ref e6, .int (nI o.ln), .ref e7, .ref e8]))] s.heap.size = A at hD ⊢
  have hA : ∀ q : Nat, s.heap.size ≤ q → A q := fun q h => by rw [← hAe]; exact Or.inr h
  have hS : va_S A s.heap s.heap [] := va_S.rf
  have hP : va_P (dC, dI) vwCl [(e0, .inr (7, [.ref e1, .ref e2, .ref e3, .ref e4, .ref e5, .int (nI o.vc), .int (nI o.cl), .int (nI o.gv), .int (nI o.na), .int o.sd, .int o.cd, .ref e6, .int (nI o.ln), .ref e7, .ref e8]))] s.heap := hP
  have hl := lv_entry ([.ref e0, .int 0, .int cx]) (n := 3) (Nat.le_of_ble_eq_true rfl)
  rw [lg_entry_eq]
  generalize (lg_sl ([.ref e0, .int 0, .int cx]) ++ List.replicate (3 - (lg_sl ([.ref e0, .int 0, .int cx])).length) Slot.unset).toArray = ls at hl ⊢
  have hl : lv_has ls 3 [(0, .ref e0), (1, .int 0), (2, .int cx)] := hl
  obtain ⟨H, hH⟩ : ∃ H : Heap, H = s.heap := ⟨_, rfl⟩
  rw [← hH] at hP
  have hS : va_S A s.heap H [] := by rw [hH]; exact va_S.rf
  show W p l e _ s m _ below meth c s.heap [] 0 0 _ _
  rw [← hH]
  refine lv_aload_n hx hb d_Md_good_0 rfl (lv_at hl 0 rfl) ?_
  refine lv_iload_n hx hb d_Md_good_1 rfl (lv_at hl 1 rfl) ?_
  refine lv_if_eq (tgt := 9) hx hb d_Md_good_2 (by decide) (fun c_2 => ?_) (fun c_2 => absurd c_2 (by decide))
  refine lv_iload_n hx hb d_Md_good_9 rfl (lv_at hl 2 rfl) ?_
  refine va_put (D := (dC, dI)) (ci := 7) (v := .int cx) (ty := .int) (C := R_Md) (T := F_Md) (N := 15) hx hb hw in_Md t_Md t_Md_ok n_Md hown hK hP hD hS 0 rfl rfl 10 (by decide) (hw (Cond.fieldLink "ClauseSearchModel" 35 "ClauseSearchModel" "code" "I") k_614) (fun _ h9 => h9) rfl (by decide +kernel) rfl rfl (Nat.le_of_ble_eq_true rfl) d_Md_good_10 (fun H locs hP hD hS => ?_)
  have hP : va_P (dC, dI) vwCl [(e0, .inr (7, [.ref e1, .ref e2, .ref e3, .ref e4, .ref e5, .int (nI o.vc), .int (nI o.cl), .int (nI o.gv), .int (nI o.na), .int o.sd, .int cx, .ref e6, .int (nI o.ln), .ref e7, .ref e8]))] H := hP
  have hD : va_D A [(e0, .inr (7, [.ref e1, .ref e2, .ref e3, .ref e4, .ref e5, .int (nI o.vc), .int (nI o.cl), .int (nI o.gv), .int (nI o.na), .int o.sd, .int cx, .ref e6, .int (nI o.ln), .ref e7, .ref e8]))] := hD
  refine lv_iload_n hx hb d_Md_good_13 rfl (lv_at hl 1 rfl) ?_
  have hK := hK.sub (tys' := []) [] rfl
  refine W.widen (k := 0) (n := 0) (by decide) (by decide) ?_
  exact W.zret (v := 0) hx hb hr rfl (fun t ht hW => ⟨⟨0, 0, rfl, rfl, rfl, by rw [ht]; exact hP, va_K.moved hW.alike hK, hD⟩, hS.F ht⟩) hS.2.2 d_Md_good_14

set_option maxHeartbeats 4000000 in
set_option maxRecDepth 100000 in
/-- variables(n) refuses n -/
theorem c_Md_variables_1 (l : Launch) (dC : Nat → ClassId) (dI : Nat → Nat → Nat) (e0 : Nat) (e1 : Nat) (e2 : Nat) (e3 : Nat) (e4 : Nat) (e5 : Nat) (e6 : Nat) (e7 : Nat) (e8 : Nat) (sz : Nat) (o : Dx) (p0 : Int32) (h : p0 < 1 ∨ 400 < p0) : Met l y_Md_variables (wq y_Md_variables prog_9_method_4_code 2 (some .int)) ({ frames := 1, cells := 0, slots := 0, locals := 22 }) (va_Pc [.ref e0, .int p0] (fun U => U.heap.size = sz ∧ va_P (dC, dI) vwCl [(e0, .inr (7, [.ref e1, .ref e2, .ref e3, .ref e4, .ref e5, .int (nI o.vc), .int (nI o.cl), .int (nI o.gv), .int (nI o.na), .int o.sd, .int o.cd, .ref e6, .int (nI o.ln), .ref e7, .ref e8]))] U.heap ∧ va_K (dC, dI) vwCl [] U ∧ va_D (fun _ => True) [(e0, .inr (7, [.ref e1, .ref e2, .ref e3, .ref e4, .ref e5, .int (nI o.vc), .int (nI o.cl), .int (nI o.gv), .int (nI o.na), .int o.sd, .int o.cd, .ref e6, .int (nI o.ln), .ref e7, .ref e8]))])) (va_Qi (fun (r : Int32) (r9 : Int32) => r = r9) (fun (r9 : Int32) t => r9 = 0 ∧ va_P (dC, dI) vwCl [(e0, .inr (7, [.ref e1, .ref e2, .ref e3, .ref e4, .ref e5, .int (nI o.vc), .int (nI o.cl), .int (nI o.gv), .int (nI o.na), .int o.sd, .int 1, .ref e6, .int (nI o.ln), .ref e7, .ref e8]))] t.heap ∧ va_K (dC, dI) vwCl [] t ∧ va_D (va_A [(e0, .inr (7, [.ref e1, .ref e2, .ref e3, .ref e4, .ref e5, .int (nI o.vc), .int (nI o.cl), .int (nI o.gv), .int (nI o.na), .int o.sd, .int o.cd, .ref e6, .int (nI o.ln), .ref e7, .ref e8]))] sz) [(e0, .inr (7, [.ref e1, .ref e2, .ref e3, .ref e4, .ref e5, .int (nI o.vc), .int (nI o.cl), .int (nI o.gv), .int (nI o.na), .int o.sd, .int 1, .ref e6, .int (nI o.ln), .ref e7, .ref e8]))]) (va_A [(e0, .inr (7, [.ref e1, .ref e2, .ref e3, .ref e4, .ref e5, .int (nI o.vc), .int (nI o.cl), .int (nI o.gv), .int (nI o.na), .int o.sd, .int o.cd, .ref e6, .int (nI o.ln), .ref e7, .ref e8]))] sz)) (0) (0) (va_A [(e0, .inr (7, [.ref e1, .ref e2, .ref e3, .ref e4, .ref e5, .int (nI o.vc), .int (nI o.cl), .int (nI o.gv), .int (nI o.na), .int o.sd, .int o.cd, .ref e6, .int (nI o.ln), .ref e7, .ref e8]))] sz) := by
  refine Met.ofW (cc := prog_9_method_4_code) (maxL := 2) (ret := (some .int)) (by decide) rfl ?_
  intro p e s m args below meth c s₁ B hml hv
  obtain ⟨rfl, hsz, hP, hK, hD0⟩ := hv
  have hx := B.exec
  have hb := B.bytes
  have hr := B.returns
  have hw : ∀ w ∈ bg_W, w.before #[Value.ref e0, Value.int p0] s = true := fun w h => atoms_spec (ws := (wq y_Md_variables prog_9_method_4_code 2 (some .int))) B.pre w (List.mem_cons_of_mem _ h)
  have hown : s.vm.findClass R_Md = some m.cls := findClass_of_methodNamed B.named
  have hlocks := B.notSynchronized
  subst hsz
  have hD := hD0.self (sz := s.heap.size)
  generalize hAe : va_A [(e0, .inr (7, [.ref e1, .ref e2, .ref e3, .ref e4, .ref e5, .int (nI o.vc), .int (nI o.cl), .int (nI o.gv), .int (nI o.na), .int o.sd, .int o.cd, .ref e6, .int (nI o.ln), .ref e7, .ref e8]))] s.heap.size = A at hD ⊢
  have hA : ∀ q : Nat, s.heap.size ≤ q → A q := fun q h => by rw [← hAe]; exact Or.inr h
  have hS : va_S A s.heap s.heap [] := va_S.rf
  have hP : va_P (dC, dI) vwCl [(e0, .inr (7, [.ref e1, .ref e2, .ref e3, .ref e4, .ref e5, .int (nI o.vc), .int (nI o.cl), .int (nI o.gv), .int (nI o.na), .int o.sd, .int o.cd, .ref e6, .int (nI o.ln), .ref e7, .ref e8]))] s.heap := hP
  have hl := lv_entry ([.ref e0, .int p0]) (n := 2) (Nat.le_of_ble_eq_true rfl)
  rw [lg_entry_eq]
  generalize (lg_sl ([.ref e0, .int p0]) ++ List.replicate (2 - (lg_sl ([.ref e0, .int p0])).length) Slot.unset).toArray = ls at hl ⊢
  have hl : lv_has ls 2 [(0, .ref e0), (1, .int p0)] := hl
  obtain ⟨H, hH⟩ : ∃ H : Heap, H = s.heap := ⟨_, rfl⟩
  rw [← hH] at hP
  have hS : va_S A s.heap H [] := by rw [hH]; exact va_S.rf
  show W p l e _ s m _ below meth c s.heap [] 0 0 _ _
  rw [← hH]
  refine lv_aload_n hx hb d_Md_variables_0 rfl (lv_at hl 0 rfl) ?_
  refine lv_iload_n hx hb d_Md_variables_1 rfl (lv_at hl 1 rfl) ?_
  refine lv_iconst (v := 1) hx hb d_Md_variables_2 (by decide) ?_
  refine lv_icmp_lt (tgt := 17) hx hb d_Md_variables_3 (by decide) (fun c_3 => ?_) (fun c_3 => ?_)
  · refine lv_iconst (v := 0) hx hb d_Md_variables_17 (by decide) ?_
    refine lv_iconst (v := 1) hx hb d_Md_variables_18 (by decide) ?_
    have hPc := hP.sub (ws' := [(e0, .inr (7, [.ref e1, .ref e2, .ref e3, .ref e4, .ref e5, .int (nI o.vc), .int (nI o.cl), .int (nI o.gv), .int (nI o.na), .int o.sd, .int o.cd, .ref e6, .int (nI o.ln), .ref e7, .ref e8]))]) [0] rfl
    have hDc := hD.sub (ws' := [(e0, .inr (7, [.ref e1, .ref e2, .ref e3, .ref e4, .ref e5, .int (nI o.vc), .int (nI o.cl), .int (nI o.gv), .int (nI o.na), .int o.sd, .int o.cd, .ref e6, .int (nI o.ln), .ref e7, .ref e8]))]) [0] (by decide) rfl
    have hKc := hK.sub (tys' := []) [] rfl
    have hFc := va_free (wc := [(e0, .inr (7, [.ref e1, .ref e2, .ref e3, .ref e4, .ref e5, .int (nI o.vc), .int (nI o.cl), .int (nI o.gv), .int (nI o.na), .int o.sd, .int o.cd, .ref e6, .int (nI o.ln), .ref e7, .ref e8]))]) hD hS hA [0] rfl
    refine va_calli (va_runV (As := [.int 0, .int 1]) (rest := []) ⟨hx, hb, hml, hown, hw⟩ (c_Md_good_0 l dC dI e0 e1 e2 e3 e4 e5 e6 e7 e8 H.size o 1) (cb_V (C := R_Md) 2 hw k_661 k_37 k_658 k_660 k_21 rfl rfl (by decide +kernel) ⟨Nat.le_of_ble_eq_true rfl, Nat.le_of_ble_eq_true rfl⟩) ⟨fun a U g mk q => by obtain ⟨q0, q1, qP, qK, qD⟩ := q; exact ⟨q0, q1, qP, va_K.moved (u := U) (U := U.calling g mk a) (Vm.Alike.refl U.vm) qK, qD⟩, va_recv hKc hPc (ci := 7) (q0 := 0) rfl rfl, fun U hU hW => ⟨rfl, by rw [hU], by rw [hU]; exact hPc, va_K.moved hW.alike hKc, hDc.weaken (fun _ _ _ _ => trivial)⟩⟩ rfl rfl hl.1 rfl (lv_room (Nat.le_of_ble_eq_true rfl)) d_Md_variables_19 ⟨Nat.le_of_ble_eq_true rfl, Nat.le_of_ble_eq_true rfl⟩) hS (fun q _ h => hFc q h) hFc (fun r_1 u t H1 locs ht hvm hw9 hB hz1 hk1 hS => ?_)
    obtain ⟨er9, hP1, hK1, hD1⟩ := hB
    rw [ht] at hP1
    have hK1 := va_K.moved hvm.symm hK1
    obtain ⟨hP, hD⟩ := va_join (wr := []) (w1 := [(e0, .inr (7, [.ref e1, .ref e2, .ref e3, .ref e4, .ref e5, .int (nI o.vc), .int (nI o.cl), .int (nI o.gv), .int (nI o.na), .int o.sd, .int 1, .ref e6, .int (nI o.ln), .ref e7, .ref e8]))]) hP hD [0] [] rfl rfl (by decide) (by decide) hk1 hFc hP1 hD1
    generalize H1 = H at hP hS ⊢
    have hP : va_P (dC, dI) vwCl [(e0, .inr (7, [.ref e1, .ref e2, .ref e3, .ref e4, .ref e5, .int (nI o.vc), .int (nI o.cl), .int (nI o.gv), .int (nI o.na), .int o.sd, .int 1, .ref e6, .int (nI o.ln), .ref e7, .ref e8]))] H := hP
    have hD : va_D A [(e0, .inr (7, [.ref e1, .ref e2, .ref e3, .ref e4, .ref e5, .int (nI o.vc), .int (nI o.cl), .int (nI o.gv), .int (nI o.na), .int o.sd, .int 1, .ref e6, .int (nI o.ln), .ref e7, .ref e8]))] := hD
    refine W.widen (k := 0) (n := 0) (by decide) (by decide) ?_
    have hw9 : r_1 = 0 := hw9.trans er9
    subst hw9
    have hP : va_P (dC, dI) vwCl [(e0, .inr (7, [.ref e1, .ref e2, .ref e3, .ref e4, .ref e5, .int (nI o.vc), .int (nI o.cl), .int (nI o.gv), .int (nI o.na), .int o.sd, .int 1, .ref e6, .int (nI o.ln), .ref e7, .ref e8]))] H := hP
    have hD : va_D A [(e0, .inr (7, [.ref e1, .ref e2, .ref e3, .ref e4, .ref e5, .int (nI o.vc), .int (nI o.cl), .int (nI o.gv), .int (nI o.na), .int o.sd, .int 1, .ref e6, .int (nI o.ln), .ref e7, .ref e8]))] := hD
    refine lv_if_eq (tgt := 50) hx hb d_Md_variables_22 (by decide) (fun c_22 => ?_) (fun c_22 => absurd c_22 (by decide))
    refine lv_iconst (v := 0) hx hb d_Md_variables_50 (by decide) ?_
    have hK := hK.sub (tys' := []) [] rfl
    refine W.widen (k := 0) (n := 0) (by decide) (by decide) ?_
    exact W.iret (v := 0) hx hb hr (fun t ht hW => ⟨⟨0, 0, rfl, rfl, rfl, by rw [ht]; exact hP, va_K.moved hW.alike hK, hD⟩, hS.F ht⟩) hS.2.2 d_Md_variables_51
  · refine lv_iload_n hx hb d_Md_variables_6 rfl (lv_at hl 1 rfl) ?_
    refine lv_sipush (v := 400) hx hb d_Md_variables_7 (by decide) ?_
    refine lv_icmp_gt (tgt := 17) hx hb d_Md_variables_10 (by decide) (fun c_10 => ?_) (fun c_10 => absurd c_10 (by rcases h with h | h; exact absurd h c_3; exact fun q => q h))
    refine lv_iconst (v := 0) hx hb d_Md_variables_17 (by decide) ?_
    refine lv_iconst (v := 1) hx hb d_Md_variables_18 (by decide) ?_
    have hPc := hP.sub (ws' := [(e0, .inr (7, [.ref e1, .ref e2, .ref e3, .ref e4, .ref e5, .int (nI o.vc), .int (nI o.cl), .int (nI o.gv), .int (nI o.na), .int o.sd, .int o.cd, .ref e6, .int (nI o.ln), .ref e7, .ref e8]))]) [0] rfl
    have hDc := hD.sub (ws' := [(e0, .inr (7, [.ref e1, .ref e2, .ref e3, .ref e4, .ref e5, .int (nI o.vc), .int (nI o.cl), .int (nI o.gv), .int (nI o.na), .int o.sd, .int o.cd, .ref e6, .int (nI o.ln), .ref e7, .ref e8]))]) [0] (by decide) rfl
    have hKc := hK.sub (tys' := []) [] rfl
    have hFc := va_free (wc := [(e0, .inr (7, [.ref e1, .ref e2, .ref e3, .ref e4, .ref e5, .int (nI o.vc), .int (nI o.cl), .int (nI o.gv), .int (nI o.na), .int o.sd, .int o.cd, .ref e6, .int (nI o.ln), .ref e7, .ref e8]))]) hD hS hA [0] rfl
    refine va_calli (va_runV (As := [.int 0, .int 1]) (rest := []) ⟨hx, hb, hml, hown, hw⟩ (c_Md_good_0 l dC dI e0 e1 e2 e3 e4 e5 e6 e7 e8 H.size o 1) (cb_V (C := R_Md) 2 hw k_661 k_37 k_658 k_660 k_21 rfl rfl (by decide +kernel) ⟨Nat.le_of_ble_eq_true rfl, Nat.le_of_ble_eq_true rfl⟩) ⟨fun a U g mk q => by obtain ⟨q0, q1, qP, qK, qD⟩ := q; exact ⟨q0, q1, qP, va_K.moved (u := U) (U := U.calling g mk a) (Vm.Alike.refl U.vm) qK, qD⟩, va_recv hKc hPc (ci := 7) (q0 := 0) rfl rfl, fun U hU hW => ⟨rfl, by rw [hU], by rw [hU]; exact hPc, va_K.moved hW.alike hKc, hDc.weaken (fun _ _ _ _ => trivial)⟩⟩ rfl rfl hl.1 rfl (lv_room (Nat.le_of_ble_eq_true rfl)) d_Md_variables_19 ⟨Nat.le_of_ble_eq_true rfl, Nat.le_of_ble_eq_true rfl⟩) hS (fun q _ h => hFc q h) hFc (fun r_2 u t H1 locs ht hvm hw9 hB hz1 hk1 hS => ?_)
    obtain ⟨er9, hP1, hK1, hD1⟩ := hB
    rw [ht] at hP1
    have hK1 := va_K.moved hvm.symm hK1
    obtain ⟨hP, hD⟩ := va_join (wr := []) (w1 := [(e0, .inr (7, [.ref e1, .ref e2, .ref e3, .ref e4, .ref e5, .int (nI o.vc), .int (nI o.cl), .int (nI o.gv), .int (nI o.na), .int o.sd, .int 1, .ref e6, .int (nI o.ln), .ref e7, .ref e8]))]) hP hD [0] [] rfl rfl (by decide) (by decide) hk1 hFc hP1 hD1
    generalize H1 = H at hP hS ⊢
    have hP : va_P (dC, dI) vwCl [(e0, .inr (7, [.ref e1, .ref e2, .ref e3, .ref e4, .ref e5, .int (nI o.vc), .int (nI o.cl), .int (nI o.gv), .int (nI o.na), .int o.sd, .int 1, .ref e6, .int (nI o.ln), .ref e7, .ref e8]))] H := hP
    have hD : va_D A [(e0, .inr (7, [.ref e1, .ref e2, .ref e3, .ref e4, .ref e5, .int (nI o.vc), .int (nI o.cl), .int (nI o.gv), .int (nI o.na), .int o.sd, .int 1, .ref e6, .int (nI o.ln), .ref e7, .ref e8]))] := hD
    refine W.widen (k := 0) (n := 0) (by decide) (by decide) ?_
    have hw9 : r_2 = 0 := hw9.trans er9
    subst hw9
    have hP : va_P (dC, dI) vwCl [(e0, .inr (7, [.ref e1, .ref e2, .ref e3, .ref e4, .ref e5, .int (nI o.vc), .int (nI o.cl), .int (nI o.gv), .int (nI o.na), .int o.sd, .int 1, .ref e6, .int (nI o.ln), .ref e7, .ref e8]))] H := hP
    have hD : va_D A [(e0, .inr (7, [.ref e1, .ref e2, .ref e3, .ref e4, .ref e5, .int (nI o.vc), .int (nI o.cl), .int (nI o.gv), .int (nI o.na), .int o.sd, .int 1, .ref e6, .int (nI o.ln), .ref e7, .ref e8]))] := hD
    refine lv_if_eq (tgt := 50) hx hb d_Md_variables_22 (by decide) (fun c_22 => ?_) (fun c_22 => absurd c_22 (by decide))
    refine lv_iconst (v := 0) hx hb d_Md_variables_50 (by decide) ?_
    have hK := hK.sub (tys' := []) [] rfl
    refine W.widen (k := 0) (n := 0) (by decide) (by decide) ?_
    exact W.iret (v := 0) hx hb hr (fun t ht hW => ⟨⟨0, 0, rfl, rfl, rfl, by rw [ht]; exact hP, va_K.moved hW.alike hK, hD⟩, hS.F ht⟩) hS.2.2 d_Md_variables_51

set_option maxHeartbeats 4000000 in
set_option maxRecDepth 100000 in
/-- variables(n): too many -/
theorem c_Md_variables_2 (l : Launch) (dC : Nat → ClassId) (dI : Nat → Nat → Nat) (e0 : Nat) (e1 : Nat) (e2 : Nat) (e3 : Nat) (e4 : Nat) (e5 : Nat) (e6 : Nat) (e7 : Nat) (e8 : Nat) (sz : Nat) (o : Dx) (n0 : Nat) (hn1 : 1 ≤ n0) (hn2 : n0 ≤ 400) (hvc : o.vc ≤ 400) (h3 : 400 < o.vc + n0) : Met l y_Md_variables (wq y_Md_variables prog_9_method_4_code 2 (some .int)) ({ frames := 1, cells := 0, slots := 0, locals := 22 }) (va_Pc [.ref e0, .int (nI n0)] (fun U => U.heap.size = sz ∧ va_P (dC, dI) vwCl [(e0, .inr (7, [.ref e1, .ref e2, .ref e3, .ref e4, .ref e5, .int (nI o.vc), .int (nI o.cl), .int (nI o.gv), .int (nI o.na), .int o.sd, .int o.cd, .ref e6, .int (nI o.ln), .ref e7, .ref e8]))] U.heap ∧ va_K (dC, dI) vwCl [] U ∧ va_D (fun _ => True) [(e0, .inr (7, [.ref e1, .ref e2, .ref e3, .ref e4, .ref e5, .int (nI o.vc), .int (nI o.cl), .int (nI o.gv), .int (nI o.na), .int o.sd, .int o.cd, .ref e6, .int (nI o.ln), .ref e7, .ref e8]))])) (va_Qi (fun (r : Int32) (r9 : Int32) => r = r9) (fun (r9 : Int32) t => r9 = 0 ∧ va_P (dC, dI) vwCl [(e0, .inr (7, [.ref e1, .ref e2, .ref e3, .ref e4, .ref e5, .int (nI o.vc), .int (nI o.cl), .int (nI o.gv), .int (nI o.na), .int o.sd, .int 2, .ref e6, .int (nI o.ln), .ref e7, .ref e8]))] t.heap ∧ va_K (dC, dI) vwCl [] t ∧ va_D (va_A [(e0, .inr (7, [.ref e1, .ref e2, .ref e3, .ref e4, .ref e5, .int (nI o.vc), .int (nI o.cl), .int (nI o.gv), .int (nI o.na), .int o.sd, .int o.cd, .ref e6, .int (nI o.ln), .ref e7, .ref e8]))] sz) [(e0, .inr (7, [.ref e1, .ref e2, .ref e3, .ref e4, .ref e5, .int (nI o.vc), .int (nI o.cl), .int (nI o.gv), .int (nI o.na), .int o.sd, .int 2, .ref e6, .int (nI o.ln), .ref e7, .ref e8]))]) (va_A [(e0, .inr (7, [.ref e1, .ref e2, .ref e3, .ref e4, .ref e5, .int (nI o.vc), .int (nI o.cl), .int (nI o.gv), .int (nI o.na), .int o.sd, .int o.cd, .ref e6, .int (nI o.ln), .ref e7, .ref e8]))] sz)) (0) (0) (va_A [(e0, .inr (7, [.ref e1, .ref e2, .ref e3, .ref e4, .ref e5, .int (nI o.vc), .int (nI o.cl), .int (nI o.gv), .int (nI o.na), .int o.sd, .int o.cd, .ref e6, .int (nI o.ln), .ref e7, .ref e8]))] sz) := by
  refine Met.ofW (cc := prog_9_method_4_code) (maxL := 2) (ret := (some .int)) (by decide) rfl ?_
  intro p e s m args below meth c s₁ B hml hv
  obtain ⟨rfl, hsz, hP, hK, hD0⟩ := hv
  have hx := B.exec
  have hb := B.bytes
  have hr := B.returns
  have hw : ∀ w ∈ bg_W, w.before #[Value.ref e0, Value.int (nI n0)] s = true := fun w h => atoms_spec (ws := (wq y_Md_variables prog_9_method_4_code 2 (some .int))) B.pre w (List.mem_cons_of_mem _ h)
  have hown : s.vm.findClass R_Md = some m.cls := findClass_of_methodNamed B.named
  have hlocks := B.notSynchronized
  subst hsz
  have hD := hD0.self (sz := s.heap.size)
  generalize hAe : va_A [(e0, .inr (7, [.ref e1, .ref e2, .ref e3, .ref e4, .ref e5, .int (nI o.vc), .int (nI o.cl), .int (nI o.gv), .int (nI o.na), .int o.sd, .int o.cd, .ref e6, .int (nI o.ln), .ref e7, .ref e8]))] s.heap.size = A at hD ⊢
  have hA : ∀ q : Nat, s.heap.size ≤ q → A q := fun q h => by rw [← hAe]; exact Or.inr h
  have hS : va_S A s.heap s.heap [] := va_S.rf
  have hP : va_P (dC, dI) vwCl [(e0, .inr (7, [.ref e1, .ref e2, .ref e3, .ref e4, .ref e5, .int (nI o.vc), .int (nI o.cl), .int (nI o.gv), .int (nI o.na), .int o.sd, .int o.cd, .ref e6, .int (nI o.ln), .ref e7, .ref e8]))] s.heap := hP
  have hl := lv_entry ([.ref e0, .int (nI n0)]) (n := 2) (Nat.le_of_ble_eq_true rfl)
  rw [lg_entry_eq]
  generalize (lg_sl ([.ref e0, .int (nI n0)]) ++ List.replicate (2 - (lg_sl ([.ref e0, .int (nI n0)])).length) Slot.unset).toArray = ls at hl ⊢
  have hl : lv_has ls 2 [(0, .ref e0), (1, .int (nI n0))] := hl
  obtain ⟨H, hH⟩ : ∃ H : Heap, H = s.heap := ⟨_, rfl⟩
  rw [← hH] at hP
  have hS : va_S A s.heap H [] := by rw [hH]; exact va_S.rf
  show W p l e _ s m _ below meth c s.heap [] 0 0 _ _
  rw [← hH]
  refine lv_aload_n hx hb d_Md_variables_0 rfl (lv_at hl 0 rfl) ?_
  refine lv_iload_n hx hb d_Md_variables_1 rfl (lv_at hl 1 rfl) ?_
  refine lv_iconst (v := nI 1) hx hb d_Md_variables_2 (by decide) ?_
  refine lv_icmp_lt (tgt := 17) hx hb d_Md_variables_3 (by decide) (fun c_3 => by exfalso; have c_3 : n0 < 1 := (nI_ltI (a := n0) (b := 1) (by omega) (by omega)).mp c_3; omega) (fun c_3 => ?_)
  have c_3 : ¬ (n0 < 1) := fun qq9 => c_3 ((nI_ltI (a := n0) (b := 1) (by omega) (by omega)).mpr qq9)
  refine lv_iload_n hx hb d_Md_variables_6 rfl (lv_at hl 1 rfl) ?_
  refine lv_sipush (v := nI 400) hx hb d_Md_variables_7 (by decide) ?_
  refine lv_icmp_gt (tgt := 17) hx hb d_Md_variables_10 (by decide) (fun c_10 => by exfalso; have c_10 : 400 < n0 := (nI_ltI (a := 400) (b := n0) (by omega) (by omega)).mp c_10; omega) (fun c_10 => ?_)
  have c_10 : ¬ (400 < n0) := fun qq9 => c_10 ((nI_ltI (a := 400) (b := n0) (by omega) (by omega)).mpr qq9)
  refine lv_iconst (v := 1) hx hb d_Md_variables_13 (by decide) ?_
  refine lv_goto (tgt := 18) hx hb d_Md_variables_14 (by decide) ?_
  refine lv_iconst (v := 1) hx hb d_Md_variables_18 (by decide) ?_
  have hPc := hP.sub (ws' := [(e0, .inr (7, [.ref e1, .ref e2, .ref e3, .ref e4, .ref e5, .int (nI o.vc), .int (nI o.cl), .int (nI o.gv), .int (nI o.na), .int o.sd, .int o.cd, .ref e6, .int (nI o.ln), .ref e7, .ref e8]))]) [0] rfl
  have hDc := hD.sub (ws' := [(e0, .inr (7, [.ref e1, .ref e2, .ref e3, .ref e4, .ref e5, .int (nI o.vc), .int (nI o.cl), .int (nI o.gv), .int (nI o.na), .int o.sd, .int o.cd, .ref e6, .int (nI o.ln), .ref e7, .ref e8]))]) [0] (by decide) rfl
  have hKc := hK.sub (tys' := []) [] rfl
  have hFc := va_free (wc := [(e0, .inr (7, [.ref e1, .ref e2, .ref e3, .ref e4, .ref e5, .int (nI o.vc), .int (nI o.cl), .int (nI o.gv), .int (nI o.na), .int o.sd, .int o.cd, .ref e6, .int (nI o.ln), .ref e7, .ref e8]))]) hD hS hA [0] rfl
  refine va_calli (va_runV (As := [.int 1, .int 1]) (rest := []) ⟨hx, hb, hml, hown, hw⟩ (c_Md_good_1 l dC dI e0 e1 e2 e3 e4 e5 e6 e7 e8 H.size o 1) (cb_V (C := R_Md) 2 hw k_661 k_37 k_658 k_660 k_21 rfl rfl (by decide +kernel) ⟨Nat.le_of_ble_eq_true rfl, Nat.le_of_ble_eq_true rfl⟩) ⟨fun a U g mk q => by obtain ⟨q0, q1, qP, qK, qD⟩ := q; exact ⟨q0, q1, qP, va_K.moved (u := U) (U := U.calling g mk a) (Vm.Alike.refl U.vm) qK, qD⟩, va_recv hKc hPc (ci := 7) (q0 := 0) rfl rfl, fun U hU hW => ⟨rfl, by rw [hU], by rw [hU]; exact hPc, va_K.moved hW.alike hKc, hDc.weaken (fun _ _ _ _ => trivial)⟩⟩ rfl rfl hl.1 rfl (lv_room (Nat.le_of_ble_eq_true rfl)) d_Md_variables_19 ⟨Nat.le_of_ble_eq_true rfl, Nat.le_of_ble_eq_true rfl⟩) hS (fun q _ h => hFc q h) hFc (fun r_1 u t H1 locs ht hvm hw9 hB hz1 hk1 hS => ?_)
  obtain ⟨er9, hP1, hK1, hD1⟩ := hB
  rw [ht] at hP1
  have hK1 := va_K.moved hvm.symm hK1
  obtain ⟨hP, hD⟩ := va_join (wr := []) (w1 := [(e0, .inr (7, [.ref e1, .ref e2, .ref e3, .ref e4, .ref e5, .int (nI o.vc), .int (nI o.cl), .int (nI o.gv), .int (nI o.na), .int o.sd, .int 0, .ref e6, .int (nI o.ln), .ref e7, .ref e8]))]) hP hD [0] [] rfl rfl (by decide) (by decide) hk1 hFc hP1 hD1
  generalize H1 = H at hP hS ⊢
  have hP : va_P (dC, dI) vwCl [(e0, .inr (7, [.ref e1, .ref e2, .ref e3, .ref e4, .ref e5, .int (nI o.vc), .int (nI o.cl), .int (nI o.gv), .int (nI o.na), .int o.sd, .int 0, .ref e6, .int (nI o.ln), .ref e7, .ref e8]))] H := hP
  have hD : va_D A [(e0, .inr (7, [.ref e1, .ref e2, .ref e3, .ref e4, .ref e5, .int (nI o.vc), .int (nI o.cl), .int (nI o.gv), .int (nI o.na), .int o.sd, .int 0, .ref e6, .int (nI o.ln), .ref e7, .ref e8]))] := hD
  refine W.widen (k := 0) (n := 0) (by decide) (by decide) ?_
  have hw9 : r_1 = 1 := hw9.trans er9
  subst hw9
  have hP : va_P (dC, dI) vwCl [(e0, .inr (7, [.ref e1, .ref e2, .ref e3, .ref e4, .ref e5, .int (nI o.vc), .int (nI o.cl), .int (nI o.gv), .int (nI o.na), .int o.sd, .int 0, .ref e6, .int (nI o.ln), .ref e7, .ref e8]))] H := hP
  have hD : va_D A [(e0, .inr (7, [.ref e1, .ref e2, .ref e3, .ref e4, .ref e5, .int (nI o.vc), .int (nI o.cl), .int (nI o.gv), .int (nI o.na), .int o.sd, .int 0, .ref e6, .int (nI o.ln), .ref e7, .ref e8]))] := hD
  refine lv_if_eq (tgt := 50) hx hb d_Md_variables_22 (by decide) (fun c_22 => absurd c_22 (by decide)) (fun c_22 => ?_)
  refine lv_aload_n hx hb d_Md_variables_25 rfl (lv_at hl 0 rfl) ?_
  refine lv_aload_n hx hb d_Md_variables_26 rfl (lv_at hl 0 rfl) ?_
  refine va_get (D := (dC, dI)) (ci := 7) (v := .int (nI o.vc)) (C := R_Md) (T := F_Md) (N := 15) hx hb hw in_Md hown hK hP 0 rfl rfl 5 (by decide) (hw (Cond.fieldLink "ClauseSearchModel" 43 "ClauseSearchModel" "variables" "I") k_609) (fun _ h9 => h9) rfl d_Md_variables_27 ?_
  refine lv_iload_n hx hb d_Md_variables_30 rfl (lv_at hl 1 rfl) ?_
  refine lv_iadd hx hb d_Md_variables_31 ?_
  refine lv_topi (fun y_2 ey_2 => ?_)
  obtain rfl : y_2 = nI (o.vc + n0) := ey_2.trans (nI_add o.vc n0)
  refine lv_sipush (v := nI 400) hx hb d_Md_variables_32 (by decide) ?_
  refine lv_icmp_gt (tgt := 42) hx hb d_Md_variables_35 (by decide) (fun c_35 => ?_) (fun c_35 => by exfalso; have c_35 : ¬ (400 < o.vc + n0) := fun qq9 => c_35 ((nI_ltI (a := 400) (b := o.vc + n0) (by omega) (by omega)).mpr qq9); omega)
  have c_35 : 400 < o.vc + n0 := (nI_ltI (a := 400) (b := o.vc + n0) (by omega) (by omega)).mp c_35
  refine lv_iconst (v := 0) hx hb d_Md_variables_42 (by decide) ?_
  refine lv_iconst (v := 2) hx hb d_Md_variables_43 (by decide) ?_
  have hPc := hP.sub (ws' := [(e0, .inr (7, [.ref e1, .ref e2, .ref e3, .ref e4, .ref e5, .int (nI (Dx.of o.lt o.fs o.rw o.am o.wv o.tl o.ch o.mk o.vc o.cl o.gv o.na o.ln o.sd 0 o.X).vc), .int (nI (Dx.of o.lt o.fs o.rw o.am o.wv o.tl o.ch o.mk o.vc o.cl o.gv o.na o.ln o.sd 0 o.X).cl), .int (nI (Dx.of o.lt o.fs o.rw o.am o.wv o.tl o.ch o.mk o.vc o.cl o.gv o.na o.ln o.sd 0 o.X).gv), .int (nI (Dx.of o.lt o.fs o.rw o.am o.wv o.tl o.ch o.mk o.vc o.cl o.gv o.na o.ln o.sd 0 o.X).na), .int (Dx.of o.lt o.fs o.rw o.am o.wv o.tl o.ch o.mk o.vc o.cl o.gv o.na o.ln o.sd 0 o.X).sd, .int (Dx.of o.lt o.fs o.rw o.am o.wv o.tl o.ch o.mk o.vc o.cl o.gv o.na o.ln o.sd 0 o.X).cd, .ref e6, .int (nI (Dx.of o.lt o.fs o.rw o.am o.wv o.tl o.ch o.mk o.vc o.cl o.gv o.na o.ln o.sd 0 o.X).ln), .ref e7, .ref e8]))]) [0] rfl
  have hDc := hD.sub (ws' := [(e0, .inr (7, [.ref e1, .ref e2, .ref e3, .ref e4, .ref e5, .int (nI (Dx.of o.lt o.fs o.rw o.am o.wv o.tl o.ch o.mk o.vc o.cl o.gv o.na o.ln o.sd 0 o.X).vc), .int (nI (Dx.of o.lt o.fs o.rw o.am o.wv o.tl o.ch o.mk o.vc o.cl o.gv o.na o.ln o.sd 0 o.X).cl), .int (nI (Dx.of o.lt o.fs o.rw o.am o.wv o.tl o.ch o.mk o.vc o.cl o.gv o.na o.ln o.sd 0 o.X).gv), .int (nI (Dx.of o.lt o.fs o.rw o.am o.wv o.tl o.ch o.mk o.vc o.cl o.gv o.na o.ln o.sd 0 o.X).na), .int (Dx.of o.lt o.fs o.rw o.am o.wv o.tl o.ch o.mk o.vc o.cl o.gv o.na o.ln o.sd 0 o.X).sd, .int (Dx.of o.lt o.fs o.rw o.am o.wv o.tl o.ch o.mk o.vc o.cl o.gv o.na o.ln o.sd 0 o.X).cd, .ref e6, .int (nI (Dx.of o.lt o.fs o.rw o.am o.wv o.tl o.ch o.mk o.vc o.cl o.gv o.na o.ln o.sd 0 o.X).ln), .ref e7, .ref e8]))]) [0] (by decide) rfl
  have hKc := hK.sub (tys' := []) [] rfl
  have hFc := va_free (wc := [(e0, .inr (7, [.ref e1, .ref e2, .ref e3, .ref e4, .ref e5, .int (nI (Dx.of o.lt o.fs o.rw o.am o.wv o.tl o.ch o.mk o.vc o.cl o.gv o.na o.ln o.sd 0 o.X).vc), .int (nI (Dx.of o.lt o.fs o.rw o.am o.wv o.tl o.ch o.mk o.vc o.cl o.gv o.na o.ln o.sd 0 o.X).cl), .int (nI (Dx.of o.lt o.fs o.rw o.am o.wv o.tl o.ch o.mk o.vc o.cl o.gv o.na o.ln o.sd 0 o.X).gv), .int (nI (Dx.of o.lt o.fs o.rw o.am o.wv o.tl o.ch o.mk o.vc o.cl o.gv o.na o.ln o.sd 0 o.X).na), .int (Dx.of o.lt o.fs o.rw o.am o.wv o.tl o.ch o.mk o.vc o.cl o.gv o.na o.ln o.sd 0 o.X).sd, .int (Dx.of o.lt o.fs o.rw o.am o.wv o.tl o.ch o.mk o.vc o.cl o.gv o.na o.ln o.sd 0 o.X).cd, .ref e6, .int (nI (Dx.of o.lt o.fs o.rw o.am o.wv o.tl o.ch o.mk o.vc o.cl o.gv o.na o.ln o.sd 0 o.X).ln), .ref e7, .ref e8]))]) hD hS hA [0] rfl
  refine va_calli (va_runV (As := [.int 0, .int 2]) (rest := []) ⟨hx, hb, hml, hown, hw⟩ (c_Md_good_0 l dC dI e0 e1 e2 e3 e4 e5 e6 e7 e8 H.size (Dx.of o.lt o.fs o.rw o.am o.wv o.tl o.ch o.mk o.vc o.cl o.gv o.na o.ln o.sd 0 o.X) 2) (cb_V (C := R_Md) 2 hw k_661 k_37 k_658 k_660 k_21 rfl rfl (by decide +kernel) ⟨Nat.le_of_ble_eq_true rfl, Nat.le_of_ble_eq_true rfl⟩) ⟨fun a U g mk q => by obtain ⟨q0, q1, qP, qK, qD⟩ := q; exact ⟨q0, q1, qP, va_K.moved (u := U) (U := U.calling g mk a) (Vm.Alike.refl U.vm) qK, qD⟩, va_recv hKc hPc (ci := 7) (q0 := 0) rfl rfl, fun U hU hW => ⟨rfl, by rw [hU], by rw [hU]; exact hPc, va_K.moved hW.alike hKc, hDc.weaken (fun _ _ _ _ => trivial)⟩⟩ rfl rfl hl.1 rfl (lv_room (Nat.le_of_ble_eq_true rfl)) d_Md_variables_44 ⟨Nat.le_of_ble_eq_true rfl, Nat.le_of_ble_eq_true rfl⟩) hS (fun q _ h => hFc q h) hFc (fun r_3 u t H1 locs ht hvm hw9 hB hz1 hk1 hS => ?_)
  obtain ⟨er9, hP1, hK1, hD1⟩ := hB
  rw [ht] at hP1
  have hK1 := va_K.moved hvm.symm hK1
  obtain ⟨hP, hD⟩ := va_join (wr := []) (w1 := [(e0, .inr (7, [.ref e1, .ref e2, .ref e3, .ref e4, .ref e5, .int (nI (Dx.of o.lt o.fs o.rw o.am o.wv o.tl o.ch o.mk o.vc o.cl o.gv o.na o.ln o.sd 0 o.X).vc), .int (nI (Dx.of o.lt o.fs o.rw o.am o.wv o.tl o.ch o.mk o.vc o.cl o.gv o.na o.ln o.sd 0 o.X).cl), .int (nI (Dx.of o.lt o.fs o.rw o.am o.wv o.tl o.ch o.mk o.vc o.cl o.gv o.na o.ln o.sd 0 o.X).gv), .int (nI (Dx.of o.lt o.fs o.rw o.am o.wv o.tl o.ch o.mk o.vc o.cl o.gv o.na o.ln o.sd 0 o.X).na), .int (Dx.of o.lt o.fs o.rw o.am o.wv o.tl o.ch o.mk o.vc o.cl o.gv o.na o.ln o.sd 0 o.X).sd, .int 2, .ref e6, .int (nI (Dx.of o.lt o.fs o.rw o.am o.wv o.tl o.ch o.mk o.vc o.cl o.gv o.na o.ln o.sd 0 o.X).ln), .ref e7, .ref e8]))]) hP hD [0] [] rfl rfl (by decide) (by decide) hk1 hFc hP1 hD1
  generalize H1 = H at hP hS ⊢
  have hP : va_P (dC, dI) vwCl [(e0, .inr (7, [.ref e1, .ref e2, .ref e3, .ref e4, .ref e5, .int (nI (Dx.of o.lt o.fs o.rw o.am o.wv o.tl o.ch o.mk o.vc o.cl o.gv o.na o.ln o.sd 0 o.X).vc), .int (nI (Dx.of o.lt o.fs o.rw o.am o.wv o.tl o.ch o.mk o.vc o.cl o.gv o.na o.ln o.sd 0 o.X).cl), .int (nI (Dx.of o.lt o.fs o.rw o.am o.wv o.tl o.ch o.mk o.vc o.cl o.gv o.na o.ln o.sd 0 o.X).gv), .int (nI (Dx.of o.lt o.fs o.rw o.am o.wv o.tl o.ch o.mk o.vc o.cl o.gv o.na o.ln o.sd 0 o.X).na), .int (Dx.of o.lt o.fs o.rw o.am o.wv o.tl o.ch o.mk o.vc o.cl o.gv o.na o.ln o.sd 0 o.X).sd, .int 2, .ref e6, .int (nI (Dx.of o.lt o.fs o.rw o.am o.wv o.tl o.ch o.mk o.vc o.cl o.gv o.na o.ln o.sd 0 o.X).ln), .ref e7, .ref e8]))] H := hP
  have hD : va_D A [(e0, .inr (7, [.ref e1, .ref e2, .ref e3, .ref e4, .ref e5, .int (nI (Dx.of o.lt o.fs o.rw o.am o.wv o.tl o.ch o.mk o.vc o.cl o.gv o.na o.ln o.sd 0 o.X).vc), .int (nI (Dx.of o.lt o.fs o.rw o.am o.wv o.tl o.ch o.mk o.vc o.cl o.gv o.na o.ln o.sd 0 o.X).cl), .int (nI (Dx.of o.lt o.fs o.rw o.am o.wv o.tl o.ch o.mk o.vc o.cl o.gv o.na o.ln o.sd 0 o.X).gv), .int (nI (Dx.of o.lt o.fs o.rw o.am o.wv o.tl o.ch o.mk o.vc o.cl o.gv o.na o.ln o.sd 0 o.X).na), .int (Dx.of o.lt o.fs o.rw o.am o.wv o.tl o.ch o.mk o.vc o.cl o.gv o.na o.ln o.sd 0 o.X).sd, .int 2, .ref e6, .int (nI (Dx.of o.lt o.fs o.rw o.am o.wv o.tl o.ch o.mk o.vc o.cl o.gv o.na o.ln o.sd 0 o.X).ln), .ref e7, .ref e8]))] := hD
  refine W.widen (k := 0) (n := 0) (by decide) (by decide) ?_
  have hw9 : r_3 = 0 := hw9.trans er9
  subst hw9
  have hP : va_P (dC, dI) vwCl [(e0, .inr (7, [.ref e1, .ref e2, .ref e3, .ref e4, .ref e5, .int (nI o.vc), .int (nI o.cl), .int (nI o.gv), .int (nI o.na), .int o.sd, .int 2, .ref e6, .int (nI o.ln), .ref e7, .ref e8]))] H := hP
  have hD : va_D A [(e0, .inr (7, [.ref e1, .ref e2, .ref e3, .ref e4, .ref e5, .int (nI o.vc), .int (nI o.cl), .int (nI o.gv), .int (nI o.na), .int o.sd, .int 2, .ref e6, .int (nI o.ln), .ref e7, .ref e8]))] := hD
  refine lv_if_ne (tgt := 52) hx hb d_Md_variables_47 (by decide) (fun c_47 => absurd c_47 (by decide)) (fun c_47 => ?_)
  refine lv_iconst (v := 0) hx hb d_Md_variables_50 (by decide) ?_
  have hK := hK.sub (tys' := []) [] rfl
  refine W.widen (k := 0) (n := 0) (by decide) (by decide) ?_
  exact W.iret (v := 0) hx hb hr (fun t ht hW => ⟨⟨0, 0, rfl, rfl, rfl, by rw [ht]; exact hP, va_K.moved hW.alike hK, hD⟩, hS.F ht⟩) hS.2.2 d_Md_variables_51

set_option maxHeartbeats 4000000 in
set_option maxRecDepth 100000 in
/-- variables(n) -/
theorem c_Md_variables (l : Launch) (dC : Nat → ClassId) (dI : Nat → Nat → Nat) (e0 : Nat) (e1 : Nat) (e2 : Nat) (e3 : Nat) (e4 : Nat) (e5 : Nat) (e6 : Nat) (e7 : Nat) (e8 : Nat) (sz : Nat) (o : Dx) (n0 : Nat) (hn1 : 1 ≤ n0) (hn2 : n0 ≤ 400) (hvc : o.vc ≤ 400) (h3 : o.vc + n0 ≤ 400) : Met l y_Md_variables (wq y_Md_variables prog_9_method_4_code 2 (some .int)) ({ frames := 1, cells := 0, slots := 0, locals := 22 }) (va_Pc [.ref e0, .int (nI n0)] (fun U => U.heap.size = sz ∧ va_P (dC, dI) vwCl [(e0, .inr (7, [.ref e1, .ref e2, .ref e3, .ref e4, .ref e5, .int (nI o.vc), .int (nI o.cl), .int (nI o.gv), .int (nI o.na), .int o.sd, .int o.cd, .ref e6, .int (nI o.ln), .ref e7, .ref e8]))] U.heap ∧ va_K (dC, dI) vwCl [] U ∧ va_D (fun _ => True) [(e0, .inr (7, [.ref e1, .ref e2, .ref e3, .ref e4, .ref e5, .int (nI o.vc), .int (nI o.cl), .int (nI o.gv), .int (nI o.na), .int o.sd, .int o.cd, .ref e6, .int (nI o.ln), .ref e7, .ref e8]))])) (va_Qi (fun (r : Int32) (r9 : Int32) => r = r9) (fun (r9 : Int32) t => r9 = nI (o.vc + n0) ∧ va_P (dC, dI) vwCl [(e0, .inr (7, [.ref e1, .ref e2, .ref e3, .ref e4, .ref e5, .int (nI (o.vc + n0)), .int (nI o.cl), .int (nI o.gv), .int (nI o.na), .int 0, .int 0, .ref e6, .int (nI o.ln), .ref e7, .ref e8]))] t.heap ∧ va_K (dC, dI) vwCl [] t ∧ va_D (va_A [(e0, .inr (7, [.ref e1, .ref e2, .ref e3, .ref e4, .ref e5, .int (nI o.vc), .int (nI o.cl), .int (nI o.gv), .int (nI o.na), .int o.sd, .int o.cd, .ref e6, .int (nI o.ln), .ref e7, .ref e8]))] sz) [(e0, .inr (7, [.ref e1, .ref e2, .ref e3, .ref e4, .ref e5, .int (nI (o.vc + n0)), .int (nI o.cl), .int (nI o.gv), .int (nI o.na), .int 0, .int 0, .ref e6, .int (nI o.ln), .ref e7, .ref e8]))]) (va_A [(e0, .inr (7, [.ref e1, .ref e2, .ref e3, .ref e4, .ref e5, .int (nI o.vc), .int (nI o.cl), .int (nI o.gv), .int (nI o.na), .int o.sd, .int o.cd, .ref e6, .int (nI o.ln), .ref e7, .ref e8]))] sz)) (0) (0) (va_A [(e0, .inr (7, [.ref e1, .ref e2, .ref e3, .ref e4, .ref e5, .int (nI o.vc), .int (nI o.cl), .int (nI o.gv), .int (nI o.na), .int o.sd, .int o.cd, .ref e6, .int (nI o.ln), .ref e7, .ref e8]))] sz) := by
  refine Met.ofW (cc := prog_9_method_4_code) (maxL := 2) (ret := (some .int)) (by decide) rfl ?_
  intro p e s m args below meth c s₁ B hml hv
  obtain ⟨rfl, hsz, hP, hK, hD0⟩ := hv
  have hx := B.exec
  have hb := B.bytes
  have hr := B.returns
  have hw : ∀ w ∈ bg_W, w.before #[Value.ref e0, Value.int (nI n0)] s = true := fun w h => atoms_spec (ws := (wq y_Md_variables prog_9_method_4_code 2 (some .int))) B.pre w (List.mem_cons_of_mem _ h)
  have hown : s.vm.findClass R_Md = some m.cls := findClass_of_methodNamed B.named
  have hlocks := B.notSynchronized
  subst hsz
  have hD := hD0.self (sz := s.heap.size)
  generalize hAe : va_A [(e0, .inr (7, [.ref e1, .ref e2, .ref e3, .ref e4, .ref e5, .int (nI o.vc), .int (nI o.cl), .int (nI o.gv), .int (nI o.na), .int o.sd, .int o.cd, .ref e6, .int (nI o.ln), .ref e7, .ref e8]))] s.heap.size = A at hD ⊢
  have hA : ∀ q : Nat, s.heap.size ≤ q → A q := fun q h => by rw [← hAe]; exact Or.inr h
  have hS : va_S A s.heap s.heap [] := va_S.rf
  have hP : va_P (dC, dI) vwCl [(e0, .inr (7, [.ref e1, .ref e2, .ref e3, .ref e4, .ref e5, .int (nI o.vc), .int (nI o.cl), .int (nI o.gv), .int (nI o.na), .int o.sd, .int o.cd, .ref e6, .int (nI o.ln), .ref e7, .ref e8]))] s.heap := hP
  have hl := lv_entry ([.ref e0, .int (nI n0)]) (n := 2) (Nat.le_of_ble_eq_true rfl)
  rw [lg_entry_eq]
  generalize (lg_sl ([.ref e0, .int (nI n0)]) ++ List.replicate (2 - (lg_sl ([.ref e0, .int (nI n0)])).length) Slot.unset).toArray = ls at hl ⊢
  have hl : lv_has ls 2 [(0, .ref e0), (1, .int (nI n0))] := hl
  obtain ⟨H, hH⟩ : ∃ H : Heap, H = s.heap := ⟨_, rfl⟩
  rw [← hH] at hP
  have hS : va_S A s.heap H [] := by rw [hH]; exact va_S.rf
  show W p l e _ s m _ below meth c s.heap [] 0 0 _ _
  rw [← hH]
  refine lv_aload_n hx hb d_Md_variables_0 rfl (lv_at hl 0 rfl) ?_
  refine lv_iload_n hx hb d_Md_variables_1 rfl (lv_at hl 1 rfl) ?_
  refine lv_iconst (v := nI 1) hx hb d_Md_variables_2 (by decide) ?_
  refine lv_icmp_lt (tgt := 17) hx hb d_Md_variables_3 (by decide) (fun c_3 => by exfalso; have c_3 : n0 < 1 := (nI_ltI (a := n0) (b := 1) (by omega) (by omega)).mp c_3; omega) (fun c_3 => ?_)
  have c_3 : ¬ (n0 < 1) := fun qq9 => c_3 ((nI_ltI (a := n0) (b := 1) (by omega) (by omega)).mpr qq9)
  refine lv_iload_n hx hb d_Md_variables_6 rfl (lv_at hl 1 rfl) ?_
  refine lv_sipush (v := nI 400) hx hb d_Md_variables_7 (by decide) ?_
  refine lv_icmp_gt (tgt := 17) hx hb d_Md_variables_10 (by decide) (fun c_10 => by exfalso; have c_10 : 400 < n0 := (nI_ltI (a := 400) (b := n0) (by omega) (by omega)).mp c_10; omega) (fun c_10 => ?_)
  have c_10 : ¬ (400 < n0) := fun qq9 => c_10 ((nI_ltI (a := 400) (b := n0) (by omega) (by omega)).mpr qq9)
  refine lv_iconst (v := 1) hx hb d_Md_variables_13 (by decide) ?_
  refine lv_goto (tgt := 18) hx hb d_Md_variables_14 (by decide) ?_
  refine lv_iconst (v := 1) hx hb d_Md_variables_18 (by decide) ?_
  have hPc := hP.sub (ws' := [(e0, .inr (7, [.ref e1, .ref e2, .ref e3, .ref e4, .ref e5, .int (nI o.vc), .int (nI o.cl), .int (nI o.gv), .int (nI o.na), .int o.sd, .int o.cd, .ref e6, .int (nI o.ln), .ref e7, .ref e8]))]) [0] rfl
  have hDc := hD.sub (ws' := [(e0, .inr (7, [.ref e1, .ref e2, .ref e3, .ref e4, .ref e5, .int (nI o.vc), .int (nI o.cl), .int (nI o.gv), .int (nI o.na), .int o.sd, .int o.cd, .ref e6, .int (nI o.ln), .ref e7, .ref e8]))]) [0] (by decide) rfl
  have hKc := hK.sub (tys' := []) [] rfl
  have hFc := va_free (wc := [(e0, .inr (7, [.ref e1, .ref e2, .ref e3, .ref e4, .ref e5, .int (nI o.vc), .int (nI o.cl), .int (nI o.gv), .int (nI o.na), .int o.sd, .int o.cd, .ref e6, .int (nI o.ln), .ref e7, .ref e8]))]) hD hS hA [0] rfl
  refine va_calli (va_runV (As := [.int 1, .int 1]) (rest := []) ⟨hx, hb, hml, hown, hw⟩ (c_Md_good_1 l dC dI e0 e1 e2 e3 e4 e5 e6 e7 e8 H.size o 1) (cb_V (C := R_Md) 2 hw k_661 k_37 k_658 k_660 k_21 rfl rfl (by decide +kernel) ⟨Nat.le_of_ble_eq_true rfl, Nat.le_of_ble_eq_true rfl⟩) ⟨fun a U g mk q => by obtain ⟨q0, q1, qP, qK, qD⟩ := q; exact ⟨q0, q1, qP, va_K.moved (u := U) (U := U.calling g mk a) (Vm.Alike.refl U.vm) qK, qD⟩, va_recv hKc hPc (ci := 7) (q0 := 0) rfl rfl, fun U hU hW => ⟨rfl, by rw [hU], by rw [hU]; exact hPc, va_K.moved hW.alike hKc, hDc.weaken (fun _ _ _ _ => trivial)⟩⟩ rfl rfl hl.1 rfl (lv_room (Nat.le_of_ble_eq_true rfl)) d_Md_variables_19 ⟨Nat.le_of_ble_eq_true rfl, Nat.le_of_ble_eq_true rfl⟩) hS (fun q _ h => hFc q h) hFc (fun r_1 u t H1 locs ht hvm hw9 hB hz1 hk1 hS => ?_)
  obtain ⟨er9, hP1, hK1, hD1⟩ := hB
  rw [ht] at hP1
  have hK1 := va_K.moved hvm.symm hK1
  obtain ⟨hP, hD⟩ := va_join (wr := []) (w1 := [(e0, .inr (7, [.ref e1, .ref e2, .ref e3, .ref e4, .ref e5, .int (nI o.vc), .int (nI o.cl), .int (nI o.gv), .int (nI o.na), .int o.sd, .int 0, .ref e6, .int (nI o.ln), .ref e7, .ref e8]))]) hP hD [0] [] rfl rfl (by decide) (by decide) hk1 hFc hP1 hD1
  generalize H1 = H at hP hS ⊢
  have hP : va_P (dC, dI) vwCl [(e0, .inr (7, [.ref e1, .ref e2, .ref e3, .ref e4, .ref e5, .int (nI o.vc), .int (nI o.cl), .int (nI o.gv), .int (nI o.na), .int o.sd, .int 0, .ref e6, .int (nI o.ln), .ref e7, .ref e8]))] H := hP
  have hD : va_D A [(e0, .inr (7, [.ref e1, .ref e2, .ref e3, .ref e4, .ref e5, .int (nI o.vc), .int (nI o.cl), .int (nI o.gv), .int (nI o.na), .int o.sd, .int 0, .ref e6, .int (nI o.ln), .ref e7, .ref e8]))] := hD
  refine W.widen (k := 0) (n := 0) (by decide) (by decide) ?_
  have hw9 : r_1 = 1 := hw9.trans er9
  subst hw9
  have hP : va_P (dC, dI) vwCl [(e0, .inr (7, [.ref e1, .ref e2, .ref e3, .ref e4, .ref e5, .int (nI o.vc), .int (nI o.cl), .int (nI o.gv), .int (nI o.na), .int o.sd, .int 0, .ref e6, .int (nI o.ln), .ref e7, .ref e8]))] H := hP
  have hD : va_D A [(e0, .inr (7, [.ref e1, .ref e2, .ref e3, .ref e4, .ref e5, .int (nI o.vc), .int (nI o.cl), .int (nI o.gv), .int (nI o.na), .int o.sd, .int 0, .ref e6, .int (nI o.ln), .ref e7, .ref e8]))] := hD
  refine lv_if_eq (tgt := 50) hx hb d_Md_variables_22 (by decide) (fun c_22 => absurd c_22 (by decide)) (fun c_22 => ?_)
  refine lv_aload_n hx hb d_Md_variables_25 rfl (lv_at hl 0 rfl) ?_
  refine lv_aload_n hx hb d_Md_variables_26 rfl (lv_at hl 0 rfl) ?_
  refine va_get (D := (dC, dI)) (ci := 7) (v := .int (nI o.vc)) (C := R_Md) (T := F_Md) (N := 15) hx hb hw in_Md hown hK hP 0 rfl rfl 5 (by decide) (hw (Cond.fieldLink "ClauseSearchModel" 43 "ClauseSearchModel" "variables" "I") k_609) (fun _ h9 => h9) rfl d_Md_variables_27 ?_
  refine lv_iload_n hx hb d_Md_variables_30 rfl (lv_at hl 1 rfl) ?_
  refine lv_iadd hx hb d_Md_variables_31 ?_
  refine lv_topi (fun y_2 ey_2 => ?_)
  obtain rfl : y_2 = nI (o.vc + n0) := ey_2.trans (nI_add o.vc n0)
  refine lv_sipush (v := nI 400) hx hb d_Md_variables_32 (by decide) ?_
  refine lv_icmp_gt (tgt := 42) hx hb d_Md_variables_35 (by decide) (fun c_35 => by exfalso; have c_35 : 400 < o.vc + n0 := (nI_ltI (a := 400) (b := o.vc + n0) (by omega) (by omega)).mp c_35; omega) (fun c_35 => ?_)
  have c_35 : ¬ (400 < o.vc + n0) := fun qq9 => c_35 ((nI_ltI (a := 400) (b := o.vc + n0) (by omega) (by omega)).mpr qq9)
  refine lv_iconst (v := 1) hx hb d_Md_variables_38 (by decide) ?_
  refine lv_goto (tgt := 43) hx hb d_Md_variables_39 (by decide) ?_
  refine lv_iconst (v := 2) hx hb d_Md_variables_43 (by decide) ?_
  have hPc := hP.sub (ws' := [(e0, .inr (7, [.ref e1, .ref e2, .ref e3, .ref e4, .ref e5, .int (nI (Dx.of o.lt o.fs o.rw o.am o.wv o.tl o.ch o.mk o.vc o.cl o.gv o.na o.ln o.sd 0 o.X).vc), .int (nI (Dx.of o.lt o.fs o.rw o.am o.wv o.tl o.ch o.mk o.vc o.cl o.gv o.na o.ln o.sd 0 o.X).cl), .int (nI (Dx.of o.lt o.fs o.rw o.am o.wv o.tl o.ch o.mk o.vc o.cl o.gv o.na o.ln o.sd 0 o.X).gv), .int (nI (Dx.of o.lt o.fs o.rw o.am o.wv o.tl o.ch o.mk o.vc o.cl o.gv o.na o.ln o.sd 0 o.X).na), .int (Dx.of o.lt o.fs o.rw o.am o.wv o.tl o.ch o.mk o.vc o.cl o.gv o.na o.ln o.sd 0 o.X).sd, .int (Dx.of o.lt o.fs o.rw o.am o.wv o.tl o.ch o.mk o.vc o.cl o.gv o.na o.ln o.sd 0 o.X).cd, .ref e6, .int (nI (Dx.of o.lt o.fs o.rw o.am o.wv o.tl o.ch o.mk o.vc o.cl o.gv o.na o.ln o.sd 0 o.X).ln), .ref e7, .ref e8]))]) [0] rfl
  have hDc := hD.sub (ws' := [(e0, .inr (7, [.ref e1, .ref e2, .ref e3, .ref e4, .ref e5, .int (nI (Dx.of o.lt o.fs o.rw o.am o.wv o.tl o.ch o.mk o.vc o.cl o.gv o.na o.ln o.sd 0 o.X).vc), .int (nI (Dx.of o.lt o.fs o.rw o.am o.wv o.tl o.ch o.mk o.vc o.cl o.gv o.na o.ln o.sd 0 o.X).cl), .int (nI (Dx.of o.lt o.fs o.rw o.am o.wv o.tl o.ch o.mk o.vc o.cl o.gv o.na o.ln o.sd 0 o.X).gv), .int (nI (Dx.of o.lt o.fs o.rw o.am o.wv o.tl o.ch o.mk o.vc o.cl o.gv o.na o.ln o.sd 0 o.X).na), .int (Dx.of o.lt o.fs o.rw o.am o.wv o.tl o.ch o.mk o.vc o.cl o.gv o.na o.ln o.sd 0 o.X).sd, .int (Dx.of o.lt o.fs o.rw o.am o.wv o.tl o.ch o.mk o.vc o.cl o.gv o.na o.ln o.sd 0 o.X).cd, .ref e6, .int (nI (Dx.of o.lt o.fs o.rw o.am o.wv o.tl o.ch o.mk o.vc o.cl o.gv o.na o.ln o.sd 0 o.X).ln), .ref e7, .ref e8]))]) [0] (by decide) rfl
  have hKc := hK.sub (tys' := []) [] rfl
  have hFc := va_free (wc := [(e0, .inr (7, [.ref e1, .ref e2, .ref e3, .ref e4, .ref e5, .int (nI (Dx.of o.lt o.fs o.rw o.am o.wv o.tl o.ch o.mk o.vc o.cl o.gv o.na o.ln o.sd 0 o.X).vc), .int (nI (Dx.of o.lt o.fs o.rw o.am o.wv o.tl o.ch o.mk o.vc o.cl o.gv o.na o.ln o.sd 0 o.X).cl), .int (nI (Dx.of o.lt o.fs o.rw o.am o.wv o.tl o.ch o.mk o.vc o.cl o.gv o.na o.ln o.sd 0 o.X).gv), .int (nI (Dx.of o.lt o.fs o.rw o.am o.wv o.tl o.ch o.mk o.vc o.cl o.gv o.na o.ln o.sd 0 o.X).na), .int (Dx.of o.lt o.fs o.rw o.am o.wv o.tl o.ch o.mk o.vc o.cl o.gv o.na o.ln o.sd 0 o.X).sd, .int (Dx.of o.lt o.fs o.rw o.am o.wv o.tl o.ch o.mk o.vc o.cl o.gv o.na o.ln o.sd 0 o.X).cd, .ref e6, .int (nI (Dx.of o.lt o.fs o.rw o.am o.wv o.tl o.ch o.mk o.vc o.cl o.gv o.na o.ln o.sd 0 o.X).ln), .ref e7, .ref e8]))]) hD hS hA [0] rfl
  refine va_calli (va_runV (As := [.int 1, .int 2]) (rest := []) ⟨hx, hb, hml, hown, hw⟩ (c_Md_good_1 l dC dI e0 e1 e2 e3 e4 e5 e6 e7 e8 H.size (Dx.of o.lt o.fs o.rw o.am o.wv o.tl o.ch o.mk o.vc o.cl o.gv o.na o.ln o.sd 0 o.X) 2) (cb_V (C := R_Md) 2 hw k_661 k_37 k_658 k_660 k_21 rfl rfl (by decide +kernel) ⟨Nat.le_of_ble_eq_true rfl, Nat.le_of_ble_eq_true rfl⟩) ⟨fun a U g mk q => by obtain ⟨q0, q1, qP, qK, qD⟩ := q; exact ⟨q0, q1, qP, va_K.moved (u := U) (U := U.calling g mk a) (Vm.Alike.refl U.vm) qK, qD⟩, va_recv hKc hPc (ci := 7) (q0 := 0) rfl rfl, fun U hU hW => ⟨rfl, by rw [hU], by rw [hU]; exact hPc, va_K.moved hW.alike hKc, hDc.weaken (fun _ _ _ _ => trivial)⟩⟩ rfl rfl hl.1 rfl (lv_room (Nat.le_of_ble_eq_true rfl)) d_Md_variables_44 ⟨Nat.le_of_ble_eq_true rfl, Nat.le_of_ble_eq_true rfl⟩) hS (fun q _ h => hFc q h) hFc (fun r_3 u t H1 locs ht hvm hw9 hB hz1 hk1 hS => ?_)
  obtain ⟨er9, hP1, hK1, hD1⟩ := hB
  rw [ht] at hP1
  have hK1 := va_K.moved hvm.symm hK1
  obtain ⟨hP, hD⟩ := va_join (wr := []) (w1 := [(e0, .inr (7, [.ref e1, .ref e2, .ref e3, .ref e4, .ref e5, .int (nI (Dx.of o.lt o.fs o.rw o.am o.wv o.tl o.ch o.mk o.vc o.cl o.gv o.na o.ln o.sd 0 o.X).vc), .int (nI (Dx.of o.lt o.fs o.rw o.am o.wv o.tl o.ch o.mk o.vc o.cl o.gv o.na o.ln o.sd 0 o.X).cl), .int (nI (Dx.of o.lt o.fs o.rw o.am o.wv o.tl o.ch o.mk o.vc o.cl o.gv o.na o.ln o.sd 0 o.X).gv), .int (nI (Dx.of o.lt o.fs o.rw o.am o.wv o.tl o.ch o.mk o.vc o.cl o.gv o.na o.ln o.sd 0 o.X).na), .int (Dx.of o.lt o.fs o.rw o.am o.wv o.tl o.ch o.mk o.vc o.cl o.gv o.na o.ln o.sd 0 o.X).sd, .int 0, .ref e6, .int (nI (Dx.of o.lt o.fs o.rw o.am o.wv o.tl o.ch o.mk o.vc o.cl o.gv o.na o.ln o.sd 0 o.X).ln), .ref e7, .ref e8]))]) hP hD [0] [] rfl rfl (by decide) (by decide) hk1 hFc hP1 hD1
  generalize H1 = H at hP hS ⊢
  have hP : va_P (dC, dI) vwCl [(e0, .inr (7, [.ref e1, .ref e2, .ref e3, .ref e4, .ref e5, .int (nI (Dx.of o.lt o.fs o.rw o.am o.wv o.tl o.ch o.mk o.vc o.cl o.gv o.na o.ln o.sd 0 o.X).vc), .int (nI (Dx.of o.lt o.fs o.rw o.am o.wv o.tl o.ch o.mk o.vc o.cl o.gv o.na o.ln o.sd 0 o.X).cl), .int (nI (Dx.of o.lt o.fs o.rw o.am o.wv o.tl o.ch o.mk o.vc o.cl o.gv o.na o.ln o.sd 0 o.X).gv), .int (nI (Dx.of o.lt o.fs o.rw o.am o.wv o.tl o.ch o.mk o.vc o.cl o.gv o.na o.ln o.sd 0 o.X).na), .int (Dx.of o.lt o.fs o.rw o.am o.wv o.tl o.ch o.mk o.vc o.cl o.gv o.na o.ln o.sd 0 o.X).sd, .int 0, .ref e6, .int (nI (Dx.of o.lt o.fs o.rw o.am o.wv o.tl o.ch o.mk o.vc o.cl o.gv o.na o.ln o.sd 0 o.X).ln), .ref e7, .ref e8]))] H := hP
  have hD : va_D A [(e0, .inr (7, [.ref e1, .ref e2, .ref e3, .ref e4, .ref e5, .int (nI (Dx.of o.lt o.fs o.rw o.am o.wv o.tl o.ch o.mk o.vc o.cl o.gv o.na o.ln o.sd 0 o.X).vc), .int (nI (Dx.of o.lt o.fs o.rw o.am o.wv o.tl o.ch o.mk o.vc o.cl o.gv o.na o.ln o.sd 0 o.X).cl), .int (nI (Dx.of o.lt o.fs o.rw o.am o.wv o.tl o.ch o.mk o.vc o.cl o.gv o.na o.ln o.sd 0 o.X).gv), .int (nI (Dx.of o.lt o.fs o.rw o.am o.wv o.tl o.ch o.mk o.vc o.cl o.gv o.na o.ln o.sd 0 o.X).na), .int (Dx.of o.lt o.fs o.rw o.am o.wv o.tl o.ch o.mk o.vc o.cl o.gv o.na o.ln o.sd 0 o.X).sd, .int 0, .ref e6, .int (nI (Dx.of o.lt o.fs o.rw o.am o.wv o.tl o.ch o.mk o.vc o.cl o.gv o.na o.ln o.sd 0 o.X).ln), .ref e7, .ref e8]))] := hD
  refine W.widen (k := 0) (n := 0) (by decide) (by decide) ?_
  have hw9 : r_3 = 1 := hw9.trans er9
  subst hw9
  have hP : va_P (dC, dI) vwCl [(e0, .inr (7, [.ref e1, .ref e2, .ref e3, .ref e4, .ref e5, .int (nI o.vc), .int (nI o.cl), .int (nI o.gv), .int (nI o.na), .int o.sd, .int 0, .ref e6, .int (nI o.ln), .ref e7, .ref e8]))] H := hP
  have hD : va_D A [(e0, .inr (7, [.ref e1, .ref e2, .ref e3, .ref e4, .ref e5, .int (nI o.vc), .int (nI o.cl), .int (nI o.gv), .int (nI o.na), .int o.sd, .int 0, .ref e6, .int (nI o.ln), .ref e7, .ref e8]))] := hD
  refine lv_if_ne (tgt := 52) hx hb d_Md_variables_47 (by decide) (fun c_47 => ?_) (fun c_47 => absurd c_47 (by decide))
  refine lv_aload_n hx hb d_Md_variables_52 rfl (lv_at hl 0 rfl) ?_
  refine lv_dup hx hb d_Md_variables_53 rfl ?_
  refine va_get (D := (dC, dI)) (ci := 7) (v := .int (nI o.vc)) (C := R_Md) (T := F_Md) (N := 15) hx hb hw in_Md hown hK hP 0 rfl rfl 5 (by decide) (hw (Cond.fieldLink "ClauseSearchModel" 43 "ClauseSearchModel" "variables" "I") k_609) (fun _ h9 => h9) rfl d_Md_variables_54 ?_
  refine lv_iload_n hx hb d_Md_variables_57 rfl (lv_at hl 1 rfl) ?_
  refine lv_iadd hx hb d_Md_variables_58 ?_
  refine lv_topi (fun y_4 ey_4 => ?_)
  obtain rfl : y_4 = nI (o.vc + n0) := ey_4.trans (nI_add o.vc n0)
  refine va_put (D := (dC, dI)) (ci := 7) (v := .int (nI (o.vc + n0))) (ty := .int) (C := R_Md) (T := F_Md) (N := 15) hx hb hw in_Md t_Md t_Md_ok n_Md hown hK hP hD hS 0 rfl rfl 5 (by decide) (hw (Cond.fieldLink "ClauseSearchModel" 43 "ClauseSearchModel" "variables" "I") k_609) (fun _ h9 => h9) rfl (by decide +kernel) rfl rfl (Nat.le_of_ble_eq_true rfl) d_Md_variables_59 (fun H locs hP hD hS => ?_)
  have hP : va_P (dC, dI) vwCl [(e0, .inr (7, [.ref e1, .ref e2, .ref e3, .ref e4, .ref e5, .int (nI (o.vc + n0)), .int (nI o.cl), .int (nI o.gv), .int (nI o.na), .int o.sd, .int 0, .ref e6, .int (nI o.ln), .ref e7, .ref e8]))] H := hP
  have hD : va_D A [(e0, .inr (7, [.ref e1, .ref e2, .ref e3, .ref e4, .ref e5, .int (nI (o.vc + n0)), .int (nI o.cl), .int (nI o.gv), .int (nI o.na), .int o.sd, .int 0, .ref e6, .int (nI o.ln), .ref e7, .ref e8]))] := hD
  refine lv_aload_n hx hb d_Md_variables_62 rfl (lv_at hl 0 rfl) ?_
  refine lv_iconst (v := 0) hx hb d_Md_variables_63 (by decide) ?_
  refine va_put (D := (dC, dI)) (ci := 7) (v := .int 0) (ty := .boolean) (C := R_Md) (T := F_Md) (N := 15) hx hb hw in_Md t_Md t_Md_ok n_Md hown hK hP hD hS 0 rfl rfl 9 (by decide) (hw (Cond.fieldLink "ClauseSearchModel" 46 "ClauseSearchModel" "stands" "Z") k_613) (fun _ h9 => h9) rfl (by decide +kernel) rfl rfl (Nat.le_of_ble_eq_true rfl) d_Md_variables_64 (fun H locs hP hD hS => ?_)
  have hP : va_P (dC, dI) vwCl [(e0, .inr (7, [.ref e1, .ref e2, .ref e3, .ref e4, .ref e5, .int (nI (o.vc + n0)), .int (nI o.cl), .int (nI o.gv), .int (nI o.na), .int 0, .int 0, .ref e6, .int (nI o.ln), .ref e7, .ref e8]))] H := hP
  have hD : va_D A [(e0, .inr (7, [.ref e1, .ref e2, .ref e3, .ref e4, .ref e5, .int (nI (o.vc + n0)), .int (nI o.cl), .int (nI o.gv), .int (nI o.na), .int 0, .int 0, .ref e6, .int (nI o.ln), .ref e7, .ref e8]))] := hD
  refine lv_aload_n hx hb d_Md_variables_67 rfl (lv_at hl 0 rfl) ?_
  refine va_get (D := (dC, dI)) (ci := 7) (v := .int (nI (o.vc + n0))) (C := R_Md) (T := F_Md) (N := 15) hx hb hw in_Md hown hK hP 0 rfl rfl 5 (by decide) (hw (Cond.fieldLink "ClauseSearchModel" 43 "ClauseSearchModel" "variables" "I") k_609) (fun _ h9 => h9) rfl d_Md_variables_68 ?_
  have hK := hK.sub (tys' := []) [] rfl
  refine W.widen (k := 0) (n := 0) (by decide) (by decide) ?_
  exact W.iret (v := nI (o.vc + n0)) hx hb hr (fun t ht hW => ⟨⟨nI (o.vc + n0), nI (o.vc + n0), rfl, rfl, rfl, by rw [ht]; exact hP, va_K.moved hW.alike hK, hD⟩, hS.F ht⟩) hS.2.2 d_Md_variables_71

set_option maxHeartbeats 4000000 in
set_option maxRecDepth 100000 in
/-- give(l) refuses l -/
theorem c_Md_give_1 (l : Launch) (dC : Nat → ClassId) (dI : Nat → Nat → Nat) (e0 : Nat) (e1 : Nat) (e2 : Nat) (e3 : Nat) (e4 : Nat) (e5 : Nat) (e6 : Nat) (e7 : Nat) (e8 : Nat) (sz : Nat) (o : Dx) (p0 : Int32) (h : p0 = 0 ∨ p0 < -nI o.vc ∨ nI o.vc < p0) : Met l y_Md_give (wq y_Md_give prog_9_method_5_code 3 (some .int)) ({ frames := 1, cells := 0, slots := 0, locals := 22 }) (va_Pc [.ref e0, .int p0] (fun U => U.heap.size = sz ∧ va_P (dC, dI) vwCl [(e0, .inr (7, [.ref e1, .ref e2, .ref e3, .ref e4, .ref e5, .int (nI o.vc), .int (nI o.cl), .int (nI o.gv), .int (nI o.na), .int o.sd, .int o.cd, .ref e6, .int (nI o.ln), .ref e7, .ref e8]))] U.heap ∧ va_K (dC, dI) vwCl [] U ∧ va_D (fun _ => True) [(e0, .inr (7, [.ref e1, .ref e2, .ref e3, .ref e4, .ref e5, .int (nI o.vc), .int (nI o.cl), .int (nI o.gv), .int (nI o.na), .int o.sd, .int o.cd, .ref e6, .int (nI o.ln), .ref e7, .ref e8]))])) (va_Qi (fun (r : Int32) (r9 : Int32) => r = r9) (fun (r9 : Int32) t => r9 = 0 ∧ va_P (dC, dI) vwCl [(e0, .inr (7, [.ref e1, .ref e2, .ref e3, .ref e4, .ref e5, .int (nI o.vc), .int (nI o.cl), .int (nI o.gv), .int (nI o.na), .int o.sd, .int 1, .ref e6, .int (nI o.ln), .ref e7, .ref e8]))] t.heap ∧ va_K (dC, dI) vwCl [] t ∧ va_D (va_A [(e0, .inr (7, [.ref e1, .ref e2, .ref e3, .ref e4, .ref e5, .int (nI o.vc), .int (nI o.cl), .int (nI o.gv), .int (nI o.na), .int o.sd, .int o.cd, .ref e6, .int (nI o.ln), .ref e7, .ref e8]))] sz) [(e0, .inr (7, [.ref e1, .ref e2, .ref e3, .ref e4, .ref e5, .int (nI o.vc), .int (nI o.cl), .int (nI o.gv), .int (nI o.na), .int o.sd, .int 1, .ref e6, .int (nI o.ln), .ref e7, .ref e8]))]) (va_A [(e0, .inr (7, [.ref e1, .ref e2, .ref e3, .ref e4, .ref e5, .int (nI o.vc), .int (nI o.cl), .int (nI o.gv), .int (nI o.na), .int o.sd, .int o.cd, .ref e6, .int (nI o.ln), .ref e7, .ref e8]))] sz)) (0) (0) (va_A [(e0, .inr (7, [.ref e1, .ref e2, .ref e3, .ref e4, .ref e5, .int (nI o.vc), .int (nI o.cl), .int (nI o.gv), .int (nI o.na), .int o.sd, .int o.cd, .ref e6, .int (nI o.ln), .ref e7, .ref e8]))] sz) := by
  refine Met.ofW (cc := prog_9_method_5_code) (maxL := 3) (ret := (some .int)) (by decide) rfl ?_
  intro p e s m args below meth c s₁ B hml hv
  obtain ⟨rfl, hsz, hP, hK, hD0⟩ := hv
  have hx := B.exec
  have hb := B.bytes
  have hr := B.returns
  have hw : ∀ w ∈ bg_W, w.before #[Value.ref e0, Value.int p0] s = true := fun w h => atoms_spec (ws := (wq y_Md_give prog_9_method_5_code 3 (some .int))) B.pre w (List.mem_cons_of_mem _ h)
  have hown : s.vm.findClass R_Md = some m.cls := findClass_of_methodNamed B.named
  have hlocks := B.notSynchronized
  subst hsz
  have hD := hD0.self (sz := s.heap.size)
  generalize hAe : va_A [(e0, .inr (7, [.ref e1, .ref e2, .ref e3, .ref e4, .ref e5, .int (nI o.vc), .int (nI o.cl), .int (nI o.gv), .int (nI o.na), .int o.sd, .int o.cd, .ref e6, .int (nI o.ln), .ref e7, .ref e8]))] s.heap.size = A at hD ⊢
  have hA : ∀ q : Nat, s.heap.size ≤ q → A q := fun q h => by rw [← hAe]; exact Or.inr h
  have hS : va_S A s.heap s.heap [] := va_S.rf
  have hP : va_P (dC, dI) vwCl [(e0, .inr (7, [.ref e1, .ref e2, .ref e3, .ref e4, .ref e5, .int (nI o.vc), .int (nI o.cl), .int (nI o.gv), .int (nI o.na), .int o.sd, .int o.cd, .ref e6, .int (nI o.ln), .ref e7, .ref e8]))] s.heap := hP
  have hl := lv_entry ([.ref e0, .int p0]) (n := 3) (Nat.le_of_ble_eq_true rfl)
  rw [lg_entry_eq]
  generalize (lg_sl ([.ref e0, .int p0]) ++ List.replicate (3 - (lg_sl ([.ref e0, .int p0])).length) Slot.unset).toArray = ls at hl ⊢
  have hl : lv_has ls 3 [(0, .ref e0), (1, .int p0)] := hl
  obtain ⟨H, hH⟩ : ∃ H : Heap, H = s.heap := ⟨_, rfl⟩
  rw [← hH] at hP
  have hS : va_S A s.heap H [] := by rw [hH]; exact va_S.rf
  show W p l e _ s m _ below meth c s.heap [] 0 0 _ _
  rw [← hH]
  refine lv_iload_n hx hb d_Md_give_0 rfl (lv_at hl 1 rfl) ?_
  refine lv_if_eq (tgt := 25) hx hb d_Md_give_1 (by decide) (fun c_1 => ?_) (fun c_1 => ?_)
  · refine lv_iconst (v := 0) hx hb d_Md_give_25 (by decide) ?_
    refine lv_istore_n (lv' := [(2, .int 0), (0, .ref e0), (1, .int p0)]) hx hb d_Md_give_26 rfl hl (by decide) rfl (fun ls hl => ?_)
    refine lv_aload_n hx hb d_Md_give_27 rfl (lv_at hl 1 rfl) ?_
    refine lv_iload_n hx hb d_Md_give_28 rfl (lv_at hl 0 rfl) ?_
    refine lv_iconst (v := 1) hx hb d_Md_give_29 (by decide) ?_
    have hPc := hP.sub (ws' := [(e0, .inr (7, [.ref e1, .ref e2, .ref e3, .ref e4, .ref e5, .int (nI o.vc), .int (nI o.cl), .int (nI o.gv), .int (nI o.na), .int o.sd, .int o.cd, .ref e6, .int (nI o.ln), .ref e7, .ref e8]))]) [0] rfl
    have hDc := hD.sub (ws' := [(e0, .inr (7, [.ref e1, .ref e2, .ref e3, .ref e4, .ref e5, .int (nI o.vc), .int (nI o.cl), .int (nI o.gv), .int (nI o.na), .int o.sd, .int o.cd, .ref e6, .int (nI o.ln), .ref e7, .ref e8]))]) [0] (by decide) rfl
    have hKc := hK.sub (tys' := []) [] rfl
    have hFc := va_free (wc := [(e0, .inr (7, [.ref e1, .ref e2, .ref e3, .ref e4, .ref e5, .int (nI o.vc), .int (nI o.cl), .int (nI o.gv), .int (nI o.na), .int o.sd, .int o.cd, .ref e6, .int (nI o.ln), .ref e7, .ref e8]))]) hD hS hA [0] rfl
    refine va_calli (va_runV (As := [.int 0, .int 1]) (rest := []) ⟨hx, hb, hml, hown, hw⟩ (c_Md_good_0 l dC dI e0 e1 e2 e3 e4 e5 e6 e7 e8 H.size o 1) (cb_V (C := R_Md) 2 hw k_661 k_37 k_658 k_660 k_21 rfl rfl (by decide +kernel) ⟨Nat.le_of_ble_eq_true rfl, Nat.le_of_ble_eq_true rfl⟩) ⟨fun a U g mk q => by obtain ⟨q0, q1, qP, qK, qD⟩ := q; exact ⟨q0, q1, qP, va_K.moved (u := U) (U := U.calling g mk a) (Vm.Alike.refl U.vm) qK, qD⟩, va_recv hKc hPc (ci := 7) (q0 := 0) rfl rfl, fun U hU hW => ⟨rfl, by rw [hU], by rw [hU]; exact hPc, va_K.moved hW.alike hKc, hDc.weaken (fun _ _ _ _ => trivial)⟩⟩ rfl rfl hl.1 rfl (lv_room (Nat.le_of_ble_eq_true rfl)) d_Md_give_30 ⟨Nat.le_of_ble_eq_true rfl, Nat.le_of_ble_eq_true rfl⟩) hS (fun q _ h => hFc q h) hFc (fun r_1 u t H1 locs ht hvm hw9 hB hz1 hk1 hS => ?_)
    obtain ⟨er9, hP1, hK1, hD1⟩ := hB
    rw [ht] at hP1
    have hK1 := va_K.moved hvm.symm hK1
    obtain ⟨hP, hD⟩ := va_join (wr := []) (w1 := [(e0, .inr (7, [.ref e1, .ref e2, .ref e3, .ref e4, .ref e5, .int (nI o.vc), .int (nI o.cl), .int (nI o.gv), .int (nI o.na), .int o.sd, .int 1, .ref e6, .int (nI o.ln), .ref e7, .ref e8]))]) hP hD [0] [] rfl rfl (by decide) (by decide) hk1 hFc hP1 hD1
    generalize H1 = H at hP hS ⊢
    have hP : va_P (dC, dI) vwCl [(e0, .inr (7, [.ref e1, .ref e2, .ref e3, .ref e4, .ref e5, .int (nI o.vc), .int (nI o.cl), .int (nI o.gv), .int (nI o.na), .int o.sd, .int 1, .ref e6, .int (nI o.ln), .ref e7, .ref e8]))] H := hP
    have hD : va_D A [(e0, .inr (7, [.ref e1, .ref e2, .ref e3, .ref e4, .ref e5, .int (nI o.vc), .int (nI o.cl), .int (nI o.gv), .int (nI o.na), .int o.sd, .int 1, .ref e6, .int (nI o.ln), .ref e7, .ref e8]))] := hD
    refine W.widen (k := 0) (n := 0) (by decide) (by decide) ?_
    have hw9 : r_1 = 0 := hw9.trans er9
    subst hw9
    have hP : va_P (dC, dI) vwCl [(e0, .inr (7, [.ref e1, .ref e2, .ref e3, .ref e4, .ref e5, .int (nI o.vc), .int (nI o.cl), .int (nI o.gv), .int (nI o.na), .int o.sd, .int 1, .ref e6, .int (nI o.ln), .ref e7, .ref e8]))] H := hP
    have hD : va_D A [(e0, .inr (7, [.ref e1, .ref e2, .ref e3, .ref e4, .ref e5, .int (nI o.vc), .int (nI o.cl), .int (nI o.gv), .int (nI o.na), .int o.sd, .int 1, .ref e6, .int (nI o.ln), .ref e7, .ref e8]))] := hD
    refine lv_if_eq (tgt := 58) hx hb d_Md_give_33 (by decide) (fun c_33 => ?_) (fun c_33 => absurd c_33 (by decide))
    refine lv_iconst (v := 0) hx hb d_Md_give_58 (by decide) ?_
    have hK := hK.sub (tys' := []) [] rfl
    refine W.widen (k := 0) (n := 0) (by decide) (by decide) ?_
    exact W.iret (v := 0) hx hb hr (fun t ht hW => ⟨⟨0, 0, rfl, rfl, rfl, by rw [ht]; exact hP, va_K.moved hW.alike hK, hD⟩, hS.F ht⟩) hS.2.2 d_Md_give_59
  · refine lv_iload_n hx hb d_Md_give_4 rfl (lv_at hl 1 rfl) ?_
    refine lv_aload_n hx hb d_Md_give_5 rfl (lv_at hl 0 rfl) ?_
    refine va_get (D := (dC, dI)) (ci := 7) (v := .int (nI o.vc)) (C := R_Md) (T := F_Md) (N := 15) hx hb hw in_Md hown hK hP 0 rfl rfl 5 (by decide) (hw (Cond.fieldLink "ClauseSearchModel" 43 "ClauseSearchModel" "variables" "I") k_609) (fun _ h9 => h9) rfl d_Md_give_6 ?_
    refine lv_ineg hx hb d_Md_give_9 ?_
    refine lv_icmp_lt (tgt := 25) hx hb d_Md_give_10 (by decide) (fun c_10 => ?_) (fun c_10 => ?_)
    · refine lv_iconst (v := 0) hx hb d_Md_give_25 (by decide) ?_
      refine lv_istore_n (lv' := [(2, .int 0), (0, .ref e0), (1, .int p0)]) hx hb d_Md_give_26 rfl hl (by decide) rfl (fun ls hl => ?_)
      refine lv_aload_n hx hb d_Md_give_27 rfl (lv_at hl 1 rfl) ?_
      refine lv_iload_n hx hb d_Md_give_28 rfl (lv_at hl 0 rfl) ?_
      refine lv_iconst (v := 1) hx hb d_Md_give_29 (by decide) ?_
      have hPc := hP.sub (ws' := [(e0, .inr (7, [.ref e1, .ref e2, .ref e3, .ref e4, .ref e5, .int (nI o.vc), .int (nI o.cl), .int (nI o.gv), .int (nI o.na), .int o.sd, .int o.cd, .ref e6, .int (nI o.ln), .ref e7, .ref e8]))]) [0] rfl
      have hDc := hD.sub (ws' := [(e0, .inr (7, [.ref e1, .ref e2, .ref e3, .ref e4, .ref e5, .int (nI o.vc), .int (nI o.cl), .int (nI o.gv), .int (nI o.na), .int o.sd, .int o.cd, .ref e6, .int (nI o.ln), .ref e7, .ref e8]))]) [0] (by decide) rfl
      have hKc := hK.sub (tys' := []) [] rfl
      have hFc := va_free (wc := [(e0, .inr (7, [.ref e1, .ref e2, .ref e3, .ref e4, .ref e5, .int (nI o.vc), .int (nI o.cl), .int (nI o.gv), .int (nI o.na), .int o.sd, .int o.cd, .ref e6, .int (nI o.ln), .ref e7, .ref e8]))]) hD hS hA [0] rfl
      refine va_calli (va_runV (As := [.int 0, .int 1]) (rest := []) ⟨hx, hb, hml, hown, hw⟩ (c_Md_good_0 l dC dI e0 e1 e2 e3 e4 e5 e6 e7 e8 H.size o 1) (cb_V (C := R_Md) 2 hw k_661 k_37 k_658 k_660 k_21 rfl rfl (by decide +kernel) ⟨Nat.le_of_ble_eq_true rfl, Nat.le_of_ble_eq_true rfl⟩) ⟨fun a U g mk q => by obtain ⟨q0, q1, qP, qK, qD⟩ := q; exact ⟨q0, q1, qP, va_K.moved (u := U) (U := U.calling g mk a) (Vm.Alike.refl U.vm) qK, qD⟩, va_recv hKc hPc (ci := 7) (q0 := 0) rfl rfl, fun U hU hW => ⟨rfl, by rw [hU], by rw [hU]; exact hPc, va_K.moved hW.alike hKc, hDc.weaken (fun _ _ _ _ => trivial)⟩⟩ rfl rfl hl.1 rfl (lv_room (Nat.le_of_ble_eq_true rfl)) d_Md_give_30 ⟨Nat.le_of_ble_eq_true rfl, Nat.le_of_ble_eq_true rfl⟩) hS (fun q _ h => hFc q h) hFc (fun r_2 u t H1 locs ht hvm hw9 hB hz1 hk1 hS => ?_)
      obtain ⟨er9, hP1, hK1, hD1⟩ := hB
      rw [ht] at hP1
      have hK1 := va_K.moved hvm.symm hK1
      obtain ⟨hP, hD⟩ := va_join (wr := []) (w1 := [(e0, .inr (7, [.ref e1, .ref e2, .ref e3, .ref e4, .ref e5, .int (nI o.vc), .int (nI o.cl), .int (nI o.gv), .int (nI o.na), .int o.sd, .int 1, .ref e6, .int (nI o.ln), .ref e7, .ref e8]))]) hP hD [0] [] rfl rfl (by decide) (by decide) hk1 hFc hP1 hD1
      generalize H1 = H at hP hS ⊢
      have hP : va_P (dC, dI) vwCl [(e0, .inr (7, [.ref e1, .ref e2, .ref e3, .ref e4, .ref e5, .int (nI o.vc), .int (nI o.cl), .int (nI o.gv), .int (nI o.na), .int o.sd, .int 1, .ref e6, .int (nI o.ln), .ref e7, .ref e8]))] H := hP
      have hD : va_D A [(e0, .inr (7, [.ref e1, .ref e2, .ref e3, .ref e4, .ref e5, .int (nI o.vc), .int (nI o.cl), .int (nI o.gv), .int (nI o.na), .int o.sd, .int 1, .ref e6, .int (nI o.ln), .ref e7, .ref e8]))] := hD
      refine W.widen (k := 0) (n := 0) (by decide) (by decide) ?_
      have hw9 : r_2 = 0 := hw9.trans er9
      subst hw9
      have hP : va_P (dC, dI) vwCl [(e0, .inr (7, [.ref e1, .ref e2, .ref e3, .ref e4, .ref e5, .int (nI o.vc), .int (nI o.cl), .int (nI o.gv), .int (nI o.na), .int o.sd, .int 1, .ref e6, .int (nI o.ln), .ref e7, .ref e8]))] H := hP
      have hD : va_D A [(e0, .inr (7, [.ref e1, .ref e2, .ref e3, .ref e4, .ref e5, .int (nI o.vc), .int (nI o.cl), .int (nI o.gv), .int (nI o.na), .int o.sd, .int 1, .ref e6, .int (nI o.ln), .ref e7, .ref e8]))] := hD
      refine lv_if_eq (tgt := 58) hx hb d_Md_give_33 (by decide) (fun c_33 => ?_) (fun c_33 => absurd c_33 (by decide))
      refine lv_iconst (v := 0) hx hb d_Md_give_58 (by decide) ?_
      have hK := hK.sub (tys' := []) [] rfl
      refine W.widen (k := 0) (n := 0) (by decide) (by decide) ?_
      exact W.iret (v := 0) hx hb hr (fun t ht hW => ⟨⟨0, 0, rfl, rfl, rfl, by rw [ht]; exact hP, va_K.moved hW.alike hK, hD⟩, hS.F ht⟩) hS.2.2 d_Md_give_59
    · refine lv_iload_n hx hb d_Md_give_13 rfl (lv_at hl 1 rfl) ?_
      refine lv_aload_n hx hb d_Md_give_14 rfl (lv_at hl 0 rfl) ?_
      refine va_get (D := (dC, dI)) (ci := 7) (v := .int (nI o.vc)) (C := R_Md) (T := F_Md) (N := 15) hx hb hw in_Md hown hK hP 0 rfl rfl 5 (by decide) (hw (Cond.fieldLink "ClauseSearchModel" 43 "ClauseSearchModel" "variables" "I") k_609) (fun _ h9 => h9) rfl d_Md_give_15 ?_
      refine lv_icmp_gt (tgt := 25) hx hb d_Md_give_18 (by decide) (fun c_18 => ?_) (fun c_18 => absurd c_18 (by rcases h with h | h | h; exact absurd h c_1; exact absurd h c_10; exact fun q => q h))
      refine lv_iconst (v := 0) hx hb d_Md_give_25 (by decide) ?_
      refine lv_istore_n (lv' := [(2, .int 0), (0, .ref e0), (1, .int p0)]) hx hb d_Md_give_26 rfl hl (by decide) rfl (fun ls hl => ?_)
      refine lv_aload_n hx hb d_Md_give_27 rfl (lv_at hl 1 rfl) ?_
      refine lv_iload_n hx hb d_Md_give_28 rfl (lv_at hl 0 rfl) ?_
      refine lv_iconst (v := 1) hx hb d_Md_give_29 (by decide) ?_
      have hPc := hP.sub (ws' := [(e0, .inr (7, [.ref e1, .ref e2, .ref e3, .ref e4, .ref e5, .int (nI o.vc), .int (nI o.cl), .int (nI o.gv), .int (nI o.na), .int o.sd, .int o.cd, .ref e6, .int (nI o.ln), .ref e7, .ref e8]))]) [0] rfl
      have hDc := hD.sub (ws' := [(e0, .inr (7, [.ref e1, .ref e2, .ref e3, .ref e4, .ref e5, .int (nI o.vc), .int (nI o.cl), .int (nI o.gv), .int (nI o.na), .int o.sd, .int o.cd, .ref e6, .int (nI o.ln), .ref e7, .ref e8]))]) [0] (by decide) rfl
      have hKc := hK.sub (tys' := []) [] rfl
      have hFc := va_free (wc := [(e0, .inr (7, [.ref e1, .ref e2, .ref e3, .ref e4, .ref e5, .int (nI o.vc), .int (nI o.cl), .int (nI o.gv), .int (nI o.na), .int o.sd, .int o.cd, .ref e6, .int (nI o.ln), .ref e7, .ref e8]))]) hD hS hA [0] rfl
      refine va_calli (va_runV (As := [.int 0, .int 1]) (rest := []) ⟨hx, hb, hml, hown, hw⟩ (c_Md_good_0 l dC dI e0 e1 e2 e3 e4 e5 e6 e7 e8 H.size o 1) (cb_V (C := R_Md) 2 hw k_661 k_37 k_658 k_660 k_21 rfl rfl (by decide +kernel) ⟨Nat.le_of_ble_eq_true rfl, Nat.le_of_ble_eq_true rfl⟩) ⟨fun a U g mk q => by obtain ⟨q0, q1, qP, qK, qD⟩ := q; exact ⟨q0, q1, qP, va_K.moved (u := U) (U := U.calling g mk a) (Vm.Alike.refl U.vm) qK, qD⟩, va_recv hKc hPc (ci := 7) (q0 := 0) rfl rfl, fun U hU hW => ⟨rfl, by rw [hU], by rw [hU]; exact hPc, va_K.moved hW.alike hKc, hDc.weaken (fun _ _ _ _ => trivial)⟩⟩ rfl rfl hl.1 rfl (lv_room (Nat.le_of_ble_eq_true rfl)) d_Md_give_30 ⟨Nat.le_of_ble_eq_true rfl, Nat.le_of_ble_eq_true rfl⟩) hS (fun q _ h => hFc q h) hFc (fun r_3 u t H1 locs ht hvm hw9 hB hz1 hk1 hS => ?_)
      obtain ⟨er9, hP1, hK1, hD1⟩ := hB
      rw [ht] at hP1
      have hK1 := va_K.moved hvm.symm hK1
      obtain ⟨hP, hD⟩ := va_join (wr := []) (w1 := [(e0, .inr (7, [.ref e1, .ref e2, .ref e3, .ref e4, .ref e5, .int (nI o.vc), .int (nI o.cl), .int (nI o.gv), .int (nI o.na), .int o.sd, .int 1, .ref e6, .int (nI o.ln), .ref e7, .ref e8]))]) hP hD [0] [] rfl rfl (by decide) (by decide) hk1 hFc hP1 hD1
      generalize H1 = H at hP hS ⊢
      have hP : va_P (dC, dI) vwCl [(e0, .inr (7, [.ref e1, .ref e2, .ref e3, .ref e4, .ref e5, .int (nI o.vc), .int (nI o.cl), .int (nI o.gv), .int (nI o.na), .int o.sd, .int 1, .ref e6, .int (nI o.ln), .ref e7, .ref e8]))] H := hP
      have hD : va_D A [(e0, .inr (7, [.ref e1, .ref e2, .ref e3, .ref e4, .ref e5, .int (nI o.vc), .int (nI o.cl), .int (nI o.gv), .int (nI o.na), .int o.sd, .int 1, .ref e6, .int (nI o.ln), .ref e7, .ref e8]))] := hD
      refine W.widen (k := 0) (n := 0) (by decide) (by decide) ?_
      have hw9 : r_3 = 0 := hw9.trans er9
      subst hw9
      have hP : va_P (dC, dI) vwCl [(e0, .inr (7, [.ref e1, .ref e2, .ref e3, .ref e4, .ref e5, .int (nI o.vc), .int (nI o.cl), .int (nI o.gv), .int (nI o.na), .int o.sd, .int 1, .ref e6, .int (nI o.ln), .ref e7, .ref e8]))] H := hP
      have hD : va_D A [(e0, .inr (7, [.ref e1, .ref e2, .ref e3, .ref e4, .ref e5, .int (nI o.vc), .int (nI o.cl), .int (nI o.gv), .int (nI o.na), .int o.sd, .int 1, .ref e6, .int (nI o.ln), .ref e7, .ref e8]))] := hD
      refine lv_if_eq (tgt := 58) hx hb d_Md_give_33 (by decide) (fun c_33 => ?_) (fun c_33 => absurd c_33 (by decide))
      refine lv_iconst (v := 0) hx hb d_Md_give_58 (by decide) ?_
      have hK := hK.sub (tys' := []) [] rfl
      refine W.widen (k := 0) (n := 0) (by decide) (by decide) ?_
      exact W.iret (v := 0) hx hb hr (fun t ht hW => ⟨⟨0, 0, rfl, rfl, rfl, by rw [ht]; exact hP, va_K.moved hW.alike hK, hD⟩, hS.F ht⟩) hS.2.2 d_Md_give_59

set_option maxHeartbeats 4000000 in
set_option maxRecDepth 100000 in
/-- give(l): the row is full -/
theorem c_Md_give_2 (l : Launch) (dC : Nat → ClassId) (dI : Nat → Nat → Nat) (e0 : Nat) (e1 : Nat) (e2 : Nat) (e3 : Nat) (e4 : Nat) (e5 : Nat) (e6 : Nat) (e7 : Nat) (e8 : Nat) (sz : Nat) (o : Dx) (p0 : Int32) (h1 : ¬ p0 = 0) (h2 : ¬ p0 < -nI o.vc) (h3 : ¬ nI o.vc < p0) (h4 : o.gv = 20) : Met l y_Md_give (wq y_Md_give prog_9_method_5_code 3 (some .int)) ({ frames := 1, cells := 0, slots := 0, locals := 22 }) (va_Pc [.ref e0, .int p0] (fun U => U.heap.size = sz ∧ va_P (dC, dI) vwCl [(e0, .inr (7, [.ref e1, .ref e2, .ref e3, .ref e4, .ref e5, .int (nI o.vc), .int (nI o.cl), .int (nI o.gv), .int (nI o.na), .int o.sd, .int o.cd, .ref e6, .int (nI o.ln), .ref e7, .ref e8]))] U.heap ∧ va_K (dC, dI) vwCl [] U ∧ va_D (fun _ => True) [(e0, .inr (7, [.ref e1, .ref e2, .ref e3, .ref e4, .ref e5, .int (nI o.vc), .int (nI o.cl), .int (nI o.gv), .int (nI o.na), .int o.sd, .int o.cd, .ref e6, .int (nI o.ln), .ref e7, .ref e8]))])) (va_Qi (fun (r : Int32) (r9 : Int32) => r = r9) (fun (r9 : Int32) t => r9 = 0 ∧ va_P (dC, dI) vwCl [(e0, .inr (7, [.ref e1, .ref e2, .ref e3, .ref e4, .ref e5, .int (nI o.vc), .int (nI o.cl), .int (nI o.gv), .int (nI o.na), .int o.sd, .int 2, .ref e6, .int (nI o.ln), .ref e7, .ref e8]))] t.heap ∧ va_K (dC, dI) vwCl [] t ∧ va_D (va_A [(e0, .inr (7, [.ref e1, .ref e2, .ref e3, .ref e4, .ref e5, .int (nI o.vc), .int (nI o.cl), .int (nI o.gv), .int (nI o.na), .int o.sd, .int o.cd, .ref e6, .int (nI o.ln), .ref e7, .ref e8]))] sz) [(e0, .inr (7, [.ref e1, .ref e2, .ref e3, .ref e4, .ref e5, .int (nI o.vc), .int (nI o.cl), .int (nI o.gv), .int (nI o.na), .int o.sd, .int 2, .ref e6, .int (nI o.ln), .ref e7, .ref e8]))]) (va_A [(e0, .inr (7, [.ref e1, .ref e2, .ref e3, .ref e4, .ref e5, .int (nI o.vc), .int (nI o.cl), .int (nI o.gv), .int (nI o.na), .int o.sd, .int o.cd, .ref e6, .int (nI o.ln), .ref e7, .ref e8]))] sz)) (0) (0) (va_A [(e0, .inr (7, [.ref e1, .ref e2, .ref e3, .ref e4, .ref e5, .int (nI o.vc), .int (nI o.cl), .int (nI o.gv), .int (nI o.na), .int o.sd, .int o.cd, .ref e6, .int (nI o.ln), .ref e7, .ref e8]))] sz) := by
  refine Met.ofW (cc := prog_9_method_5_code) (maxL := 3) (ret := (some .int)) (by decide) rfl ?_
  intro p e s m args below meth c s₁ B hml hv
  obtain ⟨rfl, hsz, hP, hK, hD0⟩ := hv
  have hx := B.exec
  have hb := B.bytes
  have hr := B.returns
  have hw : ∀ w ∈ bg_W, w.before #[Value.ref e0, Value.int p0] s = true := fun w h => atoms_spec (ws := (wq y_Md_give prog_9_method_5_code 3 (some .int))) B.pre w (List.mem_cons_of_mem _ h)
  have hown : s.vm.findClass R_Md = some m.cls := findClass_of_methodNamed B.named
  have hlocks := B.notSynchronized
  subst hsz
  have hD := hD0.self (sz := s.heap.size)
  generalize hAe : va_A [(e0, .inr (7, [.ref e1, .ref e2, .ref e3, .ref e4, .ref e5, .int (nI o.vc), .int (nI o.cl), .int (nI o.gv), .int (nI o.na), .int o.sd, .int o.cd, .ref e6, .int (nI o.ln), .ref e7, .ref e8]))] s.heap.size = A at hD ⊢
  have hA : ∀ q : Nat, s.heap.size ≤ q → A q := fun q h => by rw [← hAe]; exact Or.inr h
  have hS : va_S A s.heap s.heap [] := va_S.rf
  have hP : va_P (dC, dI) vwCl [(e0, .inr (7, [.ref e1, .ref e2, .ref e3, .ref e4, .ref e5, .int (nI o.vc), .int (nI o.cl), .int (nI o.gv), .int (nI o.na), .int o.sd, .int o.cd, .ref e6, .int (nI o.ln), .ref e7, .ref e8]))] s.heap := hP
  have hl := lv_entry ([.ref e0, .int p0]) (n := 3) (Nat.le_of_ble_eq_true rfl)
  rw [lg_entry_eq]
  generalize (lg_sl ([.ref e0, .int p0]) ++ List.replicate (3 - (lg_sl ([.ref e0, .int p0])).length) Slot.unset).toArray = ls at hl ⊢
  have hl : lv_has ls 3 [(0, .ref e0), (1, .int p0)] := hl
  obtain ⟨H, hH⟩ : ∃ H : Heap, H = s.heap := ⟨_, rfl⟩
  rw [← hH] at hP
  have hS : va_S A s.heap H [] := by rw [hH]; exact va_S.rf
  show W p l e _ s m _ below meth c s.heap [] 0 0 _ _
  rw [← hH]
  refine lv_iload_n hx hb d_Md_give_0 rfl (lv_at hl 1 rfl) ?_
  refine lv_if_eq (tgt := 25) hx hb d_Md_give_1 (by decide) (fun c_1 => absurd c_1 (h1)) (fun c_1 => ?_)
  refine lv_iload_n hx hb d_Md_give_4 rfl (lv_at hl 1 rfl) ?_
  refine lv_aload_n hx hb d_Md_give_5 rfl (lv_at hl 0 rfl) ?_
  refine va_get (D := (dC, dI)) (ci := 7) (v := .int (nI o.vc)) (C := R_Md) (T := F_Md) (N := 15) hx hb hw in_Md hown hK hP 0 rfl rfl 5 (by decide) (hw (Cond.fieldLink "ClauseSearchModel" 43 "ClauseSearchModel" "variables" "I") k_609) (fun _ h9 => h9) rfl d_Md_give_6 ?_
  refine lv_ineg hx hb d_Md_give_9 ?_
  refine lv_icmp_lt (tgt := 25) hx hb d_Md_give_10 (by decide) (fun c_10 => absurd c_10 (h2)) (fun c_10 => ?_)
  refine lv_iload_n hx hb d_Md_give_13 rfl (lv_at hl 1 rfl) ?_
  refine lv_aload_n hx hb d_Md_give_14 rfl (lv_at hl 0 rfl) ?_
  refine va_get (D := (dC, dI)) (ci := 7) (v := .int (nI o.vc)) (C := R_Md) (T := F_Md) (N := 15) hx hb hw in_Md hown hK hP 0 rfl rfl 5 (by decide) (hw (Cond.fieldLink "ClauseSearchModel" 43 "ClauseSearchModel" "variables" "I") k_609) (fun _ h9 => h9) rfl d_Md_give_15 ?_
  refine lv_icmp_gt (tgt := 25) hx hb d_Md_give_18 (by decide) (fun c_18 => absurd c_18 (h3)) (fun c_18 => ?_)
  refine lv_iconst (v := 1) hx hb d_Md_give_21 (by decide) ?_
  refine lv_goto (tgt := 26) hx hb d_Md_give_22 (by decide) ?_
  refine lv_istore_n (lv' := [(2, .int 1), (0, .ref e0), (1, .int p0)]) hx hb d_Md_give_26 rfl hl (by decide) rfl (fun ls hl => ?_)
  refine lv_aload_n hx hb d_Md_give_27 rfl (lv_at hl 1 rfl) ?_
  refine lv_iload_n hx hb d_Md_give_28 rfl (lv_at hl 0 rfl) ?_
  refine lv_iconst (v := 1) hx hb d_Md_give_29 (by decide) ?_
  have hPc := hP.sub (ws' := [(e0, .inr (7, [.ref e1, .ref e2, .ref e3, .ref e4, .ref e5, .int (nI o.vc), .int (nI o.cl), .int (nI o.gv), .int (nI o.na), .int o.sd, .int o.cd, .ref e6, .int (nI o.ln), .ref e7, .ref e8]))]) [0] rfl
  have hDc := hD.sub (ws' := [(e0, .inr (7, [.ref e1, .ref e2, .ref e3, .ref e4, .ref e5, .int (nI o.vc), .int (nI o.cl), .int (nI o.gv), .int (nI o.na), .int o.sd, .int o.cd, .ref e6, .int (nI o.ln), .ref e7, .ref e8]))]) [0] (by decide) rfl
  have hKc := hK.sub (tys' := []) [] rfl
  have hFc := va_free (wc := [(e0, .inr (7, [.ref e1, .ref e2, .ref e3, .ref e4, .ref e5, .int (nI o.vc), .int (nI o.cl), .int (nI o.gv), .int (nI o.na), .int o.sd, .int o.cd, .ref e6, .int (nI o.ln), .ref e7, .ref e8]))]) hD hS hA [0] rfl
  refine va_calli (va_runV (As := [.int 1, .int 1]) (rest := []) ⟨hx, hb, hml, hown, hw⟩ (c_Md_good_1 l dC dI e0 e1 e2 e3 e4 e5 e6 e7 e8 H.size o 1) (cb_V (C := R_Md) 2 hw k_661 k_37 k_658 k_660 k_21 rfl rfl (by decide +kernel) ⟨Nat.le_of_ble_eq_true rfl, Nat.le_of_ble_eq_true rfl⟩) ⟨fun a U g mk q => by obtain ⟨q0, q1, qP, qK, qD⟩ := q; exact ⟨q0, q1, qP, va_K.moved (u := U) (U := U.calling g mk a) (Vm.Alike.refl U.vm) qK, qD⟩, va_recv hKc hPc (ci := 7) (q0 := 0) rfl rfl, fun U hU hW => ⟨rfl, by rw [hU], by rw [hU]; exact hPc, va_K.moved hW.alike hKc, hDc.weaken (fun _ _ _ _ => trivial)⟩⟩ rfl rfl hl.1 rfl (lv_room (Nat.le_of_ble_eq_true rfl)) d_Md_give_30 ⟨Nat.le_of_ble_eq_true rfl, Nat.le_of_ble_eq_true rfl⟩) hS (fun q _ h => hFc q h) hFc (fun r_1 u t H1 locs ht hvm hw9 hB hz1 hk1 hS => ?_)
  obtain ⟨er9, hP1, hK1, hD1⟩ := hB
  rw [ht] at hP1
  have hK1 := va_K.moved hvm.symm hK1
  obtain ⟨hP, hD⟩ := va_join (wr := []) (w1 := [(e0, .inr (7, [.ref e1, .ref e2, .ref e3, .ref e4, .ref e5, .int (nI o.vc), .int (nI o.cl), .int (nI o.gv), .int (nI o.na), .int o.sd, .int 0, .ref e6, .int (nI o.ln), .ref e7, .ref e8]))]) hP hD [0] [] rfl rfl (by decide) (by decide) hk1 hFc hP1 hD1
  generalize H1 = H at hP hS ⊢
  have hP : va_P (dC, dI) vwCl [(e0, .inr (7, [.ref e1, .ref e2, .ref e3, .ref e4, .ref e5, .int (nI o.vc), .int (nI o.cl), .int (nI o.gv), .int (nI o.na), .int o.sd, .int 0, .ref e6, .int (nI o.ln), .ref e7, .ref e8]))] H := hP
  have hD : va_D A [(e0, .inr (7, [.ref e1, .ref e2, .ref e3, .ref e4, .ref e5, .int (nI o.vc), .int (nI o.cl), .int (nI o.gv), .int (nI o.na), .int o.sd, .int 0, .ref e6, .int (nI o.ln), .ref e7, .ref e8]))] := hD
  refine W.widen (k := 0) (n := 0) (by decide) (by decide) ?_
  have hw9 : r_1 = 1 := hw9.trans er9
  subst hw9
  have hP : va_P (dC, dI) vwCl [(e0, .inr (7, [.ref e1, .ref e2, .ref e3, .ref e4, .ref e5, .int (nI o.vc), .int (nI o.cl), .int (nI o.gv), .int (nI o.na), .int o.sd, .int 0, .ref e6, .int (nI o.ln), .ref e7, .ref e8]))] H := hP
  have hD : va_D A [(e0, .inr (7, [.ref e1, .ref e2, .ref e3, .ref e4, .ref e5, .int (nI o.vc), .int (nI o.cl), .int (nI o.gv), .int (nI o.na), .int o.sd, .int 0, .ref e6, .int (nI o.ln), .ref e7, .ref e8]))] := hD
  refine lv_if_eq (tgt := 58) hx hb d_Md_give_33 (by decide) (fun c_33 => absurd c_33 (by decide)) (fun c_33 => ?_)
  refine lv_aload_n hx hb d_Md_give_36 rfl (lv_at hl 1 rfl) ?_
  refine lv_aload_n hx hb d_Md_give_37 rfl (lv_at hl 1 rfl) ?_
  refine va_get (D := (dC, dI)) (ci := 7) (v := .int (nI o.gv)) (C := R_Md) (T := F_Md) (N := 15) hx hb hw in_Md hown hK hP 0 rfl rfl 7 (by decide) (hw (Cond.fieldLink "ClauseSearchModel" 50 "ClauseSearchModel" "given" "I") k_611) (fun _ h9 => h9) rfl d_Md_give_38 ?_
  refine lv_bipush (v := nI 20) hx hb d_Md_give_41 (by decide) ?_
  refine lv_icmp_ge (tgt := 50) hx hb d_Md_give_43 (by decide) (fun c_43 => ?_) (fun c_43 => by exfalso; have c_43 : ¬ (20 ≤ o.gv) := fun qq9 => c_43 ((nI_leI (a := 20) (b := o.gv) (by omega) (by omega)).mpr qq9); omega)
  have c_43 : 20 ≤ o.gv := (nI_leI (a := 20) (b := o.gv) (by omega) (by omega)).mp c_43
  refine lv_iconst (v := 0) hx hb d_Md_give_50 (by decide) ?_
  refine lv_iconst (v := 2) hx hb d_Md_give_51 (by decide) ?_
  have hPc := hP.sub (ws' := [(e0, .inr (7, [.ref e1, .ref e2, .ref e3, .ref e4, .ref e5, .int (nI (Dx.of o.lt o.fs o.rw o.am o.wv o.tl o.ch o.mk o.vc o.cl o.gv o.na o.ln o.sd 0 o.X).vc), .int (nI (Dx.of o.lt o.fs o.rw o.am o.wv o.tl o.ch o.mk o.vc o.cl o.gv o.na o.ln o.sd 0 o.X).cl), .int (nI (Dx.of o.lt o.fs o.rw o.am o.wv o.tl o.ch o.mk o.vc o.cl o.gv o.na o.ln o.sd 0 o.X).gv), .int (nI (Dx.of o.lt o.fs o.rw o.am o.wv o.tl o.ch o.mk o.vc o.cl o.gv o.na o.ln o.sd 0 o.X).na), .int (Dx.of o.lt o.fs o.rw o.am o.wv o.tl o.ch o.mk o.vc o.cl o.gv o.na o.ln o.sd 0 o.X).sd, .int (Dx.of o.lt o.fs o.rw o.am o.wv o.tl o.ch o.mk o.vc o.cl o.gv o.na o.ln o.sd 0 o.X).cd, .ref e6, .int (nI (Dx.of o.lt o.fs o.rw o.am o.wv o.tl o.ch o.mk o.vc o.cl o.gv o.na o.ln o.sd 0 o.X).ln), .ref e7, .ref e8]))]) [0] rfl
  have hDc := hD.sub (ws' := [(e0, .inr (7, [.ref e1, .ref e2, .ref e3, .ref e4, .ref e5, .int (nI (Dx.of o.lt o.fs o.rw o.am o.wv o.tl o.ch o.mk o.vc o.cl o.gv o.na o.ln o.sd 0 o.X).vc), .int (nI (Dx.of o.lt o.fs o.rw o.am o.wv o.tl o.ch o.mk o.vc o.cl o.gv o.na o.ln o.sd 0 o.X).cl), .int (nI (Dx.of o.lt o.fs o.rw o.am o.wv o.tl o.ch o.mk o.vc o.cl o.gv o.na o.ln o.sd 0 o.X).gv), .int (nI (Dx.of o.lt o.fs o.rw o.am o.wv o.tl o.ch o.mk o.vc o.cl o.gv o.na o.ln o.sd 0 o.X).na), .int (Dx.of o.lt o.fs o.rw o.am o.wv o.tl o.ch o.mk o.vc o.cl o.gv o.na o.ln o.sd 0 o.X).sd, .int (Dx.of o.lt o.fs o.rw o.am o.wv o.tl o.ch o.mk o.vc o.cl o.gv o.na o.ln o.sd 0 o.X).cd, .ref e6, .int (nI (Dx.of o.lt o.fs o.rw o.am o.wv o.tl o.ch o.mk o.vc o.cl o.gv o.na o.ln o.sd 0 o.X).ln), .ref e7, .ref e8]))]) [0] (by decide) rfl
  have hKc := hK.sub (tys' := []) [] rfl
  have hFc := va_free (wc := [(e0, .inr (7, [.ref e1, .ref e2, .ref e3, .ref e4, .ref e5, .int (nI (Dx.of o.lt o.fs o.rw o.am o.wv o.tl o.ch o.mk o.vc o.cl o.gv o.na o.ln o.sd 0 o.X).vc), .int (nI (Dx.of o.lt o.fs o.rw o.am o.wv o.tl o.ch o.mk o.vc o.cl o.gv o.na o.ln o.sd 0 o.X).cl), .int (nI (Dx.of o.lt o.fs o.rw o.am o.wv o.tl o.ch o.mk o.vc o.cl o.gv o.na o.ln o.sd 0 o.X).gv), .int (nI (Dx.of o.lt o.fs o.rw o.am o.wv o.tl o.ch o.mk o.vc o.cl o.gv o.na o.ln o.sd 0 o.X).na), .int (Dx.of o.lt o.fs o.rw o.am o.wv o.tl o.ch o.mk o.vc o.cl o.gv o.na o.ln o.sd 0 o.X).sd, .int (Dx.of o.lt o.fs o.rw o.am o.wv o.tl o.ch o.mk o.vc o.cl o.gv o.na o.ln o.sd 0 o.X).cd, .ref e6, .int (nI (Dx.of o.lt o.fs o.rw o.am o.wv o.tl o.ch o.mk o.vc o.cl o.gv o.na o.ln o.sd 0 o.X).ln), .ref e7, .ref e8]))]) hD hS hA [0] rfl
  refine va_calli (va_runV (As := [.int 0, .int 2]) (rest := []) ⟨hx, hb, hml, hown, hw⟩ (c_Md_good_0 l dC dI e0 e1 e2 e3 e4 e5 e6 e7 e8 H.size (Dx.of o.lt o.fs o.rw o.am o.wv o.tl o.ch o.mk o.vc o.cl o.gv o.na o.ln o.sd 0 o.X) 2) (cb_V (C := R_Md) 2 hw k_661 k_37 k_658 k_660 k_21 rfl rfl (by decide +kernel) ⟨Nat.le_of_ble_eq_true rfl, Nat.le_of_ble_eq_true rfl⟩) ⟨fun a U g mk q => by obtain ⟨q0, q1, qP, qK, qD⟩ := q; exact ⟨q0, q1, qP, va_K.moved (u := U) (U := U.calling g mk a) (Vm.Alike.refl U.vm) qK, qD⟩, va_recv hKc hPc (ci := 7) (q0 := 0) rfl rfl, fun U hU hW => ⟨rfl, by rw [hU], by rw [hU]; exact hPc, va_K.moved hW.alike hKc, hDc.weaken (fun _ _ _ _ => trivial)⟩⟩ rfl rfl hl.1 rfl (lv_room (Nat.le_of_ble_eq_true rfl)) d_Md_give_52 ⟨Nat.le_of_ble_eq_true rfl, Nat.le_of_ble_eq_true rfl⟩) hS (fun q _ h => hFc q h) hFc (fun r_2 u t H1 locs ht hvm hw9 hB hz1 hk1 hS => ?_)
  obtain ⟨er9, hP1, hK1, hD1⟩ := hB
  rw [ht] at hP1
  have hK1 := va_K.moved hvm.symm hK1
  obtain ⟨hP, hD⟩ := va_join (wr := []) (w1 := [(e0, .inr (7, [.ref e1, .ref e2, .ref e3, .ref e4, .ref e5, .int (nI (Dx.of o.lt o.fs o.rw o.am o.wv o.tl o.ch o.mk o.vc o.cl o.gv o.na o.ln o.sd 0 o.X).vc), .int (nI (Dx.of o.lt o.fs o.rw o.am o.wv o.tl o.ch o.mk o.vc o.cl o.gv o.na o.ln o.sd 0 o.X).cl), .int (nI (Dx.of o.lt o.fs o.rw o.am o.wv o.tl o.ch o.mk o.vc o.cl o.gv o.na o.ln o.sd 0 o.X).gv), .int (nI (Dx.of o.lt o.fs o.rw o.am o.wv o.tl o.ch o.mk o.vc o.cl o.gv o.na o.ln o.sd 0 o.X).na), .int (Dx.of o.lt o.fs o.rw o.am o.wv o.tl o.ch o.mk o.vc o.cl o.gv o.na o.ln o.sd 0 o.X).sd, .int 2, .ref e6, .int (nI (Dx.of o.lt o.fs o.rw o.am o.wv o.tl o.ch o.mk o.vc o.cl o.gv o.na o.ln o.sd 0 o.X).ln), .ref e7, .ref e8]))]) hP hD [0] [] rfl rfl (by decide) (by decide) hk1 hFc hP1 hD1
  generalize H1 = H at hP hS ⊢
  have hP : va_P (dC, dI) vwCl [(e0, .inr (7, [.ref e1, .ref e2, .ref e3, .ref e4, .ref e5, .int (nI (Dx.of o.lt o.fs o.rw o.am o.wv o.tl o.ch o.mk o.vc o.cl o.gv o.na o.ln o.sd 0 o.X).vc), .int (nI (Dx.of o.lt o.fs o.rw o.am o.wv o.tl o.ch o.mk o.vc o.cl o.gv o.na o.ln o.sd 0 o.X).cl), .int (nI (Dx.of o.lt o.fs o.rw o.am o.wv o.tl o.ch o.mk o.vc o.cl o.gv o.na o.ln o.sd 0 o.X).gv), .int (nI (Dx.of o.lt o.fs o.rw o.am o.wv o.tl o.ch o.mk o.vc o.cl o.gv o.na o.ln o.sd 0 o.X).na), .int (Dx.of o.lt o.fs o.rw o.am o.wv o.tl o.ch o.mk o.vc o.cl o.gv o.na o.ln o.sd 0 o.X).sd, .int 2, .ref e6, .int (nI (Dx.of o.lt o.fs o.rw o.am o.wv o.tl o.ch o.mk o.vc o.cl o.gv o.na o.ln o.sd 0 o.X).ln), .ref e7, .ref e8]))] H := hP
  have hD : va_D A [(e0, .inr (7, [.ref e1, .ref e2, .ref e3, .ref e4, .ref e5, .int (nI (Dx.of o.lt o.fs o.rw o.am o.wv o.tl o.ch o.mk o.vc o.cl o.gv o.na o.ln o.sd 0 o.X).vc), .int (nI (Dx.of o.lt o.fs o.rw o.am o.wv o.tl o.ch o.mk o.vc o.cl o.gv o.na o.ln o.sd 0 o.X).cl), .int (nI (Dx.of o.lt o.fs o.rw o.am o.wv o.tl o.ch o.mk o.vc o.cl o.gv o.na o.ln o.sd 0 o.X).gv), .int (nI (Dx.of o.lt o.fs o.rw o.am o.wv o.tl o.ch o.mk o.vc o.cl o.gv o.na o.ln o.sd 0 o.X).na), .int (Dx.of o.lt o.fs o.rw o.am o.wv o.tl o.ch o.mk o.vc o.cl o.gv o.na o.ln o.sd 0 o.X).sd, .int 2, .ref e6, .int (nI (Dx.of o.lt o.fs o.rw o.am o.wv o.tl o.ch o.mk o.vc o.cl o.gv o.na o.ln o.sd 0 o.X).ln), .ref e7, .ref e8]))] := hD
  refine W.widen (k := 0) (n := 0) (by decide) (by decide) ?_
  have hw9 : r_2 = 0 := hw9.trans er9
  subst hw9
  have hP : va_P (dC, dI) vwCl [(e0, .inr (7, [.ref e1, .ref e2, .ref e3, .ref e4, .ref e5, .int (nI o.vc), .int (nI o.cl), .int (nI o.gv), .int (nI o.na), .int o.sd, .int 2, .ref e6, .int (nI o.ln), .ref e7, .ref e8]))] H := hP
  have hD : va_D A [(e0, .inr (7, [.ref e1, .ref e2, .ref e3, .ref e4, .ref e5, .int (nI o.vc), .int (nI o.cl), .int (nI o.gv), .int (nI o.na), .int o.sd, .int 2, .ref e6, .int (nI o.ln), .ref e7, .ref e8]))] := hD
  refine lv_if_ne (tgt := 60) hx hb d_Md_give_55 (by decide) (fun c_55 => absurd c_55 (by decide)) (fun c_55 => ?_)
  refine lv_iconst (v := 0) hx hb d_Md_give_58 (by decide) ?_
  have hK := hK.sub (tys' := []) [] rfl
  refine W.widen (k := 0) (n := 0) (by decide) (by decide) ?_
  exact W.iret (v := 0) hx hb hr (fun t ht hW => ⟨⟨0, 0, rfl, rfl, rfl, by rw [ht]; exact hP, va_K.moved hW.alike hK, hD⟩, hS.F ht⟩) hS.2.2 d_Md_give_59

set_option maxHeartbeats 4000000 in
set_option maxRecDepth 100000 in
/-- give(l) -/
theorem c_Md_give (l : Launch) (dC : Nat → ClassId) (dI : Nat → Nat → Nat) (e0 : Nat) (e1 : Nat) (e2 : Nat) (e3 : Nat) (e4 : Nat) (e5 : Nat) (e6 : Nat) (e7 : Nat) (e8 : Nat) (c3 : ClassId) (sz : Nat) (o : Dx) (p0 : Int32) (h1 : ¬ p0 = 0) (h2 : ¬ p0 < -nI o.vc) (h3 : ¬ nI o.vc < p0) (h4 : o.gv < 20) : Met l y_Md_give (wq y_Md_give prog_9_method_5_code 3 (some .int)) ({ frames := 1, cells := 0, slots := 0, locals := 22 }) (va_Pc [.ref e0, .int p0] (fun U => U.heap.size = sz ∧ va_P (dC, dI) vwCl [(e0, .inr (7, [.ref e1, .ref e2, .ref e3, .ref e4, .ref e5, .int (nI o.vc), .int (nI o.cl), .int (nI o.gv), .int (nI o.na), .int o.sd, .int o.cd, .ref e6, .int (nI o.ln), .ref e7, .ref e8])), (e3, .inl (c3, 20, .inl o.rw))] U.heap ∧ va_K (dC, dI) vwCl [(c3, .int)] U ∧ va_D (fun _ => True) [(e0, .inr (7, [.ref e1, .ref e2, .ref e3, .ref e4, .ref e5, .int (nI o.vc), .int (nI o.cl), .int (nI o.gv), .int (nI o.na), .int o.sd, .int o.cd, .ref e6, .int (nI o.ln), .ref e7, .ref e8])), (e3, .inl (c3, 20, .inl o.rw))])) (va_Qi (fun (r : Int32) (r9 : Int32) => r = r9) (fun (r9 : Int32) t => r9 = nI (o.gv + 1) ∧ va_P (dC, dI) vwCl [(e0, .inr (7, [.ref e1, .ref e2, .ref e3, .ref e4, .ref e5, .int (nI o.vc), .int (nI o.cl), .int (nI (o.gv + 1)), .int (nI o.na), .int o.sd, .int 0, .ref e6, .int (nI o.ln), .ref e7, .ref e8])), (e3, .inl (c3, 20, .inl (upd o.rw o.gv p0)))] t.heap ∧ va_K (dC, dI) vwCl [(c3, .int)] t ∧ va_D (va_A [(e0, .inr (7, [.ref e1, .ref e2, .ref e3, .ref e4, .ref e5, .int (nI o.vc), .int (nI o.cl), .int (nI o.gv), .int (nI o.na), .int o.sd, .int o.cd, .ref e6, .int (nI o.ln), .ref e7, .ref e8])), (e3, .inl (c3, 20, .inl o.rw))] sz) [(e0, .inr (7, [.ref e1, .ref e2, .ref e3, .ref e4, .ref e5, .int (nI o.vc), .int (nI o.cl), .int (nI (o.gv + 1)), .int (nI o.na), .int o.sd, .int 0, .ref e6, .int (nI o.ln), .ref e7, .ref e8])), (e3, .inl (c3, 20, .inl (upd o.rw o.gv p0)))]) (va_A [(e0, .inr (7, [.ref e1, .ref e2, .ref e3, .ref e4, .ref e5, .int (nI o.vc), .int (nI o.cl), .int (nI o.gv), .int (nI o.na), .int o.sd, .int o.cd, .ref e6, .int (nI o.ln), .ref e7, .ref e8])), (e3, .inl (c3, 20, .inl o.rw))] sz)) (0) (0) (va_A [(e0, .inr (7, [.ref e1, .ref e2, .ref e3, .ref e4, .ref e5, .int (nI o.vc), .int (nI o.cl), .int (nI o.gv), .int (nI o.na), .int o.sd, .int o.cd, .ref e6, .int (nI o.ln), .ref e7, .ref e8])), (e3, .inl (c3, 20, .inl o.rw))] sz) := by
  refine Met.ofW (cc := prog_9_method_5_code) (maxL := 3) (ret := (some .int)) (by decide) rfl ?_
  intro p e s m args below meth c s₁ B hml hv
  obtain ⟨rfl, hsz, hP, hK, hD0⟩ := hv
  have hx := B.exec
  have hb := B.bytes
  have hr := B.returns
  have hw : ∀ w ∈ bg_W, w.before #[Value.ref e0, Value.int p0] s = true := fun w h => atoms_spec (ws := (wq y_Md_give prog_9_method_5_code 3 (some .int))) B.pre w (List.mem_cons_of_mem _ h)
  have hown : s.vm.findClass R_Md = some m.cls := findClass_of_methodNamed B.named
  have hlocks := B.notSynchronized
  subst hsz
  have hD := hD0.self (sz := s.heap.size)
  generalize hAe : va_A [(e0, .inr (7, [.ref e1, .ref e2, .ref e3, .ref e4, .ref e5, .int (nI o.vc), .int (nI o.cl), .int (nI o.gv), .int (nI o.na), .int o.sd, .int o.cd, .ref e6, .int (nI o.ln), .ref e7, .ref e8])), (e3, .inl (c3, 20, .inl o.rw))] s.heap.size = A at hD ⊢
  have hA : ∀ q : Nat, s.heap.size ≤ q → A q := fun q h => by rw [← hAe]; exact Or.inr h
  have hS : va_S A s.heap s.heap [] := va_S.rf
  have hP : va_P (dC, dI) vwCl [(e0, .inr (7, [.ref e1, .ref e2, .ref e3, .ref e4, .ref e5, .int (nI o.vc), .int (nI o.cl), .int (nI o.gv), .int (nI o.na), .int o.sd, .int o.cd, .ref e6, .int (nI o.ln), .ref e7, .ref e8])), (e3, .inl (c3, 20, .inl o.rw))] s.heap := hP
  have hl := lv_entry ([.ref e0, .int p0]) (n := 3) (Nat.le_of_ble_eq_true rfl)
  rw [lg_entry_eq]
  generalize (lg_sl ([.ref e0, .int p0]) ++ List.replicate (3 - (lg_sl ([.ref e0, .int p0])).length) Slot.unset).toArray = ls at hl ⊢
  have hl : lv_has ls 3 [(0, .ref e0), (1, .int p0)] := hl
  obtain ⟨H, hH⟩ : ∃ H : Heap, H = s.heap := ⟨_, rfl⟩
  rw [← hH] at hP
  have hS : va_S A s.heap H [] := by rw [hH]; exact va_S.rf
  show W p l e _ s m _ below meth c s.heap [] 0 0 _ _
  rw [← hH]
  refine lv_iload_n hx hb d_Md_give_0 rfl (lv_at hl 1 rfl) ?_
  refine lv_if_eq (tgt := 25) hx hb d_Md_give_1 (by decide) (fun c_1 => absurd c_1 (h1)) (fun c_1 => ?_)
  refine lv_iload_n hx hb d_Md_give_4 rfl (lv_at hl 1 rfl) ?_
  refine lv_aload_n hx hb d_Md_give_5 rfl (lv_at hl 0 rfl) ?_
  refine va_get (D := (dC, dI)) (ci := 7) (v := .int (nI o.vc)) (C := R_Md) (T := F_Md) (N := 15) hx hb hw in_Md hown hK hP 0 rfl rfl 5 (by decide) (hw (Cond.fieldLink "ClauseSearchModel" 43 "ClauseSearchModel" "variables" "I") k_609) (fun _ h9 => h9) rfl d_Md_give_6 ?_
  refine lv_ineg hx hb d_Md_give_9 ?_
  refine lv_icmp_lt (tgt := 25) hx hb d_Md_give_10 (by decide) (fun c_10 => absurd c_10 (h2)) (fun c_10 => ?_)
  refine lv_iload_n hx hb d_Md_give_13 rfl (lv_at hl 1 rfl) ?_
  refine lv_aload_n hx hb d_Md_give_14 rfl (lv_at hl 0 rfl) ?_
  refine va_get (D := (dC, dI)) (ci := 7) (v := .int (nI o.vc)) (C := R_Md) (T := F_Md) (N := 15) hx hb hw in_Md hown hK hP 0 rfl rfl 5 (by decide) (hw (Cond.fieldLink "ClauseSearchModel" 43 "ClauseSearchModel" "variables" "I") k_609) (fun _ h9 => h9) rfl d_Md_give_15 ?_
  refine lv_icmp_gt (tgt := 25) hx hb d_Md_give_18 (by decide) (fun c_18 => absurd c_18 (h3)) (fun c_18 => ?_)
  refine lv_iconst (v := 1) hx hb d_Md_give_21 (by decide) ?_
  refine lv_goto (tgt := 26) hx hb d_Md_give_22 (by decide) ?_
  refine lv_istore_n (lv' := [(2, .int 1), (0, .ref e0), (1, .int p0)]) hx hb d_Md_give_26 rfl hl (by decide) rfl (fun ls hl => ?_)
  refine lv_aload_n hx hb d_Md_give_27 rfl (lv_at hl 1 rfl) ?_
  refine lv_iload_n hx hb d_Md_give_28 rfl (lv_at hl 0 rfl) ?_
  refine lv_iconst (v := 1) hx hb d_Md_give_29 (by decide) ?_
  have hPc := hP.sub (ws' := [(e0, .inr (7, [.ref e1, .ref e2, .ref e3, .ref e4, .ref e5, .int (nI o.vc), .int (nI o.cl), .int (nI o.gv), .int (nI o.na), .int o.sd, .int o.cd, .ref e6, .int (nI o.ln), .ref e7, .ref e8]))]) [0] rfl
  have hDc := hD.sub (ws' := [(e0, .inr (7, [.ref e1, .ref e2, .ref e3, .ref e4, .ref e5, .int (nI o.vc), .int (nI o.cl), .int (nI o.gv), .int (nI o.na), .int o.sd, .int o.cd, .ref e6, .int (nI o.ln), .ref e7, .ref e8]))]) [0] (by decide) rfl
  have hKc := hK.sub (tys' := []) [] rfl
  have hFc := va_free (wc := [(e0, .inr (7, [.ref e1, .ref e2, .ref e3, .ref e4, .ref e5, .int (nI o.vc), .int (nI o.cl), .int (nI o.gv), .int (nI o.na), .int o.sd, .int o.cd, .ref e6, .int (nI o.ln), .ref e7, .ref e8]))]) hD hS hA [0] rfl
  refine va_calli (va_runV (As := [.int 1, .int 1]) (rest := []) ⟨hx, hb, hml, hown, hw⟩ (c_Md_good_1 l dC dI e0 e1 e2 e3 e4 e5 e6 e7 e8 H.size o 1) (cb_V (C := R_Md) 2 hw k_661 k_37 k_658 k_660 k_21 rfl rfl (by decide +kernel) ⟨Nat.le_of_ble_eq_true rfl, Nat.le_of_ble_eq_true rfl⟩) ⟨fun a U g mk q => by obtain ⟨q0, q1, qP, qK, qD⟩ := q; exact ⟨q0, q1, qP, va_K.moved (u := U) (U := U.calling g mk a) (Vm.Alike.refl U.vm) qK, qD⟩, va_recv hKc hPc (ci := 7) (q0 := 0) rfl rfl, fun U hU hW => ⟨rfl, by rw [hU], by rw [hU]; exact hPc, va_K.moved hW.alike hKc, hDc.weaken (fun _ _ _ _ => trivial)⟩⟩ rfl rfl hl.1 rfl (lv_room (Nat.le_of_ble_eq_true rfl)) d_Md_give_30 ⟨Nat.le_of_ble_eq_true rfl, Nat.le_of_ble_eq_true rfl⟩) hS (fun q _ h => hFc q h) hFc (fun r_1 u t H1 locs ht hvm hw9 hB hz1 hk1 hS => ?_)
  obtain ⟨er9, hP1, hK1, hD1⟩ := hB
  rw [ht] at hP1
  have hK1 := va_K.moved hvm.symm hK1
  obtain ⟨hP, hD⟩ := va_join (wr := [(e3, .inl (c3, 20, .inl o.rw))]) (w1 := [(e0, .inr (7, [.ref e1, .ref e2, .ref e3, .ref e4, .ref e5, .int (nI o.vc), .int (nI o.cl), .int (nI o.gv), .int (nI o.na), .int o.sd, .int 0, .ref e6, .int (nI o.ln), .ref e7, .ref e8]))]) hP hD [0] [1] rfl rfl (by decide) (by decide) hk1 hFc hP1 hD1
  generalize H1 = H at hP hS ⊢
  have hP : va_P (dC, dI) vwCl [(e3, .inl (c3, 20, .inl o.rw)), (e0, .inr (7, [.ref e1, .ref e2, .ref e3, .ref e4, .ref e5, .int (nI o.vc), .int (nI o.cl), .int (nI o.gv), .int (nI o.na), .int o.sd, .int 0, .ref e6, .int (nI o.ln), .ref e7, .ref e8]))] H := hP
  have hD : va_D A [(e3, .inl (c3, 20, .inl o.rw)), (e0, .inr (7, [.ref e1, .ref e2, .ref e3, .ref e4, .ref e5, .int (nI o.vc), .int (nI o.cl), .int (nI o.gv), .int (nI o.na), .int o.sd, .int 0, .ref e6, .int (nI o.ln), .ref e7, .ref e8]))] := hD
  refine W.widen (k := 0) (n := 0) (by decide) (by decide) ?_
  have hw9 : r_1 = 1 := hw9.trans er9
  subst hw9
  have hP : va_P (dC, dI) vwCl [(e3, .inl (c3, 20, .inl o.rw)), (e0, .inr (7, [.ref e1, .ref e2, .ref e3, .ref e4, .ref e5, .int (nI o.vc), .int (nI o.cl), .int (nI o.gv), .int (nI o.na), .int o.sd, .int 0, .ref e6, .int (nI o.ln), .ref e7, .ref e8]))] H := hP
  have hD : va_D A [(e3, .inl (c3, 20, .inl o.rw)), (e0, .inr (7, [.ref e1, .ref e2, .ref e3, .ref e4, .ref e5, .int (nI o.vc), .int (nI o.cl), .int (nI o.gv), .int (nI o.na), .int o.sd, .int 0, .ref e6, .int (nI o.ln), .ref e7, .ref e8]))] := hD
  refine lv_if_eq (tgt := 58) hx hb d_Md_give_33 (by decide) (fun c_33 => absurd c_33 (by decide)) (fun c_33 => ?_)
  refine lv_aload_n hx hb d_Md_give_36 rfl (lv_at hl 1 rfl) ?_
  refine lv_aload_n hx hb d_Md_give_37 rfl (lv_at hl 1 rfl) ?_
  refine va_get (D := (dC, dI)) (ci := 7) (v := .int (nI o.gv)) (C := R_Md) (T := F_Md) (N := 15) hx hb hw in_Md hown hK hP 1 rfl rfl 7 (by decide) (hw (Cond.fieldLink "ClauseSearchModel" 50 "ClauseSearchModel" "given" "I") k_611) (fun _ h9 => h9) rfl d_Md_give_38 ?_
  refine lv_bipush (v := nI 20) hx hb d_Md_give_41 (by decide) ?_
  refine lv_icmp_ge (tgt := 50) hx hb d_Md_give_43 (by decide) (fun c_43 => by exfalso; have c_43 : 20 ≤ o.gv := (nI_leI (a := 20) (b := o.gv) (by omega) (by omega)).mp c_43; omega) (fun c_43 => ?_)
  have c_43 : ¬ (20 ≤ o.gv) := fun qq9 => c_43 ((nI_leI (a := 20) (b := o.gv) (by omega) (by omega)).mpr qq9)
  refine lv_iconst (v := 1) hx hb d_Md_give_46 (by decide) ?_
  refine lv_goto (tgt := 51) hx hb d_Md_give_47 (by decide) ?_
  refine lv_iconst (v := 2) hx hb d_Md_give_51 (by decide) ?_
  have hPc := hP.sub (ws' := [(e0, .inr (7, [.ref e1, .ref e2, .ref e3, .ref e4, .ref e5, .int (nI (Dx.of o.lt o.fs o.rw o.am o.wv o.tl o.ch o.mk o.vc o.cl o.gv o.na o.ln o.sd 0 o.X).vc), .int (nI (Dx.of o.lt o.fs o.rw o.am o.wv o.tl o.ch o.mk o.vc o.cl o.gv o.na o.ln o.sd 0 o.X).cl), .int (nI (Dx.of o.lt o.fs o.rw o.am o.wv o.tl o.ch o.mk o.vc o.cl o.gv o.na o.ln o.sd 0 o.X).gv), .int (nI (Dx.of o.lt o.fs o.rw o.am o.wv o.tl o.ch o.mk o.vc o.cl o.gv o.na o.ln o.sd 0 o.X).na), .int (Dx.of o.lt o.fs o.rw o.am o.wv o.tl o.ch o.mk o.vc o.cl o.gv o.na o.ln o.sd 0 o.X).sd, .int (Dx.of o.lt o.fs o.rw o.am o.wv o.tl o.ch o.mk o.vc o.cl o.gv o.na o.ln o.sd 0 o.X).cd, .ref e6, .int (nI (Dx.of o.lt o.fs o.rw o.am o.wv o.tl o.ch o.mk o.vc o.cl o.gv o.na o.ln o.sd 0 o.X).ln), .ref e7, .ref e8]))]) [1] rfl
  have hDc := hD.sub (ws' := [(e0, .inr (7, [.ref e1, .ref e2, .ref e3, .ref e4, .ref e5, .int (nI (Dx.of o.lt o.fs o.rw o.am o.wv o.tl o.ch o.mk o.vc o.cl o.gv o.na o.ln o.sd 0 o.X).vc), .int (nI (Dx.of o.lt o.fs o.rw o.am o.wv o.tl o.ch o.mk o.vc o.cl o.gv o.na o.ln o.sd 0 o.X).cl), .int (nI (Dx.of o.lt o.fs o.rw o.am o.wv o.tl o.ch o.mk o.vc o.cl o.gv o.na o.ln o.sd 0 o.X).gv), .int (nI (Dx.of o.lt o.fs o.rw o.am o.wv o.tl o.ch o.mk o.vc o.cl o.gv o.na o.ln o.sd 0 o.X).na), .int (Dx.of o.lt o.fs o.rw o.am o.wv o.tl o.ch o.mk o.vc o.cl o.gv o.na o.ln o.sd 0 o.X).sd, .int (Dx.of o.lt o.fs o.rw o.am o.wv o.tl o.ch o.mk o.vc o.cl o.gv o.na o.ln o.sd 0 o.X).cd, .ref e6, .int (nI (Dx.of o.lt o.fs o.rw o.am o.wv o.tl o.ch o.mk o.vc o.cl o.gv o.na o.ln o.sd 0 o.X).ln), .ref e7, .ref e8]))]) [1] (by decide) rfl
  have hKc := hK.sub (tys' := []) [] rfl
  have hFc := va_free (wc := [(e0, .inr (7, [.ref e1, .ref e2, .ref e3, .ref e4, .ref e5, .int (nI (Dx.of o.lt o.fs o.rw o.am o.wv o.tl o.ch o.mk o.vc o.cl o.gv o.na o.ln o.sd 0 o.X).vc), .int (nI (Dx.of o.lt o.fs o.rw o.am o.wv o.tl o.ch o.mk o.vc o.cl o.gv o.na o.ln o.sd 0 o.X).cl), .int (nI (Dx.of o.lt o.fs o.rw o.am o.wv o.tl o.ch o.mk o.vc o.cl o.gv o.na o.ln o.sd 0 o.X).gv), .int (nI (Dx.of o.lt o.fs o.rw o.am o.wv o.tl o.ch o.mk o.vc o.cl o.gv o.na o.ln o.sd 0 o.X).na), .int (Dx.of o.lt o.fs o.rw o.am o.wv o.tl o.ch o.mk o.vc o.cl o.gv o.na o.ln o.sd 0 o.X).sd, .int (Dx.of o.lt o.fs o.rw o.am o.wv o.tl o.ch o.mk o.vc o.cl o.gv o.na o.ln o.sd 0 o.X).cd, .ref e6, .int (nI (Dx.of o.lt o.fs o.rw o.am o.wv o.tl o.ch o.mk o.vc o.cl o.gv o.na o.ln o.sd 0 o.X).ln), .ref e7, .ref e8]))]) hD hS hA [1] rfl
  refine va_calli (va_runV (As := [.int 1, .int 2]) (rest := []) ⟨hx, hb, hml, hown, hw⟩ (c_Md_good_1 l dC dI e0 e1 e2 e3 e4 e5 e6 e7 e8 H.size (Dx.of o.lt o.fs o.rw o.am o.wv o.tl o.ch o.mk o.vc o.cl o.gv o.na o.ln o.sd 0 o.X) 2) (cb_V (C := R_Md) 2 hw k_661 k_37 k_658 k_660 k_21 rfl rfl (by decide +kernel) ⟨Nat.le_of_ble_eq_true rfl, Nat.le_of_ble_eq_true rfl⟩) ⟨fun a U g mk q => by obtain ⟨q0, q1, qP, qK, qD⟩ := q; exact ⟨q0, q1, qP, va_K.moved (u := U) (U := U.calling g mk a) (Vm.Alike.refl U.vm) qK, qD⟩, va_recv hKc hPc (ci := 7) (q0 := 0) rfl rfl, fun U hU hW => ⟨rfl, by rw [hU], by rw [hU]; exact hPc, va_K.moved hW.alike hKc, hDc.weaken (fun _ _ _ _ => trivial)⟩⟩ rfl rfl hl.1 rfl (lv_room (Nat.le_of_ble_eq_true rfl)) d_Md_give_52 ⟨Nat.le_of_ble_eq_true rfl, Nat.le_of_ble_eq_true rfl⟩) hS (fun q _ h => hFc q h) hFc (fun r_2 u t H1 locs ht hvm hw9 hB hz1 hk1 hS => ?_)
  obtain ⟨er9, hP1, hK1, hD1⟩ := hB
  rw [ht] at hP1
  have hK1 := va_K.moved hvm.symm hK1
  obtain ⟨hP, hD⟩ := va_join (wr := [(e3, .inl (c3, 20, .inl o.rw))]) (w1 := [(e0, .inr (7, [.ref e1, .ref e2, .ref e3, .ref e4, .ref e5, .int (nI (Dx.of o.lt o.fs o.rw o.am o.wv o.tl o.ch o.mk o.vc o.cl o.gv o.na o.ln o.sd 0 o.X).vc), .int (nI (Dx.of o.lt o.fs o.rw o.am o.wv o.tl o.ch o.mk o.vc o.cl o.gv o.na o.ln o.sd 0 o.X).cl), .int (nI (Dx.of o.lt o.fs o.rw o.am o.wv o.tl o.ch o.mk o.vc o.cl o.gv o.na o.ln o.sd 0 o.X).gv), .int (nI (Dx.of o.lt o.fs o.rw o.am o.wv o.tl o.ch o.mk o.vc o.cl o.gv o.na o.ln o.sd 0 o.X).na), .int (Dx.of o.lt o.fs o.rw o.am o.wv o.tl o.ch o.mk o.vc o.cl o.gv o.na o.ln o.sd 0 o.X).sd, .int 0, .ref e6, .int (nI (Dx.of o.lt o.fs o.rw o.am o.wv o.tl o.ch o.mk o.vc o.cl o.gv o.na o.ln o.sd 0 o.X).ln), .ref e7, .ref e8]))]) hP hD [1] [0] rfl rfl (by decide) (by decide) hk1 hFc hP1 hD1
  generalize H1 = H at hP hS ⊢
  have hP : va_P (dC, dI) vwCl [(e3, .inl (c3, 20, .inl o.rw)), (e0, .inr (7, [.ref e1, .ref e2, .ref e3, .ref e4, .ref e5, .int (nI (Dx.of o.lt o.fs o.rw o.am o.wv o.tl o.ch o.mk o.vc o.cl o.gv o.na o.ln o.sd 0 o.X).vc), .int (nI (Dx.of o.lt o.fs o.rw o.am o.wv o.tl o.ch o.mk o.vc o.cl o.gv o.na o.ln o.sd 0 o.X).cl), .int (nI (Dx.of o.lt o.fs o.rw o.am o.wv o.tl o.ch o.mk o.vc o.cl o.gv o.na o.ln o.sd 0 o.X).gv), .int (nI (Dx.of o.lt o.fs o.rw o.am o.wv o.tl o.ch o.mk o.vc o.cl o.gv o.na o.ln o.sd 0 o.X).na), .int (Dx.of o.lt o.fs o.rw o.am o.wv o.tl o.ch o.mk o.vc o.cl o.gv o.na o.ln o.sd 0 o.X).sd, .int 0, .ref e6, .int (nI (Dx.of o.lt o.fs o.rw o.am o.wv o.tl o.ch o.mk o.vc o.cl o.gv o.na o.ln o.sd 0 o.X).ln), .ref e7, .ref e8]))] H := hP
  have hD : va_D A [(e3, .inl (c3, 20, .inl o.rw)), (e0, .inr (7, [.ref e1, .ref e2, .ref e3, .ref e4, .ref e5, .int (nI (Dx.of o.lt o.fs o.rw o.am o.wv o.tl o.ch o.mk o.vc o.cl o.gv o.na o.ln o.sd 0 o.X).vc), .int (nI (Dx.of o.lt o.fs o.rw o.am o.wv o.tl o.ch o.mk o.vc o.cl o.gv o.na o.ln o.sd 0 o.X).cl), .int (nI (Dx.of o.lt o.fs o.rw o.am o.wv o.tl o.ch o.mk o.vc o.cl o.gv o.na o.ln o.sd 0 o.X).gv), .int (nI (Dx.of o.lt o.fs o.rw o.am o.wv o.tl o.ch o.mk o.vc o.cl o.gv o.na o.ln o.sd 0 o.X).na), .int (Dx.of o.lt o.fs o.rw o.am o.wv o.tl o.ch o.mk o.vc o.cl o.gv o.na o.ln o.sd 0 o.X).sd, .int 0, .ref e6, .int (nI (Dx.of o.lt o.fs o.rw o.am o.wv o.tl o.ch o.mk o.vc o.cl o.gv o.na o.ln o.sd 0 o.X).ln), .ref e7, .ref e8]))] := hD
  refine W.widen (k := 0) (n := 0) (by decide) (by decide) ?_
  have hw9 : r_2 = 1 := hw9.trans er9
  subst hw9
  have hP : va_P (dC, dI) vwCl [(e3, .inl (c3, 20, .inl o.rw)), (e0, .inr (7, [.ref e1, .ref e2, .ref e3, .ref e4, .ref e5, .int (nI o.vc), .int (nI o.cl), .int (nI o.gv), .int (nI o.na), .int o.sd, .int 0, .ref e6, .int (nI o.ln), .ref e7, .ref e8]))] H := hP
  have hD : va_D A [(e3, .inl (c3, 20, .inl o.rw)), (e0, .inr (7, [.ref e1, .ref e2, .ref e3, .ref e4, .ref e5, .int (nI o.vc), .int (nI o.cl), .int (nI o.gv), .int (nI o.na), .int o.sd, .int 0, .ref e6, .int (nI o.ln), .ref e7, .ref e8]))] := hD
  refine lv_if_ne (tgt := 60) hx hb d_Md_give_55 (by decide) (fun c_55 => ?_) (fun c_55 => absurd c_55 (by decide))
  refine lv_aload_n hx hb d_Md_give_60 rfl (lv_at hl 1 rfl) ?_
  refine va_get (D := (dC, dI)) (ci := 7) (v := .ref e3) (C := R_Md) (T := F_Md) (N := 15) hx hb hw in_Md hown hK hP 1 rfl rfl 2 (by decide) (hw (Cond.fieldLink "ClauseSearchModel" 17 "ClauseSearchModel" "row" "[I") k_606) (fun _ h9 => h9) rfl d_Md_give_61 ?_
  refine lv_aload_n hx hb d_Md_give_64 rfl (lv_at hl 1 rfl) ?_
  refine va_get (D := (dC, dI)) (ci := 7) (v := .int (nI o.gv)) (C := R_Md) (T := F_Md) (N := 15) hx hb hw in_Md hown hK hP 1 rfl rfl 7 (by decide) (hw (Cond.fieldLink "ClauseSearchModel" 50 "ClauseSearchModel" "given" "I") k_611) (fun _ h9 => h9) rfl d_Md_give_65 ?_
  refine lv_iload_n hx hb d_Md_give_68 rfl (lv_at hl 2 rfl) ?_
  refine va_iast hx hb hK hP hD hS 0 0 rfl rfl (vp_in_nI (by omega) (by omega)) d_Md_give_69 (fun H locs hP hD hS => ?_)
  rw [nI_clamp (n := o.gv) (by omega)] at hP hD
  have hP : va_P (dC, dI) vwCl [(e3, .inl (c3, 20, .inl (upd o.rw o.gv p0))), (e0, .inr (7, [.ref e1, .ref e2, .ref e3, .ref e4, .ref e5, .int (nI o.vc), .int (nI o.cl), .int (nI o.gv), .int (nI o.na), .int o.sd, .int 0, .ref e6, .int (nI o.ln), .ref e7, .ref e8]))] H := hP
  have hD : va_D A [(e3, .inl (c3, 20, .inl (upd o.rw o.gv p0))), (e0, .inr (7, [.ref e1, .ref e2, .ref e3, .ref e4, .ref e5, .int (nI o.vc), .int (nI o.cl), .int (nI o.gv), .int (nI o.na), .int o.sd, .int 0, .ref e6, .int (nI o.ln), .ref e7, .ref e8]))] := hD
  refine lv_aload_n hx hb d_Md_give_70 rfl (lv_at hl 1 rfl) ?_
  refine lv_dup hx hb d_Md_give_71 rfl ?_
  refine va_get (D := (dC, dI)) (ci := 7) (v := .int (nI o.gv)) (C := R_Md) (T := F_Md) (N := 15) hx hb hw in_Md hown hK hP 1 rfl rfl 7 (by decide) (hw (Cond.fieldLink "ClauseSearchModel" 50 "ClauseSearchModel" "given" "I") k_611) (fun _ h9 => h9) rfl d_Md_give_72 ?_
  refine lv_iconst (v := nI 1) hx hb d_Md_give_75 (by decide) ?_
  refine lv_iadd hx hb d_Md_give_76 ?_
  refine lv_topi (fun y_3 ey_3 => ?_)
  obtain rfl : y_3 = nI (o.gv + 1) := ey_3.trans (nI_add o.gv 1)
  refine va_put (D := (dC, dI)) (ci := 7) (v := .int (nI (o.gv + 1))) (ty := .int) (C := R_Md) (T := F_Md) (N := 15) hx hb hw in_Md t_Md t_Md_ok n_Md hown hK hP hD hS 1 rfl rfl 7 (by decide) (hw (Cond.fieldLink "ClauseSearchModel" 50 "ClauseSearchModel" "given" "I") k_611) (fun _ h9 => h9) rfl (by decide +kernel) rfl rfl (Nat.le_of_ble_eq_true rfl) d_Md_give_77 (fun H locs hP hD hS => ?_)
  have hP : va_P (dC, dI) vwCl [(e3, .inl (c3, 20, .inl (upd o.rw o.gv p0))), (e0, .inr (7, [.ref e1, .ref e2, .ref e3, .ref e4, .ref e5, .int (nI o.vc), .int (nI o.cl), .int (nI (o.gv + 1)), .int (nI o.na), .int o.sd, .int 0, .ref e6, .int (nI o.ln), .ref e7, .ref e8]))] H := hP
  have hD : va_D A [(e3, .inl (c3, 20, .inl (upd o.rw o.gv p0))), (e0, .inr (7, [.ref e1, .ref e2, .ref e3, .ref e4, .ref e5, .int (nI o.vc), .int (nI o.cl), .int (nI (o.gv + 1)), .int (nI o.na), .int o.sd, .int 0, .ref e6, .int (nI o.ln), .ref e7, .ref e8]))] := hD
  refine lv_aload_n hx hb d_Md_give_80 rfl (lv_at hl 1 rfl) ?_
  refine va_get (D := (dC, dI)) (ci := 7) (v := .int (nI (o.gv + 1))) (C := R_Md) (T := F_Md) (N := 15) hx hb hw in_Md hown hK hP 1 rfl rfl 7 (by decide) (hw (Cond.fieldLink "ClauseSearchModel" 50 "ClauseSearchModel" "given" "I") k_611) (fun _ h9 => h9) rfl d_Md_give_81 ?_
  have hP := hP.sub (ws' := [(e0, .inr (7, [.ref e1, .ref e2, .ref e3, .ref e4, .ref e5, .int (nI o.vc), .int (nI o.cl), .int (nI (o.gv + 1)), .int (nI o.na), .int o.sd, .int 0, .ref e6, .int (nI o.ln), .ref e7, .ref e8])), (e3, .inl (c3, 20, .inl (upd o.rw o.gv p0)))]) [1, 0] rfl
  have hD := hD.sub (ws' := [(e0, .inr (7, [.ref e1, .ref e2, .ref e3, .ref e4, .ref e5, .int (nI o.vc), .int (nI o.cl), .int (nI (o.gv + 1)), .int (nI o.na), .int o.sd, .int 0, .ref e6, .int (nI o.ln), .ref e7, .ref e8])), (e3, .inl (c3, 20, .inl (upd o.rw o.gv p0)))]) [1, 0] (by decide) rfl
  have hK := hK.sub (tys' := [(c3, .int)]) [0] rfl
  refine W.widen (k := 0) (n := 0) (by decide) (by decide) ?_
  exact W.iret (v := nI (o.gv + 1)) hx hb hr (fun t ht hW => ⟨⟨nI (o.gv + 1), nI (o.gv + 1), rfl, rfl, rfl, by rw [ht]; exact hP, va_K.moved hW.alike hK, hD⟩, hS.F ht⟩) hS.2.2 d_Md_give_84

set_option maxHeartbeats 4000000 in
set_option maxRecDepth 100000 in
/-- clause() refuses an empty row -/
theorem c_Md_clause_1 (l : Launch) (dC : Nat → ClassId) (dI : Nat → Nat → Nat) (e0 : Nat) (e1 : Nat) (e2 : Nat) (e3 : Nat) (e4 : Nat) (e5 : Nat) (e6 : Nat) (e7 : Nat) (e8 : Nat) (sz : Nat) (o : Dx) (h : o.gv = 0) : Met l y_Md_clause (wq y_Md_clause prog_9_method_6_code 2 (some .int)) ({ frames := 1, cells := 0, slots := 0, locals := 22 }) (va_Pc [.ref e0] (fun U => U.heap.size = sz ∧ va_P (dC, dI) vwCl [(e0, .inr (7, [.ref e1, .ref e2, .ref e3, .ref e4, .ref e5, .int (nI o.vc), .int (nI o.cl), .int (nI o.gv), .int (nI o.na), .int o.sd, .int o.cd, .ref e6, .int (nI o.ln), .ref e7, .ref e8]))] U.heap ∧ va_K (dC, dI) vwCl [] U ∧ va_D (fun _ => True) [(e0, .inr (7, [.ref e1, .ref e2, .ref e3, .ref e4, .ref e5, .int (nI o.vc), .int (nI o.cl), .int (nI o.gv), .int (nI o.na), .int o.sd, .int o.cd, .ref e6, .int (nI o.ln), .ref e7, .ref e8]))])) (va_Qi (fun (r : Int32) (r9 : Int32) => r = r9) (fun (r9 : Int32) t => r9 = 0 ∧ va_P (dC, dI) vwCl [(e0, .inr (7, [.ref e1, .ref e2, .ref e3, .ref e4, .ref e5, .int (nI o.vc), .int (nI o.cl), .int (nI o.gv), .int (nI o.na), .int o.sd, .int 1, .ref e6, .int (nI o.ln), .ref e7, .ref e8]))] t.heap ∧ va_K (dC, dI) vwCl [] t ∧ va_D (va_A [(e0, .inr (7, [.ref e1, .ref e2, .ref e3, .ref e4, .ref e5, .int (nI o.vc), .int (nI o.cl), .int (nI o.gv), .int (nI o.na), .int o.sd, .int o.cd, .ref e6, .int (nI o.ln), .ref e7, .ref e8]))] sz) [(e0, .inr (7, [.ref e1, .ref e2, .ref e3, .ref e4, .ref e5, .int (nI o.vc), .int (nI o.cl), .int (nI o.gv), .int (nI o.na), .int o.sd, .int 1, .ref e6, .int (nI o.ln), .ref e7, .ref e8]))]) (va_A [(e0, .inr (7, [.ref e1, .ref e2, .ref e3, .ref e4, .ref e5, .int (nI o.vc), .int (nI o.cl), .int (nI o.gv), .int (nI o.na), .int o.sd, .int o.cd, .ref e6, .int (nI o.ln), .ref e7, .ref e8]))] sz)) (0) (0) (va_A [(e0, .inr (7, [.ref e1, .ref e2, .ref e3, .ref e4, .ref e5, .int (nI o.vc), .int (nI o.cl), .int (nI o.gv), .int (nI o.na), .int o.sd, .int o.cd, .ref e6, .int (nI o.ln), .ref e7, .ref e8]))] sz) := by
  refine Met.ofW (cc := prog_9_method_6_code) (maxL := 2) (ret := (some .int)) (by decide) rfl ?_
  intro p e s m args below meth c s₁ B hml hv
  obtain ⟨rfl, hsz, hP, hK, hD0⟩ := hv
  have hx := B.exec
  have hb := B.bytes
  have hr := B.returns
  have hw : ∀ w ∈ bg_W, w.before #[Value.ref e0] s = true := fun w h => atoms_spec (ws := (wq y_Md_clause prog_9_method_6_code 2 (some .int))) B.pre w (List.mem_cons_of_mem _ h)
  have hown : s.vm.findClass R_Md = some m.cls := findClass_of_methodNamed B.named
  have hlocks := B.notSynchronized
  subst hsz
  have hD := hD0.self (sz := s.heap.size)
  generalize hAe : va_A [(e0, .inr (7, [.ref e1, .ref e2, .ref e3, .ref e4, .ref e5, .int (nI o.vc), .int (nI o.cl), .int (nI o.gv), .int (nI o.na), .int o.sd, .int o.cd, .ref e6, .int (nI o.ln), .ref e7, .ref e8]))] s.heap.size = A at hD ⊢
  have hA : ∀ q : Nat, s.heap.size ≤ q → A q := fun q h => by rw [← hAe]; exact Or.inr h
  have hS : va_S A s.heap s.heap [] := va_S.rf
  have hP : va_P (dC, dI) vwCl [(e0, .inr (7, [.ref e1, .ref e2, .ref e3, .ref e4, .ref e5, .int (nI o.vc), .int (nI o.cl), .int (nI o.gv), .int (nI o.na), .int o.sd, .int o.cd, .ref e6, .int (nI o.ln), .ref e7, .ref e8]))] s.heap := hP
  have hl := lv_entry ([.ref e0]) (n := 2) (Nat.le_of_ble_eq_true rfl)
  rw [lg_entry_eq]
  generalize (lg_sl ([.ref e0]) ++ List.replicate (2 - (lg_sl ([.ref e0])).length) Slot.unset).toArray = ls at hl ⊢
  have hl : lv_has ls 2 [(0, .ref e0)] := hl
  obtain ⟨H, hH⟩ : ∃ H : Heap, H = s.heap := ⟨_, rfl⟩
  rw [← hH] at hP
  have hS : va_S A s.heap H [] := by rw [hH]; exact va_S.rf
  show W p l e _ s m _ below meth c s.heap [] 0 0 _ _
  rw [← hH]
  refine lv_aload_n hx hb d_Md_clause_0 rfl (lv_at hl 0 rfl) ?_
  refine lv_aload_n hx hb d_Md_clause_1 rfl (lv_at hl 0 rfl) ?_
  refine va_get (D := (dC, dI)) (ci := 7) (v := .int (nI o.gv)) (C := R_Md) (T := F_Md) (N := 15) hx hb hw in_Md hown hK hP 0 rfl rfl 7 (by decide) (hw (Cond.fieldLink "ClauseSearchModel" 50 "ClauseSearchModel" "given" "I") k_611) (fun _ h9 => h9) rfl d_Md_clause_2 ?_
  refine lv_if_le (tgt := 12) hx hb d_Md_clause_5 (by decide) (fun c_5 => ?_) (fun c_5 => by exfalso; have c_5 : ¬ (o.gv ≤ 0) := fun qq9 => c_5 ((nI_leI (a := o.gv) (b := 0) (by omega) (by omega)).mpr qq9); omega)
  have c_5 : o.gv ≤ 0 := (nI_leI (a := o.gv) (b := 0) (by omega) (by omega)).mp c_5
  refine lv_iconst (v := 0) hx hb d_Md_clause_12 (by decide) ?_
  refine lv_iconst (v := 1) hx hb d_Md_clause_13 (by decide) ?_
  have hPc := hP.sub (ws' := [(e0, .inr (7, [.ref e1, .ref e2, .ref e3, .ref e4, .ref e5, .int (nI o.vc), .int (nI o.cl), .int (nI o.gv), .int (nI o.na), .int o.sd, .int o.cd, .ref e6, .int (nI o.ln), .ref e7, .ref e8]))]) [0] rfl
  have hDc := hD.sub (ws' := [(e0, .inr (7, [.ref e1, .ref e2, .ref e3, .ref e4, .ref e5, .int (nI o.vc), .int (nI o.cl), .int (nI o.gv), .int (nI o.na), .int o.sd, .int o.cd, .ref e6, .int (nI o.ln), .ref e7, .ref e8]))]) [0] (by decide) rfl
  have hKc := hK.sub (tys' := []) [] rfl
  have hFc := va_free (wc := [(e0, .inr (7, [.ref e1, .ref e2, .ref e3, .ref e4, .ref e5, .int (nI o.vc), .int (nI o.cl), .int (nI o.gv), .int (nI o.na), .int o.sd, .int o.cd, .ref e6, .int (nI o.ln), .ref e7, .ref e8]))]) hD hS hA [0] rfl
  refine va_calli (va_runV (As := [.int 0, .int 1]) (rest := []) ⟨hx, hb, hml, hown, hw⟩ (c_Md_good_0 l dC dI e0 e1 e2 e3 e4 e5 e6 e7 e8 H.size o 1) (cb_V (C := R_Md) 2 hw k_661 k_37 k_658 k_660 k_21 rfl rfl (by decide +kernel) ⟨Nat.le_of_ble_eq_true rfl, Nat.le_of_ble_eq_true rfl⟩) ⟨fun a U g mk q => by obtain ⟨q0, q1, qP, qK, qD⟩ := q; exact ⟨q0, q1, qP, va_K.moved (u := U) (U := U.calling g mk a) (Vm.Alike.refl U.vm) qK, qD⟩, va_recv hKc hPc (ci := 7) (q0 := 0) rfl rfl, fun U hU hW => ⟨rfl, by rw [hU], by rw [hU]; exact hPc, va_K.moved hW.alike hKc, hDc.weaken (fun _ _ _ _ => trivial)⟩⟩ rfl rfl hl.1 rfl (lv_room (Nat.le_of_ble_eq_true rfl)) d_Md_clause_14 ⟨Nat.le_of_ble_eq_true rfl, Nat.le_of_ble_eq_true rfl⟩) hS (fun q _ h => hFc q h) hFc (fun r_1 u t H1 locs ht hvm hw9 hB hz1 hk1 hS => ?_)
  obtain ⟨er9, hP1, hK1, hD1⟩ := hB
  rw [ht] at hP1
  have hK1 := va_K.moved hvm.symm hK1
  obtain ⟨hP, hD⟩ := va_join (wr := []) (w1 := [(e0, .inr (7, [.ref e1, .ref e2, .ref e3, .ref e4, .ref e5, .int (nI o.vc), .int (nI o.cl), .int (nI o.gv), .int (nI o.na), .int o.sd, .int 1, .ref e6, .int (nI o.ln), .ref e7, .ref e8]))]) hP hD [0] [] rfl rfl (by decide) (by decide) hk1 hFc hP1 hD1
  generalize H1 = H at hP hS ⊢
  have hP : va_P (dC, dI) vwCl [(e0, .inr (7, [.ref e1, .ref e2, .ref e3, .ref e4, .ref e5, .int (nI o.vc), .int (nI o.cl), .int (nI o.gv), .int (nI o.na), .int o.sd, .int 1, .ref e6, .int (nI o.ln), .ref e7, .ref e8]))] H := hP
  have hD : va_D A [(e0, .inr (7, [.ref e1, .ref e2, .ref e3, .ref e4, .ref e5, .int (nI o.vc), .int (nI o.cl), .int (nI o.gv), .int (nI o.na), .int o.sd, .int 1, .ref e6, .int (nI o.ln), .ref e7, .ref e8]))] := hD
  refine W.widen (k := 0) (n := 0) (by decide) (by decide) ?_
  have hw9 : r_1 = 0 := hw9.trans er9
  subst hw9
  have hP : va_P (dC, dI) vwCl [(e0, .inr (7, [.ref e1, .ref e2, .ref e3, .ref e4, .ref e5, .int (nI o.vc), .int (nI o.cl), .int (nI o.gv), .int (nI o.na), .int o.sd, .int 1, .ref e6, .int (nI o.ln), .ref e7, .ref e8]))] H := hP
  have hD : va_D A [(e0, .inr (7, [.ref e1, .ref e2, .ref e3, .ref e4, .ref e5, .int (nI o.vc), .int (nI o.cl), .int (nI o.gv), .int (nI o.na), .int o.sd, .int 1, .ref e6, .int (nI o.ln), .ref e7, .ref e8]))] := hD
  refine lv_if_eq (tgt := 43) hx hb d_Md_clause_17 (by decide) (fun c_17 => ?_) (fun c_17 => absurd c_17 (by decide))
  refine lv_iconst (v := 0) hx hb d_Md_clause_43 (by decide) ?_
  have hK := hK.sub (tys' := []) [] rfl
  refine W.widen (k := 0) (n := 0) (by decide) (by decide) ?_
  exact W.iret (v := 0) hx hb hr (fun t ht hW => ⟨⟨0, 0, rfl, rfl, rfl, by rw [ht]; exact hP, va_K.moved hW.alike hK, hD⟩, hS.F ht⟩) hS.2.2 d_Md_clause_44
