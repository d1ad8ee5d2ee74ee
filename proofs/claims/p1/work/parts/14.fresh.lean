abbrev y_Cs_wayIsGood : MethodName := ⟨"ClauseSearch", "wayIsGood", "()Z"⟩
abbrev y_Cs_takeWay : MethodName := ⟨"ClauseSearch", "takeWay", "()Z"⟩
abbrev y_Cs_solve : MethodName := ⟨"ClauseSearch", "solve", "()Z"⟩
theorem k_15 : (Cond.selects "ClauseSearch" ⟨"ClauseSearch", "takeWay", "()Z"⟩ ⟨"ClauseSearch", "takeWay", "()Z"⟩) ∈ bg_W := bg_in 15 (by decide +kernel) (by decide +kernel)
theorem k_16 : (Cond.selects "ClauseSearch" ⟨"ClauseSearch", "wayIsGood", "()Z"⟩ ⟨"ClauseSearch", "wayIsGood", "()Z"⟩) ∈ bg_W := bg_in 16 (by decide +kernel) (by decide +kernel)
theorem k_29 : (Cond.initialized "ClauseSearch") ∈ bg_W := bg_in 29 (by decide +kernel) (by decide +kernel)
theorem k_76 : (Cond.fieldLinkNest "ClauseSearch" 68 "ClauseSearch$Rows" "size" "I" "ClauseSearch") ∈ bg_W := bg_in 76 (by decide +kernel) (by decide +kernel)
theorem k_227 : (Cond.fieldLinkNest "ClauseSearch" 93 "ClauseSearch$Search" "badLessons" "I" "ClauseSearch") ∈ bg_W := bg_in 227 (by decide +kernel) (by decide +kernel)
theorem k_262 : (Cond.fieldLink "ClauseSearch" 96 "ClauseSearch" "badWays" "I") ∈ bg_W := bg_in 262 (by decide +kernel) (by decide +kernel)
theorem k_284 : (Cond.methodLink "ClauseSearch" 81 ⟨"ClauseSearch$Search", "findLeast", "(I[II)Z"⟩) ∈ bg_W := bg_in 284 (by decide +kernel) (by decide +kernel)
theorem k_285 : (Cond.instanceMethod ⟨"ClauseSearch$Search", "findLeast", "(I[II)Z"⟩) ∈ bg_W := bg_in 285 (by decide +kernel) (by decide +kernel)
theorem k_286 : (Cond.selects "ClauseSearch$Search" ⟨"ClauseSearch$Search", "findLeast", "(I[II)Z"⟩ ⟨"ClauseSearch$Search", "findLeast", "(I[II)Z"⟩) ∈ bg_W := bg_in 286 (by decide +kernel) (by decide +kernel)
theorem k_287 : (Cond.code ⟨"ClauseSearch$Search", "findLeast", "(I[II)Z"⟩ prog_5_method_5_code 8 (some .boolean)) ∈ bg_W := bg_in 287 (by decide +kernel) (by decide +kernel)
theorem k_425 : (Cond.methodLink "ClauseSearch" 85 ⟨"ClauseSearch", "takeWay", "()Z"⟩) ∈ bg_W := bg_in 425 (by decide +kernel) (by decide +kernel)
theorem k_427 : (Cond.instanceMethod ⟨"ClauseSearch", "takeWay", "()Z"⟩) ∈ bg_W := bg_in 427 (by decide +kernel) (by decide +kernel)
theorem k_428 : (Cond.code ⟨"ClauseSearch", "takeWay", "()Z"⟩ prog_1_method_8_code 1 (some .boolean)) ∈ bg_W := bg_in 428 (by decide +kernel) (by decide +kernel)
theorem k_429 : (Cond.methodLink "ClauseSearch" 101 ⟨"ClauseSearch$Search", "tellWay", "([ZI)V"⟩) ∈ bg_W := bg_in 429 (by decide +kernel) (by decide +kernel)
theorem k_430 : (Cond.instanceMethod ⟨"ClauseSearch$Search", "tellWay", "([ZI)V"⟩) ∈ bg_W := bg_in 430 (by decide +kernel) (by decide +kernel)
theorem k_431 : (Cond.selects "ClauseSearch$Search" ⟨"ClauseSearch$Search", "tellWay", "([ZI)V"⟩ ⟨"ClauseSearch$Search", "tellWay", "([ZI)V"⟩) ∈ bg_W := bg_in 431 (by decide +kernel) (by decide +kernel)
theorem k_432 : (Cond.code ⟨"ClauseSearch$Search", "tellWay", "([ZI)V"⟩ prog_5_method_11_code 4 none) ∈ bg_W := bg_in 432 (by decide +kernel) (by decide +kernel)
theorem k_433 : (Cond.methodLink "ClauseSearch" 105 ⟨"ClauseSearch", "wayIsGood", "()Z"⟩) ∈ bg_W := bg_in 433 (by decide +kernel) (by decide +kernel)
theorem k_435 : (Cond.instanceMethod ⟨"ClauseSearch", "wayIsGood", "()Z"⟩) ∈ bg_W := bg_in 435 (by decide +kernel) (by decide +kernel)
theorem k_436 : (Cond.code ⟨"ClauseSearch", "wayIsGood", "()Z"⟩ prog_1_method_9_code 2 (some .boolean)) ∈ bg_W := bg_in 436 (by decide +kernel) (by decide +kernel)
theorem d_Cs_wayIsGood_0 : decode prog_1_method_9_code 0 = .ok (.iconst 0, 1) := by decide +kernel
theorem d_Cs_wayIsGood_1 : decode prog_1_method_9_code 1 = .ok (.istore_n 1, 1) := by decide +kernel
theorem d_Cs_wayIsGood_2 : decode prog_1_method_9_code 2 = .ok (.iload_n 1, 1) := by decide +kernel
theorem d_Cs_wayIsGood_3 : decode prog_1_method_9_code 3 = .ok (.aload_n 0, 1) := by decide +kernel
theorem d_Cs_wayIsGood_4 : decode prog_1_method_9_code 4 = .ok (.getfield 58, 3) := by decide +kernel
theorem d_Cs_wayIsGood_7 : decode prog_1_method_9_code 7 = .ok (.if_icmp .ge 24, 3) := by decide +kernel
theorem d_Cs_wayIsGood_31 : decode prog_1_method_9_code 31 = .ok (.iconst 0, 1) := by decide +kernel
theorem d_Cs_wayIsGood_32 : decode prog_1_method_9_code 32 = .ok (.istore_n 1, 1) := by decide +kernel
theorem d_Cs_wayIsGood_33 : decode prog_1_method_9_code 33 = .ok (.iload_n 1, 1) := by decide +kernel
theorem d_Cs_wayIsGood_34 : decode prog_1_method_9_code 34 = .ok (.aload_n 0, 1) := by decide +kernel
theorem d_Cs_wayIsGood_35 : decode prog_1_method_9_code 35 = .ok (.getfield 16, 3) := by decide +kernel
theorem d_Cs_wayIsGood_38 : decode prog_1_method_9_code 38 = .ok (.getfield 68, 3) := by decide +kernel
theorem d_Cs_wayIsGood_41 : decode prog_1_method_9_code 41 = .ok (.if_icmp .ge 19, 3) := by decide +kernel
theorem d_Cs_wayIsGood_60 : decode prog_1_method_9_code 60 = .ok (.iconst 1, 1) := by decide +kernel
theorem d_Cs_wayIsGood_61 : decode prog_1_method_9_code 61 = .ok (.ireturn, 1) := by decide +kernel
theorem d_Cs_takeWay_0 : decode prog_1_method_8_code 0 = .ok (.aload_n 0, 1) := by decide +kernel
theorem d_Cs_takeWay_1 : decode prog_1_method_8_code 1 = .ok (.getfield 28, 3) := by decide +kernel
theorem d_Cs_takeWay_4 : decode prog_1_method_8_code 4 = .ok (.aload_n 0, 1) := by decide +kernel
theorem d_Cs_takeWay_5 : decode prog_1_method_8_code 5 = .ok (.getfield 32, 3) := by decide +kernel
theorem d_Cs_takeWay_8 : decode prog_1_method_8_code 8 = .ok (.aload_n 0, 1) := by decide +kernel
theorem d_Cs_takeWay_9 : decode prog_1_method_8_code 9 = .ok (.getfield 43, 3) := by decide +kernel
theorem d_Cs_takeWay_12 : decode prog_1_method_8_code 12 = .ok (.invokevirtual 101, 3) := by decide +kernel
theorem d_Cs_takeWay_15 : decode prog_1_method_8_code 15 = .ok (.aload_n 0, 1) := by decide +kernel
theorem d_Cs_takeWay_16 : decode prog_1_method_8_code 16 = .ok (.invokevirtual 105, 3) := by decide +kernel
theorem d_Cs_takeWay_19 : decode prog_1_method_8_code 19 = .ok (.ifCond .eq 5, 3) := by decide +kernel
theorem d_Cs_takeWay_22 : decode prog_1_method_8_code 22 = .ok (.iconst 1, 1) := by decide +kernel
theorem d_Cs_takeWay_23 : decode prog_1_method_8_code 23 = .ok (.ireturn, 1) := by decide +kernel
theorem d_Cs_solve_0 : decode prog_1_method_5_code 0 = .ok (.aload_n 0, 1) := by decide +kernel
theorem d_Cs_solve_1 : decode prog_1_method_5_code 1 = .ok (.aload_n 0, 1) := by decide +kernel
theorem d_Cs_solve_2 : decode prog_1_method_5_code 2 = .ok (.getfield 28, 3) := by decide +kernel
theorem d_Cs_solve_5 : decode prog_1_method_5_code 5 = .ok (.aload_n 0, 1) := by decide +kernel
theorem d_Cs_solve_6 : decode prog_1_method_5_code 6 = .ok (.getfield 43, 3) := by decide +kernel
theorem d_Cs_solve_9 : decode prog_1_method_5_code 9 = .ok (.aload_n 0, 1) := by decide +kernel
theorem d_Cs_solve_10 : decode prog_1_method_5_code 10 = .ok (.getfield 9, 3) := by decide +kernel
theorem d_Cs_solve_13 : decode prog_1_method_5_code 13 = .ok (.aload_n 0, 1) := by decide +kernel
theorem d_Cs_solve_14 : decode prog_1_method_5_code 14 = .ok (.getfield 58, 3) := by decide +kernel
theorem d_Cs_solve_17 : decode prog_1_method_5_code 17 = .ok (.invokevirtual 81, 3) := by decide +kernel
theorem d_Cs_solve_20 : decode prog_1_method_5_code 20 = .ok (.ifCond .eq 14, 3) := by decide +kernel
theorem d_Cs_solve_23 : decode prog_1_method_5_code 23 = .ok (.aload_n 0, 1) := by decide +kernel
theorem d_Cs_solve_24 : decode prog_1_method_5_code 24 = .ok (.invokevirtual 85, 3) := by decide +kernel
theorem d_Cs_solve_27 : decode prog_1_method_5_code 27 = .ok (.ifCond .eq 7, 3) := by decide +kernel
theorem d_Cs_solve_30 : decode prog_1_method_5_code 30 = .ok (.iconst 1, 1) := by decide +kernel
theorem d_Cs_solve_31 : decode prog_1_method_5_code 31 = .ok (.goto 4, 3) := by decide +kernel
theorem d_Cs_solve_35 : decode prog_1_method_5_code 35 = .ok (.putfield 52, 3) := by decide +kernel
theorem d_Cs_solve_38 : decode prog_1_method_5_code 38 = .ok (.aload_n 0, 1) := by decide +kernel
theorem d_Cs_solve_39 : decode prog_1_method_5_code 39 = .ok (.iconst 0, 1) := by decide +kernel
theorem d_Cs_solve_40 : decode prog_1_method_5_code 40 = .ok (.putfield 58, 3) := by decide +kernel
theorem d_Cs_solve_43 : decode prog_1_method_5_code 43 = .ok (.aload_n 0, 1) := by decide +kernel
theorem d_Cs_solve_44 : decode prog_1_method_5_code 44 = .ok (.getfield 52, 3) := by decide +kernel
theorem d_Cs_solve_47 : decode prog_1_method_5_code 47 = .ok (.ireturn, 1) := by decide +kernel
theorem d_Cs_count_40 : decode prog_1_method_7_code 40 = .ok (.aload_n 0, 1) := by decide +kernel
theorem d_Cs_count_41 : decode prog_1_method_7_code 41 = .ok (.getfield 43, 3) := by decide +kernel
theorem d_Cs_count_44 : decode prog_1_method_7_code 44 = .ok (.ireturn, 1) := by decide +kernel
theorem d_Cs_count_45 : decode prog_1_method_7_code 45 = .ok (.aload_n 0, 1) := by decide +kernel
theorem d_Cs_count_46 : decode prog_1_method_7_code 46 = .ok (.getfield 16, 3) := by decide +kernel
theorem d_Cs_count_49 : decode prog_1_method_7_code 49 = .ok (.getfield 68, 3) := by decide +kernel
theorem d_Cs_count_52 : decode prog_1_method_7_code 52 = .ok (.ireturn, 1) := by decide +kernel
theorem d_Cs_count_53 : decode prog_1_method_7_code 53 = .ok (.aload_n 0, 1) := by decide +kernel
theorem d_Cs_count_54 : decode prog_1_method_7_code 54 = .ok (.getfield 58, 3) := by decide +kernel
theorem d_Cs_count_57 : decode prog_1_method_7_code 57 = .ok (.ireturn, 1) := by decide +kernel
theorem d_Cs_count_58 : decode prog_1_method_7_code 58 = .ok (.aload_n 0, 1) := by decide +kernel
theorem d_Cs_count_59 : decode prog_1_method_7_code 59 = .ok (.getfield 52, 3) := by decide +kernel
theorem d_Cs_count_62 : decode prog_1_method_7_code 62 = .ok (.ifCond .eq 7, 3) := by decide +kernel
theorem d_Cs_count_69 : decode prog_1_method_7_code 69 = .ok (.iconst 0, 1) := by decide +kernel
theorem d_Cs_count_70 : decode prog_1_method_7_code 70 = .ok (.ireturn, 1) := by decide +kernel
theorem d_Cs_count_71 : decode prog_1_method_7_code 71 = .ok (.aload_n 0, 1) := by decide +kernel
theorem d_Cs_count_72 : decode prog_1_method_7_code 72 = .ok (.getfield 28, 3) := by decide +kernel
theorem d_Cs_count_75 : decode prog_1_method_7_code 75 = .ok (.getfield 93, 3) := by decide +kernel
theorem d_Cs_count_78 : decode prog_1_method_7_code 78 = .ok (.ireturn, 1) := by decide +kernel
theorem d_Cs_count_79 : decode prog_1_method_7_code 79 = .ok (.aload_n 0, 1) := by decide +kernel
theorem d_Cs_count_80 : decode prog_1_method_7_code 80 = .ok (.getfield 96, 3) := by decide +kernel
theorem d_Cs_count_83 : decode prog_1_method_7_code 83 = .ok (.ireturn, 1) := by decide +kernel
theorem sw_6 {x : Int32} (h1 : ¬ x.toInt < 0) (h2 : ¬ 5 < x.toInt) : x = 0 ∨ x = 1 ∨ x = 2 ∨ x = 3 ∨ x = 4 ∨ x = 5 := by
  have h : x.toInt = 0 ∨ x.toInt = 1 ∨ x.toInt = 2 ∨ x.toInt = 3 ∨ x.toInt = 4 ∨ x.toInt = 5 := by omega
  rcases h with h | h | h | h | h | h
  · exact Or.inl (Int32.toInt_inj.mp (h.trans rfl))
  · exact Or.inr (Or.inl (Int32.toInt_inj.mp (h.trans rfl)))
  · exact Or.inr (Or.inr (Or.inl (Int32.toInt_inj.mp (h.trans rfl))))
  · exact Or.inr (Or.inr (Or.inr (Or.inl (Int32.toInt_inj.mp (h.trans rfl)))))
  · exact Or.inr (Or.inr (Or.inr (Or.inr (Or.inl (Int32.toInt_inj.mp (h.trans rfl))))))
  · exact Or.inr (Or.inr (Or.inr (Or.inr (Or.inr (Int32.toInt_inj.mp (h.trans rfl))))))
set_option maxHeartbeats 4000000 in
set_option maxRecDepth 100000 in
/-- wayIsGood() without clauses -/
theorem c_Cs_wayIsGood_0 (l : Launch) (dC : Nat → ClassId) (dI : Nat → Nat → Nat) (h0 : Nat) (b0 : Nat) (b1 : Nat) (s0 : Nat) (b3 : Nat) (g0 : Nat) (g1 : Nat) (g2 : Nat) (sz : Nat) : Met l y_Cs_wayIsGood (wq y_Cs_wayIsGood prog_1_method_9_code 2 (some .boolean)) ({ frames := 0, cells := 0, slots := 0, locals := 0 }) (va_Pc [.ref h0] (fun U => U.heap.size = sz ∧ va_P (dC, dI) vwCl [(h0, .inr (6, [.ref b0, .ref b1, .ref s0, .ref b3, .int 0, .int 0, .int 0, .int 0])), (b1, .inr (2, [.ref g0, .ref g1, .ref g2, .int 0]))] U.heap ∧ va_K (dC, dI) vwCl [] U ∧ va_D (fun _ => True) [(h0, .inr (6, [.ref b0, .ref b1, .ref s0, .ref b3, .int 0, .int 0, .int 0, .int 0])), (b1, .inr (2, [.ref g0, .ref g1, .ref g2, .int 0]))])) (va_Qi (fun (r : Int32) (_ : Unit) => r = 1) (fun (_ : Unit) t => va_P (dC, dI) vwCl [(h0, .inr (6, [.ref b0, .ref b1, .ref s0, .ref b3, .int 0, .int 0, .int 0, .int 0])), (b1, .inr (2, [.ref g0, .ref g1, .ref g2, .int 0]))] t.heap ∧ va_K (dC, dI) vwCl [] t ∧ va_D (va_A [(h0, .inr (6, [.ref b0, .ref b1, .ref s0, .ref b3, .int 0, .int 0, .int 0, .int 0])), (b1, .inr (2, [.ref g0, .ref g1, .ref g2, .int 0]))] sz) [(h0, .inr (6, [.ref b0, .ref b1, .ref s0, .ref b3, .int 0, .int 0, .int 0, .int 0])), (b1, .inr (2, [.ref g0, .ref g1, .ref g2, .int 0]))]) (va_A [(h0, .inr (6, [.ref b0, .ref b1, .ref s0, .ref b3, .int 0, .int 0, .int 0, .int 0])), (b1, .inr (2, [.ref g0, .ref g1, .ref g2, .int 0]))] sz)) 0 0 (va_A [(h0, .inr (6, [.ref b0, .ref b1, .ref s0, .ref b3, .int 0, .int 0, .int 0, .int 0])), (b1, .inr (2, [.ref g0, .ref g1, .ref g2, .int 0]))] sz) := by
  refine Met.ofW (cc := prog_1_method_9_code) (maxL := 2) (ret := (some .boolean)) (by decide) rfl ?_
  intro p e s m args below meth c s₁ B hml hv
  obtain ⟨rfl, hsz, hP, hK, hD0⟩ := hv
  have hx := B.exec
  have hb := B.bytes
  have hr := B.returns
  have hw : ∀ w ∈ bg_W, w.before #[Value.ref h0] s = true := fun w h => atoms_spec (ws := (wq y_Cs_wayIsGood prog_1_method_9_code 2 (some .boolean))) B.pre w (List.mem_cons_of_mem _ h)
  have hown : s.vm.findClass R_Cs = some m.cls := findClass_of_methodNamed B.named
  have hlocks := B.notSynchronized
  subst hsz
  have hD := hD0.self (sz := s.heap.size)
  generalize hAe : va_A [(h0, .inr (6, [.ref b0, .ref b1, .ref s0, .ref b3, .int 0, .int 0, .int 0, .int 0])), (b1, .inr (2, [.ref g0, .ref g1, .ref g2, .int 0]))] s.heap.size = A at hD ⊢
  have hA : ∀ q : Nat, s.heap.size ≤ q → A q := fun q h => by rw [← hAe]; exact Or.inr h
  have hS : va_S A s.heap s.heap [] := va_S.rf
  have hP : va_P (dC, dI) vwCl [(h0, .inr (6, [.ref b0, .ref b1, .ref s0, .ref b3, .int 0, .int 0, .int 0, .int 0])), (b1, .inr (2, [.ref g0, .ref g1, .ref g2, .int 0]))] s.heap := hP
  have hl := lv_entry ([.ref h0]) (n := 2) (Nat.le_of_ble_eq_true rfl)
  rw [lg_entry_eq]
  generalize (lg_sl ([.ref h0]) ++ List.replicate (2 - (lg_sl ([.ref h0])).length) Slot.unset).toArray = ls at hl ⊢
  have hl : lv_has ls 2 [(0, .ref h0)] := hl
  obtain ⟨H, hH⟩ : ∃ H : Heap, H = s.heap := ⟨_, rfl⟩
  rw [← hH] at hP
  have hS : va_S A s.heap H [] := by rw [hH]; exact va_S.rf
  show W p l e _ s m _ below meth c s.heap [] 0 0 _ _
  rw [← hH]
  refine lv_iconst (v := 0) hx hb d_Cs_wayIsGood_0 (by decide) ?_
  refine lv_istore_n (lv' := [(1, .int 0), (0, .ref h0)]) hx hb d_Cs_wayIsGood_1 rfl hl (by decide) rfl (fun ls hl => ?_)
  refine lv_iload_n hx hb d_Cs_wayIsGood_2 rfl (lv_at hl 0 rfl) ?_
  refine lv_aload_n hx hb d_Cs_wayIsGood_3 rfl (lv_at hl 1 rfl) ?_
  refine va_get (D := (dC, dI)) (ci := 6) (v := .int 0) (C := R_Cs) (T := F_Cs) (N := 8) hx hb hw in_Cs hown hK hP 0 rfl rfl 4 (by decide) (hw (Cond.fieldLink "ClauseSearch" 58 "ClauseSearch" "rowSize" "I") k_259) (fun _ h9 => h9) rfl d_Cs_wayIsGood_4 ?_
  refine lv_icmp_ge (tgt := 31) hx hb d_Cs_wayIsGood_7 (by decide) (fun c_7 => ?_) (fun c_7 => absurd c_7 (by decide))
  refine lv_iconst (v := 0) hx hb d_Cs_wayIsGood_31 (by decide) ?_
  refine lv_istore_n (lv' := [(1, .int 0), (0, .ref h0)]) hx hb d_Cs_wayIsGood_32 rfl hl (by decide) rfl (fun ls hl => ?_)
  refine lv_iload_n hx hb d_Cs_wayIsGood_33 rfl (lv_at hl 0 rfl) ?_
  refine lv_aload_n hx hb d_Cs_wayIsGood_34 rfl (lv_at hl 1 rfl) ?_
  refine va_get (D := (dC, dI)) (ci := 6) (v := .ref b1) (C := R_Cs) (T := F_Cs) (N := 8) hx hb hw in_Cs hown hK hP 0 rfl rfl 1 (by decide) (hw (Cond.fieldLink "ClauseSearch" 16 "ClauseSearch" "clauses" "LClauseSearch$Rows;") k_256) (fun _ h9 => h9) rfl d_Cs_wayIsGood_35 ?_
  refine va_getN (D := (dC, dI)) (ci := 2) (v := .int 0) (C := R_Rw) (T := F_Rw) (N := 4) hx hb hw in_Rw hown hK hP 1 rfl rfl 3 (by decide) (hw (Cond.fieldLinkNest "ClauseSearch" 68 "ClauseSearch$Rows" "size" "I" "ClauseSearch") k_76) (fun _ h9 => h9) rfl d_Cs_wayIsGood_38 ?_
  refine lv_icmp_ge (tgt := 60) hx hb d_Cs_wayIsGood_41 (by decide) (fun c_41 => ?_) (fun c_41 => absurd c_41 (by decide))
  refine lv_iconst (v := 1) hx hb d_Cs_wayIsGood_60 (by decide) ?_
  refine W.widen (k := 0) (n := 0) (by decide) (by decide) ?_
  exact W.zret (v := 1) hx hb hr rfl (fun t ht hW => ⟨⟨1, (), rfl, rfl, by rw [ht]; exact hP, va_K.moved hW.alike hK, hD⟩, hS.F ht⟩) hS.2.2 d_Cs_wayIsGood_61

set_option maxHeartbeats 4000000 in
set_option maxRecDepth 100000 in
/-- takeWay() without variables -/
theorem c_Cs_takeWay_0 (l : Launch) (dC : Nat → ClassId) (dI : Nat → Nat → Nat) (h0 : Nat) (b0 : Nat) (b1 : Nat) (s0 : Nat) (b3 : Nat) (g0 : Nat) (g1 : Nat) (g2 : Nat) (r0 : Nat) (t0 : Nat) (w0 : Nat) (l0 : Nat) (k0 : Nat) (v0 : Nat) (v1 : Nat) (v2 : Nat) (sz : Nat) : Met l y_Cs_takeWay (wq y_Cs_takeWay prog_1_method_8_code 1 (some .boolean)) ({ frames := 1, cells := 0, slots := 0, locals := 23 }) (va_Pc [.ref h0] (fun U => U.heap.size = sz ∧ va_P (dC, dI) vwCl [(h0, .inr (6, [.ref b0, .ref b1, .ref s0, .ref b3, .int 0, .int 0, .int 0, .int 0])), (b1, .inr (2, [.ref g0, .ref g1, .ref g2, .int 0])), (s0, .inr (3, [.ref r0, .ref t0, .ref w0, .ref l0, .ref k0, .ref v0, .ref v1, .ref v2, .int 0, .int 0, .int 0, .int 0]))] U.heap ∧ va_K (dC, dI) vwCl [] U ∧ va_D (fun _ => True) [(h0, .inr (6, [.ref b0, .ref b1, .ref s0, .ref b3, .int 0, .int 0, .int 0, .int 0])), (b1, .inr (2, [.ref g0, .ref g1, .ref g2, .int 0])), (s0, .inr (3, [.ref r0, .ref t0, .ref w0, .ref l0, .ref k0, .ref v0, .ref v1, .ref v2, .int 0, .int 0, .int 0, .int 0]))])) (va_Qi (fun (r : Int32) (_ : Unit) => r = 1) (fun (_ : Unit) t => va_P (dC, dI) vwCl [(s0, .inr (3, [.ref r0, .ref t0, .ref w0, .ref l0, .ref k0, .ref v0, .ref v1, .ref v2, .int 0, .int 0, .int 0, .int 0])), (h0, .inr (6, [.ref b0, .ref b1, .ref s0, .ref b3, .int 0, .int 0, .int 0, .int 0])), (b1, .inr (2, [.ref g0, .ref g1, .ref g2, .int 0]))] t.heap ∧ va_K (dC, dI) vwCl [] t ∧ va_D (va_A [(h0, .inr (6, [.ref b0, .ref b1, .ref s0, .ref b3, .int 0, .int 0, .int 0, .int 0])), (b1, .inr (2, [.ref g0, .ref g1, .ref g2, .int 0])), (s0, .inr (3, [.ref r0, .ref t0, .ref w0, .ref l0, .ref k0, .ref v0, .ref v1, .ref v2, .int 0, .int 0, .int 0, .int 0]))] sz) [(s0, .inr (3, [.ref r0, .ref t0, .ref w0, .ref l0, .ref k0, .ref v0, .ref v1, .ref v2, .int 0, .int 0, .int 0, .int 0])), (h0, .inr (6, [.ref b0, .ref b1, .ref s0, .ref b3, .int 0, .int 0, .int 0, .int 0])), (b1, .inr (2, [.ref g0, .ref g1, .ref g2, .int 0]))]) (va_A [(h0, .inr (6, [.ref b0, .ref b1, .ref s0, .ref b3, .int 0, .int 0, .int 0, .int 0])), (b1, .inr (2, [.ref g0, .ref g1, .ref g2, .int 0])), (s0, .inr (3, [.ref r0, .ref t0, .ref w0, .ref l0, .ref k0, .ref v0, .ref v1, .ref v2, .int 0, .int 0, .int 0, .int 0]))] sz)) 0 0 (va_A [(h0, .inr (6, [.ref b0, .ref b1, .ref s0, .ref b3, .int 0, .int 0, .int 0, .int 0])), (b1, .inr (2, [.ref g0, .ref g1, .ref g2, .int 0])), (s0, .inr (3, [.ref r0, .ref t0, .ref w0, .ref l0, .ref k0, .ref v0, .ref v1, .ref v2, .int 0, .int 0, .int 0, .int 0]))] sz) := by
  refine Met.ofW (cc := prog_1_method_8_code) (maxL := 1) (ret := (some .boolean)) (by decide) rfl ?_
  intro p e s m args below meth c s₁ B hml hv
  obtain ⟨rfl, hsz, hP, hK, hD0⟩ := hv
  have hx := B.exec
  have hb := B.bytes
  have hr := B.returns
  have hw : ∀ w ∈ bg_W, w.before #[Value.ref h0] s = true := fun w h => atoms_spec (ws := (wq y_Cs_takeWay prog_1_method_8_code 1 (some .boolean))) B.pre w (List.mem_cons_of_mem _ h)
  have hown : s.vm.findClass R_Cs = some m.cls := findClass_of_methodNamed B.named
  have hlocks := B.notSynchronized
  subst hsz
  have hD := hD0.self (sz := s.heap.size)
  generalize hAe : va_A [(h0, .inr (6, [.ref b0, .ref b1, .ref s0, .ref b3, .int 0, .int 0, .int 0, .int 0])), (b1, .inr (2, [.ref g0, .ref g1, .ref g2, .int 0])), (s0, .inr (3, [.ref r0, .ref t0, .ref w0, .ref l0, .ref k0, .ref v0, .ref v1, .ref v2, .int 0, .int 0, .int 0, .int 0]))] s.heap.size = A at hD ⊢
  have hA : ∀ q : Nat, s.heap.size ≤ q → A q := fun q h => by rw [← hAe]; exact Or.inr h
  have hS : va_S A s.heap s.heap [] := va_S.rf
  have hP : va_P (dC, dI) vwCl [(h0, .inr (6, [.ref b0, .ref b1, .ref s0, .ref b3, .int 0, .int 0, .int 0, .int 0])), (b1, .inr (2, [.ref g0, .ref g1, .ref g2, .int 0])), (s0, .inr (3, [.ref r0, .ref t0, .ref w0, .ref l0, .ref k0, .ref v0, .ref v1, .ref v2, .int 0, .int 0, .int 0, .int 0]))] s.heap := hP
  have hl := lv_entry ([.ref h0]) (n := 1) (Nat.le_of_ble_eq_true rfl)
  rw [lg_entry_eq]
  generalize (lg_sl ([.ref h0]) ++ List.replicate (1 - (lg_sl ([.ref h0])).length) Slot.unset).toArray = ls at hl ⊢
  have hl : lv_has ls 1 [(0, .ref h0)] := hl
  obtain ⟨H, hH⟩ : ∃ H : Heap, H = s.heap := ⟨_, rfl⟩
  rw [← hH] at hP
  have hS : va_S A s.heap H [] := by rw [hH]; exact va_S.rf
  show W p l e _ s m _ below meth c s.heap [] 0 0 _ _
  rw [← hH]
  refine lv_aload_n hx hb d_Cs_takeWay_0 rfl (lv_at hl 0 rfl) ?_
  refine va_get (D := (dC, dI)) (ci := 6) (v := .ref s0) (C := R_Cs) (T := F_Cs) (N := 8) hx hb hw in_Cs hown hK hP 0 rfl rfl 2 (by decide) (hw (Cond.fieldLink "ClauseSearch" 28 "ClauseSearch" "search" "LClauseSearch$Search;") k_257) (fun _ h9 => h9) rfl d_Cs_takeWay_1 ?_
  refine lv_aload_n hx hb d_Cs_takeWay_4 rfl (lv_at hl 0 rfl) ?_
  refine va_get (D := (dC, dI)) (ci := 6) (v := .ref b3) (C := R_Cs) (T := F_Cs) (N := 8) hx hb hw in_Cs hown hK hP 0 rfl rfl 3 (by decide) (hw (Cond.fieldLink "ClauseSearch" 32 "ClauseSearch" "way" "[Z") k_258) (fun _ h9 => h9) rfl d_Cs_takeWay_5 ?_
  refine lv_aload_n hx hb d_Cs_takeWay_8 rfl (lv_at hl 0 rfl) ?_
  refine va_get (D := (dC, dI)) (ci := 6) (v := .int 0) (C := R_Cs) (T := F_Cs) (N := 8) hx hb hw in_Cs hown hK hP 0 rfl rfl 5 (by decide) (hw (Cond.fieldLink "ClauseSearch" 43 "ClauseSearch" "variableCount" "I") k_260) (fun _ h9 => h9) rfl d_Cs_takeWay_9 ?_
  have hPc := hP.sub (ws' := [(s0, .inr (3, [.ref r0, .ref t0, .ref w0, .ref l0, .ref k0, .ref v0, .ref v1, .ref v2, .int 0, .int 0, .int 0, .int 0]))]) [2] rfl
  have hDc := hD.sub (ws' := [(s0, .inr (3, [.ref r0, .ref t0, .ref w0, .ref l0, .ref k0, .ref v0, .ref v1, .ref v2, .int 0, .int 0, .int 0, .int 0]))]) [2] (by decide) rfl
  have hKc := hK.sub (tys' := []) [] rfl
  have hFc := va_free (wc := [(s0, .inr (3, [.ref r0, .ref t0, .ref w0, .ref l0, .ref k0, .ref v0, .ref v1, .ref v2, .int 0, .int 0, .int 0, .int 0]))]) hD hS hA [2] rfl
  refine va_callv (va_runV (As := [.ref b3, .int 0]) (rest := []) ⟨hx, hb, hml, hown, hw⟩ (c_Sr_tellWay_0 l dC dI s0 r0 t0 w0 l0 k0 v0 v1 v2 b3 H.size) (cb_V (C := R_Sr) 2 hw k_432 k_31 k_429 k_430 k_431 rfl rfl (by decide +kernel) ⟨Nat.le_of_ble_eq_true rfl, Nat.le_of_ble_eq_true rfl⟩) ⟨fun a U g mk q => by obtain ⟨q0, q1, qP, qK, qD⟩ := q; exact ⟨q0, q1, qP, va_K.moved (u := U) (U := U.calling g mk a) (Vm.Alike.refl U.vm) qK, qD⟩, va_recv hKc hPc (ci := 3) (q0 := 0) rfl rfl, fun U hU hW => ⟨rfl, by rw [hU], by rw [hU]; exact hPc, va_K.moved hW.alike hKc, hDc.weaken (fun _ _ _ _ => trivial)⟩⟩ rfl rfl hl.1 rfl (lv_room (Nat.le_of_ble_eq_true rfl)) d_Cs_takeWay_12 ⟨Nat.le_of_ble_eq_true rfl, Nat.le_of_ble_eq_true rfl⟩) hS (fun q _ h => hFc q h) hFc (fun u t H1 locs ht hvm hw9 hB hz1 hk1 hS => ?_)
  obtain ⟨hP1, hK1, hD1⟩ := hB
  rw [ht] at hP1
  have hK1 := va_K.moved hvm.symm hK1
  obtain ⟨hP, hD⟩ := va_join (wr := [(h0, .inr (6, [.ref b0, .ref b1, .ref s0, .ref b3, .int 0, .int 0, .int 0, .int 0])), (b1, .inr (2, [.ref g0, .ref g1, .ref g2, .int 0]))]) (w1 := [(s0, .inr (3, [.ref r0, .ref t0, .ref w0, .ref l0, .ref k0, .ref v0, .ref v1, .ref v2, .int 0, .int 0, .int 0, .int 0]))]) hP hD [2] [0, 1] rfl rfl (by decide) (by decide) hk1 hFc hP1 hD1
  generalize H1 = H at hP hS ⊢
  have hP : va_P (dC, dI) vwCl [(h0, .inr (6, [.ref b0, .ref b1, .ref s0, .ref b3, .int 0, .int 0, .int 0, .int 0])), (b1, .inr (2, [.ref g0, .ref g1, .ref g2, .int 0])), (s0, .inr (3, [.ref r0, .ref t0, .ref w0, .ref l0, .ref k0, .ref v0, .ref v1, .ref v2, .int 0, .int 0, .int 0, .int 0]))] H := hP
  have hD : va_D A [(h0, .inr (6, [.ref b0, .ref b1, .ref s0, .ref b3, .int 0, .int 0, .int 0, .int 0])), (b1, .inr (2, [.ref g0, .ref g1, .ref g2, .int 0])), (s0, .inr (3, [.ref r0, .ref t0, .ref w0, .ref l0, .ref k0, .ref v0, .ref v1, .ref v2, .int 0, .int 0, .int 0, .int 0]))] := hD
  refine W.widen (k := 0) (n := 0) (by decide) (by decide) ?_
  refine lv_aload_n hx hb d_Cs_takeWay_15 rfl (lv_at hl 0 rfl) ?_
  have hPc := hP.sub (ws' := [(h0, .inr (6, [.ref b0, .ref b1, .ref s0, .ref b3, .int 0, .int 0, .int 0, .int 0])), (b1, .inr (2, [.ref g0, .ref g1, .ref g2, .int 0]))]) [0, 1] rfl
  have hDc := hD.sub (ws' := [(h0, .inr (6, [.ref b0, .ref b1, .ref s0, .ref b3, .int 0, .int 0, .int 0, .int 0])), (b1, .inr (2, [.ref g0, .ref g1, .ref g2, .int 0]))]) [0, 1] (by decide) rfl
  have hKc := hK.sub (tys' := []) [] rfl
  have hFc := va_free (wc := [(h0, .inr (6, [.ref b0, .ref b1, .ref s0, .ref b3, .int 0, .int 0, .int 0, .int 0])), (b1, .inr (2, [.ref g0, .ref g1, .ref g2, .int 0]))]) hD hS hA [0, 1] rfl
  refine va_calli (va_runV (As := []) (rest := []) ⟨hx, hb, hml, hown, hw⟩ (c_Cs_wayIsGood_0 l dC dI h0 b0 b1 s0 b3 g0 g1 g2 H.size) (cb_V (C := R_Cs) 0 hw k_436 k_29 k_433 k_435 k_16 rfl rfl (by decide +kernel) ⟨Nat.le_of_ble_eq_true rfl, Nat.le_of_ble_eq_true rfl⟩) ⟨fun a U g mk q => by obtain ⟨q0, q1, qP, qK, qD⟩ := q; exact ⟨q0, q1, qP, va_K.moved (u := U) (U := U.calling g mk a) (Vm.Alike.refl U.vm) qK, qD⟩, va_recv hKc hPc (ci := 6) (q0 := 0) rfl rfl, fun U hU hW => ⟨rfl, by rw [hU], by rw [hU]; exact hPc, va_K.moved hW.alike hKc, hDc.weaken (fun _ _ _ _ => trivial)⟩⟩ rfl rfl hl.1 rfl (lv_room (Nat.le_of_ble_eq_true rfl)) d_Cs_takeWay_16 ⟨Nat.le_of_ble_eq_true rfl, Nat.le_of_ble_eq_true rfl⟩) hS (fun q _ h => hFc q h) hFc (fun r_1 u t H1 locs ht hvm hw9 hB hz1 hk1 hS => ?_)
  obtain ⟨hP1, hK1, hD1⟩ := hB
  rw [ht] at hP1
  have hK1 := va_K.moved hvm.symm hK1
  obtain ⟨hP, hD⟩ := va_join (wr := [(s0, .inr (3, [.ref r0, .ref t0, .ref w0, .ref l0, .ref k0, .ref v0, .ref v1, .ref v2, .int 0, .int 0, .int 0, .int 0]))]) (w1 := [(h0, .inr (6, [.ref b0, .ref b1, .ref s0, .ref b3, .int 0, .int 0, .int 0, .int 0])), (b1, .inr (2, [.ref g0, .ref g1, .ref g2, .int 0]))]) hP hD [0, 1] [2] rfl rfl (by decide) (by decide) hk1 hFc hP1 hD1
  generalize H1 = H at hP hS ⊢
  have hP : va_P (dC, dI) vwCl [(s0, .inr (3, [.ref r0, .ref t0, .ref w0, .ref l0, .ref k0, .ref v0, .ref v1, .ref v2, .int 0, .int 0, .int 0, .int 0])), (h0, .inr (6, [.ref b0, .ref b1, .ref s0, .ref b3, .int 0, .int 0, .int 0, .int 0])), (b1, .inr (2, [.ref g0, .ref g1, .ref g2, .int 0]))] H := hP
  have hD : va_D A [(s0, .inr (3, [.ref r0, .ref t0, .ref w0, .ref l0, .ref k0, .ref v0, .ref v1, .ref v2, .int 0, .int 0, .int 0, .int 0])), (h0, .inr (6, [.ref b0, .ref b1, .ref s0, .ref b3, .int 0, .int 0, .int 0, .int 0])), (b1, .inr (2, [.ref g0, .ref g1, .ref g2, .int 0]))] := hD
  refine W.widen (k := 0) (n := 0) (by decide) (by decide) ?_
  have hw9 : r_1 = 1 := hw9
  subst hw9
  refine lv_if_eq (tgt := 24) hx hb d_Cs_takeWay_19 (by decide) (fun c_19 => absurd c_19 (by decide)) (fun c_19 => ?_)
  refine lv_iconst (v := 1) hx hb d_Cs_takeWay_22 (by decide) ?_
  refine W.widen (k := 0) (n := 0) (by decide) (by decide) ?_
  exact W.zret (v := 1) hx hb hr rfl (fun t ht hW => ⟨⟨1, (), rfl, rfl, by rw [ht]; exact hP, va_K.moved hW.alike hK, hD⟩, hS.F ht⟩) hS.2.2 d_Cs_takeWay_23

set_option maxHeartbeats 4000000 in
set_option maxRecDepth 100000 in
/-- solve() of a new object -/
theorem c_Cs_solve_0 (l : Launch) (dC : Nat → ClassId) (dI : Nat → Nat → Nat) (h0 : Nat) (b0 : Nat) (b1 : Nat) (s0 : Nat) (b3 : Nat) (g0 : Nat) (g1 : Nat) (g2 : Nat) (r0 : Nat) (t0 : Nat) (w0 : Nat) (l0 : Nat) (k0 : Nat) (v0 : Nat) (v1 : Nat) (v2 : Nat) (u0 : Nat) (u1 : Nat) (u2 : Nat) (u3 : Nat) (u4 : Nat) (y0 : Nat) (y1 : Nat) (sz : Nat) : Met l y_Cs_solve (wq y_Cs_solve prog_1_method_5_code 1 (some .boolean)) ({ frames := 4, cells := 0, slots := 0, locals := 84 }) (va_Pc [.ref h0] (fun U => U.heap.size = sz ∧ va_P (dC, dI) vwCl [(h0, .inr (6, [.ref b0, .ref b1, .ref s0, .ref b3, .int 0, .int 0, .int 0, .int 0])), (b1, .inr (2, [.ref g0, .ref g1, .ref g2, .int 0])), (s0, .inr (3, [.ref r0, .ref t0, .ref w0, .ref l0, .ref k0, .ref v0, .ref v1, .ref v2, .int 0, .int 0, .int 0, .int 0])), (t0, .inr (4, [.ref u0, .ref u1, .ref u2, .ref u3, .ref u4, .int 0, .int 0, .int 0, .int 1])), (w0, .inr (5, [.ref r0, .ref t0, .ref y0, .ref y1]))] U.heap ∧ va_K (dC, dI) vwCl [] U ∧ va_D (fun _ => True) [(h0, .inr (6, [.ref b0, .ref b1, .ref s0, .ref b3, .int 0, .int 0, .int 0, .int 0])), (b1, .inr (2, [.ref g0, .ref g1, .ref g2, .int 0])), (s0, .inr (3, [.ref r0, .ref t0, .ref w0, .ref l0, .ref k0, .ref v0, .ref v1, .ref v2, .int 0, .int 0, .int 0, .int 0])), (t0, .inr (4, [.ref u0, .ref u1, .ref u2, .ref u3, .ref u4, .int 0, .int 0, .int 0, .int 1])), (w0, .inr (5, [.ref r0, .ref t0, .ref y0, .ref y1]))])) (va_Qi (fun (r : Int32) (_ : Unit) => r = 1) (fun (_ : Unit) t => va_P (dC, dI) vwCl [(w0, .inr (5, [.ref r0, .ref t0, .ref y0, .ref y1])), (t0, .inr (4, [.ref u0, .ref u1, .ref u2, .ref u3, .ref u4, .int 0, .int 0, .int 0, .int 1])), (s0, .inr (3, [.ref r0, .ref t0, .ref w0, .ref l0, .ref k0, .ref v0, .ref v1, .ref v2, .int 0, .int 0, .int 0, .int 0])), (h0, .inr (6, [.ref b0, .ref b1, .ref s0, .ref b3, .int 0, .int 0, .int 1, .int 0])), (b1, .inr (2, [.ref g0, .ref g1, .ref g2, .int 0]))] t.heap ∧ va_K (dC, dI) vwCl [] t ∧ va_D (va_A [(h0, .inr (6, [.ref b0, .ref b1, .ref s0, .ref b3, .int 0, .int 0, .int 0, .int 0])), (b1, .inr (2, [.ref g0, .ref g1, .ref g2, .int 0])), (s0, .inr (3, [.ref r0, .ref t0, .ref w0, .ref l0, .ref k0, .ref v0, .ref v1, .ref v2, .int 0, .int 0, .int 0, .int 0])), (t0, .inr (4, [.ref u0, .ref u1, .ref u2, .ref u3, .ref u4, .int 0, .int 0, .int 0, .int 1])), (w0, .inr (5, [.ref r0, .ref t0, .ref y0, .ref y1]))] sz) [(w0, .inr (5, [.ref r0, .ref t0, .ref y0, .ref y1])), (t0, .inr (4, [.ref u0, .ref u1, .ref u2, .ref u3, .ref u4, .int 0, .int 0, .int 0, .int 1])), (s0, .inr (3, [.ref r0, .ref t0, .ref w0, .ref l0, .ref k0, .ref v0, .ref v1, .ref v2, .int 0, .int 0, .int 0, .int 0])), (h0, .inr (6, [.ref b0, .ref b1, .ref s0, .ref b3, .int 0, .int 0, .int 1, .int 0])), (b1, .inr (2, [.ref g0, .ref g1, .ref g2, .int 0]))]) (va_A [(h0, .inr (6, [.ref b0, .ref b1, .ref s0, .ref b3, .int 0, .int 0, .int 0, .int 0])), (b1, .inr (2, [.ref g0, .ref g1, .ref g2, .int 0])), (s0, .inr (3, [.ref r0, .ref t0, .ref w0, .ref l0, .ref k0, .ref v0, .ref v1, .ref v2, .int 0, .int 0, .int 0, .int 0])), (t0, .inr (4, [.ref u0, .ref u1, .ref u2, .ref u3, .ref u4, .int 0, .int 0, .int 0, .int 1])), (w0, .inr (5, [.ref r0, .ref t0, .ref y0, .ref y1]))] sz)) 0 0 (va_A [(h0, .inr (6, [.ref b0, .ref b1, .ref s0, .ref b3, .int 0, .int 0, .int 0, .int 0])), (b1, .inr (2, [.ref g0, .ref g1, .ref g2, .int 0])), (s0, .inr (3, [.ref r0, .ref t0, .ref w0, .ref l0, .ref k0, .ref v0, .ref v1, .ref v2, .int 0, .int 0, .int 0, .int 0])), (t0, .inr (4, [.ref u0, .ref u1, .ref u2, .ref u3, .ref u4, .int 0, .int 0, .int 0, .int 1])), (w0, .inr (5, [.ref r0, .ref t0, .ref y0, .ref y1]))] sz) := by
  refine Met.ofW (cc := prog_1_method_5_code) (maxL := 1) (ret := (some .boolean)) (by decide) rfl ?_
  intro p e s m args below meth c s₁ B hml hv
  obtain ⟨rfl, hsz, hP, hK, hD0⟩ := hv
  have hx := B.exec
  have hb := B.bytes
  have hr := B.returns
  have hw : ∀ w ∈ bg_W, w.before #[Value.ref h0] s = true := fun w h => atoms_spec (ws := (wq y_Cs_solve prog_1_method_5_code 1 (some .boolean))) B.pre w (List.mem_cons_of_mem _ h)
  have hown : s.vm.findClass R_Cs = some m.cls := findClass_of_methodNamed B.named
  have hlocks := B.notSynchronized
  subst hsz
  have hD := hD0.self (sz := s.heap.size)
  generalize hAe : va_A [(h0, .inr (6, [.ref b0, .ref b1, .ref s0, .ref b3, .int 0, .int 0, .int 0, .int 0])), (b1, .inr (2, [.ref g0, .ref g1, .ref g2, .int 0])), (s0, .inr (3, [.ref r0, .ref t0, .ref w0, .ref l0, .ref k0, .ref v0, .ref v1, .ref v2, .int 0, .int 0, .int 0, .int 0])), (t0, .inr (4, [.ref u0, .ref u1, .ref u2, .ref u3, .ref u4, .int 0, .int 0, .int 0, .int 1])), (w0, .inr (5, [.ref r0, .ref t0, .ref y0, .ref y1]))] s.heap.size = A at hD ⊢
  have hA : ∀ q : Nat, s.heap.size ≤ q → A q := fun q h => by rw [← hAe]; exact Or.inr h
  have hS : va_S A s.heap s.heap [] := va_S.rf
  have hP : va_P (dC, dI) vwCl [(h0, .inr (6, [.ref b0, .ref b1, .ref s0, .ref b3, .int 0, .int 0, .int 0, .int 0])), (b1, .inr (2, [.ref g0, .ref g1, .ref g2, .int 0])), (s0, .inr (3, [.ref r0, .ref t0, .ref w0, .ref l0, .ref k0, .ref v0, .ref v1, .ref v2, .int 0, .int 0, .int 0, .int 0])), (t0, .inr (4, [.ref u0, .ref u1, .ref u2, .ref u3, .ref u4, .int 0, .int 0, .int 0, .int 1])), (w0, .inr (5, [.ref r0, .ref t0, .ref y0, .ref y1]))] s.heap := hP
  have hl := lv_entry ([.ref h0]) (n := 1) (Nat.le_of_ble_eq_true rfl)
  rw [lg_entry_eq]
  generalize (lg_sl ([.ref h0]) ++ List.replicate (1 - (lg_sl ([.ref h0])).length) Slot.unset).toArray = ls at hl ⊢
  have hl : lv_has ls 1 [(0, .ref h0)] := hl
  obtain ⟨H, hH⟩ : ∃ H : Heap, H = s.heap := ⟨_, rfl⟩
  rw [← hH] at hP
  have hS : va_S A s.heap H [] := by rw [hH]; exact va_S.rf
  show W p l e _ s m _ below meth c s.heap [] 0 0 _ _
  rw [← hH]
  refine lv_aload_n hx hb d_Cs_solve_0 rfl (lv_at hl 0 rfl) ?_
  refine lv_aload_n hx hb d_Cs_solve_1 rfl (lv_at hl 0 rfl) ?_
  refine va_get (D := (dC, dI)) (ci := 6) (v := .ref s0) (C := R_Cs) (T := F_Cs) (N := 8) hx hb hw in_Cs hown hK hP 0 rfl rfl 2 (by decide) (hw (Cond.fieldLink "ClauseSearch" 28 "ClauseSearch" "search" "LClauseSearch$Search;") k_257) (fun _ h9 => h9) rfl d_Cs_solve_2 ?_
  refine lv_aload_n hx hb d_Cs_solve_5 rfl (lv_at hl 0 rfl) ?_
  refine va_get (D := (dC, dI)) (ci := 6) (v := .int 0) (C := R_Cs) (T := F_Cs) (N := 8) hx hb hw in_Cs hown hK hP 0 rfl rfl 5 (by decide) (hw (Cond.fieldLink "ClauseSearch" 43 "ClauseSearch" "variableCount" "I") k_260) (fun _ h9 => h9) rfl d_Cs_solve_6 ?_
  refine lv_aload_n hx hb d_Cs_solve_9 rfl (lv_at hl 0 rfl) ?_
  refine va_get (D := (dC, dI)) (ci := 6) (v := .ref b0) (C := R_Cs) (T := F_Cs) (N := 8) hx hb hw in_Cs hown hK hP 0 rfl rfl 0 (by decide) (hw (Cond.fieldLink "ClauseSearch" 9 "ClauseSearch" "row" "[I") k_255) (fun _ h9 => h9) rfl d_Cs_solve_10 ?_
  refine lv_aload_n hx hb d_Cs_solve_13 rfl (lv_at hl 0 rfl) ?_
  refine va_get (D := (dC, dI)) (ci := 6) (v := .int 0) (C := R_Cs) (T := F_Cs) (N := 8) hx hb hw in_Cs hown hK hP 0 rfl rfl 4 (by decide) (hw (Cond.fieldLink "ClauseSearch" 58 "ClauseSearch" "rowSize" "I") k_259) (fun _ h9 => h9) rfl d_Cs_solve_14 ?_
  have hPc := hP.sub (ws' := [(s0, .inr (3, [.ref r0, .ref t0, .ref w0, .ref l0, .ref k0, .ref v0, .ref v1, .ref v2, .int 0, .int 0, .int 0, .int 0])), (t0, .inr (4, [.ref u0, .ref u1, .ref u2, .ref u3, .ref u4, .int 0, .int 0, .int 0, .int 1])), (w0, .inr (5, [.ref r0, .ref t0, .ref y0, .ref y1]))]) [2, 3, 4] rfl
  have hDc := hD.sub (ws' := [(s0, .inr (3, [.ref r0, .ref t0, .ref w0, .ref l0, .ref k0, .ref v0, .ref v1, .ref v2, .int 0, .int 0, .int 0, .int 0])), (t0, .inr (4, [.ref u0, .ref u1, .ref u2, .ref u3, .ref u4, .int 0, .int 0, .int 0, .int 1])), (w0, .inr (5, [.ref r0, .ref t0, .ref y0, .ref y1]))]) [2, 3, 4] (by decide) rfl
  have hKc := hK.sub (tys' := []) [] rfl
  have hFc := va_free (wc := [(s0, .inr (3, [.ref r0, .ref t0, .ref w0, .ref l0, .ref k0, .ref v0, .ref v1, .ref v2, .int 0, .int 0, .int 0, .int 0])), (t0, .inr (4, [.ref u0, .ref u1, .ref u2, .ref u3, .ref u4, .int 0, .int 0, .int 0, .int 1])), (w0, .inr (5, [.ref r0, .ref t0, .ref y0, .ref y1]))]) hD hS hA [2, 3, 4] rfl
  refine va_calli (va_runV (As := [.int 0, .ref b0, .int 0]) (rest := [.ref h0]) ⟨hx, hb, hml, hown, hw⟩ (c_Sr_findLeast_0 l dC dI s0 r0 t0 w0 l0 k0 v0 v1 v2 u0 u1 u2 u3 u4 y0 y1 b0 H.size) (cb_V (C := R_Sr) 3 hw k_287 k_31 k_284 k_285 k_286 rfl rfl (by decide +kernel) ⟨Nat.le_of_ble_eq_true rfl, Nat.le_of_ble_eq_true rfl⟩) ⟨fun a U g mk q => by obtain ⟨q0, q1, qP, qK, qD⟩ := q; exact ⟨q0, q1, qP, va_K.moved (u := U) (U := U.calling g mk a) (Vm.Alike.refl U.vm) qK, qD⟩, va_recv hKc hPc (ci := 3) (q0 := 0) rfl rfl, fun U hU hW => ⟨rfl, by rw [hU], by rw [hU]; exact hPc, va_K.moved hW.alike hKc, hDc.weaken (fun _ _ _ _ => trivial)⟩⟩ rfl rfl hl.1 rfl (lv_room (Nat.le_of_ble_eq_true rfl)) d_Cs_solve_17 ⟨Nat.le_of_ble_eq_true rfl, Nat.le_of_ble_eq_true rfl⟩) hS (fun q _ h => hFc q h) hFc (fun r_1 u t H1 locs ht hvm hw9 hB hz1 hk1 hS => ?_)
  obtain ⟨hP1, hK1, hD1⟩ := hB
  rw [ht] at hP1
  have hK1 := va_K.moved hvm.symm hK1
  obtain ⟨hP, hD⟩ := va_join (wr := [(h0, .inr (6, [.ref b0, .ref b1, .ref s0, .ref b3, .int 0, .int 0, .int 0, .int 0])), (b1, .inr (2, [.ref g0, .ref g1, .ref g2, .int 0]))]) (w1 := [(w0, .inr (5, [.ref r0, .ref t0, .ref y0, .ref y1])), (s0, .inr (3, [.ref r0, .ref t0, .ref w0, .ref l0, .ref k0, .ref v0, .ref v1, .ref v2, .int 0, .int 0, .int 0, .int 0])), (t0, .inr (4, [.ref u0, .ref u1, .ref u2, .ref u3, .ref u4, .int 0, .int 0, .int 0, .int 1]))]) hP hD [2, 3, 4] [0, 1] rfl rfl (by decide) (by decide) hk1 hFc hP1 hD1
  generalize H1 = H at hP hS ⊢
  have hP : va_P (dC, dI) vwCl [(h0, .inr (6, [.ref b0, .ref b1, .ref s0, .ref b3, .int 0, .int 0, .int 0, .int 0])), (b1, .inr (2, [.ref g0, .ref g1, .ref g2, .int 0])), (w0, .inr (5, [.ref r0, .ref t0, .ref y0, .ref y1])), (s0, .inr (3, [.ref r0, .ref t0, .ref w0, .ref l0, .ref k0, .ref v0, .ref v1, .ref v2, .int 0, .int 0, .int 0, .int 0])), (t0, .inr (4, [.ref u0, .ref u1, .ref u2, .ref u3, .ref u4, .int 0, .int 0, .int 0, .int 1]))] H := hP
  have hD : va_D A [(h0, .inr (6, [.ref b0, .ref b1, .ref s0, .ref b3, .int 0, .int 0, .int 0, .int 0])), (b1, .inr (2, [.ref g0, .ref g1, .ref g2, .int 0])), (w0, .inr (5, [.ref r0, .ref t0, .ref y0, .ref y1])), (s0, .inr (3, [.ref r0, .ref t0, .ref w0, .ref l0, .ref k0, .ref v0, .ref v1, .ref v2, .int 0, .int 0, .int 0, .int 0])), (t0, .inr (4, [.ref u0, .ref u1, .ref u2, .ref u3, .ref u4, .int 0, .int 0, .int 0, .int 1]))] := hD
  refine W.widen (k := 0) (n := 0) (by decide) (by decide) ?_
  have hw9 : r_1 = 1 := hw9
  subst hw9
  refine lv_if_eq (tgt := 34) hx hb d_Cs_solve_20 (by decide) (fun c_20 => absurd c_20 (by decide)) (fun c_20 => ?_)
  refine lv_aload_n hx hb d_Cs_solve_23 rfl (lv_at hl 0 rfl) ?_
  have hPc := hP.sub (ws' := [(h0, .inr (6, [.ref b0, .ref b1, .ref s0, .ref b3, .int 0, .int 0, .int 0, .int 0])), (b1, .inr (2, [.ref g0, .ref g1, .ref g2, .int 0])), (s0, .inr (3, [.ref r0, .ref t0, .ref w0, .ref l0, .ref k0, .ref v0, .ref v1, .ref v2, .int 0, .int 0, .int 0, .int 0]))]) [0, 1, 3] rfl
  have hDc := hD.sub (ws' := [(h0, .inr (6, [.ref b0, .ref b1, .ref s0, .ref b3, .int 0, .int 0, .int 0, .int 0])), (b1, .inr (2, [.ref g0, .ref g1, .ref g2, .int 0])), (s0, .inr (3, [.ref r0, .ref t0, .ref w0, .ref l0, .ref k0, .ref v0, .ref v1, .ref v2, .int 0, .int 0, .int 0, .int 0]))]) [0, 1, 3] (by decide) rfl
  have hKc := hK.sub (tys' := []) [] rfl
  have hFc := va_free (wc := [(h0, .inr (6, [.ref b0, .ref b1, .ref s0, .ref b3, .int 0, .int 0, .int 0, .int 0])), (b1, .inr (2, [.ref g0, .ref g1, .ref g2, .int 0])), (s0, .inr (3, [.ref r0, .ref t0, .ref w0, .ref l0, .ref k0, .ref v0, .ref v1, .ref v2, .int 0, .int 0, .int 0, .int 0]))]) hD hS hA [0, 1, 3] rfl
  refine va_calli (va_runV (As := []) (rest := [.ref h0]) ⟨hx, hb, hml, hown, hw⟩ (c_Cs_takeWay_0 l dC dI h0 b0 b1 s0 b3 g0 g1 g2 r0 t0 w0 l0 k0 v0 v1 v2 H.size) (cb_V (C := R_Cs) 0 hw k_428 k_29 k_425 k_427 k_15 rfl rfl (by decide +kernel) ⟨Nat.le_of_ble_eq_true rfl, Nat.le_of_ble_eq_true rfl⟩) ⟨fun a U g mk q => by obtain ⟨q0, q1, qP, qK, qD⟩ := q; exact ⟨q0, q1, qP, va_K.moved (u := U) (U := U.calling g mk a) (Vm.Alike.refl U.vm) qK, qD⟩, va_recv hKc hPc (ci := 6) (q0 := 0) rfl rfl, fun U hU hW => ⟨rfl, by rw [hU], by rw [hU]; exact hPc, va_K.moved hW.alike hKc, hDc.weaken (fun _ _ _ _ => trivial)⟩⟩ rfl rfl hl.1 rfl (lv_room (Nat.le_of_ble_eq_true rfl)) d_Cs_solve_24 ⟨Nat.le_of_ble_eq_true rfl, Nat.le_of_ble_eq_true rfl⟩) hS (fun q _ h => hFc q h) hFc (fun r_2 u t H1 locs ht hvm hw9 hB hz1 hk1 hS => ?_)
  obtain ⟨hP1, hK1, hD1⟩ := hB
  rw [ht] at hP1
  have hK1 := va_K.moved hvm.symm hK1
  obtain ⟨hP, hD⟩ := va_join (wr := [(w0, .inr (5, [.ref r0, .ref t0, .ref y0, .ref y1])), (t0, .inr (4, [.ref u0, .ref u1, .ref u2, .ref u3, .ref u4, .int 0, .int 0, .int 0, .int 1]))]) (w1 := [(s0, .inr (3, [.ref r0, .ref t0, .ref w0, .ref l0, .ref k0, .ref v0, .ref v1, .ref v2, .int 0, .int 0, .int 0, .int 0])), (h0, .inr (6, [.ref b0, .ref b1, .ref s0, .ref b3, .int 0, .int 0, .int 0, .int 0])), (b1, .inr (2, [.ref g0, .ref g1, .ref g2, .int 0]))]) hP hD [0, 1, 3] [2, 4] rfl rfl (by decide) (by decide) hk1 hFc hP1 hD1
  generalize H1 = H at hP hS ⊢
  have hP : va_P (dC, dI) vwCl [(w0, .inr (5, [.ref r0, .ref t0, .ref y0, .ref y1])), (t0, .inr (4, [.ref u0, .ref u1, .ref u2, .ref u3, .ref u4, .int 0, .int 0, .int 0, .int 1])), (s0, .inr (3, [.ref r0, .ref t0, .ref w0, .ref l0, .ref k0, .ref v0, .ref v1, .ref v2, .int 0, .int 0, .int 0, .int 0])), (h0, .inr (6, [.ref b0, .ref b1, .ref s0, .ref b3, .int 0, .int 0, .int 0, .int 0])), (b1, .inr (2, [.ref g0, .ref g1, .ref g2, .int 0]))] H := hP
  have hD : va_D A [(w0, .inr (5, [.ref r0, .ref t0, .ref y0, .ref y1])), (t0, .inr (4, [.ref u0, .ref u1, .ref u2, .ref u3, .ref u4, .int 0, .int 0, .int 0, .int 1])), (s0, .inr (3, [.ref r0, .ref t0, .ref w0, .ref l0, .ref k0, .ref v0, .ref v1, .ref v2, .int 0, .int 0, .int 0, .int 0])), (h0, .inr (6, [.ref b0, .ref b1, .ref s0, .ref b3, .int 0, .int 0, .int 0, .int 0])), (b1, .inr (2, [.ref g0, .ref g1, .ref g2, .int 0]))] := hD
  refine W.widen (k := 0) (n := 0) (by decide) (by decide) ?_
  have hw9 : r_2 = 1 := hw9
  subst hw9
  refine lv_if_eq (tgt := 34) hx hb d_Cs_solve_27 (by decide) (fun c_27 => absurd c_27 (by decide)) (fun c_27 => ?_)
  refine lv_iconst (v := 1) hx hb d_Cs_solve_30 (by decide) ?_
  refine lv_goto (tgt := 35) hx hb d_Cs_solve_31 (by decide) ?_
  refine va_put (D := (dC, dI)) (ci := 6) (v := .int 1) (ty := .boolean) (C := R_Cs) (T := F_Cs) (N := 8) hx hb hw in_Cs t_Cs t_Cs_ok n_Cs hown hK hP hD hS 3 rfl rfl 6 (by decide) (hw (Cond.fieldLink "ClauseSearch" 52 "ClauseSearch" "wayStands" "Z") k_261) (fun _ h9 => h9) rfl (by decide +kernel) rfl rfl (Nat.le_of_ble_eq_true rfl) d_Cs_solve_35 (fun H locs hP hD hS => ?_)
  have hP : va_P (dC, dI) vwCl [(w0, .inr (5, [.ref r0, .ref t0, .ref y0, .ref y1])), (t0, .inr (4, [.ref u0, .ref u1, .ref u2, .ref u3, .ref u4, .int 0, .int 0, .int 0, .int 1])), (s0, .inr (3, [.ref r0, .ref t0, .ref w0, .ref l0, .ref k0, .ref v0, .ref v1, .ref v2, .int 0, .int 0, .int 0, .int 0])), (h0, .inr (6, [.ref b0, .ref b1, .ref s0, .ref b3, .int 0, .int 0, .int 1, .int 0])), (b1, .inr (2, [.ref g0, .ref g1, .ref g2, .int 0]))] H := hP
  have hD : va_D A [(w0, .inr (5, [.ref r0, .ref t0, .ref y0, .ref y1])), (t0, .inr (4, [.ref u0, .ref u1, .ref u2, .ref u3, .ref u4, .int 0, .int 0, .int 0, .int 1])), (s0, .inr (3, [.ref r0, .ref t0, .ref w0, .ref l0, .ref k0, .ref v0, .ref v1, .ref v2, .int 0, .int 0, .int 0, .int 0])), (h0, .inr (6, [.ref b0, .ref b1, .ref s0, .ref b3, .int 0, .int 0, .int 1, .int 0])), (b1, .inr (2, [.ref g0, .ref g1, .ref g2, .int 0]))] := hD
  refine lv_aload_n hx hb d_Cs_solve_38 rfl (lv_at hl 0 rfl) ?_
  refine lv_iconst (v := 0) hx hb d_Cs_solve_39 (by decide) ?_
  refine va_put (D := (dC, dI)) (ci := 6) (v := .int 0) (ty := .int) (C := R_Cs) (T := F_Cs) (N := 8) hx hb hw in_Cs t_Cs t_Cs_ok n_Cs hown hK hP hD hS 3 rfl rfl 4 (by decide) (hw (Cond.fieldLink "ClauseSearch" 58 "ClauseSearch" "rowSize" "I") k_259) (fun _ h9 => h9) rfl (by decide +kernel) rfl rfl (Nat.le_of_ble_eq_true rfl) d_Cs_solve_40 (fun H locs hP hD hS => ?_)
  have hP : va_P (dC, dI) vwCl [(w0, .inr (5, [.ref r0, .ref t0, .ref y0, .ref y1])), (t0, .inr (4, [.ref u0, .ref u1, .ref u2, .ref u3, .ref u4, .int 0, .int 0, .int 0, .int 1])), (s0, .inr (3, [.ref r0, .ref t0, .ref w0, .ref l0, .ref k0, .ref v0, .ref v1, .ref v2, .int 0, .int 0, .int 0, .int 0])), (h0, .inr (6, [.ref b0, .ref b1, .ref s0, .ref b3, .int 0, .int 0, .int 1, .int 0])), (b1, .inr (2, [.ref g0, .ref g1, .ref g2, .int 0]))] H := hP
  have hD : va_D A [(w0, .inr (5, [.ref r0, .ref t0, .ref y0, .ref y1])), (t0, .inr (4, [.ref u0, .ref u1, .ref u2, .ref u3, .ref u4, .int 0, .int 0, .int 0, .int 1])), (s0, .inr (3, [.ref r0, .ref t0, .ref w0, .ref l0, .ref k0, .ref v0, .ref v1, .ref v2, .int 0, .int 0, .int 0, .int 0])), (h0, .inr (6, [.ref b0, .ref b1, .ref s0, .ref b3, .int 0, .int 0, .int 1, .int 0])), (b1, .inr (2, [.ref g0, .ref g1, .ref g2, .int 0]))] := hD
  refine lv_aload_n hx hb d_Cs_solve_43 rfl (lv_at hl 0 rfl) ?_
  refine va_get (D := (dC, dI)) (ci := 6) (v := .int 1) (C := R_Cs) (T := F_Cs) (N := 8) hx hb hw in_Cs hown hK hP 3 rfl rfl 6 (by decide) (hw (Cond.fieldLink "ClauseSearch" 52 "ClauseSearch" "wayStands" "Z") k_261) (fun _ h9 => h9) rfl d_Cs_solve_44 ?_
  refine W.widen (k := 0) (n := 0) (by decide) (by decide) ?_
  exact W.zret (v := 1) hx hb hr rfl (fun t ht hW => ⟨⟨1, (), rfl, rfl, by rw [ht]; exact hP, va_K.moved hW.alike hK, hD⟩, hS.F ht⟩) hS.2.2 d_Cs_solve_47

set_option maxHeartbeats 4000000 in
set_option maxRecDepth 100000 in
/-- count(what) of a new object -/
theorem c_Cs_count_0 (l : Launch) (dC : Nat → ClassId) (dI : Nat → Nat → Nat) (h0 : Nat) (b0 : Nat) (b1 : Nat) (s0 : Nat) (b3 : Nat) (g0 : Nat) (g1 : Nat) (g2 : Nat) (r0 : Nat) (t0 : Nat) (w0 : Nat) (l0 : Nat) (k0 : Nat) (v0 : Nat) (v1 : Nat) (v2 : Nat) (sz : Nat) (p0 : Int32) (h1 : ¬ p0.toInt < 0) (h2 : ¬ 5 < p0.toInt) : Met l y_Cs_count (wq y_Cs_count prog_1_method_7_code 2 (some .int)) ({ frames := 0, cells := 0, slots := 0, locals := 0 }) (va_Pc [.ref h0, .int p0] (fun U => U.heap.size = sz ∧ va_P (dC, dI) vwCl [(h0, .inr (6, [.ref b0, .ref b1, .ref s0, .ref b3, .int 0, .int 0, .int 0, .int 0])), (b1, .inr (2, [.ref g0, .ref g1, .ref g2, .int 0])), (s0, .inr (3, [.ref r0, .ref t0, .ref w0, .ref l0, .ref k0, .ref v0, .ref v1, .ref v2, .int 0, .int 0, .int 0, .int 0]))] U.heap ∧ va_K (dC, dI) vwCl [] U ∧ va_D (fun _ => True) [(h0, .inr (6, [.ref b0, .ref b1, .ref s0, .ref b3, .int 0, .int 0, .int 0, .int 0])), (b1, .inr (2, [.ref g0, .ref g1, .ref g2, .int 0])), (s0, .inr (3, [.ref r0, .ref t0, .ref w0, .ref l0, .ref k0, .ref v0, .ref v1, .ref v2, .int 0, .int 0, .int 0, .int 0]))])) (va_Qi (fun (r : Int32) (_ : Unit) => r = 0) (fun (_ : Unit) t => va_P (dC, dI) vwCl [(h0, .inr (6, [.ref b0, .ref b1, .ref s0, .ref b3, .int 0, .int 0, .int 0, .int 0])), (b1, .inr (2, [.ref g0, .ref g1, .ref g2, .int 0])), (s0, .inr (3, [.ref r0, .ref t0, .ref w0, .ref l0, .ref k0, .ref v0, .ref v1, .ref v2, .int 0, .int 0, .int 0, .int 0]))] t.heap ∧ va_K (dC, dI) vwCl [] t ∧ va_D (va_A [(h0, .inr (6, [.ref b0, .ref b1, .ref s0, .ref b3, .int 0, .int 0, .int 0, .int 0])), (b1, .inr (2, [.ref g0, .ref g1, .ref g2, .int 0])), (s0, .inr (3, [.ref r0, .ref t0, .ref w0, .ref l0, .ref k0, .ref v0, .ref v1, .ref v2, .int 0, .int 0, .int 0, .int 0]))] sz) [(h0, .inr (6, [.ref b0, .ref b1, .ref s0, .ref b3, .int 0, .int 0, .int 0, .int 0])), (b1, .inr (2, [.ref g0, .ref g1, .ref g2, .int 0])), (s0, .inr (3, [.ref r0, .ref t0, .ref w0, .ref l0, .ref k0, .ref v0, .ref v1, .ref v2, .int 0, .int 0, .int 0, .int 0]))]) (va_A [(h0, .inr (6, [.ref b0, .ref b1, .ref s0, .ref b3, .int 0, .int 0, .int 0, .int 0])), (b1, .inr (2, [.ref g0, .ref g1, .ref g2, .int 0])), (s0, .inr (3, [.ref r0, .ref t0, .ref w0, .ref l0, .ref k0, .ref v0, .ref v1, .ref v2, .int 0, .int 0, .int 0, .int 0]))] sz)) 0 0 (va_A [(h0, .inr (6, [.ref b0, .ref b1, .ref s0, .ref b3, .int 0, .int 0, .int 0, .int 0])), (b1, .inr (2, [.ref g0, .ref g1, .ref g2, .int 0])), (s0, .inr (3, [.ref r0, .ref t0, .ref w0, .ref l0, .ref k0, .ref v0, .ref v1, .ref v2, .int 0, .int 0, .int 0, .int 0]))] sz) := by
  refine Met.ofW (cc := prog_1_method_7_code) (maxL := 2) (ret := (some .int)) (by decide) rfl ?_
  intro p e s m args below meth c s₁ B hml hv
  obtain ⟨rfl, hsz, hP, hK, hD0⟩ := hv
  have hx := B.exec
  have hb := B.bytes
  have hr := B.returns
  have hw : ∀ w ∈ bg_W, w.before #[Value.ref h0, Value.int p0] s = true := fun w h => atoms_spec (ws := (wq y_Cs_count prog_1_method_7_code 2 (some .int))) B.pre w (List.mem_cons_of_mem _ h)
  have hown : s.vm.findClass R_Cs = some m.cls := findClass_of_methodNamed B.named
  have hlocks := B.notSynchronized
  subst hsz
  have hD := hD0.self (sz := s.heap.size)
  generalize hAe : va_A [(h0, .inr (6, [.ref b0, .ref b1, .ref s0, .ref b3, .int 0, .int 0, .int 0, .int 0])), (b1, .inr (2, [.ref g0, .ref g1, .ref g2, .int 0])), (s0, .inr (3, [.ref r0, .ref t0, .ref w0, .ref l0, .ref k0, .ref v0, .ref v1, .ref v2, .int 0, .int 0, .int 0, .int 0]))] s.heap.size = A at hD ⊢
  have hA : ∀ q : Nat, s.heap.size ≤ q → A q := fun q h => by rw [← hAe]; exact Or.inr h
  have hS : va_S A s.heap s.heap [] := va_S.rf
  have hP : va_P (dC, dI) vwCl [(h0, .inr (6, [.ref b0, .ref b1, .ref s0, .ref b3, .int 0, .int 0, .int 0, .int 0])), (b1, .inr (2, [.ref g0, .ref g1, .ref g2, .int 0])), (s0, .inr (3, [.ref r0, .ref t0, .ref w0, .ref l0, .ref k0, .ref v0, .ref v1, .ref v2, .int 0, .int 0, .int 0, .int 0]))] s.heap := hP
  have hl := lv_entry ([.ref h0, .int p0]) (n := 2) (Nat.le_of_ble_eq_true rfl)
  rw [lg_entry_eq]
  generalize (lg_sl ([.ref h0, .int p0]) ++ List.replicate (2 - (lg_sl ([.ref h0, .int p0])).length) Slot.unset).toArray = ls at hl ⊢
  have hl : lv_has ls 2 [(0, .ref h0), (1, .int p0)] := hl
  obtain ⟨H, hH⟩ : ∃ H : Heap, H = s.heap := ⟨_, rfl⟩
  rw [← hH] at hP
  have hS : va_S A s.heap H [] := by rw [hH]; exact va_S.rf
  show W p l e _ s m _ below meth c s.heap [] 0 0 _ _
  rw [← hH]
  refine lv_iload_n hx hb d_Cs_count_0 rfl (lv_at hl 1 rfl) ?_
  obtain rfl | rfl | rfl | rfl | rfl | rfl := sw_6 h1 h2
  · refine lv_tableIn (tgt := 40) hx hb d_Cs_count_1 (by decide) (by decide) (off := 39) (by decide) (by decide) ?_
    refine lv_aload_n hx hb d_Cs_count_40 rfl (lv_at hl 0 rfl) ?_
    refine va_get (D := (dC, dI)) (ci := 6) (v := .int 0) (C := R_Cs) (T := F_Cs) (N := 8) hx hb hw in_Cs hown hK hP 0 rfl rfl 5 (by decide) (hw (Cond.fieldLink "ClauseSearch" 43 "ClauseSearch" "variableCount" "I") k_260) (fun _ h9 => h9) rfl d_Cs_count_41 ?_
    refine W.widen (k := 0) (n := 0) (by decide) (by decide) ?_
    exact W.iret (v := 0) hx hb hr (fun t ht hW => ⟨⟨0, (), rfl, rfl, by rw [ht]; exact hP, va_K.moved hW.alike hK, hD⟩, hS.F ht⟩) hS.2.2 d_Cs_count_44
  · refine lv_tableIn (tgt := 45) hx hb d_Cs_count_1 (by decide) (by decide) (off := 44) (by decide) (by decide) ?_
    refine lv_aload_n hx hb d_Cs_count_45 rfl (lv_at hl 0 rfl) ?_
    refine va_get (D := (dC, dI)) (ci := 6) (v := .ref b1) (C := R_Cs) (T := F_Cs) (N := 8) hx hb hw in_Cs hown hK hP 0 rfl rfl 1 (by decide) (hw (Cond.fieldLink "ClauseSearch" 16 "ClauseSearch" "clauses" "LClauseSearch$Rows;") k_256) (fun _ h9 => h9) rfl d_Cs_count_46 ?_
    refine va_getN (D := (dC, dI)) (ci := 2) (v := .int 0) (C := R_Rw) (T := F_Rw) (N := 4) hx hb hw in_Rw hown hK hP 1 rfl rfl 3 (by decide) (hw (Cond.fieldLinkNest "ClauseSearch" 68 "ClauseSearch$Rows" "size" "I" "ClauseSearch") k_76) (fun _ h9 => h9) rfl d_Cs_count_49 ?_
    refine W.widen (k := 0) (n := 0) (by decide) (by decide) ?_
    exact W.iret (v := 0) hx hb hr (fun t ht hW => ⟨⟨0, (), rfl, rfl, by rw [ht]; exact hP, va_K.moved hW.alike hK, hD⟩, hS.F ht⟩) hS.2.2 d_Cs_count_52
  · refine lv_tableIn (tgt := 53) hx hb d_Cs_count_1 (by decide) (by decide) (off := 52) (by decide) (by decide) ?_
    refine lv_aload_n hx hb d_Cs_count_53 rfl (lv_at hl 0 rfl) ?_
    refine va_get (D := (dC, dI)) (ci := 6) (v := .int 0) (C := R_Cs) (T := F_Cs) (N := 8) hx hb hw in_Cs hown hK hP 0 rfl rfl 4 (by decide) (hw (Cond.fieldLink "ClauseSearch" 58 "ClauseSearch" "rowSize" "I") k_259) (fun _ h9 => h9) rfl d_Cs_count_54 ?_
    refine W.widen (k := 0) (n := 0) (by decide) (by decide) ?_
    exact W.iret (v := 0) hx hb hr (fun t ht hW => ⟨⟨0, (), rfl, rfl, by rw [ht]; exact hP, va_K.moved hW.alike hK, hD⟩, hS.F ht⟩) hS.2.2 d_Cs_count_57
  · refine lv_tableIn (tgt := 58) hx hb d_Cs_count_1 (by decide) (by decide) (off := 57) (by decide) (by decide) ?_
    refine lv_aload_n hx hb d_Cs_count_58 rfl (lv_at hl 0 rfl) ?_
    refine va_get (D := (dC, dI)) (ci := 6) (v := .int 0) (C := R_Cs) (T := F_Cs) (N := 8) hx hb hw in_Cs hown hK hP 0 rfl rfl 6 (by decide) (hw (Cond.fieldLink "ClauseSearch" 52 "ClauseSearch" "wayStands" "Z") k_261) (fun _ h9 => h9) rfl d_Cs_count_59 ?_
    refine lv_if_eq (tgt := 69) hx hb d_Cs_count_62 (by decide) (fun c_62 => ?_) (fun c_62 => absurd c_62 (by decide))
    refine lv_iconst (v := 0) hx hb d_Cs_count_69 (by decide) ?_
    refine W.widen (k := 0) (n := 0) (by decide) (by decide) ?_
    exact W.iret (v := 0) hx hb hr (fun t ht hW => ⟨⟨0, (), rfl, rfl, by rw [ht]; exact hP, va_K.moved hW.alike hK, hD⟩, hS.F ht⟩) hS.2.2 d_Cs_count_70
  · refine lv_tableIn (tgt := 71) hx hb d_Cs_count_1 (by decide) (by decide) (off := 70) (by decide) (by decide) ?_
    refine lv_aload_n hx hb d_Cs_count_71 rfl (lv_at hl 0 rfl) ?_
    refine va_get (D := (dC, dI)) (ci := 6) (v := .ref s0) (C := R_Cs) (T := F_Cs) (N := 8) hx hb hw in_Cs hown hK hP 0 rfl rfl 2 (by decide) (hw (Cond.fieldLink "ClauseSearch" 28 "ClauseSearch" "search" "LClauseSearch$Search;") k_257) (fun _ h9 => h9) rfl d_Cs_count_72 ?_
    refine va_getN (D := (dC, dI)) (ci := 3) (v := .int 0) (C := R_Sr) (T := F_Sr) (N := 12) hx hb hw in_Sr hown hK hP 2 rfl rfl 10 (by decide) (hw (Cond.fieldLinkNest "ClauseSearch" 93 "ClauseSearch$Search" "badLessons" "I" "ClauseSearch") k_227) (fun _ h9 => h9) rfl d_Cs_count_75 ?_
    refine W.widen (k := 0) (n := 0) (by decide) (by decide) ?_
    exact W.iret (v := 0) hx hb hr (fun t ht hW => ⟨⟨0, (), rfl, rfl, by rw [ht]; exact hP, va_K.moved hW.alike hK, hD⟩, hS.F ht⟩) hS.2.2 d_Cs_count_78
  · refine lv_tableIn (tgt := 79) hx hb d_Cs_count_1 (by decide) (by decide) (off := 78) (by decide) (by decide) ?_
    refine lv_aload_n hx hb d_Cs_count_79 rfl (lv_at hl 0 rfl) ?_
    refine va_get (D := (dC, dI)) (ci := 6) (v := .int 0) (C := R_Cs) (T := F_Cs) (N := 8) hx hb hw in_Cs hown hK hP 0 rfl rfl 7 (by decide) (hw (Cond.fieldLink "ClauseSearch" 96 "ClauseSearch" "badWays" "I") k_262) (fun _ h9 => h9) rfl d_Cs_count_80 ?_
    refine W.widen (k := 0) (n := 0) (by decide) (by decide) ?_
    exact W.iret (v := 0) hx hb hr (fun t ht hW => ⟨⟨0, (), rfl, rfl, by rw [ht]; exact hP, va_K.moved hW.alike hK, hD⟩, hS.F ht⟩) hS.2.2 d_Cs_count_83
