abbrev y_Rw_init : MethodName := ⟨"ClauseSearch$Rows", "<init>", "()V"⟩
abbrev y_Tr_init : MethodName := ⟨"ClauseSearch$Trail", "<init>", "()V"⟩
abbrev y_Wt_init : MethodName := ⟨"ClauseSearch$Watch", "<init>", "(LClauseSearch$Rows;LClauseSearch$Trail;)V"⟩
abbrev y_Ls_init : MethodName := ⟨"ClauseSearch$Lesson", "<init>", "(LClauseSearch$Rows;LClauseSearch$Trail;)V"⟩
abbrev y_Ck_init : MethodName := ⟨"ClauseSearch$Check", "<init>", "(LClauseSearch$Rows;)V"⟩
theorem k_52 : (Cond.instanceMethod ⟨"java/lang/Object", "<init>", "()V"⟩) ∈ bg_W := bg_in 52 (by decide +kernel) (by decide +kernel)
theorem k_53 : (Cond.code ⟨"java/lang/Object", "<init>", "()V"⟩ object_method_1_code 1 none) ∈ bg_W := bg_in 53 (by decide +kernel) (by decide +kernel)
theorem k_59 : (Cond.methodLink "ClauseSearch$Rows" 1 ⟨"java/lang/Object", "<init>", "()V"⟩) ∈ bg_W := bg_in 59 (by decide +kernel) (by decide +kernel)
theorem k_91 : (Cond.instantiable "ClauseSearch$Trail" 9) ∈ bg_W := bg_in 91 (by decide +kernel) (by decide +kernel)
theorem k_93 : (Cond.instanceMethod ⟨"ClauseSearch$Trail", "<init>", "()V"⟩) ∈ bg_W := bg_in 93 (by decide +kernel) (by decide +kernel)
theorem k_94 : (Cond.code ⟨"ClauseSearch$Trail", "<init>", "()V"⟩ prog_6_method_1_code 1 none) ∈ bg_W := bg_in 94 (by decide +kernel) (by decide +kernel)
theorem k_95 : (Cond.methodLink "ClauseSearch$Trail" 3 ⟨"java/lang/Object", "<init>", "()V"⟩) ∈ bg_W := bg_in 95 (by decide +kernel) (by decide +kernel)
theorem k_137 : (Cond.arrayClass .byte) ∈ bg_W := bg_in 137 (by decide +kernel) (by decide +kernel)
theorem k_147 : (Cond.methodLink "ClauseSearch$Watch" 3 ⟨"java/lang/Object", "<init>", "()V"⟩) ∈ bg_W := bg_in 147 (by decide +kernel) (by decide +kernel)
theorem k_169 : (Cond.methodLink "ClauseSearch$Lesson" 3 ⟨"java/lang/Object", "<init>", "()V"⟩) ∈ bg_W := bg_in 169 (by decide +kernel) (by decide +kernel)
theorem k_201 : (Cond.arrayClass .boolean) ∈ bg_W := bg_in 201 (by decide +kernel) (by decide +kernel)
theorem k_207 : (Cond.methodLink "ClauseSearch$Check" 3 ⟨"java/lang/Object", "<init>", "()V"⟩) ∈ bg_W := bg_in 207 (by decide +kernel) (by decide +kernel)
theorem k_208 : (Cond.classLink "ClauseSearch$Check" 15 "ClauseSearch$Trail") ∈ bg_W := bg_in 208 (by decide +kernel) (by decide +kernel)
theorem k_209 : (Cond.methodLink "ClauseSearch$Check" 17 ⟨"ClauseSearch$Trail", "<init>", "()V"⟩) ∈ bg_W := bg_in 209 (by decide +kernel) (by decide +kernel)
theorem d_Rw_init_0 : decode prog_4_method_1_code 0 = .ok (.aload_n 0, 1) := by decide +kernel
theorem d_Rw_init_1 : decode prog_4_method_1_code 1 = .ok (.invokespecial 1, 3) := by decide +kernel
theorem d_Rw_init_4 : decode prog_4_method_1_code 4 = .ok (.aload_n 0, 1) := by decide +kernel
theorem d_Rw_init_5 : decode prog_4_method_1_code 5 = .ok (.bipush 64, 2) := by decide +kernel
theorem d_Rw_init_7 : decode prog_4_method_1_code 7 = .ok (.newarray .int, 2) := by decide +kernel
theorem d_Rw_init_9 : decode prog_4_method_1_code 9 = .ok (.putfield 7, 3) := by decide +kernel
theorem d_Rw_init_12 : decode prog_4_method_1_code 12 = .ok (.aload_n 0, 1) := by decide +kernel
theorem d_Rw_init_13 : decode prog_4_method_1_code 13 = .ok (.bipush 64, 2) := by decide +kernel
theorem d_Rw_init_15 : decode prog_4_method_1_code 15 = .ok (.newarray .int, 2) := by decide +kernel
theorem d_Rw_init_17 : decode prog_4_method_1_code 17 = .ok (.putfield 13, 3) := by decide +kernel
theorem d_Rw_init_20 : decode prog_4_method_1_code 20 = .ok (.aload_n 0, 1) := by decide +kernel
theorem d_Rw_init_21 : decode prog_4_method_1_code 21 = .ok (.sipush 256, 3) := by decide +kernel
theorem d_Rw_init_24 : decode prog_4_method_1_code 24 = .ok (.newarray .int, 2) := by decide +kernel
theorem d_Rw_init_26 : decode prog_4_method_1_code 26 = .ok (.putfield 16, 3) := by decide +kernel
theorem d_Rw_init_29 : decode prog_4_method_1_code 29 = .ok (.return_, 1) := by decide +kernel
theorem d_Tr_init_0 : decode prog_6_method_1_code 0 = .ok (.aload_n 0, 1) := by decide +kernel
theorem d_Tr_init_1 : decode prog_6_method_1_code 1 = .ok (.invokespecial 3, 3) := by decide +kernel
theorem d_Tr_init_4 : decode prog_6_method_1_code 4 = .ok (.aload_n 0, 1) := by decide +kernel
theorem d_Tr_init_5 : decode prog_6_method_1_code 5 = .ok (.sipush 802, 3) := by decide +kernel
theorem d_Tr_init_8 : decode prog_6_method_1_code 8 = .ok (.newarray .byte, 2) := by decide +kernel
theorem d_Tr_init_10 : decode prog_6_method_1_code 10 = .ok (.putfield 9, 3) := by decide +kernel
theorem d_Tr_init_13 : decode prog_6_method_1_code 13 = .ok (.aload_n 0, 1) := by decide +kernel
theorem d_Tr_init_14 : decode prog_6_method_1_code 14 = .ok (.sipush 401, 3) := by decide +kernel
theorem d_Tr_init_17 : decode prog_6_method_1_code 17 = .ok (.newarray .int, 2) := by decide +kernel
theorem d_Tr_init_19 : decode prog_6_method_1_code 19 = .ok (.putfield 15, 3) := by decide +kernel
theorem d_Tr_init_22 : decode prog_6_method_1_code 22 = .ok (.aload_n 0, 1) := by decide +kernel
theorem d_Tr_init_23 : decode prog_6_method_1_code 23 = .ok (.sipush 401, 3) := by decide +kernel
theorem d_Tr_init_26 : decode prog_6_method_1_code 26 = .ok (.newarray .int, 2) := by decide +kernel
theorem d_Tr_init_28 : decode prog_6_method_1_code 28 = .ok (.putfield 19, 3) := by decide +kernel
theorem d_Tr_init_31 : decode prog_6_method_1_code 31 = .ok (.aload_n 0, 1) := by decide +kernel
theorem d_Tr_init_32 : decode prog_6_method_1_code 32 = .ok (.sipush 401, 3) := by decide +kernel
theorem d_Tr_init_35 : decode prog_6_method_1_code 35 = .ok (.newarray .int, 2) := by decide +kernel
theorem d_Tr_init_37 : decode prog_6_method_1_code 37 = .ok (.putfield 22, 3) := by decide +kernel
theorem d_Tr_init_40 : decode prog_6_method_1_code 40 = .ok (.aload_n 0, 1) := by decide +kernel
theorem d_Tr_init_41 : decode prog_6_method_1_code 41 = .ok (.sipush 402, 3) := by decide +kernel
theorem d_Tr_init_44 : decode prog_6_method_1_code 44 = .ok (.newarray .int, 2) := by decide +kernel
theorem d_Tr_init_46 : decode prog_6_method_1_code 46 = .ok (.putfield 25, 3) := by decide +kernel
theorem d_Tr_init_49 : decode prog_6_method_1_code 49 = .ok (.aload_n 0, 1) := by decide +kernel
theorem d_Tr_init_50 : decode prog_6_method_1_code 50 = .ok (.iconst 1, 1) := by decide +kernel
theorem d_Tr_init_51 : decode prog_6_method_1_code 51 = .ok (.putfield 28, 3) := by decide +kernel
theorem d_Tr_init_54 : decode prog_6_method_1_code 54 = .ok (.return_, 1) := by decide +kernel
theorem d_Wt_init_0 : decode prog_7_method_1_code 0 = .ok (.aload_n 0, 1) := by decide +kernel
theorem d_Wt_init_1 : decode prog_7_method_1_code 1 = .ok (.invokespecial 3, 3) := by decide +kernel
theorem d_Wt_init_4 : decode prog_7_method_1_code 4 = .ok (.aload_n 0, 1) := by decide +kernel
theorem d_Wt_init_5 : decode prog_7_method_1_code 5 = .ok (.aload_n 1, 1) := by decide +kernel
theorem d_Wt_init_6 : decode prog_7_method_1_code 6 = .ok (.putfield 9, 3) := by decide +kernel
theorem d_Wt_init_9 : decode prog_7_method_1_code 9 = .ok (.aload_n 0, 1) := by decide +kernel
theorem d_Wt_init_10 : decode prog_7_method_1_code 10 = .ok (.aload_n 2, 1) := by decide +kernel
theorem d_Wt_init_11 : decode prog_7_method_1_code 11 = .ok (.putfield 15, 3) := by decide +kernel
theorem d_Wt_init_14 : decode prog_7_method_1_code 14 = .ok (.aload_n 0, 1) := by decide +kernel
theorem d_Wt_init_15 : decode prog_7_method_1_code 15 = .ok (.sipush 802, 3) := by decide +kernel
theorem d_Wt_init_18 : decode prog_7_method_1_code 18 = .ok (.newarray .int, 2) := by decide +kernel
theorem d_Wt_init_20 : decode prog_7_method_1_code 20 = .ok (.putfield 19, 3) := by decide +kernel
theorem d_Wt_init_23 : decode prog_7_method_1_code 23 = .ok (.aload_n 0, 1) := by decide +kernel
theorem d_Wt_init_24 : decode prog_7_method_1_code 24 = .ok (.sipush 128, 3) := by decide +kernel
theorem d_Wt_init_27 : decode prog_7_method_1_code 27 = .ok (.newarray .int, 2) := by decide +kernel
theorem d_Wt_init_29 : decode prog_7_method_1_code 29 = .ok (.putfield 23, 3) := by decide +kernel
theorem d_Wt_init_32 : decode prog_7_method_1_code 32 = .ok (.aload_n 0, 1) := by decide +kernel
theorem d_Wt_init_33 : decode prog_7_method_1_code 33 = .ok (.getfield 19, 3) := by decide +kernel
theorem d_Wt_init_36 : decode prog_7_method_1_code 36 = .ok (.iconst (-1), 1) := by decide +kernel
theorem d_Wt_init_37 : decode prog_7_method_1_code 37 = .ok (.invokestatic 26, 3) := by decide +kernel
theorem d_Wt_init_40 : decode prog_7_method_1_code 40 = .ok (.return_, 1) := by decide +kernel
theorem d_Ls_init_0 : decode prog_3_method_1_code 0 = .ok (.aload_n 0, 1) := by decide +kernel
theorem d_Ls_init_1 : decode prog_3_method_1_code 1 = .ok (.invokespecial 3, 3) := by decide +kernel
theorem d_Ls_init_4 : decode prog_3_method_1_code 4 = .ok (.aload_n 0, 1) := by decide +kernel
theorem d_Ls_init_5 : decode prog_3_method_1_code 5 = .ok (.aload_n 1, 1) := by decide +kernel
theorem d_Ls_init_6 : decode prog_3_method_1_code 6 = .ok (.putfield 9, 3) := by decide +kernel
theorem d_Ls_init_9 : decode prog_3_method_1_code 9 = .ok (.aload_n 0, 1) := by decide +kernel
theorem d_Ls_init_10 : decode prog_3_method_1_code 10 = .ok (.aload_n 2, 1) := by decide +kernel
theorem d_Ls_init_11 : decode prog_3_method_1_code 11 = .ok (.putfield 15, 3) := by decide +kernel
theorem d_Ls_init_14 : decode prog_3_method_1_code 14 = .ok (.aload_n 0, 1) := by decide +kernel
theorem d_Ls_init_15 : decode prog_3_method_1_code 15 = .ok (.sipush 401, 3) := by decide +kernel
theorem d_Ls_init_18 : decode prog_3_method_1_code 18 = .ok (.newarray .boolean, 2) := by decide +kernel
theorem d_Ls_init_20 : decode prog_3_method_1_code 20 = .ok (.putfield 19, 3) := by decide +kernel
theorem d_Ls_init_23 : decode prog_3_method_1_code 23 = .ok (.aload_n 0, 1) := by decide +kernel
theorem d_Ls_init_24 : decode prog_3_method_1_code 24 = .ok (.sipush 401, 3) := by decide +kernel
theorem d_Ls_init_27 : decode prog_3_method_1_code 27 = .ok (.newarray .int, 2) := by decide +kernel
theorem d_Ls_init_29 : decode prog_3_method_1_code 29 = .ok (.putfield 23, 3) := by decide +kernel
theorem d_Ls_init_32 : decode prog_3_method_1_code 32 = .ok (.aload_n 0, 1) := by decide +kernel
theorem d_Ls_init_33 : decode prog_3_method_1_code 33 = .ok (.sipush 401, 3) := by decide +kernel
theorem d_Ls_init_36 : decode prog_3_method_1_code 36 = .ok (.newarray .int, 2) := by decide +kernel
theorem d_Ls_init_38 : decode prog_3_method_1_code 38 = .ok (.putfield 27, 3) := by decide +kernel
theorem d_Ls_init_41 : decode prog_3_method_1_code 41 = .ok (.return_, 1) := by decide +kernel
theorem d_Ck_init_0 : decode prog_2_method_1_code 0 = .ok (.aload_n 0, 1) := by decide +kernel
theorem d_Ck_init_1 : decode prog_2_method_1_code 1 = .ok (.invokespecial 3, 3) := by decide +kernel
theorem d_Ck_init_4 : decode prog_2_method_1_code 4 = .ok (.aload_n 0, 1) := by decide +kernel
theorem d_Ck_init_5 : decode prog_2_method_1_code 5 = .ok (.aload_n 1, 1) := by decide +kernel
theorem d_Ck_init_6 : decode prog_2_method_1_code 6 = .ok (.putfield 9, 3) := by decide +kernel
theorem d_Ck_init_9 : decode prog_2_method_1_code 9 = .ok (.aload_n 0, 1) := by decide +kernel
theorem d_Ck_init_10 : decode prog_2_method_1_code 10 = .ok (.new 15, 3) := by decide +kernel
theorem d_Ck_init_13 : decode prog_2_method_1_code 13 = .ok (.dup, 1) := by decide +kernel
theorem d_Ck_init_14 : decode prog_2_method_1_code 14 = .ok (.invokespecial 17, 3) := by decide +kernel
theorem d_Ck_init_17 : decode prog_2_method_1_code 17 = .ok (.putfield 18, 3) := by decide +kernel
theorem d_Ck_init_20 : decode prog_2_method_1_code 20 = .ok (.return_, 1) := by decide +kernel
set_option maxHeartbeats 4000000 in
set_option maxRecDepth 100000 in
/-- Rows(): three arrays -/
theorem c_Rw_init (l : Launch) (dC : Nat → ClassId) (dI : Nat → Nat → Nat) (h0 : Nat) (sz : Nat) : Met l y_Rw_init (wq y_Rw_init prog_4_method_1_code 1 none) ({ frames := 1, cells := 3, slots := 384, locals := 12 }) (va_Pc [.ref h0] (fun U => U.heap.size = sz ∧ va_P (dC, dI) vwCl [(h0, .inr (2, [.null, .null, .null, .int 0]))] U.heap ∧ va_K (dC, dI) vwCl [] U ∧ va_D (fun _ => True) [(h0, .inr (2, [.null, .null, .null, .int 0]))])) (va_Qv (fun _ : Unit => True) (fun (_ : Unit) t => ∃ (q_1 : Nat) (z_2 : ClassId) (q_3 : Nat) (z_4 : ClassId) (q_5 : Nat) (z_6 : ClassId), va_P (dC, dI) vwCl [(h0, .inr (2, [.ref q_1, .ref q_3, .ref q_5, .int 0])), (q_1, .inl (z_2, 64, .inl (fun _ => 0))), (q_3, .inl (z_4, 64, .inl (fun _ => 0))), (q_5, .inl (z_6, 256, .inl (fun _ => 0)))] t.heap ∧ va_K (dC, dI) vwCl [(z_2, .int), (z_4, .int), (z_6, .int)] t ∧ va_D (va_A [(h0, .inr (2, [.null, .null, .null, .int 0]))] sz) [(h0, .inr (2, [.ref q_1, .ref q_3, .ref q_5, .int 0])), (q_1, .inl (z_2, 64, .inl (fun _ => 0))), (q_3, .inl (z_4, 64, .inl (fun _ => 0))), (q_5, .inl (z_6, 256, .inl (fun _ => 0)))]) (va_A [(h0, .inr (2, [.null, .null, .null, .int 0]))] sz)) 3 384 (va_A [(h0, .inr (2, [.null, .null, .null, .int 0]))] sz) := by
  refine Met.ofW (cc := prog_4_method_1_code) (maxL := 1) (ret := none) (by decide) rfl ?_
  intro p e s m args below meth c s₁ B hml hv
  obtain ⟨rfl, hsz, hP, hK, hD0⟩ := hv
  have hx := B.exec
  have hb := B.bytes
  have hr := B.returns
  have hw : ∀ w ∈ bg_W, w.before #[Value.ref h0] s = true := fun w h => atoms_spec (ws := (wq y_Rw_init prog_4_method_1_code 1 none)) B.pre w (List.mem_cons_of_mem _ h)
  have hown : s.vm.findClass R_Rw = some m.cls := findClass_of_methodNamed B.named
  have hlocks := B.notSynchronized
  have hin : meth.name = "<init>" := (name_of_methodNamed B.named B.method).1
  subst hsz
  have hD := hD0.self (sz := s.heap.size)
  generalize hAe : va_A [(h0, .inr (2, [.null, .null, .null, .int 0]))] s.heap.size = A at hD ⊢
  have hA : ∀ q : Nat, s.heap.size ≤ q → A q := fun q h => by rw [← hAe]; exact Or.inr h
  have hS : va_S A s.heap s.heap [] := va_S.rf
  have hP : va_P (dC, dI) vwCl [(h0, .inr (2, [.null, .null, .null, .int 0]))] s.heap := hP
  have hl := lv_entry ([.ref h0]) (n := 1) (Nat.le_of_ble_eq_true rfl)
  rw [lg_entry_eq]
  generalize (lg_sl ([.ref h0]) ++ List.replicate (1 - (lg_sl ([.ref h0])).length) Slot.unset).toArray = ls at hl ⊢
  have hl : lv_has ls 1 [(0, .ref h0)] := hl
  obtain ⟨H, hH⟩ : ∃ H : Heap, H = s.heap := ⟨_, rfl⟩
  rw [← hH] at hP
  have hS : va_S A s.heap H [] := by rw [hH]; exact va_S.rf
  show W p l e _ s m _ below meth c s.heap [] 0 0 _ _
  rw [← hH]
  refine lv_aload_n hx hb d_Rw_init_0 rfl (lv_at hl 0 rfl) ?_
  refine W.objInit hx hb hown (hw (Cond.methodLink "ClauseSearch$Rows" 1 ⟨"java/lang/Object", "<init>", "()V"⟩) k_59) (hw (Cond.instanceMethod ⟨"java/lang/Object", "<init>", "()V"⟩) k_52) (hw (Cond.code ⟨"java/lang/Object", "<init>", "()V"⟩ object_method_1_code 1 none) k_53) rfl (by rw [hml]; exact hl.1) rfl d_Rw_init_1 (Nat.le_of_ble_eq_true rfl) (Nat.le_of_ble_eq_true rfl) ?_
  refine W.eq (g2 := F0 m 4 ls []) rfl ?_
  refine lv_aload_n hx hb d_Rw_init_4 rfl (lv_at hl 0 rfl) ?_
  refine lv_bipush (v := 64) hx hb d_Rw_init_5 (by decide) ?_
  refine va_newa (atype := .int) hx hb (hw (Cond.arrayClass .int) k_87) (ty := .int) rfl hK hP hD hS hA (n := 64) (N' := 64) (a0 := (64, .inl (fun _ => 0))) (fun _ => rfl) (by decide) (by decide) (by decide) (Nat.le_of_ble_eq_true rfl) (Nat.le_of_ble_eq_true rfl) d_Rw_init_7 (fun q_1 z_2 H hK hP hD hS => ?_)
  have hP : va_P (dC, dI) vwCl [(h0, .inr (2, [.null, .null, .null, .int 0])), (q_1, .inl (z_2, 64, .inl (fun _ => 0)))] H := hP
  have hD : va_D A [(h0, .inr (2, [.null, .null, .null, .int 0])), (q_1, .inl (z_2, 64, .inl (fun _ => 0)))] := hD
  have hK : va_K (dC, dI) vwCl [(z_2, .int)] s := hK
  refine W.widen (k := 1) (n := 64) (by decide) (by decide) ?_
  refine va_put (D := (dC, dI)) (ci := 2) (v := .ref q_1) (ty := .array .int) (C := R_Rw) (T := F_Rw) (N := 4) hx hb hw in_Rw t_Rw t_Rw_ok n_Rw hown hK hP hD hS 0 rfl rfl 0 (by decide) (hw (Cond.fieldLink "ClauseSearch$Rows" 7 "ClauseSearch$Rows" "start" "[I") k_60) (fun _ h9 => h9) rfl (by decide +kernel) rfl rfl (Nat.le_of_ble_eq_true rfl) d_Rw_init_9 (fun H locs hP hD hS => ?_)
  have hP : va_P (dC, dI) vwCl [(h0, .inr (2, [.ref q_1, .null, .null, .int 0])), (q_1, .inl (z_2, 64, .inl (fun _ => 0)))] H := hP
  have hD : va_D A [(h0, .inr (2, [.ref q_1, .null, .null, .int 0])), (q_1, .inl (z_2, 64, .inl (fun _ => 0)))] := hD
  refine lv_aload_n hx hb d_Rw_init_12 rfl (lv_at hl 0 rfl) ?_
  refine lv_bipush (v := 64) hx hb d_Rw_init_13 (by decide) ?_
  refine va_newa (atype := .int) hx hb (hw (Cond.arrayClass .int) k_87) (ty := .int) rfl hK hP hD hS hA (n := 64) (N' := 64) (a0 := (64, .inl (fun _ => 0))) (fun _ => rfl) (by decide) (by decide) (by decide) (Nat.le_of_ble_eq_true rfl) (Nat.le_of_ble_eq_true rfl) d_Rw_init_15 (fun q_3 z_4 H hK hP hD hS => ?_)
  have hP : va_P (dC, dI) vwCl [(h0, .inr (2, [.ref q_1, .null, .null, .int 0])), (q_1, .inl (z_2, 64, .inl (fun _ => 0))), (q_3, .inl (z_4, 64, .inl (fun _ => 0)))] H := hP
  have hD : va_D A [(h0, .inr (2, [.ref q_1, .null, .null, .int 0])), (q_1, .inl (z_2, 64, .inl (fun _ => 0))), (q_3, .inl (z_4, 64, .inl (fun _ => 0)))] := hD
  have hK : va_K (dC, dI) vwCl [(z_2, .int), (z_4, .int)] s := hK
  refine W.widen (k := 2) (n := 128) (by decide) (by decide) ?_
  refine va_put (D := (dC, dI)) (ci := 2) (v := .ref q_3) (ty := .array .int) (C := R_Rw) (T := F_Rw) (N := 4) hx hb hw in_Rw t_Rw t_Rw_ok n_Rw hown hK hP hD hS 0 rfl rfl 1 (by decide) (hw (Cond.fieldLink "ClauseSearch$Rows" 13 "ClauseSearch$Rows" "kind" "[I") k_66) (fun _ h9 => h9) rfl (by decide +kernel) rfl rfl (Nat.le_of_ble_eq_true rfl) d_Rw_init_17 (fun H locs hP hD hS => ?_)
  have hP : va_P (dC, dI) vwCl [(h0, .inr (2, [.ref q_1, .ref q_3, .null, .int 0])), (q_1, .inl (z_2, 64, .inl (fun _ => 0))), (q_3, .inl (z_4, 64, .inl (fun _ => 0)))] H := hP
  have hD : va_D A [(h0, .inr (2, [.ref q_1, .ref q_3, .null, .int 0])), (q_1, .inl (z_2, 64, .inl (fun _ => 0))), (q_3, .inl (z_4, 64, .inl (fun _ => 0)))] := hD
  refine lv_aload_n hx hb d_Rw_init_20 rfl (lv_at hl 0 rfl) ?_
  refine lv_sipush (v := 256) hx hb d_Rw_init_21 (by decide) ?_
  refine va_newa (atype := .int) hx hb (hw (Cond.arrayClass .int) k_87) (ty := .int) rfl hK hP hD hS hA (n := 256) (N' := 256) (a0 := (256, .inl (fun _ => 0))) (fun _ => rfl) (by decide) (by decide) (by decide) (Nat.le_of_ble_eq_true rfl) (Nat.le_of_ble_eq_true rfl) d_Rw_init_24 (fun q_5 z_6 H hK hP hD hS => ?_)
  have hP : va_P (dC, dI) vwCl [(h0, .inr (2, [.ref q_1, .ref q_3, .null, .int 0])), (q_1, .inl (z_2, 64, .inl (fun _ => 0))), (q_3, .inl (z_4, 64, .inl (fun _ => 0))), (q_5, .inl (z_6, 256, .inl (fun _ => 0)))] H := hP
  have hD : va_D A [(h0, .inr (2, [.ref q_1, .ref q_3, .null, .int 0])), (q_1, .inl (z_2, 64, .inl (fun _ => 0))), (q_3, .inl (z_4, 64, .inl (fun _ => 0))), (q_5, .inl (z_6, 256, .inl (fun _ => 0)))] := hD
  have hK : va_K (dC, dI) vwCl [(z_2, .int), (z_4, .int), (z_6, .int)] s := hK
  refine W.widen (k := 3) (n := 384) (by decide) (by decide) ?_
  refine va_put (D := (dC, dI)) (ci := 2) (v := .ref q_5) (ty := .array .int) (C := R_Rw) (T := F_Rw) (N := 4) hx hb hw in_Rw t_Rw t_Rw_ok n_Rw hown hK hP hD hS 0 rfl rfl 2 (by decide) (hw (Cond.fieldLink "ClauseSearch$Rows" 16 "ClauseSearch$Rows" "codes" "[I") k_68) (fun _ h9 => h9) rfl (by decide +kernel) rfl rfl (Nat.le_of_ble_eq_true rfl) d_Rw_init_26 (fun H locs hP hD hS => ?_)
  have hP : va_P (dC, dI) vwCl [(h0, .inr (2, [.ref q_1, .ref q_3, .ref q_5, .int 0])), (q_1, .inl (z_2, 64, .inl (fun _ => 0))), (q_3, .inl (z_4, 64, .inl (fun _ => 0))), (q_5, .inl (z_6, 256, .inl (fun _ => 0)))] H := hP
  have hD : va_D A [(h0, .inr (2, [.ref q_1, .ref q_3, .ref q_5, .int 0])), (q_1, .inl (z_2, 64, .inl (fun _ => 0))), (q_3, .inl (z_4, 64, .inl (fun _ => 0))), (q_5, .inl (z_6, 256, .inl (fun _ => 0)))] := hD
  refine W.widen (k := 3) (n := 384) (by decide) (by decide) ?_
  exact W.vret hx hb hr (fun t ht hW => ⟨⟨(), rfl, trivial, q_1, z_2, q_3, z_4, q_5, z_6, by rw [ht]; exact hP, va_K.moved hW.alike hK, hD⟩, hS.F ht⟩) hS.2.2 d_Rw_init_29

set_option maxHeartbeats 4000000 in
set_option maxRecDepth 100000 in
/-- Trail(): five arrays, lowest is 1 -/
theorem c_Tr_init (l : Launch) (dC : Nat → ClassId) (dI : Nat → Nat → Nat) (h0 : Nat) (sz : Nat) : Met l y_Tr_init (wq y_Tr_init prog_6_method_1_code 1 none) ({ frames := 1, cells := 5, slots := 2407, locals := 12 }) (va_Pc [.ref h0] (fun U => U.heap.size = sz ∧ va_P (dC, dI) vwCl [(h0, .inr (4, [.null, .null, .null, .null, .null, .int 0, .int 0, .int 0, .int 0]))] U.heap ∧ va_K (dC, dI) vwCl [] U ∧ va_D (fun _ => True) [(h0, .inr (4, [.null, .null, .null, .null, .null, .int 0, .int 0, .int 0, .int 0]))])) (va_Qv (fun _ : Unit => True) (fun (_ : Unit) t => ∃ (q_1 : Nat) (z_2 : ClassId) (q_3 : Nat) (z_4 : ClassId) (q_5 : Nat) (z_6 : ClassId) (q_7 : Nat) (z_8 : ClassId) (q_9 : Nat) (z_10 : ClassId), va_P (dC, dI) vwCl [(h0, .inr (4, [.ref q_1, .ref q_3, .ref q_5, .ref q_7, .ref q_9, .int 0, .int 0, .int 0, .int 1])), (q_1, .inl (z_2, 802, .inl (fun _ => 0))), (q_3, .inl (z_4, 401, .inl (fun _ => 0))), (q_5, .inl (z_6, 401, .inl (fun _ => 0))), (q_7, .inl (z_8, 401, .inl (fun _ => 0))), (q_9, .inl (z_10, 402, .inl (fun _ => 0)))] t.heap ∧ va_K (dC, dI) vwCl [(z_2, .byte), (z_4, .int), (z_6, .int), (z_8, .int), (z_10, .int)] t ∧ va_D (va_A [(h0, .inr (4, [.null, .null, .null, .null, .null, .int 0, .int 0, .int 0, .int 0]))] sz) [(h0, .inr (4, [.ref q_1, .ref q_3, .ref q_5, .ref q_7, .ref q_9, .int 0, .int 0, .int 0, .int 1])), (q_1, .inl (z_2, 802, .inl (fun _ => 0))), (q_3, .inl (z_4, 401, .inl (fun _ => 0))), (q_5, .inl (z_6, 401, .inl (fun _ => 0))), (q_7, .inl (z_8, 401, .inl (fun _ => 0))), (q_9, .inl (z_10, 402, .inl (fun _ => 0)))]) (va_A [(h0, .inr (4, [.null, .null, .null, .null, .null, .int 0, .int 0, .int 0, .int 0]))] sz)) 5 2407 (va_A [(h0, .inr (4, [.null, .null, .null, .null, .null, .int 0, .int 0, .int 0, .int 0]))] sz) := by
  refine Met.ofW (cc := prog_6_method_1_code) (maxL := 1) (ret := none) (by decide) rfl ?_
  intro p e s m args below meth c s₁ B hml hv
  obtain ⟨rfl, hsz, hP, hK, hD0⟩ := hv
  have hx := B.exec
  have hb := B.bytes
  have hr := B.returns
  have hw : ∀ w ∈ bg_W, w.before #[Value.ref h0] s = true := fun w h => atoms_spec (ws := (wq y_Tr_init prog_6_method_1_code 1 none)) B.pre w (List.mem_cons_of_mem _ h)
  have hown : s.vm.findClass R_Tr = some m.cls := findClass_of_methodNamed B.named
  have hlocks := B.notSynchronized
  have hin : meth.name = "<init>" := (name_of_methodNamed B.named B.method).1
  subst hsz
  have hD := hD0.self (sz := s.heap.size)
  generalize hAe : va_A [(h0, .inr (4, [.null, .null, .null, .null, .null, .int 0, .int 0, .int 0, .int 0]))] s.heap.size = A at hD ⊢
  have hA : ∀ q : Nat, s.heap.size ≤ q → A q := fun q h => by rw [← hAe]; exact Or.inr h
  have hS : va_S A s.heap s.heap [] := va_S.rf
  have hP : va_P (dC, dI) vwCl [(h0, .inr (4, [.null, .null, .null, .null, .null, .int 0, .int 0, .int 0, .int 0]))] s.heap := hP
  have hl := lv_entry ([.ref h0]) (n := 1) (Nat.le_of_ble_eq_true rfl)
  rw [lg_entry_eq]
  generalize (lg_sl ([.ref h0]) ++ List.replicate (1 - (lg_sl ([.ref h0])).length) Slot.unset).toArray = ls at hl ⊢
  have hl : lv_has ls 1 [(0, .ref h0)] := hl
  obtain ⟨H, hH⟩ : ∃ H : Heap, H = s.heap := ⟨_, rfl⟩
  rw [← hH] at hP
  have hS : va_S A s.heap H [] := by rw [hH]; exact va_S.rf
  show W p l e _ s m _ below meth c s.heap [] 0 0 _ _
  rw [← hH]
  refine lv_aload_n hx hb d_Tr_init_0 rfl (lv_at hl 0 rfl) ?_
  refine W.objInit hx hb hown (hw (Cond.methodLink "ClauseSearch$Trail" 3 ⟨"java/lang/Object", "<init>", "()V"⟩) k_95) (hw (Cond.instanceMethod ⟨"java/lang/Object", "<init>", "()V"⟩) k_52) (hw (Cond.code ⟨"java/lang/Object", "<init>", "()V"⟩ object_method_1_code 1 none) k_53) rfl (by rw [hml]; exact hl.1) rfl d_Tr_init_1 (Nat.le_of_ble_eq_true rfl) (Nat.le_of_ble_eq_true rfl) ?_
  refine W.eq (g2 := F0 m 4 ls []) rfl ?_
  refine lv_aload_n hx hb d_Tr_init_4 rfl (lv_at hl 0 rfl) ?_
  refine lv_sipush (v := 802) hx hb d_Tr_init_5 (by decide) ?_
  refine va_newa (atype := .byte) hx hb (hw (Cond.arrayClass .byte) k_137) (ty := .byte) rfl hK hP hD hS hA (n := 802) (N' := 802) (a0 := (802, .inl (fun _ => 0))) (fun _ => rfl) (by decide) (by decide) (by decide) (Nat.le_of_ble_eq_true rfl) (Nat.le_of_ble_eq_true rfl) d_Tr_init_8 (fun q_1 z_2 H hK hP hD hS => ?_)
  have hP : va_P (dC, dI) vwCl [(h0, .inr (4, [.null, .null, .null, .null, .null, .int 0, .int 0, .int 0, .int 0])), (q_1, .inl (z_2, 802, .inl (fun _ => 0)))] H := hP
  have hD : va_D A [(h0, .inr (4, [.null, .null, .null, .null, .null, .int 0, .int 0, .int 0, .int 0])), (q_1, .inl (z_2, 802, .inl (fun _ => 0)))] := hD
  have hK : va_K (dC, dI) vwCl [(z_2, .byte)] s := hK
  refine W.widen (k := 1) (n := 802) (by decide) (by decide) ?_
  refine va_putF (D := (dC, dI)) (ci := 4) (v := .ref q_1) (ty := .array .byte) (C := R_Tr) (T := F_Tr) (N := 9) hx hb hw in_Tr t_Tr t_Tr_ok n_Tr hown hK hP hD hS 0 rfl rfl 0 (by decide) (hw (Cond.fieldLink "ClauseSearch$Trail" 9 "ClauseSearch$Trail" "truth" "[B") k_96) (fun _ h9 => h9) rfl hin rfl (by decide +kernel) rfl rfl (Nat.le_of_ble_eq_true rfl) d_Tr_init_10 (fun H locs hP hD hS => ?_)
  have hP : va_P (dC, dI) vwCl [(h0, .inr (4, [.ref q_1, .null, .null, .null, .null, .int 0, .int 0, .int 0, .int 0])), (q_1, .inl (z_2, 802, .inl (fun _ => 0)))] H := hP
  have hD : va_D A [(h0, .inr (4, [.ref q_1, .null, .null, .null, .null, .int 0, .int 0, .int 0, .int 0])), (q_1, .inl (z_2, 802, .inl (fun _ => 0)))] := hD
  refine lv_aload_n hx hb d_Tr_init_13 rfl (lv_at hl 0 rfl) ?_
  refine lv_sipush (v := 401) hx hb d_Tr_init_14 (by decide) ?_
  refine va_newa (atype := .int) hx hb (hw (Cond.arrayClass .int) k_87) (ty := .int) rfl hK hP hD hS hA (n := 401) (N' := 401) (a0 := (401, .inl (fun _ => 0))) (fun _ => rfl) (by decide) (by decide) (by decide) (Nat.le_of_ble_eq_true rfl) (Nat.le_of_ble_eq_true rfl) d_Tr_init_17 (fun q_3 z_4 H hK hP hD hS => ?_)
  have hP : va_P (dC, dI) vwCl [(h0, .inr (4, [.ref q_1, .null, .null, .null, .null, .int 0, .int 0, .int 0, .int 0])), (q_1, .inl (z_2, 802, .inl (fun _ => 0))), (q_3, .inl (z_4, 401, .inl (fun _ => 0)))] H := hP
  have hD : va_D A [(h0, .inr (4, [.ref q_1, .null, .null, .null, .null, .int 0, .int 0, .int 0, .int 0])), (q_1, .inl (z_2, 802, .inl (fun _ => 0))), (q_3, .inl (z_4, 401, .inl (fun _ => 0)))] := hD
  have hK : va_K (dC, dI) vwCl [(z_2, .byte), (z_4, .int)] s := hK
  refine W.widen (k := 2) (n := 1203) (by decide) (by decide) ?_
  refine va_putF (D := (dC, dI)) (ci := 4) (v := .ref q_3) (ty := .array .int) (C := R_Tr) (T := F_Tr) (N := 9) hx hb hw in_Tr t_Tr t_Tr_ok n_Tr hown hK hP hD hS 0 rfl rfl 1 (by decide) (hw (Cond.fieldLink "ClauseSearch$Trail" 15 "ClauseSearch$Trail" "order" "[I") k_100) (fun _ h9 => h9) rfl hin rfl (by decide +kernel) rfl rfl (Nat.le_of_ble_eq_true rfl) d_Tr_init_19 (fun H locs hP hD hS => ?_)
  have hP : va_P (dC, dI) vwCl [(h0, .inr (4, [.ref q_1, .ref q_3, .null, .null, .null, .int 0, .int 0, .int 0, .int 0])), (q_1, .inl (z_2, 802, .inl (fun _ => 0))), (q_3, .inl (z_4, 401, .inl (fun _ => 0)))] H := hP
  have hD : va_D A [(h0, .inr (4, [.ref q_1, .ref q_3, .null, .null, .null, .int 0, .int 0, .int 0, .int 0])), (q_1, .inl (z_2, 802, .inl (fun _ => 0))), (q_3, .inl (z_4, 401, .inl (fun _ => 0)))] := hD
  refine lv_aload_n hx hb d_Tr_init_22 rfl (lv_at hl 0 rfl) ?_
  refine lv_sipush (v := 401) hx hb d_Tr_init_23 (by decide) ?_
  refine va_newa (atype := .int) hx hb (hw (Cond.arrayClass .int) k_87) (ty := .int) rfl hK hP hD hS hA (n := 401) (N' := 401) (a0 := (401, .inl (fun _ => 0))) (fun _ => rfl) (by decide) (by decide) (by decide) (Nat.le_of_ble_eq_true rfl) (Nat.le_of_ble_eq_true rfl) d_Tr_init_26 (fun q_5 z_6 H hK hP hD hS => ?_)
  have hP : va_P (dC, dI) vwCl [(h0, .inr (4, [.ref q_1, .ref q_3, .null, .null, .null, .int 0, .int 0, .int 0, .int 0])), (q_1, .inl (z_2, 802, .inl (fun _ => 0))), (q_3, .inl (z_4, 401, .inl (fun _ => 0))), (q_5, .inl (z_6, 401, .inl (fun _ => 0)))] H := hP
  have hD : va_D A [(h0, .inr (4, [.ref q_1, .ref q_3, .null, .null, .null, .int 0, .int 0, .int 0, .int 0])), (q_1, .inl (z_2, 802, .inl (fun _ => 0))), (q_3, .inl (z_4, 401, .inl (fun _ => 0))), (q_5, .inl (z_6, 401, .inl (fun _ => 0)))] := hD
  have hK : va_K (dC, dI) vwCl [(z_2, .byte), (z_4, .int), (z_6, .int)] s := hK
  refine W.widen (k := 3) (n := 1604) (by decide) (by decide) ?_
  refine va_putF (D := (dC, dI)) (ci := 4) (v := .ref q_5) (ty := .array .int) (C := R_Tr) (T := F_Tr) (N := 9) hx hb hw in_Tr t_Tr t_Tr_ok n_Tr hown hK hP hD hS 0 rfl rfl 2 (by decide) (hw (Cond.fieldLink "ClauseSearch$Trail" 19 "ClauseSearch$Trail" "levelOf" "[I") k_103) (fun _ h9 => h9) rfl hin rfl (by decide +kernel) rfl rfl (Nat.le_of_ble_eq_true rfl) d_Tr_init_28 (fun H locs hP hD hS => ?_)
  have hP : va_P (dC, dI) vwCl [(h0, .inr (4, [.ref q_1, .ref q_3, .ref q_5, .null, .null, .int 0, .int 0, .int 0, .int 0])), (q_1, .inl (z_2, 802, .inl (fun _ => 0))), (q_3, .inl (z_4, 401, .inl (fun _ => 0))), (q_5, .inl (z_6, 401, .inl (fun _ => 0)))] H := hP
  have hD : va_D A [(h0, .inr (4, [.ref q_1, .ref q_3, .ref q_5, .null, .null, .int 0, .int 0, .int 0, .int 0])), (q_1, .inl (z_2, 802, .inl (fun _ => 0))), (q_3, .inl (z_4, 401, .inl (fun _ => 0))), (q_5, .inl (z_6, 401, .inl (fun _ => 0)))] := hD
  refine lv_aload_n hx hb d_Tr_init_31 rfl (lv_at hl 0 rfl) ?_
  refine lv_sipush (v := 401) hx hb d_Tr_init_32 (by decide) ?_
  refine va_newa (atype := .int) hx hb (hw (Cond.arrayClass .int) k_87) (ty := .int) rfl hK hP hD hS hA (n := 401) (N' := 401) (a0 := (401, .inl (fun _ => 0))) (fun _ => rfl) (by decide) (by decide) (by decide) (Nat.le_of_ble_eq_true rfl) (Nat.le_of_ble_eq_true rfl) d_Tr_init_35 (fun q_7 z_8 H hK hP hD hS => ?_)
  have hP : va_P (dC, dI) vwCl [(h0, .inr (4, [.ref q_1, .ref q_3, .ref q_5, .null, .null, .int 0, .int 0, .int 0, .int 0])), (q_1, .inl (z_2, 802, .inl (fun _ => 0))), (q_3, .inl (z_4, 401, .inl (fun _ => 0))), (q_5, .inl (z_6, 401, .inl (fun _ => 0))), (q_7, .inl (z_8, 401, .inl (fun _ => 0)))] H := hP
  have hD : va_D A [(h0, .inr (4, [.ref q_1, .ref q_3, .ref q_5, .null, .null, .int 0, .int 0, .int 0, .int 0])), (q_1, .inl (z_2, 802, .inl (fun _ => 0))), (q_3, .inl (z_4, 401, .inl (fun _ => 0))), (q_5, .inl (z_6, 401, .inl (fun _ => 0))), (q_7, .inl (z_8, 401, .inl (fun _ => 0)))] := hD
  have hK : va_K (dC, dI) vwCl [(z_2, .byte), (z_4, .int), (z_6, .int), (z_8, .int)] s := hK
  refine W.widen (k := 4) (n := 2005) (by decide) (by decide) ?_
  refine va_putF (D := (dC, dI)) (ci := 4) (v := .ref q_7) (ty := .array .int) (C := R_Tr) (T := F_Tr) (N := 9) hx hb hw in_Tr t_Tr t_Tr_ok n_Tr hown hK hP hD hS 0 rfl rfl 3 (by decide) (hw (Cond.fieldLink "ClauseSearch$Trail" 22 "ClauseSearch$Trail" "reason" "[I") k_105) (fun _ h9 => h9) rfl hin rfl (by decide +kernel) rfl rfl (Nat.le_of_ble_eq_true rfl) d_Tr_init_37 (fun H locs hP hD hS => ?_)
  have hP : va_P (dC, dI) vwCl [(h0, .inr (4, [.ref q_1, .ref q_3, .ref q_5, .ref q_7, .null, .int 0, .int 0, .int 0, .int 0])), (q_1, .inl (z_2, 802, .inl (fun _ => 0))), (q_3, .inl (z_4, 401, .inl (fun _ => 0))), (q_5, .inl (z_6, 401, .inl (fun _ => 0))), (q_7, .inl (z_8, 401, .inl (fun _ => 0)))] H := hP
  have hD : va_D A [(h0, .inr (4, [.ref q_1, .ref q_3, .ref q_5, .ref q_7, .null, .int 0, .int 0, .int 0, .int 0])), (q_1, .inl (z_2, 802, .inl (fun _ => 0))), (q_3, .inl (z_4, 401, .inl (fun _ => 0))), (q_5, .inl (z_6, 401, .inl (fun _ => 0))), (q_7, .inl (z_8, 401, .inl (fun _ => 0)))] := hD
  refine lv_aload_n hx hb d_Tr_init_40 rfl (lv_at hl 0 rfl) ?_
  refine lv_sipush (v := 402) hx hb d_Tr_init_41 (by decide) ?_
  refine va_newa (atype := .int) hx hb (hw (Cond.arrayClass .int) k_87) (ty := .int) rfl hK hP hD hS hA (n := 402) (N' := 402) (a0 := (402, .inl (fun _ => 0))) (fun _ => rfl) (by decide) (by decide) (by decide) (Nat.le_of_ble_eq_true rfl) (Nat.le_of_ble_eq_true rfl) d_Tr_init_44 (fun q_9 z_10 H hK hP hD hS => ?_)
  have hP : va_P (dC, dI) vwCl [(h0, .inr (4, [.ref q_1, .ref q_3, .ref q_5, .ref q_7, .null, .int 0, .int 0, .int 0, .int 0])), (q_1, .inl (z_2, 802, .inl (fun _ => 0))), (q_3, .inl (z_4, 401, .inl (fun _ => 0))), (q_5, .inl (z_6, 401, .inl (fun _ => 0))), (q_7, .inl (z_8, 401, .inl (fun _ => 0))), (q_9, .inl (z_10, 402, .inl (fun _ => 0)))] H := hP
  have hD : va_D A [(h0, .inr (4, [.ref q_1, .ref q_3, .ref q_5, .ref q_7, .null, .int 0, .int 0, .int 0, .int 0])), (q_1, .inl (z_2, 802, .inl (fun _ => 0))), (q_3, .inl (z_4, 401, .inl (fun _ => 0))), (q_5, .inl (z_6, 401, .inl (fun _ => 0))), (q_7, .inl (z_8, 401, .inl (fun _ => 0))), (q_9, .inl (z_10, 402, .inl (fun _ => 0)))] := hD
  have hK : va_K (dC, dI) vwCl [(z_2, .byte), (z_4, .int), (z_6, .int), (z_8, .int), (z_10, .int)] s := hK
  refine W.widen (k := 5) (n := 2407) (by decide) (by decide) ?_
  refine va_putF (D := (dC, dI)) (ci := 4) (v := .ref q_9) (ty := .array .int) (C := R_Tr) (T := F_Tr) (N := 9) hx hb hw in_Tr t_Tr t_Tr_ok n_Tr hown hK hP hD hS 0 rfl rfl 4 (by decide) (hw (Cond.fieldLink "ClauseSearch$Trail" 25 "ClauseSearch$Trail" "levelStart" "[I") k_108) (fun _ h9 => h9) rfl hin rfl (by decide +kernel) rfl rfl (Nat.le_of_ble_eq_true rfl) d_Tr_init_46 (fun H locs hP hD hS => ?_)
  have hP : va_P (dC, dI) vwCl [(h0, .inr (4, [.ref q_1, .ref q_3, .ref q_5, .ref q_7, .ref q_9, .int 0, .int 0, .int 0, .int 0])), (q_1, .inl (z_2, 802, .inl (fun _ => 0))), (q_3, .inl (z_4, 401, .inl (fun _ => 0))), (q_5, .inl (z_6, 401, .inl (fun _ => 0))), (q_7, .inl (z_8, 401, .inl (fun _ => 0))), (q_9, .inl (z_10, 402, .inl (fun _ => 0)))] H := hP
  have hD : va_D A [(h0, .inr (4, [.ref q_1, .ref q_3, .ref q_5, .ref q_7, .ref q_9, .int 0, .int 0, .int 0, .int 0])), (q_1, .inl (z_2, 802, .inl (fun _ => 0))), (q_3, .inl (z_4, 401, .inl (fun _ => 0))), (q_5, .inl (z_6, 401, .inl (fun _ => 0))), (q_7, .inl (z_8, 401, .inl (fun _ => 0))), (q_9, .inl (z_10, 402, .inl (fun _ => 0)))] := hD
  refine lv_aload_n hx hb d_Tr_init_49 rfl (lv_at hl 0 rfl) ?_
  refine lv_iconst (v := 1) hx hb d_Tr_init_50 (by decide) ?_
  refine va_put (D := (dC, dI)) (ci := 4) (v := .int 1) (ty := .int) (C := R_Tr) (T := F_Tr) (N := 9) hx hb hw in_Tr t_Tr t_Tr_ok n_Tr hown hK hP hD hS 0 rfl rfl 8 (by decide) (hw (Cond.fieldLink "ClauseSearch$Trail" 28 "ClauseSearch$Trail" "lowest" "I") k_117) (fun _ h9 => h9) rfl (by decide +kernel) rfl rfl (Nat.le_of_ble_eq_true rfl) d_Tr_init_51 (fun H locs hP hD hS => ?_)
  have hP : va_P (dC, dI) vwCl [(h0, .inr (4, [.ref q_1, .ref q_3, .ref q_5, .ref q_7, .ref q_9, .int 0, .int 0, .int 0, .int 1])), (q_1, .inl (z_2, 802, .inl (fun _ => 0))), (q_3, .inl (z_4, 401, .inl (fun _ => 0))), (q_5, .inl (z_6, 401, .inl (fun _ => 0))), (q_7, .inl (z_8, 401, .inl (fun _ => 0))), (q_9, .inl (z_10, 402, .inl (fun _ => 0)))] H := hP
  have hD : va_D A [(h0, .inr (4, [.ref q_1, .ref q_3, .ref q_5, .ref q_7, .ref q_9, .int 0, .int 0, .int 0, .int 1])), (q_1, .inl (z_2, 802, .inl (fun _ => 0))), (q_3, .inl (z_4, 401, .inl (fun _ => 0))), (q_5, .inl (z_6, 401, .inl (fun _ => 0))), (q_7, .inl (z_8, 401, .inl (fun _ => 0))), (q_9, .inl (z_10, 402, .inl (fun _ => 0)))] := hD
  refine W.widen (k := 5) (n := 2407) (by decide) (by decide) ?_
  exact W.vret hx hb hr (fun t ht hW => ⟨⟨(), rfl, trivial, q_1, z_2, q_3, z_4, q_5, z_6, q_7, z_8, q_9, z_10, by rw [ht]; exact hP, va_K.moved hW.alike hK, hD⟩, hS.F ht⟩) hS.2.2 d_Tr_init_54

set_option maxHeartbeats 4000000 in
set_option maxRecDepth 100000 in
/-- Watch(rows, trail) -/
theorem c_Wt_init (l : Launch) (dC : Nat → ClassId) (dI : Nat → Nat → Nat) (h0 : Nat) (r0 : Nat) (r1 : Nat) (sz : Nat) : Met l y_Wt_init (wq y_Wt_init prog_7_method_1_code 3 none) ({ frames := 2, cells := 2, slots := 930, locals := 24 }) (va_Pc [.ref h0, .ref r0, .ref r1] (fun U => U.heap.size = sz ∧ va_P (dC, dI) vwCl [(h0, .inr (5, [.null, .null, .null, .null]))] U.heap ∧ va_K (dC, dI) vwCl [] U ∧ va_D (fun _ => True) [(h0, .inr (5, [.null, .null, .null, .null]))])) (va_Qv (fun _ : Unit => True) (fun (_ : Unit) t => ∃ (q_3 : Nat) (z_4 : ClassId) (q_1 : Nat) (z_2 : ClassId) (g_5 : Nat → Int32), (∀ j, j < 802 → g_5 j = -1) ∧ va_P (dC, dI) vwCl [(h0, .inr (5, [.ref r0, .ref r1, .ref q_1, .ref q_3])), (q_3, .inl (z_4, 128, .inl (fun _ => 0))), (q_1, .inl (z_2, 802, .inl g_5))] t.heap ∧ va_K (dC, dI) vwCl [(z_2, .int), (z_4, .int)] t ∧ va_D (va_A [(h0, .inr (5, [.null, .null, .null, .null]))] sz) [(h0, .inr (5, [.ref r0, .ref r1, .ref q_1, .ref q_3])), (q_3, .inl (z_4, 128, .inl (fun _ => 0))), (q_1, .inl (z_2, 802, .inl g_5))]) (va_A [(h0, .inr (5, [.null, .null, .null, .null]))] sz)) 2 930 (va_A [(h0, .inr (5, [.null, .null, .null, .null]))] sz) := by
  refine Met.ofW (cc := prog_7_method_1_code) (maxL := 3) (ret := none) (by decide) rfl ?_
  intro p e s m args below meth c s₁ B hml hv
  obtain ⟨rfl, hsz, hP, hK, hD0⟩ := hv
  have hx := B.exec
  have hb := B.bytes
  have hr := B.returns
  have hw : ∀ w ∈ bg_W, w.before #[Value.ref h0, Value.ref r0, Value.ref r1] s = true := fun w h => atoms_spec (ws := (wq y_Wt_init prog_7_method_1_code 3 none)) B.pre w (List.mem_cons_of_mem _ h)
  have hown : s.vm.findClass R_Wt = some m.cls := findClass_of_methodNamed B.named
  have hlocks := B.notSynchronized
  have hin : meth.name = "<init>" := (name_of_methodNamed B.named B.method).1
  subst hsz
  have hD := hD0.self (sz := s.heap.size)
  generalize hAe : va_A [(h0, .inr (5, [.null, .null, .null, .null]))] s.heap.size = A at hD ⊢
  have hA : ∀ q : Nat, s.heap.size ≤ q → A q := fun q h => by rw [← hAe]; exact Or.inr h
  have hS : va_S A s.heap s.heap [] := va_S.rf
  have hP : va_P (dC, dI) vwCl [(h0, .inr (5, [.null, .null, .null, .null]))] s.heap := hP
  have hl := lv_entry ([.ref h0, .ref r0, .ref r1]) (n := 3) (Nat.le_of_ble_eq_true rfl)
  rw [lg_entry_eq]
  generalize (lg_sl ([.ref h0, .ref r0, .ref r1]) ++ List.replicate (3 - (lg_sl ([.ref h0, .ref r0, .ref r1])).length) Slot.unset).toArray = ls at hl ⊢
  have hl : lv_has ls 3 [(0, .ref h0), (1, .ref r0), (2, .ref r1)] := hl
  obtain ⟨H, hH⟩ : ∃ H : Heap, H = s.heap := ⟨_, rfl⟩
  rw [← hH] at hP
  have hS : va_S A s.heap H [] := by rw [hH]; exact va_S.rf
  show W p l e _ s m _ below meth c s.heap [] 0 0 _ _
  rw [← hH]
  refine lv_aload_n hx hb d_Wt_init_0 rfl (lv_at hl 0 rfl) ?_
  refine W.objInit hx hb hown (hw (Cond.methodLink "ClauseSearch$Watch" 3 ⟨"java/lang/Object", "<init>", "()V"⟩) k_147) (hw (Cond.instanceMethod ⟨"java/lang/Object", "<init>", "()V"⟩) k_52) (hw (Cond.code ⟨"java/lang/Object", "<init>", "()V"⟩ object_method_1_code 1 none) k_53) rfl (by rw [hml]; exact hl.1) rfl d_Wt_init_1 (Nat.le_of_ble_eq_true rfl) (Nat.le_of_ble_eq_true rfl) ?_
  refine W.eq (g2 := F0 m 4 ls []) rfl ?_
  refine lv_aload_n hx hb d_Wt_init_4 rfl (lv_at hl 0 rfl) ?_
  refine lv_aload_n hx hb d_Wt_init_5 rfl (lv_at hl 1 rfl) ?_
  refine va_putF (D := (dC, dI)) (ci := 5) (v := .ref r0) (ty := .object "ClauseSearch$Rows") (C := R_Wt) (T := F_Wt) (N := 4) hx hb hw in_Wt t_Wt t_Wt_ok n_Wt hown hK hP hD hS 0 rfl rfl 0 (by decide) (hw (Cond.fieldLink "ClauseSearch$Watch" 9 "ClauseSearch$Watch" "rows" "LClauseSearch$Rows;") k_151) (fun _ h9 => h9) rfl hin rfl (by decide +kernel) rfl rfl (Nat.le_of_ble_eq_true rfl) d_Wt_init_6 (fun H locs hP hD hS => ?_)
  have hP : va_P (dC, dI) vwCl [(h0, .inr (5, [.ref r0, .null, .null, .null]))] H := hP
  have hD : va_D A [(h0, .inr (5, [.ref r0, .null, .null, .null]))] := hD
  refine lv_aload_n hx hb d_Wt_init_9 rfl (lv_at hl 0 rfl) ?_
  refine lv_aload_n hx hb d_Wt_init_10 rfl (lv_at hl 2 rfl) ?_
  refine va_putF (D := (dC, dI)) (ci := 5) (v := .ref r1) (ty := .object "ClauseSearch$Trail") (C := R_Wt) (T := F_Wt) (N := 4) hx hb hw in_Wt t_Wt t_Wt_ok n_Wt hown hK hP hD hS 0 rfl rfl 1 (by decide) (hw (Cond.fieldLink "ClauseSearch$Watch" 15 "ClauseSearch$Watch" "trail" "LClauseSearch$Trail;") k_152) (fun _ h9 => h9) rfl hin rfl (by decide +kernel) rfl rfl (Nat.le_of_ble_eq_true rfl) d_Wt_init_11 (fun H locs hP hD hS => ?_)
  have hP : va_P (dC, dI) vwCl [(h0, .inr (5, [.ref r0, .ref r1, .null, .null]))] H := hP
  have hD : va_D A [(h0, .inr (5, [.ref r0, .ref r1, .null, .null]))] := hD
  refine lv_aload_n hx hb d_Wt_init_14 rfl (lv_at hl 0 rfl) ?_
  refine lv_sipush (v := 802) hx hb d_Wt_init_15 (by decide) ?_
  refine va_newa (atype := .int) hx hb (hw (Cond.arrayClass .int) k_87) (ty := .int) rfl hK hP hD hS hA (n := 802) (N' := 802) (a0 := (802, .inl (fun _ => 0))) (fun _ => rfl) (by decide) (by decide) (by decide) (Nat.le_of_ble_eq_true rfl) (Nat.le_of_ble_eq_true rfl) d_Wt_init_18 (fun q_1 z_2 H hK hP hD hS => ?_)
  have hP : va_P (dC, dI) vwCl [(h0, .inr (5, [.ref r0, .ref r1, .null, .null])), (q_1, .inl (z_2, 802, .inl (fun _ => 0)))] H := hP
  have hD : va_D A [(h0, .inr (5, [.ref r0, .ref r1, .null, .null])), (q_1, .inl (z_2, 802, .inl (fun _ => 0)))] := hD
  have hK : va_K (dC, dI) vwCl [(z_2, .int)] s := hK
  refine W.widen (k := 1) (n := 802) (by decide) (by decide) ?_
  refine va_putF (D := (dC, dI)) (ci := 5) (v := .ref q_1) (ty := .array .int) (C := R_Wt) (T := F_Wt) (N := 4) hx hb hw in_Wt t_Wt t_Wt_ok n_Wt hown hK hP hD hS 0 rfl rfl 2 (by decide) (hw (Cond.fieldLink "ClauseSearch$Watch" 19 "ClauseSearch$Watch" "head" "[I") k_153) (fun _ h9 => h9) rfl hin rfl (by decide +kernel) rfl rfl (Nat.le_of_ble_eq_true rfl) d_Wt_init_20 (fun H locs hP hD hS => ?_)
  have hP : va_P (dC, dI) vwCl [(h0, .inr (5, [.ref r0, .ref r1, .ref q_1, .null])), (q_1, .inl (z_2, 802, .inl (fun _ => 0)))] H := hP
  have hD : va_D A [(h0, .inr (5, [.ref r0, .ref r1, .ref q_1, .null])), (q_1, .inl (z_2, 802, .inl (fun _ => 0)))] := hD
  refine lv_aload_n hx hb d_Wt_init_23 rfl (lv_at hl 0 rfl) ?_
  refine lv_sipush (v := 128) hx hb d_Wt_init_24 (by decide) ?_
  refine va_newa (atype := .int) hx hb (hw (Cond.arrayClass .int) k_87) (ty := .int) rfl hK hP hD hS hA (n := 128) (N' := 128) (a0 := (128, .inl (fun _ => 0))) (fun _ => rfl) (by decide) (by decide) (by decide) (Nat.le_of_ble_eq_true rfl) (Nat.le_of_ble_eq_true rfl) d_Wt_init_27 (fun q_3 z_4 H hK hP hD hS => ?_)
  have hP : va_P (dC, dI) vwCl [(h0, .inr (5, [.ref r0, .ref r1, .ref q_1, .null])), (q_1, .inl (z_2, 802, .inl (fun _ => 0))), (q_3, .inl (z_4, 128, .inl (fun _ => 0)))] H := hP
  have hD : va_D A [(h0, .inr (5, [.ref r0, .ref r1, .ref q_1, .null])), (q_1, .inl (z_2, 802, .inl (fun _ => 0))), (q_3, .inl (z_4, 128, .inl (fun _ => 0)))] := hD
  have hK : va_K (dC, dI) vwCl [(z_2, .int), (z_4, .int)] s := hK
  refine W.widen (k := 2) (n := 930) (by decide) (by decide) ?_
  refine va_put (D := (dC, dI)) (ci := 5) (v := .ref q_3) (ty := .array .int) (C := R_Wt) (T := F_Wt) (N := 4) hx hb hw in_Wt t_Wt t_Wt_ok n_Wt hown hK hP hD hS 0 rfl rfl 3 (by decide) (hw (Cond.fieldLink "ClauseSearch$Watch" 23 "ClauseSearch$Watch" "next" "[I") k_154) (fun _ h9 => h9) rfl (by decide +kernel) rfl rfl (Nat.le_of_ble_eq_true rfl) d_Wt_init_29 (fun H locs hP hD hS => ?_)
  have hP : va_P (dC, dI) vwCl [(h0, .inr (5, [.ref r0, .ref r1, .ref q_1, .ref q_3])), (q_1, .inl (z_2, 802, .inl (fun _ => 0))), (q_3, .inl (z_4, 128, .inl (fun _ => 0)))] H := hP
  have hD : va_D A [(h0, .inr (5, [.ref r0, .ref r1, .ref q_1, .ref q_3])), (q_1, .inl (z_2, 802, .inl (fun _ => 0))), (q_3, .inl (z_4, 128, .inl (fun _ => 0)))] := hD
  refine lv_aload_n hx hb d_Wt_init_32 rfl (lv_at hl 0 rfl) ?_
  refine va_get (D := (dC, dI)) (ci := 5) (v := .ref q_1) (C := R_Wt) (T := F_Wt) (N := 4) hx hb hw in_Wt hown hK hP 0 rfl rfl 2 (by decide) (hw (Cond.fieldLink "ClauseSearch$Watch" 19 "ClauseSearch$Watch" "head" "[I") k_153) (fun _ h9 => h9) rfl d_Wt_init_33 ?_
  refine lv_iconst (v := (-1)) hx hb d_Wt_init_36 (by decide) ?_
  have hPc := hP.sub (ws' := [(q_1, .inl (z_2, 802, .inl (fun _ => 0)))]) [1] rfl
  have hDc := hD.sub (ws' := [(q_1, .inl (z_2, 802, .inl (fun _ => 0)))]) [1] (by decide) rfl
  have hKc := hK.sub (tys' := [(z_2, .int)]) [0] rfl
  have hFc := va_free (wc := [(q_1, .inl (z_2, 802, .inl (fun _ => 0)))]) hD hS hA [1] rfl
  refine va_callv (va_runS (As := [.ref q_1, .int (-1)]) (rest := []) ⟨hx, hb, hml, hown, hw⟩ (c_Ar_fill l dC dI q_1 z_2 H.size 802 (fun _ => 0) (-1) (by decide)) (cb_S 2 hw k_150 k_34 k_148 k_149 rfl rfl (by decide +kernel) ⟨Nat.le_of_ble_eq_true rfl, Nat.le_of_ble_eq_true rfl⟩) ⟨fun a U g mk q => by obtain ⟨q0, q1, qP, qK, qD⟩ := q; exact ⟨q0, q1, qP, va_K.moved (u := U) (U := U.calling g mk a) (Vm.Alike.refl U.vm) qK, qD⟩, fun U hU hW => ⟨rfl, by rw [hU], by rw [hU]; exact hPc, va_K.moved hW.alike hKc, hDc.weaken (fun _ _ _ _ => trivial)⟩⟩ rfl rfl hl.1 rfl (lv_room (Nat.le_of_ble_eq_true rfl)) d_Wt_init_37 ⟨Nat.le_of_ble_eq_true rfl, Nat.le_of_ble_eq_true rfl⟩) hS (fun q _ h => hFc q h) hFc (fun u t H1 locs ht hvm hw9 hB hz1 hk1 hS => ?_)
  obtain ⟨g_5, f_6, hP1, hK1, hD1⟩ := hB
  rw [ht] at hP1
  have hK1 := va_K.moved hvm.symm hK1
  obtain ⟨hP, hD⟩ := va_join (wr := [(h0, .inr (5, [.ref r0, .ref r1, .ref q_1, .ref q_3])), (q_3, .inl (z_4, 128, .inl (fun _ => 0)))]) (w1 := [(q_1, .inl (z_2, 802, .inl g_5))]) hP hD [1] [0, 2] rfl rfl (by decide) (by decide) hk1 hFc hP1 hD1
  generalize H1 = H at hP hS ⊢
  have hP : va_P (dC, dI) vwCl [(h0, .inr (5, [.ref r0, .ref r1, .ref q_1, .ref q_3])), (q_3, .inl (z_4, 128, .inl (fun _ => 0))), (q_1, .inl (z_2, 802, .inl g_5))] H := hP
  have hD : va_D A [(h0, .inr (5, [.ref r0, .ref r1, .ref q_1, .ref q_3])), (q_3, .inl (z_4, 128, .inl (fun _ => 0))), (q_1, .inl (z_2, 802, .inl g_5))] := hD
  refine W.widen (k := 2) (n := 930) (by decide) (by decide) ?_
  refine W.widen (k := 2) (n := 930) (by decide) (by decide) ?_
  exact W.vret hx hb hr (fun t ht hW => ⟨⟨(), rfl, trivial, q_3, z_4, q_1, z_2, g_5, f_6, by rw [ht]; exact hP, va_K.moved hW.alike hK, hD⟩, hS.F ht⟩) hS.2.2 d_Wt_init_40

set_option maxHeartbeats 4000000 in
set_option maxRecDepth 100000 in
/-- Lesson(rows, trail) -/
theorem c_Ls_init (l : Launch) (dC : Nat → ClassId) (dI : Nat → Nat → Nat) (h0 : Nat) (r0 : Nat) (r1 : Nat) (sz : Nat) : Met l y_Ls_init (wq y_Ls_init prog_3_method_1_code 3 none) ({ frames := 1, cells := 3, slots := 1203, locals := 12 }) (va_Pc [.ref h0, .ref r0, .ref r1] (fun U => U.heap.size = sz ∧ va_P (dC, dI) vwCl [(h0, .inr (1, [.null, .null, .null, .null, .null, .int 0, .int 0, .int 0]))] U.heap ∧ va_K (dC, dI) vwCl [] U ∧ va_D (fun _ => True) [(h0, .inr (1, [.null, .null, .null, .null, .null, .int 0, .int 0, .int 0]))])) (va_Qv (fun _ : Unit => True) (fun (_ : Unit) t => ∃ (q_1 : Nat) (z_2 : ClassId) (q_3 : Nat) (z_4 : ClassId) (q_5 : Nat) (z_6 : ClassId), va_P (dC, dI) vwCl [(h0, .inr (1, [.ref r0, .ref r1, .ref q_1, .ref q_3, .ref q_5, .int 0, .int 0, .int 0])), (q_1, .inl (z_2, 401, .inl (fun _ => 0))), (q_3, .inl (z_4, 401, .inl (fun _ => 0))), (q_5, .inl (z_6, 401, .inl (fun _ => 0)))] t.heap ∧ va_K (dC, dI) vwCl [(z_2, .boolean), (z_4, .int), (z_6, .int)] t ∧ va_D (va_A [(h0, .inr (1, [.null, .null, .null, .null, .null, .int 0, .int 0, .int 0]))] sz) [(h0, .inr (1, [.ref r0, .ref r1, .ref q_1, .ref q_3, .ref q_5, .int 0, .int 0, .int 0])), (q_1, .inl (z_2, 401, .inl (fun _ => 0))), (q_3, .inl (z_4, 401, .inl (fun _ => 0))), (q_5, .inl (z_6, 401, .inl (fun _ => 0)))]) (va_A [(h0, .inr (1, [.null, .null, .null, .null, .null, .int 0, .int 0, .int 0]))] sz)) 3 1203 (va_A [(h0, .inr (1, [.null, .null, .null, .null, .null, .int 0, .int 0, .int 0]))] sz) := by
  refine Met.ofW (cc := prog_3_method_1_code) (maxL := 3) (ret := none) (by decide) rfl ?_
  intro p e s m args below meth c s₁ B hml hv
  obtain ⟨rfl, hsz, hP, hK, hD0⟩ := hv
  have hx := B.exec
  have hb := B.bytes
  have hr := B.returns
  have hw : ∀ w ∈ bg_W, w.before #[Value.ref h0, Value.ref r0, Value.ref r1] s = true := fun w h => atoms_spec (ws := (wq y_Ls_init prog_3_method_1_code 3 none)) B.pre w (List.mem_cons_of_mem _ h)
  have hown : s.vm.findClass R_Ls = some m.cls := findClass_of_methodNamed B.named
  have hlocks := B.notSynchronized
  have hin : meth.name = "<init>" := (name_of_methodNamed B.named B.method).1
  subst hsz
  have hD := hD0.self (sz := s.heap.size)
  generalize hAe : va_A [(h0, .inr (1, [.null, .null, .null, .null, .null, .int 0, .int 0, .int 0]))] s.heap.size = A at hD ⊢
  have hA : ∀ q : Nat, s.heap.size ≤ q → A q := fun q h => by rw [← hAe]; exact Or.inr h
  have hS : va_S A s.heap s.heap [] := va_S.rf
  have hP : va_P (dC, dI) vwCl [(h0, .inr (1, [.null, .null, .null, .null, .null, .int 0, .int 0, .int 0]))] s.heap := hP
  have hl := lv_entry ([.ref h0, .ref r0, .ref r1]) (n := 3) (Nat.le_of_ble_eq_true rfl)
  rw [lg_entry_eq]
  generalize (lg_sl ([.ref h0, .ref r0, .ref r1]) ++ List.replicate (3 - (lg_sl ([.ref h0, .ref r0, .ref r1])).length) Slot.unset).toArray = ls at hl ⊢
  have hl : lv_has ls 3 [(0, .ref h0), (1, .ref r0), (2, .ref r1)] := hl
  obtain ⟨H, hH⟩ : ∃ H : Heap, H = s.heap := ⟨_, rfl⟩
  rw [← hH] at hP
  have hS : va_S A s.heap H [] := by rw [hH]; exact va_S.rf
  show W p l e _ s m _ below meth c s.heap [] 0 0 _ _
  rw [← hH]
  refine lv_aload_n hx hb d_Ls_init_0 rfl (lv_at hl 0 rfl) ?_
  refine W.objInit hx hb hown (hw (Cond.methodLink "ClauseSearch$Lesson" 3 ⟨"java/lang/Object", "<init>", "()V"⟩) k_169) (hw (Cond.instanceMethod ⟨"java/lang/Object", "<init>", "()V"⟩) k_52) (hw (Cond.code ⟨"java/lang/Object", "<init>", "()V"⟩ object_method_1_code 1 none) k_53) rfl (by rw [hml]; exact hl.1) rfl d_Ls_init_1 (Nat.le_of_ble_eq_true rfl) (Nat.le_of_ble_eq_true rfl) ?_
  refine W.eq (g2 := F0 m 4 ls []) rfl ?_
  refine lv_aload_n hx hb d_Ls_init_4 rfl (lv_at hl 0 rfl) ?_
  refine lv_aload_n hx hb d_Ls_init_5 rfl (lv_at hl 1 rfl) ?_
  refine va_putF (D := (dC, dI)) (ci := 1) (v := .ref r0) (ty := .object "ClauseSearch$Rows") (C := R_Ls) (T := F_Ls) (N := 8) hx hb hw in_Ls t_Ls t_Ls_ok n_Ls hown hK hP hD hS 0 rfl rfl 0 (by decide) (hw (Cond.fieldLink "ClauseSearch$Lesson" 9 "ClauseSearch$Lesson" "rows" "LClauseSearch$Rows;") k_170) (fun _ h9 => h9) rfl hin rfl (by decide +kernel) rfl rfl (Nat.le_of_ble_eq_true rfl) d_Ls_init_6 (fun H locs hP hD hS => ?_)
  have hP : va_P (dC, dI) vwCl [(h0, .inr (1, [.ref r0, .null, .null, .null, .null, .int 0, .int 0, .int 0]))] H := hP
  have hD : va_D A [(h0, .inr (1, [.ref r0, .null, .null, .null, .null, .int 0, .int 0, .int 0]))] := hD
  refine lv_aload_n hx hb d_Ls_init_9 rfl (lv_at hl 0 rfl) ?_
  refine lv_aload_n hx hb d_Ls_init_10 rfl (lv_at hl 2 rfl) ?_
  refine va_putF (D := (dC, dI)) (ci := 1) (v := .ref r1) (ty := .object "ClauseSearch$Trail") (C := R_Ls) (T := F_Ls) (N := 8) hx hb hw in_Ls t_Ls t_Ls_ok n_Ls hown hK hP hD hS 0 rfl rfl 1 (by decide) (hw (Cond.fieldLink "ClauseSearch$Lesson" 15 "ClauseSearch$Lesson" "trail" "LClauseSearch$Trail;") k_171) (fun _ h9 => h9) rfl hin rfl (by decide +kernel) rfl rfl (Nat.le_of_ble_eq_true rfl) d_Ls_init_11 (fun H locs hP hD hS => ?_)
  have hP : va_P (dC, dI) vwCl [(h0, .inr (1, [.ref r0, .ref r1, .null, .null, .null, .int 0, .int 0, .int 0]))] H := hP
  have hD : va_D A [(h0, .inr (1, [.ref r0, .ref r1, .null, .null, .null, .int 0, .int 0, .int 0]))] := hD
  refine lv_aload_n hx hb d_Ls_init_14 rfl (lv_at hl 0 rfl) ?_
  refine lv_sipush (v := 401) hx hb d_Ls_init_15 (by decide) ?_
  refine va_newa (atype := .boolean) hx hb (hw (Cond.arrayClass .boolean) k_201) (ty := .boolean) rfl hK hP hD hS hA (n := 401) (N' := 401) (a0 := (401, .inl (fun _ => 0))) (fun _ => rfl) (by decide) (by decide) (by decide) (Nat.le_of_ble_eq_true rfl) (Nat.le_of_ble_eq_true rfl) d_Ls_init_18 (fun q_1 z_2 H hK hP hD hS => ?_)
  have hP : va_P (dC, dI) vwCl [(h0, .inr (1, [.ref r0, .ref r1, .null, .null, .null, .int 0, .int 0, .int 0])), (q_1, .inl (z_2, 401, .inl (fun _ => 0)))] H := hP
  have hD : va_D A [(h0, .inr (1, [.ref r0, .ref r1, .null, .null, .null, .int 0, .int 0, .int 0])), (q_1, .inl (z_2, 401, .inl (fun _ => 0)))] := hD
  have hK : va_K (dC, dI) vwCl [(z_2, .boolean)] s := hK
  refine W.widen (k := 1) (n := 401) (by decide) (by decide) ?_
  refine va_putF (D := (dC, dI)) (ci := 1) (v := .ref q_1) (ty := .array .boolean) (C := R_Ls) (T := F_Ls) (N := 8) hx hb hw in_Ls t_Ls t_Ls_ok n_Ls hown hK hP hD hS 0 rfl rfl 2 (by decide) (hw (Cond.fieldLink "ClauseSearch$Lesson" 19 "ClauseSearch$Lesson" "seen" "[Z") k_172) (fun _ h9 => h9) rfl hin rfl (by decide +kernel) rfl rfl (Nat.le_of_ble_eq_true rfl) d_Ls_init_20 (fun H locs hP hD hS => ?_)
  have hP : va_P (dC, dI) vwCl [(h0, .inr (1, [.ref r0, .ref r1, .ref q_1, .null, .null, .int 0, .int 0, .int 0])), (q_1, .inl (z_2, 401, .inl (fun _ => 0)))] H := hP
  have hD : va_D A [(h0, .inr (1, [.ref r0, .ref r1, .ref q_1, .null, .null, .int 0, .int 0, .int 0])), (q_1, .inl (z_2, 401, .inl (fun _ => 0)))] := hD
  refine lv_aload_n hx hb d_Ls_init_23 rfl (lv_at hl 0 rfl) ?_
  refine lv_sipush (v := 401) hx hb d_Ls_init_24 (by decide) ?_
  refine va_newa (atype := .int) hx hb (hw (Cond.arrayClass .int) k_87) (ty := .int) rfl hK hP hD hS hA (n := 401) (N' := 401) (a0 := (401, .inl (fun _ => 0))) (fun _ => rfl) (by decide) (by decide) (by decide) (Nat.le_of_ble_eq_true rfl) (Nat.le_of_ble_eq_true rfl) d_Ls_init_27 (fun q_3 z_4 H hK hP hD hS => ?_)
  have hP : va_P (dC, dI) vwCl [(h0, .inr (1, [.ref r0, .ref r1, .ref q_1, .null, .null, .int 0, .int 0, .int 0])), (q_1, .inl (z_2, 401, .inl (fun _ => 0))), (q_3, .inl (z_4, 401, .inl (fun _ => 0)))] H := hP
  have hD : va_D A [(h0, .inr (1, [.ref r0, .ref r1, .ref q_1, .null, .null, .int 0, .int 0, .int 0])), (q_1, .inl (z_2, 401, .inl (fun _ => 0))), (q_3, .inl (z_4, 401, .inl (fun _ => 0)))] := hD
  have hK : va_K (dC, dI) vwCl [(z_2, .boolean), (z_4, .int)] s := hK
  refine W.widen (k := 2) (n := 802) (by decide) (by decide) ?_
  refine va_putF (D := (dC, dI)) (ci := 1) (v := .ref q_3) (ty := .array .int) (C := R_Ls) (T := F_Ls) (N := 8) hx hb hw in_Ls t_Ls t_Ls_ok n_Ls hown hK hP hD hS 0 rfl rfl 3 (by decide) (hw (Cond.fieldLink "ClauseSearch$Lesson" 23 "ClauseSearch$Lesson" "codes" "[I") k_173) (fun _ h9 => h9) rfl hin rfl (by decide +kernel) rfl rfl (Nat.le_of_ble_eq_true rfl) d_Ls_init_29 (fun H locs hP hD hS => ?_)
  have hP : va_P (dC, dI) vwCl [(h0, .inr (1, [.ref r0, .ref r1, .ref q_1, .ref q_3, .null, .int 0, .int 0, .int 0])), (q_1, .inl (z_2, 401, .inl (fun _ => 0))), (q_3, .inl (z_4, 401, .inl (fun _ => 0)))] H := hP
  have hD : va_D A [(h0, .inr (1, [.ref r0, .ref r1, .ref q_1, .ref q_3, .null, .int 0, .int 0, .int 0])), (q_1, .inl (z_2, 401, .inl (fun _ => 0))), (q_3, .inl (z_4, 401, .inl (fun _ => 0)))] := hD
  refine lv_aload_n hx hb d_Ls_init_32 rfl (lv_at hl 0 rfl) ?_
  refine lv_sipush (v := 401) hx hb d_Ls_init_33 (by decide) ?_
  refine va_newa (atype := .int) hx hb (hw (Cond.arrayClass .int) k_87) (ty := .int) rfl hK hP hD hS hA (n := 401) (N' := 401) (a0 := (401, .inl (fun _ => 0))) (fun _ => rfl) (by decide) (by decide) (by decide) (Nat.le_of_ble_eq_true rfl) (Nat.le_of_ble_eq_true rfl) d_Ls_init_36 (fun q_5 z_6 H hK hP hD hS => ?_)
  have hP : va_P (dC, dI) vwCl [(h0, .inr (1, [.ref r0, .ref r1, .ref q_1, .ref q_3, .null, .int 0, .int 0, .int 0])), (q_1, .inl (z_2, 401, .inl (fun _ => 0))), (q_3, .inl (z_4, 401, .inl (fun _ => 0))), (q_5, .inl (z_6, 401, .inl (fun _ => 0)))] H := hP
  have hD : va_D A [(h0, .inr (1, [.ref r0, .ref r1, .ref q_1, .ref q_3, .null, .int 0, .int 0, .int 0])), (q_1, .inl (z_2, 401, .inl (fun _ => 0))), (q_3, .inl (z_4, 401, .inl (fun _ => 0))), (q_5, .inl (z_6, 401, .inl (fun _ => 0)))] := hD
  have hK : va_K (dC, dI) vwCl [(z_2, .boolean), (z_4, .int), (z_6, .int)] s := hK
  refine W.widen (k := 3) (n := 1203) (by decide) (by decide) ?_
  refine va_putF (D := (dC, dI)) (ci := 1) (v := .ref q_5) (ty := .array .int) (C := R_Ls) (T := F_Ls) (N := 8) hx hb hw in_Ls t_Ls t_Ls_ok n_Ls hown hK hP hD hS 0 rfl rfl 4 (by decide) (hw (Cond.fieldLink "ClauseSearch$Lesson" 27 "ClauseSearch$Lesson" "used" "[I") k_176) (fun _ h9 => h9) rfl hin rfl (by decide +kernel) rfl rfl (Nat.le_of_ble_eq_true rfl) d_Ls_init_38 (fun H locs hP hD hS => ?_)
  have hP : va_P (dC, dI) vwCl [(h0, .inr (1, [.ref r0, .ref r1, .ref q_1, .ref q_3, .ref q_5, .int 0, .int 0, .int 0])), (q_1, .inl (z_2, 401, .inl (fun _ => 0))), (q_3, .inl (z_4, 401, .inl (fun _ => 0))), (q_5, .inl (z_6, 401, .inl (fun _ => 0)))] H := hP
  have hD : va_D A [(h0, .inr (1, [.ref r0, .ref r1, .ref q_1, .ref q_3, .ref q_5, .int 0, .int 0, .int 0])), (q_1, .inl (z_2, 401, .inl (fun _ => 0))), (q_3, .inl (z_4, 401, .inl (fun _ => 0))), (q_5, .inl (z_6, 401, .inl (fun _ => 0)))] := hD
  refine W.widen (k := 3) (n := 1203) (by decide) (by decide) ?_
  exact W.vret hx hb hr (fun t ht hW => ⟨⟨(), rfl, trivial, q_1, z_2, q_3, z_4, q_5, z_6, by rw [ht]; exact hP, va_K.moved hW.alike hK, hD⟩, hS.F ht⟩) hS.2.2 d_Ls_init_41

set_option maxHeartbeats 4000000 in
set_option maxRecDepth 100000 in
/-- Check(rows) -/
theorem c_Ck_init (l : Launch) (dC : Nat → ClassId) (dI : Nat → Nat → Nat) (h0 : Nat) (r0 : Nat) (sz : Nat) : Met l y_Ck_init (wq y_Ck_init prog_2_method_1_code 2 none) ({ frames := 2, cells := 6, slots := 2416, locals := 32 }) (va_Pc [.ref h0, .ref r0] (fun U => U.heap.size = sz ∧ va_P (dC, dI) vwCl [(h0, .inr (0, [.null, .null]))] U.heap ∧ va_K (dC, dI) vwCl [] U ∧ va_D (fun _ => True) [(h0, .inr (0, [.null, .null]))])) (va_Qv (fun _ : Unit => True) (fun (_ : Unit) t => ∃ (q_1 : Nat) (q_2 : Nat) (z_3 : ClassId) (q_4 : Nat) (z_5 : ClassId) (q_6 : Nat) (z_7 : ClassId) (q_8 : Nat) (z_9 : ClassId) (q_10 : Nat) (z_11 : ClassId), va_P (dC, dI) vwCl [(h0, .inr (0, [.ref r0, .ref q_1])), (q_1, .inr (4, [.ref q_2, .ref q_4, .ref q_6, .ref q_8, .ref q_10, .int 0, .int 0, .int 0, .int 1])), (q_2, .inl (z_3, 802, .inl (fun _ => 0))), (q_4, .inl (z_5, 401, .inl (fun _ => 0))), (q_6, .inl (z_7, 401, .inl (fun _ => 0))), (q_8, .inl (z_9, 401, .inl (fun _ => 0))), (q_10, .inl (z_11, 402, .inl (fun _ => 0)))] t.heap ∧ va_K (dC, dI) vwCl [(z_3, .byte), (z_5, .int), (z_7, .int), (z_9, .int), (z_11, .int)] t ∧ va_D (va_A [(h0, .inr (0, [.null, .null]))] sz) [(h0, .inr (0, [.ref r0, .ref q_1])), (q_1, .inr (4, [.ref q_2, .ref q_4, .ref q_6, .ref q_8, .ref q_10, .int 0, .int 0, .int 0, .int 1])), (q_2, .inl (z_3, 802, .inl (fun _ => 0))), (q_4, .inl (z_5, 401, .inl (fun _ => 0))), (q_6, .inl (z_7, 401, .inl (fun _ => 0))), (q_8, .inl (z_9, 401, .inl (fun _ => 0))), (q_10, .inl (z_11, 402, .inl (fun _ => 0)))]) (va_A [(h0, .inr (0, [.null, .null]))] sz)) 6 2416 (va_A [(h0, .inr (0, [.null, .null]))] sz) := by
  refine Met.ofW (cc := prog_2_method_1_code) (maxL := 2) (ret := none) (by decide) rfl ?_
  intro p e s m args below meth c s₁ B hml hv
  obtain ⟨rfl, hsz, hP, hK, hD0⟩ := hv
  have hx := B.exec
  have hb := B.bytes
  have hr := B.returns
  have hw : ∀ w ∈ bg_W, w.before #[Value.ref h0, Value.ref r0] s = true := fun w h => atoms_spec (ws := (wq y_Ck_init prog_2_method_1_code 2 none)) B.pre w (List.mem_cons_of_mem _ h)
  have hown : s.vm.findClass R_Ck = some m.cls := findClass_of_methodNamed B.named
  have hlocks := B.notSynchronized
  have hin : meth.name = "<init>" := (name_of_methodNamed B.named B.method).1
  subst hsz
  have hD := hD0.self (sz := s.heap.size)
  generalize hAe : va_A [(h0, .inr (0, [.null, .null]))] s.heap.size = A at hD ⊢
  have hA : ∀ q : Nat, s.heap.size ≤ q → A q := fun q h => by rw [← hAe]; exact Or.inr h
  have hS : va_S A s.heap s.heap [] := va_S.rf
  have hP : va_P (dC, dI) vwCl [(h0, .inr (0, [.null, .null]))] s.heap := hP
  have hl := lv_entry ([.ref h0, .ref r0]) (n := 2) (Nat.le_of_ble_eq_true rfl)
  rw [lg_entry_eq]
  generalize (lg_sl ([.ref h0, .ref r0]) ++ List.replicate (2 - (lg_sl ([.ref h0, .ref r0])).length) Slot.unset).toArray = ls at hl ⊢
  have hl : lv_has ls 2 [(0, .ref h0), (1, .ref r0)] := hl
  obtain ⟨H, hH⟩ : ∃ H : Heap, H = s.heap := ⟨_, rfl⟩
  rw [← hH] at hP
  have hS : va_S A s.heap H [] := by rw [hH]; exact va_S.rf
  show W p l e _ s m _ below meth c s.heap [] 0 0 _ _
  rw [← hH]
  refine lv_aload_n hx hb d_Ck_init_0 rfl (lv_at hl 0 rfl) ?_
  refine W.objInit hx hb hown (hw (Cond.methodLink "ClauseSearch$Check" 3 ⟨"java/lang/Object", "<init>", "()V"⟩) k_207) (hw (Cond.instanceMethod ⟨"java/lang/Object", "<init>", "()V"⟩) k_52) (hw (Cond.code ⟨"java/lang/Object", "<init>", "()V"⟩ object_method_1_code 1 none) k_53) rfl (by rw [hml]; exact hl.1) rfl d_Ck_init_1 (Nat.le_of_ble_eq_true rfl) (Nat.le_of_ble_eq_true rfl) ?_
  refine W.eq (g2 := F0 m 4 ls []) rfl ?_
  refine lv_aload_n hx hb d_Ck_init_4 rfl (lv_at hl 0 rfl) ?_
  refine lv_aload_n hx hb d_Ck_init_5 rfl (lv_at hl 1 rfl) ?_
  refine va_putF (D := (dC, dI)) (ci := 0) (v := .ref r0) (ty := .object "ClauseSearch$Rows") (C := R_Ck) (T := F_Ck) (N := 2) hx hb hw in_Ck t_Ck t_Ck_ok n_Ck hown hK hP hD hS 0 rfl rfl 0 (by decide) (hw (Cond.fieldLink "ClauseSearch$Check" 9 "ClauseSearch$Check" "rows" "LClauseSearch$Rows;") k_210) (fun _ h9 => h9) rfl hin rfl (by decide +kernel) rfl rfl (Nat.le_of_ble_eq_true rfl) d_Ck_init_6 (fun H locs hP hD hS => ?_)
  have hP : va_P (dC, dI) vwCl [(h0, .inr (0, [.ref r0, .null]))] H := hP
  have hD : va_D A [(h0, .inr (0, [.ref r0, .null]))] := hD
  refine lv_aload_n hx hb d_Ck_init_9 rfl (lv_at hl 0 rfl) ?_
  refine va_new (ci := 4) (fs := [.null, .null, .null, .null, .null, .int 0, .int 0, .int 0, .int 0]) (C := R_Tr) (T := F_Tr) (N := 9) hx hb hw in_Tr t_Tr t_Tr_ok hown (hw (Cond.classLink "ClauseSearch$Check" 15 "ClauseSearch$Trail") k_208) (hw (Cond.instantiable "ClauseSearch$Trail" 9) k_91) (hw (Cond.initialized "ClauseSearch$Trail") k_32) hK hP hD hS hA rfl (fun j hj => by rcases (show j = 0 ∨ j = 1 ∨ j = 2 ∨ j = 3 ∨ j = 4 ∨ j = 5 ∨ j = 6 ∨ j = 7 ∨ j = 8 by omega) with rfl | rfl | rfl | rfl | rfl | rfl | rfl | rfl | rfl <;> rfl) (Nat.le_of_ble_eq_true rfl) (Nat.le_of_ble_eq_true rfl) d_Ck_init_10 (fun q_1 H hP hD hS => ?_)
  have hP : va_P (dC, dI) vwCl [(h0, .inr (0, [.ref r0, .null])), (q_1, .inr (4, [.null, .null, .null, .null, .null, .int 0, .int 0, .int 0, .int 0]))] H := hP
  have hD : va_D A [(h0, .inr (0, [.ref r0, .null])), (q_1, .inr (4, [.null, .null, .null, .null, .null, .int 0, .int 0, .int 0, .int 0]))] := hD
  refine W.widen (k := 1) (n := 9) (by decide) (by decide) ?_
  refine lv_dup hx hb d_Ck_init_13 rfl ?_
  have hPc := hP.sub (ws' := [(q_1, .inr (4, [.null, .null, .null, .null, .null, .int 0, .int 0, .int 0, .int 0]))]) [1] rfl
  have hDc := hD.sub (ws' := [(q_1, .inr (4, [.null, .null, .null, .null, .null, .int 0, .int 0, .int 0, .int 0]))]) [1] (by decide) rfl
  have hKc := hK.sub (tys' := []) [] rfl
  have hFc := va_free (wc := [(q_1, .inr (4, [.null, .null, .null, .null, .null, .int 0, .int 0, .int 0, .int 0]))]) hD hS hA [1] rfl
  refine va_callv (va_runI (As := []) (rest := [.ref q_1, .ref h0]) ⟨hx, hb, hml, hown, hw⟩ (c_Tr_init l dC dI q_1 H.size) (cb_I 0 hw k_94 k_32 k_209 k_93 rfl rfl rfl (by decide +kernel) ⟨Nat.le_of_ble_eq_true rfl, Nat.le_of_ble_eq_true rfl⟩) ⟨fun a U g mk q => by obtain ⟨q0, q1, qP, qK, qD⟩ := q; exact ⟨q0, q1, qP, va_K.moved (u := U) (U := U.calling g mk a) (Vm.Alike.refl U.vm) qK, qD⟩, fun U hU hW => ⟨rfl, by rw [hU], by rw [hU]; exact hPc, va_K.moved hW.alike hKc, hDc.weaken (fun _ _ _ _ => trivial)⟩⟩ rfl rfl hl.1 rfl (lv_room (Nat.le_of_ble_eq_true rfl)) d_Ck_init_14 ⟨Nat.le_of_ble_eq_true rfl, Nat.le_of_ble_eq_true rfl⟩) hS (fun q _ h => hFc q h) hFc (fun u t H1 locs ht hvm hw9 hB hz1 hk1 hS => ?_)
  obtain ⟨q_2, z_3, q_4, z_5, q_6, z_7, q_8, z_9, q_10, z_11, hP1, hK1, hD1⟩ := hB
  rw [ht] at hP1
  have hK1 := va_K.moved hvm.symm hK1
  obtain ⟨hP, hD⟩ := va_join (wr := [(h0, .inr (0, [.ref r0, .null]))]) (w1 := [(q_1, .inr (4, [.ref q_2, .ref q_4, .ref q_6, .ref q_8, .ref q_10, .int 0, .int 0, .int 0, .int 1])), (q_2, .inl (z_3, 802, .inl (fun _ => 0))), (q_4, .inl (z_5, 401, .inl (fun _ => 0))), (q_6, .inl (z_7, 401, .inl (fun _ => 0))), (q_8, .inl (z_9, 401, .inl (fun _ => 0))), (q_10, .inl (z_11, 402, .inl (fun _ => 0)))]) hP hD [1] [0] rfl rfl (by decide) (by decide) hk1 hFc hP1 hD1
  have hK := hK.app (hK1.sub (tys' := [(z_3, .byte), (z_5, .int), (z_7, .int), (z_9, .int), (z_11, .int)]) [0, 1, 2, 3, 4] rfl)
  generalize H1 = H at hP hS ⊢
  have hP : va_P (dC, dI) vwCl [(h0, .inr (0, [.ref r0, .null])), (q_1, .inr (4, [.ref q_2, .ref q_4, .ref q_6, .ref q_8, .ref q_10, .int 0, .int 0, .int 0, .int 1])), (q_2, .inl (z_3, 802, .inl (fun _ => 0))), (q_4, .inl (z_5, 401, .inl (fun _ => 0))), (q_6, .inl (z_7, 401, .inl (fun _ => 0))), (q_8, .inl (z_9, 401, .inl (fun _ => 0))), (q_10, .inl (z_11, 402, .inl (fun _ => 0)))] H := hP
  have hD : va_D A [(h0, .inr (0, [.ref r0, .null])), (q_1, .inr (4, [.ref q_2, .ref q_4, .ref q_6, .ref q_8, .ref q_10, .int 0, .int 0, .int 0, .int 1])), (q_2, .inl (z_3, 802, .inl (fun _ => 0))), (q_4, .inl (z_5, 401, .inl (fun _ => 0))), (q_6, .inl (z_7, 401, .inl (fun _ => 0))), (q_8, .inl (z_9, 401, .inl (fun _ => 0))), (q_10, .inl (z_11, 402, .inl (fun _ => 0)))] := hD
  have hK : va_K (dC, dI) vwCl [(z_3, .byte), (z_5, .int), (z_7, .int), (z_9, .int), (z_11, .int)] s := hK
  refine W.widen (k := 6) (n := 2416) (by decide) (by decide) ?_
  refine va_putF (D := (dC, dI)) (ci := 0) (v := .ref q_1) (ty := .object "ClauseSearch$Trail") (C := R_Ck) (T := F_Ck) (N := 2) hx hb hw in_Ck t_Ck t_Ck_ok n_Ck hown hK hP hD hS 0 rfl rfl 1 (by decide) (hw (Cond.fieldLink "ClauseSearch$Check" 18 "ClauseSearch$Check" "trail" "LClauseSearch$Trail;") k_211) (fun _ h9 => h9) rfl hin rfl (by decide +kernel) rfl rfl (Nat.le_of_ble_eq_true rfl) d_Ck_init_17 (fun H locs hP hD hS => ?_)
  have hP : va_P (dC, dI) vwCl [(h0, .inr (0, [.ref r0, .ref q_1])), (q_1, .inr (4, [.ref q_2, .ref q_4, .ref q_6, .ref q_8, .ref q_10, .int 0, .int 0, .int 0, .int 1])), (q_2, .inl (z_3, 802, .inl (fun _ => 0))), (q_4, .inl (z_5, 401, .inl (fun _ => 0))), (q_6, .inl (z_7, 401, .inl (fun _ => 0))), (q_8, .inl (z_9, 401, .inl (fun _ => 0))), (q_10, .inl (z_11, 402, .inl (fun _ => 0)))] H := hP
  have hD : va_D A [(h0, .inr (0, [.ref r0, .ref q_1])), (q_1, .inr (4, [.ref q_2, .ref q_4, .ref q_6, .ref q_8, .ref q_10, .int 0, .int 0, .int 0, .int 1])), (q_2, .inl (z_3, 802, .inl (fun _ => 0))), (q_4, .inl (z_5, 401, .inl (fun _ => 0))), (q_6, .inl (z_7, 401, .inl (fun _ => 0))), (q_8, .inl (z_9, 401, .inl (fun _ => 0))), (q_10, .inl (z_11, 402, .inl (fun _ => 0)))] := hD
  refine W.widen (k := 6) (n := 2416) (by decide) (by decide) ?_
  exact W.vret hx hb hr (fun t ht hW => ⟨⟨(), rfl, trivial, q_1, q_2, z_3, q_4, z_5, q_6, z_7, q_8, z_9, q_10, z_11, by rw [ht]; exact hP, va_K.moved hW.alike hK, hD⟩, hS.F ht⟩) hS.2.2 d_Ck_init_20
