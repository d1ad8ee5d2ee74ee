abbrev y_Md_init : MethodName := ⟨"ClauseSearchModel", "<init>", "()V"⟩
theorem k_602 : (Cond.methodLink "ClauseSearchModel" 1 ⟨"java/lang/Object", "<init>", "()V"⟩) ∈ bg_W := bg_in 602 (by decide +kernel) (by decide +kernel)
theorem k_603 : (Cond.constant "ClauseSearchModel" 7 80000) ∈ bg_W := bg_in 603 (by decide +kernel) (by decide +kernel)
theorem k_604 : (Cond.fieldLink "ClauseSearchModel" 8 "ClauseSearchModel" "literal" "[I") ∈ bg_W := bg_in 604 (by decide +kernel) (by decide +kernel)
theorem k_605 : (Cond.fieldLink "ClauseSearchModel" 14 "ClauseSearchModel" "first" "[I") ∈ bg_W := bg_in 605 (by decide +kernel) (by decide +kernel)
theorem k_606 : (Cond.fieldLink "ClauseSearchModel" 17 "ClauseSearchModel" "row" "[I") ∈ bg_W := bg_in 606 (by decide +kernel) (by decide +kernel)
theorem k_607 : (Cond.fieldLink "ClauseSearchModel" 20 "ClauseSearchModel" "assumed" "[I") ∈ bg_W := bg_in 607 (by decide +kernel) (by decide +kernel)
theorem k_608 : (Cond.fieldLink "ClauseSearchModel" 23 "ClauseSearchModel" "way" "[I") ∈ bg_W := bg_in 608 (by decide +kernel) (by decide +kernel)
theorem k_615 : (Cond.fieldLink "ClauseSearchModel" 26 "ClauseSearchModel" "trail" "[I") ∈ bg_W := bg_in 615 (by decide +kernel) (by decide +kernel)
theorem k_617 : (Cond.fieldLink "ClauseSearchModel" 29 "ClauseSearchModel" "chosen" "[I") ∈ bg_W := bg_in 617 (by decide +kernel) (by decide +kernel)
theorem k_618 : (Cond.fieldLink "ClauseSearchModel" 32 "ClauseSearchModel" "mark" "[I") ∈ bg_W := bg_in 618 (by decide +kernel) (by decide +kernel)
theorem d_Md_init_0 : decode prog_9_method_1_code 0 = .ok (.aload_n 0, 1) := by decide +kernel
theorem d_Md_init_1 : decode prog_9_method_1_code 1 = .ok (.invokespecial 1, 3) := by decide +kernel
theorem d_Md_init_4 : decode prog_9_method_1_code 4 = .ok (.aload_n 0, 1) := by decide +kernel
theorem d_Md_init_5 : decode prog_9_method_1_code 5 = .ok (.ldc 7, 2) := by decide +kernel
theorem d_Md_init_7 : decode prog_9_method_1_code 7 = .ok (.newarray .int, 2) := by decide +kernel
theorem d_Md_init_9 : decode prog_9_method_1_code 9 = .ok (.putfield 8, 3) := by decide +kernel
theorem d_Md_init_12 : decode prog_9_method_1_code 12 = .ok (.aload_n 0, 1) := by decide +kernel
theorem d_Md_init_13 : decode prog_9_method_1_code 13 = .ok (.sipush 4001, 3) := by decide +kernel
theorem d_Md_init_16 : decode prog_9_method_1_code 16 = .ok (.newarray .int, 2) := by decide +kernel
theorem d_Md_init_18 : decode prog_9_method_1_code 18 = .ok (.putfield 14, 3) := by decide +kernel
theorem d_Md_init_21 : decode prog_9_method_1_code 21 = .ok (.aload_n 0, 1) := by decide +kernel
theorem d_Md_init_22 : decode prog_9_method_1_code 22 = .ok (.bipush 20, 2) := by decide +kernel
theorem d_Md_init_24 : decode prog_9_method_1_code 24 = .ok (.newarray .int, 2) := by decide +kernel
theorem d_Md_init_26 : decode prog_9_method_1_code 26 = .ok (.putfield 17, 3) := by decide +kernel
theorem d_Md_init_29 : decode prog_9_method_1_code 29 = .ok (.aload_n 0, 1) := by decide +kernel
theorem d_Md_init_30 : decode prog_9_method_1_code 30 = .ok (.bipush 20, 2) := by decide +kernel
theorem d_Md_init_32 : decode prog_9_method_1_code 32 = .ok (.newarray .int, 2) := by decide +kernel
theorem d_Md_init_34 : decode prog_9_method_1_code 34 = .ok (.putfield 20, 3) := by decide +kernel
theorem d_Md_init_37 : decode prog_9_method_1_code 37 = .ok (.aload_n 0, 1) := by decide +kernel
theorem d_Md_init_38 : decode prog_9_method_1_code 38 = .ok (.sipush 401, 3) := by decide +kernel
theorem d_Md_init_41 : decode prog_9_method_1_code 41 = .ok (.newarray .int, 2) := by decide +kernel
theorem d_Md_init_43 : decode prog_9_method_1_code 43 = .ok (.putfield 23, 3) := by decide +kernel
theorem d_Md_init_46 : decode prog_9_method_1_code 46 = .ok (.aload_n 0, 1) := by decide +kernel
theorem d_Md_init_47 : decode prog_9_method_1_code 47 = .ok (.sipush 401, 3) := by decide +kernel
theorem d_Md_init_50 : decode prog_9_method_1_code 50 = .ok (.newarray .int, 2) := by decide +kernel
theorem d_Md_init_52 : decode prog_9_method_1_code 52 = .ok (.putfield 26, 3) := by decide +kernel
theorem d_Md_init_55 : decode prog_9_method_1_code 55 = .ok (.aload_n 0, 1) := by decide +kernel
theorem d_Md_init_56 : decode prog_9_method_1_code 56 = .ok (.sipush 401, 3) := by decide +kernel
theorem d_Md_init_59 : decode prog_9_method_1_code 59 = .ok (.newarray .int, 2) := by decide +kernel
theorem d_Md_init_61 : decode prog_9_method_1_code 61 = .ok (.putfield 29, 3) := by decide +kernel
theorem d_Md_init_64 : decode prog_9_method_1_code 64 = .ok (.aload_n 0, 1) := by decide +kernel
theorem d_Md_init_65 : decode prog_9_method_1_code 65 = .ok (.sipush 401, 3) := by decide +kernel
theorem d_Md_init_68 : decode prog_9_method_1_code 68 = .ok (.newarray .int, 2) := by decide +kernel
theorem d_Md_init_70 : decode prog_9_method_1_code 70 = .ok (.putfield 32, 3) := by decide +kernel
theorem d_Md_init_73 : decode prog_9_method_1_code 73 = .ok (.return_, 1) := by decide +kernel
set_option maxHeartbeats 4000000 in
set_option maxRecDepth 100000 in
/-- ClauseSearchModel() -/
theorem c_Md_init (l : Launch) (dC : Nat → ClassId) (dI : Nat → Nat → Nat) (h0 : Nat) (sz : Nat) : Met l y_Md_init (wq y_Md_init prog_9_method_1_code 1 none) ({ frames := 1, cells := 8, slots := 85645, locals := 12 }) (va_Pc [.ref h0] (fun U => U.heap.size = sz ∧ va_P (dC, dI) vwCl [(h0, .inr (7, [.null, .null, .null, .null, .null, .int 0, .int 0, .int 0, .int 0, .int 0, .int 0, .null, .int 0, .null, .null]))] U.heap ∧ va_K (dC, dI) vwCl [] U ∧ va_D (fun _ => True) [(h0, .inr (7, [.null, .null, .null, .null, .null, .int 0, .int 0, .int 0, .int 0, .int 0, .int 0, .null, .int 0, .null, .null]))])) (va_Qv (fun _ : Unit => True) (fun (_ : Unit) t => ∃ (q_1 : Nat) (z_2 : ClassId) (q_3 : Nat) (z_4 : ClassId) (q_5 : Nat) (z_6 : ClassId) (q_7 : Nat) (z_8 : ClassId) (q_9 : Nat) (z_10 : ClassId) (q_11 : Nat) (z_12 : ClassId) (q_13 : Nat) (z_14 : ClassId) (q_15 : Nat) (z_16 : ClassId), va_P (dC, dI) vwCl [(h0, .inr (7, [.ref q_1, .ref q_3, .ref q_5, .ref q_7, .ref q_9, .int 0, .int 0, .int 0, .int 0, .int 0, .int 0, .ref q_11, .int 0, .ref q_13, .ref q_15])), (q_1, .inl (z_2, 80000, .inl (fun _ => 0))), (q_3, .inl (z_4, 4001, .inl (fun _ => 0))), (q_5, .inl (z_6, 20, .inl (fun _ => 0))), (q_7, .inl (z_8, 20, .inl (fun _ => 0))), (q_9, .inl (z_10, 401, .inl (fun _ => 0))), (q_11, .inl (z_12, 401, .inl (fun _ => 0))), (q_13, .inl (z_14, 401, .inl (fun _ => 0))), (q_15, .inl (z_16, 401, .inl (fun _ => 0)))] t.heap ∧ va_K (dC, dI) vwCl [(z_2, .int), (z_4, .int), (z_6, .int), (z_8, .int), (z_10, .int), (z_12, .int), (z_14, .int), (z_16, .int)] t ∧ va_D (va_A [(h0, .inr (7, [.null, .null, .null, .null, .null, .int 0, .int 0, .int 0, .int 0, .int 0, .int 0, .null, .int 0, .null, .null]))] sz) [(h0, .inr (7, [.ref q_1, .ref q_3, .ref q_5, .ref q_7, .ref q_9, .int 0, .int 0, .int 0, .int 0, .int 0, .int 0, .ref q_11, .int 0, .ref q_13, .ref q_15])), (q_1, .inl (z_2, 80000, .inl (fun _ => 0))), (q_3, .inl (z_4, 4001, .inl (fun _ => 0))), (q_5, .inl (z_6, 20, .inl (fun _ => 0))), (q_7, .inl (z_8, 20, .inl (fun _ => 0))), (q_9, .inl (z_10, 401, .inl (fun _ => 0))), (q_11, .inl (z_12, 401, .inl (fun _ => 0))), (q_13, .inl (z_14, 401, .inl (fun _ => 0))), (q_15, .inl (z_16, 401, .inl (fun _ => 0)))]) (va_A [(h0, .inr (7, [.null, .null, .null, .null, .null, .int 0, .int 0, .int 0, .int 0, .int 0, .int 0, .null, .int 0, .null, .null]))] sz)) 8 85645 (va_A [(h0, .inr (7, [.null, .null, .null, .null, .null, .int 0, .int 0, .int 0, .int 0, .int 0, .int 0, .null, .int 0, .null, .null]))] sz) := by
  refine Met.ofW (cc := prog_9_method_1_code) (maxL := 1) (ret := none) (by decide) rfl ?_
  intro p e s m args below meth c s₁ B hml hv
  obtain ⟨rfl, hsz, hP, hK, hD0⟩ := hv
  have hx := B.exec
  have hb := B.bytes
  have hr := B.returns
  have hw : ∀ w ∈ bg_W, w.before #[Value.ref h0] s = true := fun w h => atoms_spec (ws := (wq y_Md_init prog_9_method_1_code 1 none)) B.pre w (List.mem_cons_of_mem _ h)
  have hown : s.vm.findClass R_Md = some m.cls := findClass_of_methodNamed B.named
  have hlocks := B.notSynchronized
  have hin : meth.name = "<init>" := (name_of_methodNamed B.named B.method).1
  subst hsz
  have hD := hD0.self (sz := s.heap.size)
  generalize hAe : va_A [(h0, .inr (7, [.null, .null, .null, .null, .null, .int 0, .int 0, .int 0, .int 0, .int 0, .int 0, .null, .int 0, .null, .null]))] s.heap.size = A at hD ⊢
  have hA : ∀ q : Nat, s.heap.size ≤ q → A q := fun q h => by rw [← hAe]; exact Or.inr h
  have hS : va_S A s.heap s.heap [] := va_S.rf
  have hP : va_P (dC, dI) vwCl [(h0, .inr (7, [.null, .null, .null, .null, .null, .int 0, .int 0, .int 0, .int 0, .int 0, .int 0, .null, .int 0, .null, .null]))] s.heap := hP
  have hl := lv_entry ([.ref h0]) (n := 1) (Nat.le_of_ble_eq_true rfl)
  rw [lg_entry_eq]
  generalize (lg_sl ([.ref h0]) ++ List.replicate (1 - (lg_sl ([.ref h0])).length) Slot.unset).toArray = ls at hl ⊢
  have hl : lv_has ls 1 [(0, .ref h0)] := hl
  obtain ⟨H, hH⟩ : ∃ H : Heap, H = s.heap := ⟨_, rfl⟩
  rw [← hH] at hP
  have hS : va_S A s.heap H [] := by rw [hH]; exact va_S.rf
  show W p l e _ s m _ below meth c s.heap [] 0 0 _ _
  rw [← hH]
  refine lv_aload_n hx hb d_Md_init_0 rfl (lv_at hl 0 rfl) ?_
  refine W.objInit hx hb hown (hw (Cond.methodLink "ClauseSearchModel" 1 ⟨"java/lang/Object", "<init>", "()V"⟩) k_602) (hw (Cond.instanceMethod ⟨"java/lang/Object", "<init>", "()V"⟩) k_52) (hw (Cond.code ⟨"java/lang/Object", "<init>", "()V"⟩ object_method_1_code 1 none) k_53) rfl (by rw [hml]; exact hl.1) rfl d_Md_init_1 (Nat.le_of_ble_eq_true rfl) (Nat.le_of_ble_eq_true rfl) ?_
  refine W.eq (g2 := F0 m 4 ls []) rfl ?_
  refine lv_aload_n hx hb d_Md_init_4 rfl (lv_at hl 0 rfl) ?_
  refine lv_ldc (v := 80000) hx hb hown (hw (Cond.constant "ClauseSearchModel" 7 80000) k_603) d_Md_init_5 ?_
  refine va_newa (atype := .int) hx hb (hw (Cond.arrayClass .int) k_87) (ty := .int) rfl hK hP hD hS hA (n := 80000) (N' := 80000) (a0 := (80000, .inl (fun _ => 0))) (fun _ => rfl) (by decide) (by decide) (by decide) (Nat.le_of_ble_eq_true rfl) (Nat.le_of_ble_eq_true rfl) d_Md_init_7 (fun q_1 z_2 H hK hP hD hS => ?_)
  have hP : va_P (dC, dI) vwCl [(h0, .inr (7, [.null, .null, .null, .null, .null, .int 0, .int 0, .int 0, .int 0, .int 0, .int 0, .null, .int 0, .null, .null])), (q_1, .inl (z_2, 80000, .inl (fun _ => 0)))] H := hP
  have hD : va_D A [(h0, .inr (7, [.null, .null, .null, .null, .null, .int 0, .int 0, .int 0, .int 0, .int 0, .int 0, .null, .int 0, .null, .null])), (q_1, .inl (z_2, 80000, .inl (fun _ => 0)))] := hD
  have hK : va_K (dC, dI) vwCl [(z_2, .int)] s := hK
  refine W.widen (k := 1) (n := 80000) (by decide) (by decide) ?_
  refine va_putF (D := (dC, dI)) (ci := 7) (v := .ref q_1) (ty := .array .int) (C := R_Md) (T := F_Md) (N := 15) hx hb hw in_Md t_Md t_Md_ok n_Md hown hK hP hD hS 0 rfl rfl 0 (by decide) (hw (Cond.fieldLink "ClauseSearchModel" 8 "ClauseSearchModel" "literal" "[I") k_604) (fun _ h9 => h9) rfl hin rfl (by decide +kernel) rfl rfl (Nat.le_of_ble_eq_true rfl) d_Md_init_9 (fun H locs hP hD hS => ?_)
  have hP : va_P (dC, dI) vwCl [(h0, .inr (7, [.ref q_1, .null, .null, .null, .null, .int 0, .int 0, .int 0, .int 0, .int 0, .int 0, .null, .int 0, .null, .null])), (q_1, .inl (z_2, 80000, .inl (fun _ => 0)))] H := hP
  have hD : va_D A [(h0, .inr (7, [.ref q_1, .null, .null, .null, .null, .int 0, .int 0, .int 0, .int 0, .int 0, .int 0, .null, .int 0, .null, .null])), (q_1, .inl (z_2, 80000, .inl (fun _ => 0)))] := hD
  refine lv_aload_n hx hb d_Md_init_12 rfl (lv_at hl 0 rfl) ?_
  refine lv_sipush (v := 4001) hx hb d_Md_init_13 (by decide) ?_
  refine va_newa (atype := .int) hx hb (hw (Cond.arrayClass .int) k_87) (ty := .int) rfl hK hP hD hS hA (n := 4001) (N' := 4001) (a0 := (4001, .inl (fun _ => 0))) (fun _ => rfl) (by decide) (by decide) (by decide) (Nat.le_of_ble_eq_true rfl) (Nat.le_of_ble_eq_true rfl) d_Md_init_16 (fun q_3 z_4 H hK hP hD hS => ?_)
  have hP : va_P (dC, dI) vwCl [(h0, .inr (7, [.ref q_1, .null, .null, .null, .null, .int 0, .int 0, .int 0, .int 0, .int 0, .int 0, .null, .int 0, .null, .null])), (q_1, .inl (z_2, 80000, .inl (fun _ => 0))), (q_3, .inl (z_4, 4001, .inl (fun _ => 0)))] H := hP
  have hD : va_D A [(h0, .inr (7, [.ref q_1, .null, .null, .null, .null, .int 0, .int 0, .int 0, .int 0, .int 0, .int 0, .null, .int 0, .null, .null])), (q_1, .inl (z_2, 80000, .inl (fun _ => 0))), (q_3, .inl (z_4, 4001, .inl (fun _ => 0)))] := hD
  have hK : va_K (dC, dI) vwCl [(z_2, .int), (z_4, .int)] s := hK
  refine W.widen (k := 2) (n := 84001) (by decide) (by decide) ?_
  refine va_putF (D := (dC, dI)) (ci := 7) (v := .ref q_3) (ty := .array .int) (C := R_Md) (T := F_Md) (N := 15) hx hb hw in_Md t_Md t_Md_ok n_Md hown hK hP hD hS 0 rfl rfl 1 (by decide) (hw (Cond.fieldLink "ClauseSearchModel" 14 "ClauseSearchModel" "first" "[I") k_605) (fun _ h9 => h9) rfl hin rfl (by decide +kernel) rfl rfl (Nat.le_of_ble_eq_true rfl) d_Md_init_18 (fun H locs hP hD hS => ?_)
  have hP : va_P (dC, dI) vwCl [(h0, .inr (7, [.ref q_1, .ref q_3, .null, .null, .null, .int 0, .int 0, .int 0, .int 0, .int 0, .int 0, .null, .int 0, .null, .null])), (q_1, .inl (z_2, 80000, .inl (fun _ => 0))), (q_3, .inl (z_4, 4001, .inl (fun _ => 0)))] H := hP
  have hD : va_D A [(h0, .inr (7, [.ref q_1, .ref q_3, .null, .null, .null, .int 0, .int 0, .int 0, .int 0, .int 0, .int 0, .null, .int 0, .null, .null])), (q_1, .inl (z_2, 80000, .inl (fun _ => 0))), (q_3, .inl (z_4, 4001, .inl (fun _ => 0)))] := hD
  refine lv_aload_n hx hb d_Md_init_21 rfl (lv_at hl 0 rfl) ?_
  refine lv_bipush (v := 20) hx hb d_Md_init_22 (by decide) ?_
  refine va_newa (atype := .int) hx hb (hw (Cond.arrayClass .int) k_87) (ty := .int) rfl hK hP hD hS hA (n := 20) (N' := 20) (a0 := (20, .inl (fun _ => 0))) (fun _ => rfl) (by decide) (by decide) (by decide) (Nat.le_of_ble_eq_true rfl) (Nat.le_of_ble_eq_true rfl) d_Md_init_24 (fun q_5 z_6 H hK hP hD hS => ?_)
  have hP : va_P (dC, dI) vwCl [(h0, .inr (7, [.ref q_1, .ref q_3, .null, .null, .null, .int 0, .int 0, .int 0, .int 0, .int 0, .int 0, .null, .int 0, .null, .null])), (q_1, .inl (z_2, 80000, .inl (fun _ => 0))), (q_3, .inl (z_4, 4001, .inl (fun _ => 0))), (q_5, .inl (z_6, 20, .inl (fun _ => 0)))] H := hP
  have hD : va_D A [(h0, .inr (7, [.ref q_1, .ref q_3, .null, .null, .null, .int 0, .int 0, .int 0, .int 0, .int 0, .int 0, .null, .int 0, .null, .null])), (q_1, .inl (z_2, 80000, .inl (fun _ => 0))), (q_3, .inl (z_4, 4001, .inl (fun _ => 0))), (q_5, .inl (z_6, 20, .inl (fun _ => 0)))] := hD
  have hK : va_K (dC, dI) vwCl [(z_2, .int), (z_4, .int), (z_6, .int)] s := hK
  refine W.widen (k := 3) (n := 84021) (by decide) (by decide) ?_
  refine va_putF (D := (dC, dI)) (ci := 7) (v := .ref q_5) (ty := .array .int) (C := R_Md) (T := F_Md) (N := 15) hx hb hw in_Md t_Md t_Md_ok n_Md hown hK hP hD hS 0 rfl rfl 2 (by decide) (hw (Cond.fieldLink "ClauseSearchModel" 17 "ClauseSearchModel" "row" "[I") k_606) (fun _ h9 => h9) rfl hin rfl (by decide +kernel) rfl rfl (Nat.le_of_ble_eq_true rfl) d_Md_init_26 (fun H locs hP hD hS => ?_)
  have hP : va_P (dC, dI) vwCl [(h0, .inr (7, [.ref q_1, .ref q_3, .ref q_5, .null, .null, .int 0, .int 0, .int 0, .int 0, .int 0, .int 0, .null, .int 0, .null, .null])), (q_1, .inl (z_2, 80000, .inl (fun _ => 0))), (q_3, .inl (z_4, 4001, .inl (fun _ => 0))), (q_5, .inl (z_6, 20, .inl (fun _ => 0)))] H := hP
  have hD : va_D A [(h0, .inr (7, [.ref q_1, .ref q_3, .ref q_5, .null, .null, .int 0, .int 0, .int 0, .int 0, .int 0, .int 0, .null, .int 0, .null, .null])), (q_1, .inl (z_2, 80000, .inl (fun _ => 0))), (q_3, .inl (z_4, 4001, .inl (fun _ => 0))), (q_5, .inl (z_6, 20, .inl (fun _ => 0)))] := hD
  refine lv_aload_n hx hb d_Md_init_29 rfl (lv_at hl 0 rfl) ?_
  refine lv_bipush (v := 20) hx hb d_Md_init_30 (by decide) ?_
  refine va_newa (atype := .int) hx hb (hw (Cond.arrayClass .int) k_87) (ty := .int) rfl hK hP hD hS hA (n := 20) (N' := 20) (a0 := (20, .inl (fun _ => 0))) (fun _ => rfl) (by decide) (by decide) (by decide) (Nat.le_of_ble_eq_true rfl) (Nat.le_of_ble_eq_true rfl) d_Md_init_32 (fun q_7 z_8 H hK hP hD hS => ?_)
  have hP : va_P (dC, dI) vwCl [(h0, .inr (7, [.ref q_1, .ref q_3, .ref q_5, .null, .null, .int 0, .int 0, .int 0, .int 0, .int 0, .int 0, .null, .int 0, .null, .null])), (q_1, .inl (z_2, 80000, .inl (fun _ => 0))), (q_3, .inl (z_4, 4001, .inl (fun _ => 0))), (q_5, .inl (z_6, 20, .inl (fun _ => 0))), (q_7, .inl (z_8, 20, .inl (fun _ => 0)))] H := hP
  have hD : va_D A [(h0, .inr (7, [.ref q_1, .ref q_3, .ref q_5, .null, .null, .int 0, .int 0, .int 0, .int 0, .int 0, .int 0, .null, .int 0, .null, .null])), (q_1, .inl (z_2, 80000, .inl (fun _ => 0))), (q_3, .inl (z_4, 4001, .inl (fun _ => 0))), (q_5, .inl (z_6, 20, .inl (fun _ => 0))), (q_7, .inl (z_8, 20, .inl (fun _ => 0)))] := hD
  have hK : va_K (dC, dI) vwCl [(z_2, .int), (z_4, .int), (z_6, .int), (z_8, .int)] s := hK
  refine W.widen (k := 4) (n := 84041) (by decide) (by decide) ?_
  refine va_putF (D := (dC, dI)) (ci := 7) (v := .ref q_7) (ty := .array .int) (C := R_Md) (T := F_Md) (N := 15) hx hb hw in_Md t_Md t_Md_ok n_Md hown hK hP hD hS 0 rfl rfl 3 (by decide) (hw (Cond.fieldLink "ClauseSearchModel" 20 "ClauseSearchModel" "assumed" "[I") k_607) (fun _ h9 => h9) rfl hin rfl (by decide +kernel) rfl rfl (Nat.le_of_ble_eq_true rfl) d_Md_init_34 (fun H locs hP hD hS => ?_)
  have hP : va_P (dC, dI) vwCl [(h0, .inr (7, [.ref q_1, .ref q_3, .ref q_5, .ref q_7, .null, .int 0, .int 0, .int 0, .int 0, .int 0, .int 0, .null, .int 0, .null, .null])), (q_1, .inl (z_2, 80000, .inl (fun _ => 0))), (q_3, .inl (z_4, 4001, .inl (fun _ => 0))), (q_5, .inl (z_6, 20, .inl (fun _ => 0))), (q_7, .inl (z_8, 20, .inl (fun _ => 0)))] H := hP
  have hD : va_D A [(h0, .inr (7, [.ref q_1, .ref q_3, .ref q_5, .ref q_7, .null, .int 0, .int 0, .int 0, .int 0, .int 0, .int 0, .null, .int 0, .null, .null])), (q_1, .inl (z_2, 80000, .inl (fun _ => 0))), (q_3, .inl (z_4, 4001, .inl (fun _ => 0))), (q_5, .inl (z_6, 20, .inl (fun _ => 0))), (q_7, .inl (z_8, 20, .inl (fun _ => 0)))] := hD
  refine lv_aload_n hx hb d_Md_init_37 rfl (lv_at hl 0 rfl) ?_
  refine lv_sipush (v := 401) hx hb d_Md_init_38 (by decide) ?_
  refine va_newa (atype := .int) hx hb (hw (Cond.arrayClass .int) k_87) (ty := .int) rfl hK hP hD hS hA (n := 401) (N' := 401) (a0 := (401, .inl (fun _ => 0))) (fun _ => rfl) (by decide) (by decide) (by decide) (Nat.le_of_ble_eq_true rfl) (Nat.le_of_ble_eq_true rfl) d_Md_init_41 (fun q_9 z_10 H hK hP hD hS => ?_)
  have hP : va_P (dC, dI) vwCl [(h0, .inr (7, [.ref q_1, .ref q_3, .ref q_5, .ref q_7, .null, .int 0, .int 0, .int 0, .int 0, .int 0, .int 0, .null, .int 0, .null, .null])), (q_1, .inl (z_2, 80000, .inl (fun _ => 0))), (q_3, .inl (z_4, 4001, .inl (fun _ => 0))), (q_5, .inl (z_6, 20, .inl (fun _ => 0))), (q_7, .inl (z_8, 20, .inl (fun _ => 0))), (q_9, .inl (z_10, 401, .inl (fun _ => 0)))] H := hP
  have hD : va_D A [(h0, .inr (7, [.ref q_1, .ref q_3, .ref q_5, .ref q_7, .null, .int 0, .int 0, .int 0, .int 0, .int 0, .int 0, .null, .int 0, .null, .null])), (q_1, .inl (z_2, 80000, .inl (fun _ => 0))), (q_3, .inl (z_4, 4001, .inl (fun _ => 0))), (q_5, .inl (z_6, 20, .inl (fun _ => 0))), (q_7, .inl (z_8, 20, .inl (fun _ => 0))), (q_9, .inl (z_10, 401, .inl (fun _ => 0)))] := hD
  have hK : va_K (dC, dI) vwCl [(z_2, .int), (z_4, .int), (z_6, .int), (z_8, .int), (z_10, .int)] s := hK
  refine W.widen (k := 5) (n := 84442) (by decide) (by decide) ?_
  refine va_putF (D := (dC, dI)) (ci := 7) (v := .ref q_9) (ty := .array .int) (C := R_Md) (T := F_Md) (N := 15) hx hb hw in_Md t_Md t_Md_ok n_Md hown hK hP hD hS 0 rfl rfl 4 (by decide) (hw (Cond.fieldLink "ClauseSearchModel" 23 "ClauseSearchModel" "way" "[I") k_608) (fun _ h9 => h9) rfl hin rfl (by decide +kernel) rfl rfl (Nat.le_of_ble_eq_true rfl) d_Md_init_43 (fun H locs hP hD hS => ?_)
  have hP : va_P (dC, dI) vwCl [(h0, .inr (7, [.ref q_1, .ref q_3, .ref q_5, .ref q_7, .ref q_9, .int 0, .int 0, .int 0, .int 0, .int 0, .int 0, .null, .int 0, .null, .null])), (q_1, .inl (z_2, 80000, .inl (fun _ => 0))), (q_3, .inl (z_4, 4001, .inl (fun _ => 0))), (q_5, .inl (z_6, 20, .inl (fun _ => 0))), (q_7, .inl (z_8, 20, .inl (fun _ => 0))), (q_9, .inl (z_10, 401, .inl (fun _ => 0)))] H := hP
  have hD : va_D A [(h0, .inr (7, [.ref q_1, .ref q_3, .ref q_5, .ref q_7, .ref q_9, .int 0, .int 0, .int 0, .int 0, .int 0, .int 0, .null, .int 0, .null, .null])), (q_1, .inl (z_2, 80000, .inl (fun _ => 0))), (q_3, .inl (z_4, 4001, .inl (fun _ => 0))), (q_5, .inl (z_6, 20, .inl (fun _ => 0))), (q_7, .inl (z_8, 20, .inl (fun _ => 0))), (q_9, .inl (z_10, 401, .inl (fun _ => 0)))] := hD
  refine lv_aload_n hx hb d_Md_init_46 rfl (lv_at hl 0 rfl) ?_
  refine lv_sipush (v := 401) hx hb d_Md_init_47 (by decide) ?_
  refine va_newa (atype := .int) hx hb (hw (Cond.arrayClass .int) k_87) (ty := .int) rfl hK hP hD hS hA (n := 401) (N' := 401) (a0 := (401, .inl (fun _ => 0))) (fun _ => rfl) (by decide) (by decide) (by decide) (Nat.le_of_ble_eq_true rfl) (Nat.le_of_ble_eq_true rfl) d_Md_init_50 (fun q_11 z_12 H hK hP hD hS => ?_)
  have hP : va_P (dC, dI) vwCl [(h0, .inr (7, [.ref q_1, .ref q_3, .ref q_5, .ref q_7, .ref q_9, .int 0, .int 0, .int 0, .int 0, .int 0, .int 0, .null, .int 0, .null, .null])), (q_1, .inl (z_2, 80000, .inl (fun _ => 0))), (q_3, .inl (z_4, 4001, .inl (fun _ => 0))), (q_5, .inl (z_6, 20, .inl (fun _ => 0))), (q_7, .inl (z_8, 20, .inl (fun _ => 0))), (q_9, .inl (z_10, 401, .inl (fun _ => 0))), (q_11, .inl (z_12, 401, .inl (fun _ => 0)))] H := hP
  have hD : va_D A [(h0, .inr (7, [.ref q_1, .ref q_3, .ref q_5, .ref q_7, .ref q_9, .int 0, .int 0, .int 0, .int 0, .int 0, .int 0, .null, .int 0, .null, .null])), (q_1, .inl (z_2, 80000, .inl (fun _ => 0))), (q_3, .inl (z_4, 4001, .inl (fun _ => 0))), (q_5, .inl (z_6, 20, .inl (fun _ => 0))), (q_7, .inl (z_8, 20, .inl (fun _ => 0))), (q_9, .inl (z_10, 401, .inl (fun _ => 0))), (q_11, .inl (z_12, 401, .inl (fun _ => 0)))] := hD
  have hK : va_K (dC, dI) vwCl [(z_2, .int), (z_4, .int), (z_6, .int), (z_8, .int), (z_10, .int), (z_12, .int)] s := hK
  refine W.widen (k := 6) (n := 84843) (by decide) (by decide) ?_
  refine va_putF (D := (dC, dI)) (ci := 7) (v := .ref q_11) (ty := .array .int) (C := R_Md) (T := F_Md) (N := 15) hx hb hw in_Md t_Md t_Md_ok n_Md hown hK hP hD hS 0 rfl rfl 11 (by decide) (hw (Cond.fieldLink "ClauseSearchModel" 26 "ClauseSearchModel" "trail" "[I") k_615) (fun _ h9 => h9) rfl hin rfl (by decide +kernel) rfl rfl (Nat.le_of_ble_eq_true rfl) d_Md_init_52 (fun H locs hP hD hS => ?_)
  have hP : va_P (dC, dI) vwCl [(h0, .inr (7, [.ref q_1, .ref q_3, .ref q_5, .ref q_7, .ref q_9, .int 0, .int 0, .int 0, .int 0, .int 0, .int 0, .ref q_11, .int 0, .null, .null])), (q_1, .inl (z_2, 80000, .inl (fun _ => 0))), (q_3, .inl (z_4, 4001, .inl (fun _ => 0))), (q_5, .inl (z_6, 20, .inl (fun _ => 0))), (q_7, .inl (z_8, 20, .inl (fun _ => 0))), (q_9, .inl (z_10, 401, .inl (fun _ => 0))), (q_11, .inl (z_12, 401, .inl (fun _ => 0)))] H := hP
  have hD : va_D A [(h0, .inr (7, [.ref q_1, .ref q_3, .ref q_5, .ref q_7, .ref q_9, .int 0, .int 0, .int 0, .int 0, .int 0, .int 0, .ref q_11, .int 0, .null, .null])), (q_1, .inl (z_2, 80000, .inl (fun _ => 0))), (q_3, .inl (z_4, 4001, .inl (fun _ => 0))), (q_5, .inl (z_6, 20, .inl (fun _ => 0))), (q_7, .inl (z_8, 20, .inl (fun _ => 0))), (q_9, .inl (z_10, 401, .inl (fun _ => 0))), (q_11, .inl (z_12, 401, .inl (fun _ => 0)))] := hD
  refine lv_aload_n hx hb d_Md_init_55 rfl (lv_at hl 0 rfl) ?_
  refine lv_sipush (v := 401) hx hb d_Md_init_56 (by decide) ?_
  refine va_newa (atype := .int) hx hb (hw (Cond.arrayClass .int) k_87) (ty := .int) rfl hK hP hD hS hA (n := 401) (N' := 401) (a0 := (401, .inl (fun _ => 0))) (fun _ => rfl) (by decide) (by decide) (by decide) (Nat.le_of_ble_eq_true rfl) (Nat.le_of_ble_eq_true rfl) d_Md_init_59 (fun q_13 z_14 H hK hP hD hS => ?_)
  have hP : va_P (dC, dI) vwCl [(h0, .inr (7, [.ref q_1, .ref q_3, .ref q_5, .ref q_7, .ref q_9, .int 0, .int 0, .int 0, .int 0, .int 0, .int 0, .ref q_11, .int 0, .null, .null])), (q_1, .inl (z_2, 80000, .inl (fun _ => 0))), (q_3, .inl (z_4, 4001, .inl (fun _ => 0))), (q_5, .inl (z_6, 20, .inl (fun _ => 0))), (q_7, .inl (z_8, 20, .inl (fun _ => 0))), (q_9, .inl (z_10, 401, .inl (fun _ => 0))), (q_11, .inl (z_12, 401, .inl (fun _ => 0))), (q_13, .inl (z_14, 401, .inl (fun _ => 0)))] H := hP
  have hD : va_D A [(h0, .inr (7, [.ref q_1, .ref q_3, .ref q_5, .ref q_7, .ref q_9, .int 0, .int 0, .int 0, .int 0, .int 0, .int 0, .ref q_11, .int 0, .null, .null])), (q_1, .inl (z_2, 80000, .inl (fun _ => 0))), (q_3, .inl (z_4, 4001, .inl (fun _ => 0))), (q_5, .inl (z_6, 20, .inl (fun _ => 0))), (q_7, .inl (z_8, 20, .inl (fun _ => 0))), (q_9, .inl (z_10, 401, .inl (fun _ => 0))), (q_11, .inl (z_12, 401, .inl (fun _ => 0))), (q_13, .inl (z_14, 401, .inl (fun _ => 0)))] := hD
  have hK : va_K (dC, dI) vwCl [(z_2, .int), (z_4, .int), (z_6, .int), (z_8, .int), (z_10, .int), (z_12, .int), (z_14, .int)] s := hK
  refine W.widen (k := 7) (n := 85244) (by decide) (by decide) ?_
  refine va_putF (D := (dC, dI)) (ci := 7) (v := .ref q_13) (ty := .array .int) (C := R_Md) (T := F_Md) (N := 15) hx hb hw in_Md t_Md t_Md_ok n_Md hown hK hP hD hS 0 rfl rfl 13 (by decide) (hw (Cond.fieldLink "ClauseSearchModel" 29 "ClauseSearchModel" "chosen" "[I") k_617) (fun _ h9 => h9) rfl hin rfl (by decide +kernel) rfl rfl (Nat.le_of_ble_eq_true rfl) d_Md_init_61 (fun H locs hP hD hS => ?_)
  have hP : va_P (dC, dI) vwCl [(h0, .inr (7, [.ref q_1, .ref q_3, .ref q_5, .ref q_7, .ref q_9, .int 0, .int 0, .int 0, .int 0, .int 0, .int 0, .ref q_11, .int 0, .ref q_13, .null])), (q_1, .inl (z_2, 80000, .inl (fun _ => 0))), (q_3, .inl (z_4, 4001, .inl (fun _ => 0))), (q_5, .inl (z_6, 20, .inl (fun _ => 0))), (q_7, .inl (z_8, 20, .inl (fun _ => 0))), (q_9, .inl (z_10, 401, .inl (fun _ => 0))), (q_11, .inl (z_12, 401, .inl (fun _ => 0))), (q_13, .inl (z_14, 401, .inl (fun _ => 0)))] H := hP
  have hD : va_D A [(h0, .inr (7, [.ref q_1, .ref q_3, .ref q_5, .ref q_7, .ref q_9, .int 0, .int 0, .int 0, .int 0, .int 0, .int 0, .ref q_11, .int 0, .ref q_13, .null])), (q_1, .inl (z_2, 80000, .inl (fun _ => 0))), (q_3, .inl (z_4, 4001, .inl (fun _ => 0))), (q_5, .inl (z_6, 20, .inl (fun _ => 0))), (q_7, .inl (z_8, 20, .inl (fun _ => 0))), (q_9, .inl (z_10, 401, .inl (fun _ => 0))), (q_11, .inl (z_12, 401, .inl (fun _ => 0))), (q_13, .inl (z_14, 401, .inl (fun _ => 0)))] := hD
  refine lv_aload_n hx hb d_Md_init_64 rfl (lv_at hl 0 rfl) ?_
  refine lv_sipush (v := 401) hx hb d_Md_init_65 (by decide) ?_
  refine va_newa (atype := .int) hx hb (hw (Cond.arrayClass .int) k_87) (ty := .int) rfl hK hP hD hS hA (n := 401) (N' := 401) (a0 := (401, .inl (fun _ => 0))) (fun _ => rfl) (by decide) (by decide) (by decide) (Nat.le_of_ble_eq_true rfl) (Nat.le_of_ble_eq_true rfl) d_Md_init_68 (fun q_15 z_16 H hK hP hD hS => ?_)
  have hP : va_P (dC, dI) vwCl [(h0, .inr (7, [.ref q_1, .ref q_3, .ref q_5, .ref q_7, .ref q_9, .int 0, .int 0, .int 0, .int 0, .int 0, .int 0, .ref q_11, .int 0, .ref q_13, .null])), (q_1, .inl (z_2, 80000, .inl (fun _ => 0))), (q_3, .inl (z_4, 4001, .inl (fun _ => 0))), (q_5, .inl (z_6, 20, .inl (fun _ => 0))), (q_7, .inl (z_8, 20, .inl (fun _ => 0))), (q_9, .inl (z_10, 401, .inl (fun _ => 0))), (q_11, .inl (z_12, 401, .inl (fun _ => 0))), (q_13, .inl (z_14, 401, .inl (fun _ => 0))), (q_15, .inl (z_16, 401, .inl (fun _ => 0)))] H := hP
  have hD : va_D A [(h0, .inr (7, [.ref q_1, .ref q_3, .ref q_5, .ref q_7, .ref q_9, .int 0, .int 0, .int 0, .int 0, .int 0, .int 0, .ref q_11, .int 0, .ref q_13, .null])), (q_1, .inl (z_2, 80000, .inl (fun _ => 0))), (q_3, .inl (z_4, 4001, .inl (fun _ => 0))), (q_5, .inl (z_6, 20, .inl (fun _ => 0))), (q_7, .inl (z_8, 20, .inl (fun _ => 0))), (q_9, .inl (z_10, 401, .inl (fun _ => 0))), (q_11, .inl (z_12, 401, .inl (fun _ => 0))), (q_13, .inl (z_14, 401, .inl (fun _ => 0))), (q_15, .inl (z_16, 401, .inl (fun _ => 0)))] := hD
  have hK : va_K (dC, dI) vwCl [(z_2, .int), (z_4, .int), (z_6, .int), (z_8, .int), (z_10, .int), (z_12, .int), (z_14, .int), (z_16, .int)] s := hK
  refine W.widen (k := 8) (n := 85645) (by decide) (by decide) ?_
  refine va_putF (D := (dC, dI)) (ci := 7) (v := .ref q_15) (ty := .array .int) (C := R_Md) (T := F_Md) (N := 15) hx hb hw in_Md t_Md t_Md_ok n_Md hown hK hP hD hS 0 rfl rfl 14 (by decide) (hw (Cond.fieldLink "ClauseSearchModel" 32 "ClauseSearchModel" "mark" "[I") k_618) (fun _ h9 => h9) rfl hin rfl (by decide +kernel) rfl rfl (Nat.le_of_ble_eq_true rfl) d_Md_init_70 (fun H locs hP hD hS => ?_)
  have hP : va_P (dC, dI) vwCl [(h0, .inr (7, [.ref q_1, .ref q_3, .ref q_5, .ref q_7, .ref q_9, .int 0, .int 0, .int 0, .int 0, .int 0, .int 0, .ref q_11, .int 0, .ref q_13, .ref q_15])), (q_1, .inl (z_2, 80000, .inl (fun _ => 0))), (q_3, .inl (z_4, 4001, .inl (fun _ => 0))), (q_5, .inl (z_6, 20, .inl (fun _ => 0))), (q_7, .inl (z_8, 20, .inl (fun _ => 0))), (q_9, .inl (z_10, 401, .inl (fun _ => 0))), (q_11, .inl (z_12, 401, .inl (fun _ => 0))), (q_13, .inl (z_14, 401, .inl (fun _ => 0))), (q_15, .inl (z_16, 401, .inl (fun _ => 0)))] H := hP
  have hD : va_D A [(h0, .inr (7, [.ref q_1, .ref q_3, .ref q_5, .ref q_7, .ref q_9, .int 0, .int 0, .int 0, .int 0, .int 0, .int 0, .ref q_11, .int 0, .ref q_13, .ref q_15])), (q_1, .inl (z_2, 80000, .inl (fun _ => 0))), (q_3, .inl (z_4, 4001, .inl (fun _ => 0))), (q_5, .inl (z_6, 20, .inl (fun _ => 0))), (q_7, .inl (z_8, 20, .inl (fun _ => 0))), (q_9, .inl (z_10, 401, .inl (fun _ => 0))), (q_11, .inl (z_12, 401, .inl (fun _ => 0))), (q_13, .inl (z_14, 401, .inl (fun _ => 0))), (q_15, .inl (z_16, 401, .inl (fun _ => 0)))] := hD
  refine W.widen (k := 8) (n := 85645) (by decide) (by decide) ?_
  exact W.vret hx hb hr (fun t ht hW => ⟨⟨(), rfl, trivial, q_1, z_2, q_3, z_4, q_5, z_6, q_7, z_8, q_9, z_10, q_11, z_12, q_13, z_14, q_15, z_16, by rw [ht]; exact hP, va_K.moved hW.alike hK, hD⟩, hS.F ht⟩) hS.2.2 d_Md_init_73
