abbrev y_Cs_count : MethodName := ⟨"ClauseSearch", "count", "(I)I"⟩
theorem k_41 : (Cond.initialized "java/lang/IllegalArgumentException") ∈ bg_W := bg_in 41 (by decide +kernel) (by decide +kernel)
theorem k_42 : (Cond.initialized "java/lang/IndexOutOfBoundsException") ∈ bg_W := bg_in 42 (by decide +kernel) (by decide +kernel)
theorem k_43 : (Cond.initialized "java/lang/IllegalStateException") ∈ bg_W := bg_in 43 (by decide +kernel) (by decide +kernel)
theorem k_453 : (Cond.code ⟨"ClauseSearch", "variables", "(I)I"⟩ prog_1_method_2_code 2 (some .int)) ∈ bg_W := bg_in 453 (by decide +kernel) (by decide +kernel)
theorem k_454 : (Cond.classLink "ClauseSearch" 36 "java/lang/IllegalArgumentException") ∈ bg_W := bg_in 454 (by decide +kernel) (by decide +kernel)
theorem k_455 : (Cond.instantiable "java/lang/IllegalArgumentException" 6) ∈ bg_W := bg_in 455 (by decide +kernel) (by decide +kernel)
theorem k_495 : (Cond.stringRef "ClauseSearch" 38 "1 to 400 variables come at once") ∈ bg_W := bg_in 495 (by decide +kernel) (by decide +kernel)
theorem k_521 : (Cond.classLink "ClauseSearch" 47 "java/lang/IndexOutOfBoundsException") ∈ bg_W := bg_in 521 (by decide +kernel) (by decide +kernel)
theorem k_522 : (Cond.instantiable "java/lang/IndexOutOfBoundsException" 6) ∈ bg_W := bg_in 522 (by decide +kernel) (by decide +kernel)
theorem k_530 : (Cond.stringRef "ClauseSearch" 49 "there would be more than 400 variables") ∈ bg_W := bg_in 530 (by decide +kernel) (by decide +kernel)
theorem k_543 : (Cond.code ⟨"ClauseSearch", "give", "(I)I"⟩ prog_1_method_3_code 2 (some .int)) ∈ bg_W := bg_in 543 (by decide +kernel) (by decide +kernel)
theorem k_544 : (Cond.stringRef "ClauseSearch" 56 "no literal of a variable that there is") ∈ bg_W := bg_in 544 (by decide +kernel) (by decide +kernel)
theorem k_545 : (Cond.stringRef "ClauseSearch" 61 "the row has 20 literals") ∈ bg_W := bg_in 545 (by decide +kernel) (by decide +kernel)
theorem k_553 : (Cond.code ⟨"ClauseSearch", "clause", "()I"⟩ prog_1_method_4_code 1 (some .int)) ∈ bg_W := bg_in 553 (by decide +kernel) (by decide +kernel)
theorem k_554 : (Cond.classLink "ClauseSearch" 63 "java/lang/IllegalStateException") ∈ bg_W := bg_in 554 (by decide +kernel) (by decide +kernel)
theorem k_555 : (Cond.instantiable "java/lang/IllegalStateException" 6) ∈ bg_W := bg_in 555 (by decide +kernel) (by decide +kernel)
theorem k_563 : (Cond.stringRef "ClauseSearch" 65 "the row is empty") ∈ bg_W := bg_in 563 (by decide +kernel) (by decide +kernel)
theorem k_586 : (Cond.code ⟨"ClauseSearch", "value", "(I)Z"⟩ prog_1_method_6_code 2 (some .boolean)) ∈ bg_W := bg_in 586 (by decide +kernel) (by decide +kernel)
theorem k_587 : (Cond.stringRef "ClauseSearch" 89 "no variable has this number") ∈ bg_W := bg_in 587 (by decide +kernel) (by decide +kernel)
theorem k_588 : (Cond.stringRef "ClauseSearch" 91 "no way stands that could be asked") ∈ bg_W := bg_in 588 (by decide +kernel) (by decide +kernel)
theorem k_595 : (Cond.code ⟨"ClauseSearch", "count", "(I)I"⟩ prog_1_method_7_code 2 (some .int)) ∈ bg_W := bg_in 595 (by decide +kernel) (by decide +kernel)
theorem k_596 : (Cond.stringRef "ClauseSearch" 99 "what is counted is 0 to 5") ∈ bg_W := bg_in 596 (by decide +kernel) (by decide +kernel)
theorem tw_a40 : (Bundle.ownAtoms "ClauseSearch" 40 "java/lang/IllegalArgumentException" tw_up).all (fun w => tw_hw w || decide (w ∈ bg_W)) = true := by decide +kernel
theorem tw_a51 : (Bundle.ownAtoms "ClauseSearch" 51 "java/lang/IndexOutOfBoundsException" tw_up).all (fun w => tw_hw w || decide (w ∈ bg_W)) = true := by decide +kernel
theorem tw_a67 : (Bundle.ownAtoms "ClauseSearch" 67 "java/lang/IllegalStateException" tw_up).all (fun w => tw_hw w || decide (w ∈ bg_W)) = true := by decide +kernel
theorem d_Cs_variables_12 : decode prog_1_method_2_code 12 = .ok (.new 36, 3) := by decide +kernel
theorem d_Cs_variables_15 : decode prog_1_method_2_code 15 = .ok (.dup, 1) := by decide +kernel
theorem d_Cs_variables_16 : decode prog_1_method_2_code 16 = .ok (.ldc 38, 2) := by decide +kernel
theorem d_Cs_variables_18 : decode prog_1_method_2_code 18 = .ok (.invokespecial 40, 3) := by decide +kernel
theorem d_Cs_variables_21 : decode prog_1_method_2_code 21 = .ok (.athrow, 1) := by decide +kernel
theorem d_Cs_variables_34 : decode prog_1_method_2_code 34 = .ok (.new 47, 3) := by decide +kernel
theorem d_Cs_variables_37 : decode prog_1_method_2_code 37 = .ok (.dup, 1) := by decide +kernel
theorem d_Cs_variables_38 : decode prog_1_method_2_code 38 = .ok (.ldc 49, 2) := by decide +kernel
theorem d_Cs_variables_40 : decode prog_1_method_2_code 40 = .ok (.invokespecial 51, 3) := by decide +kernel
theorem d_Cs_variables_43 : decode prog_1_method_2_code 43 = .ok (.athrow, 1) := by decide +kernel
theorem d_Cs_give_21 : decode prog_1_method_3_code 21 = .ok (.new 36, 3) := by decide +kernel
theorem d_Cs_give_24 : decode prog_1_method_3_code 24 = .ok (.dup, 1) := by decide +kernel
theorem d_Cs_give_25 : decode prog_1_method_3_code 25 = .ok (.ldc 56, 2) := by decide +kernel
theorem d_Cs_give_27 : decode prog_1_method_3_code 27 = .ok (.invokespecial 40, 3) := by decide +kernel
theorem d_Cs_give_30 : decode prog_1_method_3_code 30 = .ok (.athrow, 1) := by decide +kernel
theorem d_Cs_give_40 : decode prog_1_method_3_code 40 = .ok (.new 47, 3) := by decide +kernel
theorem d_Cs_give_43 : decode prog_1_method_3_code 43 = .ok (.dup, 1) := by decide +kernel
theorem d_Cs_give_44 : decode prog_1_method_3_code 44 = .ok (.ldc 61, 2) := by decide +kernel
theorem d_Cs_give_46 : decode prog_1_method_3_code 46 = .ok (.invokespecial 51, 3) := by decide +kernel
theorem d_Cs_give_49 : decode prog_1_method_3_code 49 = .ok (.athrow, 1) := by decide +kernel
theorem d_Cs_clause_7 : decode prog_1_method_4_code 7 = .ok (.new 63, 3) := by decide +kernel
theorem d_Cs_clause_10 : decode prog_1_method_4_code 10 = .ok (.dup, 1) := by decide +kernel
theorem d_Cs_clause_11 : decode prog_1_method_4_code 11 = .ok (.ldc 65, 2) := by decide +kernel
theorem d_Cs_clause_13 : decode prog_1_method_4_code 13 = .ok (.invokespecial 67, 3) := by decide +kernel
theorem d_Cs_clause_16 : decode prog_1_method_4_code 16 = .ok (.athrow, 1) := by decide +kernel
theorem d_Cs_value_13 : decode prog_1_method_6_code 13 = .ok (.new 36, 3) := by decide +kernel
theorem d_Cs_value_16 : decode prog_1_method_6_code 16 = .ok (.dup, 1) := by decide +kernel
theorem d_Cs_value_17 : decode prog_1_method_6_code 17 = .ok (.ldc 89, 2) := by decide +kernel
theorem d_Cs_value_19 : decode prog_1_method_6_code 19 = .ok (.invokespecial 40, 3) := by decide +kernel
theorem d_Cs_value_22 : decode prog_1_method_6_code 22 = .ok (.athrow, 1) := by decide +kernel
theorem d_Cs_value_30 : decode prog_1_method_6_code 30 = .ok (.new 63, 3) := by decide +kernel
theorem d_Cs_value_33 : decode prog_1_method_6_code 33 = .ok (.dup, 1) := by decide +kernel
theorem d_Cs_value_34 : decode prog_1_method_6_code 34 = .ok (.ldc 91, 2) := by decide +kernel
theorem d_Cs_value_36 : decode prog_1_method_6_code 36 = .ok (.invokespecial 67, 3) := by decide +kernel
theorem d_Cs_value_39 : decode prog_1_method_6_code 39 = .ok (.athrow, 1) := by decide +kernel
theorem d_Cs_count_0 : decode prog_1_method_7_code 0 = .ok (.iload_n 1, 1) := by decide +kernel
theorem d_Cs_count_1 : decode prog_1_method_7_code 1 = .ok (.tableswitch 83 0 5 #[39, 44, 52, 57, 70, 78], 39) := by decide +kernel
theorem d_Cs_count_84 : decode prog_1_method_7_code 84 = .ok (.new 36, 3) := by decide +kernel
theorem d_Cs_count_87 : decode prog_1_method_7_code 87 = .ok (.dup, 1) := by decide +kernel
theorem d_Cs_count_88 : decode prog_1_method_7_code 88 = .ok (.ldc 99, 2) := by decide +kernel
theorem d_Cs_count_90 : decode prog_1_method_7_code 90 = .ok (.invokespecial 40, 3) := by decide +kernel
theorem d_Cs_count_93 : decode prog_1_method_7_code 93 = .ok (.athrow, 1) := by decide +kernel
set_option maxHeartbeats 4000000 in
set_option maxRecDepth 100000 in
/-- variables(n) refuses n -/
theorem x_Cs_variables_1 (l : Launch) (hfl : l.flags = pinnedFlags ++ [noTraceFlag]) (dC : Nat → ClassId) (dI : Nat → Nat → Nat) (h0 : Nat) (b0 : Nat) (b1 : Nat) (b2 : Nat) (b3 : Nat) (sz lim : Nat) (rs : Int32) (vc : Int32) (wv : Int32) (bw : Int32) (p0 : Int32) (h : p0 < 1 ∨ 400 < p0) : tw_Met l y_Cs_variables (wq y_Cs_variables prog_1_method_2_code 2 (some .int)) ({ frames := 6, cells := 1, slots := 6, locals := 90 }) (va_Pc [.ref h0, .int p0] (fun U => U.heap.size = sz ∧ va_P (dC, dI) vwCl [(h0, .inr (6, [.ref b0, .ref b1, .ref b2, .ref b3, .int rs, .int vc, .int wv, .int bw]))] U.heap ∧ va_K (dC, dI) vwCl [] U ∧ va_D (fun _ => True) [(h0, .inr (6, [.ref b0, .ref b1, .ref b2, .ref b3, .int rs, .int vc, .int wv, .int bw]))] ∧ tw_Z U U.heap lim)) (tw_Q "java/lang/IllegalArgumentException") 1 6 := by
  refine tw_ofW (cc := prog_1_method_2_code) (maxL := 2) (ret := (some .int)) (by decide) rfl ?_
  intro p e s m args below meth c s₁ B hml hv
  obtain ⟨rfl, hsz, hP, hK, hD0, hz⟩ := hv
  have hx := B.exec
  have hb := B.bytes
  have hr := B.returns
  have hw : ∀ w ∈ bg_W, w.before #[Value.ref h0, Value.int p0] s = true := fun w h => atoms_spec (ws := (wq y_Cs_variables prog_1_method_2_code 2 (some .int))) B.pre w (List.mem_cons_of_mem _ h)
  have hown : s.vm.findClass R_Cs = some m.cls := findClass_of_methodNamed B.named
  have hlocks := B.notSynchronized
  subst hsz
  have hD := hD0.self (sz := s.heap.size)
  generalize hAe : va_A [(h0, .inr (6, [.ref b0, .ref b1, .ref b2, .ref b3, .int rs, .int vc, .int wv, .int bw]))] s.heap.size = A at hD ⊢
  have hA : ∀ q : Nat, s.heap.size ≤ q → A q := fun q h => by rw [← hAe]; exact Or.inr h
  have hS : va_S A s.heap s.heap [] := va_S.rf
  have hP : va_P (dC, dI) vwCl [(h0, .inr (6, [.ref b0, .ref b1, .ref b2, .ref b3, .int rs, .int vc, .int wv, .int bw]))] s.heap := hP
  have hl := lv_entry ([.ref h0, .int p0]) (n := 2) (Nat.le_of_ble_eq_true rfl)
  rw [lg_entry_eq]
  generalize (lg_sl ([.ref h0, .int p0]) ++ List.replicate (2 - (lg_sl ([.ref h0, .int p0])).length) Slot.unset).toArray = ls at hl ⊢
  have hl : lv_has ls 2 [(0, .ref h0), (1, .int p0)] := hl
  obtain ⟨H, hH⟩ : ∃ H : Heap, H = s.heap := ⟨_, rfl⟩
  rw [← hH] at hP
  have hS : va_S A s.heap H [] := by rw [hH]; exact va_S.rf
  show W p l e _ s m _ below meth c s.heap [] 0 0 _ _
  rw [← hH]
  refine lv_iload_n hx hb d_Cs_variables_0 rfl (lv_at hl 1 rfl) ?_
  refine lv_iconst (v := 1) hx hb d_Cs_variables_1 (by decide) ?_
  refine lv_icmp_lt (tgt := 12) hx hb d_Cs_variables_2 (by decide) (fun c_2 => ?_) (fun c_2 => ?_)
  · refine W.newc hx hb hown (hw (Cond.classLink "ClauseSearch" 36 "java/lang/IllegalArgumentException") k_454) (hw (Cond.instantiable "java/lang/IllegalArgumentException" 6) k_455) (hw (Cond.initialized "java/lang/IllegalArgumentException") k_41) rfl d_Cs_variables_12 (Nat.le_of_ble_eq_true rfl) (Nat.le_of_ble_eq_true rfl) (fun cX kX hfX hkX hoX hnX => ?_)
    refine W.eq (g2 := F0 m 15 ls [.ref H.size]) rfl ?_
    refine W.widen (k := 1) (n := 6) (by decide) (by decide) ?_
    refine lv_dup hx hb d_Cs_variables_15 rfl ?_
    obtain ⟨k9, cf9, i9, q9, -, -, -, -, -, hev9⟩ := Cond.stringRef_spec hown (hw (Cond.stringRef "ClauseSearch" 38 "1 to 400 variables come at once") k_495)
    refine va_ldcS (q := q9) hx hb hown (vk_R.of (A := #[Value.ref h0, Value.int p0]) (hw (Cond.stringRef "ClauseSearch" 38 "1 to 400 variables come at once") k_495) hev9) d_Cs_variables_16 ?_
    exact tw_throw hx hb hfl hown (by decide) (by decide) (tw_hat hw hz tw_a40) hfX hkX (by simp [freshCell]) (by rw [hH]; exact Nat.le_refl _) (by rw [hml]; exact hl.1) d_Cs_variables_18 d_Cs_variables_21 (B.noHandlers (hw (Cond.code ⟨"ClauseSearch", "variables", "(I)I"⟩ prog_1_method_2_code 2 (some .int)) k_453)) (Nat.le_of_ble_eq_true rfl) (Nat.le_of_ble_eq_true rfl) hlocks
  · refine lv_iload_n hx hb d_Cs_variables_5 rfl (lv_at hl 1 rfl) ?_
    refine lv_sipush (v := 400) hx hb d_Cs_variables_6 (by decide) ?_
    refine lv_icmp_le (tgt := 22) hx hb d_Cs_variables_9 (by decide) (fun c_9 => absurd c_9 (by rcases h with h | h; exact absurd h c_2; exact Int32.not_le.mpr h)) (fun c_9 => ?_)
    refine W.newc hx hb hown (hw (Cond.classLink "ClauseSearch" 36 "java/lang/IllegalArgumentException") k_454) (hw (Cond.instantiable "java/lang/IllegalArgumentException" 6) k_455) (hw (Cond.initialized "java/lang/IllegalArgumentException") k_41) rfl d_Cs_variables_12 (Nat.le_of_ble_eq_true rfl) (Nat.le_of_ble_eq_true rfl) (fun cX kX hfX hkX hoX hnX => ?_)
    refine W.eq (g2 := F0 m 15 ls [.ref H.size]) rfl ?_
    refine W.widen (k := 1) (n := 6) (by decide) (by decide) ?_
    refine lv_dup hx hb d_Cs_variables_15 rfl ?_
    obtain ⟨k9, cf9, i9, q9, -, -, -, -, -, hev9⟩ := Cond.stringRef_spec hown (hw (Cond.stringRef "ClauseSearch" 38 "1 to 400 variables come at once") k_495)
    refine va_ldcS (q := q9) hx hb hown (vk_R.of (A := #[Value.ref h0, Value.int p0]) (hw (Cond.stringRef "ClauseSearch" 38 "1 to 400 variables come at once") k_495) hev9) d_Cs_variables_16 ?_
    exact tw_throw hx hb hfl hown (by decide) (by decide) (tw_hat hw hz tw_a40) hfX hkX (by simp [freshCell]) (by rw [hH]; exact Nat.le_refl _) (by rw [hml]; exact hl.1) d_Cs_variables_18 d_Cs_variables_21 (B.noHandlers (hw (Cond.code ⟨"ClauseSearch", "variables", "(I)I"⟩ prog_1_method_2_code 2 (some .int)) k_453)) (Nat.le_of_ble_eq_true rfl) (Nat.le_of_ble_eq_true rfl) hlocks

set_option maxHeartbeats 4000000 in
set_option maxRecDepth 100000 in
/-- variables(n): too many -/
theorem x_Cs_variables_2 (l : Launch) (hfl : l.flags = pinnedFlags ++ [noTraceFlag]) (dC : Nat → ClassId) (dI : Nat → Nat → Nat) (h0 : Nat) (b0 : Nat) (b1 : Nat) (b2 : Nat) (b3 : Nat) (sz lim : Nat) (rs : Int32) (vc : Int32) (wv : Int32) (bw : Int32) (p0 : Int32) (h1 : ¬ p0 < 1) (h2 : p0 ≤ 400) (h3 : ¬ vc + p0 ≤ 400) : tw_Met l y_Cs_variables (wq y_Cs_variables prog_1_method_2_code 2 (some .int)) ({ frames := 6, cells := 1, slots := 6, locals := 90 }) (va_Pc [.ref h0, .int p0] (fun U => U.heap.size = sz ∧ va_P (dC, dI) vwCl [(h0, .inr (6, [.ref b0, .ref b1, .ref b2, .ref b3, .int rs, .int vc, .int wv, .int bw]))] U.heap ∧ va_K (dC, dI) vwCl [] U ∧ va_D (fun _ => True) [(h0, .inr (6, [.ref b0, .ref b1, .ref b2, .ref b3, .int rs, .int vc, .int wv, .int bw]))] ∧ tw_Z U U.heap lim)) (tw_Q "java/lang/IndexOutOfBoundsException") 1 6 := by
  refine tw_ofW (cc := prog_1_method_2_code) (maxL := 2) (ret := (some .int)) (by decide) rfl ?_
  intro p e s m args below meth c s₁ B hml hv
  obtain ⟨rfl, hsz, hP, hK, hD0, hz⟩ := hv
  have hx := B.exec
  have hb := B.bytes
  have hr := B.returns
  have hw : ∀ w ∈ bg_W, w.before #[Value.ref h0, Value.int p0] s = true := fun w h => atoms_spec (ws := (wq y_Cs_variables prog_1_method_2_code 2 (some .int))) B.pre w (List.mem_cons_of_mem _ h)
  have hown : s.vm.findClass R_Cs = some m.cls := findClass_of_methodNamed B.named
  have hlocks := B.notSynchronized
  subst hsz
  have hD := hD0.self (sz := s.heap.size)
  generalize hAe : va_A [(h0, .inr (6, [.ref b0, .ref b1, .ref b2, .ref b3, .int rs, .int vc, .int wv, .int bw]))] s.heap.size = A at hD ⊢
  have hA : ∀ q : Nat, s.heap.size ≤ q → A q := fun q h => by rw [← hAe]; exact Or.inr h
  have hS : va_S A s.heap s.heap [] := va_S.rf
  have hP : va_P (dC, dI) vwCl [(h0, .inr (6, [.ref b0, .ref b1, .ref b2, .ref b3, .int rs, .int vc, .int wv, .int bw]))] s.heap := hP
  have hl := lv_entry ([.ref h0, .int p0]) (n := 2) (Nat.le_of_ble_eq_true rfl)
  rw [lg_entry_eq]
  generalize (lg_sl ([.ref h0, .int p0]) ++ List.replicate (2 - (lg_sl ([.ref h0, .int p0])).length) Slot.unset).toArray = ls at hl ⊢
  have hl : lv_has ls 2 [(0, .ref h0), (1, .int p0)] := hl
  obtain ⟨H, hH⟩ : ∃ H : Heap, H = s.heap := ⟨_, rfl⟩
  rw [← hH] at hP
  have hS : va_S A s.heap H [] := by rw [hH]; exact va_S.rf
  show W p l e _ s m _ below meth c s.heap [] 0 0 _ _
  rw [← hH]
  refine lv_iload_n hx hb d_Cs_variables_0 rfl (lv_at hl 1 rfl) ?_
  refine lv_iconst (v := 1) hx hb d_Cs_variables_1 (by decide) ?_
  refine lv_icmp_lt (tgt := 12) hx hb d_Cs_variables_2 (by decide) (fun c_2 => absurd c_2 (h1)) (fun c_2 => ?_)
  refine lv_iload_n hx hb d_Cs_variables_5 rfl (lv_at hl 1 rfl) ?_
  refine lv_sipush (v := 400) hx hb d_Cs_variables_6 (by decide) ?_
  refine lv_icmp_le (tgt := 22) hx hb d_Cs_variables_9 (by decide) (fun c_9 => ?_) (fun c_9 => absurd c_9 (fun q => q h2))
  refine lv_aload_n hx hb d_Cs_variables_22 rfl (lv_at hl 0 rfl) ?_
  refine va_get (D := (dC, dI)) (ci := 6) (v := .int vc) (C := R_Cs) (T := F_Cs) (N := 8) hx hb hw in_Cs hown hK hP 0 rfl rfl 5 (by decide) (hw (Cond.fieldLink "ClauseSearch" 43 "ClauseSearch" "variableCount" "I") k_260) (fun _ h9 => h9) rfl d_Cs_variables_23 ?_
  refine lv_iload_n hx hb d_Cs_variables_26 rfl (lv_at hl 1 rfl) ?_
  refine lv_iadd hx hb d_Cs_variables_27 ?_
  refine lv_sipush (v := 400) hx hb d_Cs_variables_28 (by decide) ?_
  refine lv_icmp_le (tgt := 44) hx hb d_Cs_variables_31 (by decide) (fun c_31 => absurd c_31 (h3)) (fun c_31 => ?_)
  refine W.newc hx hb hown (hw (Cond.classLink "ClauseSearch" 47 "java/lang/IndexOutOfBoundsException") k_521) (hw (Cond.instantiable "java/lang/IndexOutOfBoundsException" 6) k_522) (hw (Cond.initialized "java/lang/IndexOutOfBoundsException") k_42) rfl d_Cs_variables_34 (Nat.le_of_ble_eq_true rfl) (Nat.le_of_ble_eq_true rfl) (fun cX kX hfX hkX hoX hnX => ?_)
  refine W.eq (g2 := F0 m 37 ls [.ref H.size]) rfl ?_
  refine W.widen (k := 1) (n := 6) (by decide) (by decide) ?_
  refine lv_dup hx hb d_Cs_variables_37 rfl ?_
  obtain ⟨k9, cf9, i9, q9, -, -, -, -, -, hev9⟩ := Cond.stringRef_spec hown (hw (Cond.stringRef "ClauseSearch" 49 "there would be more than 400 variables") k_530)
  refine va_ldcS (q := q9) hx hb hown (vk_R.of (A := #[Value.ref h0, Value.int p0]) (hw (Cond.stringRef "ClauseSearch" 49 "there would be more than 400 variables") k_530) hev9) d_Cs_variables_38 ?_
  exact tw_throw hx hb hfl hown (by decide) (by decide) (tw_hat hw hz tw_a51) hfX hkX (by simp [freshCell]) (by rw [hH]; exact Nat.le_refl _) (by rw [hml]; exact hl.1) d_Cs_variables_40 d_Cs_variables_43 (B.noHandlers (hw (Cond.code ⟨"ClauseSearch", "variables", "(I)I"⟩ prog_1_method_2_code 2 (some .int)) k_453)) (Nat.le_of_ble_eq_true rfl) (Nat.le_of_ble_eq_true rfl) hlocks

set_option maxHeartbeats 4000000 in
set_option maxRecDepth 100000 in
/-- give(l) refuses l -/
theorem x_Cs_give_1 (l : Launch) (hfl : l.flags = pinnedFlags ++ [noTraceFlag]) (dC : Nat → ClassId) (dI : Nat → Nat → Nat) (h0 : Nat) (b0 : Nat) (b1 : Nat) (b2 : Nat) (b3 : Nat) (sz lim : Nat) (rs : Int32) (vc : Int32) (wv : Int32) (bw : Int32) (p0 : Int32) (h : p0 = 0 ∨ vc < p0 ∨ p0 < -vc) : tw_Met l y_Cs_give (wq y_Cs_give prog_1_method_3_code 2 (some .int)) ({ frames := 6, cells := 1, slots := 6, locals := 90 }) (va_Pc [.ref h0, .int p0] (fun U => U.heap.size = sz ∧ va_P (dC, dI) vwCl [(h0, .inr (6, [.ref b0, .ref b1, .ref b2, .ref b3, .int rs, .int vc, .int wv, .int bw]))] U.heap ∧ va_K (dC, dI) vwCl [] U ∧ va_D (fun _ => True) [(h0, .inr (6, [.ref b0, .ref b1, .ref b2, .ref b3, .int rs, .int vc, .int wv, .int bw]))] ∧ tw_Z U U.heap lim)) (tw_Q "java/lang/IllegalArgumentException") 1 6 := by
  refine tw_ofW (cc := prog_1_method_3_code) (maxL := 2) (ret := (some .int)) (by decide) rfl ?_
  intro p e s m args below meth c s₁ B hml hv
  obtain ⟨rfl, hsz, hP, hK, hD0, hz⟩ := hv
  have hx := B.exec
  have hb := B.bytes
  have hr := B.returns
  have hw : ∀ w ∈ bg_W, w.before #[Value.ref h0, Value.int p0] s = true := fun w h => atoms_spec (ws := (wq y_Cs_give prog_1_method_3_code 2 (some .int))) B.pre w (List.mem_cons_of_mem _ h)
  have hown : s.vm.findClass R_Cs = some m.cls := findClass_of_methodNamed B.named
  have hlocks := B.notSynchronized
  subst hsz
  have hD := hD0.self (sz := s.heap.size)
  generalize hAe : va_A [(h0, .inr (6, [.ref b0, .ref b1, .ref b2, .ref b3, .int rs, .int vc, .int wv, .int bw]))] s.heap.size = A at hD ⊢
  have hA : ∀ q : Nat, s.heap.size ≤ q → A q := fun q h => by rw [← hAe]; exact Or.inr h
  have hS : va_S A s.heap s.heap [] := va_S.rf
  have hP : va_P (dC, dI) vwCl [(h0, .inr (6, [.ref b0, .ref b1, .ref b2, .ref b3, .int rs, .int vc, .int wv, .int bw]))] s.heap := hP
  have hl := lv_entry ([.ref h0, .int p0]) (n := 2) (Nat.le_of_ble_eq_true rfl)
  rw [lg_entry_eq]
  generalize (lg_sl ([.ref h0, .int p0]) ++ List.replicate (2 - (lg_sl ([.ref h0, .int p0])).length) Slot.unset).toArray = ls at hl ⊢
  have hl : lv_has ls 2 [(0, .ref h0), (1, .int p0)] := hl
  obtain ⟨H, hH⟩ : ∃ H : Heap, H = s.heap := ⟨_, rfl⟩
  rw [← hH] at hP
  have hS : va_S A s.heap H [] := by rw [hH]; exact va_S.rf
  show W p l e _ s m _ below meth c s.heap [] 0 0 _ _
  rw [← hH]
  refine lv_iload_n hx hb d_Cs_give_0 rfl (lv_at hl 1 rfl) ?_
  refine lv_if_eq (tgt := 21) hx hb d_Cs_give_1 (by decide) (fun c_1 => ?_) (fun c_1 => ?_)
  · refine W.newc hx hb hown (hw (Cond.classLink "ClauseSearch" 36 "java/lang/IllegalArgumentException") k_454) (hw (Cond.instantiable "java/lang/IllegalArgumentException" 6) k_455) (hw (Cond.initialized "java/lang/IllegalArgumentException") k_41) rfl d_Cs_give_21 (Nat.le_of_ble_eq_true rfl) (Nat.le_of_ble_eq_true rfl) (fun cX kX hfX hkX hoX hnX => ?_)
    refine W.eq (g2 := F0 m 24 ls [.ref H.size]) rfl ?_
    refine W.widen (k := 1) (n := 6) (by decide) (by decide) ?_
    refine lv_dup hx hb d_Cs_give_24 rfl ?_
    obtain ⟨k9, cf9, i9, q9, -, -, -, -, -, hev9⟩ := Cond.stringRef_spec hown (hw (Cond.stringRef "ClauseSearch" 56 "no literal of a variable that there is") k_544)
    refine va_ldcS (q := q9) hx hb hown (vk_R.of (A := #[Value.ref h0, Value.int p0]) (hw (Cond.stringRef "ClauseSearch" 56 "no literal of a variable that there is") k_544) hev9) d_Cs_give_25 ?_
    exact tw_throw hx hb hfl hown (by decide) (by decide) (tw_hat hw hz tw_a40) hfX hkX (by simp [freshCell]) (by rw [hH]; exact Nat.le_refl _) (by rw [hml]; exact hl.1) d_Cs_give_27 d_Cs_give_30 (B.noHandlers (hw (Cond.code ⟨"ClauseSearch", "give", "(I)I"⟩ prog_1_method_3_code 2 (some .int)) k_543)) (Nat.le_of_ble_eq_true rfl) (Nat.le_of_ble_eq_true rfl) hlocks
  · refine lv_iload_n hx hb d_Cs_give_4 rfl (lv_at hl 1 rfl) ?_
    refine lv_aload_n hx hb d_Cs_give_5 rfl (lv_at hl 0 rfl) ?_
    refine va_get (D := (dC, dI)) (ci := 6) (v := .int vc) (C := R_Cs) (T := F_Cs) (N := 8) hx hb hw in_Cs hown hK hP 0 rfl rfl 5 (by decide) (hw (Cond.fieldLink "ClauseSearch" 43 "ClauseSearch" "variableCount" "I") k_260) (fun _ h9 => h9) rfl d_Cs_give_6 ?_
    refine lv_icmp_gt (tgt := 21) hx hb d_Cs_give_9 (by decide) (fun c_9 => ?_) (fun c_9 => ?_)
    · refine W.newc hx hb hown (hw (Cond.classLink "ClauseSearch" 36 "java/lang/IllegalArgumentException") k_454) (hw (Cond.instantiable "java/lang/IllegalArgumentException" 6) k_455) (hw (Cond.initialized "java/lang/IllegalArgumentException") k_41) rfl d_Cs_give_21 (Nat.le_of_ble_eq_true rfl) (Nat.le_of_ble_eq_true rfl) (fun cX kX hfX hkX hoX hnX => ?_)
      refine W.eq (g2 := F0 m 24 ls [.ref H.size]) rfl ?_
      refine W.widen (k := 1) (n := 6) (by decide) (by decide) ?_
      refine lv_dup hx hb d_Cs_give_24 rfl ?_
      obtain ⟨k9, cf9, i9, q9, -, -, -, -, -, hev9⟩ := Cond.stringRef_spec hown (hw (Cond.stringRef "ClauseSearch" 56 "no literal of a variable that there is") k_544)
      refine va_ldcS (q := q9) hx hb hown (vk_R.of (A := #[Value.ref h0, Value.int p0]) (hw (Cond.stringRef "ClauseSearch" 56 "no literal of a variable that there is") k_544) hev9) d_Cs_give_25 ?_
      exact tw_throw hx hb hfl hown (by decide) (by decide) (tw_hat hw hz tw_a40) hfX hkX (by simp [freshCell]) (by rw [hH]; exact Nat.le_refl _) (by rw [hml]; exact hl.1) d_Cs_give_27 d_Cs_give_30 (B.noHandlers (hw (Cond.code ⟨"ClauseSearch", "give", "(I)I"⟩ prog_1_method_3_code 2 (some .int)) k_543)) (Nat.le_of_ble_eq_true rfl) (Nat.le_of_ble_eq_true rfl) hlocks
    · refine lv_iload_n hx hb d_Cs_give_12 rfl (lv_at hl 1 rfl) ?_
      refine lv_aload_n hx hb d_Cs_give_13 rfl (lv_at hl 0 rfl) ?_
      refine va_get (D := (dC, dI)) (ci := 6) (v := .int vc) (C := R_Cs) (T := F_Cs) (N := 8) hx hb hw in_Cs hown hK hP 0 rfl rfl 5 (by decide) (hw (Cond.fieldLink "ClauseSearch" 43 "ClauseSearch" "variableCount" "I") k_260) (fun _ h9 => h9) rfl d_Cs_give_14 ?_
      refine lv_ineg hx hb d_Cs_give_17 ?_
      refine lv_icmp_ge (tgt := 31) hx hb d_Cs_give_18 (by decide) (fun c_18 => absurd c_18 (by rcases h with h | h | h; exact absurd h c_1; exact absurd h c_9; exact Int32.not_le.mpr h)) (fun c_18 => ?_)
      refine W.newc hx hb hown (hw (Cond.classLink "ClauseSearch" 36 "java/lang/IllegalArgumentException") k_454) (hw (Cond.instantiable "java/lang/IllegalArgumentException" 6) k_455) (hw (Cond.initialized "java/lang/IllegalArgumentException") k_41) rfl d_Cs_give_21 (Nat.le_of_ble_eq_true rfl) (Nat.le_of_ble_eq_true rfl) (fun cX kX hfX hkX hoX hnX => ?_)
      refine W.eq (g2 := F0 m 24 ls [.ref H.size]) rfl ?_
      refine W.widen (k := 1) (n := 6) (by decide) (by decide) ?_
      refine lv_dup hx hb d_Cs_give_24 rfl ?_
      obtain ⟨k9, cf9, i9, q9, -, -, -, -, -, hev9⟩ := Cond.stringRef_spec hown (hw (Cond.stringRef "ClauseSearch" 56 "no literal of a variable that there is") k_544)
      refine va_ldcS (q := q9) hx hb hown (vk_R.of (A := #[Value.ref h0, Value.int p0]) (hw (Cond.stringRef "ClauseSearch" 56 "no literal of a variable that there is") k_544) hev9) d_Cs_give_25 ?_
      exact tw_throw hx hb hfl hown (by decide) (by decide) (tw_hat hw hz tw_a40) hfX hkX (by simp [freshCell]) (by rw [hH]; exact Nat.le_refl _) (by rw [hml]; exact hl.1) d_Cs_give_27 d_Cs_give_30 (B.noHandlers (hw (Cond.code ⟨"ClauseSearch", "give", "(I)I"⟩ prog_1_method_3_code 2 (some .int)) k_543)) (Nat.le_of_ble_eq_true rfl) (Nat.le_of_ble_eq_true rfl) hlocks

set_option maxHeartbeats 4000000 in
set_option maxRecDepth 100000 in
/-- give(l): the row is full -/
theorem x_Cs_give_2 (l : Launch) (hfl : l.flags = pinnedFlags ++ [noTraceFlag]) (dC : Nat → ClassId) (dI : Nat → Nat → Nat) (h0 : Nat) (b0 : Nat) (b1 : Nat) (b2 : Nat) (b3 : Nat) (sz lim : Nat) (rs : Int32) (vc : Int32) (wv : Int32) (bw : Int32) (p0 : Int32) (h1 : ¬ p0 = 0) (h2 : ¬ vc < p0) (h3 : -vc ≤ p0) (h4 : ¬ rs < 20) : tw_Met l y_Cs_give (wq y_Cs_give prog_1_method_3_code 2 (some .int)) ({ frames := 6, cells := 1, slots := 6, locals := 90 }) (va_Pc [.ref h0, .int p0] (fun U => U.heap.size = sz ∧ va_P (dC, dI) vwCl [(h0, .inr (6, [.ref b0, .ref b1, .ref b2, .ref b3, .int rs, .int vc, .int wv, .int bw]))] U.heap ∧ va_K (dC, dI) vwCl [] U ∧ va_D (fun _ => True) [(h0, .inr (6, [.ref b0, .ref b1, .ref b2, .ref b3, .int rs, .int vc, .int wv, .int bw]))] ∧ tw_Z U U.heap lim)) (tw_Q "java/lang/IndexOutOfBoundsException") 1 6 := by
  refine tw_ofW (cc := prog_1_method_3_code) (maxL := 2) (ret := (some .int)) (by decide) rfl ?_
  intro p e s m args below meth c s₁ B hml hv
  obtain ⟨rfl, hsz, hP, hK, hD0, hz⟩ := hv
  have hx := B.exec
  have hb := B.bytes
  have hr := B.returns
  have hw : ∀ w ∈ bg_W, w.before #[Value.ref h0, Value.int p0] s = true := fun w h => atoms_spec (ws := (wq y_Cs_give prog_1_method_3_code 2 (some .int))) B.pre w (List.mem_cons_of_mem _ h)
  have hown : s.vm.findClass R_Cs = some m.cls := findClass_of_methodNamed B.named
  have hlocks := B.notSynchronized
  subst hsz
  have hD := hD0.self (sz := s.heap.size)
  generalize hAe : va_A [(h0, .inr (6, [.ref b0, .ref b1, .ref b2, .ref b3, .int rs, .int vc, .int wv, .int bw]))] s.heap.size = A at hD ⊢
  have hA : ∀ q : Nat, s.heap.size ≤ q → A q := fun q h => by rw [← hAe]; exact Or.inr h
  have hS : va_S A s.heap s.heap [] := va_S.rf
  have hP : va_P (dC, dI) vwCl [(h0, .inr (6, [.ref b0, .ref b1, .ref b2, .ref b3, .int rs, .int vc, .int wv, .int bw]))] s.heap := hP
  have hl := lv_entry ([.ref h0, .int p0]) (n := 2) (Nat.le_of_ble_eq_true rfl)
  rw [lg_entry_eq]
  generalize (lg_sl ([.ref h0, .int p0]) ++ List.replicate (2 - (lg_sl ([.ref h0, .int p0])).length) Slot.unset).toArray = ls at hl ⊢
  have hl : lv_has ls 2 [(0, .ref h0), (1, .int p0)] := hl
  obtain ⟨H, hH⟩ : ∃ H : Heap, H = s.heap := ⟨_, rfl⟩
  rw [← hH] at hP
  have hS : va_S A s.heap H [] := by rw [hH]; exact va_S.rf
  show W p l e _ s m _ below meth c s.heap [] 0 0 _ _
  rw [← hH]
  refine lv_iload_n hx hb d_Cs_give_0 rfl (lv_at hl 1 rfl) ?_
  refine lv_if_eq (tgt := 21) hx hb d_Cs_give_1 (by decide) (fun c_1 => absurd c_1 (h1)) (fun c_1 => ?_)
  refine lv_iload_n hx hb d_Cs_give_4 rfl (lv_at hl 1 rfl) ?_
  refine lv_aload_n hx hb d_Cs_give_5 rfl (lv_at hl 0 rfl) ?_
  refine va_get (D := (dC, dI)) (ci := 6) (v := .int vc) (C := R_Cs) (T := F_Cs) (N := 8) hx hb hw in_Cs hown hK hP 0 rfl rfl 5 (by decide) (hw (Cond.fieldLink "ClauseSearch" 43 "ClauseSearch" "variableCount" "I") k_260) (fun _ h9 => h9) rfl d_Cs_give_6 ?_
  refine lv_icmp_gt (tgt := 21) hx hb d_Cs_give_9 (by decide) (fun c_9 => absurd c_9 (h2)) (fun c_9 => ?_)
  refine lv_iload_n hx hb d_Cs_give_12 rfl (lv_at hl 1 rfl) ?_
  refine lv_aload_n hx hb d_Cs_give_13 rfl (lv_at hl 0 rfl) ?_
  refine va_get (D := (dC, dI)) (ci := 6) (v := .int vc) (C := R_Cs) (T := F_Cs) (N := 8) hx hb hw in_Cs hown hK hP 0 rfl rfl 5 (by decide) (hw (Cond.fieldLink "ClauseSearch" 43 "ClauseSearch" "variableCount" "I") k_260) (fun _ h9 => h9) rfl d_Cs_give_14 ?_
  refine lv_ineg hx hb d_Cs_give_17 ?_
  refine lv_icmp_ge (tgt := 31) hx hb d_Cs_give_18 (by decide) (fun c_18 => ?_) (fun c_18 => absurd c_18 (fun q => q h3))
  refine lv_aload_n hx hb d_Cs_give_31 rfl (lv_at hl 0 rfl) ?_
  refine va_get (D := (dC, dI)) (ci := 6) (v := .int rs) (C := R_Cs) (T := F_Cs) (N := 8) hx hb hw in_Cs hown hK hP 0 rfl rfl 4 (by decide) (hw (Cond.fieldLink "ClauseSearch" 58 "ClauseSearch" "rowSize" "I") k_259) (fun _ h9 => h9) rfl d_Cs_give_32 ?_
  refine lv_bipush (v := 20) hx hb d_Cs_give_35 (by decide) ?_
  refine lv_icmp_lt (tgt := 50) hx hb d_Cs_give_37 (by decide) (fun c_37 => absurd c_37 (h4)) (fun c_37 => ?_)
  refine W.newc hx hb hown (hw (Cond.classLink "ClauseSearch" 47 "java/lang/IndexOutOfBoundsException") k_521) (hw (Cond.instantiable "java/lang/IndexOutOfBoundsException" 6) k_522) (hw (Cond.initialized "java/lang/IndexOutOfBoundsException") k_42) rfl d_Cs_give_40 (Nat.le_of_ble_eq_true rfl) (Nat.le_of_ble_eq_true rfl) (fun cX kX hfX hkX hoX hnX => ?_)
  refine W.eq (g2 := F0 m 43 ls [.ref H.size]) rfl ?_
  refine W.widen (k := 1) (n := 6) (by decide) (by decide) ?_
  refine lv_dup hx hb d_Cs_give_43 rfl ?_
  obtain ⟨k9, cf9, i9, q9, -, -, -, -, -, hev9⟩ := Cond.stringRef_spec hown (hw (Cond.stringRef "ClauseSearch" 61 "the row has 20 literals") k_545)
  refine va_ldcS (q := q9) hx hb hown (vk_R.of (A := #[Value.ref h0, Value.int p0]) (hw (Cond.stringRef "ClauseSearch" 61 "the row has 20 literals") k_545) hev9) d_Cs_give_44 ?_
  exact tw_throw hx hb hfl hown (by decide) (by decide) (tw_hat hw hz tw_a51) hfX hkX (by simp [freshCell]) (by rw [hH]; exact Nat.le_refl _) (by rw [hml]; exact hl.1) d_Cs_give_46 d_Cs_give_49 (B.noHandlers (hw (Cond.code ⟨"ClauseSearch", "give", "(I)I"⟩ prog_1_method_3_code 2 (some .int)) k_543)) (Nat.le_of_ble_eq_true rfl) (Nat.le_of_ble_eq_true rfl) hlocks

set_option maxHeartbeats 4000000 in
set_option maxRecDepth 100000 in
/-- clause() refuses an empty row -/
theorem x_Cs_clause_1 (l : Launch) (hfl : l.flags = pinnedFlags ++ [noTraceFlag]) (dC : Nat → ClassId) (dI : Nat → Nat → Nat) (h0 : Nat) (b0 : Nat) (b1 : Nat) (b2 : Nat) (b3 : Nat) (sz lim : Nat) (rs : Int32) (vc : Int32) (wv : Int32) (bw : Int32) (h : rs = 0) : tw_Met l y_Cs_clause (wq y_Cs_clause prog_1_method_4_code 1 (some .int)) ({ frames := 6, cells := 1, slots := 6, locals := 90 }) (va_Pc [.ref h0] (fun U => U.heap.size = sz ∧ va_P (dC, dI) vwCl [(h0, .inr (6, [.ref b0, .ref b1, .ref b2, .ref b3, .int rs, .int vc, .int wv, .int bw]))] U.heap ∧ va_K (dC, dI) vwCl [] U ∧ va_D (fun _ => True) [(h0, .inr (6, [.ref b0, .ref b1, .ref b2, .ref b3, .int rs, .int vc, .int wv, .int bw]))] ∧ tw_Z U U.heap lim)) (tw_Q "java/lang/IllegalStateException") 1 6 := by
  refine tw_ofW (cc := prog_1_method_4_code) (maxL := 1) (ret := (some .int)) (by decide) rfl ?_
  intro p e s m args below meth c s₁ B hml hv
  obtain ⟨rfl, hsz, hP, hK, hD0, hz⟩ := hv
  have hx := B.exec
  have hb := B.bytes
  have hr := B.returns
  have hw : ∀ w ∈ bg_W, w.before #[Value.ref h0] s = true := fun w h => atoms_spec (ws := (wq y_Cs_clause prog_1_method_4_code 1 (some .int))) B.pre w (List.mem_cons_of_mem _ h)
  have hown : s.vm.findClass R_Cs = some m.cls := findClass_of_methodNamed B.named
  have hlocks := B.notSynchronized
  subst hsz
  have hD := hD0.self (sz := s.heap.size)
  generalize hAe : va_A [(h0, .inr (6, [.ref b0, .ref b1, .ref b2, .ref b3, .int rs, .int vc, .int wv, .int bw]))] s.heap.size = A at hD ⊢
  have hA : ∀ q : Nat, s.heap.size ≤ q → A q := fun q h => by rw [← hAe]; exact Or.inr h
  have hS : va_S A s.heap s.heap [] := va_S.rf
  have hP : va_P (dC, dI) vwCl [(h0, .inr (6, [.ref b0, .ref b1, .ref b2, .ref b3, .int rs, .int vc, .int wv, .int bw]))] s.heap := hP
  have hl := lv_entry ([.ref h0]) (n := 1) (Nat.le_of_ble_eq_true rfl)
  rw [lg_entry_eq]
  generalize (lg_sl ([.ref h0]) ++ List.replicate (1 - (lg_sl ([.ref h0])).length) Slot.unset).toArray = ls at hl ⊢
  have hl : lv_has ls 1 [(0, .ref h0)] := hl
  obtain ⟨H, hH⟩ : ∃ H : Heap, H = s.heap := ⟨_, rfl⟩
  rw [← hH] at hP
  have hS : va_S A s.heap H [] := by rw [hH]; exact va_S.rf
  show W p l e _ s m _ below meth c s.heap [] 0 0 _ _
  rw [← hH]
  refine lv_aload_n hx hb d_Cs_clause_0 rfl (lv_at hl 0 rfl) ?_
  refine va_get (D := (dC, dI)) (ci := 6) (v := .int rs) (C := R_Cs) (T := F_Cs) (N := 8) hx hb hw in_Cs hown hK hP 0 rfl rfl 4 (by decide) (hw (Cond.fieldLink "ClauseSearch" 58 "ClauseSearch" "rowSize" "I") k_259) (fun _ h9 => h9) rfl d_Cs_clause_1 ?_
  refine lv_if_ne (tgt := 17) hx hb d_Cs_clause_4 (by decide) (fun c_4 => absurd c_4 (fun q => q h)) (fun c_4 => ?_)
  refine W.newc hx hb hown (hw (Cond.classLink "ClauseSearch" 63 "java/lang/IllegalStateException") k_554) (hw (Cond.instantiable "java/lang/IllegalStateException" 6) k_555) (hw (Cond.initialized "java/lang/IllegalStateException") k_43) rfl d_Cs_clause_7 (Nat.le_of_ble_eq_true rfl) (Nat.le_of_ble_eq_true rfl) (fun cX kX hfX hkX hoX hnX => ?_)
  refine W.eq (g2 := F0 m 10 ls [.ref H.size]) rfl ?_
  refine W.widen (k := 1) (n := 6) (by decide) (by decide) ?_
  refine lv_dup hx hb d_Cs_clause_10 rfl ?_
  obtain ⟨k9, cf9, i9, q9, -, -, -, -, -, hev9⟩ := Cond.stringRef_spec hown (hw (Cond.stringRef "ClauseSearch" 65 "the row is empty") k_563)
  refine va_ldcS (q := q9) hx hb hown (vk_R.of (A := #[Value.ref h0]) (hw (Cond.stringRef "ClauseSearch" 65 "the row is empty") k_563) hev9) d_Cs_clause_11 ?_
  exact tw_throw hx hb hfl hown (by decide) (by decide) (tw_hat hw hz tw_a67) hfX hkX (by simp [freshCell]) (by rw [hH]; exact Nat.le_refl _) (by rw [hml]; exact hl.1) d_Cs_clause_13 d_Cs_clause_16 (B.noHandlers (hw (Cond.code ⟨"ClauseSearch", "clause", "()I"⟩ prog_1_method_4_code 1 (some .int)) k_553)) (Nat.le_of_ble_eq_true rfl) (Nat.le_of_ble_eq_true rfl) hlocks

set_option maxHeartbeats 4000000 in
set_option maxRecDepth 100000 in
/-- value(v) refuses v -/
theorem x_Cs_value_1 (l : Launch) (hfl : l.flags = pinnedFlags ++ [noTraceFlag]) (dC : Nat → ClassId) (dI : Nat → Nat → Nat) (h0 : Nat) (b0 : Nat) (b1 : Nat) (b2 : Nat) (b3 : Nat) (sz lim : Nat) (rs : Int32) (vc : Int32) (wv : Int32) (bw : Int32) (p0 : Int32) (h : p0 < 1 ∨ vc < p0) : tw_Met l y_Cs_value (wq y_Cs_value prog_1_method_6_code 2 (some .boolean)) ({ frames := 6, cells := 1, slots := 6, locals := 90 }) (va_Pc [.ref h0, .int p0] (fun U => U.heap.size = sz ∧ va_P (dC, dI) vwCl [(h0, .inr (6, [.ref b0, .ref b1, .ref b2, .ref b3, .int rs, .int vc, .int wv, .int bw]))] U.heap ∧ va_K (dC, dI) vwCl [] U ∧ va_D (fun _ => True) [(h0, .inr (6, [.ref b0, .ref b1, .ref b2, .ref b3, .int rs, .int vc, .int wv, .int bw]))] ∧ tw_Z U U.heap lim)) (tw_Q "java/lang/IllegalArgumentException") 1 6 := by
  refine tw_ofW (cc := prog_1_method_6_code) (maxL := 2) (ret := (some .boolean)) (by decide) rfl ?_
  intro p e s m args below meth c s₁ B hml hv
  obtain ⟨rfl, hsz, hP, hK, hD0, hz⟩ := hv
  have hx := B.exec
  have hb := B.bytes
  have hr := B.returns
  have hw : ∀ w ∈ bg_W, w.before #[Value.ref h0, Value.int p0] s = true := fun w h => atoms_spec (ws := (wq y_Cs_value prog_1_method_6_code 2 (some .boolean))) B.pre w (List.mem_cons_of_mem _ h)
  have hown : s.vm.findClass R_Cs = some m.cls := findClass_of_methodNamed B.named
  have hlocks := B.notSynchronized
  subst hsz
  have hD := hD0.self (sz := s.heap.size)
  generalize hAe : va_A [(h0, .inr (6, [.ref b0, .ref b1, .ref b2, .ref b3, .int rs, .int vc, .int wv, .int bw]))] s.heap.size = A at hD ⊢
  have hA : ∀ q : Nat, s.heap.size ≤ q → A q := fun q h => by rw [← hAe]; exact Or.inr h
  have hS : va_S A s.heap s.heap [] := va_S.rf
  have hP : va_P (dC, dI) vwCl [(h0, .inr (6, [.ref b0, .ref b1, .ref b2, .ref b3, .int rs, .int vc, .int wv, .int bw]))] s.heap := hP
  have hl := lv_entry ([.ref h0, .int p0]) (n := 2) (Nat.le_of_ble_eq_true rfl)
  rw [lg_entry_eq]
  generalize (lg_sl ([.ref h0, .int p0]) ++ List.replicate (2 - (lg_sl ([.ref h0, .int p0])).length) Slot.unset).toArray = ls at hl ⊢
  have hl : lv_has ls 2 [(0, .ref h0), (1, .int p0)] := hl
  obtain ⟨H, hH⟩ : ∃ H : Heap, H = s.heap := ⟨_, rfl⟩
  rw [← hH] at hP
  have hS : va_S A s.heap H [] := by rw [hH]; exact va_S.rf
  show W p l e _ s m _ below meth c s.heap [] 0 0 _ _
  rw [← hH]
  refine lv_iload_n hx hb d_Cs_value_0 rfl (lv_at hl 1 rfl) ?_
  refine lv_iconst (v := 1) hx hb d_Cs_value_1 (by decide) ?_
  refine lv_icmp_lt (tgt := 13) hx hb d_Cs_value_2 (by decide) (fun c_2 => ?_) (fun c_2 => ?_)
  · refine W.newc hx hb hown (hw (Cond.classLink "ClauseSearch" 36 "java/lang/IllegalArgumentException") k_454) (hw (Cond.instantiable "java/lang/IllegalArgumentException" 6) k_455) (hw (Cond.initialized "java/lang/IllegalArgumentException") k_41) rfl d_Cs_value_13 (Nat.le_of_ble_eq_true rfl) (Nat.le_of_ble_eq_true rfl) (fun cX kX hfX hkX hoX hnX => ?_)
    refine W.eq (g2 := F0 m 16 ls [.ref H.size]) rfl ?_
    refine W.widen (k := 1) (n := 6) (by decide) (by decide) ?_
    refine lv_dup hx hb d_Cs_value_16 rfl ?_
    obtain ⟨k9, cf9, i9, q9, -, -, -, -, -, hev9⟩ := Cond.stringRef_spec hown (hw (Cond.stringRef "ClauseSearch" 89 "no variable has this number") k_587)
    refine va_ldcS (q := q9) hx hb hown (vk_R.of (A := #[Value.ref h0, Value.int p0]) (hw (Cond.stringRef "ClauseSearch" 89 "no variable has this number") k_587) hev9) d_Cs_value_17 ?_
    exact tw_throw hx hb hfl hown (by decide) (by decide) (tw_hat hw hz tw_a40) hfX hkX (by simp [freshCell]) (by rw [hH]; exact Nat.le_refl _) (by rw [hml]; exact hl.1) d_Cs_value_19 d_Cs_value_22 (B.noHandlers (hw (Cond.code ⟨"ClauseSearch", "value", "(I)Z"⟩ prog_1_method_6_code 2 (some .boolean)) k_586)) (Nat.le_of_ble_eq_true rfl) (Nat.le_of_ble_eq_true rfl) hlocks
  · refine lv_iload_n hx hb d_Cs_value_5 rfl (lv_at hl 1 rfl) ?_
    refine lv_aload_n hx hb d_Cs_value_6 rfl (lv_at hl 0 rfl) ?_
    refine va_get (D := (dC, dI)) (ci := 6) (v := .int vc) (C := R_Cs) (T := F_Cs) (N := 8) hx hb hw in_Cs hown hK hP 0 rfl rfl 5 (by decide) (hw (Cond.fieldLink "ClauseSearch" 43 "ClauseSearch" "variableCount" "I") k_260) (fun _ h9 => h9) rfl d_Cs_value_7 ?_
    refine lv_icmp_le (tgt := 23) hx hb d_Cs_value_10 (by decide) (fun c_10 => absurd c_10 (by rcases h with h | h; exact absurd h c_2; exact Int32.not_le.mpr h)) (fun c_10 => ?_)
    refine W.newc hx hb hown (hw (Cond.classLink "ClauseSearch" 36 "java/lang/IllegalArgumentException") k_454) (hw (Cond.instantiable "java/lang/IllegalArgumentException" 6) k_455) (hw (Cond.initialized "java/lang/IllegalArgumentException") k_41) rfl d_Cs_value_13 (Nat.le_of_ble_eq_true rfl) (Nat.le_of_ble_eq_true rfl) (fun cX kX hfX hkX hoX hnX => ?_)
    refine W.eq (g2 := F0 m 16 ls [.ref H.size]) rfl ?_
    refine W.widen (k := 1) (n := 6) (by decide) (by decide) ?_
    refine lv_dup hx hb d_Cs_value_16 rfl ?_
    obtain ⟨k9, cf9, i9, q9, -, -, -, -, -, hev9⟩ := Cond.stringRef_spec hown (hw (Cond.stringRef "ClauseSearch" 89 "no variable has this number") k_587)
    refine va_ldcS (q := q9) hx hb hown (vk_R.of (A := #[Value.ref h0, Value.int p0]) (hw (Cond.stringRef "ClauseSearch" 89 "no variable has this number") k_587) hev9) d_Cs_value_17 ?_
    exact tw_throw hx hb hfl hown (by decide) (by decide) (tw_hat hw hz tw_a40) hfX hkX (by simp [freshCell]) (by rw [hH]; exact Nat.le_refl _) (by rw [hml]; exact hl.1) d_Cs_value_19 d_Cs_value_22 (B.noHandlers (hw (Cond.code ⟨"ClauseSearch", "value", "(I)Z"⟩ prog_1_method_6_code 2 (some .boolean)) k_586)) (Nat.le_of_ble_eq_true rfl) (Nat.le_of_ble_eq_true rfl) hlocks

set_option maxHeartbeats 4000000 in
set_option maxRecDepth 100000 in
/-- value(v): no way stands -/
theorem x_Cs_value_2 (l : Launch) (hfl : l.flags = pinnedFlags ++ [noTraceFlag]) (dC : Nat → ClassId) (dI : Nat → Nat → Nat) (h0 : Nat) (b0 : Nat) (b1 : Nat) (b2 : Nat) (b3 : Nat) (sz lim : Nat) (rs : Int32) (vc : Int32) (wv : Int32) (bw : Int32) (p0 : Int32) (h1 : ¬ p0 < 1) (h2 : p0 ≤ vc) (h3 : wv = 0) : tw_Met l y_Cs_value (wq y_Cs_value prog_1_method_6_code 2 (some .boolean)) ({ frames := 6, cells := 1, slots := 6, locals := 90 }) (va_Pc [.ref h0, .int p0] (fun U => U.heap.size = sz ∧ va_P (dC, dI) vwCl [(h0, .inr (6, [.ref b0, .ref b1, .ref b2, .ref b3, .int rs, .int vc, .int wv, .int bw]))] U.heap ∧ va_K (dC, dI) vwCl [] U ∧ va_D (fun _ => True) [(h0, .inr (6, [.ref b0, .ref b1, .ref b2, .ref b3, .int rs, .int vc, .int wv, .int bw]))] ∧ tw_Z U U.heap lim)) (tw_Q "java/lang/IllegalStateException") 1 6 := by
  refine tw_ofW (cc := prog_1_method_6_code) (maxL := 2) (ret := (some .boolean)) (by decide) rfl ?_
  intro p e s m args below meth c s₁ B hml hv
  obtain ⟨rfl, hsz, hP, hK, hD0, hz⟩ := hv
  have hx := B.exec
  have hb := B.bytes
  have hr := B.returns
  have hw : ∀ w ∈ bg_W, w.before #[Value.ref h0, Value.int p0] s = true := fun w h => atoms_spec (ws := (wq y_Cs_value prog_1_method_6_code 2 (some .boolean))) B.pre w (List.mem_cons_of_mem _ h)
  have hown : s.vm.findClass R_Cs = some m.cls := findClass_of_methodNamed B.named
  have hlocks := B.notSynchronized
  subst hsz
  have hD := hD0.self (sz := s.heap.size)
  generalize hAe : va_A [(h0, .inr (6, [.ref b0, .ref b1, .ref b2, .ref b3, .int rs, .int vc, .int wv, .int bw]))] s.heap.size = A at hD ⊢
  have hA : ∀ q : Nat, s.heap.size ≤ q → A q := fun q h => by rw [← hAe]; exact Or.inr h
  have hS : va_S A s.heap s.heap [] := va_S.rf
  have hP : va_P (dC, dI) vwCl [(h0, .inr (6, [.ref b0, .ref b1, .ref b2, .ref b3, .int rs, .int vc, .int wv, .int bw]))] s.heap := hP
  have hl := lv_entry ([.ref h0, .int p0]) (n := 2) (Nat.le_of_ble_eq_true rfl)
  rw [lg_entry_eq]
  generalize (lg_sl ([.ref h0, .int p0]) ++ List.replicate (2 - (lg_sl ([.ref h0, .int p0])).length) Slot.unset).toArray = ls at hl ⊢
  have hl : lv_has ls 2 [(0, .ref h0), (1, .int p0)] := hl
  obtain ⟨H, hH⟩ : ∃ H : Heap, H = s.heap := ⟨_, rfl⟩
  rw [← hH] at hP
  have hS : va_S A s.heap H [] := by rw [hH]; exact va_S.rf
  show W p l e _ s m _ below meth c s.heap [] 0 0 _ _
  rw [← hH]
  refine lv_iload_n hx hb d_Cs_value_0 rfl (lv_at hl 1 rfl) ?_
  refine lv_iconst (v := 1) hx hb d_Cs_value_1 (by decide) ?_
  refine lv_icmp_lt (tgt := 13) hx hb d_Cs_value_2 (by decide) (fun c_2 => absurd c_2 (h1)) (fun c_2 => ?_)
  refine lv_iload_n hx hb d_Cs_value_5 rfl (lv_at hl 1 rfl) ?_
  refine lv_aload_n hx hb d_Cs_value_6 rfl (lv_at hl 0 rfl) ?_
  refine va_get (D := (dC, dI)) (ci := 6) (v := .int vc) (C := R_Cs) (T := F_Cs) (N := 8) hx hb hw in_Cs hown hK hP 0 rfl rfl 5 (by decide) (hw (Cond.fieldLink "ClauseSearch" 43 "ClauseSearch" "variableCount" "I") k_260) (fun _ h9 => h9) rfl d_Cs_value_7 ?_
  refine lv_icmp_le (tgt := 23) hx hb d_Cs_value_10 (by decide) (fun c_10 => ?_) (fun c_10 => absurd c_10 (fun q => q h2))
  refine lv_aload_n hx hb d_Cs_value_23 rfl (lv_at hl 0 rfl) ?_
  refine va_get (D := (dC, dI)) (ci := 6) (v := .int wv) (C := R_Cs) (T := F_Cs) (N := 8) hx hb hw in_Cs hown hK hP 0 rfl rfl 6 (by decide) (hw (Cond.fieldLink "ClauseSearch" 52 "ClauseSearch" "wayStands" "Z") k_261) (fun _ h9 => h9) rfl d_Cs_value_24 ?_
  refine lv_if_ne (tgt := 40) hx hb d_Cs_value_27 (by decide) (fun c_27 => absurd c_27 (fun q => q h3)) (fun c_27 => ?_)
  refine W.newc hx hb hown (hw (Cond.classLink "ClauseSearch" 63 "java/lang/IllegalStateException") k_554) (hw (Cond.instantiable "java/lang/IllegalStateException" 6) k_555) (hw (Cond.initialized "java/lang/IllegalStateException") k_43) rfl d_Cs_value_30 (Nat.le_of_ble_eq_true rfl) (Nat.le_of_ble_eq_true rfl) (fun cX kX hfX hkX hoX hnX => ?_)
  refine W.eq (g2 := F0 m 33 ls [.ref H.size]) rfl ?_
  refine W.widen (k := 1) (n := 6) (by decide) (by decide) ?_
  refine lv_dup hx hb d_Cs_value_33 rfl ?_
  obtain ⟨k9, cf9, i9, q9, -, -, -, -, -, hev9⟩ := Cond.stringRef_spec hown (hw (Cond.stringRef "ClauseSearch" 91 "no way stands that could be asked") k_588)
  refine va_ldcS (q := q9) hx hb hown (vk_R.of (A := #[Value.ref h0, Value.int p0]) (hw (Cond.stringRef "ClauseSearch" 91 "no way stands that could be asked") k_588) hev9) d_Cs_value_34 ?_
  exact tw_throw hx hb hfl hown (by decide) (by decide) (tw_hat hw hz tw_a67) hfX hkX (by simp [freshCell]) (by rw [hH]; exact Nat.le_refl _) (by rw [hml]; exact hl.1) d_Cs_value_36 d_Cs_value_39 (B.noHandlers (hw (Cond.code ⟨"ClauseSearch", "value", "(I)Z"⟩ prog_1_method_6_code 2 (some .boolean)) k_586)) (Nat.le_of_ble_eq_true rfl) (Nat.le_of_ble_eq_true rfl) hlocks

set_option maxHeartbeats 4000000 in
set_option maxRecDepth 100000 in
/-- count(what) refuses what -/
theorem x_Cs_count_1 (l : Launch) (hfl : l.flags = pinnedFlags ++ [noTraceFlag]) (dC : Nat → ClassId) (dI : Nat → Nat → Nat) (h0 : Nat) (b0 : Nat) (b1 : Nat) (b2 : Nat) (b3 : Nat) (sz lim : Nat) (rs : Int32) (vc : Int32) (wv : Int32) (bw : Int32) (p0 : Int32) (h : p0.toInt < 0 ∨ 5 < p0.toInt) : tw_Met l y_Cs_count (wq y_Cs_count prog_1_method_7_code 2 (some .int)) ({ frames := 6, cells := 1, slots := 6, locals := 90 }) (va_Pc [.ref h0, .int p0] (fun U => U.heap.size = sz ∧ va_P (dC, dI) vwCl [(h0, .inr (6, [.ref b0, .ref b1, .ref b2, .ref b3, .int rs, .int vc, .int wv, .int bw]))] U.heap ∧ va_K (dC, dI) vwCl [] U ∧ va_D (fun _ => True) [(h0, .inr (6, [.ref b0, .ref b1, .ref b2, .ref b3, .int rs, .int vc, .int wv, .int bw]))] ∧ tw_Z U U.heap lim)) (tw_Q "java/lang/IllegalArgumentException") 1 6 := by
  refine tw_ofW (cc := prog_1_method_7_code) (maxL := 2) (ret := (some .int)) (by decide) rfl ?_
  intro p e s m args below meth c s₁ B hml hv
  obtain ⟨rfl, hsz, hP, hK, hD0, hz⟩ := hv
  have hx := B.exec
  have hb := B.bytes
  have hr := B.returns
  have hw : ∀ w ∈ bg_W, w.before #[Value.ref h0, Value.int p0] s = true := fun w h => atoms_spec (ws := (wq y_Cs_count prog_1_method_7_code 2 (some .int))) B.pre w (List.mem_cons_of_mem _ h)
  have hown : s.vm.findClass R_Cs = some m.cls := findClass_of_methodNamed B.named
  have hlocks := B.notSynchronized
  subst hsz
  have hD := hD0.self (sz := s.heap.size)
  generalize hAe : va_A [(h0, .inr (6, [.ref b0, .ref b1, .ref b2, .ref b3, .int rs, .int vc, .int wv, .int bw]))] s.heap.size = A at hD ⊢
  have hA : ∀ q : Nat, s.heap.size ≤ q → A q := fun q h => by rw [← hAe]; exact Or.inr h
  have hS : va_S A s.heap s.heap [] := va_S.rf
  have hP : va_P (dC, dI) vwCl [(h0, .inr (6, [.ref b0, .ref b1, .ref b2, .ref b3, .int rs, .int vc, .int wv, .int bw]))] s.heap := hP
  have hl := lv_entry ([.ref h0, .int p0]) (n := 2) (Nat.le_of_ble_eq_true rfl)
  rw [lg_entry_eq]
  generalize (lg_sl ([.ref h0, .int p0]) ++ List.replicate (2 - (lg_sl ([.ref h0, .int p0])).length) Slot.unset).toArray = ls at hl ⊢
  have hl : lv_has ls 2 [(0, .ref h0), (1, .int p0)] := hl
  obtain ⟨H, hH⟩ : ∃ H : Heap, H = s.heap := ⟨_, rfl⟩
  rw [← hH] at hP
  have hS : va_S A s.heap H [] := by rw [hH]; exact va_S.rf
  show W p l e _ s m _ below meth c s.heap [] 0 0 _ _
  rw [← hH]
  refine lv_iload_n hx hb d_Cs_count_0 rfl (lv_at hl 1 rfl) ?_
  refine lv_tableOut (tgt := 84) hx hb d_Cs_count_1 h (by decide) ?_
  refine W.newc hx hb hown (hw (Cond.classLink "ClauseSearch" 36 "java/lang/IllegalArgumentException") k_454) (hw (Cond.instantiable "java/lang/IllegalArgumentException" 6) k_455) (hw (Cond.initialized "java/lang/IllegalArgumentException") k_41) rfl d_Cs_count_84 (Nat.le_of_ble_eq_true rfl) (Nat.le_of_ble_eq_true rfl) (fun cX kX hfX hkX hoX hnX => ?_)
  refine W.eq (g2 := F0 m 87 ls [.ref H.size]) rfl ?_
  refine W.widen (k := 1) (n := 6) (by decide) (by decide) ?_
  refine lv_dup hx hb d_Cs_count_87 rfl ?_
  obtain ⟨k9, cf9, i9, q9, -, -, -, -, -, hev9⟩ := Cond.stringRef_spec hown (hw (Cond.stringRef "ClauseSearch" 99 "what is counted is 0 to 5") k_596)
  refine va_ldcS (q := q9) hx hb hown (vk_R.of (A := #[Value.ref h0, Value.int p0]) (hw (Cond.stringRef "ClauseSearch" 99 "what is counted is 0 to 5") k_596) hev9) d_Cs_count_88 ?_
  exact tw_throw hx hb hfl hown (by decide) (by decide) (tw_hat hw hz tw_a40) hfX hkX (by simp [freshCell]) (by rw [hH]; exact Nat.le_refl _) (by rw [hml]; exact hl.1) d_Cs_count_90 d_Cs_count_93 (B.noHandlers (hw (Cond.code ⟨"ClauseSearch", "count", "(I)I"⟩ prog_1_method_7_code 2 (some .int)) k_595)) (Nat.le_of_ble_eq_true rfl) (Nat.le_of_ble_eq_true rfl) hlocks
