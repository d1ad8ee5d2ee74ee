abbrev y_Lw_variables : MethodName := ⟨"ClauseSearchLaw", "variables", "(LClauseSearch;I[J)I"⟩
abbrev y_Lw_give : MethodName := ⟨"ClauseSearchLaw", "give", "(LClauseSearch;I[J)I"⟩
abbrev y_Lw_clause : MethodName := ⟨"ClauseSearchLaw", "clause", "(LClauseSearch;[J)I"⟩
abbrev y_Lw_value : MethodName := ⟨"ClauseSearchLaw", "value", "(LClauseSearch;I[J)I"⟩
abbrev y_Lw_count : MethodName := ⟨"ClauseSearchLaw", "count", "(LClauseSearch;I[J)I"⟩
theorem k_448 : (Cond.classLink "ClauseSearchLaw" 13 "java/lang/IllegalArgumentException") ∈ bg_W := bg_in 448 (by decide +kernel) (by decide +kernel)
theorem k_450 : (Cond.methodLink "ClauseSearchLaw" 7 ⟨"ClauseSearch", "variables", "(I)I"⟩) ∈ bg_W := bg_in 450 (by decide +kernel) (by decide +kernel)
theorem k_451 : (Cond.instanceMethod ⟨"ClauseSearch", "variables", "(I)I"⟩) ∈ bg_W := bg_in 451 (by decide +kernel) (by decide +kernel)
theorem k_452 : (Cond.selects "ClauseSearch" ⟨"ClauseSearch", "variables", "(I)I"⟩ ⟨"ClauseSearch", "variables", "(I)I"⟩) ∈ bg_W := bg_in 452 (by decide +kernel) (by decide +kernel)
theorem k_456 : (Cond.castable "java/lang/IllegalArgumentException" "java/lang/IllegalArgumentException") ∈ bg_W := bg_in 456 (by decide +kernel) (by decide +kernel)
theorem k_540 : (Cond.methodLink "ClauseSearchLaw" 17 ⟨"ClauseSearch", "give", "(I)I"⟩) ∈ bg_W := bg_in 540 (by decide +kernel) (by decide +kernel)
theorem k_541 : (Cond.instanceMethod ⟨"ClauseSearch", "give", "(I)I"⟩) ∈ bg_W := bg_in 541 (by decide +kernel) (by decide +kernel)
theorem k_542 : (Cond.selects "ClauseSearch" ⟨"ClauseSearch", "give", "(I)I"⟩ ⟨"ClauseSearch", "give", "(I)I"⟩) ∈ bg_W := bg_in 542 (by decide +kernel) (by decide +kernel)
theorem k_549 : (Cond.classLink "ClauseSearchLaw" 24 "java/lang/IllegalStateException") ∈ bg_W := bg_in 549 (by decide +kernel) (by decide +kernel)
theorem k_550 : (Cond.methodLink "ClauseSearchLaw" 20 ⟨"ClauseSearch", "clause", "()I"⟩) ∈ bg_W := bg_in 550 (by decide +kernel) (by decide +kernel)
theorem k_551 : (Cond.instanceMethod ⟨"ClauseSearch", "clause", "()I"⟩) ∈ bg_W := bg_in 551 (by decide +kernel) (by decide +kernel)
theorem k_552 : (Cond.selects "ClauseSearch" ⟨"ClauseSearch", "clause", "()I"⟩ ⟨"ClauseSearch", "clause", "()I"⟩) ∈ bg_W := bg_in 552 (by decide +kernel) (by decide +kernel)
theorem k_556 : (Cond.castable "java/lang/IllegalStateException" "java/lang/IllegalStateException") ∈ bg_W := bg_in 556 (by decide +kernel) (by decide +kernel)
theorem k_583 : (Cond.methodLink "ClauseSearchLaw" 26 ⟨"ClauseSearch", "value", "(I)Z"⟩) ∈ bg_W := bg_in 583 (by decide +kernel) (by decide +kernel)
theorem k_584 : (Cond.instanceMethod ⟨"ClauseSearch", "value", "(I)Z"⟩) ∈ bg_W := bg_in 584 (by decide +kernel) (by decide +kernel)
theorem k_585 : (Cond.selects "ClauseSearch" ⟨"ClauseSearch", "value", "(I)Z"⟩ ⟨"ClauseSearch", "value", "(I)Z"⟩) ∈ bg_W := bg_in 585 (by decide +kernel) (by decide +kernel)
theorem k_592 : (Cond.methodLink "ClauseSearchLaw" 30 ⟨"ClauseSearch", "count", "(I)I"⟩) ∈ bg_W := bg_in 592 (by decide +kernel) (by decide +kernel)
theorem k_593 : (Cond.instanceMethod ⟨"ClauseSearch", "count", "(I)I"⟩) ∈ bg_W := bg_in 593 (by decide +kernel) (by decide +kernel)
theorem k_594 : (Cond.selects "ClauseSearch" ⟨"ClauseSearch", "count", "(I)I"⟩ ⟨"ClauseSearch", "count", "(I)I"⟩) ∈ bg_W := bg_in 594 (by decide +kernel) (by decide +kernel)
theorem d_Lw_variables_0 : decode method_3_code 0 = .ok (.aload_n 2, 1) := by decide +kernel
theorem d_Lw_variables_1 : decode method_3_code 1 = .ok (.iconst 0, 1) := by decide +kernel
theorem d_Lw_variables_2 : decode method_3_code 2 = .ok (.aload_n 0, 1) := by decide +kernel
theorem d_Lw_variables_3 : decode method_3_code 3 = .ok (.iload_n 1, 1) := by decide +kernel
theorem d_Lw_variables_4 : decode method_3_code 4 = .ok (.invokevirtual 7, 3) := by decide +kernel
theorem d_Lw_variables_7 : decode method_3_code 7 = .ok (.i2l, 1) := by decide +kernel
theorem d_Lw_variables_8 : decode method_3_code 8 = .ok (.lastore, 1) := by decide +kernel
theorem d_Lw_variables_9 : decode method_3_code 9 = .ok (.goto 9, 3) := by decide +kernel
theorem d_Lw_variables_18 : decode method_3_code 18 = .ok (.iconst 0, 1) := by decide +kernel
theorem d_Lw_variables_19 : decode method_3_code 19 = .ok (.ireturn, 1) := by decide +kernel
theorem d_Lw_variables_12 : decode method_3_code 12 = .ok (.astore_n 3, 1) := by decide +kernel
theorem d_Lw_variables_13 : decode method_3_code 13 = .ok (.iconst 1, 1) := by decide +kernel
theorem d_Lw_variables_14 : decode method_3_code 14 = .ok (.ireturn, 1) := by decide +kernel
theorem d_Lw_give_0 : decode method_4_code 0 = .ok (.aload_n 2, 1) := by decide +kernel
theorem d_Lw_give_1 : decode method_4_code 1 = .ok (.iconst 0, 1) := by decide +kernel
theorem d_Lw_give_2 : decode method_4_code 2 = .ok (.aload_n 0, 1) := by decide +kernel
theorem d_Lw_give_3 : decode method_4_code 3 = .ok (.iload_n 1, 1) := by decide +kernel
theorem d_Lw_give_4 : decode method_4_code 4 = .ok (.invokevirtual 17, 3) := by decide +kernel
theorem d_Lw_give_12 : decode method_4_code 12 = .ok (.astore_n 3, 1) := by decide +kernel
theorem d_Lw_give_13 : decode method_4_code 13 = .ok (.iconst 1, 1) := by decide +kernel
theorem d_Lw_give_14 : decode method_4_code 14 = .ok (.ireturn, 1) := by decide +kernel
theorem d_Lw_clause_0 : decode method_5_code 0 = .ok (.aload_n 1, 1) := by decide +kernel
theorem d_Lw_clause_1 : decode method_5_code 1 = .ok (.iconst 0, 1) := by decide +kernel
theorem d_Lw_clause_2 : decode method_5_code 2 = .ok (.aload_n 0, 1) := by decide +kernel
theorem d_Lw_clause_3 : decode method_5_code 3 = .ok (.invokevirtual 20, 3) := by decide +kernel
theorem d_Lw_clause_11 : decode method_5_code 11 = .ok (.astore_n 2, 1) := by decide +kernel
theorem d_Lw_clause_12 : decode method_5_code 12 = .ok (.iconst 1, 1) := by decide +kernel
theorem d_Lw_clause_13 : decode method_5_code 13 = .ok (.ireturn, 1) := by decide +kernel
theorem d_Lw_value_0 : decode method_6_code 0 = .ok (.aload_n 2, 1) := by decide +kernel
theorem d_Lw_value_1 : decode method_6_code 1 = .ok (.iconst 0, 1) := by decide +kernel
theorem d_Lw_value_2 : decode method_6_code 2 = .ok (.aload_n 0, 1) := by decide +kernel
theorem d_Lw_value_3 : decode method_6_code 3 = .ok (.iload_n 1, 1) := by decide +kernel
theorem d_Lw_value_4 : decode method_6_code 4 = .ok (.invokevirtual 26, 3) := by decide +kernel
theorem d_Lw_value_19 : decode method_6_code 19 = .ok (.astore_n 3, 1) := by decide +kernel
theorem d_Lw_value_20 : decode method_6_code 20 = .ok (.iconst 1, 1) := by decide +kernel
theorem d_Lw_value_21 : decode method_6_code 21 = .ok (.ireturn, 1) := by decide +kernel
theorem d_Lw_count_0 : decode method_7_code 0 = .ok (.aload_n 2, 1) := by decide +kernel
theorem d_Lw_count_1 : decode method_7_code 1 = .ok (.iconst 0, 1) := by decide +kernel
theorem d_Lw_count_2 : decode method_7_code 2 = .ok (.aload_n 0, 1) := by decide +kernel
theorem d_Lw_count_3 : decode method_7_code 3 = .ok (.iload_n 1, 1) := by decide +kernel
theorem d_Lw_count_4 : decode method_7_code 4 = .ok (.invokevirtual 30, 3) := by decide +kernel
theorem d_Lw_count_12 : decode method_7_code 12 = .ok (.astore_n 3, 1) := by decide +kernel
theorem d_Lw_count_13 : decode method_7_code 13 = .ok (.iconst 1, 1) := by decide +kernel
theorem d_Lw_count_14 : decode method_7_code 14 = .ok (.ireturn, 1) := by decide +kernel
theorem d_Lw_count_7 : decode method_7_code 7 = .ok (.i2l, 1) := by decide +kernel
theorem d_Lw_count_8 : decode method_7_code 8 = .ok (.lastore, 1) := by decide +kernel
theorem d_Lw_count_9 : decode method_7_code 9 = .ok (.goto 6, 3) := by decide +kernel
theorem d_Lw_count_15 : decode method_7_code 15 = .ok (.iconst 0, 1) := by decide +kernel
theorem d_Lw_count_16 : decode method_7_code 16 = .ok (.ireturn, 1) := by decide +kernel
set_option maxHeartbeats 4000000 in
set_option maxRecDepth 100000 in
/-- the helper of variables, where it answers -/
theorem c_Lw_variables (l : Launch) (dC : Nat → ClassId) (dI : Nat → Nat → Nat) (h0 : Nat) (b0 : Nat) (b1 : Nat) (b2 : Nat) (b3 : Nat) (o0 : Nat) (cl : ClassId) (sz : Nat) (rs : Int32) (vc : Int32) (wv : Int32) (bw : Int32) (p0 : Int32) (fo : Nat → Int64) (h1 : ¬ p0 < 1) (h2 : p0 ≤ 400) (h3 : vc + p0 ≤ 400) : Met l y_Lw_variables (wh y_Lw_variables method_3_code 4 (some .int) [(0, 9, 12, 13), (0, 9, 15, 15)]) ({ frames := 1, cells := 0, slots := 0, locals := 21 }) (va_Pc [.ref h0, .int p0, .ref o0] (fun U => U.heap.size = sz ∧ va_P (dC, dI) vwCl [(h0, .inr (6, [.ref b0, .ref b1, .ref b2, .ref b3, .int rs, .int vc, .int wv, .int bw])), (o0, .inl (cl, 1, .inr (.inl fo)))] U.heap ∧ va_K (dC, dI) vwCl [(cl, .long)] U ∧ va_D (fun _ => True) [(h0, .inr (6, [.ref b0, .ref b1, .ref b2, .ref b3, .int rs, .int vc, .int wv, .int bw])), (o0, .inl (cl, 1, .inr (.inl fo)))])) (va_Qi (fun (r : Int32) (_ : Unit) => r = 0) (fun (_ : Unit) t => va_P (dC, dI) vwCl [(o0, .inl (cl, 1, .inr (.inl (vp_updL fo ((0 : Int32).toNatClampNeg) ((vc + p0 : Int32).toInt64))))), (h0, .inr (6, [.ref b0, .ref b1, .ref b2, .ref b3, .int rs, .int (vc + p0), .int 0, .int bw]))] t.heap ∧ va_K (dC, dI) vwCl [(cl, .long)] t ∧ va_D (va_A [(h0, .inr (6, [.ref b0, .ref b1, .ref b2, .ref b3, .int rs, .int vc, .int wv, .int bw])), (o0, .inl (cl, 1, .inr (.inl fo)))] sz) [(o0, .inl (cl, 1, .inr (.inl (vp_updL fo ((0 : Int32).toNatClampNeg) ((vc + p0 : Int32).toInt64))))), (h0, .inr (6, [.ref b0, .ref b1, .ref b2, .ref b3, .int rs, .int (vc + p0), .int 0, .int bw]))]) (va_A [(h0, .inr (6, [.ref b0, .ref b1, .ref b2, .ref b3, .int rs, .int vc, .int wv, .int bw])), (o0, .inl (cl, 1, .inr (.inl fo)))] sz)) 0 0 (va_A [(h0, .inr (6, [.ref b0, .ref b1, .ref b2, .ref b3, .int rs, .int vc, .int wv, .int bw])), (o0, .inl (cl, 1, .inr (.inl fo)))] sz) := by
  refine va_MetW (hh := [(0, 9, 12, 13), (0, 9, 15, 15)]) (cc := method_3_code) (maxL := 4) (ret := (some .int)) (by decide) rfl ?_
  intro p e s m args below meth c s₁ B hml hv
  obtain ⟨rfl, hsz, hP, hK, hD0⟩ := hv
  have hx := B.exec
  have hb := B.bytes
  have hr := B.returns
  have hw : ∀ w ∈ bg_W, w.before #[Value.ref h0, Value.int p0, Value.ref o0] s = true := fun w h => atoms_spec (ws := (wh y_Lw_variables method_3_code 4 (some .int) [(0, 9, 12, 13), (0, 9, 15, 15)])) B.pre w (List.mem_cons_of_mem _ h)
  have hown : s.vm.findClass R_Lw = some m.cls := findClass_of_methodNamed B.named
  have hlocks := B.notSynchronized
  subst hsz
  have hD := hD0.self (sz := s.heap.size)
  generalize hAe : va_A [(h0, .inr (6, [.ref b0, .ref b1, .ref b2, .ref b3, .int rs, .int vc, .int wv, .int bw])), (o0, .inl (cl, 1, .inr (.inl fo)))] s.heap.size = A at hD ⊢
  have hA : ∀ q : Nat, s.heap.size ≤ q → A q := fun q h => by rw [← hAe]; exact Or.inr h
  have hS : va_S A s.heap s.heap [] := va_S.rf
  have hP : va_P (dC, dI) vwCl [(h0, .inr (6, [.ref b0, .ref b1, .ref b2, .ref b3, .int rs, .int vc, .int wv, .int bw])), (o0, .inl (cl, 1, .inr (.inl fo)))] s.heap := hP
  have hl := lv_entry ([.ref h0, .int p0, .ref o0]) (n := 4) (Nat.le_of_ble_eq_true rfl)
  rw [lg_entry_eq]
  generalize (lg_sl ([.ref h0, .int p0, .ref o0]) ++ List.replicate (4 - (lg_sl ([.ref h0, .int p0, .ref o0])).length) Slot.unset).toArray = ls at hl ⊢
  have hl : lv_has ls 4 [(0, .ref h0), (1, .int p0), (2, .ref o0)] := hl
  obtain ⟨H, hH⟩ : ∃ H : Heap, H = s.heap := ⟨_, rfl⟩
  rw [← hH] at hP
  have hS : va_S A s.heap H [] := by rw [hH]; exact va_S.rf
  show W p l e _ s m _ below meth c s.heap [] 0 0 _ _
  rw [← hH]
  have hTab := th_table B (atoms_spec (ws := (wh y_Lw_variables method_3_code 4 (some .int) [(0, 9, 12, 13), (0, 9, 15, 15)])) B.pre _ List.mem_cons_self)
  refine lv_aload_n hx hb d_Lw_variables_0 rfl (lv_at hl 2 rfl) ?_
  refine lv_iconst (v := 0) hx hb d_Lw_variables_1 (by decide) ?_
  refine lv_aload_n hx hb d_Lw_variables_2 rfl (lv_at hl 0 rfl) ?_
  refine lv_iload_n hx hb d_Lw_variables_3 rfl (lv_at hl 1 rfl) ?_
  have hPc := hP.sub (ws' := [(h0, .inr (6, [.ref b0, .ref b1, .ref b2, .ref b3, .int rs, .int vc, .int wv, .int bw]))]) [0] rfl
  have hDc := hD.sub (ws' := [(h0, .inr (6, [.ref b0, .ref b1, .ref b2, .ref b3, .int rs, .int vc, .int wv, .int bw]))]) [0] (by decide) rfl
  have hKc := hK.sub (tys' := []) [] rfl
  have hFc := va_free (wc := [(h0, .inr (6, [.ref b0, .ref b1, .ref b2, .ref b3, .int rs, .int vc, .int wv, .int bw]))]) hD hS hA [0] rfl
  refine va_calli (va_runV (As := [.int p0]) (rest := [.int 0, .ref o0]) ⟨hx, hb, hml, hown, hw⟩ (c_Cs_variables l dC dI h0 b0 b1 b2 b3 H.size rs vc wv bw p0 h1 h2 h3) (cb_V (C := R_Cs) 1 hw k_453 k_29 k_450 k_451 k_452 rfl rfl (by decide +kernel) ⟨Nat.le_of_ble_eq_true rfl, Nat.le_of_ble_eq_true rfl⟩) ⟨fun a U g mk q => by obtain ⟨q0, q1, qP, qK, qD⟩ := q; exact ⟨q0, q1, qP, va_K.moved (u := U) (U := U.calling g mk a) (Vm.Alike.refl U.vm) qK, qD⟩, va_recv hKc hPc (ci := 6) (q0 := 0) rfl rfl, fun U hU hW => ⟨rfl, by rw [hU], by rw [hU]; exact hPc, va_K.moved hW.alike hKc, hDc.weaken (fun _ _ _ _ => trivial)⟩⟩ rfl rfl hl.1 rfl (lv_room (Nat.le_of_ble_eq_true rfl)) d_Lw_variables_4 ⟨Nat.le_of_ble_eq_true rfl, Nat.le_of_ble_eq_true rfl⟩) hS (fun q _ h => hFc q h) hFc (fun r_1 u t H1 locs ht hvm hw9 hB hz1 hk1 hS => ?_)
  obtain ⟨hP1, hK1, hD1⟩ := hB
  rw [ht] at hP1
  have hK1 := va_K.moved hvm.symm hK1
  obtain ⟨hP, hD⟩ := va_join (wr := [(o0, .inl (cl, 1, .inr (.inl fo)))]) (w1 := [(h0, .inr (6, [.ref b0, .ref b1, .ref b2, .ref b3, .int rs, .int (vc + p0), .int 0, .int bw]))]) hP hD [0] [1] rfl rfl (by decide) (by decide) hk1 hFc hP1 hD1
  generalize H1 = H at hP hS ⊢
  have hP : va_P (dC, dI) vwCl [(o0, .inl (cl, 1, .inr (.inl fo))), (h0, .inr (6, [.ref b0, .ref b1, .ref b2, .ref b3, .int rs, .int (vc + p0), .int 0, .int bw]))] H := hP
  have hD : va_D A [(o0, .inl (cl, 1, .inr (.inl fo))), (h0, .inr (6, [.ref b0, .ref b1, .ref b2, .ref b3, .int rs, .int (vc + p0), .int 0, .int bw]))] := hD
  refine W.widen (k := 0) (n := 0) (by decide) (by decide) ?_
  have hw9 : r_1 = vc + p0 := hw9
  subst hw9
  refine lv_i2l (v := (vc + p0 : Int32).toInt64) hx hb d_Lw_variables_7 rfl ?_
  refine va_last hx hb hK hP hD hS 0 0 rfl rfl (by unfold vp_in; decide) d_Lw_variables_8 (fun H locs hP hD hS => ?_)
  have hP : va_P (dC, dI) vwCl [(o0, .inl (cl, 1, .inr (.inl (vp_updL fo ((0 : Int32).toNatClampNeg) ((vc + p0 : Int32).toInt64))))), (h0, .inr (6, [.ref b0, .ref b1, .ref b2, .ref b3, .int rs, .int (vc + p0), .int 0, .int bw]))] H := hP
  have hD : va_D A [(o0, .inl (cl, 1, .inr (.inl (vp_updL fo ((0 : Int32).toNatClampNeg) ((vc + p0 : Int32).toInt64))))), (h0, .inr (6, [.ref b0, .ref b1, .ref b2, .ref b3, .int rs, .int (vc + p0), .int 0, .int bw]))] := hD
  refine lv_goto (tgt := 18) hx hb d_Lw_variables_9 (by decide) ?_
  refine lv_iconst (v := 0) hx hb d_Lw_variables_18 (by decide) ?_
  refine W.widen (k := 0) (n := 0) (by decide) (by decide) ?_
  exact W.iret (v := 0) hx hb hr (fun t ht hW => ⟨⟨0, (), rfl, rfl, by rw [ht]; exact hP, va_K.moved hW.alike hK, hD⟩, hS.F ht⟩) hS.2.2 d_Lw_variables_19

set_option maxHeartbeats 4000000 in
set_option maxRecDepth 100000 in
/-- the helper of variables, where n is refused -/
theorem c_Lw_variables_1 (l : Launch) (hfl : l.flags = pinnedFlags ++ [noTraceFlag]) (dC : Nat → ClassId) (dI : Nat → Nat → Nat) (h0 : Nat) (b0 : Nat) (b1 : Nat) (b2 : Nat) (b3 : Nat) (o0 : Nat) (cl : ClassId) (sz lim : Nat) (rs : Int32) (vc : Int32) (wv : Int32) (bw : Int32) (p0 : Int32) (fo : Nat → Int64) (h : p0 < 1 ∨ 400 < p0) : Met l y_Lw_variables (wh y_Lw_variables method_3_code 4 (some .int) [(0, 9, 12, 13), (0, 9, 15, 15)]) ({ frames := 7, cells := 1, slots := 6, locals := 111 }) (va_Pc [.ref h0, .int p0, .ref o0] (fun U => U.heap.size = sz ∧ va_P (dC, dI) vwCl [(h0, .inr (6, [.ref b0, .ref b1, .ref b2, .ref b3, .int rs, .int vc, .int wv, .int bw])), (o0, .inl (cl, 1, .inr (.inl fo)))] U.heap ∧ va_K (dC, dI) vwCl [(cl, .long)] U ∧ va_D (fun _ => True) [(h0, .inr (6, [.ref b0, .ref b1, .ref b2, .ref b3, .int rs, .int vc, .int wv, .int bw])), (o0, .inl (cl, 1, .inr (.inl fo)))] ∧ tw_Z U U.heap lim)) (va_Qi (fun (r : Int32) (_ : Unit) => r = 1) (fun (_ : Unit) t => va_P (dC, dI) vwCl [(h0, .inr (6, [.ref b0, .ref b1, .ref b2, .ref b3, .int rs, .int vc, .int wv, .int bw])), (o0, .inl (cl, 1, .inr (.inl fo)))] t.heap ∧ va_K (dC, dI) vwCl [(cl, .long)] t ∧ va_D (va_A [(h0, .inr (6, [.ref b0, .ref b1, .ref b2, .ref b3, .int rs, .int vc, .int wv, .int bw])), (o0, .inl (cl, 1, .inr (.inl fo)))] sz) [(h0, .inr (6, [.ref b0, .ref b1, .ref b2, .ref b3, .int rs, .int vc, .int wv, .int bw])), (o0, .inl (cl, 1, .inr (.inl fo)))]) (va_A [(h0, .inr (6, [.ref b0, .ref b1, .ref b2, .ref b3, .int rs, .int vc, .int wv, .int bw])), (o0, .inl (cl, 1, .inr (.inl fo)))] sz)) 1 6 (va_A [(h0, .inr (6, [.ref b0, .ref b1, .ref b2, .ref b3, .int rs, .int vc, .int wv, .int bw])), (o0, .inl (cl, 1, .inr (.inl fo)))] sz) := by
  refine va_MetW (hh := [(0, 9, 12, 13), (0, 9, 15, 15)]) (cc := method_3_code) (maxL := 4) (ret := (some .int)) (by decide) rfl ?_
  intro p e s m args below meth c s₁ B hml hv
  obtain ⟨rfl, hsz, hP, hK, hD0, hz⟩ := hv
  have hx := B.exec
  have hb := B.bytes
  have hr := B.returns
  have hw : ∀ w ∈ bg_W, w.before #[Value.ref h0, Value.int p0, Value.ref o0] s = true := fun w h => atoms_spec (ws := (wh y_Lw_variables method_3_code 4 (some .int) [(0, 9, 12, 13), (0, 9, 15, 15)])) B.pre w (List.mem_cons_of_mem _ h)
  have hown : s.vm.findClass R_Lw = some m.cls := findClass_of_methodNamed B.named
  have hlocks := B.notSynchronized
  subst hsz
  have hD := hD0.self (sz := s.heap.size)
  generalize hAe : va_A [(h0, .inr (6, [.ref b0, .ref b1, .ref b2, .ref b3, .int rs, .int vc, .int wv, .int bw])), (o0, .inl (cl, 1, .inr (.inl fo)))] s.heap.size = A at hD ⊢
  have hA : ∀ q : Nat, s.heap.size ≤ q → A q := fun q h => by rw [← hAe]; exact Or.inr h
  have hS : va_S A s.heap s.heap [] := va_S.rf
  have hP : va_P (dC, dI) vwCl [(h0, .inr (6, [.ref b0, .ref b1, .ref b2, .ref b3, .int rs, .int vc, .int wv, .int bw])), (o0, .inl (cl, 1, .inr (.inl fo)))] s.heap := hP
  have hl := lv_entry ([.ref h0, .int p0, .ref o0]) (n := 4) (Nat.le_of_ble_eq_true rfl)
  rw [lg_entry_eq]
  generalize (lg_sl ([.ref h0, .int p0, .ref o0]) ++ List.replicate (4 - (lg_sl ([.ref h0, .int p0, .ref o0])).length) Slot.unset).toArray = ls at hl ⊢
  have hl : lv_has ls 4 [(0, .ref h0), (1, .int p0), (2, .ref o0)] := hl
  obtain ⟨H, hH⟩ : ∃ H : Heap, H = s.heap := ⟨_, rfl⟩
  rw [← hH] at hP
  have hS : va_S A s.heap H [] := by rw [hH]; exact va_S.rf
  show W p l e _ s m _ below meth c s.heap [] 0 0 _ _
  rw [← hH]
  have hTab := th_table B (atoms_spec (ws := (wh y_Lw_variables method_3_code 4 (some .int) [(0, 9, 12, 13), (0, 9, 15, 15)])) B.pre _ List.mem_cons_self)
  refine lv_aload_n hx hb d_Lw_variables_0 rfl (lv_at hl 2 rfl) ?_
  refine lv_iconst (v := 0) hx hb d_Lw_variables_1 (by decide) ?_
  refine lv_aload_n hx hb d_Lw_variables_2 rfl (lv_at hl 0 rfl) ?_
  refine lv_iload_n hx hb d_Lw_variables_3 rfl (lv_at hl 1 rfl) ?_
  have hPc := hP.sub (ws' := [(h0, .inr (6, [.ref b0, .ref b1, .ref b2, .ref b3, .int rs, .int vc, .int wv, .int bw]))]) [0] rfl
  have hDc := hD.sub (ws' := [(h0, .inr (6, [.ref b0, .ref b1, .ref b2, .ref b3, .int rs, .int vc, .int wv, .int bw]))]) [0] (by decide) rfl
  have hKc := hK.sub (tys' := []) [] rfl
  refine tw_call (As := [.int p0]) (rest := [.int 0, .ref o0]) ⟨hx, hb, hml, hown, hw⟩ (x_Cs_variables_1 l hfl dC dI h0 b0 b1 b2 b3 H.size lim rs vc wv bw p0 h) (cb_V (C := R_Cs) 1 hw k_453 k_29 k_450 k_451 k_452 rfl rfl (by decide +kernel) ⟨Nat.le_of_ble_eq_true rfl, Nat.le_of_ble_eq_true rfl⟩) ⟨fun a U g mk q => by obtain ⟨q0, q1, qP, qK, qD, qZ⟩ := q; exact ⟨q0, q1, qP, va_K.moved (u := U) (U := U.calling g mk a) (Vm.Alike.refl U.vm) qK, qD, tw_Z.moved (u := U) (U := U.calling g mk a) (Vm.Alike.refl U.vm) qZ⟩, va_recv hKc hPc (ci := 6) (q0 := 0) rfl rfl, fun U hU hW => ⟨rfl, by rw [hU], by rw [hU]; exact hPc, va_K.moved hW.alike hKc, hDc.weaken (fun _ _ _ _ => trivial), by rw [hU, hH]; exact hz.moved hW.alike⟩⟩ rfl hl.1 rfl (lv_room (Nat.le_of_ble_eq_true rfl)) d_Lw_variables_4 ⟨Nat.le_of_ble_eq_true rfl, Nat.le_of_ble_eq_true rfl⟩ (x := ⟨0, 9, 12, 13⟩) (more := [⟨0, 9, 15, 15⟩]) hTab (by decide) (by decide) (hw (Cond.classLink "ClauseSearchLaw" 13 "java/lang/IllegalArgumentException") k_448) (hw (Cond.castable "java/lang/IllegalArgumentException" "java/lang/IllegalArgumentException") k_456) (fun a9 H1 hle9 hk9 => ?_)
  have hP : va_P (dC, dI) vwCl [(h0, .inr (6, [.ref b0, .ref b1, .ref b2, .ref b3, .int rs, .int vc, .int wv, .int bw])), (o0, .inl (cl, 1, .inr (.inl fo)))] H1 := fun k q h => (hP k q h).kept (hk9 q.1 (hP k q h).lt)
  have hS : va_S A s.heap H1 [] := ⟨Nat.le_trans hS.1 hle9, fun q hq hA9 => (hk9 q (Nat.lt_of_lt_of_le hq hS.1)).trans (hS.2.1 q hq hA9), hS.2.2⟩
  generalize H1 = H at hP hS ⊢
  refine W.widen (k := 1) (n := 6) (by decide) (by decide) ?_
  refine lv_astore_n (lv' := [(3, .ref a9), (0, .ref h0), (1, .int p0), (2, .ref o0)]) hx hb d_Lw_variables_12 rfl hl (by decide) rfl (fun ls hl => ?_)
  refine lv_iconst (v := 1) hx hb d_Lw_variables_13 (by decide) ?_
  refine W.widen (k := 1) (n := 6) (by decide) (by decide) ?_
  exact W.iret (v := 1) hx hb hr (fun t ht hW => ⟨⟨1, (), rfl, rfl, by rw [ht]; exact hP, va_K.moved hW.alike hK, hD⟩, hS.F ht⟩) hS.2.2 d_Lw_variables_14

set_option maxHeartbeats 4000000 in
set_option maxRecDepth 100000 in
/-- the helper of give, where l is refused -/
theorem c_Lw_give_1 (l : Launch) (hfl : l.flags = pinnedFlags ++ [noTraceFlag]) (dC : Nat → ClassId) (dI : Nat → Nat → Nat) (h0 : Nat) (b0 : Nat) (b1 : Nat) (b2 : Nat) (b3 : Nat) (o0 : Nat) (cl : ClassId) (sz lim : Nat) (rs : Int32) (vc : Int32) (wv : Int32) (bw : Int32) (p0 : Int32) (fo : Nat → Int64) (h : p0 = 0 ∨ vc < p0 ∨ p0 < -vc) : Met l y_Lw_give (wh y_Lw_give method_4_code 4 (some .int) [(0, 9, 12, 13), (0, 9, 15, 15)]) ({ frames := 7, cells := 1, slots := 6, locals := 111 }) (va_Pc [.ref h0, .int p0, .ref o0] (fun U => U.heap.size = sz ∧ va_P (dC, dI) vwCl [(h0, .inr (6, [.ref b0, .ref b1, .ref b2, .ref b3, .int rs, .int vc, .int wv, .int bw])), (o0, .inl (cl, 1, .inr (.inl fo)))] U.heap ∧ va_K (dC, dI) vwCl [(cl, .long)] U ∧ va_D (fun _ => True) [(h0, .inr (6, [.ref b0, .ref b1, .ref b2, .ref b3, .int rs, .int vc, .int wv, .int bw])), (o0, .inl (cl, 1, .inr (.inl fo)))] ∧ tw_Z U U.heap lim)) (va_Qi (fun (r : Int32) (_ : Unit) => r = 1) (fun (_ : Unit) t => va_P (dC, dI) vwCl [(h0, .inr (6, [.ref b0, .ref b1, .ref b2, .ref b3, .int rs, .int vc, .int wv, .int bw])), (o0, .inl (cl, 1, .inr (.inl fo)))] t.heap ∧ va_K (dC, dI) vwCl [(cl, .long)] t ∧ va_D (va_A [(h0, .inr (6, [.ref b0, .ref b1, .ref b2, .ref b3, .int rs, .int vc, .int wv, .int bw])), (o0, .inl (cl, 1, .inr (.inl fo)))] sz) [(h0, .inr (6, [.ref b0, .ref b1, .ref b2, .ref b3, .int rs, .int vc, .int wv, .int bw])), (o0, .inl (cl, 1, .inr (.inl fo)))]) (va_A [(h0, .inr (6, [.ref b0, .ref b1, .ref b2, .ref b3, .int rs, .int vc, .int wv, .int bw])), (o0, .inl (cl, 1, .inr (.inl fo)))] sz)) 1 6 (va_A [(h0, .inr (6, [.ref b0, .ref b1, .ref b2, .ref b3, .int rs, .int vc, .int wv, .int bw])), (o0, .inl (cl, 1, .inr (.inl fo)))] sz) := by
  refine va_MetW (hh := [(0, 9, 12, 13), (0, 9, 15, 15)]) (cc := method_4_code) (maxL := 4) (ret := (some .int)) (by decide) rfl ?_
  intro p e s m args below meth c s₁ B hml hv
  obtain ⟨rfl, hsz, hP, hK, hD0, hz⟩ := hv
  have hx := B.exec
  have hb := B.bytes
  have hr := B.returns
  have hw : ∀ w ∈ bg_W, w.before #[Value.ref h0, Value.int p0, Value.ref o0] s = true := fun w h => atoms_spec (ws := (wh y_Lw_give method_4_code 4 (some .int) [(0, 9, 12, 13), (0, 9, 15, 15)])) B.pre w (List.mem_cons_of_mem _ h)
  have hown : s.vm.findClass R_Lw = some m.cls := findClass_of_methodNamed B.named
  have hlocks := B.notSynchronized
  subst hsz
  have hD := hD0.self (sz := s.heap.size)
  generalize hAe : va_A [(h0, .inr (6, [.ref b0, .ref b1, .ref b2, .ref b3, .int rs, .int vc, .int wv, .int bw])), (o0, .inl (cl, 1, .inr (.inl fo)))] s.heap.size = A at hD ⊢
  have hA : ∀ q : Nat, s.heap.size ≤ q → A q := fun q h => by rw [← hAe]; exact Or.inr h
  have hS : va_S A s.heap s.heap [] := va_S.rf
  have hP : va_P (dC, dI) vwCl [(h0, .inr (6, [.ref b0, .ref b1, .ref b2, .ref b3, .int rs, .int vc, .int wv, .int bw])), (o0, .inl (cl, 1, .inr (.inl fo)))] s.heap := hP
  have hl := lv_entry ([.ref h0, .int p0, .ref o0]) (n := 4) (Nat.le_of_ble_eq_true rfl)
  rw [lg_entry_eq]
  generalize (lg_sl ([.ref h0, .int p0, .ref o0]) ++ List.replicate (4 - (lg_sl ([.ref h0, .int p0, .ref o0])).length) Slot.unset).toArray = ls at hl ⊢
  have hl : lv_has ls 4 [(0, .ref h0), (1, .int p0), (2, .ref o0)] := hl
  obtain ⟨H, hH⟩ : ∃ H : Heap, H = s.heap := ⟨_, rfl⟩
  rw [← hH] at hP
  have hS : va_S A s.heap H [] := by rw [hH]; exact va_S.rf
  show W p l e _ s m _ below meth c s.heap [] 0 0 _ _
  rw [← hH]
  have hTab := th_table B (atoms_spec (ws := (wh y_Lw_give method_4_code 4 (some .int) [(0, 9, 12, 13), (0, 9, 15, 15)])) B.pre _ List.mem_cons_self)
  refine lv_aload_n hx hb d_Lw_give_0 rfl (lv_at hl 2 rfl) ?_
  refine lv_iconst (v := 0) hx hb d_Lw_give_1 (by decide) ?_
  refine lv_aload_n hx hb d_Lw_give_2 rfl (lv_at hl 0 rfl) ?_
  refine lv_iload_n hx hb d_Lw_give_3 rfl (lv_at hl 1 rfl) ?_
  have hPc := hP.sub (ws' := [(h0, .inr (6, [.ref b0, .ref b1, .ref b2, .ref b3, .int rs, .int vc, .int wv, .int bw]))]) [0] rfl
  have hDc := hD.sub (ws' := [(h0, .inr (6, [.ref b0, .ref b1, .ref b2, .ref b3, .int rs, .int vc, .int wv, .int bw]))]) [0] (by decide) rfl
  have hKc := hK.sub (tys' := []) [] rfl
  refine tw_call (As := [.int p0]) (rest := [.int 0, .ref o0]) ⟨hx, hb, hml, hown, hw⟩ (x_Cs_give_1 l hfl dC dI h0 b0 b1 b2 b3 H.size lim rs vc wv bw p0 h) (cb_V (C := R_Cs) 1 hw k_543 k_29 k_540 k_541 k_542 rfl rfl (by decide +kernel) ⟨Nat.le_of_ble_eq_true rfl, Nat.le_of_ble_eq_true rfl⟩) ⟨fun a U g mk q => by obtain ⟨q0, q1, qP, qK, qD, qZ⟩ := q; exact ⟨q0, q1, qP, va_K.moved (u := U) (U := U.calling g mk a) (Vm.Alike.refl U.vm) qK, qD, tw_Z.moved (u := U) (U := U.calling g mk a) (Vm.Alike.refl U.vm) qZ⟩, va_recv hKc hPc (ci := 6) (q0 := 0) rfl rfl, fun U hU hW => ⟨rfl, by rw [hU], by rw [hU]; exact hPc, va_K.moved hW.alike hKc, hDc.weaken (fun _ _ _ _ => trivial), by rw [hU, hH]; exact hz.moved hW.alike⟩⟩ rfl hl.1 rfl (lv_room (Nat.le_of_ble_eq_true rfl)) d_Lw_give_4 ⟨Nat.le_of_ble_eq_true rfl, Nat.le_of_ble_eq_true rfl⟩ (x := ⟨0, 9, 12, 13⟩) (more := [⟨0, 9, 15, 15⟩]) hTab (by decide) (by decide) (hw (Cond.classLink "ClauseSearchLaw" 13 "java/lang/IllegalArgumentException") k_448) (hw (Cond.castable "java/lang/IllegalArgumentException" "java/lang/IllegalArgumentException") k_456) (fun a9 H1 hle9 hk9 => ?_)
  have hP : va_P (dC, dI) vwCl [(h0, .inr (6, [.ref b0, .ref b1, .ref b2, .ref b3, .int rs, .int vc, .int wv, .int bw])), (o0, .inl (cl, 1, .inr (.inl fo)))] H1 := fun k q h => (hP k q h).kept (hk9 q.1 (hP k q h).lt)
  have hS : va_S A s.heap H1 [] := ⟨Nat.le_trans hS.1 hle9, fun q hq hA9 => (hk9 q (Nat.lt_of_lt_of_le hq hS.1)).trans (hS.2.1 q hq hA9), hS.2.2⟩
  generalize H1 = H at hP hS ⊢
  refine W.widen (k := 1) (n := 6) (by decide) (by decide) ?_
  refine lv_astore_n (lv' := [(3, .ref a9), (0, .ref h0), (1, .int p0), (2, .ref o0)]) hx hb d_Lw_give_12 rfl hl (by decide) rfl (fun ls hl => ?_)
  refine lv_iconst (v := 1) hx hb d_Lw_give_13 (by decide) ?_
  refine W.widen (k := 1) (n := 6) (by decide) (by decide) ?_
  exact W.iret (v := 1) hx hb hr (fun t ht hW => ⟨⟨1, (), rfl, rfl, by rw [ht]; exact hP, va_K.moved hW.alike hK, hD⟩, hS.F ht⟩) hS.2.2 d_Lw_give_14

set_option maxHeartbeats 4000000 in
set_option maxRecDepth 100000 in
/-- the helper of clause, where the row is empty -/
theorem c_Lw_clause_1 (l : Launch) (hfl : l.flags = pinnedFlags ++ [noTraceFlag]) (dC : Nat → ClassId) (dI : Nat → Nat → Nat) (h0 : Nat) (b0 : Nat) (b1 : Nat) (b2 : Nat) (b3 : Nat) (o0 : Nat) (cl : ClassId) (sz lim : Nat) (rs : Int32) (vc : Int32) (wv : Int32) (bw : Int32) (fo : Nat → Int64) (h : rs = 0) : Met l y_Lw_clause (wh y_Lw_clause method_5_code 3 (some .int) [(0, 8, 11, 24), (0, 8, 14, 15)]) ({ frames := 7, cells := 1, slots := 6, locals := 110 }) (va_Pc [.ref h0, .ref o0] (fun U => U.heap.size = sz ∧ va_P (dC, dI) vwCl [(h0, .inr (6, [.ref b0, .ref b1, .ref b2, .ref b3, .int rs, .int vc, .int wv, .int bw])), (o0, .inl (cl, 1, .inr (.inl fo)))] U.heap ∧ va_K (dC, dI) vwCl [(cl, .long)] U ∧ va_D (fun _ => True) [(h0, .inr (6, [.ref b0, .ref b1, .ref b2, .ref b3, .int rs, .int vc, .int wv, .int bw])), (o0, .inl (cl, 1, .inr (.inl fo)))] ∧ tw_Z U U.heap lim)) (va_Qi (fun (r : Int32) (_ : Unit) => r = 1) (fun (_ : Unit) t => va_P (dC, dI) vwCl [(h0, .inr (6, [.ref b0, .ref b1, .ref b2, .ref b3, .int rs, .int vc, .int wv, .int bw])), (o0, .inl (cl, 1, .inr (.inl fo)))] t.heap ∧ va_K (dC, dI) vwCl [(cl, .long)] t ∧ va_D (va_A [(h0, .inr (6, [.ref b0, .ref b1, .ref b2, .ref b3, .int rs, .int vc, .int wv, .int bw])), (o0, .inl (cl, 1, .inr (.inl fo)))] sz) [(h0, .inr (6, [.ref b0, .ref b1, .ref b2, .ref b3, .int rs, .int vc, .int wv, .int bw])), (o0, .inl (cl, 1, .inr (.inl fo)))]) (va_A [(h0, .inr (6, [.ref b0, .ref b1, .ref b2, .ref b3, .int rs, .int vc, .int wv, .int bw])), (o0, .inl (cl, 1, .inr (.inl fo)))] sz)) 1 6 (va_A [(h0, .inr (6, [.ref b0, .ref b1, .ref b2, .ref b3, .int rs, .int vc, .int wv, .int bw])), (o0, .inl (cl, 1, .inr (.inl fo)))] sz) := by
  refine va_MetW (hh := [(0, 8, 11, 24), (0, 8, 14, 15)]) (cc := method_5_code) (maxL := 3) (ret := (some .int)) (by decide) rfl ?_
  intro p e s m args below meth c s₁ B hml hv
  obtain ⟨rfl, hsz, hP, hK, hD0, hz⟩ := hv
  have hx := B.exec
  have hb := B.bytes
  have hr := B.returns
  have hw : ∀ w ∈ bg_W, w.before #[Value.ref h0, Value.ref o0] s = true := fun w h => atoms_spec (ws := (wh y_Lw_clause method_5_code 3 (some .int) [(0, 8, 11, 24), (0, 8, 14, 15)])) B.pre w (List.mem_cons_of_mem _ h)
  have hown : s.vm.findClass R_Lw = some m.cls := findClass_of_methodNamed B.named
  have hlocks := B.notSynchronized
  subst hsz
  have hD := hD0.self (sz := s.heap.size)
  generalize hAe : va_A [(h0, .inr (6, [.ref b0, .ref b1, .ref b2, .ref b3, .int rs, .int vc, .int wv, .int bw])), (o0, .inl (cl, 1, .inr (.inl fo)))] s.heap.size = A at hD ⊢
  have hA : ∀ q : Nat, s.heap.size ≤ q → A q := fun q h => by rw [← hAe]; exact Or.inr h
  have hS : va_S A s.heap s.heap [] := va_S.rf
  have hP : va_P (dC, dI) vwCl [(h0, .inr (6, [.ref b0, .ref b1, .ref b2, .ref b3, .int rs, .int vc, .int wv, .int bw])), (o0, .inl (cl, 1, .inr (.inl fo)))] s.heap := hP
  have hl := lv_entry ([.ref h0, .ref o0]) (n := 3) (Nat.le_of_ble_eq_true rfl)
  rw [lg_entry_eq]
  generalize (lg_sl ([.ref h0, .ref o0]) ++ List.replicate (3 - (lg_sl ([.ref h0, .ref o0])).length) Slot.unset).toArray = ls at hl ⊢
  have hl : lv_has ls 3 [(0, .ref h0), (1, .ref o0)] := hl
  obtain ⟨H, hH⟩ : ∃ H : Heap, H = s.heap := ⟨_, rfl⟩
  rw [← hH] at hP
  have hS : va_S A s.heap H [] := by rw [hH]; exact va_S.rf
  show W p l e _ s m _ below meth c s.heap [] 0 0 _ _
  rw [← hH]
  have hTab := th_table B (atoms_spec (ws := (wh y_Lw_clause method_5_code 3 (some .int) [(0, 8, 11, 24), (0, 8, 14, 15)])) B.pre _ List.mem_cons_self)
  refine lv_aload_n hx hb d_Lw_clause_0 rfl (lv_at hl 1 rfl) ?_
  refine lv_iconst (v := 0) hx hb d_Lw_clause_1 (by decide) ?_
  refine lv_aload_n hx hb d_Lw_clause_2 rfl (lv_at hl 0 rfl) ?_
  have hPc := hP.sub (ws' := [(h0, .inr (6, [.ref b0, .ref b1, .ref b2, .ref b3, .int rs, .int vc, .int wv, .int bw]))]) [0] rfl
  have hDc := hD.sub (ws' := [(h0, .inr (6, [.ref b0, .ref b1, .ref b2, .ref b3, .int rs, .int vc, .int wv, .int bw]))]) [0] (by decide) rfl
  have hKc := hK.sub (tys' := []) [] rfl
  refine tw_call (As := []) (rest := [.int 0, .ref o0]) ⟨hx, hb, hml, hown, hw⟩ (x_Cs_clause_1 l hfl dC dI h0 b0 b1 b2 b3 H.size lim rs vc wv bw h) (cb_V (C := R_Cs) 0 hw k_553 k_29 k_550 k_551 k_552 rfl rfl (by decide +kernel) ⟨Nat.le_of_ble_eq_true rfl, Nat.le_of_ble_eq_true rfl⟩) ⟨fun a U g mk q => by obtain ⟨q0, q1, qP, qK, qD, qZ⟩ := q; exact ⟨q0, q1, qP, va_K.moved (u := U) (U := U.calling g mk a) (Vm.Alike.refl U.vm) qK, qD, tw_Z.moved (u := U) (U := U.calling g mk a) (Vm.Alike.refl U.vm) qZ⟩, va_recv hKc hPc (ci := 6) (q0 := 0) rfl rfl, fun U hU hW => ⟨rfl, by rw [hU], by rw [hU]; exact hPc, va_K.moved hW.alike hKc, hDc.weaken (fun _ _ _ _ => trivial), by rw [hU, hH]; exact hz.moved hW.alike⟩⟩ rfl hl.1 rfl (lv_room (Nat.le_of_ble_eq_true rfl)) d_Lw_clause_3 ⟨Nat.le_of_ble_eq_true rfl, Nat.le_of_ble_eq_true rfl⟩ (x := ⟨0, 8, 11, 24⟩) (more := [⟨0, 8, 14, 15⟩]) hTab (by decide) (by decide) (hw (Cond.classLink "ClauseSearchLaw" 24 "java/lang/IllegalStateException") k_549) (hw (Cond.castable "java/lang/IllegalStateException" "java/lang/IllegalStateException") k_556) (fun a9 H1 hle9 hk9 => ?_)
  have hP : va_P (dC, dI) vwCl [(h0, .inr (6, [.ref b0, .ref b1, .ref b2, .ref b3, .int rs, .int vc, .int wv, .int bw])), (o0, .inl (cl, 1, .inr (.inl fo)))] H1 := fun k q h => (hP k q h).kept (hk9 q.1 (hP k q h).lt)
  have hS : va_S A s.heap H1 [] := ⟨Nat.le_trans hS.1 hle9, fun q hq hA9 => (hk9 q (Nat.lt_of_lt_of_le hq hS.1)).trans (hS.2.1 q hq hA9), hS.2.2⟩
  generalize H1 = H at hP hS ⊢
  refine W.widen (k := 1) (n := 6) (by decide) (by decide) ?_
  refine lv_astore_n (lv' := [(2, .ref a9), (0, .ref h0), (1, .ref o0)]) hx hb d_Lw_clause_11 rfl hl (by decide) rfl (fun ls hl => ?_)
  refine lv_iconst (v := 1) hx hb d_Lw_clause_12 (by decide) ?_
  refine W.widen (k := 1) (n := 6) (by decide) (by decide) ?_
  exact W.iret (v := 1) hx hb hr (fun t ht hW => ⟨⟨1, (), rfl, rfl, by rw [ht]; exact hP, va_K.moved hW.alike hK, hD⟩, hS.F ht⟩) hS.2.2 d_Lw_clause_13

set_option maxHeartbeats 4000000 in
set_option maxRecDepth 100000 in
/-- the helper of value, where v is refused -/
theorem c_Lw_value_1 (l : Launch) (hfl : l.flags = pinnedFlags ++ [noTraceFlag]) (dC : Nat → ClassId) (dI : Nat → Nat → Nat) (h0 : Nat) (b0 : Nat) (b1 : Nat) (b2 : Nat) (b3 : Nat) (o0 : Nat) (cl : ClassId) (sz lim : Nat) (rs : Int32) (vc : Int32) (wv : Int32) (bw : Int32) (p0 : Int32) (fo : Nat → Int64) (h : p0 < 1 ∨ vc < p0) : Met l y_Lw_value (wh y_Lw_value method_6_code 4 (some .int) [(0, 16, 19, 13), (0, 16, 22, 24)]) ({ frames := 7, cells := 1, slots := 6, locals := 111 }) (va_Pc [.ref h0, .int p0, .ref o0] (fun U => U.heap.size = sz ∧ va_P (dC, dI) vwCl [(h0, .inr (6, [.ref b0, .ref b1, .ref b2, .ref b3, .int rs, .int vc, .int wv, .int bw])), (o0, .inl (cl, 1, .inr (.inl fo)))] U.heap ∧ va_K (dC, dI) vwCl [(cl, .long)] U ∧ va_D (fun _ => True) [(h0, .inr (6, [.ref b0, .ref b1, .ref b2, .ref b3, .int rs, .int vc, .int wv, .int bw])), (o0, .inl (cl, 1, .inr (.inl fo)))] ∧ tw_Z U U.heap lim)) (va_Qi (fun (r : Int32) (_ : Unit) => r = 1) (fun (_ : Unit) t => va_P (dC, dI) vwCl [(h0, .inr (6, [.ref b0, .ref b1, .ref b2, .ref b3, .int rs, .int vc, .int wv, .int bw])), (o0, .inl (cl, 1, .inr (.inl fo)))] t.heap ∧ va_K (dC, dI) vwCl [(cl, .long)] t ∧ va_D (va_A [(h0, .inr (6, [.ref b0, .ref b1, .ref b2, .ref b3, .int rs, .int vc, .int wv, .int bw])), (o0, .inl (cl, 1, .inr (.inl fo)))] sz) [(h0, .inr (6, [.ref b0, .ref b1, .ref b2, .ref b3, .int rs, .int vc, .int wv, .int bw])), (o0, .inl (cl, 1, .inr (.inl fo)))]) (va_A [(h0, .inr (6, [.ref b0, .ref b1, .ref b2, .ref b3, .int rs, .int vc, .int wv, .int bw])), (o0, .inl (cl, 1, .inr (.inl fo)))] sz)) 1 6 (va_A [(h0, .inr (6, [.ref b0, .ref b1, .ref b2, .ref b3, .int rs, .int vc, .int wv, .int bw])), (o0, .inl (cl, 1, .inr (.inl fo)))] sz) := by
  refine va_MetW (hh := [(0, 16, 19, 13), (0, 16, 22, 24)]) (cc := method_6_code) (maxL := 4) (ret := (some .int)) (by decide) rfl ?_
  intro p e s m args below meth c s₁ B hml hv
  obtain ⟨rfl, hsz, hP, hK, hD0, hz⟩ := hv
  have hx := B.exec
  have hb := B.bytes
  have hr := B.returns
  have hw : ∀ w ∈ bg_W, w.before #[Value.ref h0, Value.int p0, Value.ref o0] s = true := fun w h => atoms_spec (ws := (wh y_Lw_value method_6_code 4 (some .int) [(0, 16, 19, 13), (0, 16, 22, 24)])) B.pre w (List.mem_cons_of_mem _ h)
  have hown : s.vm.findClass R_Lw = some m.cls := findClass_of_methodNamed B.named
  have hlocks := B.notSynchronized
  subst hsz
  have hD := hD0.self (sz := s.heap.size)
  generalize hAe : va_A [(h0, .inr (6, [.ref b0, .ref b1, .ref b2, .ref b3, .int rs, .int vc, .int wv, .int bw])), (o0, .inl (cl, 1, .inr (.inl fo)))] s.heap.size = A at hD ⊢
  have hA : ∀ q : Nat, s.heap.size ≤ q → A q := fun q h => by rw [← hAe]; exact Or.inr h
  have hS : va_S A s.heap s.heap [] := va_S.rf
  have hP : va_P (dC, dI) vwCl [(h0, .inr (6, [.ref b0, .ref b1, .ref b2, .ref b3, .int rs, .int vc, .int wv, .int bw])), (o0, .inl (cl, 1, .inr (.inl fo)))] s.heap := hP
  have hl := lv_entry ([.ref h0, .int p0, .ref o0]) (n := 4) (Nat.le_of_ble_eq_true rfl)
  rw [lg_entry_eq]
  generalize (lg_sl ([.ref h0, .int p0, .ref o0]) ++ List.replicate (4 - (lg_sl ([.ref h0, .int p0, .ref o0])).length) Slot.unset).toArray = ls at hl ⊢
  have hl : lv_has ls 4 [(0, .ref h0), (1, .int p0), (2, .ref o0)] := hl
  obtain ⟨H, hH⟩ : ∃ H : Heap, H = s.heap := ⟨_, rfl⟩
  rw [← hH] at hP
  have hS : va_S A s.heap H [] := by rw [hH]; exact va_S.rf
  show W p l e _ s m _ below meth c s.heap [] 0 0 _ _
  rw [← hH]
  have hTab := th_table B (atoms_spec (ws := (wh y_Lw_value method_6_code 4 (some .int) [(0, 16, 19, 13), (0, 16, 22, 24)])) B.pre _ List.mem_cons_self)
  refine lv_aload_n hx hb d_Lw_value_0 rfl (lv_at hl 2 rfl) ?_
  refine lv_iconst (v := 0) hx hb d_Lw_value_1 (by decide) ?_
  refine lv_aload_n hx hb d_Lw_value_2 rfl (lv_at hl 0 rfl) ?_
  refine lv_iload_n hx hb d_Lw_value_3 rfl (lv_at hl 1 rfl) ?_
  have hPc := hP.sub (ws' := [(h0, .inr (6, [.ref b0, .ref b1, .ref b2, .ref b3, .int rs, .int vc, .int wv, .int bw]))]) [0] rfl
  have hDc := hD.sub (ws' := [(h0, .inr (6, [.ref b0, .ref b1, .ref b2, .ref b3, .int rs, .int vc, .int wv, .int bw]))]) [0] (by decide) rfl
  have hKc := hK.sub (tys' := []) [] rfl
  refine tw_call (As := [.int p0]) (rest := [.int 0, .ref o0]) ⟨hx, hb, hml, hown, hw⟩ (x_Cs_value_1 l hfl dC dI h0 b0 b1 b2 b3 H.size lim rs vc wv bw p0 h) (cb_V (C := R_Cs) 1 hw k_586 k_29 k_583 k_584 k_585 rfl rfl (by decide +kernel) ⟨Nat.le_of_ble_eq_true rfl, Nat.le_of_ble_eq_true rfl⟩) ⟨fun a U g mk q => by obtain ⟨q0, q1, qP, qK, qD, qZ⟩ := q; exact ⟨q0, q1, qP, va_K.moved (u := U) (U := U.calling g mk a) (Vm.Alike.refl U.vm) qK, qD, tw_Z.moved (u := U) (U := U.calling g mk a) (Vm.Alike.refl U.vm) qZ⟩, va_recv hKc hPc (ci := 6) (q0 := 0) rfl rfl, fun U hU hW => ⟨rfl, by rw [hU], by rw [hU]; exact hPc, va_K.moved hW.alike hKc, hDc.weaken (fun _ _ _ _ => trivial), by rw [hU, hH]; exact hz.moved hW.alike⟩⟩ rfl hl.1 rfl (lv_room (Nat.le_of_ble_eq_true rfl)) d_Lw_value_4 ⟨Nat.le_of_ble_eq_true rfl, Nat.le_of_ble_eq_true rfl⟩ (x := ⟨0, 16, 19, 13⟩) (more := [⟨0, 16, 22, 24⟩]) hTab (by decide) (by decide) (hw (Cond.classLink "ClauseSearchLaw" 13 "java/lang/IllegalArgumentException") k_448) (hw (Cond.castable "java/lang/IllegalArgumentException" "java/lang/IllegalArgumentException") k_456) (fun a9 H1 hle9 hk9 => ?_)
  have hP : va_P (dC, dI) vwCl [(h0, .inr (6, [.ref b0, .ref b1, .ref b2, .ref b3, .int rs, .int vc, .int wv, .int bw])), (o0, .inl (cl, 1, .inr (.inl fo)))] H1 := fun k q h => (hP k q h).kept (hk9 q.1 (hP k q h).lt)
  have hS : va_S A s.heap H1 [] := ⟨Nat.le_trans hS.1 hle9, fun q hq hA9 => (hk9 q (Nat.lt_of_lt_of_le hq hS.1)).trans (hS.2.1 q hq hA9), hS.2.2⟩
  generalize H1 = H at hP hS ⊢
  refine W.widen (k := 1) (n := 6) (by decide) (by decide) ?_
  refine lv_astore_n (lv' := [(3, .ref a9), (0, .ref h0), (1, .int p0), (2, .ref o0)]) hx hb d_Lw_value_19 rfl hl (by decide) rfl (fun ls hl => ?_)
  refine lv_iconst (v := 1) hx hb d_Lw_value_20 (by decide) ?_
  refine W.widen (k := 1) (n := 6) (by decide) (by decide) ?_
  exact W.iret (v := 1) hx hb hr (fun t ht hW => ⟨⟨1, (), rfl, rfl, by rw [ht]; exact hP, va_K.moved hW.alike hK, hD⟩, hS.F ht⟩) hS.2.2 d_Lw_value_21

set_option maxHeartbeats 4000000 in
set_option maxRecDepth 100000 in
/-- the helper of count, where what is refused -/
theorem c_Lw_count_1 (l : Launch) (hfl : l.flags = pinnedFlags ++ [noTraceFlag]) (dC : Nat → ClassId) (dI : Nat → Nat → Nat) (h0 : Nat) (b0 : Nat) (b1 : Nat) (b2 : Nat) (b3 : Nat) (o0 : Nat) (cl : ClassId) (sz lim : Nat) (rs : Int32) (vc : Int32) (wv : Int32) (bw : Int32) (p0 : Int32) (fo : Nat → Int64) (h : p0.toInt < 0 ∨ 5 < p0.toInt) : Met l y_Lw_count (wh y_Lw_count method_7_code 4 (some .int) [(0, 9, 12, 13)]) ({ frames := 7, cells := 1, slots := 6, locals := 111 }) (va_Pc [.ref h0, .int p0, .ref o0] (fun U => U.heap.size = sz ∧ va_P (dC, dI) vwCl [(h0, .inr (6, [.ref b0, .ref b1, .ref b2, .ref b3, .int rs, .int vc, .int wv, .int bw])), (o0, .inl (cl, 1, .inr (.inl fo)))] U.heap ∧ va_K (dC, dI) vwCl [(cl, .long)] U ∧ va_D (fun _ => True) [(h0, .inr (6, [.ref b0, .ref b1, .ref b2, .ref b3, .int rs, .int vc, .int wv, .int bw])), (o0, .inl (cl, 1, .inr (.inl fo)))] ∧ tw_Z U U.heap lim)) (va_Qi (fun (r : Int32) (_ : Unit) => r = 1) (fun (_ : Unit) t => va_P (dC, dI) vwCl [(h0, .inr (6, [.ref b0, .ref b1, .ref b2, .ref b3, .int rs, .int vc, .int wv, .int bw])), (o0, .inl (cl, 1, .inr (.inl fo)))] t.heap ∧ va_K (dC, dI) vwCl [(cl, .long)] t ∧ va_D (va_A [(h0, .inr (6, [.ref b0, .ref b1, .ref b2, .ref b3, .int rs, .int vc, .int wv, .int bw])), (o0, .inl (cl, 1, .inr (.inl fo)))] sz) [(h0, .inr (6, [.ref b0, .ref b1, .ref b2, .ref b3, .int rs, .int vc, .int wv, .int bw])), (o0, .inl (cl, 1, .inr (.inl fo)))]) (va_A [(h0, .inr (6, [.ref b0, .ref b1, .ref b2, .ref b3, .int rs, .int vc, .int wv, .int bw])), (o0, .inl (cl, 1, .inr (.inl fo)))] sz)) 1 6 (va_A [(h0, .inr (6, [.ref b0, .ref b1, .ref b2, .ref b3, .int rs, .int vc, .int wv, .int bw])), (o0, .inl (cl, 1, .inr (.inl fo)))] sz) := by
  refine va_MetW (hh := [(0, 9, 12, 13)]) (cc := method_7_code) (maxL := 4) (ret := (some .int)) (by decide) rfl ?_
  intro p e s m args below meth c s₁ B hml hv
  obtain ⟨rfl, hsz, hP, hK, hD0, hz⟩ := hv
  have hx := B.exec
  have hb := B.bytes
  have hr := B.returns
  have hw : ∀ w ∈ bg_W, w.before #[Value.ref h0, Value.int p0, Value.ref o0] s = true := fun w h => atoms_spec (ws := (wh y_Lw_count method_7_code 4 (some .int) [(0, 9, 12, 13)])) B.pre w (List.mem_cons_of_mem _ h)
  have hown : s.vm.findClass R_Lw = some m.cls := findClass_of_methodNamed B.named
  have hlocks := B.notSynchronized
  subst hsz
  have hD := hD0.self (sz := s.heap.size)
  generalize hAe : va_A [(h0, .inr (6, [.ref b0, .ref b1, .ref b2, .ref b3, .int rs, .int vc, .int wv, .int bw])), (o0, .inl (cl, 1, .inr (.inl fo)))] s.heap.size = A at hD ⊢
  have hA : ∀ q : Nat, s.heap.size ≤ q → A q := fun q h => by rw [← hAe]; exact Or.inr h
  have hS : va_S A s.heap s.heap [] := va_S.rf
  have hP : va_P (dC, dI) vwCl [(h0, .inr (6, [.ref b0, .ref b1, .ref b2, .ref b3, .int rs, .int vc, .int wv, .int bw])), (o0, .inl (cl, 1, .inr (.inl fo)))] s.heap := hP
  have hl := lv_entry ([.ref h0, .int p0, .ref o0]) (n := 4) (Nat.le_of_ble_eq_true rfl)
  rw [lg_entry_eq]
  generalize (lg_sl ([.ref h0, .int p0, .ref o0]) ++ List.replicate (4 - (lg_sl ([.ref h0, .int p0, .ref o0])).length) Slot.unset).toArray = ls at hl ⊢
  have hl : lv_has ls 4 [(0, .ref h0), (1, .int p0), (2, .ref o0)] := hl
  obtain ⟨H, hH⟩ : ∃ H : Heap, H = s.heap := ⟨_, rfl⟩
  rw [← hH] at hP
  have hS : va_S A s.heap H [] := by rw [hH]; exact va_S.rf
  show W p l e _ s m _ below meth c s.heap [] 0 0 _ _
  rw [← hH]
  have hTab := th_table B (atoms_spec (ws := (wh y_Lw_count method_7_code 4 (some .int) [(0, 9, 12, 13)])) B.pre _ List.mem_cons_self)
  refine lv_aload_n hx hb d_Lw_count_0 rfl (lv_at hl 2 rfl) ?_
  refine lv_iconst (v := 0) hx hb d_Lw_count_1 (by decide) ?_
  refine lv_aload_n hx hb d_Lw_count_2 rfl (lv_at hl 0 rfl) ?_
  refine lv_iload_n hx hb d_Lw_count_3 rfl (lv_at hl 1 rfl) ?_
  have hPc := hP.sub (ws' := [(h0, .inr (6, [.ref b0, .ref b1, .ref b2, .ref b3, .int rs, .int vc, .int wv, .int bw]))]) [0] rfl
  have hDc := hD.sub (ws' := [(h0, .inr (6, [.ref b0, .ref b1, .ref b2, .ref b3, .int rs, .int vc, .int wv, .int bw]))]) [0] (by decide) rfl
  have hKc := hK.sub (tys' := []) [] rfl
  refine tw_call (As := [.int p0]) (rest := [.int 0, .ref o0]) ⟨hx, hb, hml, hown, hw⟩ (x_Cs_count_1 l hfl dC dI h0 b0 b1 b2 b3 H.size lim rs vc wv bw p0 h) (cb_V (C := R_Cs) 1 hw k_595 k_29 k_592 k_593 k_594 rfl rfl (by decide +kernel) ⟨Nat.le_of_ble_eq_true rfl, Nat.le_of_ble_eq_true rfl⟩) ⟨fun a U g mk q => by obtain ⟨q0, q1, qP, qK, qD, qZ⟩ := q; exact ⟨q0, q1, qP, va_K.moved (u := U) (U := U.calling g mk a) (Vm.Alike.refl U.vm) qK, qD, tw_Z.moved (u := U) (U := U.calling g mk a) (Vm.Alike.refl U.vm) qZ⟩, va_recv hKc hPc (ci := 6) (q0 := 0) rfl rfl, fun U hU hW => ⟨rfl, by rw [hU], by rw [hU]; exact hPc, va_K.moved hW.alike hKc, hDc.weaken (fun _ _ _ _ => trivial), by rw [hU, hH]; exact hz.moved hW.alike⟩⟩ rfl hl.1 rfl (lv_room (Nat.le_of_ble_eq_true rfl)) d_Lw_count_4 ⟨Nat.le_of_ble_eq_true rfl, Nat.le_of_ble_eq_true rfl⟩ (x := ⟨0, 9, 12, 13⟩) (more := []) hTab (by decide) (by decide) (hw (Cond.classLink "ClauseSearchLaw" 13 "java/lang/IllegalArgumentException") k_448) (hw (Cond.castable "java/lang/IllegalArgumentException" "java/lang/IllegalArgumentException") k_456) (fun a9 H1 hle9 hk9 => ?_)
  have hP : va_P (dC, dI) vwCl [(h0, .inr (6, [.ref b0, .ref b1, .ref b2, .ref b3, .int rs, .int vc, .int wv, .int bw])), (o0, .inl (cl, 1, .inr (.inl fo)))] H1 := fun k q h => (hP k q h).kept (hk9 q.1 (hP k q h).lt)
  have hS : va_S A s.heap H1 [] := ⟨Nat.le_trans hS.1 hle9, fun q hq hA9 => (hk9 q (Nat.lt_of_lt_of_le hq hS.1)).trans (hS.2.1 q hq hA9), hS.2.2⟩
  generalize H1 = H at hP hS ⊢
  refine W.widen (k := 1) (n := 6) (by decide) (by decide) ?_
  refine lv_astore_n (lv' := [(3, .ref a9), (0, .ref h0), (1, .int p0), (2, .ref o0)]) hx hb d_Lw_count_12 rfl hl (by decide) rfl (fun ls hl => ?_)
  refine lv_iconst (v := 1) hx hb d_Lw_count_13 (by decide) ?_
  refine W.widen (k := 1) (n := 6) (by decide) (by decide) ?_
  exact W.iret (v := 1) hx hb hr (fun t ht hW => ⟨⟨1, (), rfl, rfl, by rw [ht]; exact hP, va_K.moved hW.alike hK, hD⟩, hS.F ht⟩) hS.2.2 d_Lw_count_14

set_option maxHeartbeats 4000000 in
set_option maxRecDepth 100000 in
/-- the helper of count on a new object -/
theorem c_Lw_count_0 (l : Launch) (dC : Nat → ClassId) (dI : Nat → Nat → Nat) (h0 : Nat) (b0 : Nat) (b1 : Nat) (s0 : Nat) (b3 : Nat) (g0 : Nat) (g1 : Nat) (g2 : Nat) (r0 : Nat) (t0 : Nat) (w0 : Nat) (l0 : Nat) (k0 : Nat) (v0 : Nat) (v1 : Nat) (v2 : Nat) (o0 : Nat) (cl : ClassId) (sz : Nat) (p0 : Int32) (fo : Nat → Int64) (h1 : ¬ p0.toInt < 0) (h2 : ¬ 5 < p0.toInt) : Met l y_Lw_count (wh y_Lw_count method_7_code 4 (some .int) [(0, 9, 12, 13)]) ({ frames := 1, cells := 0, slots := 0, locals := 21 }) (va_Pc [.ref h0, .int p0, .ref o0] (fun U => U.heap.size = sz ∧ va_P (dC, dI) vwCl [(h0, .inr (6, [.ref b0, .ref b1, .ref s0, .ref b3, .int 0, .int 0, .int 0, .int 0])), (b1, .inr (2, [.ref g0, .ref g1, .ref g2, .int 0])), (s0, .inr (3, [.ref r0, .ref t0, .ref w0, .ref l0, .ref k0, .ref v0, .ref v1, .ref v2, .int 0, .int 0, .int 0, .int 0])), (o0, .inl (cl, 1, .inr (.inl fo)))] U.heap ∧ va_K (dC, dI) vwCl [(cl, .long)] U ∧ va_D (fun _ => True) [(h0, .inr (6, [.ref b0, .ref b1, .ref s0, .ref b3, .int 0, .int 0, .int 0, .int 0])), (b1, .inr (2, [.ref g0, .ref g1, .ref g2, .int 0])), (s0, .inr (3, [.ref r0, .ref t0, .ref w0, .ref l0, .ref k0, .ref v0, .ref v1, .ref v2, .int 0, .int 0, .int 0, .int 0])), (o0, .inl (cl, 1, .inr (.inl fo)))])) (va_Qi (fun (r : Int32) (_ : Unit) => r = 0) (fun (_ : Unit) t => va_P (dC, dI) vwCl [(o0, .inl (cl, 1, .inr (.inl (vp_updL fo ((0 : Int32).toNatClampNeg) ((0 : Int32).toInt64))))), (h0, .inr (6, [.ref b0, .ref b1, .ref s0, .ref b3, .int 0, .int 0, .int 0, .int 0])), (b1, .inr (2, [.ref g0, .ref g1, .ref g2, .int 0])), (s0, .inr (3, [.ref r0, .ref t0, .ref w0, .ref l0, .ref k0, .ref v0, .ref v1, .ref v2, .int 0, .int 0, .int 0, .int 0]))] t.heap ∧ va_K (dC, dI) vwCl [(cl, .long)] t ∧ va_D (va_A [(h0, .inr (6, [.ref b0, .ref b1, .ref s0, .ref b3, .int 0, .int 0, .int 0, .int 0])), (b1, .inr (2, [.ref g0, .ref g1, .ref g2, .int 0])), (s0, .inr (3, [.ref r0, .ref t0, .ref w0, .ref l0, .ref k0, .ref v0, .ref v1, .ref v2, .int 0, .int 0, .int 0, .int 0])), (o0, .inl (cl, 1, .inr (.inl fo)))] sz) [(o0, .inl (cl, 1, .inr (.inl (vp_updL fo ((0 : Int32).toNatClampNeg) ((0 : Int32).toInt64))))), (h0, .inr (6, [.ref b0, .ref b1, .ref s0, .ref b3, .int 0, .int 0, .int 0, .int 0])), (b1, .inr (2, [.ref g0, .ref g1, .ref g2, .int 0])), (s0, .inr (3, [.ref r0, .ref t0, .ref w0, .ref l0, .ref k0, .ref v0, .ref v1, .ref v2, .int 0, .int 0, .int 0, .int 0]))]) (va_A [(h0, .inr (6, [.ref b0, .ref b1, .ref s0, .ref b3, .int 0, .int 0, .int 0, .int 0])), (b1, .inr (2, [.ref g0, .ref g1, .ref g2, .int 0])), (s0, .inr (3, [.ref r0, .ref t0, .ref w0, .ref l0, .ref k0, .ref v0, .ref v1, .ref v2, .int 0, .int 0, .int 0, .int 0])), (o0, .inl (cl, 1, .inr (.inl fo)))] sz)) 0 0 (va_A [(h0, .inr (6, [.ref b0, .ref b1, .ref s0, .ref b3, .int 0, .int 0, .int 0, .int 0])), (b1, .inr (2, [.ref g0, .ref g1, .ref g2, .int 0])), (s0, .inr (3, [.ref r0, .ref t0, .ref w0, .ref l0, .ref k0, .ref v0, .ref v1, .ref v2, .int 0, .int 0, .int 0, .int 0])), (o0, .inl (cl, 1, .inr (.inl fo)))] sz) := by
  refine va_MetW (hh := [(0, 9, 12, 13)]) (cc := method_7_code) (maxL := 4) (ret := (some .int)) (by decide) rfl ?_
  intro p e s m args below meth c s₁ B hml hv
  obtain ⟨rfl, hsz, hP, hK, hD0⟩ := hv
  have hx := B.exec
  have hb := B.bytes
  have hr := B.returns
  have hw : ∀ w ∈ bg_W, w.before #[Value.ref h0, Value.int p0, Value.ref o0] s = true := fun w h => atoms_spec (ws := (wh y_Lw_count method_7_code 4 (some .int) [(0, 9, 12, 13)])) B.pre w (List.mem_cons_of_mem _ h)
  have hown : s.vm.findClass R_Lw = some m.cls := findClass_of_methodNamed B.named
  have hlocks := B.notSynchronized
  subst hsz
  have hD := hD0.self (sz := s.heap.size)
  generalize hAe : va_A [(h0, .inr (6, [.ref b0, .ref b1, .ref s0, .ref b3, .int 0, .int 0, .int 0, .int 0])), (b1, .inr (2, [.ref g0, .ref g1, .ref g2, .int 0])), (s0, .inr (3, [.ref r0, .ref t0, .ref w0, .ref l0, .ref k0, .ref v0, .ref v1, .ref v2, .int 0, .int 0, .int 0, .int 0])), (o0, .inl (cl, 1, .inr (.inl fo)))] s.heap.size = A at hD ⊢
  have hA : ∀ q : Nat, s.heap.size ≤ q → A q := fun q h => by rw [← hAe]; exact Or.inr h
  have hS : va_S A s.heap s.heap [] := va_S.rf
  have hP : va_P (dC, dI) vwCl [(h0, .inr (6, [.ref b0, .ref b1, .ref s0, .ref b3, .int 0, .int 0, .int 0, .int 0])), (b1, .inr (2, [.ref g0, .ref g1, .ref g2, .int 0])), (s0, .inr (3, [.ref r0, .ref t0, .ref w0, .ref l0, .ref k0, .ref v0, .ref v1, .ref v2, .int 0, .int 0, .int 0, .int 0])), (o0, .inl (cl, 1, .inr (.inl fo)))] s.heap := hP
  have hl := lv_entry ([.ref h0, .int p0, .ref o0]) (n := 4) (Nat.le_of_ble_eq_true rfl)
  rw [lg_entry_eq]
  generalize (lg_sl ([.ref h0, .int p0, .ref o0]) ++ List.replicate (4 - (lg_sl ([.ref h0, .int p0, .ref o0])).length) Slot.unset).toArray = ls at hl ⊢
  have hl : lv_has ls 4 [(0, .ref h0), (1, .int p0), (2, .ref o0)] := hl
  obtain ⟨H, hH⟩ : ∃ H : Heap, H = s.heap := ⟨_, rfl⟩
  rw [← hH] at hP
  have hS : va_S A s.heap H [] := by rw [hH]; exact va_S.rf
  show W p l e _ s m _ below meth c s.heap [] 0 0 _ _
  rw [← hH]
  have hTab := th_table B (atoms_spec (ws := (wh y_Lw_count method_7_code 4 (some .int) [(0, 9, 12, 13)])) B.pre _ List.mem_cons_self)
  refine lv_aload_n hx hb d_Lw_count_0 rfl (lv_at hl 2 rfl) ?_
  refine lv_iconst (v := 0) hx hb d_Lw_count_1 (by decide) ?_
  refine lv_aload_n hx hb d_Lw_count_2 rfl (lv_at hl 0 rfl) ?_
  refine lv_iload_n hx hb d_Lw_count_3 rfl (lv_at hl 1 rfl) ?_
  have hPc := hP.sub (ws' := [(h0, .inr (6, [.ref b0, .ref b1, .ref s0, .ref b3, .int 0, .int 0, .int 0, .int 0])), (b1, .inr (2, [.ref g0, .ref g1, .ref g2, .int 0])), (s0, .inr (3, [.ref r0, .ref t0, .ref w0, .ref l0, .ref k0, .ref v0, .ref v1, .ref v2, .int 0, .int 0, .int 0, .int 0]))]) [0, 1, 2] rfl
  have hDc := hD.sub (ws' := [(h0, .inr (6, [.ref b0, .ref b1, .ref s0, .ref b3, .int 0, .int 0, .int 0, .int 0])), (b1, .inr (2, [.ref g0, .ref g1, .ref g2, .int 0])), (s0, .inr (3, [.ref r0, .ref t0, .ref w0, .ref l0, .ref k0, .ref v0, .ref v1, .ref v2, .int 0, .int 0, .int 0, .int 0]))]) [0, 1, 2] (by decide) rfl
  have hKc := hK.sub (tys' := []) [] rfl
  have hFc := va_free (wc := [(h0, .inr (6, [.ref b0, .ref b1, .ref s0, .ref b3, .int 0, .int 0, .int 0, .int 0])), (b1, .inr (2, [.ref g0, .ref g1, .ref g2, .int 0])), (s0, .inr (3, [.ref r0, .ref t0, .ref w0, .ref l0, .ref k0, .ref v0, .ref v1, .ref v2, .int 0, .int 0, .int 0, .int 0]))]) hD hS hA [0, 1, 2] rfl
  refine va_calli (va_runV (As := [.int p0]) (rest := [.int 0, .ref o0]) ⟨hx, hb, hml, hown, hw⟩ (c_Cs_count_0 l dC dI h0 b0 b1 s0 b3 g0 g1 g2 r0 t0 w0 l0 k0 v0 v1 v2 H.size p0 h1 h2) (cb_V (C := R_Cs) 1 hw k_595 k_29 k_592 k_593 k_594 rfl rfl (by decide +kernel) ⟨Nat.le_of_ble_eq_true rfl, Nat.le_of_ble_eq_true rfl⟩) ⟨fun a U g mk q => by obtain ⟨q0, q1, qP, qK, qD⟩ := q; exact ⟨q0, q1, qP, va_K.moved (u := U) (U := U.calling g mk a) (Vm.Alike.refl U.vm) qK, qD⟩, va_recv hKc hPc (ci := 6) (q0 := 0) rfl rfl, fun U hU hW => ⟨rfl, by rw [hU], by rw [hU]; exact hPc, va_K.moved hW.alike hKc, hDc.weaken (fun _ _ _ _ => trivial)⟩⟩ rfl rfl hl.1 rfl (lv_room (Nat.le_of_ble_eq_true rfl)) d_Lw_count_4 ⟨Nat.le_of_ble_eq_true rfl, Nat.le_of_ble_eq_true rfl⟩) hS (fun q _ h => hFc q h) hFc (fun r_1 u t H1 locs ht hvm hw9 hB hz1 hk1 hS => ?_)
  obtain ⟨hP1, hK1, hD1⟩ := hB
  rw [ht] at hP1
  have hK1 := va_K.moved hvm.symm hK1
  obtain ⟨hP, hD⟩ := va_join (wr := [(o0, .inl (cl, 1, .inr (.inl fo)))]) (w1 := [(h0, .inr (6, [.ref b0, .ref b1, .ref s0, .ref b3, .int 0, .int 0, .int 0, .int 0])), (b1, .inr (2, [.ref g0, .ref g1, .ref g2, .int 0])), (s0, .inr (3, [.ref r0, .ref t0, .ref w0, .ref l0, .ref k0, .ref v0, .ref v1, .ref v2, .int 0, .int 0, .int 0, .int 0]))]) hP hD [0, 1, 2] [3] rfl rfl (by decide) (by decide) hk1 hFc hP1 hD1
  generalize H1 = H at hP hS ⊢
  have hP : va_P (dC, dI) vwCl [(o0, .inl (cl, 1, .inr (.inl fo))), (h0, .inr (6, [.ref b0, .ref b1, .ref s0, .ref b3, .int 0, .int 0, .int 0, .int 0])), (b1, .inr (2, [.ref g0, .ref g1, .ref g2, .int 0])), (s0, .inr (3, [.ref r0, .ref t0, .ref w0, .ref l0, .ref k0, .ref v0, .ref v1, .ref v2, .int 0, .int 0, .int 0, .int 0]))] H := hP
  have hD : va_D A [(o0, .inl (cl, 1, .inr (.inl fo))), (h0, .inr (6, [.ref b0, .ref b1, .ref s0, .ref b3, .int 0, .int 0, .int 0, .int 0])), (b1, .inr (2, [.ref g0, .ref g1, .ref g2, .int 0])), (s0, .inr (3, [.ref r0, .ref t0, .ref w0, .ref l0, .ref k0, .ref v0, .ref v1, .ref v2, .int 0, .int 0, .int 0, .int 0]))] := hD
  refine W.widen (k := 0) (n := 0) (by decide) (by decide) ?_
  have hw9 : r_1 = 0 := hw9
  subst hw9
  refine lv_i2l (v := (0 : Int32).toInt64) hx hb d_Lw_count_7 rfl ?_
  refine va_last hx hb hK hP hD hS 0 0 rfl rfl (by unfold vp_in; decide) d_Lw_count_8 (fun H locs hP hD hS => ?_)
  have hP : va_P (dC, dI) vwCl [(o0, .inl (cl, 1, .inr (.inl (vp_updL fo ((0 : Int32).toNatClampNeg) ((0 : Int32).toInt64))))), (h0, .inr (6, [.ref b0, .ref b1, .ref s0, .ref b3, .int 0, .int 0, .int 0, .int 0])), (b1, .inr (2, [.ref g0, .ref g1, .ref g2, .int 0])), (s0, .inr (3, [.ref r0, .ref t0, .ref w0, .ref l0, .ref k0, .ref v0, .ref v1, .ref v2, .int 0, .int 0, .int 0, .int 0]))] H := hP
  have hD : va_D A [(o0, .inl (cl, 1, .inr (.inl (vp_updL fo ((0 : Int32).toNatClampNeg) ((0 : Int32).toInt64))))), (h0, .inr (6, [.ref b0, .ref b1, .ref s0, .ref b3, .int 0, .int 0, .int 0, .int 0])), (b1, .inr (2, [.ref g0, .ref g1, .ref g2, .int 0])), (s0, .inr (3, [.ref r0, .ref t0, .ref w0, .ref l0, .ref k0, .ref v0, .ref v1, .ref v2, .int 0, .int 0, .int 0, .int 0]))] := hD
  refine lv_goto (tgt := 15) hx hb d_Lw_count_9 (by decide) ?_
  refine lv_iconst (v := 0) hx hb d_Lw_count_15 (by decide) ?_
  refine W.widen (k := 0) (n := 0) (by decide) (by decide) ?_
  exact W.iret (v := 0) hx hb hr (fun t ht hW => ⟨⟨0, (), rfl, rfl, by rw [ht]; exact hP, va_K.moved hW.alike hK, hD⟩, hS.F ht⟩) hS.2.2 d_Lw_count_16
