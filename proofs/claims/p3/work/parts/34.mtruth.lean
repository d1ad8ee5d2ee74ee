abbrev y_Md_truth : MethodName := ⟨"ClauseSearchModel", "truth", "(I)I"⟩
theorem d_Md_truth_0 : decode prog_9_method_7_code 0 = .ok (.aload_n 0, 1) := by decide +kernel
theorem d_Md_truth_1 : decode prog_9_method_7_code 1 = .ok (.getfield 23, 3) := by decide +kernel
theorem d_Md_truth_4 : decode prog_9_method_7_code 4 = .ok (.iload_n 1, 1) := by decide +kernel
theorem d_Md_truth_5 : decode prog_9_method_7_code 5 = .ok (.ifCond .ge 9, 3) := by decide +kernel
theorem d_Md_truth_14 : decode prog_9_method_7_code 14 = .ok (.iload_n 1, 1) := by decide +kernel
theorem d_Md_truth_15 : decode prog_9_method_7_code 15 = .ok (.iaload, 1) := by decide +kernel
theorem d_Md_truth_16 : decode prog_9_method_7_code 16 = .ok (.istore_n 2, 1) := by decide +kernel
theorem d_Md_truth_17 : decode prog_9_method_7_code 17 = .ok (.iload_n 2, 1) := by decide +kernel
theorem d_Md_truth_18 : decode prog_9_method_7_code 18 = .ok (.ifCond .ge 7, 3) := by decide +kernel
theorem d_Md_truth_25 : decode prog_9_method_7_code 25 = .ok (.iload_n 1, 1) := by decide +kernel
theorem d_Md_truth_26 : decode prog_9_method_7_code 26 = .ok (.ifCond .le 7, 3) := by decide +kernel
theorem d_Md_truth_29 : decode prog_9_method_7_code 29 = .ok (.iload_n 2, 1) := by decide +kernel
theorem d_Md_truth_30 : decode prog_9_method_7_code 30 = .ok (.goto 6, 3) := by decide +kernel
theorem d_Md_truth_36 : decode prog_9_method_7_code 36 = .ok (.ireturn, 1) := by decide +kernel
theorem d_Md_truth_21 : decode prog_9_method_7_code 21 = .ok (.iconst (-1), 1) := by decide +kernel
theorem d_Md_truth_22 : decode prog_9_method_7_code 22 = .ok (.goto 14, 3) := by decide +kernel
theorem d_Md_truth_8 : decode prog_9_method_7_code 8 = .ok (.iconst 0, 1) := by decide +kernel
theorem d_Md_truth_9 : decode prog_9_method_7_code 9 = .ok (.iload_n 1, 1) := by decide +kernel
theorem d_Md_truth_10 : decode prog_9_method_7_code 10 = .ok (.isub, 1) := by decide +kernel
theorem d_Md_truth_11 : decode prog_9_method_7_code 11 = .ok (.goto 4, 3) := by decide +kernel
theorem d_Md_truth_33 : decode prog_9_method_7_code 33 = .ok (.iconst 1, 1) := by decide +kernel
theorem d_Md_truth_34 : decode prog_9_method_7_code 34 = .ok (.iload_n 2, 1) := by decide +kernel
theorem d_Md_truth_35 : decode prog_9_method_7_code 35 = .ok (.isub, 1) := by decide +kernel
set_option maxHeartbeats 4000000 in
set_option maxRecDepth 100000 in
/-- truth(v) -/
theorem c_Md_truth_p (l : Launch) (dC : Nat → ClassId) (dI : Nat → Nat → Nat) (e0 : Nat) (e1 : Nat) (e2 : Nat) (e3 : Nat) (e4 : Nat) (e5 : Nat) (e6 : Nat) (e7 : Nat) (e8 : Nat) (c5 : ClassId) (sz : Nat) (o : Dx) (v0 : Nat) (hv1 : 1 ≤ v0) (hv2 : v0 ≤ 400) (hw9 : o.wv v0 = -1 ∨ o.wv v0 = 0 ∨ o.wv v0 = 1) : Met l y_Md_truth (wq y_Md_truth prog_9_method_7_code 3 (some .int)) ({ frames := 0, cells := 0, slots := 0, locals := 0 }) (va_Pc [.ref e0, .int (nI v0)] (fun U => U.heap.size = sz ∧ va_P (dC, dI) vwCl [(e0, .inr (7, [.ref e1, .ref e2, .ref e3, .ref e4, .ref e5, .int (nI o.vc), .int (nI o.cl), .int (nI o.gv), .int (nI o.na), .int o.sd, .int o.cd, .ref e6, .int (nI o.ln), .ref e7, .ref e8])), (e5, .inl (c5, 401, .inl o.wv))] U.heap ∧ va_K (dC, dI) vwCl [(c5, .int)] U ∧ va_D (fun _ => True) [(e0, .inr (7, [.ref e1, .ref e2, .ref e3, .ref e4, .ref e5, .int (nI o.vc), .int (nI o.cl), .int (nI o.gv), .int (nI o.na), .int o.sd, .int o.cd, .ref e6, .int (nI o.ln), .ref e7, .ref e8])), (e5, .inl (c5, 401, .inl o.wv))])) (va_Qi (fun (r : Int32) (r9 : Int32) => r = r9) (fun (r9 : Int32) t => (r9 = o.wv v0) ∧ va_P (dC, dI) vwCl [(e0, .inr (7, [.ref e1, .ref e2, .ref e3, .ref e4, .ref e5, .int (nI o.vc), .int (nI o.cl), .int (nI o.gv), .int (nI o.na), .int o.sd, .int o.cd, .ref e6, .int (nI o.ln), .ref e7, .ref e8])), (e5, .inl (c5, 401, .inl o.wv))] t.heap ∧ va_K (dC, dI) vwCl [(c5, .int)] t ∧ va_D (va_A [(e0, .inr (7, [.ref e1, .ref e2, .ref e3, .ref e4, .ref e5, .int (nI o.vc), .int (nI o.cl), .int (nI o.gv), .int (nI o.na), .int o.sd, .int o.cd, .ref e6, .int (nI o.ln), .ref e7, .ref e8])), (e5, .inl (c5, 401, .inl o.wv))] sz) [(e0, .inr (7, [.ref e1, .ref e2, .ref e3, .ref e4, .ref e5, .int (nI o.vc), .int (nI o.cl), .int (nI o.gv), .int (nI o.na), .int o.sd, .int o.cd, .ref e6, .int (nI o.ln), .ref e7, .ref e8])), (e5, .inl (c5, 401, .inl o.wv))]) (va_A [(e0, .inr (7, [.ref e1, .ref e2, .ref e3, .ref e4, .ref e5, .int (nI o.vc), .int (nI o.cl), .int (nI o.gv), .int (nI o.na), .int o.sd, .int o.cd, .ref e6, .int (nI o.ln), .ref e7, .ref e8])), (e5, .inl (c5, 401, .inl o.wv))] sz)) (0) (0) (va_A [(e0, .inr (7, [.ref e1, .ref e2, .ref e3, .ref e4, .ref e5, .int (nI o.vc), .int (nI o.cl), .int (nI o.gv), .int (nI o.na), .int o.sd, .int o.cd, .ref e6, .int (nI o.ln), .ref e7, .ref e8])), (e5, .inl (c5, 401, .inl o.wv))] sz) := by
  refine Met.ofW (cc := prog_9_method_7_code) (maxL := 3) (ret := (some .int)) (by decide) rfl ?_
  intro p e s m args below meth c s₁ B hml hv
  obtain ⟨rfl, hsz, hP, hK, hD0⟩ := hv
  have hx := B.exec
  have hb := B.bytes
  have hr := B.returns
  have hw : ∀ w ∈ bg_W, w.before #[Value.ref e0, Value.int (nI v0)] s = true := fun w h => atoms_spec (ws := (wq y_Md_truth prog_9_method_7_code 3 (some .int))) B.pre w (List.mem_cons_of_mem _ h)
  have hown : s.vm.findClass R_Md = some m.cls := findClass_of_methodNamed B.named
  have hlocks := B.notSynchronized
  subst hsz
  have hD := hD0.self (sz := s.heap.size)
  generalize hAe : va_A [(e0, .inr (7, [.ref e1, .ref e2, .ref e3, .ref e4, .ref e5, .int (nI o.vc), .int (nI o.cl), .int (nI o.gv), .int (nI o.na), .int o.sd, .int o.cd, .ref e6, .int (nI o.ln), .ref e7, .ref e8])), (e5, .inl (c5, 401, .inl o.wv))] s.heap.size = A at hD ⊢
  have hA : ∀ q : Nat, s.heap.size ≤ q → A q := fun q h => by rw [← hAe]; exact Or.inr h
  have hS : va_S A s.heap s.heap [] := va_S.rf
  have hP : va_P (dC, dI) vwCl [(e0, .inr (7, [.ref e1, .ref e2, .ref e3, .ref e4, .ref e5, .int (nI o.vc), .int (nI o.cl), .int (nI o.gv), .int (nI o.na), .int o.sd, .int o.cd, .ref e6, .int (nI o.ln), .ref e7, .ref e8])), (e5, .inl (c5, 401, .inl o.wv))] s.heap := hP
  have hl := lv_entry ([.ref e0, .int (nI v0)]) (n := 3) (Nat.le_of_ble_eq_true rfl)
  rw [lg_entry_eq]
  generalize (lg_sl ([.ref e0, .int (nI v0)]) ++ List.replicate (3 - (lg_sl ([.ref e0, .int (nI v0)])).length) Slot.unset).toArray = ls at hl ⊢
  have hl : lv_has ls 3 [(0, .ref e0), (1, .int (nI v0))] := hl
  obtain ⟨H, hH⟩ : ∃ H : Heap, H = s.heap := ⟨_, rfl⟩
  rw [← hH] at hP
  have hS : va_S A s.heap H [] := by rw [hH]; exact va_S.rf
  show W p l e _ s m _ below meth c s.heap [] 0 0 _ _
  rw [← hH]
  refine lv_aload_n hx hb d_Md_truth_0 rfl (lv_at hl 0 rfl) ?_
  refine va_get (D := (dC, dI)) (ci := 7) (v := .ref e5) (C := R_Md) (T := F_Md) (N := 15) hx hb hw in_Md hown hK hP 0 rfl rfl 4 (by decide) (hw (Cond.fieldLink "ClauseSearchModel" 23 "ClauseSearchModel" "way" "[I") k_608) (fun _ h9 => h9) rfl d_Md_truth_1 ?_
  refine lv_iload_n hx hb d_Md_truth_4 rfl (lv_at hl 1 rfl) ?_
  refine lv_if_ge (tgt := 14) hx hb d_Md_truth_5 (by decide) (fun c_5 => ?_) (fun c_5 => by exfalso; have c_5 : ¬ (0 ≤ v0) := fun qq9 => c_5 ((nI_leI (a := 0) (b := v0) (by omega) (by omega)).mpr qq9); omega)
  have c_5 : 0 ≤ v0 := (nI_leI (a := 0) (b := v0) (by omega) (by omega)).mp c_5
  refine lv_iload_n hx hb d_Md_truth_14 rfl (lv_at hl 1 rfl) ?_
  refine va_iald hx hb hK hP 1 0 rfl rfl (vp_in_nI (by omega) (by omega)) d_Md_truth_15 ?_
  refine lv_topi (fun y_1 ey_1 => ?_)
  rw [nI_clamp (by omega)] at ey_1
  subst ey_1
  refine lv_istore_n (lv' := [(2, .int (o.wv v0)), (0, .ref e0), (1, .int (nI v0))]) hx hb d_Md_truth_16 rfl hl (by decide) rfl (fun ls hl => ?_)
  refine lv_iload_n hx hb d_Md_truth_17 rfl (lv_at hl 0 rfl) ?_
  refine lv_if_ge (tgt := 25) hx hb d_Md_truth_18 (by decide) (fun c_18 => ?_) (fun c_18 => ?_)
  · refine lv_iload_n hx hb d_Md_truth_25 rfl (lv_at hl 2 rfl) ?_
    refine lv_if_le (tgt := 33) hx hb d_Md_truth_26 (by decide) (fun c_26 => by exfalso; have c_26 : v0 ≤ 0 := (nI_leI (a := v0) (b := 0) (by omega) (by omega)).mp c_26; omega) (fun c_26 => ?_)
    have c_26 : ¬ (v0 ≤ 0) := fun qq9 => c_26 ((nI_leI (a := v0) (b := 0) (by omega) (by omega)).mpr qq9)
    refine lv_iload_n hx hb d_Md_truth_29 rfl (lv_at hl 0 rfl) ?_
    refine lv_goto (tgt := 36) hx hb d_Md_truth_30 (by decide) ?_
    have hK := hK.sub (tys' := [(c5, .int)]) [0] rfl
    refine W.widen (k := 0) (n := 0) (by decide) (by decide) ?_
    exact W.iret (v := o.wv v0) hx hb hr (fun t ht hW => ⟨⟨o.wv v0, o.wv v0, rfl, rfl, rfl, by rw [ht]; exact hP, va_K.moved hW.alike hK, hD⟩, hS.F ht⟩) hS.2.2 d_Md_truth_36
  · refine lv_iconst (v := (-1)) hx hb d_Md_truth_21 (by decide) ?_
    refine lv_goto (tgt := 36) hx hb d_Md_truth_22 (by decide) ?_
    have hK := hK.sub (tys' := [(c5, .int)]) [0] rfl
    refine W.widen (k := 0) (n := 0) (by decide) (by decide) ?_
    exact W.iret (v := (-1)) hx hb hr (fun t ht hW => ⟨⟨(-1), (-1), rfl, rfl, (tp1 hw9 c_18).symm, by rw [ht]; exact hP, va_K.moved hW.alike hK, hD⟩, hS.F ht⟩) hS.2.2 d_Md_truth_36

set_option maxHeartbeats 4000000 in
set_option maxRecDepth 100000 in
/-- truth(-v) -/
theorem c_Md_truth_n (l : Launch) (dC : Nat → ClassId) (dI : Nat → Nat → Nat) (e0 : Nat) (e1 : Nat) (e2 : Nat) (e3 : Nat) (e4 : Nat) (e5 : Nat) (e6 : Nat) (e7 : Nat) (e8 : Nat) (c5 : ClassId) (sz : Nat) (o : Dx) (v0 : Nat) (hv1 : 1 ≤ v0) (hv2 : v0 ≤ 400) (hw9 : o.wv v0 = -1 ∨ o.wv v0 = 0 ∨ o.wv v0 = 1) : Met l y_Md_truth (wq y_Md_truth prog_9_method_7_code 3 (some .int)) ({ frames := 0, cells := 0, slots := 0, locals := 0 }) (va_Pc [.ref e0, .int (ng v0)] (fun U => U.heap.size = sz ∧ va_P (dC, dI) vwCl [(e0, .inr (7, [.ref e1, .ref e2, .ref e3, .ref e4, .ref e5, .int (nI o.vc), .int (nI o.cl), .int (nI o.gv), .int (nI o.na), .int o.sd, .int o.cd, .ref e6, .int (nI o.ln), .ref e7, .ref e8])), (e5, .inl (c5, 401, .inl o.wv))] U.heap ∧ va_K (dC, dI) vwCl [(c5, .int)] U ∧ va_D (fun _ => True) [(e0, .inr (7, [.ref e1, .ref e2, .ref e3, .ref e4, .ref e5, .int (nI o.vc), .int (nI o.cl), .int (nI o.gv), .int (nI o.na), .int o.sd, .int o.cd, .ref e6, .int (nI o.ln), .ref e7, .ref e8])), (e5, .inl (c5, 401, .inl o.wv))])) (va_Qi (fun (r : Int32) (r9 : Int32) => r = r9) (fun (r9 : Int32) t => (r9 = ntv (o.wv v0)) ∧ va_P (dC, dI) vwCl [(e0, .inr (7, [.ref e1, .ref e2, .ref e3, .ref e4, .ref e5, .int (nI o.vc), .int (nI o.cl), .int (nI o.gv), .int (nI o.na), .int o.sd, .int o.cd, .ref e6, .int (nI o.ln), .ref e7, .ref e8])), (e5, .inl (c5, 401, .inl o.wv))] t.heap ∧ va_K (dC, dI) vwCl [(c5, .int)] t ∧ va_D (va_A [(e0, .inr (7, [.ref e1, .ref e2, .ref e3, .ref e4, .ref e5, .int (nI o.vc), .int (nI o.cl), .int (nI o.gv), .int (nI o.na), .int o.sd, .int o.cd, .ref e6, .int (nI o.ln), .ref e7, .ref e8])), (e5, .inl (c5, 401, .inl o.wv))] sz) [(e0, .inr (7, [.ref e1, .ref e2, .ref e3, .ref e4, .ref e5, .int (nI o.vc), .int (nI o.cl), .int (nI o.gv), .int (nI o.na), .int o.sd, .int o.cd, .ref e6, .int (nI o.ln), .ref e7, .ref e8])), (e5, .inl (c5, 401, .inl o.wv))]) (va_A [(e0, .inr (7, [.ref e1, .ref e2, .ref e3, .ref e4, .ref e5, .int (nI o.vc), .int (nI o.cl), .int (nI o.gv), .int (nI o.na), .int o.sd, .int o.cd, .ref e6, .int (nI o.ln), .ref e7, .ref e8])), (e5, .inl (c5, 401, .inl o.wv))] sz)) (0) (0) (va_A [(e0, .inr (7, [.ref e1, .ref e2, .ref e3, .ref e4, .ref e5, .int (nI o.vc), .int (nI o.cl), .int (nI o.gv), .int (nI o.na), .int o.sd, .int o.cd, .ref e6, .int (nI o.ln), .ref e7, .ref e8])), (e5, .inl (c5, 401, .inl o.wv))] sz) := by
  refine Met.ofW (cc := prog_9_method_7_code) (maxL := 3) (ret := (some .int)) (by decide) rfl ?_
  intro p e s m args below meth c s₁ B hml hv
  obtain ⟨rfl, hsz, hP, hK, hD0⟩ := hv
  have hx := B.exec
  have hb := B.bytes
  have hr := B.returns
  have hw : ∀ w ∈ bg_W, w.before #[Value.ref e0, Value.int (ng v0)] s = true := fun w h => atoms_spec (ws := (wq y_Md_truth prog_9_method_7_code 3 (some .int))) B.pre w (List.mem_cons_of_mem _ h)
  have hown : s.vm.findClass R_Md = some m.cls := findClass_of_methodNamed B.named
  have hlocks := B.notSynchronized
  subst hsz
  have hD := hD0.self (sz := s.heap.size)
  generalize hAe : va_A [(e0, .inr (7, [.ref e1, .ref e2, .ref e3, .ref e4, .ref e5, .int (nI o.vc), .int (nI o.cl), .int (nI o.gv), .int (nI o.na), .int o.sd, .int o.cd, .ref e6, .int (nI o.ln), .ref e7, .ref e8])), (e5, .inl (c5, 401, .inl o.wv))] s.heap.size = A at hD ⊢
  have hA : ∀ q : Nat, s.heap.size ≤ q → A q := fun q h => by rw [← hAe]; exact Or.inr h
  have hS : va_S A s.heap s.heap [] := va_S.rf
  have hP : va_P (dC, dI) vwCl [(e0, .inr (7, [.ref e1, .ref e2, .ref e3, .ref e4, .ref e5, .int (nI o.vc), .int (nI o.cl), .int (nI o.gv), .int (nI o.na), .int o.sd, .int o.cd, .ref e6, .int (nI o.ln), .ref e7, .ref e8])), (e5, .inl (c5, 401, .inl o.wv))] s.heap := hP
  have hl := lv_entry ([.ref e0, .int (ng v0)]) (n := 3) (Nat.le_of_ble_eq_true rfl)
  rw [lg_entry_eq]
  generalize (lg_sl ([.ref e0, .int (ng v0)]) ++ List.replicate (3 - (lg_sl ([.ref e0, .int (ng v0)])).length) Slot.unset).toArray = ls at hl ⊢
  have hl : lv_has ls 3 [(0, .ref e0), (1, .int (ng v0))] := hl
  obtain ⟨H, hH⟩ : ∃ H : Heap, H = s.heap := ⟨_, rfl⟩
  rw [← hH] at hP
  have hS : va_S A s.heap H [] := by rw [hH]; exact va_S.rf
  show W p l e _ s m _ below meth c s.heap [] 0 0 _ _
  rw [← hH]
  refine lv_aload_n hx hb d_Md_truth_0 rfl (lv_at hl 0 rfl) ?_
  refine va_get (D := (dC, dI)) (ci := 7) (v := .ref e5) (C := R_Md) (T := F_Md) (N := 15) hx hb hw in_Md hown hK hP 0 rfl rfl 4 (by decide) (hw (Cond.fieldLink "ClauseSearchModel" 23 "ClauseSearchModel" "way" "[I") k_608) (fun _ h9 => h9) rfl d_Md_truth_1 ?_
  refine lv_iload_n hx hb d_Md_truth_4 rfl (lv_at hl 1 rfl) ?_
  refine lv_if_ge (tgt := 14) hx hb d_Md_truth_5 (by decide) (fun c_5 => absurd c_5 (Int32.not_le.mpr (ng_lt hv1 hv2))) (fun c_5 => ?_)
  refine lv_iconst (v := nI 0) hx hb d_Md_truth_8 (by decide) ?_
  refine lv_iload_n hx hb d_Md_truth_9 rfl (lv_at hl 1 rfl) ?_
  refine lv_isub hx hb d_Md_truth_10 ?_
  refine lv_topi (fun y_1 ey_1 => ?_)
  obtain rfl : y_1 = nI v0 := ey_1.trans (ng_sub v0)
  refine lv_goto (tgt := 15) hx hb d_Md_truth_11 (by decide) ?_
  refine va_iald hx hb hK hP 1 0 rfl rfl (vp_in_nI (by omega) (by omega)) d_Md_truth_15 ?_
  refine lv_topi (fun y_2 ey_2 => ?_)
  rw [nI_clamp (by omega)] at ey_2
  subst ey_2
  refine lv_istore_n (lv' := [(2, .int (o.wv v0)), (0, .ref e0), (1, .int (ng v0))]) hx hb d_Md_truth_16 rfl hl (by decide) rfl (fun ls hl => ?_)
  refine lv_iload_n hx hb d_Md_truth_17 rfl (lv_at hl 0 rfl) ?_
  refine lv_if_ge (tgt := 25) hx hb d_Md_truth_18 (by decide) (fun c_18 => ?_) (fun c_18 => ?_)
  · refine lv_iload_n hx hb d_Md_truth_25 rfl (lv_at hl 2 rfl) ?_
    refine lv_if_le (tgt := 33) hx hb d_Md_truth_26 (by decide) (fun c_26 => ?_) (fun c_26 => absurd c_26 (fun q => q (Int32.le_of_lt (ng_lt hv1 hv2))))
    refine lv_iconst (v := 1) hx hb d_Md_truth_33 (by decide) ?_
    refine lv_iload_n hx hb d_Md_truth_34 rfl (lv_at hl 0 rfl) ?_
    refine lv_isub hx hb d_Md_truth_35 ?_
    have hK := hK.sub (tys' := [(c5, .int)]) [0] rfl
    refine W.widen (k := 0) (n := 0) (by decide) (by decide) ?_
    exact W.iret (v := 1 - (o.wv v0)) hx hb hr (fun t ht hW => ⟨⟨1 - (o.wv v0), 1 - (o.wv v0), rfl, rfl, (ntv_2 hw9 c_18), by rw [ht]; exact hP, va_K.moved hW.alike hK, hD⟩, hS.F ht⟩) hS.2.2 d_Md_truth_36
  · refine lv_iconst (v := (-1)) hx hb d_Md_truth_21 (by decide) ?_
    refine lv_goto (tgt := 36) hx hb d_Md_truth_22 (by decide) ?_
    have hK := hK.sub (tys' := [(c5, .int)]) [0] rfl
    refine W.widen (k := 0) (n := 0) (by decide) (by decide) ?_
    exact W.iret (v := (-1)) hx hb hr (fun t ht hW => ⟨⟨(-1), (-1), rfl, rfl, (ntv_1 hw9 c_18), by rw [ht]; exact hP, va_K.moved hW.alike hK, hD⟩, hS.F ht⟩) hS.2.2 d_Md_truth_36
