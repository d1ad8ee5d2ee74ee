abbrev y_Wt_add : MethodName := ⟨"ClauseSearch$Watch", "add", "(I)V"⟩
theorem k_390 : (Cond.methodLink "ClauseSearch$Watch" 32 ⟨"java/util/Arrays", "copyOf", "([II)[I"⟩) ∈ bg_W := bg_in 390 (by decide +kernel) (by decide +kernel)
theorem d_Wt_add_0 : decode prog_7_method_2_code 0 = .ok (.iconst 2, 1) := by decide +kernel
theorem d_Wt_add_1 : decode prog_7_method_2_code 1 = .ok (.iload_n 1, 1) := by decide +kernel
theorem d_Wt_add_2 : decode prog_7_method_2_code 2 = .ok (.imul, 1) := by decide +kernel
theorem d_Wt_add_3 : decode prog_7_method_2_code 3 = .ok (.iconst 1, 1) := by decide +kernel
theorem d_Wt_add_4 : decode prog_7_method_2_code 4 = .ok (.iadd, 1) := by decide +kernel
theorem d_Wt_add_5 : decode prog_7_method_2_code 5 = .ok (.aload_n 0, 1) := by decide +kernel
theorem d_Wt_add_6 : decode prog_7_method_2_code 6 = .ok (.getfield 23, 3) := by decide +kernel
theorem d_Wt_add_9 : decode prog_7_method_2_code 9 = .ok (.arraylength, 1) := by decide +kernel
theorem d_Wt_add_10 : decode prog_7_method_2_code 10 = .ok (.if_icmp .lt 21, 3) := by decide +kernel
theorem d_Wt_add_31 : decode prog_7_method_2_code 31 = .ok (.aload_n 0, 1) := by decide +kernel
theorem d_Wt_add_32 : decode prog_7_method_2_code 32 = .ok (.iconst 2, 1) := by decide +kernel
theorem d_Wt_add_33 : decode prog_7_method_2_code 33 = .ok (.iload_n 1, 1) := by decide +kernel
theorem d_Wt_add_34 : decode prog_7_method_2_code 34 = .ok (.imul, 1) := by decide +kernel
theorem d_Wt_add_35 : decode prog_7_method_2_code 35 = .ok (.aload_n 0, 1) := by decide +kernel
theorem d_Wt_add_36 : decode prog_7_method_2_code 36 = .ok (.getfield 9, 3) := by decide +kernel
theorem d_Wt_add_39 : decode prog_7_method_2_code 39 = .ok (.getfield 36, 3) := by decide +kernel
theorem d_Wt_add_42 : decode prog_7_method_2_code 42 = .ok (.aload_n 0, 1) := by decide +kernel
theorem d_Wt_add_43 : decode prog_7_method_2_code 43 = .ok (.getfield 9, 3) := by decide +kernel
theorem d_Wt_add_46 : decode prog_7_method_2_code 46 = .ok (.getfield 41, 3) := by decide +kernel
theorem d_Wt_add_49 : decode prog_7_method_2_code 49 = .ok (.iload_n 1, 1) := by decide +kernel
theorem d_Wt_add_50 : decode prog_7_method_2_code 50 = .ok (.iaload, 1) := by decide +kernel
theorem d_Wt_add_51 : decode prog_7_method_2_code 51 = .ok (.iaload, 1) := by decide +kernel
theorem d_Wt_add_52 : decode prog_7_method_2_code 52 = .ok (.invokevirtual 44, 3) := by decide +kernel
theorem d_Wt_add_55 : decode prog_7_method_2_code 55 = .ok (.aload_n 0, 1) := by decide +kernel
theorem d_Wt_add_56 : decode prog_7_method_2_code 56 = .ok (.iconst 2, 1) := by decide +kernel
theorem d_Wt_add_57 : decode prog_7_method_2_code 57 = .ok (.iload_n 1, 1) := by decide +kernel
theorem d_Wt_add_58 : decode prog_7_method_2_code 58 = .ok (.imul, 1) := by decide +kernel
theorem d_Wt_add_59 : decode prog_7_method_2_code 59 = .ok (.iconst 1, 1) := by decide +kernel
theorem d_Wt_add_60 : decode prog_7_method_2_code 60 = .ok (.iadd, 1) := by decide +kernel
theorem d_Wt_add_61 : decode prog_7_method_2_code 61 = .ok (.aload_n 0, 1) := by decide +kernel
theorem d_Wt_add_62 : decode prog_7_method_2_code 62 = .ok (.getfield 9, 3) := by decide +kernel
theorem d_Wt_add_65 : decode prog_7_method_2_code 65 = .ok (.getfield 36, 3) := by decide +kernel
theorem d_Wt_add_68 : decode prog_7_method_2_code 68 = .ok (.aload_n 0, 1) := by decide +kernel
theorem d_Wt_add_69 : decode prog_7_method_2_code 69 = .ok (.getfield 9, 3) := by decide +kernel
theorem d_Wt_add_72 : decode prog_7_method_2_code 72 = .ok (.getfield 41, 3) := by decide +kernel
theorem d_Wt_add_75 : decode prog_7_method_2_code 75 = .ok (.iload_n 1, 1) := by decide +kernel
theorem d_Wt_add_76 : decode prog_7_method_2_code 76 = .ok (.iaload, 1) := by decide +kernel
theorem d_Wt_add_77 : decode prog_7_method_2_code 77 = .ok (.iconst 1, 1) := by decide +kernel
theorem d_Wt_add_78 : decode prog_7_method_2_code 78 = .ok (.iadd, 1) := by decide +kernel
theorem d_Wt_add_79 : decode prog_7_method_2_code 79 = .ok (.iaload, 1) := by decide +kernel
theorem d_Wt_add_80 : decode prog_7_method_2_code 80 = .ok (.invokevirtual 44, 3) := by decide +kernel
theorem d_Wt_add_83 : decode prog_7_method_2_code 83 = .ok (.return_, 1) := by decide +kernel
theorem d_Wt_add_13 : decode prog_7_method_2_code 13 = .ok (.aload_n 0, 1) := by decide +kernel
theorem d_Wt_add_14 : decode prog_7_method_2_code 14 = .ok (.aload_n 0, 1) := by decide +kernel
theorem d_Wt_add_15 : decode prog_7_method_2_code 15 = .ok (.getfield 23, 3) := by decide +kernel
theorem d_Wt_add_18 : decode prog_7_method_2_code 18 = .ok (.iconst 2, 1) := by decide +kernel
theorem d_Wt_add_19 : decode prog_7_method_2_code 19 = .ok (.aload_n 0, 1) := by decide +kernel
theorem d_Wt_add_20 : decode prog_7_method_2_code 20 = .ok (.getfield 23, 3) := by decide +kernel
theorem d_Wt_add_23 : decode prog_7_method_2_code 23 = .ok (.arraylength, 1) := by decide +kernel
theorem d_Wt_add_24 : decode prog_7_method_2_code 24 = .ok (.imul, 1) := by decide +kernel
theorem d_Wt_add_25 : decode prog_7_method_2_code 25 = .ok (.invokestatic 32, 3) := by decide +kernel
theorem d_Wt_add_28 : decode prog_7_method_2_code 28 = .ok (.putfield 23, 3) := by decide +kernel
set_option maxHeartbeats 4000000 in
set_option maxRecDepth 100000 in
/-- Watch.add(r) -/
theorem c_Wt_add (l : Launch) (dC : Nat → ClassId) (dI : Nat → Nat → Nat) (h0 : Nat) (g0 : Nat) (g1 : Nat) (g2 : Nat) (w0 : Nat) (t0 : Nat) (v0 : Nat) (v1 : Nat) (x0 : ClassId) (x1 : ClassId) (y0 : ClassId) (y1 : ClassId) (y2 : ClassId) (sz sm : Nat) (a : Rx) (w : Wx) (r : Nat) (hR : Rok a) (hr9 : r < a.n) (hWk : Wok a w (2 * r)) (hnn : 128 ≤ w.nn ∧ w.nn ≤ 524288) (h2r : 2 * r ≤ w.nn) : Met l y_Wt_add (wq y_Wt_add prog_7_method_2_code 2 none) ({ frames := 2, cells := 1, slots := 2 * w.nn, locals := 82 }) (va_Pc [.ref w0, .int (nI r)] (fun U => U.heap.size = sz ∧ hsum U.heap = sm ∧ va_P (dC, dI) vwCl [(h0, .inr (2, [.ref g0, .ref g1, .ref g2, .int (nI a.n)])), (g0, .inl (y0, a.la, .inl a.sf)), (g1, .inl (y1, a.la, .inl a.kf)), (g2, .inl (y2, a.lc, .inl a.cf)), (w0, .inr (5, [.ref h0, .ref t0, .ref v0, .ref v1])), (v0, .inl (x0, 802, .inl w.hd)), (v1, .inl (x1, w.nn, .inl w.nx))] U.heap ∧ va_K (dC, dI) vwCl [(y0, .int), (y1, .int), (y2, .int), (x0, .int), (x1, .int)] U ∧ va_D (fun _ => True) [(h0, .inr (2, [.ref g0, .ref g1, .ref g2, .int (nI a.n)])), (g0, .inl (y0, a.la, .inl a.sf)), (g1, .inl (y1, a.la, .inl a.kf)), (g2, .inl (y2, a.lc, .inl a.cf)), (w0, .inr (5, [.ref h0, .ref t0, .ref v0, .ref v1])), (v0, .inl (x0, 802, .inl w.hd)), (v1, .inl (x1, w.nn, .inl w.nx))])) (va_Qv (fun _ : Unit => True) (fun (_ : Unit) t => ∃ (v9 : Nat) (vv : Wx), (Wok a vv (2 * (r + 1))) ∧ (vv.nn = w.nn ∨ (vv.nn = 2 * w.nn ∧ w.nn ≤ 2 * r + 1)) ∧ (2 * (r + 1) ≤ vv.nn) ∧ (t.heap.size + w.nn / 64 ≤ sz + vv.nn / 64) ∧ (hsum t.heap + 2 * w.nn ≤ sm + 2 * vv.nn) ∧ va_P (dC, dI) vwCl [(h0, .inr (2, [.ref g0, .ref g1, .ref g2, .int (nI a.n)])), (g0, .inl (y0, a.la, .inl a.sf)), (g1, .inl (y1, a.la, .inl a.kf)), (g2, .inl (y2, a.lc, .inl a.cf)), (w0, .inr (5, [.ref h0, .ref t0, .ref v0, .ref v9])), (v0, .inl (x0, 802, .inl vv.hd)), (v9, .inl (x1, vv.nn, .inl vv.nx))] t.heap ∧ va_K (dC, dI) vwCl [(y0, .int), (y1, .int), (y2, .int), (x0, .int), (x1, .int)] t ∧ va_D (va_A [(h0, .inr (2, [.ref g0, .ref g1, .ref g2, .int (nI a.n)])), (g0, .inl (y0, a.la, .inl a.sf)), (g1, .inl (y1, a.la, .inl a.kf)), (g2, .inl (y2, a.lc, .inl a.cf)), (w0, .inr (5, [.ref h0, .ref t0, .ref v0, .ref v1])), (v0, .inl (x0, 802, .inl w.hd)), (v1, .inl (x1, w.nn, .inl w.nx))] sz) [(h0, .inr (2, [.ref g0, .ref g1, .ref g2, .int (nI a.n)])), (g0, .inl (y0, a.la, .inl a.sf)), (g1, .inl (y1, a.la, .inl a.kf)), (g2, .inl (y2, a.lc, .inl a.cf)), (w0, .inr (5, [.ref h0, .ref t0, .ref v0, .ref v9])), (v0, .inl (x0, 802, .inl vv.hd)), (v9, .inl (x1, vv.nn, .inl vv.nx))]) (va_A [(h0, .inr (2, [.ref g0, .ref g1, .ref g2, .int (nI a.n)])), (g0, .inl (y0, a.la, .inl a.sf)), (g1, .inl (y1, a.la, .inl a.kf)), (g2, .inl (y2, a.lc, .inl a.cf)), (w0, .inr (5, [.ref h0, .ref t0, .ref v0, .ref v1])), (v0, .inl (x0, 802, .inl w.hd)), (v1, .inl (x1, w.nn, .inl w.nx))] sz)) (1) (2 * w.nn) (va_A [(h0, .inr (2, [.ref g0, .ref g1, .ref g2, .int (nI a.n)])), (g0, .inl (y0, a.la, .inl a.sf)), (g1, .inl (y1, a.la, .inl a.kf)), (g2, .inl (y2, a.lc, .inl a.cf)), (w0, .inr (5, [.ref h0, .ref t0, .ref v0, .ref v1])), (v0, .inl (x0, 802, .inl w.hd)), (v1, .inl (x1, w.nn, .inl w.nx))] sz) := by
  refine Met.ofW (cc := prog_7_method_2_code) (maxL := 2) (ret := none) (by decide) rfl ?_
  intro p e s m args below meth c s₁ B hml hv
  obtain ⟨rfl, hsz, hsm, hP, hK, hD0⟩ := hv
  have hx := B.exec
  have hb := B.bytes
  have hr := B.returns
  have hw : ∀ w ∈ bg_W, w.before #[Value.ref w0, Value.int (nI r)] s = true := fun w h => atoms_spec (ws := (wq y_Wt_add prog_7_method_2_code 2 none)) B.pre w (List.mem_cons_of_mem _ h)
  have hown : s.vm.findClass R_Wt = some m.cls := findClass_of_methodNamed B.named
  have hlocks := B.notSynchronized
  subst hsz; subst hsm
  have hD := hD0.self (sz := s.heap.size)
  generalize hAe : va_A [(h0, .inr (2, [.ref g0, .ref g1, .ref g2, .int (nI a.n)])), (g0, .inl (y0, a.la, .inl a.sf)), (g1, .inl (y1, a.la, .inl a.kf)), (g2, .inl (y2, a.lc, .inl a.cf)), (w0, .inr (5, [.ref h0, .ref t0, .ref v0, .ref v1])), (v0, .inl (x0, 802, .inl w.hd)), (v1, .inl (x1, w.nn, .inl w.nx))] s.heap.size = A at hD ⊢
  have hA : ∀ q : Nat, s.heap.size ≤ q → A q := fun q h => by rw [← hAe]; exact Or.inr h
  have hS : va_S A s.heap s.heap [] := va_S.rf
  have hP : va_P (dC, dI) vwCl [(h0, .inr (2, [.ref g0, .ref g1, .ref g2, .int (nI a.n)])), (g0, .inl (y0, a.la, .inl a.sf)), (g1, .inl (y1, a.la, .inl a.kf)), (g2, .inl (y2, a.lc, .inl a.cf)), (w0, .inr (5, [.ref h0, .ref t0, .ref v0, .ref v1])), (v0, .inl (x0, 802, .inl w.hd)), (v1, .inl (x1, w.nn, .inl w.nx))] s.heap := hP
  have hl := lv_entry ([.ref w0, .int (nI r)]) (n := 2) (Nat.le_of_ble_eq_true rfl)
  rw [lg_entry_eq]
  generalize (lg_sl ([.ref w0, .int (nI r)]) ++ List.replicate (2 - (lg_sl ([.ref w0, .int (nI r)])).length) Slot.unset).toArray = ls at hl ⊢
  have hl : lv_has ls 2 [(0, .ref w0), (1, .int (nI r))] := hl
  obtain ⟨H, hH⟩ : ∃ H : Heap, H = s.heap := ⟨_, rfl⟩
  rw [← hH] at hP
  have hS : va_S A s.heap H [] := by rw [hH]; exact va_S.rf
  show W p l e _ s m _ below meth c s.heap [] 0 0 _ _
  rw [← hH]
  obtain ⟨i1, i2, i3, i4, i5, i6⟩ := hR.inb hr9
  have j1 := (hR.cf (a.S r) (by omega)).2
  have j2 := (hR.cf (a.S r + 1) (by omega)).2
  refine lv_iconst (v := nI 2) hx hb d_Wt_add_0 (by decide) ?_
  refine lv_iload_n hx hb d_Wt_add_1 rfl (lv_at hl 1 rfl) ?_
  refine lv_imul hx hb d_Wt_add_2 ?_
  refine lv_topi (fun y_1 ey_1 => ?_)
  obtain rfl : y_1 = nI (2 * r) := ey_1.trans (pk_mul 2 r)
  refine lv_iconst (v := nI 1) hx hb d_Wt_add_3 (by decide) ?_
  refine lv_iadd hx hb d_Wt_add_4 ?_
  refine lv_topi (fun y_2 ey_2 => ?_)
  obtain rfl : y_2 = nI (2 * r + 1) := ey_2.trans (nI_add (2 * r) 1)
  refine lv_aload_n hx hb d_Wt_add_5 rfl (lv_at hl 0 rfl) ?_
  refine va_get (D := (dC, dI)) (ci := 5) (v := .ref v1) (C := R_Wt) (T := F_Wt) (N := 4) hx hb hw in_Wt hown hK hP 4 rfl rfl 3 (by decide) (hw (Cond.fieldLink "ClauseSearch$Watch" 23 "ClauseSearch$Watch" "next" "[I") k_154) (fun _ h9 => h9) rfl d_Wt_add_6 ?_
  refine va_alen hx hb hK hP 6 4 rfl rfl (v := nI w.nn) rfl d_Wt_add_9 ?_
  refine lv_icmp_lt (tgt := 31) hx hb d_Wt_add_10 (by decide) (fun c_10 => ?_) (fun c_10 => ?_)
  · have c_10 : 2 * r + 1 < w.nn := (nI_ltI (a := 2 * r + 1) (b := w.nn) (by omega) (by omega)).mp c_10
    refine lv_aload_n hx hb d_Wt_add_31 rfl (lv_at hl 0 rfl) ?_
    refine lv_iconst (v := nI 2) hx hb d_Wt_add_32 (by decide) ?_
    refine lv_iload_n hx hb d_Wt_add_33 rfl (lv_at hl 1 rfl) ?_
    refine lv_imul hx hb d_Wt_add_34 ?_
    refine lv_topi (fun y_3 ey_3 => ?_)
    obtain rfl : y_3 = nI (2 * r) := ey_3.trans (pk_mul 2 r)
    refine lv_aload_n hx hb d_Wt_add_35 rfl (lv_at hl 0 rfl) ?_
    refine va_get (D := (dC, dI)) (ci := 5) (v := .ref h0) (C := R_Wt) (T := F_Wt) (N := 4) hx hb hw in_Wt hown hK hP 4 rfl rfl 0 (by decide) (hw (Cond.fieldLink "ClauseSearch$Watch" 9 "ClauseSearch$Watch" "rows" "LClauseSearch$Rows;") k_151) (fun _ h9 => h9) rfl d_Wt_add_36 ?_
    refine va_getN (D := (dC, dI)) (ci := 2) (v := .ref g2) (C := R_Rw) (T := F_Rw) (N := 4) hx hb hw in_Rw hown hK hP 0 rfl rfl 2 (by decide) (hw (Cond.fieldLinkNest "ClauseSearch$Watch" 36 "ClauseSearch$Rows" "codes" "[I" "ClauseSearch") k_69) (fun _ h9 => h9) rfl d_Wt_add_39 ?_
    refine lv_aload_n hx hb d_Wt_add_42 rfl (lv_at hl 0 rfl) ?_
    refine va_get (D := (dC, dI)) (ci := 5) (v := .ref h0) (C := R_Wt) (T := F_Wt) (N := 4) hx hb hw in_Wt hown hK hP 4 rfl rfl 0 (by decide) (hw (Cond.fieldLink "ClauseSearch$Watch" 9 "ClauseSearch$Watch" "rows" "LClauseSearch$Rows;") k_151) (fun _ h9 => h9) rfl d_Wt_add_43 ?_
    refine va_getN (D := (dC, dI)) (ci := 2) (v := .ref g0) (C := R_Rw) (T := F_Rw) (N := 4) hx hb hw in_Rw hown hK hP 0 rfl rfl 0 (by decide) (hw (Cond.fieldLinkNest "ClauseSearch$Watch" 41 "ClauseSearch$Rows" "start" "[I" "ClauseSearch") k_61) (fun _ h9 => h9) rfl d_Wt_add_46 ?_
    refine lv_iload_n hx hb d_Wt_add_49 rfl (lv_at hl 1 rfl) ?_
    refine va_iald hx hb hK hP 1 0 rfl rfl (vp_in_nI (by omega) (by omega)) d_Wt_add_50 ?_
    refine lv_topi (fun y_4 ey_4 => ?_)
    rw [nI_clamp (by omega)] at ey_4
    rw [hR.sf _ (by omega)] at ey_4
    subst ey_4
    refine va_iald hx hb hK hP 3 2 rfl rfl (vp_in_nI (by omega) (by omega)) d_Wt_add_51 ?_
    refine lv_topi (fun y_5 ey_5 => ?_)
    rw [nI_clamp (by omega)] at ey_5
    rw [(hR.cf _ (by omega)).1] at ey_5
    subst ey_5
    have hPc := hP.sub (ws' := [(w0, .inr (5, [.ref h0, .ref t0, .ref v0, .ref v1])), (v0, .inl (x0, 802, .inl w.hd)), (v1, .inl (x1, w.nn, .inl w.nx))]) [4, 5, 6] rfl
    have hDc := hD.sub (ws' := [(w0, .inr (5, [.ref h0, .ref t0, .ref v0, .ref v1])), (v0, .inl (x0, 802, .inl w.hd)), (v1, .inl (x1, w.nn, .inl w.nx))]) [4, 5, 6] (by decide) rfl
    have hKc := hK.sub (tys' := [(x0, .int), (x1, .int)]) [3, 4] rfl
    have hFc := va_free (wc := [(w0, .inr (5, [.ref h0, .ref t0, .ref v0, .ref v1])), (v0, .inl (x0, 802, .inl w.hd)), (v1, .inl (x1, w.nn, .inl w.nx))]) hD hS hA [4, 5, 6] rfl
    refine va_callv (va_runV (As := [.int (nI (2 * r)), .int (nI (a.C (a.S r)))]) (rest := []) ⟨hx, hb, hml, hown, hw⟩ (c_Wt_hang l dC dI w0 h0 t0 v0 v1 x0 x1 H.size w.nn w.hd w.nx (2 * r) (a.C (a.S r)) (by omega) (by omega) (by omega)) (cb_V (C := R_Wt) 2 hw k_319 k_33 k_316 k_318 k_3 rfl rfl (by decide +kernel) ⟨Nat.le_of_ble_eq_true rfl, Nat.le_of_ble_eq_true rfl⟩) ⟨fun a U g mk q => by obtain ⟨q0, q1, qP, qK, qD⟩ := q; exact ⟨q0, q1, qP, va_K.moved (u := U) (U := U.calling g mk a) (Vm.Alike.refl U.vm) qK, qD⟩, va_recv hKc hPc (ci := 5) (q0 := 0) rfl rfl, fun U hU hW => ⟨rfl, by rw [hU], by rw [hU]; exact hPc, va_K.moved hW.alike hKc, hDc.weaken (fun _ _ _ _ => trivial)⟩⟩ rfl rfl hl.1 rfl (lv_room (Nat.le_of_ble_eq_true rfl)) d_Wt_add_52 ⟨by show 0 + 0 ≤ 1; omega, by show 0 + 0 ≤ 2 * w.nn; omega⟩) hS (fun q _ h => hFc q h) hFc (fun u t H1 locs ht hvm hw9 hB hz1 hk1 hS => ?_)
    obtain ⟨hP1, hK1, hD1⟩ := hB
    rw [ht] at hP1
    have hK1 := va_K.moved hvm.symm hK1
    obtain ⟨hP, hD⟩ := va_join (wr := [(h0, .inr (2, [.ref g0, .ref g1, .ref g2, .int (nI a.n)])), (g0, .inl (y0, a.la, .inl a.sf)), (g1, .inl (y1, a.la, .inl a.kf)), (g2, .inl (y2, a.lc, .inl a.cf))]) (w1 := [(w0, .inr (5, [.ref h0, .ref t0, .ref v0, .ref v1])), (v0, .inl (x0, 802, .inl (upd w.hd (a.C (a.S r)) (nI (2 * r))))), (v1, .inl (x1, w.nn, .inl (upd w.nx (2 * r) (w.hd (a.C (a.S r))))))]) hP hD [4, 5, 6] [0, 1, 2, 3] rfl rfl (by decide) (by decide) hk1 hFc hP1 hD1
    generalize H1 = H at hP hS ⊢
    have hP : va_P (dC, dI) vwCl [(h0, .inr (2, [.ref g0, .ref g1, .ref g2, .int (nI a.n)])), (g0, .inl (y0, a.la, .inl a.sf)), (g1, .inl (y1, a.la, .inl a.kf)), (g2, .inl (y2, a.lc, .inl a.cf)), (w0, .inr (5, [.ref h0, .ref t0, .ref v0, .ref v1])), (v0, .inl (x0, 802, .inl (upd w.hd (a.C (a.S r)) (nI (2 * r))))), (v1, .inl (x1, w.nn, .inl (upd w.nx (2 * r) (w.hd (a.C (a.S r))))))] H := hP
    have hD : va_D A [(h0, .inr (2, [.ref g0, .ref g1, .ref g2, .int (nI a.n)])), (g0, .inl (y0, a.la, .inl a.sf)), (g1, .inl (y1, a.la, .inl a.kf)), (g2, .inl (y2, a.lc, .inl a.cf)), (w0, .inr (5, [.ref h0, .ref t0, .ref v0, .ref v1])), (v0, .inl (x0, 802, .inl (upd w.hd (a.C (a.S r)) (nI (2 * r))))), (v1, .inl (x1, w.nn, .inl (upd w.nx (2 * r) (w.hd (a.C (a.S r))))))] := hD
    refine W.widen (k := 0) (n := 0) (Nat.le_refl _) (Nat.le_refl _) ?_
    refine lv_aload_n hx hb d_Wt_add_55 rfl (lv_at hl 0 rfl) ?_
    refine lv_iconst (v := nI 2) hx hb d_Wt_add_56 (by decide) ?_
    refine lv_iload_n hx hb d_Wt_add_57 rfl (lv_at hl 1 rfl) ?_
    refine lv_imul hx hb d_Wt_add_58 ?_
    refine lv_topi (fun y_6 ey_6 => ?_)
    obtain rfl : y_6 = nI (2 * r) := ey_6.trans (pk_mul 2 r)
    refine lv_iconst (v := nI 1) hx hb d_Wt_add_59 (by decide) ?_
    refine lv_iadd hx hb d_Wt_add_60 ?_
    refine lv_topi (fun y_7 ey_7 => ?_)
    obtain rfl : y_7 = nI (2 * r + 1) := ey_7.trans (nI_add (2 * r) 1)
    refine lv_aload_n hx hb d_Wt_add_61 rfl (lv_at hl 0 rfl) ?_
    refine va_get (D := (dC, dI)) (ci := 5) (v := .ref h0) (C := R_Wt) (T := F_Wt) (N := 4) hx hb hw in_Wt hown hK hP 4 rfl rfl 0 (by decide) (hw (Cond.fieldLink "ClauseSearch$Watch" 9 "ClauseSearch$Watch" "rows" "LClauseSearch$Rows;") k_151) (fun _ h9 => h9) rfl d_Wt_add_62 ?_
    refine va_getN (D := (dC, dI)) (ci := 2) (v := .ref g2) (C := R_Rw) (T := F_Rw) (N := 4) hx hb hw in_Rw hown hK hP 0 rfl rfl 2 (by decide) (hw (Cond.fieldLinkNest "ClauseSearch$Watch" 36 "ClauseSearch$Rows" "codes" "[I" "ClauseSearch") k_69) (fun _ h9 => h9) rfl d_Wt_add_65 ?_
    refine lv_aload_n hx hb d_Wt_add_68 rfl (lv_at hl 0 rfl) ?_
    refine va_get (D := (dC, dI)) (ci := 5) (v := .ref h0) (C := R_Wt) (T := F_Wt) (N := 4) hx hb hw in_Wt hown hK hP 4 rfl rfl 0 (by decide) (hw (Cond.fieldLink "ClauseSearch$Watch" 9 "ClauseSearch$Watch" "rows" "LClauseSearch$Rows;") k_151) (fun _ h9 => h9) rfl d_Wt_add_69 ?_
    refine va_getN (D := (dC, dI)) (ci := 2) (v := .ref g0) (C := R_Rw) (T := F_Rw) (N := 4) hx hb hw in_Rw hown hK hP 0 rfl rfl 0 (by decide) (hw (Cond.fieldLinkNest "ClauseSearch$Watch" 41 "ClauseSearch$Rows" "start" "[I" "ClauseSearch") k_61) (fun _ h9 => h9) rfl d_Wt_add_72 ?_
    refine lv_iload_n hx hb d_Wt_add_75 rfl (lv_at hl 1 rfl) ?_
    refine va_iald hx hb hK hP 1 0 rfl rfl (vp_in_nI (by omega) (by omega)) d_Wt_add_76 ?_
    refine lv_topi (fun y_8 ey_8 => ?_)
    rw [nI_clamp (by omega)] at ey_8
    rw [hR.sf _ (by omega)] at ey_8
    subst ey_8
    refine lv_iconst (v := nI 1) hx hb d_Wt_add_77 (by decide) ?_
    refine lv_iadd hx hb d_Wt_add_78 ?_
    refine lv_topi (fun y_9 ey_9 => ?_)
    obtain rfl : y_9 = nI (a.S r + 1) := ey_9.trans (nI_add (a.S r) 1)
    refine va_iald hx hb hK hP 3 2 rfl rfl (vp_in_nI (by omega) (by omega)) d_Wt_add_79 ?_
    refine lv_topi (fun y_10 ey_10 => ?_)
    rw [nI_clamp (by omega)] at ey_10
    rw [(hR.cf _ (by omega)).1] at ey_10
    subst ey_10
    have hPc := hP.sub (ws' := [(w0, .inr (5, [.ref h0, .ref t0, .ref v0, .ref v1])), (v0, .inl (x0, 802, .inl (upd w.hd (a.C (a.S r)) (nI (2 * r))))), (v1, .inl (x1, w.nn, .inl (upd w.nx (2 * r) (w.hd (a.C (a.S r))))))]) [4, 5, 6] rfl
    have hDc := hD.sub (ws' := [(w0, .inr (5, [.ref h0, .ref t0, .ref v0, .ref v1])), (v0, .inl (x0, 802, .inl (upd w.hd (a.C (a.S r)) (nI (2 * r))))), (v1, .inl (x1, w.nn, .inl (upd w.nx (2 * r) (w.hd (a.C (a.S r))))))]) [4, 5, 6] (by decide) rfl
    have hKc := hK.sub (tys' := [(x0, .int), (x1, .int)]) [3, 4] rfl
    have hFc := va_free (wc := [(w0, .inr (5, [.ref h0, .ref t0, .ref v0, .ref v1])), (v0, .inl (x0, 802, .inl (upd w.hd (a.C (a.S r)) (nI (2 * r))))), (v1, .inl (x1, w.nn, .inl (upd w.nx (2 * r) (w.hd (a.C (a.S r))))))]) hD hS hA [4, 5, 6] rfl
    refine va_callv (va_runV (As := [.int (nI (2 * r + 1)), .int (nI (a.C (a.S r + 1)))]) (rest := []) ⟨hx, hb, hml, hown, hw⟩ (c_Wt_hang l dC dI w0 h0 t0 v0 v1 x0 x1 H.size w.nn (upd w.hd (a.C (a.S r)) (nI (2 * r))) (upd w.nx (2 * r) (w.hd (a.C (a.S r)))) (2 * r + 1) (a.C (a.S r + 1)) (by omega) (by omega) (by omega)) (cb_V (C := R_Wt) 2 hw k_319 k_33 k_316 k_318 k_3 rfl rfl (by decide +kernel) ⟨Nat.le_of_ble_eq_true rfl, Nat.le_of_ble_eq_true rfl⟩) ⟨fun a U g mk q => by obtain ⟨q0, q1, qP, qK, qD⟩ := q; exact ⟨q0, q1, qP, va_K.moved (u := U) (U := U.calling g mk a) (Vm.Alike.refl U.vm) qK, qD⟩, va_recv hKc hPc (ci := 5) (q0 := 0) rfl rfl, fun U hU hW => ⟨rfl, by rw [hU], by rw [hU]; exact hPc, va_K.moved hW.alike hKc, hDc.weaken (fun _ _ _ _ => trivial)⟩⟩ rfl rfl hl.1 rfl (lv_room (Nat.le_of_ble_eq_true rfl)) d_Wt_add_80 ⟨by show 0 + 0 ≤ 1; omega, by show 0 + 0 ≤ 2 * w.nn; omega⟩) hS (fun q _ h => hFc q h) hFc (fun u t H1 locs ht hvm hw9 hB hz1 hk1 hS => ?_)
    obtain ⟨hP1, hK1, hD1⟩ := hB
    rw [ht] at hP1
    have hK1 := va_K.moved hvm.symm hK1
    obtain ⟨hP, hD⟩ := va_join (wr := [(h0, .inr (2, [.ref g0, .ref g1, .ref g2, .int (nI a.n)])), (g0, .inl (y0, a.la, .inl a.sf)), (g1, .inl (y1, a.la, .inl a.kf)), (g2, .inl (y2, a.lc, .inl a.cf))]) (w1 := [(w0, .inr (5, [.ref h0, .ref t0, .ref v0, .ref v1])), (v0, .inl (x0, 802, .inl (upd (upd w.hd (a.C (a.S r)) (nI (2 * r))) (a.C (a.S r + 1)) (nI (2 * r + 1))))), (v1, .inl (x1, w.nn, .inl (upd (upd w.nx (2 * r) (w.hd (a.C (a.S r)))) (2 * r + 1) ((upd w.hd (a.C (a.S r)) (nI (2 * r))) (a.C (a.S r + 1))))))]) hP hD [4, 5, 6] [0, 1, 2, 3] rfl rfl (by decide) (by decide) hk1 hFc hP1 hD1
    generalize H1 = H at hP hS ⊢
    have hP : va_P (dC, dI) vwCl [(h0, .inr (2, [.ref g0, .ref g1, .ref g2, .int (nI a.n)])), (g0, .inl (y0, a.la, .inl a.sf)), (g1, .inl (y1, a.la, .inl a.kf)), (g2, .inl (y2, a.lc, .inl a.cf)), (w0, .inr (5, [.ref h0, .ref t0, .ref v0, .ref v1])), (v0, .inl (x0, 802, .inl (upd (upd w.hd (a.C (a.S r)) (nI (2 * r))) (a.C (a.S r + 1)) (nI (2 * r + 1))))), (v1, .inl (x1, w.nn, .inl (upd (upd w.nx (2 * r) (w.hd (a.C (a.S r)))) (2 * r + 1) ((upd w.hd (a.C (a.S r)) (nI (2 * r))) (a.C (a.S r + 1))))))] H := hP
    have hD : va_D A [(h0, .inr (2, [.ref g0, .ref g1, .ref g2, .int (nI a.n)])), (g0, .inl (y0, a.la, .inl a.sf)), (g1, .inl (y1, a.la, .inl a.kf)), (g2, .inl (y2, a.lc, .inl a.cf)), (w0, .inr (5, [.ref h0, .ref t0, .ref v0, .ref v1])), (v0, .inl (x0, 802, .inl (upd (upd w.hd (a.C (a.S r)) (nI (2 * r))) (a.C (a.S r + 1)) (nI (2 * r + 1))))), (v1, .inl (x1, w.nn, .inl (upd (upd w.nx (2 * r) (w.hd (a.C (a.S r)))) (2 * r + 1) ((upd w.hd (a.C (a.S r)) (nI (2 * r))) (a.C (a.S r + 1))))))] := hD
    refine W.widen (k := 0) (n := 0) (Nat.le_refl _) (Nat.le_refl _) ?_
    refine ct_know (fun hN1 hN2 => ?_)
    have hP := hP.sub (ws' := [(h0, .inr (2, [.ref g0, .ref g1, .ref g2, .int (nI a.n)])), (g0, .inl (y0, a.la, .inl a.sf)), (g1, .inl (y1, a.la, .inl a.kf)), (g2, .inl (y2, a.lc, .inl a.cf)), (w0, .inr (5, [.ref h0, .ref t0, .ref v0, .ref v1])), (v0, .inl (x0, 802, .inl (Wad a w r).hd)), (v1, .inl (x1, (Wad a w r).nn, .inl (Wad a w r).nx))]) [0, 1, 2, 3, 4, 5, 6] rfl
    have hD := hD.sub (ws' := [(h0, .inr (2, [.ref g0, .ref g1, .ref g2, .int (nI a.n)])), (g0, .inl (y0, a.la, .inl a.sf)), (g1, .inl (y1, a.la, .inl a.kf)), (g2, .inl (y2, a.lc, .inl a.cf)), (w0, .inr (5, [.ref h0, .ref t0, .ref v0, .ref v1])), (v0, .inl (x0, 802, .inl (Wad a w r).hd)), (v1, .inl (x1, (Wad a w r).nn, .inl (Wad a w r).nx))]) [0, 1, 2, 3, 4, 5, 6] (by decide) rfl
    have hK := hK.sub (tys' := [(y0, .int), (y1, .int), (y2, .int), (x0, .int), (x1, .int)]) [0, 1, 2, 3, 4] rfl
    refine W.widen (k := 1) (n := 2 * w.nn) (by omega) (by omega) ?_
    exact W.vret hx hb hr (fun t ht hW => ⟨⟨(), rfl, trivial, v1, (Wad a w r), (hWk.two hR hr9), (Or.inl rfl), (by show 2 * (r + 1) ≤ w.nn; omega), (by rw [ht, hH]; show H.size + w.nn / 64 ≤ _ + w.nn / 64; omega), (by rw [ht, hH]; show hsum H + 2 * w.nn ≤ _ + 2 * w.nn; omega), by rw [ht]; exact hP, va_K.moved hW.alike hK, hD⟩, hS.F ht⟩) hS.2.2 d_Wt_add_83
  · have c_10 : ¬ (2 * r + 1 < w.nn) := fun qq9 => c_10 ((nI_ltI (a := 2 * r + 1) (b := w.nn) (by omega) (by omega)).mpr qq9)
    refine lv_aload_n hx hb d_Wt_add_13 rfl (lv_at hl 0 rfl) ?_
    refine lv_aload_n hx hb d_Wt_add_14 rfl (lv_at hl 0 rfl) ?_
    refine va_get (D := (dC, dI)) (ci := 5) (v := .ref v1) (C := R_Wt) (T := F_Wt) (N := 4) hx hb hw in_Wt hown hK hP 4 rfl rfl 3 (by decide) (hw (Cond.fieldLink "ClauseSearch$Watch" 23 "ClauseSearch$Watch" "next" "[I") k_154) (fun _ h9 => h9) rfl d_Wt_add_15 ?_
    refine lv_iconst (v := nI 2) hx hb d_Wt_add_18 (by decide) ?_
    refine lv_aload_n hx hb d_Wt_add_19 rfl (lv_at hl 0 rfl) ?_
    refine va_get (D := (dC, dI)) (ci := 5) (v := .ref v1) (C := R_Wt) (T := F_Wt) (N := 4) hx hb hw in_Wt hown hK hP 4 rfl rfl 3 (by decide) (hw (Cond.fieldLink "ClauseSearch$Watch" 23 "ClauseSearch$Watch" "next" "[I") k_154) (fun _ h9 => h9) rfl d_Wt_add_20 ?_
    refine va_alen hx hb hK hP 6 4 rfl rfl (v := nI w.nn) rfl d_Wt_add_23 ?_
    refine lv_imul hx hb d_Wt_add_24 ?_
    refine lv_topi (fun y_11 ey_11 => ?_)
    obtain rfl : y_11 = nI (2 * w.nn) := ey_11.trans (pk_mul 2 w.nn)
    have hPc := hP.sub (ws' := [(v1, .inl (x1, w.nn, .inl w.nx))]) [6] rfl
    have hDc := hD.sub (ws' := [(v1, .inl (x1, w.nn, .inl w.nx))]) [6] (by decide) rfl
    have hKc := hK.sub (tys' := [(x1, .int)]) [4] rfl
    have hFc := va_free (wc := [(v1, .inl (x1, w.nn, .inl w.nx))]) hD hS hA [6] rfl
    refine va_callr (va_runS (As := [.ref v1, .int (nI (2 * w.nn))]) (rest := [.ref w0]) ⟨hx, hb, hml, hown, hw⟩ (c_Ar_copyOf l dC dI v1 x1 H.size w.nn (2 * w.nn) w.nx (by omega) (by omega)) (cb_S 2 hw k_392 k_34 k_390 k_391 rfl rfl (by decide +kernel) ⟨Nat.le_of_ble_eq_true rfl, Nat.le_of_ble_eq_true rfl⟩) ⟨fun a U g mk q => by obtain ⟨q0, q1, qP, qK, qD⟩ := q; exact ⟨q0, q1, qP, va_K.moved (u := U) (U := U.calling g mk a) (Vm.Alike.refl U.vm) qK, qD⟩, fun U hU hW => ⟨rfl, by rw [hU], by rw [hU]; exact hPc, va_K.moved hW.alike hKc, hDc.weaken (fun _ _ _ _ => trivial)⟩⟩ rfl rfl hl.1 rfl (lv_room (Nat.le_of_ble_eq_true rfl)) d_Wt_add_25 ⟨by show 0 + 1 ≤ 1; omega, by show 0 + (2 * w.nn) ≤ 2 * w.nn; omega⟩) hS (fun q _ h => hFc q h) hFc (fun u q_12 t H1 locs ht hvm hw9 hB hz1 hk1 hS => ?_)
    obtain ⟨z_13, g_14, hg_15, hP1, hK1, hD1⟩ := hB
    have ez_ := va_int hK1 (i := 0) (j := 1) rfl rfl
    subst ez_
    rw [ht] at hP1
    obtain ⟨hP, hD⟩ := va_join (wr := [(h0, .inr (2, [.ref g0, .ref g1, .ref g2, .int (nI a.n)])), (g0, .inl (y0, a.la, .inl a.sf)), (g1, .inl (y1, a.la, .inl a.kf)), (g2, .inl (y2, a.lc, .inl a.cf)), (w0, .inr (5, [.ref h0, .ref t0, .ref v0, .ref v1])), (v0, .inl (x0, 802, .inl w.hd))]) (w1 := [(v1, .inl (x1, w.nn, .inl w.nx)), (q_12, .inl (x1, (2 * w.nn), .inl g_14))]) hP hD [6] [0, 1, 2, 3, 4, 5] rfl rfl (by decide) (by decide) hk1 hFc hP1 hD1
    generalize H1 = H at hP hS ⊢
    have hP : va_P (dC, dI) vwCl [(h0, .inr (2, [.ref g0, .ref g1, .ref g2, .int (nI a.n)])), (g0, .inl (y0, a.la, .inl a.sf)), (g1, .inl (y1, a.la, .inl a.kf)), (g2, .inl (y2, a.lc, .inl a.cf)), (w0, .inr (5, [.ref h0, .ref t0, .ref v0, .ref v1])), (v0, .inl (x0, 802, .inl w.hd)), (v1, .inl (x1, w.nn, .inl w.nx)), (q_12, .inl (x1, (2 * w.nn), .inl g_14))] H := hP
    have hD : va_D A [(h0, .inr (2, [.ref g0, .ref g1, .ref g2, .int (nI a.n)])), (g0, .inl (y0, a.la, .inl a.sf)), (g1, .inl (y1, a.la, .inl a.kf)), (g2, .inl (y2, a.lc, .inl a.cf)), (w0, .inr (5, [.ref h0, .ref t0, .ref v0, .ref v1])), (v0, .inl (x0, 802, .inl w.hd)), (v1, .inl (x1, w.nn, .inl w.nx)), (q_12, .inl (x1, (2 * w.nn), .inl g_14))] := hD
    refine va_put (D := (dC, dI)) (ci := 5) (v := .ref q_12) (ty := .array .int) (C := R_Wt) (T := F_Wt) (N := 4) hx hb hw in_Wt t_Wt t_Wt_ok n_Wt hown hK hP hD hS 4 rfl rfl 3 (by decide) (hw (Cond.fieldLink "ClauseSearch$Watch" 23 "ClauseSearch$Watch" "next" "[I") k_154) (fun _ h9 => h9) rfl (by decide +kernel) rfl rfl (Nat.le_of_ble_eq_true rfl) d_Wt_add_28 (fun H locs hP hD hS => ?_)
    have hP : va_P (dC, dI) vwCl [(h0, .inr (2, [.ref g0, .ref g1, .ref g2, .int (nI a.n)])), (g0, .inl (y0, a.la, .inl a.sf)), (g1, .inl (y1, a.la, .inl a.kf)), (g2, .inl (y2, a.lc, .inl a.cf)), (w0, .inr (5, [.ref h0, .ref t0, .ref v0, .ref q_12])), (v0, .inl (x0, 802, .inl w.hd)), (v1, .inl (x1, w.nn, .inl w.nx)), (q_12, .inl (x1, (2 * w.nn), .inl g_14))] H := hP
    have hD : va_D A [(h0, .inr (2, [.ref g0, .ref g1, .ref g2, .int (nI a.n)])), (g0, .inl (y0, a.la, .inl a.sf)), (g1, .inl (y1, a.la, .inl a.kf)), (g2, .inl (y2, a.lc, .inl a.cf)), (w0, .inr (5, [.ref h0, .ref t0, .ref v0, .ref q_12])), (v0, .inl (x0, 802, .inl w.hd)), (v1, .inl (x1, w.nn, .inl w.nx)), (q_12, .inl (x1, (2 * w.nn), .inl g_14))] := hD
    refine lv_aload_n hx hb d_Wt_add_31 rfl (lv_at hl 0 rfl) ?_
    refine lv_iconst (v := nI 2) hx hb d_Wt_add_32 (by decide) ?_
    refine lv_iload_n hx hb d_Wt_add_33 rfl (lv_at hl 1 rfl) ?_
    refine lv_imul hx hb d_Wt_add_34 ?_
    refine lv_topi (fun y_16 ey_16 => ?_)
    obtain rfl : y_16 = nI (2 * r) := ey_16.trans (pk_mul 2 r)
    refine lv_aload_n hx hb d_Wt_add_35 rfl (lv_at hl 0 rfl) ?_
    refine va_get (D := (dC, dI)) (ci := 5) (v := .ref h0) (C := R_Wt) (T := F_Wt) (N := 4) hx hb hw in_Wt hown hK hP 4 rfl rfl 0 (by decide) (hw (Cond.fieldLink "ClauseSearch$Watch" 9 "ClauseSearch$Watch" "rows" "LClauseSearch$Rows;") k_151) (fun _ h9 => h9) rfl d_Wt_add_36 ?_
    refine va_getN (D := (dC, dI)) (ci := 2) (v := .ref g2) (C := R_Rw) (T := F_Rw) (N := 4) hx hb hw in_Rw hown hK hP 0 rfl rfl 2 (by decide) (hw (Cond.fieldLinkNest "ClauseSearch$Watch" 36 "ClauseSearch$Rows" "codes" "[I" "ClauseSearch") k_69) (fun _ h9 => h9) rfl d_Wt_add_39 ?_
    refine lv_aload_n hx hb d_Wt_add_42 rfl (lv_at hl 0 rfl) ?_
    refine va_get (D := (dC, dI)) (ci := 5) (v := .ref h0) (C := R_Wt) (T := F_Wt) (N := 4) hx hb hw in_Wt hown hK hP 4 rfl rfl 0 (by decide) (hw (Cond.fieldLink "ClauseSearch$Watch" 9 "ClauseSearch$Watch" "rows" "LClauseSearch$Rows;") k_151) (fun _ h9 => h9) rfl d_Wt_add_43 ?_
    refine va_getN (D := (dC, dI)) (ci := 2) (v := .ref g0) (C := R_Rw) (T := F_Rw) (N := 4) hx hb hw in_Rw hown hK hP 0 rfl rfl 0 (by decide) (hw (Cond.fieldLinkNest "ClauseSearch$Watch" 41 "ClauseSearch$Rows" "start" "[I" "ClauseSearch") k_61) (fun _ h9 => h9) rfl d_Wt_add_46 ?_
    refine lv_iload_n hx hb d_Wt_add_49 rfl (lv_at hl 1 rfl) ?_
    refine va_iald hx hb hK hP 1 0 rfl rfl (vp_in_nI (by omega) (by omega)) d_Wt_add_50 ?_
    refine lv_topi (fun y_17 ey_17 => ?_)
    rw [nI_clamp (by omega)] at ey_17
    rw [hR.sf _ (by omega)] at ey_17
    subst ey_17
    refine va_iald hx hb hK hP 3 2 rfl rfl (vp_in_nI (by omega) (by omega)) d_Wt_add_51 ?_
    refine lv_topi (fun y_18 ey_18 => ?_)
    rw [nI_clamp (by omega)] at ey_18
    rw [(hR.cf _ (by omega)).1] at ey_18
    subst ey_18
    have hPc := hP.sub (ws' := [(w0, .inr (5, [.ref h0, .ref t0, .ref v0, .ref q_12])), (v0, .inl (x0, 802, .inl w.hd)), (q_12, .inl (x1, (2 * w.nn), .inl g_14))]) [4, 5, 7] rfl
    have hDc := hD.sub (ws' := [(w0, .inr (5, [.ref h0, .ref t0, .ref v0, .ref q_12])), (v0, .inl (x0, 802, .inl w.hd)), (q_12, .inl (x1, (2 * w.nn), .inl g_14))]) [4, 5, 7] (by decide) rfl
    have hKc := hK.sub (tys' := [(x0, .int), (x1, .int)]) [3, 4] rfl
    have hFc := va_free (wc := [(w0, .inr (5, [.ref h0, .ref t0, .ref v0, .ref q_12])), (v0, .inl (x0, 802, .inl w.hd)), (q_12, .inl (x1, (2 * w.nn), .inl g_14))]) hD hS hA [4, 5, 7] rfl
    refine va_callv (va_runV (As := [.int (nI (2 * r)), .int (nI (a.C (a.S r)))]) (rest := []) ⟨hx, hb, hml, hown, hw⟩ (c_Wt_hang l dC dI w0 h0 t0 v0 q_12 x0 x1 H.size (2 * w.nn) w.hd g_14 (2 * r) (a.C (a.S r)) (by omega) (by omega) (by omega)) (cb_V (C := R_Wt) 2 hw k_319 k_33 k_316 k_318 k_3 rfl rfl (by decide +kernel) ⟨Nat.le_of_ble_eq_true rfl, Nat.le_of_ble_eq_true rfl⟩) ⟨fun a U g mk q => by obtain ⟨q0, q1, qP, qK, qD⟩ := q; exact ⟨q0, q1, qP, va_K.moved (u := U) (U := U.calling g mk a) (Vm.Alike.refl U.vm) qK, qD⟩, va_recv hKc hPc (ci := 5) (q0 := 0) rfl rfl, fun U hU hW => ⟨rfl, by rw [hU], by rw [hU]; exact hPc, va_K.moved hW.alike hKc, hDc.weaken (fun _ _ _ _ => trivial)⟩⟩ rfl rfl hl.1 rfl (lv_room (Nat.le_of_ble_eq_true rfl)) d_Wt_add_52 ⟨by show (0 + 1) + 0 ≤ 1; omega, by show (0 + (2 * w.nn)) + 0 ≤ 2 * w.nn; omega⟩) hS (fun q _ h => hFc q h) hFc (fun u t H1 locs ht hvm hw9 hB hz1 hk1 hS => ?_)
    obtain ⟨hP1, hK1, hD1⟩ := hB
    rw [ht] at hP1
    have hK1 := va_K.moved hvm.symm hK1
    obtain ⟨hP, hD⟩ := va_join (wr := [(h0, .inr (2, [.ref g0, .ref g1, .ref g2, .int (nI a.n)])), (g0, .inl (y0, a.la, .inl a.sf)), (g1, .inl (y1, a.la, .inl a.kf)), (g2, .inl (y2, a.lc, .inl a.cf)), (v1, .inl (x1, w.nn, .inl w.nx))]) (w1 := [(w0, .inr (5, [.ref h0, .ref t0, .ref v0, .ref q_12])), (v0, .inl (x0, 802, .inl (upd w.hd (a.C (a.S r)) (nI (2 * r))))), (q_12, .inl (x1, (2 * w.nn), .inl (upd g_14 (2 * r) (w.hd (a.C (a.S r))))))]) hP hD [4, 5, 7] [0, 1, 2, 3, 6] rfl rfl (by decide) (by decide) hk1 hFc hP1 hD1
    generalize H1 = H at hP hS ⊢
    have hP : va_P (dC, dI) vwCl [(h0, .inr (2, [.ref g0, .ref g1, .ref g2, .int (nI a.n)])), (g0, .inl (y0, a.la, .inl a.sf)), (g1, .inl (y1, a.la, .inl a.kf)), (g2, .inl (y2, a.lc, .inl a.cf)), (v1, .inl (x1, w.nn, .inl w.nx)), (w0, .inr (5, [.ref h0, .ref t0, .ref v0, .ref q_12])), (v0, .inl (x0, 802, .inl (upd w.hd (a.C (a.S r)) (nI (2 * r))))), (q_12, .inl (x1, (2 * w.nn), .inl (upd g_14 (2 * r) (w.hd (a.C (a.S r))))))] H := hP
    have hD : va_D A [(h0, .inr (2, [.ref g0, .ref g1, .ref g2, .int (nI a.n)])), (g0, .inl (y0, a.la, .inl a.sf)), (g1, .inl (y1, a.la, .inl a.kf)), (g2, .inl (y2, a.lc, .inl a.cf)), (v1, .inl (x1, w.nn, .inl w.nx)), (w0, .inr (5, [.ref h0, .ref t0, .ref v0, .ref q_12])), (v0, .inl (x0, 802, .inl (upd w.hd (a.C (a.S r)) (nI (2 * r))))), (q_12, .inl (x1, (2 * w.nn), .inl (upd g_14 (2 * r) (w.hd (a.C (a.S r))))))] := hD
    refine W.widen (k := (0 + 1)) (n := (0 + (2 * w.nn))) (Nat.le_refl _) (Nat.le_refl _) ?_
    refine lv_aload_n hx hb d_Wt_add_55 rfl (lv_at hl 0 rfl) ?_
    refine lv_iconst (v := nI 2) hx hb d_Wt_add_56 (by decide) ?_
    refine lv_iload_n hx hb d_Wt_add_57 rfl (lv_at hl 1 rfl) ?_
    refine lv_imul hx hb d_Wt_add_58 ?_
    refine lv_topi (fun y_19 ey_19 => ?_)
    obtain rfl : y_19 = nI (2 * r) := ey_19.trans (pk_mul 2 r)
    refine lv_iconst (v := nI 1) hx hb d_Wt_add_59 (by decide) ?_
    refine lv_iadd hx hb d_Wt_add_60 ?_
    refine lv_topi (fun y_20 ey_20 => ?_)
    obtain rfl : y_20 = nI (2 * r + 1) := ey_20.trans (nI_add (2 * r) 1)
    refine lv_aload_n hx hb d_Wt_add_61 rfl (lv_at hl 0 rfl) ?_
    refine va_get (D := (dC, dI)) (ci := 5) (v := .ref h0) (C := R_Wt) (T := F_Wt) (N := 4) hx hb hw in_Wt hown hK hP 5 rfl rfl 0 (by decide) (hw (Cond.fieldLink "ClauseSearch$Watch" 9 "ClauseSearch$Watch" "rows" "LClauseSearch$Rows;") k_151) (fun _ h9 => h9) rfl d_Wt_add_62 ?_
    refine va_getN (D := (dC, dI)) (ci := 2) (v := .ref g2) (C := R_Rw) (T := F_Rw) (N := 4) hx hb hw in_Rw hown hK hP 0 rfl rfl 2 (by decide) (hw (Cond.fieldLinkNest "ClauseSearch$Watch" 36 "ClauseSearch$Rows" "codes" "[I" "ClauseSearch") k_69) (fun _ h9 => h9) rfl d_Wt_add_65 ?_
    refine lv_aload_n hx hb d_Wt_add_68 rfl (lv_at hl 0 rfl) ?_
    refine va_get (D := (dC, dI)) (ci := 5) (v := .ref h0) (C := R_Wt) (T := F_Wt) (N := 4) hx hb hw in_Wt hown hK hP 5 rfl rfl 0 (by decide) (hw (Cond.fieldLink "ClauseSearch$Watch" 9 "ClauseSearch$Watch" "rows" "LClauseSearch$Rows;") k_151) (fun _ h9 => h9) rfl d_Wt_add_69 ?_
    refine va_getN (D := (dC, dI)) (ci := 2) (v := .ref g0) (C := R_Rw) (T := F_Rw) (N := 4) hx hb hw in_Rw hown hK hP 0 rfl rfl 0 (by decide) (hw (Cond.fieldLinkNest "ClauseSearch$Watch" 41 "ClauseSearch$Rows" "start" "[I" "ClauseSearch") k_61) (fun _ h9 => h9) rfl d_Wt_add_72 ?_
    refine lv_iload_n hx hb d_Wt_add_75 rfl (lv_at hl 1 rfl) ?_
    refine va_iald hx hb hK hP 1 0 rfl rfl (vp_in_nI (by omega) (by omega)) d_Wt_add_76 ?_
    refine lv_topi (fun y_21 ey_21 => ?_)
    rw [nI_clamp (by omega)] at ey_21
    rw [hR.sf _ (by omega)] at ey_21
    subst ey_21
    refine lv_iconst (v := nI 1) hx hb d_Wt_add_77 (by decide) ?_
    refine lv_iadd hx hb d_Wt_add_78 ?_
    refine lv_topi (fun y_22 ey_22 => ?_)
    obtain rfl : y_22 = nI (a.S r + 1) := ey_22.trans (nI_add (a.S r) 1)
    refine va_iald hx hb hK hP 3 2 rfl rfl (vp_in_nI (by omega) (by omega)) d_Wt_add_79 ?_
    refine lv_topi (fun y_23 ey_23 => ?_)
    rw [nI_clamp (by omega)] at ey_23
    rw [(hR.cf _ (by omega)).1] at ey_23
    subst ey_23
    have hPc := hP.sub (ws' := [(w0, .inr (5, [.ref h0, .ref t0, .ref v0, .ref q_12])), (v0, .inl (x0, 802, .inl (upd w.hd (a.C (a.S r)) (nI (2 * r))))), (q_12, .inl (x1, (2 * w.nn), .inl (upd g_14 (2 * r) (w.hd (a.C (a.S r))))))]) [5, 6, 7] rfl
    have hDc := hD.sub (ws' := [(w0, .inr (5, [.ref h0, .ref t0, .ref v0, .ref q_12])), (v0, .inl (x0, 802, .inl (upd w.hd (a.C (a.S r)) (nI (2 * r))))), (q_12, .inl (x1, (2 * w.nn), .inl (upd g_14 (2 * r) (w.hd (a.C (a.S r))))))]) [5, 6, 7] (by decide) rfl
    have hKc := hK.sub (tys' := [(x0, .int), (x1, .int)]) [3, 4] rfl
    have hFc := va_free (wc := [(w0, .inr (5, [.ref h0, .ref t0, .ref v0, .ref q_12])), (v0, .inl (x0, 802, .inl (upd w.hd (a.C (a.S r)) (nI (2 * r))))), (q_12, .inl (x1, (2 * w.nn), .inl (upd g_14 (2 * r) (w.hd (a.C (a.S r))))))]) hD hS hA [5, 6, 7] rfl
    refine va_callv (va_runV (As := [.int (nI (2 * r + 1)), .int (nI (a.C (a.S r + 1)))]) (rest := []) ⟨hx, hb, hml, hown, hw⟩ (c_Wt_hang l dC dI w0 h0 t0 v0 q_12 x0 x1 H.size (2 * w.nn) (upd w.hd (a.C (a.S r)) (nI (2 * r))) (upd g_14 (2 * r) (w.hd (a.C (a.S r)))) (2 * r + 1) (a.C (a.S r + 1)) (by omega) (by omega) (by omega)) (cb_V (C := R_Wt) 2 hw k_319 k_33 k_316 k_318 k_3 rfl rfl (by decide +kernel) ⟨Nat.le_of_ble_eq_true rfl, Nat.le_of_ble_eq_true rfl⟩) ⟨fun a U g mk q => by obtain ⟨q0, q1, qP, qK, qD⟩ := q; exact ⟨q0, q1, qP, va_K.moved (u := U) (U := U.calling g mk a) (Vm.Alike.refl U.vm) qK, qD⟩, va_recv hKc hPc (ci := 5) (q0 := 0) rfl rfl, fun U hU hW => ⟨rfl, by rw [hU], by rw [hU]; exact hPc, va_K.moved hW.alike hKc, hDc.weaken (fun _ _ _ _ => trivial)⟩⟩ rfl rfl hl.1 rfl (lv_room (Nat.le_of_ble_eq_true rfl)) d_Wt_add_80 ⟨by show (0 + 1) + 0 ≤ 1; omega, by show (0 + (2 * w.nn)) + 0 ≤ 2 * w.nn; omega⟩) hS (fun q _ h => hFc q h) hFc (fun u t H1 locs ht hvm hw9 hB hz1 hk1 hS => ?_)
    obtain ⟨hP1, hK1, hD1⟩ := hB
    rw [ht] at hP1
    have hK1 := va_K.moved hvm.symm hK1
    obtain ⟨hP, hD⟩ := va_join (wr := [(h0, .inr (2, [.ref g0, .ref g1, .ref g2, .int (nI a.n)])), (g0, .inl (y0, a.la, .inl a.sf)), (g1, .inl (y1, a.la, .inl a.kf)), (g2, .inl (y2, a.lc, .inl a.cf)), (v1, .inl (x1, w.nn, .inl w.nx))]) (w1 := [(w0, .inr (5, [.ref h0, .ref t0, .ref v0, .ref q_12])), (v0, .inl (x0, 802, .inl (upd (upd w.hd (a.C (a.S r)) (nI (2 * r))) (a.C (a.S r + 1)) (nI (2 * r + 1))))), (q_12, .inl (x1, (2 * w.nn), .inl (upd (upd g_14 (2 * r) (w.hd (a.C (a.S r)))) (2 * r + 1) ((upd w.hd (a.C (a.S r)) (nI (2 * r))) (a.C (a.S r + 1))))))]) hP hD [5, 6, 7] [0, 1, 2, 3, 4] rfl rfl (by decide) (by decide) hk1 hFc hP1 hD1
    generalize H1 = H at hP hS ⊢
    have hP : va_P (dC, dI) vwCl [(h0, .inr (2, [.ref g0, .ref g1, .ref g2, .int (nI a.n)])), (g0, .inl (y0, a.la, .inl a.sf)), (g1, .inl (y1, a.la, .inl a.kf)), (g2, .inl (y2, a.lc, .inl a.cf)), (v1, .inl (x1, w.nn, .inl w.nx)), (w0, .inr (5, [.ref h0, .ref t0, .ref v0, .ref q_12])), (v0, .inl (x0, 802, .inl (upd (upd w.hd (a.C (a.S r)) (nI (2 * r))) (a.C (a.S r + 1)) (nI (2 * r + 1))))), (q_12, .inl (x1, (2 * w.nn), .inl (upd (upd g_14 (2 * r) (w.hd (a.C (a.S r)))) (2 * r + 1) ((upd w.hd (a.C (a.S r)) (nI (2 * r))) (a.C (a.S r + 1))))))] H := hP
    have hD : va_D A [(h0, .inr (2, [.ref g0, .ref g1, .ref g2, .int (nI a.n)])), (g0, .inl (y0, a.la, .inl a.sf)), (g1, .inl (y1, a.la, .inl a.kf)), (g2, .inl (y2, a.lc, .inl a.cf)), (v1, .inl (x1, w.nn, .inl w.nx)), (w0, .inr (5, [.ref h0, .ref t0, .ref v0, .ref q_12])), (v0, .inl (x0, 802, .inl (upd (upd w.hd (a.C (a.S r)) (nI (2 * r))) (a.C (a.S r + 1)) (nI (2 * r + 1))))), (q_12, .inl (x1, (2 * w.nn), .inl (upd (upd g_14 (2 * r) (w.hd (a.C (a.S r)))) (2 * r + 1) ((upd w.hd (a.C (a.S r)) (nI (2 * r))) (a.C (a.S r + 1))))))] := hD
    refine W.widen (k := (0 + 1)) (n := (0 + (2 * w.nn))) (Nat.le_refl _) (Nat.le_refl _) ?_
    refine ct_know (fun hN1 hN2 => ?_)
    have hP := hP.sub (ws' := [(h0, .inr (2, [.ref g0, .ref g1, .ref g2, .int (nI a.n)])), (g0, .inl (y0, a.la, .inl a.sf)), (g1, .inl (y1, a.la, .inl a.kf)), (g2, .inl (y2, a.lc, .inl a.cf)), (w0, .inr (5, [.ref h0, .ref t0, .ref v0, .ref q_12])), (v0, .inl (x0, 802, .inl (Wad a (Wx.of (2 * w.nn) w.hd g_14) r).hd)), (q_12, .inl (x1, (Wad a (Wx.of (2 * w.nn) w.hd g_14) r).nn, .inl (Wad a (Wx.of (2 * w.nn) w.hd g_14) r).nx))]) [0, 1, 2, 3, 5, 6, 7] rfl
    have hD := hD.sub (ws' := [(h0, .inr (2, [.ref g0, .ref g1, .ref g2, .int (nI a.n)])), (g0, .inl (y0, a.la, .inl a.sf)), (g1, .inl (y1, a.la, .inl a.kf)), (g2, .inl (y2, a.lc, .inl a.cf)), (w0, .inr (5, [.ref h0, .ref t0, .ref v0, .ref q_12])), (v0, .inl (x0, 802, .inl (Wad a (Wx.of (2 * w.nn) w.hd g_14) r).hd)), (q_12, .inl (x1, (Wad a (Wx.of (2 * w.nn) w.hd g_14) r).nn, .inl (Wad a (Wx.of (2 * w.nn) w.hd g_14) r).nx))]) [0, 1, 2, 3, 5, 6, 7] (by decide) rfl
    have hK := hK.sub (tys' := [(y0, .int), (y1, .int), (y2, .int), (x0, .int), (x1, .int)]) [0, 1, 2, 3, 4] rfl
    refine W.widen (k := 1) (n := 2 * w.nn) (by omega) (by omega) ?_
    exact W.vret hx hb hr (fun t ht hW => ⟨⟨(), rfl, trivial, q_12, (Wad a (Wx.of (2 * w.nn) w.hd g_14) r), ((hWk.ext (v := Wx.of (2 * w.nn) w.hd g_14) rfl (fun m hm => hg_15 m (by omega))).two hR hr9), (Or.inr ⟨rfl, by omega⟩), (by show 2 * (r + 1) ≤ 2 * w.nn; omega), (by rw [ht, hH]; show H.size + w.nn / 64 ≤ _ + 2 * w.nn / 64; omega), (by rw [ht, hH]; show hsum H + 2 * w.nn ≤ _ + 2 * (2 * w.nn); omega), by rw [ht]; exact hP, va_K.moved hW.alike hK, hD⟩, hS.F ht⟩) hS.2.2 d_Wt_add_83
