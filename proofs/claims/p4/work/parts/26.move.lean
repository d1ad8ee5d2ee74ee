abbrev y_Rw_moveDown : MethodName := ⟨"ClauseSearch$Rows", "moveDown", "(II)V"⟩
theorem d_Rw_moveDown_0 : decode prog_4_method_3_code 0 = .ok (.aload_n 0, 1) := by decide +kernel
theorem d_Rw_moveDown_1 : decode prog_4_method_3_code 1 = .ok (.getfield 7, 3) := by decide +kernel
theorem d_Rw_moveDown_4 : decode prog_4_method_3_code 4 = .ok (.iload_n 1, 1) := by decide +kernel
theorem d_Rw_moveDown_5 : decode prog_4_method_3_code 5 = .ok (.iconst 1, 1) := by decide +kernel
theorem d_Rw_moveDown_6 : decode prog_4_method_3_code 6 = .ok (.iadd, 1) := by decide +kernel
theorem d_Rw_moveDown_7 : decode prog_4_method_3_code 7 = .ok (.iaload, 1) := by decide +kernel
theorem d_Rw_moveDown_8 : decode prog_4_method_3_code 8 = .ok (.aload_n 0, 1) := by decide +kernel
theorem d_Rw_moveDown_9 : decode prog_4_method_3_code 9 = .ok (.getfield 7, 3) := by decide +kernel
theorem d_Rw_moveDown_12 : decode prog_4_method_3_code 12 = .ok (.iload_n 1, 1) := by decide +kernel
theorem d_Rw_moveDown_13 : decode prog_4_method_3_code 13 = .ok (.iaload, 1) := by decide +kernel
theorem d_Rw_moveDown_14 : decode prog_4_method_3_code 14 = .ok (.isub, 1) := by decide +kernel
theorem d_Rw_moveDown_15 : decode prog_4_method_3_code 15 = .ok (.istore_n 3, 1) := by decide +kernel
theorem d_Rw_moveDown_16 : decode prog_4_method_3_code 16 = .ok (.aload_n 0, 1) := by decide +kernel
theorem d_Rw_moveDown_17 : decode prog_4_method_3_code 17 = .ok (.getfield 16, 3) := by decide +kernel
theorem d_Rw_moveDown_20 : decode prog_4_method_3_code 20 = .ok (.aload_n 0, 1) := by decide +kernel
theorem d_Rw_moveDown_21 : decode prog_4_method_3_code 21 = .ok (.getfield 7, 3) := by decide +kernel
theorem d_Rw_moveDown_24 : decode prog_4_method_3_code 24 = .ok (.iload_n 1, 1) := by decide +kernel
theorem d_Rw_moveDown_25 : decode prog_4_method_3_code 25 = .ok (.iaload, 1) := by decide +kernel
theorem d_Rw_moveDown_26 : decode prog_4_method_3_code 26 = .ok (.aload_n 0, 1) := by decide +kernel
theorem d_Rw_moveDown_27 : decode prog_4_method_3_code 27 = .ok (.getfield 16, 3) := by decide +kernel
theorem d_Rw_moveDown_30 : decode prog_4_method_3_code 30 = .ok (.aload_n 0, 1) := by decide +kernel
theorem d_Rw_moveDown_31 : decode prog_4_method_3_code 31 = .ok (.getfield 7, 3) := by decide +kernel
theorem d_Rw_moveDown_34 : decode prog_4_method_3_code 34 = .ok (.iload_n 2, 1) := by decide +kernel
theorem d_Rw_moveDown_35 : decode prog_4_method_3_code 35 = .ok (.iaload, 1) := by decide +kernel
theorem d_Rw_moveDown_36 : decode prog_4_method_3_code 36 = .ok (.iload_n 3, 1) := by decide +kernel
theorem d_Rw_moveDown_37 : decode prog_4_method_3_code 37 = .ok (.invokestatic 29, 3) := by decide +kernel
theorem d_Rw_moveDown_40 : decode prog_4_method_3_code 40 = .ok (.aload_n 0, 1) := by decide +kernel
theorem d_Rw_moveDown_41 : decode prog_4_method_3_code 41 = .ok (.getfield 13, 3) := by decide +kernel
theorem d_Rw_moveDown_44 : decode prog_4_method_3_code 44 = .ok (.iload_n 2, 1) := by decide +kernel
theorem d_Rw_moveDown_45 : decode prog_4_method_3_code 45 = .ok (.aload_n 0, 1) := by decide +kernel
theorem d_Rw_moveDown_46 : decode prog_4_method_3_code 46 = .ok (.getfield 13, 3) := by decide +kernel
theorem d_Rw_moveDown_49 : decode prog_4_method_3_code 49 = .ok (.iload_n 1, 1) := by decide +kernel
theorem d_Rw_moveDown_50 : decode prog_4_method_3_code 50 = .ok (.iaload, 1) := by decide +kernel
theorem d_Rw_moveDown_51 : decode prog_4_method_3_code 51 = .ok (.iastore, 1) := by decide +kernel
theorem d_Rw_moveDown_52 : decode prog_4_method_3_code 52 = .ok (.aload_n 0, 1) := by decide +kernel
theorem d_Rw_moveDown_53 : decode prog_4_method_3_code 53 = .ok (.getfield 7, 3) := by decide +kernel
theorem d_Rw_moveDown_56 : decode prog_4_method_3_code 56 = .ok (.iload_n 2, 1) := by decide +kernel
theorem d_Rw_moveDown_57 : decode prog_4_method_3_code 57 = .ok (.iconst 1, 1) := by decide +kernel
theorem d_Rw_moveDown_58 : decode prog_4_method_3_code 58 = .ok (.iadd, 1) := by decide +kernel
theorem d_Rw_moveDown_59 : decode prog_4_method_3_code 59 = .ok (.aload_n 0, 1) := by decide +kernel
theorem d_Rw_moveDown_60 : decode prog_4_method_3_code 60 = .ok (.getfield 7, 3) := by decide +kernel
theorem d_Rw_moveDown_63 : decode prog_4_method_3_code 63 = .ok (.iload_n 2, 1) := by decide +kernel
theorem d_Rw_moveDown_64 : decode prog_4_method_3_code 64 = .ok (.iaload, 1) := by decide +kernel
theorem d_Rw_moveDown_65 : decode prog_4_method_3_code 65 = .ok (.iload_n 3, 1) := by decide +kernel
theorem d_Rw_moveDown_66 : decode prog_4_method_3_code 66 = .ok (.iadd, 1) := by decide +kernel
theorem d_Rw_moveDown_67 : decode prog_4_method_3_code 67 = .ok (.iastore, 1) := by decide +kernel
theorem d_Rw_moveDown_68 : decode prog_4_method_3_code 68 = .ok (.return_, 1) := by decide +kernel
set_option maxHeartbeats 4000000 in
set_option maxRecDepth 100000 in
/-- moveDown(r, place) -/
theorem c_Rw_move (l : Launch) (dC : Nat → ClassId) (dI : Nat → Nat → Nat) (h0 : Nat) (g0 : Nat) (g1 : Nat) (g2 : Nat) (y0 : ClassId) (y1 : ClassId) (y2 : ClassId) (sz : Nat) (k : Nat) (la : Nat) (lc : Nat) (sf : Nat → Int32) (kf : Nat → Int32) (cf : Nat → Int32) (r : Nat) (pl : Nat) (b1 : Nat) (b2 : Nat) (b3 : Nat) (hb1 : sf r = nI b1) (hb2 : sf (r + 1) = nI b2) (hb3 : sf pl = nI b3) (hb4 : b3 ≤ b1 ∧ b1 ≤ b2 ∧ b2 ≤ lc ∧ pl ≤ r ∧ r + 1 < la ∧ la ≤ 1048576 ∧ lc ≤ 4194304) : Met l y_Rw_moveDown (wq y_Rw_moveDown prog_4_method_3_code 4 none) ({ frames := 1, cells := 0, slots := 0, locals := 40 }) (va_Pc [.ref h0, .int (nI r), .int (nI pl)] (fun U => U.heap.size = sz ∧ va_P (dC, dI) vwCl [(h0, .inr (2, [.ref g0, .ref g1, .ref g2, .int (nI k)])), (g0, .inl (y0, la, .inl sf)), (g1, .inl (y1, la, .inl kf)), (g2, .inl (y2, lc, .inl cf))] U.heap ∧ va_K (dC, dI) vwCl [(y0, .int), (y1, .int), (y2, .int)] U ∧ va_D (fun _ => True) [(h0, .inr (2, [.ref g0, .ref g1, .ref g2, .int (nI k)])), (g0, .inl (y0, la, .inl sf)), (g1, .inl (y1, la, .inl kf)), (g2, .inl (y2, lc, .inl cf))])) (va_Qv (fun _ : Unit => True) (fun (_ : Unit) t => va_P (dC, dI) vwCl [(h0, .inr (2, [.ref g0, .ref g1, .ref g2, .int (nI k)])), (g0, .inl (y0, la, .inl (upd sf (pl + 1) (nI (b3 + (b2 - b1)))))), (g1, .inl (y1, la, .inl (upd kf pl (kf r)))), (g2, .inl (y2, lc, .inl (va_cpy cf cf b1 b3 (b2 - b1))))] t.heap ∧ va_K (dC, dI) vwCl [(y0, .int), (y1, .int), (y2, .int)] t ∧ va_D (va_A [(h0, .inr (2, [.ref g0, .ref g1, .ref g2, .int (nI k)])), (g0, .inl (y0, la, .inl sf)), (g1, .inl (y1, la, .inl kf)), (g2, .inl (y2, lc, .inl cf))] sz) [(h0, .inr (2, [.ref g0, .ref g1, .ref g2, .int (nI k)])), (g0, .inl (y0, la, .inl (upd sf (pl + 1) (nI (b3 + (b2 - b1)))))), (g1, .inl (y1, la, .inl (upd kf pl (kf r)))), (g2, .inl (y2, lc, .inl (va_cpy cf cf b1 b3 (b2 - b1))))]) (va_A [(h0, .inr (2, [.ref g0, .ref g1, .ref g2, .int (nI k)])), (g0, .inl (y0, la, .inl sf)), (g1, .inl (y1, la, .inl kf)), (g2, .inl (y2, lc, .inl cf))] sz)) 0 0 (va_A [(h0, .inr (2, [.ref g0, .ref g1, .ref g2, .int (nI k)])), (g0, .inl (y0, la, .inl sf)), (g1, .inl (y1, la, .inl kf)), (g2, .inl (y2, lc, .inl cf))] sz) := by
  refine Met.ofW (cc := prog_4_method_3_code) (maxL := 4) (ret := none) (by decide) rfl ?_
  intro p e s m args below meth c s₁ B hml hv
  obtain ⟨rfl, hsz, hP, hK, hD0⟩ := hv
  have hx := B.exec
  have hb := B.bytes
  have hr := B.returns
  have hw : ∀ w ∈ bg_W, w.before #[Value.ref h0, Value.int (nI r), Value.int (nI pl)] s = true := fun w h => atoms_spec (ws := (wq y_Rw_moveDown prog_4_method_3_code 4 none)) B.pre w (List.mem_cons_of_mem _ h)
  have hown : s.vm.findClass R_Rw = some m.cls := findClass_of_methodNamed B.named
  have hlocks := B.notSynchronized
  subst hsz
  have hD := hD0.self (sz := s.heap.size)
  generalize hAe : va_A [(h0, .inr (2, [.ref g0, .ref g1, .ref g2, .int (nI k)])), (g0, .inl (y0, la, .inl sf)), (g1, .inl (y1, la, .inl kf)), (g2, .inl (y2, lc, .inl cf))] s.heap.size = A at hD ⊢
  have hA : ∀ q : Nat, s.heap.size ≤ q → A q := fun q h => by rw [← hAe]; exact Or.inr h
  have hS : va_S A s.heap s.heap [] := va_S.rf
  have hP : va_P (dC, dI) vwCl [(h0, .inr (2, [.ref g0, .ref g1, .ref g2, .int (nI k)])), (g0, .inl (y0, la, .inl sf)), (g1, .inl (y1, la, .inl kf)), (g2, .inl (y2, lc, .inl cf))] s.heap := hP
  have hl := lv_entry ([.ref h0, .int (nI r), .int (nI pl)]) (n := 4) (Nat.le_of_ble_eq_true rfl)
  rw [lg_entry_eq]
  generalize (lg_sl ([.ref h0, .int (nI r), .int (nI pl)]) ++ List.replicate (4 - (lg_sl ([.ref h0, .int (nI r), .int (nI pl)])).length) Slot.unset).toArray = ls at hl ⊢
  have hl : lv_has ls 4 [(0, .ref h0), (1, .int (nI r)), (2, .int (nI pl))] := hl
  obtain ⟨H, hH⟩ : ∃ H : Heap, H = s.heap := ⟨_, rfl⟩
  rw [← hH] at hP
  have hS : va_S A s.heap H [] := by rw [hH]; exact va_S.rf
  show W p l e _ s m _ below meth c s.heap [] 0 0 _ _
  rw [← hH]
  refine lv_aload_n hx hb d_Rw_moveDown_0 rfl (lv_at hl 0 rfl) ?_
  refine va_get (D := (dC, dI)) (ci := 2) (v := .ref g0) (C := R_Rw) (T := F_Rw) (N := 4) hx hb hw in_Rw hown hK hP 0 rfl rfl 0 (by decide) (hw (Cond.fieldLink "ClauseSearch$Rows" 7 "ClauseSearch$Rows" "start" "[I") k_60) (fun _ h9 => h9) rfl d_Rw_moveDown_1 ?_
  refine lv_iload_n hx hb d_Rw_moveDown_4 rfl (lv_at hl 1 rfl) ?_
  refine lv_iconst (v := nI 1) hx hb d_Rw_moveDown_5 (by decide) ?_
  refine lv_iadd hx hb d_Rw_moveDown_6 ?_
  refine lv_topi (fun y_1 ey_1 => ?_)
  obtain rfl : y_1 = nI (r + 1) := ey_1.trans (nI_add r 1)
  refine va_iald hx hb hK hP 1 0 rfl rfl (vp_in_nI (by omega) (by omega)) d_Rw_moveDown_7 ?_
  refine lv_topi (fun y_2 ey_2 => ?_)
  rw [nI_clamp (by omega)] at ey_2
  rw [hb2] at ey_2
  subst ey_2
  refine lv_aload_n hx hb d_Rw_moveDown_8 rfl (lv_at hl 0 rfl) ?_
  refine va_get (D := (dC, dI)) (ci := 2) (v := .ref g0) (C := R_Rw) (T := F_Rw) (N := 4) hx hb hw in_Rw hown hK hP 0 rfl rfl 0 (by decide) (hw (Cond.fieldLink "ClauseSearch$Rows" 7 "ClauseSearch$Rows" "start" "[I") k_60) (fun _ h9 => h9) rfl d_Rw_moveDown_9 ?_
  refine lv_iload_n hx hb d_Rw_moveDown_12 rfl (lv_at hl 1 rfl) ?_
  refine va_iald hx hb hK hP 1 0 rfl rfl (vp_in_nI (by omega) (by omega)) d_Rw_moveDown_13 ?_
  refine lv_topi (fun y_3 ey_3 => ?_)
  rw [nI_clamp (by omega)] at ey_3
  rw [hb1] at ey_3
  subst ey_3
  refine lv_isub hx hb d_Rw_moveDown_14 ?_
  refine lv_topi (fun y_4 ey_4 => ?_)
  obtain rfl : y_4 = nI (b2 - b1) := ey_4.trans (pk_sub (by omega))
  refine lv_istore_n (lv' := [(3, .int (nI (b2 - b1))), (0, .ref h0), (1, .int (nI r)), (2, .int (nI pl))]) hx hb d_Rw_moveDown_15 rfl hl (by decide) rfl (fun ls hl => ?_)
  refine lv_aload_n hx hb d_Rw_moveDown_16 rfl (lv_at hl 1 rfl) ?_
  refine va_get (D := (dC, dI)) (ci := 2) (v := .ref g2) (C := R_Rw) (T := F_Rw) (N := 4) hx hb hw in_Rw hown hK hP 0 rfl rfl 2 (by decide) (hw (Cond.fieldLink "ClauseSearch$Rows" 16 "ClauseSearch$Rows" "codes" "[I") k_68) (fun _ h9 => h9) rfl d_Rw_moveDown_17 ?_
  refine lv_aload_n hx hb d_Rw_moveDown_20 rfl (lv_at hl 1 rfl) ?_
  refine va_get (D := (dC, dI)) (ci := 2) (v := .ref g0) (C := R_Rw) (T := F_Rw) (N := 4) hx hb hw in_Rw hown hK hP 0 rfl rfl 0 (by decide) (hw (Cond.fieldLink "ClauseSearch$Rows" 7 "ClauseSearch$Rows" "start" "[I") k_60) (fun _ h9 => h9) rfl d_Rw_moveDown_21 ?_
  refine lv_iload_n hx hb d_Rw_moveDown_24 rfl (lv_at hl 2 rfl) ?_
  refine va_iald hx hb hK hP 1 0 rfl rfl (vp_in_nI (by omega) (by omega)) d_Rw_moveDown_25 ?_
  refine lv_topi (fun y_5 ey_5 => ?_)
  rw [nI_clamp (by omega)] at ey_5
  rw [hb1] at ey_5
  subst ey_5
  refine lv_aload_n hx hb d_Rw_moveDown_26 rfl (lv_at hl 1 rfl) ?_
  refine va_get (D := (dC, dI)) (ci := 2) (v := .ref g2) (C := R_Rw) (T := F_Rw) (N := 4) hx hb hw in_Rw hown hK hP 0 rfl rfl 2 (by decide) (hw (Cond.fieldLink "ClauseSearch$Rows" 16 "ClauseSearch$Rows" "codes" "[I") k_68) (fun _ h9 => h9) rfl d_Rw_moveDown_27 ?_
  refine lv_aload_n hx hb d_Rw_moveDown_30 rfl (lv_at hl 1 rfl) ?_
  refine va_get (D := (dC, dI)) (ci := 2) (v := .ref g0) (C := R_Rw) (T := F_Rw) (N := 4) hx hb hw in_Rw hown hK hP 0 rfl rfl 0 (by decide) (hw (Cond.fieldLink "ClauseSearch$Rows" 7 "ClauseSearch$Rows" "start" "[I") k_60) (fun _ h9 => h9) rfl d_Rw_moveDown_31 ?_
  refine lv_iload_n hx hb d_Rw_moveDown_34 rfl (lv_at hl 3 rfl) ?_
  refine va_iald hx hb hK hP 1 0 rfl rfl (vp_in_nI (by omega) (by omega)) d_Rw_moveDown_35 ?_
  refine lv_topi (fun y_6 ey_6 => ?_)
  rw [nI_clamp (by omega)] at ey_6
  rw [hb3] at ey_6
  subst ey_6
  refine lv_iload_n hx hb d_Rw_moveDown_36 rfl (lv_at hl 0 rfl) ?_
  refine va_copyi (ty := .int) hx hb (by rw [hml]; exact hl.1.symm) hown (hw (Cond.methodLink "ClauseSearch$Rows" 29 ⟨"java/lang/System", "arraycopy", "(Ljava/lang/Object;ILjava/lang/Object;II)V"⟩) k_379) (hw (Cond.native ⟨"java/lang/System", "arraycopy", "(Ljava/lang/Object;ILjava/lang/Object;II)V"⟩) k_381) (hw (Cond.static ⟨"java/lang/System", "arraycopy", "(Ljava/lang/Object;ILjava/lang/Object;II)V"⟩) k_380) (hw (Cond.initialized "java/lang/System") k_45) hK hP hD hS 3 3 2 2 rfl rfl rfl rfl rfl (nI_pos (by omega)) (nI_pos (by omega)) (nI_pos (by omega)) (by rw [nI_clamp (by omega), nI_clamp (by omega)]; omega) (by rw [nI_clamp (by omega), nI_clamp (by omega)]; omega) (fun _ _ => rfl) (Nat.le_of_ble_eq_true rfl) (Nat.le_of_ble_eq_true rfl) d_Rw_moveDown_37 (fun H locs hP hD hS => ?_)
  rw [nI_clamp (n := b1) (by omega), nI_clamp (n := b3) (by omega), nI_clamp (n := b2 - b1) (by omega)] at hP hD
  have hP : va_P (dC, dI) vwCl [(h0, .inr (2, [.ref g0, .ref g1, .ref g2, .int (nI k)])), (g0, .inl (y0, la, .inl sf)), (g1, .inl (y1, la, .inl kf)), (g2, .inl (y2, lc, .inl (va_cpy cf cf b1 b3 (b2 - b1))))] H := hP
  have hD : va_D A [(h0, .inr (2, [.ref g0, .ref g1, .ref g2, .int (nI k)])), (g0, .inl (y0, la, .inl sf)), (g1, .inl (y1, la, .inl kf)), (g2, .inl (y2, lc, .inl (va_cpy cf cf b1 b3 (b2 - b1))))] := hD
  refine lv_aload_n hx hb d_Rw_moveDown_40 rfl (lv_at hl 1 rfl) ?_
  refine va_get (D := (dC, dI)) (ci := 2) (v := .ref g1) (C := R_Rw) (T := F_Rw) (N := 4) hx hb hw in_Rw hown hK hP 0 rfl rfl 1 (by decide) (hw (Cond.fieldLink "ClauseSearch$Rows" 13 "ClauseSearch$Rows" "kind" "[I") k_66) (fun _ h9 => h9) rfl d_Rw_moveDown_41 ?_
  refine lv_iload_n hx hb d_Rw_moveDown_44 rfl (lv_at hl 3 rfl) ?_
  refine lv_aload_n hx hb d_Rw_moveDown_45 rfl (lv_at hl 1 rfl) ?_
  refine va_get (D := (dC, dI)) (ci := 2) (v := .ref g1) (C := R_Rw) (T := F_Rw) (N := 4) hx hb hw in_Rw hown hK hP 0 rfl rfl 1 (by decide) (hw (Cond.fieldLink "ClauseSearch$Rows" 13 "ClauseSearch$Rows" "kind" "[I") k_66) (fun _ h9 => h9) rfl d_Rw_moveDown_46 ?_
  refine lv_iload_n hx hb d_Rw_moveDown_49 rfl (lv_at hl 2 rfl) ?_
  refine va_iald hx hb hK hP 2 1 rfl rfl (vp_in_nI (by omega) (by omega)) d_Rw_moveDown_50 ?_
  refine lv_topi (fun y_7 ey_7 => ?_)
  rw [nI_clamp (by omega)] at ey_7
  subst ey_7
  refine va_iast hx hb hK hP hD hS 2 1 rfl rfl (vp_in_nI (by omega) (by omega)) d_Rw_moveDown_51 (fun H locs hP hD hS => ?_)
  rw [nI_clamp (n := pl) (by omega)] at hP hD
  have hP : va_P (dC, dI) vwCl [(h0, .inr (2, [.ref g0, .ref g1, .ref g2, .int (nI k)])), (g0, .inl (y0, la, .inl sf)), (g1, .inl (y1, la, .inl (upd kf pl (kf r)))), (g2, .inl (y2, lc, .inl (va_cpy cf cf b1 b3 (b2 - b1))))] H := hP
  have hD : va_D A [(h0, .inr (2, [.ref g0, .ref g1, .ref g2, .int (nI k)])), (g0, .inl (y0, la, .inl sf)), (g1, .inl (y1, la, .inl (upd kf pl (kf r)))), (g2, .inl (y2, lc, .inl (va_cpy cf cf b1 b3 (b2 - b1))))] := hD
  refine lv_aload_n hx hb d_Rw_moveDown_52 rfl (lv_at hl 1 rfl) ?_
  refine va_get (D := (dC, dI)) (ci := 2) (v := .ref g0) (C := R_Rw) (T := F_Rw) (N := 4) hx hb hw in_Rw hown hK hP 0 rfl rfl 0 (by decide) (hw (Cond.fieldLink "ClauseSearch$Rows" 7 "ClauseSearch$Rows" "start" "[I") k_60) (fun _ h9 => h9) rfl d_Rw_moveDown_53 ?_
  refine lv_iload_n hx hb d_Rw_moveDown_56 rfl (lv_at hl 3 rfl) ?_
  refine lv_iconst (v := nI 1) hx hb d_Rw_moveDown_57 (by decide) ?_
  refine lv_iadd hx hb d_Rw_moveDown_58 ?_
  refine lv_topi (fun y_8 ey_8 => ?_)
  obtain rfl : y_8 = nI (pl + 1) := ey_8.trans (nI_add pl 1)
  refine lv_aload_n hx hb d_Rw_moveDown_59 rfl (lv_at hl 1 rfl) ?_
  refine va_get (D := (dC, dI)) (ci := 2) (v := .ref g0) (C := R_Rw) (T := F_Rw) (N := 4) hx hb hw in_Rw hown hK hP 0 rfl rfl 0 (by decide) (hw (Cond.fieldLink "ClauseSearch$Rows" 7 "ClauseSearch$Rows" "start" "[I") k_60) (fun _ h9 => h9) rfl d_Rw_moveDown_60 ?_
  refine lv_iload_n hx hb d_Rw_moveDown_63 rfl (lv_at hl 3 rfl) ?_
  refine va_iald hx hb hK hP 1 0 rfl rfl (vp_in_nI (by omega) (by omega)) d_Rw_moveDown_64 ?_
  refine lv_topi (fun y_9 ey_9 => ?_)
  rw [nI_clamp (by omega)] at ey_9
  rw [hb3] at ey_9
  subst ey_9
  refine lv_iload_n hx hb d_Rw_moveDown_65 rfl (lv_at hl 0 rfl) ?_
  refine lv_iadd hx hb d_Rw_moveDown_66 ?_
  refine lv_topi (fun y_10 ey_10 => ?_)
  obtain rfl : y_10 = nI (b3 + (b2 - b1)) := ey_10.trans (nI_add b3 (b2 - b1))
  refine va_iast hx hb hK hP hD hS 1 0 rfl rfl (vp_in_nI (by omega) (by omega)) d_Rw_moveDown_67 (fun H locs hP hD hS => ?_)
  rw [nI_clamp (n := pl + 1) (by omega)] at hP hD
  have hP : va_P (dC, dI) vwCl [(h0, .inr (2, [.ref g0, .ref g1, .ref g2, .int (nI k)])), (g0, .inl (y0, la, .inl (upd sf (pl + 1) (nI (b3 + (b2 - b1)))))), (g1, .inl (y1, la, .inl (upd kf pl (kf r)))), (g2, .inl (y2, lc, .inl (va_cpy cf cf b1 b3 (b2 - b1))))] H := hP
  have hD : va_D A [(h0, .inr (2, [.ref g0, .ref g1, .ref g2, .int (nI k)])), (g0, .inl (y0, la, .inl (upd sf (pl + 1) (nI (b3 + (b2 - b1)))))), (g1, .inl (y1, la, .inl (upd kf pl (kf r)))), (g2, .inl (y2, lc, .inl (va_cpy cf cf b1 b3 (b2 - b1))))] := hD
  refine W.widen (k := 0) (n := 0) (by decide) (by decide) ?_
  exact W.vret hx hb hr (fun t ht hW => ⟨⟨(), rfl, trivial, by rw [ht]; exact hP, va_K.moved hW.alike hK, hD⟩, hS.F ht⟩) hS.2.2 d_Rw_moveDown_68
