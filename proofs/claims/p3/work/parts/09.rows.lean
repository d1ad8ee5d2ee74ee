abbrev y_Rw_add : MethodName := ⟨"ClauseSearch$Rows", "add", "([III)V"⟩
theorem k_34 : (Cond.initialized "java/util/Arrays") ∈ bg_W := bg_in 34 (by decide +kernel) (by decide +kernel)
theorem k_60 : (Cond.fieldLink "ClauseSearch$Rows" 7 "ClauseSearch$Rows" "start" "[I") ∈ bg_W := bg_in 60 (by decide +kernel) (by decide +kernel)
theorem k_66 : (Cond.fieldLink "ClauseSearch$Rows" 13 "ClauseSearch$Rows" "kind" "[I") ∈ bg_W := bg_in 66 (by decide +kernel) (by decide +kernel)
theorem k_68 : (Cond.fieldLink "ClauseSearch$Rows" 16 "ClauseSearch$Rows" "codes" "[I") ∈ bg_W := bg_in 68 (by decide +kernel) (by decide +kernel)
theorem k_74 : (Cond.fieldLink "ClauseSearch$Rows" 19 "ClauseSearch$Rows" "size" "I") ∈ bg_W := bg_in 74 (by decide +kernel) (by decide +kernel)
theorem k_379 : (Cond.methodLink "ClauseSearch$Rows" 29 ⟨"java/lang/System", "arraycopy", "(Ljava/lang/Object;ILjava/lang/Object;II)V"⟩) ∈ bg_W := bg_in 379 (by decide +kernel) (by decide +kernel)
theorem k_391 : (Cond.static ⟨"java/util/Arrays", "copyOf", "([II)[I"⟩) ∈ bg_W := bg_in 391 (by decide +kernel) (by decide +kernel)
theorem k_392 : (Cond.code ⟨"java/util/Arrays", "copyOf", "([II)[I"⟩ prog_20_method_123_code 3 (some (.array .int))) ∈ bg_W := bg_in 392 (by decide +kernel) (by decide +kernel)
theorem k_410 : (Cond.methodLink "ClauseSearch$Rows" 23 ⟨"java/util/Arrays", "copyOf", "([II)[I"⟩) ∈ bg_W := bg_in 410 (by decide +kernel) (by decide +kernel)
theorem d_Rw_add_0 : decode prog_4_method_2_code 0 = .ok (.aload_n 0, 1) := by decide +kernel
theorem d_Rw_add_1 : decode prog_4_method_2_code 1 = .ok (.getfield 7, 3) := by decide +kernel
theorem d_Rw_add_4 : decode prog_4_method_2_code 4 = .ok (.aload_n 0, 1) := by decide +kernel
theorem d_Rw_add_5 : decode prog_4_method_2_code 5 = .ok (.getfield 19, 3) := by decide +kernel
theorem d_Rw_add_8 : decode prog_4_method_2_code 8 = .ok (.iaload, 1) := by decide +kernel
theorem d_Rw_add_9 : decode prog_4_method_2_code 9 = .ok (.iload_n 2, 1) := by decide +kernel
theorem d_Rw_add_10 : decode prog_4_method_2_code 10 = .ok (.iadd, 1) := by decide +kernel
theorem d_Rw_add_11 : decode prog_4_method_2_code 11 = .ok (.istore 4, 2) := by decide +kernel
theorem d_Rw_add_13 : decode prog_4_method_2_code 13 = .ok (.aload_n 0, 1) := by decide +kernel
theorem d_Rw_add_14 : decode prog_4_method_2_code 14 = .ok (.getfield 19, 3) := by decide +kernel
theorem d_Rw_add_17 : decode prog_4_method_2_code 17 = .ok (.iconst 1, 1) := by decide +kernel
theorem d_Rw_add_18 : decode prog_4_method_2_code 18 = .ok (.iadd, 1) := by decide +kernel
theorem d_Rw_add_19 : decode prog_4_method_2_code 19 = .ok (.aload_n 0, 1) := by decide +kernel
theorem d_Rw_add_20 : decode prog_4_method_2_code 20 = .ok (.getfield 7, 3) := by decide +kernel
theorem d_Rw_add_23 : decode prog_4_method_2_code 23 = .ok (.arraylength, 1) := by decide +kernel
theorem d_Rw_add_24 : decode prog_4_method_2_code 24 = .ok (.if_icmp .lt 39, 3) := by decide +kernel
theorem d_Rw_add_63 : decode prog_4_method_2_code 63 = .ok (.iload 4, 2) := by decide +kernel
theorem d_Rw_add_65 : decode prog_4_method_2_code 65 = .ok (.aload_n 0, 1) := by decide +kernel
theorem d_Rw_add_66 : decode prog_4_method_2_code 66 = .ok (.getfield 16, 3) := by decide +kernel
theorem d_Rw_add_69 : decode prog_4_method_2_code 69 = .ok (.arraylength, 1) := by decide +kernel
theorem d_Rw_add_70 : decode prog_4_method_2_code 70 = .ok (.if_icmp .le 18, 3) := by decide +kernel
theorem d_Rw_add_88 : decode prog_4_method_2_code 88 = .ok (.aload_n 1, 1) := by decide +kernel
theorem d_Rw_add_89 : decode prog_4_method_2_code 89 = .ok (.iconst 0, 1) := by decide +kernel
theorem d_Rw_add_90 : decode prog_4_method_2_code 90 = .ok (.aload_n 0, 1) := by decide +kernel
theorem d_Rw_add_91 : decode prog_4_method_2_code 91 = .ok (.getfield 16, 3) := by decide +kernel
theorem d_Rw_add_94 : decode prog_4_method_2_code 94 = .ok (.aload_n 0, 1) := by decide +kernel
theorem d_Rw_add_95 : decode prog_4_method_2_code 95 = .ok (.getfield 7, 3) := by decide +kernel
theorem d_Rw_add_98 : decode prog_4_method_2_code 98 = .ok (.aload_n 0, 1) := by decide +kernel
theorem d_Rw_add_99 : decode prog_4_method_2_code 99 = .ok (.getfield 19, 3) := by decide +kernel
theorem d_Rw_add_102 : decode prog_4_method_2_code 102 = .ok (.iaload, 1) := by decide +kernel
theorem d_Rw_add_103 : decode prog_4_method_2_code 103 = .ok (.iload_n 2, 1) := by decide +kernel
theorem d_Rw_add_104 : decode prog_4_method_2_code 104 = .ok (.invokestatic 29, 3) := by decide +kernel
theorem d_Rw_add_107 : decode prog_4_method_2_code 107 = .ok (.aload_n 0, 1) := by decide +kernel
theorem d_Rw_add_108 : decode prog_4_method_2_code 108 = .ok (.getfield 13, 3) := by decide +kernel
theorem d_Rw_add_111 : decode prog_4_method_2_code 111 = .ok (.aload_n 0, 1) := by decide +kernel
theorem d_Rw_add_112 : decode prog_4_method_2_code 112 = .ok (.getfield 19, 3) := by decide +kernel
theorem d_Rw_add_115 : decode prog_4_method_2_code 115 = .ok (.iload_n 3, 1) := by decide +kernel
theorem d_Rw_add_116 : decode prog_4_method_2_code 116 = .ok (.iastore, 1) := by decide +kernel
theorem d_Rw_add_117 : decode prog_4_method_2_code 117 = .ok (.aload_n 0, 1) := by decide +kernel
theorem d_Rw_add_118 : decode prog_4_method_2_code 118 = .ok (.dup, 1) := by decide +kernel
theorem d_Rw_add_119 : decode prog_4_method_2_code 119 = .ok (.getfield 19, 3) := by decide +kernel
theorem d_Rw_add_122 : decode prog_4_method_2_code 122 = .ok (.iconst 1, 1) := by decide +kernel
theorem d_Rw_add_123 : decode prog_4_method_2_code 123 = .ok (.iadd, 1) := by decide +kernel
theorem d_Rw_add_124 : decode prog_4_method_2_code 124 = .ok (.putfield 19, 3) := by decide +kernel
theorem d_Rw_add_127 : decode prog_4_method_2_code 127 = .ok (.aload_n 0, 1) := by decide +kernel
theorem d_Rw_add_128 : decode prog_4_method_2_code 128 = .ok (.getfield 7, 3) := by decide +kernel
theorem d_Rw_add_131 : decode prog_4_method_2_code 131 = .ok (.aload_n 0, 1) := by decide +kernel
theorem d_Rw_add_132 : decode prog_4_method_2_code 132 = .ok (.getfield 19, 3) := by decide +kernel
theorem d_Rw_add_135 : decode prog_4_method_2_code 135 = .ok (.iload 4, 2) := by decide +kernel
theorem d_Rw_add_137 : decode prog_4_method_2_code 137 = .ok (.iastore, 1) := by decide +kernel
theorem d_Rw_add_138 : decode prog_4_method_2_code 138 = .ok (.return_, 1) := by decide +kernel
theorem d_Rw_add_73 : decode prog_4_method_2_code 73 = .ok (.aload_n 0, 1) := by decide +kernel
theorem d_Rw_add_74 : decode prog_4_method_2_code 74 = .ok (.aload_n 0, 1) := by decide +kernel
theorem d_Rw_add_75 : decode prog_4_method_2_code 75 = .ok (.getfield 16, 3) := by decide +kernel
theorem d_Rw_add_78 : decode prog_4_method_2_code 78 = .ok (.iconst 2, 1) := by decide +kernel
theorem d_Rw_add_79 : decode prog_4_method_2_code 79 = .ok (.iload 4, 2) := by decide +kernel
theorem d_Rw_add_81 : decode prog_4_method_2_code 81 = .ok (.imul, 1) := by decide +kernel
theorem d_Rw_add_82 : decode prog_4_method_2_code 82 = .ok (.invokestatic 23, 3) := by decide +kernel
theorem d_Rw_add_85 : decode prog_4_method_2_code 85 = .ok (.putfield 16, 3) := by decide +kernel
theorem d_Rw_add_27 : decode prog_4_method_2_code 27 = .ok (.aload_n 0, 1) := by decide +kernel
theorem d_Rw_add_28 : decode prog_4_method_2_code 28 = .ok (.aload_n 0, 1) := by decide +kernel
theorem d_Rw_add_29 : decode prog_4_method_2_code 29 = .ok (.getfield 7, 3) := by decide +kernel
theorem d_Rw_add_32 : decode prog_4_method_2_code 32 = .ok (.iconst 2, 1) := by decide +kernel
theorem d_Rw_add_33 : decode prog_4_method_2_code 33 = .ok (.aload_n 0, 1) := by decide +kernel
theorem d_Rw_add_34 : decode prog_4_method_2_code 34 = .ok (.getfield 7, 3) := by decide +kernel
theorem d_Rw_add_37 : decode prog_4_method_2_code 37 = .ok (.arraylength, 1) := by decide +kernel
theorem d_Rw_add_38 : decode prog_4_method_2_code 38 = .ok (.imul, 1) := by decide +kernel
theorem d_Rw_add_39 : decode prog_4_method_2_code 39 = .ok (.invokestatic 23, 3) := by decide +kernel
theorem d_Rw_add_42 : decode prog_4_method_2_code 42 = .ok (.putfield 7, 3) := by decide +kernel
theorem d_Rw_add_45 : decode prog_4_method_2_code 45 = .ok (.aload_n 0, 1) := by decide +kernel
theorem d_Rw_add_46 : decode prog_4_method_2_code 46 = .ok (.aload_n 0, 1) := by decide +kernel
theorem d_Rw_add_47 : decode prog_4_method_2_code 47 = .ok (.getfield 13, 3) := by decide +kernel
theorem d_Rw_add_50 : decode prog_4_method_2_code 50 = .ok (.iconst 2, 1) := by decide +kernel
theorem d_Rw_add_51 : decode prog_4_method_2_code 51 = .ok (.aload_n 0, 1) := by decide +kernel
theorem d_Rw_add_52 : decode prog_4_method_2_code 52 = .ok (.getfield 13, 3) := by decide +kernel
theorem d_Rw_add_55 : decode prog_4_method_2_code 55 = .ok (.arraylength, 1) := by decide +kernel
theorem d_Rw_add_56 : decode prog_4_method_2_code 56 = .ok (.imul, 1) := by decide +kernel
theorem d_Rw_add_57 : decode prog_4_method_2_code 57 = .ok (.invokestatic 23, 3) := by decide +kernel
theorem d_Rw_add_60 : decode prog_4_method_2_code 60 = .ok (.putfield 13, 3) := by decide +kernel
set_option maxHeartbeats 4000000 in
set_option maxRecDepth 100000 in
/-- Rows.add(from, length, kind) -/
theorem c_Rw_add (l : Launch) (dC : Nat → ClassId) (dI : Nat → Nat → Nat) (h0 g0 g1 g2 fr : Nat) (y0 y1 y2 y3 : ClassId) (sz sm k la lc ln len e0 : Nat) (kd : Int32) (sf kf cf ff : Nat → Int32) (hk : k < la) (hsf : sf k = nI e0) (he : e0 ≤ lc) (hlen : len ≤ ln) (hls : 64 ≤ la ∧ la ≤ 1048576) (hlc : 256 ≤ lc ∧ lc ≤ 4194304) (hln : ln ≤ 1048576) : Met l y_Rw_add (wq y_Rw_add prog_4_method_2_code 5 none) ({ frames := 2, cells := 3, slots := 4 * la + 2 * (e0 + len), locals := 82 }) (va_Pc [.ref h0, .ref fr, .int (nI len), .int kd] (fun U => U.heap.size = sz ∧ hsum U.heap = sm ∧ va_P (dC, dI) vwCl [(h0, .inr (2, [.ref g0, .ref g1, .ref g2, .int (nI k)])), (g0, .inl (y0, la, .inl sf)), (g1, .inl (y1, la, .inl kf)), (g2, .inl (y2, lc, .inl cf)), (fr, .inl (y3, ln, .inl ff))] U.heap ∧ va_K (dC, dI) vwCl [(y0, .int), (y1, .int), (y2, .int), (y3, .int)] U ∧ va_D (fun _ => True) [(h0, .inr (2, [.ref g0, .ref g1, .ref g2, .int (nI k)])), (g0, .inl (y0, la, .inl sf)), (g1, .inl (y1, la, .inl kf)), (g2, .inl (y2, lc, .inl cf)), (fr, .inl (y3, ln, .inl ff))])) (va_Qv (fun _ : Unit => True) (fun (_ : Unit) t => ∃ (e1 : Nat) (e2 : Nat) (e3 : Nat) (l1 : Nat) (l2 : Nat) (s1 : Nat → Int32) (s2 : Nat → Int32) (s3 : Nat → Int32), (la ≤ l1 ∧ k + 1 < l1 ∧ (l1 = la ∨ (l1 = 2 * la ∧ la ≤ k + 1))) ∧ (lc ≤ l2) ∧ (e0 + len ≤ l2) ∧ (l2 = lc ∨ (lc < e0 + len ∧ l2 = 2 * (e0 + len))) ∧ (∀ j, j ≤ k → s1 j = sf j) ∧ (s1 (k + 1) = nI (e0 + len)) ∧ (∀ j, j < k → s2 j = kf j) ∧ (s2 k = kd) ∧ (∀ j, j < e0 → s3 j = cf j) ∧ (∀ j, j < len → s3 (e0 + j) = ff j) ∧ (t.heap.size + (la / 16 + lc / 128) ≤ sz + (l1 / 16 + l2 / 128)) ∧ (hsum t.heap + (4 * la + 2 * lc) ≤ sm + (4 * l1 + 2 * l2)) ∧ va_P (dC, dI) vwCl [(h0, .inr (2, [.ref e1, .ref e2, .ref e3, .int (nI (k + 1))])), (e1, .inl (y0, l1, .inl s1)), (e2, .inl (y1, l1, .inl s2)), (e3, .inl (y2, l2, .inl s3)), (fr, .inl (y3, ln, .inl ff))] t.heap ∧ va_K (dC, dI) vwCl [(y0, .int), (y1, .int), (y2, .int), (y3, .int)] t ∧ va_D (va_A [(h0, .inr (2, [.ref g0, .ref g1, .ref g2, .int (nI k)])), (g0, .inl (y0, la, .inl sf)), (g1, .inl (y1, la, .inl kf)), (g2, .inl (y2, lc, .inl cf)), (fr, .inl (y3, ln, .inl ff))] sz) [(h0, .inr (2, [.ref e1, .ref e2, .ref e3, .int (nI (k + 1))])), (e1, .inl (y0, l1, .inl s1)), (e2, .inl (y1, l1, .inl s2)), (e3, .inl (y2, l2, .inl s3)), (fr, .inl (y3, ln, .inl ff))]) (va_A [(h0, .inr (2, [.ref g0, .ref g1, .ref g2, .int (nI k)])), (g0, .inl (y0, la, .inl sf)), (g1, .inl (y1, la, .inl kf)), (g2, .inl (y2, lc, .inl cf)), (fr, .inl (y3, ln, .inl ff))] sz)) (3) (4 * la + 2 * (e0 + len)) (va_A [(h0, .inr (2, [.ref g0, .ref g1, .ref g2, .int (nI k)])), (g0, .inl (y0, la, .inl sf)), (g1, .inl (y1, la, .inl kf)), (g2, .inl (y2, lc, .inl cf)), (fr, .inl (y3, ln, .inl ff))] sz) := by
  refine Met.ofW (cc := prog_4_method_2_code) (maxL := 5) (ret := none) (by decide) rfl ?_
  intro p e s m args below meth c s₁ B hml hv
  obtain ⟨rfl, hsz, hsm, hP, hK, hD0⟩ := hv
  have hx := B.exec
  have hb := B.bytes
  have hr := B.returns
  have hw : ∀ w ∈ bg_W, w.before #[Value.ref h0, Value.ref fr, Value.int (nI len), Value.int kd] s = true := fun w h => atoms_spec (ws := (wq y_Rw_add prog_4_method_2_code 5 none)) B.pre w (List.mem_cons_of_mem _ h)
  have hown : s.vm.findClass R_Rw = some m.cls := findClass_of_methodNamed B.named
  have hlocks := B.notSynchronized
  subst hsz; subst hsm
  have hD := hD0.self (sz := s.heap.size)
  generalize hAe : va_A [(h0, .inr (2, [.ref g0, .ref g1, .ref g2, .int (nI k)])), (g0, .inl (y0, la, .inl sf)), (g1, .inl (y1, la, .inl kf)), (g2, .inl (y2, lc, .inl cf)), (fr, .inl (y3, ln, .inl ff))] s.heap.size = A at hD ⊢
  have hA : ∀ q : Nat, s.heap.size ≤ q → A q := fun q h => by rw [← hAe]; exact Or.inr h
  have hS : va_S A s.heap s.heap [] := va_S.rf
  have hP : va_P (dC, dI) vwCl [(h0, .inr (2, [.ref g0, .ref g1, .ref g2, .int (nI k)])), (g0, .inl (y0, la, .inl sf)), (g1, .inl (y1, la, .inl kf)), (g2, .inl (y2, lc, .inl cf)), (fr, .inl (y3, ln, .inl ff))] s.heap := hP
  have hl := lv_entry ([.ref h0, .ref fr, .int (nI len), .int kd]) (n := 5) (Nat.le_of_ble_eq_true rfl)
  rw [lg_entry_eq]
  generalize (lg_sl ([.ref h0, .ref fr, .int (nI len), .int kd]) ++ List.replicate (5 - (lg_sl ([.ref h0, .ref fr, .int (nI len), .int kd])).length) Slot.unset).toArray = ls at hl ⊢
  have hl : lv_has ls 5 [(0, .ref h0), (1, .ref fr), (2, .int (nI len)), (3, .int kd)] := hl
  obtain ⟨H, hH⟩ : ∃ H : Heap, H = s.heap := ⟨_, rfl⟩
  rw [← hH] at hP
  have hS : va_S A s.heap H [] := by rw [hH]; exact va_S.rf
  show W p l e _ s m _ below meth c s.heap [] 0 0 _ _
  rw [← hH]
  refine lv_aload_n hx hb d_Rw_add_0 rfl (lv_at hl 0 rfl) ?_
  refine va_get (D := (dC, dI)) (ci := 2) (v := .ref g0) (C := R_Rw) (T := F_Rw) (N := 4) hx hb hw in_Rw hown hK hP 0 rfl rfl 0 (by decide) (hw (Cond.fieldLink "ClauseSearch$Rows" 7 "ClauseSearch$Rows" "start" "[I") k_60) (fun _ h9 => h9) rfl d_Rw_add_1 ?_
  refine lv_aload_n hx hb d_Rw_add_4 rfl (lv_at hl 0 rfl) ?_
  refine va_get (D := (dC, dI)) (ci := 2) (v := .int (nI k)) (C := R_Rw) (T := F_Rw) (N := 4) hx hb hw in_Rw hown hK hP 0 rfl rfl 3 (by decide) (hw (Cond.fieldLink "ClauseSearch$Rows" 19 "ClauseSearch$Rows" "size" "I") k_74) (fun _ h9 => h9) rfl d_Rw_add_5 ?_
  refine va_iald hx hb hK hP 1 0 rfl rfl (vp_in_nI (by omega) (by omega)) d_Rw_add_8 ?_
  refine lv_topi (fun y_1 ey_1 => ?_)
  rw [nI_clamp (by omega)] at ey_1
  rw [hsf] at ey_1
  subst ey_1
  refine lv_iload_n hx hb d_Rw_add_9 rfl (lv_at hl 2 rfl) ?_
  refine lv_iadd hx hb d_Rw_add_10 ?_
  refine lv_topi (fun y_2 ey_2 => ?_)
  obtain rfl : y_2 = nI (e0 + len) := ey_2.trans (nI_add e0 len)
  refine lv_istore (lv' := [(4, .int (nI (e0 + len))), (0, .ref h0), (1, .ref fr), (2, .int (nI len)), (3, .int kd)]) hx hb d_Rw_add_11 hl (by decide) rfl (fun ls hl => ?_)
  refine lv_aload_n hx hb d_Rw_add_13 rfl (lv_at hl 1 rfl) ?_
  refine va_get (D := (dC, dI)) (ci := 2) (v := .int (nI k)) (C := R_Rw) (T := F_Rw) (N := 4) hx hb hw in_Rw hown hK hP 0 rfl rfl 3 (by decide) (hw (Cond.fieldLink "ClauseSearch$Rows" 19 "ClauseSearch$Rows" "size" "I") k_74) (fun _ h9 => h9) rfl d_Rw_add_14 ?_
  refine lv_iconst (v := nI 1) hx hb d_Rw_add_17 (by decide) ?_
  refine lv_iadd hx hb d_Rw_add_18 ?_
  refine lv_topi (fun y_3 ey_3 => ?_)
  obtain rfl : y_3 = nI (k + 1) := ey_3.trans (nI_add k 1)
  refine lv_aload_n hx hb d_Rw_add_19 rfl (lv_at hl 1 rfl) ?_
  refine va_get (D := (dC, dI)) (ci := 2) (v := .ref g0) (C := R_Rw) (T := F_Rw) (N := 4) hx hb hw in_Rw hown hK hP 0 rfl rfl 0 (by decide) (hw (Cond.fieldLink "ClauseSearch$Rows" 7 "ClauseSearch$Rows" "start" "[I") k_60) (fun _ h9 => h9) rfl d_Rw_add_20 ?_
  refine va_alen hx hb hK hP 1 0 rfl rfl (v := nI la) rfl d_Rw_add_23 ?_
  refine lv_icmp_lt (tgt := 63) hx hb d_Rw_add_24 (by decide) (fun c_24 => ?_) (fun c_24 => ?_)
  · have c_24 : k + 1 < la := (nI_ltI (a := k + 1) (b := la) (by omega) (by omega)).mp c_24
    have hs1 : ∀ j, j < la → sf j = sf j := fun _ _ => rfl
    have hk1s : ∀ j, j < la → kf j = kf j := fun _ _ => rfl
    refine lv_iload hx hb d_Rw_add_63 (lv_at hl 0 rfl) ?_
    refine lv_aload_n hx hb d_Rw_add_65 rfl (lv_at hl 1 rfl) ?_
    refine va_get (D := (dC, dI)) (ci := 2) (v := .ref g2) (C := R_Rw) (T := F_Rw) (N := 4) hx hb hw in_Rw hown hK hP 0 rfl rfl 2 (by decide) (hw (Cond.fieldLink "ClauseSearch$Rows" 16 "ClauseSearch$Rows" "codes" "[I") k_68) (fun _ h9 => h9) rfl d_Rw_add_66 ?_
    refine va_alen hx hb hK hP 3 2 rfl rfl (v := nI lc) rfl d_Rw_add_69 ?_
    refine lv_icmp_le (tgt := 88) hx hb d_Rw_add_70 (by decide) (fun c_70 => ?_) (fun c_70 => ?_)
    · have c_70 : e0 + len ≤ lc := (nI_leI (a := e0 + len) (b := lc) (by omega) (by omega)).mp c_70
      have hc1 : ∀ j, j < lc → cf j = cf j := fun _ _ => rfl
      refine lv_aload_n hx hb d_Rw_add_88 rfl (lv_at hl 2 rfl) ?_
      refine lv_iconst (v := nI 0) hx hb d_Rw_add_89 (by decide) ?_
      refine lv_aload_n hx hb d_Rw_add_90 rfl (lv_at hl 1 rfl) ?_
      refine va_get (D := (dC, dI)) (ci := 2) (v := .ref g2) (C := R_Rw) (T := F_Rw) (N := 4) hx hb hw in_Rw hown hK hP 0 rfl rfl 2 (by decide) (hw (Cond.fieldLink "ClauseSearch$Rows" 16 "ClauseSearch$Rows" "codes" "[I") k_68) (fun _ h9 => h9) rfl d_Rw_add_91 ?_
      refine lv_aload_n hx hb d_Rw_add_94 rfl (lv_at hl 1 rfl) ?_
      refine va_get (D := (dC, dI)) (ci := 2) (v := .ref g0) (C := R_Rw) (T := F_Rw) (N := 4) hx hb hw in_Rw hown hK hP 0 rfl rfl 0 (by decide) (hw (Cond.fieldLink "ClauseSearch$Rows" 7 "ClauseSearch$Rows" "start" "[I") k_60) (fun _ h9 => h9) rfl d_Rw_add_95 ?_
      refine lv_aload_n hx hb d_Rw_add_98 rfl (lv_at hl 1 rfl) ?_
      refine va_get (D := (dC, dI)) (ci := 2) (v := .int (nI k)) (C := R_Rw) (T := F_Rw) (N := 4) hx hb hw in_Rw hown hK hP 0 rfl rfl 3 (by decide) (hw (Cond.fieldLink "ClauseSearch$Rows" 19 "ClauseSearch$Rows" "size" "I") k_74) (fun _ h9 => h9) rfl d_Rw_add_99 ?_
      refine va_iald hx hb hK hP 1 0 rfl rfl (vp_in_nI (by omega) (by omega)) d_Rw_add_102 ?_
      refine lv_topi (fun y_4 ey_4 => ?_)
      rw [nI_clamp (by omega)] at ey_4
      rw [hs1 k (by omega), hsf] at ey_4
      subst ey_4
      refine lv_iload_n hx hb d_Rw_add_103 rfl (lv_at hl 3 rfl) ?_
      refine va_copyi (ty := .int) hx hb (by rw [hml]; exact hl.1.symm) hown (hw (Cond.methodLink "ClauseSearch$Rows" 29 ⟨"java/lang/System", "arraycopy", "(Ljava/lang/Object;ILjava/lang/Object;II)V"⟩) k_379) (hw (Cond.native ⟨"java/lang/System", "arraycopy", "(Ljava/lang/Object;ILjava/lang/Object;II)V"⟩) k_381) (hw (Cond.static ⟨"java/lang/System", "arraycopy", "(Ljava/lang/Object;ILjava/lang/Object;II)V"⟩) k_380) (hw (Cond.initialized "java/lang/System") k_45) hK hP hD hS 4 3 3 2 rfl rfl rfl rfl rfl (nI_pos (by omega)) (nI_pos (by omega)) (nI_pos (by omega)) (by rw [nI_clamp (by omega), nI_clamp (by omega)]; omega) (by rw [nI_clamp (by omega), nI_clamp (by omega)]; omega) (fun _ _ => rfl) (Nat.le_of_ble_eq_true rfl) (Nat.le_of_ble_eq_true rfl) d_Rw_add_104 (fun H locs hP hD hS => ?_)
      rw [nI_clamp (n := 0) (by omega), nI_clamp (n := e0) (by omega), nI_clamp (n := len) (by omega)] at hP hD
      have hP : va_P (dC, dI) vwCl [(h0, .inr (2, [.ref g0, .ref g1, .ref g2, .int (nI k)])), (g0, .inl (y0, la, .inl sf)), (g1, .inl (y1, la, .inl kf)), (g2, .inl (y2, lc, .inl (va_cpy ff cf 0 e0 len))), (fr, .inl (y3, ln, .inl ff))] H := hP
      have hD : va_D A [(h0, .inr (2, [.ref g0, .ref g1, .ref g2, .int (nI k)])), (g0, .inl (y0, la, .inl sf)), (g1, .inl (y1, la, .inl kf)), (g2, .inl (y2, lc, .inl (va_cpy ff cf 0 e0 len))), (fr, .inl (y3, ln, .inl ff))] := hD
      refine lv_aload_n hx hb d_Rw_add_107 rfl (lv_at hl 1 rfl) ?_
      refine va_get (D := (dC, dI)) (ci := 2) (v := .ref g1) (C := R_Rw) (T := F_Rw) (N := 4) hx hb hw in_Rw hown hK hP 0 rfl rfl 1 (by decide) (hw (Cond.fieldLink "ClauseSearch$Rows" 13 "ClauseSearch$Rows" "kind" "[I") k_66) (fun _ h9 => h9) rfl d_Rw_add_108 ?_
      refine lv_aload_n hx hb d_Rw_add_111 rfl (lv_at hl 1 rfl) ?_
      refine va_get (D := (dC, dI)) (ci := 2) (v := .int (nI k)) (C := R_Rw) (T := F_Rw) (N := 4) hx hb hw in_Rw hown hK hP 0 rfl rfl 3 (by decide) (hw (Cond.fieldLink "ClauseSearch$Rows" 19 "ClauseSearch$Rows" "size" "I") k_74) (fun _ h9 => h9) rfl d_Rw_add_112 ?_
      refine lv_iload_n hx hb d_Rw_add_115 rfl (lv_at hl 4 rfl) ?_
      refine va_iast hx hb hK hP hD hS 2 1 rfl rfl (vp_in_nI (by omega) (by omega)) d_Rw_add_116 (fun H locs hP hD hS => ?_)
      rw [nI_clamp (n := k) (by omega)] at hP hD
      have hP : va_P (dC, dI) vwCl [(h0, .inr (2, [.ref g0, .ref g1, .ref g2, .int (nI k)])), (g0, .inl (y0, la, .inl sf)), (g1, .inl (y1, la, .inl (upd kf k kd))), (g2, .inl (y2, lc, .inl (va_cpy ff cf 0 e0 len))), (fr, .inl (y3, ln, .inl ff))] H := hP
      have hD : va_D A [(h0, .inr (2, [.ref g0, .ref g1, .ref g2, .int (nI k)])), (g0, .inl (y0, la, .inl sf)), (g1, .inl (y1, la, .inl (upd kf k kd))), (g2, .inl (y2, lc, .inl (va_cpy ff cf 0 e0 len))), (fr, .inl (y3, ln, .inl ff))] := hD
      refine lv_aload_n hx hb d_Rw_add_117 rfl (lv_at hl 1 rfl) ?_
      refine lv_dup hx hb d_Rw_add_118 rfl ?_
      refine va_get (D := (dC, dI)) (ci := 2) (v := .int (nI k)) (C := R_Rw) (T := F_Rw) (N := 4) hx hb hw in_Rw hown hK hP 0 rfl rfl 3 (by decide) (hw (Cond.fieldLink "ClauseSearch$Rows" 19 "ClauseSearch$Rows" "size" "I") k_74) (fun _ h9 => h9) rfl d_Rw_add_119 ?_
      refine lv_iconst (v := nI 1) hx hb d_Rw_add_122 (by decide) ?_
      refine lv_iadd hx hb d_Rw_add_123 ?_
      refine lv_topi (fun y_5 ey_5 => ?_)
      obtain rfl : y_5 = nI (k + 1) := ey_5.trans (nI_add k 1)
      refine va_put (D := (dC, dI)) (ci := 2) (v := .int (nI (k + 1))) (ty := .int) (C := R_Rw) (T := F_Rw) (N := 4) hx hb hw in_Rw t_Rw t_Rw_ok n_Rw hown hK hP hD hS 0 rfl rfl 3 (by decide) (hw (Cond.fieldLink "ClauseSearch$Rows" 19 "ClauseSearch$Rows" "size" "I") k_74) (fun _ h9 => h9) rfl (by decide +kernel) rfl rfl (Nat.le_of_ble_eq_true rfl) d_Rw_add_124 (fun H locs hP hD hS => ?_)
      have hP : va_P (dC, dI) vwCl [(h0, .inr (2, [.ref g0, .ref g1, .ref g2, .int (nI (k + 1))])), (g0, .inl (y0, la, .inl sf)), (g1, .inl (y1, la, .inl (upd kf k kd))), (g2, .inl (y2, lc, .inl (va_cpy ff cf 0 e0 len))), (fr, .inl (y3, ln, .inl ff))] H := hP
      have hD : va_D A [(h0, .inr (2, [.ref g0, .ref g1, .ref g2, .int (nI (k + 1))])), (g0, .inl (y0, la, .inl sf)), (g1, .inl (y1, la, .inl (upd kf k kd))), (g2, .inl (y2, lc, .inl (va_cpy ff cf 0 e0 len))), (fr, .inl (y3, ln, .inl ff))] := hD
      refine lv_aload_n hx hb d_Rw_add_127 rfl (lv_at hl 1 rfl) ?_
      refine va_get (D := (dC, dI)) (ci := 2) (v := .ref g0) (C := R_Rw) (T := F_Rw) (N := 4) hx hb hw in_Rw hown hK hP 0 rfl rfl 0 (by decide) (hw (Cond.fieldLink "ClauseSearch$Rows" 7 "ClauseSearch$Rows" "start" "[I") k_60) (fun _ h9 => h9) rfl d_Rw_add_128 ?_
      refine lv_aload_n hx hb d_Rw_add_131 rfl (lv_at hl 1 rfl) ?_
      refine va_get (D := (dC, dI)) (ci := 2) (v := .int (nI (k + 1))) (C := R_Rw) (T := F_Rw) (N := 4) hx hb hw in_Rw hown hK hP 0 rfl rfl 3 (by decide) (hw (Cond.fieldLink "ClauseSearch$Rows" 19 "ClauseSearch$Rows" "size" "I") k_74) (fun _ h9 => h9) rfl d_Rw_add_132 ?_
      refine lv_iload hx hb d_Rw_add_135 (lv_at hl 0 rfl) ?_
      refine va_iast hx hb hK hP hD hS 1 0 rfl rfl (vp_in_nI (by omega) (by omega)) d_Rw_add_137 (fun H locs hP hD hS => ?_)
      rw [nI_clamp (n := k + 1) (by omega)] at hP hD
      have hP : va_P (dC, dI) vwCl [(h0, .inr (2, [.ref g0, .ref g1, .ref g2, .int (nI (k + 1))])), (g0, .inl (y0, la, .inl (upd sf (k + 1) (nI (e0 + len))))), (g1, .inl (y1, la, .inl (upd kf k kd))), (g2, .inl (y2, lc, .inl (va_cpy ff cf 0 e0 len))), (fr, .inl (y3, ln, .inl ff))] H := hP
      have hD : va_D A [(h0, .inr (2, [.ref g0, .ref g1, .ref g2, .int (nI (k + 1))])), (g0, .inl (y0, la, .inl (upd sf (k + 1) (nI (e0 + len))))), (g1, .inl (y1, la, .inl (upd kf k kd))), (g2, .inl (y2, lc, .inl (va_cpy ff cf 0 e0 len))), (fr, .inl (y3, ln, .inl ff))] := hD
      refine ct_know (fun hN1 hN2 => ?_)
      refine W.widen (k := 3) (n := 4 * la + 2 * (e0 + len)) (by omega) (by omega) ?_
      have hP := hP.sub (ws' := [(h0, .inr (2, [.ref g0, .ref g1, .ref g2, .int (nI (k + 1))])), (g0, .inl (y0, la, .inl (upd sf (k + 1) (nI (e0 + len))))), (g1, .inl (y1, la, .inl (upd kf k kd))), (g2, .inl (y2, lc, .inl (va_cpy ff cf 0 e0 len))), (fr, .inl (y3, ln, .inl ff))]) [0, 1, 2, 3, 4] rfl
      have hD := hD.sub (ws' := [(h0, .inr (2, [.ref g0, .ref g1, .ref g2, .int (nI (k + 1))])), (g0, .inl (y0, la, .inl (upd sf (k + 1) (nI (e0 + len))))), (g1, .inl (y1, la, .inl (upd kf k kd))), (g2, .inl (y2, lc, .inl (va_cpy ff cf 0 e0 len))), (fr, .inl (y3, ln, .inl ff))]) [0, 1, 2, 3, 4] (by decide) rfl
      have hK := hK.sub (tys' := [(y0, .int), (y1, .int), (y2, .int), (y3, .int)]) [0, 1, 2, 3] rfl
      exact W.vret hx hb hr (fun t ht hW => ⟨⟨(), rfl, trivial, g0, g1, g2, la, lc, _, _, _, (by omega), (by omega), (by omega), (by omega), (fun j hj => by rw [pk_un (by omega)] <;> exact hs1 j (by omega)), pk_us, (fun j hj => by rw [pk_un (by omega)] <;> exact hk1s j (by omega)), pk_us, (fun j hj => by rw [pk_cpy_out (Or.inl hj)] <;> exact hc1 j (by omega)), (fun j hj => by rw [pk_cpy_in (by omega) (by omega), show 0 + (e0 + j - e0) = j by omega]), (by rw [ht, hH]; omega), (by rw [ht, hH]; omega), by rw [ht]; exact hP, va_K.moved hW.alike hK, hD⟩, hS.F ht⟩) hS.2.2 d_Rw_add_138
    · have c_70 : ¬ (e0 + len ≤ lc) := fun qq9 => c_70 ((nI_leI (a := e0 + len) (b := lc) (by omega) (by omega)).mpr qq9)
      refine lv_aload_n hx hb d_Rw_add_73 rfl (lv_at hl 1 rfl) ?_
      refine lv_aload_n hx hb d_Rw_add_74 rfl (lv_at hl 1 rfl) ?_
      refine va_get (D := (dC, dI)) (ci := 2) (v := .ref g2) (C := R_Rw) (T := F_Rw) (N := 4) hx hb hw in_Rw hown hK hP 0 rfl rfl 2 (by decide) (hw (Cond.fieldLink "ClauseSearch$Rows" 16 "ClauseSearch$Rows" "codes" "[I") k_68) (fun _ h9 => h9) rfl d_Rw_add_75 ?_
      refine lv_iconst (v := nI 2) hx hb d_Rw_add_78 (by decide) ?_
      refine lv_iload hx hb d_Rw_add_79 (lv_at hl 0 rfl) ?_
      refine lv_imul hx hb d_Rw_add_81 ?_
      refine lv_topi (fun y_6 ey_6 => ?_)
      obtain rfl : y_6 = nI (2 * (e0 + len)) := ey_6.trans (pk_mul 2 (e0 + len))
      have hPc := hP.sub (ws' := [(g2, .inl (y2, lc, .inl cf))]) [3] rfl
      have hDc := hD.sub (ws' := [(g2, .inl (y2, lc, .inl cf))]) [3] (by decide) rfl
      have hKc := hK.sub (tys' := [(y2, .int)]) [2] rfl
      have hFc := va_free (wc := [(g2, .inl (y2, lc, .inl cf))]) hD hS hA [3] rfl
      refine va_callr (va_runS (As := [.ref g2, .int (nI (2 * (e0 + len)))]) (rest := [.ref h0]) ⟨hx, hb, hml, hown, hw⟩ (c_Ar_copyOf l dC dI g2 y2 H.size lc (2 * (e0 + len)) cf (by omega) (by omega)) (cb_S 2 hw k_392 k_34 k_410 k_391 rfl rfl (by decide +kernel) ⟨Nat.le_of_ble_eq_true rfl, Nat.le_of_ble_eq_true rfl⟩) ⟨fun a U g mk q => by obtain ⟨q0, q1, qP, qK, qD⟩ := q; exact ⟨q0, q1, qP, va_K.moved (u := U) (U := U.calling g mk a) (Vm.Alike.refl U.vm) qK, qD⟩, fun U hU hW => ⟨rfl, by rw [hU], by rw [hU]; exact hPc, va_K.moved hW.alike hKc, hDc.weaken (fun _ _ _ _ => trivial)⟩⟩ rfl rfl hl.1 rfl (lv_room (Nat.le_of_ble_eq_true rfl)) d_Rw_add_82 ⟨by show 0 + 1 ≤ 3; omega, by show 0 + (2 * (e0 + len)) ≤ 4 * la + 2 * (e0 + len); omega⟩) hS (fun q _ h => hFc q h) hFc (fun u q_7 t H1 locs ht hvm hw9 hB hz1 hk1 hS => ?_)
      obtain ⟨z_8, g_9, hg_10, hP1, hK1, hD1⟩ := hB
      have ez_ := va_int hK1 (i := 0) (j := 1) rfl rfl
      subst ez_
      rw [ht] at hP1
      obtain ⟨hP, hD⟩ := va_join (wr := [(h0, .inr (2, [.ref g0, .ref g1, .ref g2, .int (nI k)])), (g0, .inl (y0, la, .inl sf)), (g1, .inl (y1, la, .inl kf)), (fr, .inl (y3, ln, .inl ff))]) (w1 := [(g2, .inl (y2, lc, .inl cf)), (q_7, .inl (y2, (2 * (e0 + len)), .inl g_9))]) hP hD [3] [0, 1, 2, 4] rfl rfl (by decide) (by decide) hk1 hFc hP1 hD1
      generalize H1 = H at hP hS ⊢
      have hP : va_P (dC, dI) vwCl [(h0, .inr (2, [.ref g0, .ref g1, .ref g2, .int (nI k)])), (g0, .inl (y0, la, .inl sf)), (g1, .inl (y1, la, .inl kf)), (fr, .inl (y3, ln, .inl ff)), (g2, .inl (y2, lc, .inl cf)), (q_7, .inl (y2, (2 * (e0 + len)), .inl g_9))] H := hP
      have hD : va_D A [(h0, .inr (2, [.ref g0, .ref g1, .ref g2, .int (nI k)])), (g0, .inl (y0, la, .inl sf)), (g1, .inl (y1, la, .inl kf)), (fr, .inl (y3, ln, .inl ff)), (g2, .inl (y2, lc, .inl cf)), (q_7, .inl (y2, (2 * (e0 + len)), .inl g_9))] := hD
      have hc1 := hg_10
      refine va_put (D := (dC, dI)) (ci := 2) (v := .ref q_7) (ty := .array .int) (C := R_Rw) (T := F_Rw) (N := 4) hx hb hw in_Rw t_Rw t_Rw_ok n_Rw hown hK hP hD hS 0 rfl rfl 2 (by decide) (hw (Cond.fieldLink "ClauseSearch$Rows" 16 "ClauseSearch$Rows" "codes" "[I") k_68) (fun _ h9 => h9) rfl (by decide +kernel) rfl rfl (Nat.le_of_ble_eq_true rfl) d_Rw_add_85 (fun H locs hP hD hS => ?_)
      have hP : va_P (dC, dI) vwCl [(h0, .inr (2, [.ref g0, .ref g1, .ref q_7, .int (nI k)])), (g0, .inl (y0, la, .inl sf)), (g1, .inl (y1, la, .inl kf)), (fr, .inl (y3, ln, .inl ff)), (g2, .inl (y2, lc, .inl cf)), (q_7, .inl (y2, (2 * (e0 + len)), .inl g_9))] H := hP
      have hD : va_D A [(h0, .inr (2, [.ref g0, .ref g1, .ref q_7, .int (nI k)])), (g0, .inl (y0, la, .inl sf)), (g1, .inl (y1, la, .inl kf)), (fr, .inl (y3, ln, .inl ff)), (g2, .inl (y2, lc, .inl cf)), (q_7, .inl (y2, (2 * (e0 + len)), .inl g_9))] := hD
      refine lv_aload_n hx hb d_Rw_add_88 rfl (lv_at hl 2 rfl) ?_
      refine lv_iconst (v := nI 0) hx hb d_Rw_add_89 (by decide) ?_
      refine lv_aload_n hx hb d_Rw_add_90 rfl (lv_at hl 1 rfl) ?_
      refine va_get (D := (dC, dI)) (ci := 2) (v := .ref q_7) (C := R_Rw) (T := F_Rw) (N := 4) hx hb hw in_Rw hown hK hP 0 rfl rfl 2 (by decide) (hw (Cond.fieldLink "ClauseSearch$Rows" 16 "ClauseSearch$Rows" "codes" "[I") k_68) (fun _ h9 => h9) rfl d_Rw_add_91 ?_
      refine lv_aload_n hx hb d_Rw_add_94 rfl (lv_at hl 1 rfl) ?_
      refine va_get (D := (dC, dI)) (ci := 2) (v := .ref g0) (C := R_Rw) (T := F_Rw) (N := 4) hx hb hw in_Rw hown hK hP 0 rfl rfl 0 (by decide) (hw (Cond.fieldLink "ClauseSearch$Rows" 7 "ClauseSearch$Rows" "start" "[I") k_60) (fun _ h9 => h9) rfl d_Rw_add_95 ?_
      refine lv_aload_n hx hb d_Rw_add_98 rfl (lv_at hl 1 rfl) ?_
      refine va_get (D := (dC, dI)) (ci := 2) (v := .int (nI k)) (C := R_Rw) (T := F_Rw) (N := 4) hx hb hw in_Rw hown hK hP 0 rfl rfl 3 (by decide) (hw (Cond.fieldLink "ClauseSearch$Rows" 19 "ClauseSearch$Rows" "size" "I") k_74) (fun _ h9 => h9) rfl d_Rw_add_99 ?_
      refine va_iald hx hb hK hP 1 0 rfl rfl (vp_in_nI (by omega) (by omega)) d_Rw_add_102 ?_
      refine lv_topi (fun y_11 ey_11 => ?_)
      rw [nI_clamp (by omega)] at ey_11
      rw [hs1 k (by omega), hsf] at ey_11
      subst ey_11
      refine lv_iload_n hx hb d_Rw_add_103 rfl (lv_at hl 3 rfl) ?_
      refine va_copyi (ty := .int) hx hb (by rw [hml]; exact hl.1.symm) hown (hw (Cond.methodLink "ClauseSearch$Rows" 29 ⟨"java/lang/System", "arraycopy", "(Ljava/lang/Object;ILjava/lang/Object;II)V"⟩) k_379) (hw (Cond.native ⟨"java/lang/System", "arraycopy", "(Ljava/lang/Object;ILjava/lang/Object;II)V"⟩) k_381) (hw (Cond.static ⟨"java/lang/System", "arraycopy", "(Ljava/lang/Object;ILjava/lang/Object;II)V"⟩) k_380) (hw (Cond.initialized "java/lang/System") k_45) hK hP hD hS 3 5 3 2 rfl rfl rfl rfl rfl (nI_pos (by omega)) (nI_pos (by omega)) (nI_pos (by omega)) (by rw [nI_clamp (by omega), nI_clamp (by omega)]; omega) (by rw [nI_clamp (by omega), nI_clamp (by omega)]; omega) (fun _ _ => rfl) (Nat.le_of_ble_eq_true rfl) (Nat.le_of_ble_eq_true rfl) d_Rw_add_104 (fun H locs hP hD hS => ?_)
      rw [nI_clamp (n := 0) (by omega), nI_clamp (n := e0) (by omega), nI_clamp (n := len) (by omega)] at hP hD
      have hP : va_P (dC, dI) vwCl [(h0, .inr (2, [.ref g0, .ref g1, .ref q_7, .int (nI k)])), (g0, .inl (y0, la, .inl sf)), (g1, .inl (y1, la, .inl kf)), (fr, .inl (y3, ln, .inl ff)), (g2, .inl (y2, lc, .inl cf)), (q_7, .inl (y2, (2 * (e0 + len)), .inl (va_cpy ff g_9 0 e0 len)))] H := hP
      have hD : va_D A [(h0, .inr (2, [.ref g0, .ref g1, .ref q_7, .int (nI k)])), (g0, .inl (y0, la, .inl sf)), (g1, .inl (y1, la, .inl kf)), (fr, .inl (y3, ln, .inl ff)), (g2, .inl (y2, lc, .inl cf)), (q_7, .inl (y2, (2 * (e0 + len)), .inl (va_cpy ff g_9 0 e0 len)))] := hD
      refine lv_aload_n hx hb d_Rw_add_107 rfl (lv_at hl 1 rfl) ?_
      refine va_get (D := (dC, dI)) (ci := 2) (v := .ref g1) (C := R_Rw) (T := F_Rw) (N := 4) hx hb hw in_Rw hown hK hP 0 rfl rfl 1 (by decide) (hw (Cond.fieldLink "ClauseSearch$Rows" 13 "ClauseSearch$Rows" "kind" "[I") k_66) (fun _ h9 => h9) rfl d_Rw_add_108 ?_
      refine lv_aload_n hx hb d_Rw_add_111 rfl (lv_at hl 1 rfl) ?_
      refine va_get (D := (dC, dI)) (ci := 2) (v := .int (nI k)) (C := R_Rw) (T := F_Rw) (N := 4) hx hb hw in_Rw hown hK hP 0 rfl rfl 3 (by decide) (hw (Cond.fieldLink "ClauseSearch$Rows" 19 "ClauseSearch$Rows" "size" "I") k_74) (fun _ h9 => h9) rfl d_Rw_add_112 ?_
      refine lv_iload_n hx hb d_Rw_add_115 rfl (lv_at hl 4 rfl) ?_
      refine va_iast hx hb hK hP hD hS 2 1 rfl rfl (vp_in_nI (by omega) (by omega)) d_Rw_add_116 (fun H locs hP hD hS => ?_)
      rw [nI_clamp (n := k) (by omega)] at hP hD
      have hP : va_P (dC, dI) vwCl [(h0, .inr (2, [.ref g0, .ref g1, .ref q_7, .int (nI k)])), (g0, .inl (y0, la, .inl sf)), (g1, .inl (y1, la, .inl (upd kf k kd))), (fr, .inl (y3, ln, .inl ff)), (g2, .inl (y2, lc, .inl cf)), (q_7, .inl (y2, (2 * (e0 + len)), .inl (va_cpy ff g_9 0 e0 len)))] H := hP
      have hD : va_D A [(h0, .inr (2, [.ref g0, .ref g1, .ref q_7, .int (nI k)])), (g0, .inl (y0, la, .inl sf)), (g1, .inl (y1, la, .inl (upd kf k kd))), (fr, .inl (y3, ln, .inl ff)), (g2, .inl (y2, lc, .inl cf)), (q_7, .inl (y2, (2 * (e0 + len)), .inl (va_cpy ff g_9 0 e0 len)))] := hD
      refine lv_aload_n hx hb d_Rw_add_117 rfl (lv_at hl 1 rfl) ?_
      refine lv_dup hx hb d_Rw_add_118 rfl ?_
      refine va_get (D := (dC, dI)) (ci := 2) (v := .int (nI k)) (C := R_Rw) (T := F_Rw) (N := 4) hx hb hw in_Rw hown hK hP 0 rfl rfl 3 (by decide) (hw (Cond.fieldLink "ClauseSearch$Rows" 19 "ClauseSearch$Rows" "size" "I") k_74) (fun _ h9 => h9) rfl d_Rw_add_119 ?_
      refine lv_iconst (v := nI 1) hx hb d_Rw_add_122 (by decide) ?_
      refine lv_iadd hx hb d_Rw_add_123 ?_
      refine lv_topi (fun y_12 ey_12 => ?_)
      obtain rfl : y_12 = nI (k + 1) := ey_12.trans (nI_add k 1)
      refine va_put (D := (dC, dI)) (ci := 2) (v := .int (nI (k + 1))) (ty := .int) (C := R_Rw) (T := F_Rw) (N := 4) hx hb hw in_Rw t_Rw t_Rw_ok n_Rw hown hK hP hD hS 0 rfl rfl 3 (by decide) (hw (Cond.fieldLink "ClauseSearch$Rows" 19 "ClauseSearch$Rows" "size" "I") k_74) (fun _ h9 => h9) rfl (by decide +kernel) rfl rfl (Nat.le_of_ble_eq_true rfl) d_Rw_add_124 (fun H locs hP hD hS => ?_)
      have hP : va_P (dC, dI) vwCl [(h0, .inr (2, [.ref g0, .ref g1, .ref q_7, .int (nI (k + 1))])), (g0, .inl (y0, la, .inl sf)), (g1, .inl (y1, la, .inl (upd kf k kd))), (fr, .inl (y3, ln, .inl ff)), (g2, .inl (y2, lc, .inl cf)), (q_7, .inl (y2, (2 * (e0 + len)), .inl (va_cpy ff g_9 0 e0 len)))] H := hP
      have hD : va_D A [(h0, .inr (2, [.ref g0, .ref g1, .ref q_7, .int (nI (k + 1))])), (g0, .inl (y0, la, .inl sf)), (g1, .inl (y1, la, .inl (upd kf k kd))), (fr, .inl (y3, ln, .inl ff)), (g2, .inl (y2, lc, .inl cf)), (q_7, .inl (y2, (2 * (e0 + len)), .inl (va_cpy ff g_9 0 e0 len)))] := hD
      refine lv_aload_n hx hb d_Rw_add_127 rfl (lv_at hl 1 rfl) ?_
      refine va_get (D := (dC, dI)) (ci := 2) (v := .ref g0) (C := R_Rw) (T := F_Rw) (N := 4) hx hb hw in_Rw hown hK hP 0 rfl rfl 0 (by decide) (hw (Cond.fieldLink "ClauseSearch$Rows" 7 "ClauseSearch$Rows" "start" "[I") k_60) (fun _ h9 => h9) rfl d_Rw_add_128 ?_
      refine lv_aload_n hx hb d_Rw_add_131 rfl (lv_at hl 1 rfl) ?_
      refine va_get (D := (dC, dI)) (ci := 2) (v := .int (nI (k + 1))) (C := R_Rw) (T := F_Rw) (N := 4) hx hb hw in_Rw hown hK hP 0 rfl rfl 3 (by decide) (hw (Cond.fieldLink "ClauseSearch$Rows" 19 "ClauseSearch$Rows" "size" "I") k_74) (fun _ h9 => h9) rfl d_Rw_add_132 ?_
      refine lv_iload hx hb d_Rw_add_135 (lv_at hl 0 rfl) ?_
      refine va_iast hx hb hK hP hD hS 1 0 rfl rfl (vp_in_nI (by omega) (by omega)) d_Rw_add_137 (fun H locs hP hD hS => ?_)
      rw [nI_clamp (n := k + 1) (by omega)] at hP hD
      have hP : va_P (dC, dI) vwCl [(h0, .inr (2, [.ref g0, .ref g1, .ref q_7, .int (nI (k + 1))])), (g0, .inl (y0, la, .inl (upd sf (k + 1) (nI (e0 + len))))), (g1, .inl (y1, la, .inl (upd kf k kd))), (fr, .inl (y3, ln, .inl ff)), (g2, .inl (y2, lc, .inl cf)), (q_7, .inl (y2, (2 * (e0 + len)), .inl (va_cpy ff g_9 0 e0 len)))] H := hP
      have hD : va_D A [(h0, .inr (2, [.ref g0, .ref g1, .ref q_7, .int (nI (k + 1))])), (g0, .inl (y0, la, .inl (upd sf (k + 1) (nI (e0 + len))))), (g1, .inl (y1, la, .inl (upd kf k kd))), (fr, .inl (y3, ln, .inl ff)), (g2, .inl (y2, lc, .inl cf)), (q_7, .inl (y2, (2 * (e0 + len)), .inl (va_cpy ff g_9 0 e0 len)))] := hD
      refine ct_know (fun hN1 hN2 => ?_)
      refine W.widen (k := 3) (n := 4 * la + 2 * (e0 + len)) (by omega) (by omega) ?_
      have hP := hP.sub (ws' := [(h0, .inr (2, [.ref g0, .ref g1, .ref q_7, .int (nI (k + 1))])), (g0, .inl (y0, la, .inl (upd sf (k + 1) (nI (e0 + len))))), (g1, .inl (y1, la, .inl (upd kf k kd))), (q_7, .inl (y2, (2 * (e0 + len)), .inl (va_cpy ff g_9 0 e0 len))), (fr, .inl (y3, ln, .inl ff))]) [0, 1, 2, 5, 3] rfl
      have hD := hD.sub (ws' := [(h0, .inr (2, [.ref g0, .ref g1, .ref q_7, .int (nI (k + 1))])), (g0, .inl (y0, la, .inl (upd sf (k + 1) (nI (e0 + len))))), (g1, .inl (y1, la, .inl (upd kf k kd))), (q_7, .inl (y2, (2 * (e0 + len)), .inl (va_cpy ff g_9 0 e0 len))), (fr, .inl (y3, ln, .inl ff))]) [0, 1, 2, 5, 3] (by decide) rfl
      have hK := hK.sub (tys' := [(y0, .int), (y1, .int), (y2, .int), (y3, .int)]) [0, 1, 2, 3] rfl
      exact W.vret hx hb hr (fun t ht hW => ⟨⟨(), rfl, trivial, g0, g1, q_7, la, 2 * (e0 + len), _, _, _, (by omega), (by omega), (by omega), (by omega), (fun j hj => by rw [pk_un (by omega)] <;> exact hs1 j (by omega)), pk_us, (fun j hj => by rw [pk_un (by omega)] <;> exact hk1s j (by omega)), pk_us, (fun j hj => by rw [pk_cpy_out (Or.inl hj)] <;> exact hc1 j (by omega)), (fun j hj => by rw [pk_cpy_in (by omega) (by omega), show 0 + (e0 + j - e0) = j by omega]), (by rw [ht, hH]; omega), (by rw [ht, hH]; omega), by rw [ht]; exact hP, va_K.moved hW.alike hK, hD⟩, hS.F ht⟩) hS.2.2 d_Rw_add_138
  · have c_24 : ¬ (k + 1 < la) := fun qq9 => c_24 ((nI_ltI (a := k + 1) (b := la) (by omega) (by omega)).mpr qq9)
    refine lv_aload_n hx hb d_Rw_add_27 rfl (lv_at hl 1 rfl) ?_
    refine lv_aload_n hx hb d_Rw_add_28 rfl (lv_at hl 1 rfl) ?_
    refine va_get (D := (dC, dI)) (ci := 2) (v := .ref g0) (C := R_Rw) (T := F_Rw) (N := 4) hx hb hw in_Rw hown hK hP 0 rfl rfl 0 (by decide) (hw (Cond.fieldLink "ClauseSearch$Rows" 7 "ClauseSearch$Rows" "start" "[I") k_60) (fun _ h9 => h9) rfl d_Rw_add_29 ?_
    refine lv_iconst (v := nI 2) hx hb d_Rw_add_32 (by decide) ?_
    refine lv_aload_n hx hb d_Rw_add_33 rfl (lv_at hl 1 rfl) ?_
    refine va_get (D := (dC, dI)) (ci := 2) (v := .ref g0) (C := R_Rw) (T := F_Rw) (N := 4) hx hb hw in_Rw hown hK hP 0 rfl rfl 0 (by decide) (hw (Cond.fieldLink "ClauseSearch$Rows" 7 "ClauseSearch$Rows" "start" "[I") k_60) (fun _ h9 => h9) rfl d_Rw_add_34 ?_
    refine va_alen hx hb hK hP 1 0 rfl rfl (v := nI la) rfl d_Rw_add_37 ?_
    refine lv_imul hx hb d_Rw_add_38 ?_
    refine lv_topi (fun y_13 ey_13 => ?_)
    obtain rfl : y_13 = nI (2 * la) := ey_13.trans (pk_mul 2 la)
    have hPc := hP.sub (ws' := [(g0, .inl (y0, la, .inl sf))]) [1] rfl
    have hDc := hD.sub (ws' := [(g0, .inl (y0, la, .inl sf))]) [1] (by decide) rfl
    have hKc := hK.sub (tys' := [(y0, .int)]) [0] rfl
    have hFc := va_free (wc := [(g0, .inl (y0, la, .inl sf))]) hD hS hA [1] rfl
    refine va_callr (va_runS (As := [.ref g0, .int (nI (2 * la))]) (rest := [.ref h0]) ⟨hx, hb, hml, hown, hw⟩ (c_Ar_copyOf l dC dI g0 y0 H.size la (2 * la) sf (by omega) (by omega)) (cb_S 2 hw k_392 k_34 k_410 k_391 rfl rfl (by decide +kernel) ⟨Nat.le_of_ble_eq_true rfl, Nat.le_of_ble_eq_true rfl⟩) ⟨fun a U g mk q => by obtain ⟨q0, q1, qP, qK, qD⟩ := q; exact ⟨q0, q1, qP, va_K.moved (u := U) (U := U.calling g mk a) (Vm.Alike.refl U.vm) qK, qD⟩, fun U hU hW => ⟨rfl, by rw [hU], by rw [hU]; exact hPc, va_K.moved hW.alike hKc, hDc.weaken (fun _ _ _ _ => trivial)⟩⟩ rfl rfl hl.1 rfl (lv_room (Nat.le_of_ble_eq_true rfl)) d_Rw_add_39 ⟨by show 0 + 1 ≤ 3; omega, by show 0 + (2 * la) ≤ 4 * la + 2 * (e0 + len); omega⟩) hS (fun q _ h => hFc q h) hFc (fun u q_14 t H1 locs ht hvm hw9 hB hz1 hk1 hS => ?_)
    obtain ⟨z_15, g_16, hg_17, hP1, hK1, hD1⟩ := hB
    have ez_ := va_int hK1 (i := 0) (j := 1) rfl rfl
    subst ez_
    rw [ht] at hP1
    obtain ⟨hP, hD⟩ := va_join (wr := [(h0, .inr (2, [.ref g0, .ref g1, .ref g2, .int (nI k)])), (g1, .inl (y1, la, .inl kf)), (g2, .inl (y2, lc, .inl cf)), (fr, .inl (y3, ln, .inl ff))]) (w1 := [(g0, .inl (y0, la, .inl sf)), (q_14, .inl (y0, (2 * la), .inl g_16))]) hP hD [1] [0, 2, 3, 4] rfl rfl (by decide) (by decide) hk1 hFc hP1 hD1
    generalize H1 = H at hP hS ⊢
    have hP : va_P (dC, dI) vwCl [(h0, .inr (2, [.ref g0, .ref g1, .ref g2, .int (nI k)])), (g1, .inl (y1, la, .inl kf)), (g2, .inl (y2, lc, .inl cf)), (fr, .inl (y3, ln, .inl ff)), (g0, .inl (y0, la, .inl sf)), (q_14, .inl (y0, (2 * la), .inl g_16))] H := hP
    have hD : va_D A [(h0, .inr (2, [.ref g0, .ref g1, .ref g2, .int (nI k)])), (g1, .inl (y1, la, .inl kf)), (g2, .inl (y2, lc, .inl cf)), (fr, .inl (y3, ln, .inl ff)), (g0, .inl (y0, la, .inl sf)), (q_14, .inl (y0, (2 * la), .inl g_16))] := hD
    have hs1 := hg_17
    refine va_put (D := (dC, dI)) (ci := 2) (v := .ref q_14) (ty := .array .int) (C := R_Rw) (T := F_Rw) (N := 4) hx hb hw in_Rw t_Rw t_Rw_ok n_Rw hown hK hP hD hS 0 rfl rfl 0 (by decide) (hw (Cond.fieldLink "ClauseSearch$Rows" 7 "ClauseSearch$Rows" "start" "[I") k_60) (fun _ h9 => h9) rfl (by decide +kernel) rfl rfl (Nat.le_of_ble_eq_true rfl) d_Rw_add_42 (fun H locs hP hD hS => ?_)
    have hP : va_P (dC, dI) vwCl [(h0, .inr (2, [.ref q_14, .ref g1, .ref g2, .int (nI k)])), (g1, .inl (y1, la, .inl kf)), (g2, .inl (y2, lc, .inl cf)), (fr, .inl (y3, ln, .inl ff)), (g0, .inl (y0, la, .inl sf)), (q_14, .inl (y0, (2 * la), .inl g_16))] H := hP
    have hD : va_D A [(h0, .inr (2, [.ref q_14, .ref g1, .ref g2, .int (nI k)])), (g1, .inl (y1, la, .inl kf)), (g2, .inl (y2, lc, .inl cf)), (fr, .inl (y3, ln, .inl ff)), (g0, .inl (y0, la, .inl sf)), (q_14, .inl (y0, (2 * la), .inl g_16))] := hD
    refine lv_aload_n hx hb d_Rw_add_45 rfl (lv_at hl 1 rfl) ?_
    refine lv_aload_n hx hb d_Rw_add_46 rfl (lv_at hl 1 rfl) ?_
    refine va_get (D := (dC, dI)) (ci := 2) (v := .ref g1) (C := R_Rw) (T := F_Rw) (N := 4) hx hb hw in_Rw hown hK hP 0 rfl rfl 1 (by decide) (hw (Cond.fieldLink "ClauseSearch$Rows" 13 "ClauseSearch$Rows" "kind" "[I") k_66) (fun _ h9 => h9) rfl d_Rw_add_47 ?_
    refine lv_iconst (v := nI 2) hx hb d_Rw_add_50 (by decide) ?_
    refine lv_aload_n hx hb d_Rw_add_51 rfl (lv_at hl 1 rfl) ?_
    refine va_get (D := (dC, dI)) (ci := 2) (v := .ref g1) (C := R_Rw) (T := F_Rw) (N := 4) hx hb hw in_Rw hown hK hP 0 rfl rfl 1 (by decide) (hw (Cond.fieldLink "ClauseSearch$Rows" 13 "ClauseSearch$Rows" "kind" "[I") k_66) (fun _ h9 => h9) rfl d_Rw_add_52 ?_
    refine va_alen hx hb hK hP 1 1 rfl rfl (v := nI la) rfl d_Rw_add_55 ?_
    refine lv_imul hx hb d_Rw_add_56 ?_
    refine lv_topi (fun y_18 ey_18 => ?_)
    obtain rfl : y_18 = nI (2 * la) := ey_18.trans (pk_mul 2 la)
    have hPc := hP.sub (ws' := [(g1, .inl (y1, la, .inl kf))]) [1] rfl
    have hDc := hD.sub (ws' := [(g1, .inl (y1, la, .inl kf))]) [1] (by decide) rfl
    have hKc := hK.sub (tys' := [(y1, .int)]) [1] rfl
    have hFc := va_free (wc := [(g1, .inl (y1, la, .inl kf))]) hD hS hA [1] rfl
    refine va_callr (va_runS (As := [.ref g1, .int (nI (2 * la))]) (rest := [.ref h0]) ⟨hx, hb, hml, hown, hw⟩ (c_Ar_copyOf l dC dI g1 y1 H.size la (2 * la) kf (by omega) (by omega)) (cb_S 2 hw k_392 k_34 k_410 k_391 rfl rfl (by decide +kernel) ⟨Nat.le_of_ble_eq_true rfl, Nat.le_of_ble_eq_true rfl⟩) ⟨fun a U g mk q => by obtain ⟨q0, q1, qP, qK, qD⟩ := q; exact ⟨q0, q1, qP, va_K.moved (u := U) (U := U.calling g mk a) (Vm.Alike.refl U.vm) qK, qD⟩, fun U hU hW => ⟨rfl, by rw [hU], by rw [hU]; exact hPc, va_K.moved hW.alike hKc, hDc.weaken (fun _ _ _ _ => trivial)⟩⟩ rfl rfl hl.1 rfl (lv_room (Nat.le_of_ble_eq_true rfl)) d_Rw_add_57 ⟨by show (0 + 1) + 1 ≤ 3; omega, by show (0 + (2 * la)) + (2 * la) ≤ 4 * la + 2 * (e0 + len); omega⟩) hS (fun q _ h => hFc q h) hFc (fun u q_19 t H1 locs ht hvm hw9 hB hz1 hk1 hS => ?_)
    obtain ⟨z_20, g_21, hg_22, hP1, hK1, hD1⟩ := hB
    have ez_ := va_int hK1 (i := 0) (j := 1) rfl rfl
    subst ez_
    rw [ht] at hP1
    obtain ⟨hP, hD⟩ := va_join (wr := [(h0, .inr (2, [.ref q_14, .ref g1, .ref g2, .int (nI k)])), (g2, .inl (y2, lc, .inl cf)), (fr, .inl (y3, ln, .inl ff)), (g0, .inl (y0, la, .inl sf)), (q_14, .inl (y0, (2 * la), .inl g_16))]) (w1 := [(g1, .inl (y1, la, .inl kf)), (q_19, .inl (y1, (2 * la), .inl g_21))]) hP hD [1] [0, 2, 3, 4, 5] rfl rfl (by decide) (by decide) hk1 hFc hP1 hD1
    generalize H1 = H at hP hS ⊢
    have hP : va_P (dC, dI) vwCl [(h0, .inr (2, [.ref q_14, .ref g1, .ref g2, .int (nI k)])), (g2, .inl (y2, lc, .inl cf)), (fr, .inl (y3, ln, .inl ff)), (g0, .inl (y0, la, .inl sf)), (q_14, .inl (y0, (2 * la), .inl g_16)), (g1, .inl (y1, la, .inl kf)), (q_19, .inl (y1, (2 * la), .inl g_21))] H := hP
    have hD : va_D A [(h0, .inr (2, [.ref q_14, .ref g1, .ref g2, .int (nI k)])), (g2, .inl (y2, lc, .inl cf)), (fr, .inl (y3, ln, .inl ff)), (g0, .inl (y0, la, .inl sf)), (q_14, .inl (y0, (2 * la), .inl g_16)), (g1, .inl (y1, la, .inl kf)), (q_19, .inl (y1, (2 * la), .inl g_21))] := hD
    have hk1s := hg_22
    refine va_put (D := (dC, dI)) (ci := 2) (v := .ref q_19) (ty := .array .int) (C := R_Rw) (T := F_Rw) (N := 4) hx hb hw in_Rw t_Rw t_Rw_ok n_Rw hown hK hP hD hS 0 rfl rfl 1 (by decide) (hw (Cond.fieldLink "ClauseSearch$Rows" 13 "ClauseSearch$Rows" "kind" "[I") k_66) (fun _ h9 => h9) rfl (by decide +kernel) rfl rfl (Nat.le_of_ble_eq_true rfl) d_Rw_add_60 (fun H locs hP hD hS => ?_)
    have hP : va_P (dC, dI) vwCl [(h0, .inr (2, [.ref q_14, .ref q_19, .ref g2, .int (nI k)])), (g2, .inl (y2, lc, .inl cf)), (fr, .inl (y3, ln, .inl ff)), (g0, .inl (y0, la, .inl sf)), (q_14, .inl (y0, (2 * la), .inl g_16)), (g1, .inl (y1, la, .inl kf)), (q_19, .inl (y1, (2 * la), .inl g_21))] H := hP
    have hD : va_D A [(h0, .inr (2, [.ref q_14, .ref q_19, .ref g2, .int (nI k)])), (g2, .inl (y2, lc, .inl cf)), (fr, .inl (y3, ln, .inl ff)), (g0, .inl (y0, la, .inl sf)), (q_14, .inl (y0, (2 * la), .inl g_16)), (g1, .inl (y1, la, .inl kf)), (q_19, .inl (y1, (2 * la), .inl g_21))] := hD
    refine lv_iload hx hb d_Rw_add_63 (lv_at hl 0 rfl) ?_
    refine lv_aload_n hx hb d_Rw_add_65 rfl (lv_at hl 1 rfl) ?_
    refine va_get (D := (dC, dI)) (ci := 2) (v := .ref g2) (C := R_Rw) (T := F_Rw) (N := 4) hx hb hw in_Rw hown hK hP 0 rfl rfl 2 (by decide) (hw (Cond.fieldLink "ClauseSearch$Rows" 16 "ClauseSearch$Rows" "codes" "[I") k_68) (fun _ h9 => h9) rfl d_Rw_add_66 ?_
    refine va_alen hx hb hK hP 1 2 rfl rfl (v := nI lc) rfl d_Rw_add_69 ?_
    refine lv_icmp_le (tgt := 88) hx hb d_Rw_add_70 (by decide) (fun c_70 => ?_) (fun c_70 => ?_)
    · have c_70 : e0 + len ≤ lc := (nI_leI (a := e0 + len) (b := lc) (by omega) (by omega)).mp c_70
      have hc1 : ∀ j, j < lc → cf j = cf j := fun _ _ => rfl
      refine lv_aload_n hx hb d_Rw_add_88 rfl (lv_at hl 2 rfl) ?_
      refine lv_iconst (v := nI 0) hx hb d_Rw_add_89 (by decide) ?_
      refine lv_aload_n hx hb d_Rw_add_90 rfl (lv_at hl 1 rfl) ?_
      refine va_get (D := (dC, dI)) (ci := 2) (v := .ref g2) (C := R_Rw) (T := F_Rw) (N := 4) hx hb hw in_Rw hown hK hP 0 rfl rfl 2 (by decide) (hw (Cond.fieldLink "ClauseSearch$Rows" 16 "ClauseSearch$Rows" "codes" "[I") k_68) (fun _ h9 => h9) rfl d_Rw_add_91 ?_
      refine lv_aload_n hx hb d_Rw_add_94 rfl (lv_at hl 1 rfl) ?_
      refine va_get (D := (dC, dI)) (ci := 2) (v := .ref q_14) (C := R_Rw) (T := F_Rw) (N := 4) hx hb hw in_Rw hown hK hP 0 rfl rfl 0 (by decide) (hw (Cond.fieldLink "ClauseSearch$Rows" 7 "ClauseSearch$Rows" "start" "[I") k_60) (fun _ h9 => h9) rfl d_Rw_add_95 ?_
      refine lv_aload_n hx hb d_Rw_add_98 rfl (lv_at hl 1 rfl) ?_
      refine va_get (D := (dC, dI)) (ci := 2) (v := .int (nI k)) (C := R_Rw) (T := F_Rw) (N := 4) hx hb hw in_Rw hown hK hP 0 rfl rfl 3 (by decide) (hw (Cond.fieldLink "ClauseSearch$Rows" 19 "ClauseSearch$Rows" "size" "I") k_74) (fun _ h9 => h9) rfl d_Rw_add_99 ?_
      refine va_iald hx hb hK hP 4 0 rfl rfl (vp_in_nI (by omega) (by omega)) d_Rw_add_102 ?_
      refine lv_topi (fun y_23 ey_23 => ?_)
      rw [nI_clamp (by omega)] at ey_23
      rw [hs1 k (by omega), hsf] at ey_23
      subst ey_23
      refine lv_iload_n hx hb d_Rw_add_103 rfl (lv_at hl 3 rfl) ?_
      refine va_copyi (ty := .int) hx hb (by rw [hml]; exact hl.1.symm) hown (hw (Cond.methodLink "ClauseSearch$Rows" 29 ⟨"java/lang/System", "arraycopy", "(Ljava/lang/Object;ILjava/lang/Object;II)V"⟩) k_379) (hw (Cond.native ⟨"java/lang/System", "arraycopy", "(Ljava/lang/Object;ILjava/lang/Object;II)V"⟩) k_381) (hw (Cond.static ⟨"java/lang/System", "arraycopy", "(Ljava/lang/Object;ILjava/lang/Object;II)V"⟩) k_380) (hw (Cond.initialized "java/lang/System") k_45) hK hP hD hS 2 1 3 2 rfl rfl rfl rfl rfl (nI_pos (by omega)) (nI_pos (by omega)) (nI_pos (by omega)) (by rw [nI_clamp (by omega), nI_clamp (by omega)]; omega) (by rw [nI_clamp (by omega), nI_clamp (by omega)]; omega) (fun _ _ => rfl) (Nat.le_of_ble_eq_true rfl) (Nat.le_of_ble_eq_true rfl) d_Rw_add_104 (fun H locs hP hD hS => ?_)
      rw [nI_clamp (n := 0) (by omega), nI_clamp (n := e0) (by omega), nI_clamp (n := len) (by omega)] at hP hD
      have hP : va_P (dC, dI) vwCl [(h0, .inr (2, [.ref q_14, .ref q_19, .ref g2, .int (nI k)])), (g2, .inl (y2, lc, .inl (va_cpy ff cf 0 e0 len))), (fr, .inl (y3, ln, .inl ff)), (g0, .inl (y0, la, .inl sf)), (q_14, .inl (y0, (2 * la), .inl g_16)), (g1, .inl (y1, la, .inl kf)), (q_19, .inl (y1, (2 * la), .inl g_21))] H := hP
      have hD : va_D A [(h0, .inr (2, [.ref q_14, .ref q_19, .ref g2, .int (nI k)])), (g2, .inl (y2, lc, .inl (va_cpy ff cf 0 e0 len))), (fr, .inl (y3, ln, .inl ff)), (g0, .inl (y0, la, .inl sf)), (q_14, .inl (y0, (2 * la), .inl g_16)), (g1, .inl (y1, la, .inl kf)), (q_19, .inl (y1, (2 * la), .inl g_21))] := hD
      refine lv_aload_n hx hb d_Rw_add_107 rfl (lv_at hl 1 rfl) ?_
      refine va_get (D := (dC, dI)) (ci := 2) (v := .ref q_19) (C := R_Rw) (T := F_Rw) (N := 4) hx hb hw in_Rw hown hK hP 0 rfl rfl 1 (by decide) (hw (Cond.fieldLink "ClauseSearch$Rows" 13 "ClauseSearch$Rows" "kind" "[I") k_66) (fun _ h9 => h9) rfl d_Rw_add_108 ?_
      refine lv_aload_n hx hb d_Rw_add_111 rfl (lv_at hl 1 rfl) ?_
      refine va_get (D := (dC, dI)) (ci := 2) (v := .int (nI k)) (C := R_Rw) (T := F_Rw) (N := 4) hx hb hw in_Rw hown hK hP 0 rfl rfl 3 (by decide) (hw (Cond.fieldLink "ClauseSearch$Rows" 19 "ClauseSearch$Rows" "size" "I") k_74) (fun _ h9 => h9) rfl d_Rw_add_112 ?_
      refine lv_iload_n hx hb d_Rw_add_115 rfl (lv_at hl 4 rfl) ?_
      refine va_iast hx hb hK hP hD hS 6 1 rfl rfl (vp_in_nI (by omega) (by omega)) d_Rw_add_116 (fun H locs hP hD hS => ?_)
      rw [nI_clamp (n := k) (by omega)] at hP hD
      have hP : va_P (dC, dI) vwCl [(h0, .inr (2, [.ref q_14, .ref q_19, .ref g2, .int (nI k)])), (g2, .inl (y2, lc, .inl (va_cpy ff cf 0 e0 len))), (fr, .inl (y3, ln, .inl ff)), (g0, .inl (y0, la, .inl sf)), (q_14, .inl (y0, (2 * la), .inl g_16)), (g1, .inl (y1, la, .inl kf)), (q_19, .inl (y1, (2 * la), .inl (upd g_21 k kd)))] H := hP
      have hD : va_D A [(h0, .inr (2, [.ref q_14, .ref q_19, .ref g2, .int (nI k)])), (g2, .inl (y2, lc, .inl (va_cpy ff cf 0 e0 len))), (fr, .inl (y3, ln, .inl ff)), (g0, .inl (y0, la, .inl sf)), (q_14, .inl (y0, (2 * la), .inl g_16)), (g1, .inl (y1, la, .inl kf)), (q_19, .inl (y1, (2 * la), .inl (upd g_21 k kd)))] := hD
      refine lv_aload_n hx hb d_Rw_add_117 rfl (lv_at hl 1 rfl) ?_
      refine lv_dup hx hb d_Rw_add_118 rfl ?_
      refine va_get (D := (dC, dI)) (ci := 2) (v := .int (nI k)) (C := R_Rw) (T := F_Rw) (N := 4) hx hb hw in_Rw hown hK hP 0 rfl rfl 3 (by decide) (hw (Cond.fieldLink "ClauseSearch$Rows" 19 "ClauseSearch$Rows" "size" "I") k_74) (fun _ h9 => h9) rfl d_Rw_add_119 ?_
      refine lv_iconst (v := nI 1) hx hb d_Rw_add_122 (by decide) ?_
      refine lv_iadd hx hb d_Rw_add_123 ?_
      refine lv_topi (fun y_24 ey_24 => ?_)
      obtain rfl : y_24 = nI (k + 1) := ey_24.trans (nI_add k 1)
      refine va_put (D := (dC, dI)) (ci := 2) (v := .int (nI (k + 1))) (ty := .int) (C := R_Rw) (T := F_Rw) (N := 4) hx hb hw in_Rw t_Rw t_Rw_ok n_Rw hown hK hP hD hS 0 rfl rfl 3 (by decide) (hw (Cond.fieldLink "ClauseSearch$Rows" 19 "ClauseSearch$Rows" "size" "I") k_74) (fun _ h9 => h9) rfl (by decide +kernel) rfl rfl (Nat.le_of_ble_eq_true rfl) d_Rw_add_124 (fun H locs hP hD hS => ?_)
      have hP : va_P (dC, dI) vwCl [(h0, .inr (2, [.ref q_14, .ref q_19, .ref g2, .int (nI (k + 1))])), (g2, .inl (y2, lc, .inl (va_cpy ff cf 0 e0 len))), (fr, .inl (y3, ln, .inl ff)), (g0, .inl (y0, la, .inl sf)), (q_14, .inl (y0, (2 * la), .inl g_16)), (g1, .inl (y1, la, .inl kf)), (q_19, .inl (y1, (2 * la), .inl (upd g_21 k kd)))] H := hP
      have hD : va_D A [(h0, .inr (2, [.ref q_14, .ref q_19, .ref g2, .int (nI (k + 1))])), (g2, .inl (y2, lc, .inl (va_cpy ff cf 0 e0 len))), (fr, .inl (y3, ln, .inl ff)), (g0, .inl (y0, la, .inl sf)), (q_14, .inl (y0, (2 * la), .inl g_16)), (g1, .inl (y1, la, .inl kf)), (q_19, .inl (y1, (2 * la), .inl (upd g_21 k kd)))] := hD
      refine lv_aload_n hx hb d_Rw_add_127 rfl (lv_at hl 1 rfl) ?_
      refine va_get (D := (dC, dI)) (ci := 2) (v := .ref q_14) (C := R_Rw) (T := F_Rw) (N := 4) hx hb hw in_Rw hown hK hP 0 rfl rfl 0 (by decide) (hw (Cond.fieldLink "ClauseSearch$Rows" 7 "ClauseSearch$Rows" "start" "[I") k_60) (fun _ h9 => h9) rfl d_Rw_add_128 ?_
      refine lv_aload_n hx hb d_Rw_add_131 rfl (lv_at hl 1 rfl) ?_
      refine va_get (D := (dC, dI)) (ci := 2) (v := .int (nI (k + 1))) (C := R_Rw) (T := F_Rw) (N := 4) hx hb hw in_Rw hown hK hP 0 rfl rfl 3 (by decide) (hw (Cond.fieldLink "ClauseSearch$Rows" 19 "ClauseSearch$Rows" "size" "I") k_74) (fun _ h9 => h9) rfl d_Rw_add_132 ?_
      refine lv_iload hx hb d_Rw_add_135 (lv_at hl 0 rfl) ?_
      refine va_iast hx hb hK hP hD hS 4 0 rfl rfl (vp_in_nI (by omega) (by omega)) d_Rw_add_137 (fun H locs hP hD hS => ?_)
      rw [nI_clamp (n := k + 1) (by omega)] at hP hD
      have hP : va_P (dC, dI) vwCl [(h0, .inr (2, [.ref q_14, .ref q_19, .ref g2, .int (nI (k + 1))])), (g2, .inl (y2, lc, .inl (va_cpy ff cf 0 e0 len))), (fr, .inl (y3, ln, .inl ff)), (g0, .inl (y0, la, .inl sf)), (q_14, .inl (y0, (2 * la), .inl (upd g_16 (k + 1) (nI (e0 + len))))), (g1, .inl (y1, la, .inl kf)), (q_19, .inl (y1, (2 * la), .inl (upd g_21 k kd)))] H := hP
      have hD : va_D A [(h0, .inr (2, [.ref q_14, .ref q_19, .ref g2, .int (nI (k + 1))])), (g2, .inl (y2, lc, .inl (va_cpy ff cf 0 e0 len))), (fr, .inl (y3, ln, .inl ff)), (g0, .inl (y0, la, .inl sf)), (q_14, .inl (y0, (2 * la), .inl (upd g_16 (k + 1) (nI (e0 + len))))), (g1, .inl (y1, la, .inl kf)), (q_19, .inl (y1, (2 * la), .inl (upd g_21 k kd)))] := hD
      refine ct_know (fun hN1 hN2 => ?_)
      refine W.widen (k := 3) (n := 4 * la + 2 * (e0 + len)) (by omega) (by omega) ?_
      have hP := hP.sub (ws' := [(h0, .inr (2, [.ref q_14, .ref q_19, .ref g2, .int (nI (k + 1))])), (q_14, .inl (y0, (2 * la), .inl (upd g_16 (k + 1) (nI (e0 + len))))), (q_19, .inl (y1, (2 * la), .inl (upd g_21 k kd))), (g2, .inl (y2, lc, .inl (va_cpy ff cf 0 e0 len))), (fr, .inl (y3, ln, .inl ff))]) [0, 4, 6, 1, 2] rfl
      have hD := hD.sub (ws' := [(h0, .inr (2, [.ref q_14, .ref q_19, .ref g2, .int (nI (k + 1))])), (q_14, .inl (y0, (2 * la), .inl (upd g_16 (k + 1) (nI (e0 + len))))), (q_19, .inl (y1, (2 * la), .inl (upd g_21 k kd))), (g2, .inl (y2, lc, .inl (va_cpy ff cf 0 e0 len))), (fr, .inl (y3, ln, .inl ff))]) [0, 4, 6, 1, 2] (by decide) rfl
      have hK := hK.sub (tys' := [(y0, .int), (y1, .int), (y2, .int), (y3, .int)]) [0, 1, 2, 3] rfl
      exact W.vret hx hb hr (fun t ht hW => ⟨⟨(), rfl, trivial, q_14, q_19, g2, 2 * la, lc, _, _, _, (by omega), (by omega), (by omega), (by omega), (fun j hj => by rw [pk_un (by omega)] <;> exact hs1 j (by omega)), pk_us, (fun j hj => by rw [pk_un (by omega)] <;> exact hk1s j (by omega)), pk_us, (fun j hj => by rw [pk_cpy_out (Or.inl hj)] <;> exact hc1 j (by omega)), (fun j hj => by rw [pk_cpy_in (by omega) (by omega), show 0 + (e0 + j - e0) = j by omega]), (by rw [ht, hH]; omega), (by rw [ht, hH]; omega), by rw [ht]; exact hP, va_K.moved hW.alike hK, hD⟩, hS.F ht⟩) hS.2.2 d_Rw_add_138
    · have c_70 : ¬ (e0 + len ≤ lc) := fun qq9 => c_70 ((nI_leI (a := e0 + len) (b := lc) (by omega) (by omega)).mpr qq9)
      refine lv_aload_n hx hb d_Rw_add_73 rfl (lv_at hl 1 rfl) ?_
      refine lv_aload_n hx hb d_Rw_add_74 rfl (lv_at hl 1 rfl) ?_
      refine va_get (D := (dC, dI)) (ci := 2) (v := .ref g2) (C := R_Rw) (T := F_Rw) (N := 4) hx hb hw in_Rw hown hK hP 0 rfl rfl 2 (by decide) (hw (Cond.fieldLink "ClauseSearch$Rows" 16 "ClauseSearch$Rows" "codes" "[I") k_68) (fun _ h9 => h9) rfl d_Rw_add_75 ?_
      refine lv_iconst (v := nI 2) hx hb d_Rw_add_78 (by decide) ?_
      refine lv_iload hx hb d_Rw_add_79 (lv_at hl 0 rfl) ?_
      refine lv_imul hx hb d_Rw_add_81 ?_
      refine lv_topi (fun y_25 ey_25 => ?_)
      obtain rfl : y_25 = nI (2 * (e0 + len)) := ey_25.trans (pk_mul 2 (e0 + len))
      have hPc := hP.sub (ws' := [(g2, .inl (y2, lc, .inl cf))]) [1] rfl
      have hDc := hD.sub (ws' := [(g2, .inl (y2, lc, .inl cf))]) [1] (by decide) rfl
      have hKc := hK.sub (tys' := [(y2, .int)]) [2] rfl
      have hFc := va_free (wc := [(g2, .inl (y2, lc, .inl cf))]) hD hS hA [1] rfl
      refine va_callr (va_runS (As := [.ref g2, .int (nI (2 * (e0 + len)))]) (rest := [.ref h0]) ⟨hx, hb, hml, hown, hw⟩ (c_Ar_copyOf l dC dI g2 y2 H.size lc (2 * (e0 + len)) cf (by omega) (by omega)) (cb_S 2 hw k_392 k_34 k_410 k_391 rfl rfl (by decide +kernel) ⟨Nat.le_of_ble_eq_true rfl, Nat.le_of_ble_eq_true rfl⟩) ⟨fun a U g mk q => by obtain ⟨q0, q1, qP, qK, qD⟩ := q; exact ⟨q0, q1, qP, va_K.moved (u := U) (U := U.calling g mk a) (Vm.Alike.refl U.vm) qK, qD⟩, fun U hU hW => ⟨rfl, by rw [hU], by rw [hU]; exact hPc, va_K.moved hW.alike hKc, hDc.weaken (fun _ _ _ _ => trivial)⟩⟩ rfl rfl hl.1 rfl (lv_room (Nat.le_of_ble_eq_true rfl)) d_Rw_add_82 ⟨by show ((0 + 1) + 1) + 1 ≤ 3; omega, by show ((0 + (2 * la)) + (2 * la)) + (2 * (e0 + len)) ≤ 4 * la + 2 * (e0 + len); omega⟩) hS (fun q _ h => hFc q h) hFc (fun u q_26 t H1 locs ht hvm hw9 hB hz1 hk1 hS => ?_)
      obtain ⟨z_27, g_28, hg_29, hP1, hK1, hD1⟩ := hB
      have ez_ := va_int hK1 (i := 0) (j := 1) rfl rfl
      subst ez_
      rw [ht] at hP1
      obtain ⟨hP, hD⟩ := va_join (wr := [(h0, .inr (2, [.ref q_14, .ref q_19, .ref g2, .int (nI k)])), (fr, .inl (y3, ln, .inl ff)), (g0, .inl (y0, la, .inl sf)), (q_14, .inl (y0, (2 * la), .inl g_16)), (g1, .inl (y1, la, .inl kf)), (q_19, .inl (y1, (2 * la), .inl g_21))]) (w1 := [(g2, .inl (y2, lc, .inl cf)), (q_26, .inl (y2, (2 * (e0 + len)), .inl g_28))]) hP hD [1] [0, 2, 3, 4, 5, 6] rfl rfl (by decide) (by decide) hk1 hFc hP1 hD1
      generalize H1 = H at hP hS ⊢
      have hP : va_P (dC, dI) vwCl [(h0, .inr (2, [.ref q_14, .ref q_19, .ref g2, .int (nI k)])), (fr, .inl (y3, ln, .inl ff)), (g0, .inl (y0, la, .inl sf)), (q_14, .inl (y0, (2 * la), .inl g_16)), (g1, .inl (y1, la, .inl kf)), (q_19, .inl (y1, (2 * la), .inl g_21)), (g2, .inl (y2, lc, .inl cf)), (q_26, .inl (y2, (2 * (e0 + len)), .inl g_28))] H := hP
      have hD : va_D A [(h0, .inr (2, [.ref q_14, .ref q_19, .ref g2, .int (nI k)])), (fr, .inl (y3, ln, .inl ff)), (g0, .inl (y0, la, .inl sf)), (q_14, .inl (y0, (2 * la), .inl g_16)), (g1, .inl (y1, la, .inl kf)), (q_19, .inl (y1, (2 * la), .inl g_21)), (g2, .inl (y2, lc, .inl cf)), (q_26, .inl (y2, (2 * (e0 + len)), .inl g_28))] := hD
      have hc1 := hg_29
      refine va_put (D := (dC, dI)) (ci := 2) (v := .ref q_26) (ty := .array .int) (C := R_Rw) (T := F_Rw) (N := 4) hx hb hw in_Rw t_Rw t_Rw_ok n_Rw hown hK hP hD hS 0 rfl rfl 2 (by decide) (hw (Cond.fieldLink "ClauseSearch$Rows" 16 "ClauseSearch$Rows" "codes" "[I") k_68) (fun _ h9 => h9) rfl (by decide +kernel) rfl rfl (Nat.le_of_ble_eq_true rfl) d_Rw_add_85 (fun H locs hP hD hS => ?_)
      have hP : va_P (dC, dI) vwCl [(h0, .inr (2, [.ref q_14, .ref q_19, .ref q_26, .int (nI k)])), (fr, .inl (y3, ln, .inl ff)), (g0, .inl (y0, la, .inl sf)), (q_14, .inl (y0, (2 * la), .inl g_16)), (g1, .inl (y1, la, .inl kf)), (q_19, .inl (y1, (2 * la), .inl g_21)), (g2, .inl (y2, lc, .inl cf)), (q_26, .inl (y2, (2 * (e0 + len)), .inl g_28))] H := hP
      have hD : va_D A [(h0, .inr (2, [.ref q_14, .ref q_19, .ref q_26, .int (nI k)])), (fr, .inl (y3, ln, .inl ff)), (g0, .inl (y0, la, .inl sf)), (q_14, .inl (y0, (2 * la), .inl g_16)), (g1, .inl (y1, la, .inl kf)), (q_19, .inl (y1, (2 * la), .inl g_21)), (g2, .inl (y2, lc, .inl cf)), (q_26, .inl (y2, (2 * (e0 + len)), .inl g_28))] := hD
      refine lv_aload_n hx hb d_Rw_add_88 rfl (lv_at hl 2 rfl) ?_
      refine lv_iconst (v := nI 0) hx hb d_Rw_add_89 (by decide) ?_
      refine lv_aload_n hx hb d_Rw_add_90 rfl (lv_at hl 1 rfl) ?_
      refine va_get (D := (dC, dI)) (ci := 2) (v := .ref q_26) (C := R_Rw) (T := F_Rw) (N := 4) hx hb hw in_Rw hown hK hP 0 rfl rfl 2 (by decide) (hw (Cond.fieldLink "ClauseSearch$Rows" 16 "ClauseSearch$Rows" "codes" "[I") k_68) (fun _ h9 => h9) rfl d_Rw_add_91 ?_
      refine lv_aload_n hx hb d_Rw_add_94 rfl (lv_at hl 1 rfl) ?_
      refine va_get (D := (dC, dI)) (ci := 2) (v := .ref q_14) (C := R_Rw) (T := F_Rw) (N := 4) hx hb hw in_Rw hown hK hP 0 rfl rfl 0 (by decide) (hw (Cond.fieldLink "ClauseSearch$Rows" 7 "ClauseSearch$Rows" "start" "[I") k_60) (fun _ h9 => h9) rfl d_Rw_add_95 ?_
      refine lv_aload_n hx hb d_Rw_add_98 rfl (lv_at hl 1 rfl) ?_
      refine va_get (D := (dC, dI)) (ci := 2) (v := .int (nI k)) (C := R_Rw) (T := F_Rw) (N := 4) hx hb hw in_Rw hown hK hP 0 rfl rfl 3 (by decide) (hw (Cond.fieldLink "ClauseSearch$Rows" 19 "ClauseSearch$Rows" "size" "I") k_74) (fun _ h9 => h9) rfl d_Rw_add_99 ?_
      refine va_iald hx hb hK hP 3 0 rfl rfl (vp_in_nI (by omega) (by omega)) d_Rw_add_102 ?_
      refine lv_topi (fun y_30 ey_30 => ?_)
      rw [nI_clamp (by omega)] at ey_30
      rw [hs1 k (by omega), hsf] at ey_30
      subst ey_30
      refine lv_iload_n hx hb d_Rw_add_103 rfl (lv_at hl 3 rfl) ?_
      refine va_copyi (ty := .int) hx hb (by rw [hml]; exact hl.1.symm) hown (hw (Cond.methodLink "ClauseSearch$Rows" 29 ⟨"java/lang/System", "arraycopy", "(Ljava/lang/Object;ILjava/lang/Object;II)V"⟩) k_379) (hw (Cond.native ⟨"java/lang/System", "arraycopy", "(Ljava/lang/Object;ILjava/lang/Object;II)V"⟩) k_381) (hw (Cond.static ⟨"java/lang/System", "arraycopy", "(Ljava/lang/Object;ILjava/lang/Object;II)V"⟩) k_380) (hw (Cond.initialized "java/lang/System") k_45) hK hP hD hS 1 7 3 2 rfl rfl rfl rfl rfl (nI_pos (by omega)) (nI_pos (by omega)) (nI_pos (by omega)) (by rw [nI_clamp (by omega), nI_clamp (by omega)]; omega) (by rw [nI_clamp (by omega), nI_clamp (by omega)]; omega) (fun _ _ => rfl) (Nat.le_of_ble_eq_true rfl) (Nat.le_of_ble_eq_true rfl) d_Rw_add_104 (fun H locs hP hD hS => ?_)
      rw [nI_clamp (n := 0) (by omega), nI_clamp (n := e0) (by omega), nI_clamp (n := len) (by omega)] at hP hD
      have hP : va_P (dC, dI) vwCl [(h0, .inr (2, [.ref q_14, .ref q_19, .ref q_26, .int (nI k)])), (fr, .inl (y3, ln, .inl ff)), (g0, .inl (y0, la, .inl sf)), (q_14, .inl (y0, (2 * la), .inl g_16)), (g1, .inl (y1, la, .inl kf)), (q_19, .inl (y1, (2 * la), .inl g_21)), (g2, .inl (y2, lc, .inl cf)), (q_26, .inl (y2, (2 * (e0 + len)), .inl (va_cpy ff g_28 0 e0 len)))] H := hP
      have hD : va_D A [(h0, .inr (2, [.ref q_14, .ref q_19, .ref q_26, .int (nI k)])), (fr, .inl (y3, ln, .inl ff)), (g0, .inl (y0, la, .inl sf)), (q_14, .inl (y0, (2 * la), .inl g_16)), (g1, .inl (y1, la, .inl kf)), (q_19, .inl (y1, (2 * la), .inl g_21)), (g2, .inl (y2, lc, .inl cf)), (q_26, .inl (y2, (2 * (e0 + len)), .inl (va_cpy ff g_28 0 e0 len)))] := hD
      refine lv_aload_n hx hb d_Rw_add_107 rfl (lv_at hl 1 rfl) ?_
      refine va_get (D := (dC, dI)) (ci := 2) (v := .ref q_19) (C := R_Rw) (T := F_Rw) (N := 4) hx hb hw in_Rw hown hK hP 0 rfl rfl 1 (by decide) (hw (Cond.fieldLink "ClauseSearch$Rows" 13 "ClauseSearch$Rows" "kind" "[I") k_66) (fun _ h9 => h9) rfl d_Rw_add_108 ?_
      refine lv_aload_n hx hb d_Rw_add_111 rfl (lv_at hl 1 rfl) ?_
      refine va_get (D := (dC, dI)) (ci := 2) (v := .int (nI k)) (C := R_Rw) (T := F_Rw) (N := 4) hx hb hw in_Rw hown hK hP 0 rfl rfl 3 (by decide) (hw (Cond.fieldLink "ClauseSearch$Rows" 19 "ClauseSearch$Rows" "size" "I") k_74) (fun _ h9 => h9) rfl d_Rw_add_112 ?_
      refine lv_iload_n hx hb d_Rw_add_115 rfl (lv_at hl 4 rfl) ?_
      refine va_iast hx hb hK hP hD hS 5 1 rfl rfl (vp_in_nI (by omega) (by omega)) d_Rw_add_116 (fun H locs hP hD hS => ?_)
      rw [nI_clamp (n := k) (by omega)] at hP hD
      have hP : va_P (dC, dI) vwCl [(h0, .inr (2, [.ref q_14, .ref q_19, .ref q_26, .int (nI k)])), (fr, .inl (y3, ln, .inl ff)), (g0, .inl (y0, la, .inl sf)), (q_14, .inl (y0, (2 * la), .inl g_16)), (g1, .inl (y1, la, .inl kf)), (q_19, .inl (y1, (2 * la), .inl (upd g_21 k kd))), (g2, .inl (y2, lc, .inl cf)), (q_26, .inl (y2, (2 * (e0 + len)), .inl (va_cpy ff g_28 0 e0 len)))] H := hP
      have hD : va_D A [(h0, .inr (2, [.ref q_14, .ref q_19, .ref q_26, .int (nI k)])), (fr, .inl (y3, ln, .inl ff)), (g0, .inl (y0, la, .inl sf)), (q_14, .inl (y0, (2 * la), .inl g_16)), (g1, .inl (y1, la, .inl kf)), (q_19, .inl (y1, (2 * la), .inl (upd g_21 k kd))), (g2, .inl (y2, lc, .inl cf)), (q_26, .inl (y2, (2 * (e0 + len)), .inl (va_cpy ff g_28 0 e0 len)))] := hD
      refine lv_aload_n hx hb d_Rw_add_117 rfl (lv_at hl 1 rfl) ?_
      refine lv_dup hx hb d_Rw_add_118 rfl ?_
      refine va_get (D := (dC, dI)) (ci := 2) (v := .int (nI k)) (C := R_Rw) (T := F_Rw) (N := 4) hx hb hw in_Rw hown hK hP 0 rfl rfl 3 (by decide) (hw (Cond.fieldLink "ClauseSearch$Rows" 19 "ClauseSearch$Rows" "size" "I") k_74) (fun _ h9 => h9) rfl d_Rw_add_119 ?_
      refine lv_iconst (v := nI 1) hx hb d_Rw_add_122 (by decide) ?_
      refine lv_iadd hx hb d_Rw_add_123 ?_
      refine lv_topi (fun y_31 ey_31 => ?_)
      obtain rfl : y_31 = nI (k + 1) := ey_31.trans (nI_add k 1)
      refine va_put (D := (dC, dI)) (ci := 2) (v := .int (nI (k + 1))) (ty := .int) (C := R_Rw) (T := F_Rw) (N := 4) hx hb hw in_Rw t_Rw t_Rw_ok n_Rw hown hK hP hD hS 0 rfl rfl 3 (by decide) (hw (Cond.fieldLink "ClauseSearch$Rows" 19 "ClauseSearch$Rows" "size" "I") k_74) (fun _ h9 => h9) rfl (by decide +kernel) rfl rfl (Nat.le_of_ble_eq_true rfl) d_Rw_add_124 (fun H locs hP hD hS => ?_)
      have hP : va_P (dC, dI) vwCl [(h0, .inr (2, [.ref q_14, .ref q_19, .ref q_26, .int (nI (k + 1))])), (fr, .inl (y3, ln, .inl ff)), (g0, .inl (y0, la, .inl sf)), (q_14, .inl (y0, (2 * la), .inl g_16)), (g1, .inl (y1, la, .inl kf)), (q_19, .inl (y1, (2 * la), .inl (upd g_21 k kd))), (g2, .inl (y2, lc, .inl cf)), (q_26, .inl (y2, (2 * (e0 + len)), .inl (va_cpy ff g_28 0 e0 len)))] H := hP
      have hD : va_D A [(h0, .inr (2, [.ref q_14, .ref q_19, .ref q_26, .int (nI (k + 1))])), (fr, .inl (y3, ln, .inl ff)), (g0, .inl (y0, la, .inl sf)), (q_14, .inl (y0, (2 * la), .inl g_16)), (g1, .inl (y1, la, .inl kf)), (q_19, .inl (y1, (2 * la), .inl (upd g_21 k kd))), (g2, .inl (y2, lc, .inl cf)), (q_26, .inl (y2, (2 * (e0 + len)), .inl (va_cpy ff g_28 0 e0 len)))] := hD
      refine lv_aload_n hx hb d_Rw_add_127 rfl (lv_at hl 1 rfl) ?_
      refine va_get (D := (dC, dI)) (ci := 2) (v := .ref q_14) (C := R_Rw) (T := F_Rw) (N := 4) hx hb hw in_Rw hown hK hP 0 rfl rfl 0 (by decide) (hw (Cond.fieldLink "ClauseSearch$Rows" 7 "ClauseSearch$Rows" "start" "[I") k_60) (fun _ h9 => h9) rfl d_Rw_add_128 ?_
      refine lv_aload_n hx hb d_Rw_add_131 rfl (lv_at hl 1 rfl) ?_
      refine va_get (D := (dC, dI)) (ci := 2) (v := .int (nI (k + 1))) (C := R_Rw) (T := F_Rw) (N := 4) hx hb hw in_Rw hown hK hP 0 rfl rfl 3 (by decide) (hw (Cond.fieldLink "ClauseSearch$Rows" 19 "ClauseSearch$Rows" "size" "I") k_74) (fun _ h9 => h9) rfl d_Rw_add_132 ?_
      refine lv_iload hx hb d_Rw_add_135 (lv_at hl 0 rfl) ?_
      refine va_iast hx hb hK hP hD hS 3 0 rfl rfl (vp_in_nI (by omega) (by omega)) d_Rw_add_137 (fun H locs hP hD hS => ?_)
      rw [nI_clamp (n := k + 1) (by omega)] at hP hD
      have hP : va_P (dC, dI) vwCl [(h0, .inr (2, [.ref q_14, .ref q_19, .ref q_26, .int (nI (k + 1))])), (fr, .inl (y3, ln, .inl ff)), (g0, .inl (y0, la, .inl sf)), (q_14, .inl (y0, (2 * la), .inl (upd g_16 (k + 1) (nI (e0 + len))))), (g1, .inl (y1, la, .inl kf)), (q_19, .inl (y1, (2 * la), .inl (upd g_21 k kd))), (g2, .inl (y2, lc, .inl cf)), (q_26, .inl (y2, (2 * (e0 + len)), .inl (va_cpy ff g_28 0 e0 len)))] H := hP
      have hD : va_D A [(h0, .inr (2, [.ref q_14, .ref q_19, .ref q_26, .int (nI (k + 1))])), (fr, .inl (y3, ln, .inl ff)), (g0, .inl (y0, la, .inl sf)), (q_14, .inl (y0, (2 * la), .inl (upd g_16 (k + 1) (nI (e0 + len))))), (g1, .inl (y1, la, .inl kf)), (q_19, .inl (y1, (2 * la), .inl (upd g_21 k kd))), (g2, .inl (y2, lc, .inl cf)), (q_26, .inl (y2, (2 * (e0 + len)), .inl (va_cpy ff g_28 0 e0 len)))] := hD
      refine ct_know (fun hN1 hN2 => ?_)
      refine W.widen (k := 3) (n := 4 * la + 2 * (e0 + len)) (by omega) (by omega) ?_
      have hP := hP.sub (ws' := [(h0, .inr (2, [.ref q_14, .ref q_19, .ref q_26, .int (nI (k + 1))])), (q_14, .inl (y0, (2 * la), .inl (upd g_16 (k + 1) (nI (e0 + len))))), (q_19, .inl (y1, (2 * la), .inl (upd g_21 k kd))), (q_26, .inl (y2, (2 * (e0 + len)), .inl (va_cpy ff g_28 0 e0 len))), (fr, .inl (y3, ln, .inl ff))]) [0, 3, 5, 7, 1] rfl
      have hD := hD.sub (ws' := [(h0, .inr (2, [.ref q_14, .ref q_19, .ref q_26, .int (nI (k + 1))])), (q_14, .inl (y0, (2 * la), .inl (upd g_16 (k + 1) (nI (e0 + len))))), (q_19, .inl (y1, (2 * la), .inl (upd g_21 k kd))), (q_26, .inl (y2, (2 * (e0 + len)), .inl (va_cpy ff g_28 0 e0 len))), (fr, .inl (y3, ln, .inl ff))]) [0, 3, 5, 7, 1] (by decide) rfl
      have hK := hK.sub (tys' := [(y0, .int), (y1, .int), (y2, .int), (y3, .int)]) [0, 1, 2, 3] rfl
      exact W.vret hx hb hr (fun t ht hW => ⟨⟨(), rfl, trivial, q_14, q_19, q_26, 2 * la, 2 * (e0 + len), _, _, _, (by omega), (by omega), (by omega), (by omega), (fun j hj => by rw [pk_un (by omega)] <;> exact hs1 j (by omega)), pk_us, (fun j hj => by rw [pk_un (by omega)] <;> exact hk1s j (by omega)), pk_us, (fun j hj => by rw [pk_cpy_out (Or.inl hj)] <;> exact hc1 j (by omega)), (fun j hj => by rw [pk_cpy_in (by omega) (by omega), show 0 + (e0 + j - e0) = j by omega]), (by rw [ht, hH]; omega), (by rw [ht, hH]; omega), by rw [ht]; exact hP, va_K.moved hW.alike hK, hD⟩, hS.F ht⟩) hS.2.2 d_Rw_add_138
