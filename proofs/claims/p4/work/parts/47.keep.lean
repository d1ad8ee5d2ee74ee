abbrev y_Sr_keep : MethodName := ⟨"ClauseSearch$Search", "keep", "([III)I"⟩
theorem k_224 : (Cond.fieldLink "ClauseSearch$Search" 51 "ClauseSearch$Search" "isFact" "[Z") ∈ bg_W := bg_in 224 (by decide +kernel) (by decide +kernel)
theorem k_406 : (Cond.methodLink "ClauseSearch$Search" 65 ⟨"ClauseSearch$Rows", "add", "([III)V"⟩) ∈ bg_W := bg_in 406 (by decide +kernel) (by decide +kernel)
theorem k_407 : (Cond.instanceMethod ⟨"ClauseSearch$Rows", "add", "([III)V"⟩) ∈ bg_W := bg_in 407 (by decide +kernel) (by decide +kernel)
theorem k_408 : (Cond.selects "ClauseSearch$Rows" ⟨"ClauseSearch$Rows", "add", "([III)V"⟩ ⟨"ClauseSearch$Rows", "add", "([III)V"⟩) ∈ bg_W := bg_in 408 (by decide +kernel) (by decide +kernel)
theorem k_409 : (Cond.code ⟨"ClauseSearch$Rows", "add", "([III)V"⟩ prog_4_method_2_code 5 none) ∈ bg_W := bg_in 409 (by decide +kernel) (by decide +kernel)
theorem k_411 : (Cond.methodLink "ClauseSearch$Search" 73 ⟨"ClauseSearch$Watch", "add", "(I)V"⟩) ∈ bg_W := bg_in 411 (by decide +kernel) (by decide +kernel)
theorem d_Sr_keep_0 : decode prog_5_method_4_code 0 = .ok (.iload_n 2, 1) := by decide +kernel
theorem d_Sr_keep_1 : decode prog_5_method_4_code 1 = .ok (.iconst 1, 1) := by decide +kernel
theorem d_Sr_keep_2 : decode prog_5_method_4_code 2 = .ok (.if_icmp .le 39, 3) := by decide +kernel
theorem d_Sr_keep_5 : decode prog_5_method_4_code 5 = .ok (.aload_n 0, 1) := by decide +kernel
theorem d_Sr_keep_6 : decode prog_5_method_4_code 6 = .ok (.getfield 9, 3) := by decide +kernel
theorem d_Sr_keep_9 : decode prog_5_method_4_code 9 = .ok (.aload_n 1, 1) := by decide +kernel
theorem d_Sr_keep_10 : decode prog_5_method_4_code 10 = .ok (.iload_n 2, 1) := by decide +kernel
theorem d_Sr_keep_11 : decode prog_5_method_4_code 11 = .ok (.iload_n 3, 1) := by decide +kernel
theorem d_Sr_keep_12 : decode prog_5_method_4_code 12 = .ok (.invokevirtual 65, 3) := by decide +kernel
theorem d_Sr_keep_15 : decode prog_5_method_4_code 15 = .ok (.aload_n 0, 1) := by decide +kernel
theorem d_Sr_keep_16 : decode prog_5_method_4_code 16 = .ok (.getfield 24, 3) := by decide +kernel
theorem d_Sr_keep_19 : decode prog_5_method_4_code 19 = .ok (.aload_n 0, 1) := by decide +kernel
theorem d_Sr_keep_20 : decode prog_5_method_4_code 20 = .ok (.getfield 9, 3) := by decide +kernel
theorem d_Sr_keep_23 : decode prog_5_method_4_code 23 = .ok (.getfield 69, 3) := by decide +kernel
theorem d_Sr_keep_26 : decode prog_5_method_4_code 26 = .ok (.iconst 1, 1) := by decide +kernel
theorem d_Sr_keep_27 : decode prog_5_method_4_code 27 = .ok (.isub, 1) := by decide +kernel
theorem d_Sr_keep_28 : decode prog_5_method_4_code 28 = .ok (.invokevirtual 73, 3) := by decide +kernel
theorem d_Sr_keep_31 : decode prog_5_method_4_code 31 = .ok (.aload_n 0, 1) := by decide +kernel
theorem d_Sr_keep_32 : decode prog_5_method_4_code 32 = .ok (.getfield 9, 3) := by decide +kernel
theorem d_Sr_keep_35 : decode prog_5_method_4_code 35 = .ok (.getfield 69, 3) := by decide +kernel
theorem d_Sr_keep_38 : decode prog_5_method_4_code 38 = .ok (.iconst 1, 1) := by decide +kernel
theorem d_Sr_keep_39 : decode prog_5_method_4_code 39 = .ok (.isub, 1) := by decide +kernel
theorem d_Sr_keep_40 : decode prog_5_method_4_code 40 = .ok (.ireturn, 1) := by decide +kernel
theorem d_Sr_keep_41 : decode prog_5_method_4_code 41 = .ok (.aload_n 0, 1) := by decide +kernel
theorem d_Sr_keep_42 : decode prog_5_method_4_code 42 = .ok (.getfield 51, 3) := by decide +kernel
theorem d_Sr_keep_45 : decode prog_5_method_4_code 45 = .ok (.aload_n 1, 1) := by decide +kernel
theorem d_Sr_keep_46 : decode prog_5_method_4_code 46 = .ok (.iconst 0, 1) := by decide +kernel
theorem d_Sr_keep_47 : decode prog_5_method_4_code 47 = .ok (.iaload, 1) := by decide +kernel
theorem d_Sr_keep_48 : decode prog_5_method_4_code 48 = .ok (.baload, 1) := by decide +kernel
theorem d_Sr_keep_49 : decode prog_5_method_4_code 49 = .ok (.ifCond .ne 34, 3) := by decide +kernel
theorem d_Sr_keep_83 : decode prog_5_method_4_code 83 = .ok (.iconst (-1), 1) := by decide +kernel
theorem d_Sr_keep_84 : decode prog_5_method_4_code 84 = .ok (.ireturn, 1) := by decide +kernel
theorem d_Sr_keep_52 : decode prog_5_method_4_code 52 = .ok (.aload_n 0, 1) := by decide +kernel
theorem d_Sr_keep_53 : decode prog_5_method_4_code 53 = .ok (.getfield 51, 3) := by decide +kernel
theorem d_Sr_keep_56 : decode prog_5_method_4_code 56 = .ok (.aload_n 1, 1) := by decide +kernel
theorem d_Sr_keep_57 : decode prog_5_method_4_code 57 = .ok (.iconst 0, 1) := by decide +kernel
theorem d_Sr_keep_58 : decode prog_5_method_4_code 58 = .ok (.iaload, 1) := by decide +kernel
theorem d_Sr_keep_59 : decode prog_5_method_4_code 59 = .ok (.iconst 1, 1) := by decide +kernel
theorem d_Sr_keep_60 : decode prog_5_method_4_code 60 = .ok (.bastore, 1) := by decide +kernel
theorem d_Sr_keep_61 : decode prog_5_method_4_code 61 = .ok (.aload_n 0, 1) := by decide +kernel
theorem d_Sr_keep_62 : decode prog_5_method_4_code 62 = .ok (.getfield 48, 3) := by decide +kernel
theorem d_Sr_keep_65 : decode prog_5_method_4_code 65 = .ok (.aload_n 0, 1) := by decide +kernel
theorem d_Sr_keep_66 : decode prog_5_method_4_code 66 = .ok (.getfield 76, 3) := by decide +kernel
theorem d_Sr_keep_69 : decode prog_5_method_4_code 69 = .ok (.aload_n 1, 1) := by decide +kernel
theorem d_Sr_keep_70 : decode prog_5_method_4_code 70 = .ok (.iconst 0, 1) := by decide +kernel
theorem d_Sr_keep_71 : decode prog_5_method_4_code 71 = .ok (.iaload, 1) := by decide +kernel
theorem d_Sr_keep_72 : decode prog_5_method_4_code 72 = .ok (.iastore, 1) := by decide +kernel
theorem d_Sr_keep_73 : decode prog_5_method_4_code 73 = .ok (.aload_n 0, 1) := by decide +kernel
theorem d_Sr_keep_74 : decode prog_5_method_4_code 74 = .ok (.dup, 1) := by decide +kernel
theorem d_Sr_keep_75 : decode prog_5_method_4_code 75 = .ok (.getfield 76, 3) := by decide +kernel
theorem d_Sr_keep_78 : decode prog_5_method_4_code 78 = .ok (.iconst 1, 1) := by decide +kernel
theorem d_Sr_keep_79 : decode prog_5_method_4_code 79 = .ok (.iadd, 1) := by decide +kernel
theorem d_Sr_keep_80 : decode prog_5_method_4_code 80 = .ok (.putfield 76, 3) := by decide +kernel
set_option maxHeartbeats 4000000 in
set_option maxRecDepth 100000 in
/-- keep(codes, length, kind), more than one code -/
theorem c_Sr_keep (l : Launch) (dC : Nat → ClassId) (dI : Nat → Nat → Nat) (o0 : Nat) (p0 : Nat) (f0 : Nat) (f1 : Nat) (h0 : Nat) (t0 : Nat) (w0 : Nat) (s0 : Nat) (k0 : Nat) (g0 : Nat) (g1 : Nat) (g2 : Nat) (v0 : Nat) (v1 : Nat) (fr : Nat) (x0 : ClassId) (x1 : ClassId) (y0 : ClassId) (y1 : ClassId) (y2 : ClassId) (y3 : ClassId) (sz sm : Nat) (a : Rx) (w : Wx) (x : Sx) (ln : Nat) (ff : Nat → Int32) (len : Nat) (A9 : Nat → Nat) (kd : Int32) (hR : Rok a) (hWk : Wok a w (2 * a.n)) (hlen : 2 ≤ len ∧ len ≤ ln ∧ ln ≤ 401) (hcd9 : ∀ j, j < len → ff j = nI (A9 j) ∧ 2 ≤ A9 j ∧ A9 j < 802) (hla : 64 ≤ a.la ∧ a.la ≤ 4096) (hlc : 256 ≤ a.lc ∧ a.lc ≤ 1048576) (hnn : 128 ≤ w.nn ∧ w.nn ≤ 8192) (h2n : 2 * a.n ≤ w.nn) : Met l y_Sr_keep (wq y_Sr_keep prog_5_method_4_code 4 (some .int)) ({ frames := 3, cells := 4, slots := 4 * a.la + 2 * (a.S a.n + len) + 2 * w.nn, locals := 106 }) (va_Pc [.ref o0, .ref fr, .int (nI len), .int kd] (fun U => U.heap.size = sz ∧ hsum U.heap = sm ∧ va_P (dC, dI) vwCl [(o0, .inr (3, [.ref h0, .ref t0, .ref w0, .ref s0, .ref k0, .ref p0, .ref f0, .ref f1, .int (nI x.fc), .int (nI x.lc), .int x.bl, .int x.hp])), (h0, .inr (2, [.ref g0, .ref g1, .ref g2, .int (nI a.n)])), (g0, .inl (y0, a.la, .inl a.sf)), (g1, .inl (y1, a.la, .inl a.kf)), (g2, .inl (y2, a.lc, .inl a.cf)), (w0, .inr (5, [.ref h0, .ref t0, .ref v0, .ref v1])), (v0, .inl (x0, 802, .inl w.hd)), (v1, .inl (x1, w.nn, .inl w.nx)), (fr, .inl (y3, ln, .inl ff))] U.heap ∧ va_K (dC, dI) vwCl [(y0, .int), (y1, .int), (y2, .int), (x0, .int), (x1, .int), (y3, .int)] U ∧ va_D (fun _ => True) [(o0, .inr (3, [.ref h0, .ref t0, .ref w0, .ref s0, .ref k0, .ref p0, .ref f0, .ref f1, .int (nI x.fc), .int (nI x.lc), .int x.bl, .int x.hp])), (h0, .inr (2, [.ref g0, .ref g1, .ref g2, .int (nI a.n)])), (g0, .inl (y0, a.la, .inl a.sf)), (g1, .inl (y1, a.la, .inl a.kf)), (g2, .inl (y2, a.lc, .inl a.cf)), (w0, .inr (5, [.ref h0, .ref t0, .ref v0, .ref v1])), (v0, .inl (x0, 802, .inl w.hd)), (v1, .inl (x1, w.nn, .inl w.nx)), (fr, .inl (y3, ln, .inl ff))])) (va_Qi (fun (r : Int32) (r9 : Int32) => r = r9) (fun (r9 : Int32) t => ∃ (e1 : Nat) (e2 : Nat) (e3 : Nat) (v9 : Nat) (b : Rx) (vv : Wx), r9 = nI a.n ∧ (Rok b) ∧ (Rext a b len A9 kd) ∧ (Wok b vv (2 * b.n)) ∧ (2 * b.n ≤ vv.nn) ∧ (b.la = a.la ∨ (b.la = 2 * a.la ∧ a.la ≤ a.n + 1)) ∧ (b.lc = a.lc ∨ (a.lc < a.S a.n + len ∧ b.lc = 2 * (a.S a.n + len))) ∧ (vv.nn = w.nn ∨ (vv.nn = 2 * w.nn ∧ w.nn ≤ 2 * a.n + 1)) ∧ (t.heap.size + FC a w ≤ sz + FC b vv) ∧ (hsum t.heap + FS a w ≤ sm + FS b vv) ∧ va_P (dC, dI) vwCl [(o0, .inr (3, [.ref h0, .ref t0, .ref w0, .ref s0, .ref k0, .ref p0, .ref f0, .ref f1, .int (nI x.fc), .int (nI x.lc), .int x.bl, .int x.hp])), (h0, .inr (2, [.ref e1, .ref e2, .ref e3, .int (nI b.n)])), (e1, .inl (y0, b.la, .inl b.sf)), (e2, .inl (y1, b.la, .inl b.kf)), (e3, .inl (y2, b.lc, .inl b.cf)), (w0, .inr (5, [.ref h0, .ref t0, .ref v0, .ref v9])), (v0, .inl (x0, 802, .inl vv.hd)), (v9, .inl (x1, vv.nn, .inl vv.nx)), (fr, .inl (y3, ln, .inl ff))] t.heap ∧ va_K (dC, dI) vwCl [(y0, .int), (y1, .int), (y2, .int), (x0, .int), (x1, .int), (y3, .int)] t ∧ va_D (va_A [(o0, .inr (3, [.ref h0, .ref t0, .ref w0, .ref s0, .ref k0, .ref p0, .ref f0, .ref f1, .int (nI x.fc), .int (nI x.lc), .int x.bl, .int x.hp])), (h0, .inr (2, [.ref g0, .ref g1, .ref g2, .int (nI a.n)])), (g0, .inl (y0, a.la, .inl a.sf)), (g1, .inl (y1, a.la, .inl a.kf)), (g2, .inl (y2, a.lc, .inl a.cf)), (w0, .inr (5, [.ref h0, .ref t0, .ref v0, .ref v1])), (v0, .inl (x0, 802, .inl w.hd)), (v1, .inl (x1, w.nn, .inl w.nx)), (fr, .inl (y3, ln, .inl ff))] sz) [(o0, .inr (3, [.ref h0, .ref t0, .ref w0, .ref s0, .ref k0, .ref p0, .ref f0, .ref f1, .int (nI x.fc), .int (nI x.lc), .int x.bl, .int x.hp])), (h0, .inr (2, [.ref e1, .ref e2, .ref e3, .int (nI b.n)])), (e1, .inl (y0, b.la, .inl b.sf)), (e2, .inl (y1, b.la, .inl b.kf)), (e3, .inl (y2, b.lc, .inl b.cf)), (w0, .inr (5, [.ref h0, .ref t0, .ref v0, .ref v9])), (v0, .inl (x0, 802, .inl vv.hd)), (v9, .inl (x1, vv.nn, .inl vv.nx)), (fr, .inl (y3, ln, .inl ff))]) (va_A [(o0, .inr (3, [.ref h0, .ref t0, .ref w0, .ref s0, .ref k0, .ref p0, .ref f0, .ref f1, .int (nI x.fc), .int (nI x.lc), .int x.bl, .int x.hp])), (h0, .inr (2, [.ref g0, .ref g1, .ref g2, .int (nI a.n)])), (g0, .inl (y0, a.la, .inl a.sf)), (g1, .inl (y1, a.la, .inl a.kf)), (g2, .inl (y2, a.lc, .inl a.cf)), (w0, .inr (5, [.ref h0, .ref t0, .ref v0, .ref v1])), (v0, .inl (x0, 802, .inl w.hd)), (v1, .inl (x1, w.nn, .inl w.nx)), (fr, .inl (y3, ln, .inl ff))] sz)) (4) (4 * a.la + 2 * (a.S a.n + len) + 2 * w.nn) (va_A [(o0, .inr (3, [.ref h0, .ref t0, .ref w0, .ref s0, .ref k0, .ref p0, .ref f0, .ref f1, .int (nI x.fc), .int (nI x.lc), .int x.bl, .int x.hp])), (h0, .inr (2, [.ref g0, .ref g1, .ref g2, .int (nI a.n)])), (g0, .inl (y0, a.la, .inl a.sf)), (g1, .inl (y1, a.la, .inl a.kf)), (g2, .inl (y2, a.lc, .inl a.cf)), (w0, .inr (5, [.ref h0, .ref t0, .ref v0, .ref v1])), (v0, .inl (x0, 802, .inl w.hd)), (v1, .inl (x1, w.nn, .inl w.nx)), (fr, .inl (y3, ln, .inl ff))] sz) := by
  refine Met.ofW (cc := prog_5_method_4_code) (maxL := 4) (ret := (some .int)) (by decide) rfl ?_
  intro p e s m args below meth c s₁ B hml hv
  obtain ⟨rfl, hsz, hsm, hP, hK, hD0⟩ := hv
  have hx := B.exec
  have hb := B.bytes
  have hr := B.returns
  have hw : ∀ w ∈ bg_W, w.before #[Value.ref o0, Value.ref fr, Value.int (nI len), Value.int kd] s = true := fun w h => atoms_spec (ws := (wq y_Sr_keep prog_5_method_4_code 4 (some .int))) B.pre w (List.mem_cons_of_mem _ h)
  have hown : s.vm.findClass R_Sr = some m.cls := findClass_of_methodNamed B.named
  have hlocks := B.notSynchronized
  subst hsz; subst hsm
  have hD := hD0.self (sz := s.heap.size)
  generalize hAe : va_A [(o0, .inr (3, [.ref h0, .ref t0, .ref w0, .ref s0, .ref k0, .ref p0, .ref f0, .ref f1, .int (nI x.fc), .int (nI x.lc), .int x.bl, .int x.hp])), (h0, .inr (2, [.ref g0, .ref g1, .ref g2, .int (nI a.n)])), (g0, .inl (y0, a.la, .inl a.sf)), (g1, .inl (y1, a.la, .inl a.kf)), (g2, .inl (y2, a.lc, .inl a.cf)), (w0, .inr (5, [.ref h0, .ref t0, .ref v0, .ref v1])), (v0, .inl (x0, 802, .inl w.hd)), (v1, .inl (x1, w.nn, .inl w.nx)), (fr, .inl (y3, ln, .inl ff))] s.heap.size = A at hD ⊢
  have hA : ∀ q : Nat, s.heap.size ≤ q → A q := fun q h => by rw [← hAe]; exact Or.inr h
  have hS : va_S A s.heap s.heap [] := va_S.rf
  have hP : va_P (dC, dI) vwCl [(o0, .inr (3, [.ref h0, .ref t0, .ref w0, .ref s0, .ref k0, .ref p0, .ref f0, .ref f1, .int (nI x.fc), .int (nI x.lc), .int x.bl, .int x.hp])), (h0, .inr (2, [.ref g0, .ref g1, .ref g2, .int (nI a.n)])), (g0, .inl (y0, a.la, .inl a.sf)), (g1, .inl (y1, a.la, .inl a.kf)), (g2, .inl (y2, a.lc, .inl a.cf)), (w0, .inr (5, [.ref h0, .ref t0, .ref v0, .ref v1])), (v0, .inl (x0, 802, .inl w.hd)), (v1, .inl (x1, w.nn, .inl w.nx)), (fr, .inl (y3, ln, .inl ff))] s.heap := hP
  have hl := lv_entry ([.ref o0, .ref fr, .int (nI len), .int kd]) (n := 4) (Nat.le_of_ble_eq_true rfl)
  rw [lg_entry_eq]
  generalize (lg_sl ([.ref o0, .ref fr, .int (nI len), .int kd]) ++ List.replicate (4 - (lg_sl ([.ref o0, .ref fr, .int (nI len), .int kd])).length) Slot.unset).toArray = ls at hl ⊢
  have hl : lv_has ls 4 [(0, .ref o0), (1, .ref fr), (2, .int (nI len)), (3, .int kd)] := hl
  obtain ⟨H, hH⟩ : ∃ H : Heap, H = s.heap := ⟨_, rfl⟩
  rw [← hH] at hP
  have hS : va_S A s.heap H [] := by rw [hH]; exact va_S.rf
  show W p l e _ s m _ below meth c s.heap [] 0 0 _ _
  rw [← hH]
  have hn1 := hR.n1
  have ht1 := hR.top
  refine lv_iload_n hx hb d_Sr_keep_0 rfl (lv_at hl 2 rfl) ?_
  refine lv_iconst (v := nI 1) hx hb d_Sr_keep_1 (by decide) ?_
  refine lv_icmp_le (tgt := 41) hx hb d_Sr_keep_2 (by decide) (fun c_2 => by exfalso; have c_2 : len ≤ 1 := (nI_leI (a := len) (b := 1) (by omega) (by omega)).mp c_2; omega) (fun c_2 => ?_)
  have c_2 : ¬ (len ≤ 1) := fun qq9 => c_2 ((nI_leI (a := len) (b := 1) (by omega) (by omega)).mpr qq9)
  refine lv_aload_n hx hb d_Sr_keep_5 rfl (lv_at hl 0 rfl) ?_
  refine va_get (D := (dC, dI)) (ci := 3) (v := .ref h0) (C := R_Sr) (T := F_Sr) (N := 12) hx hb hw in_Sr hown hK hP 0 rfl rfl 0 (by decide) (hw (Cond.fieldLink "ClauseSearch$Search" 9 "ClauseSearch$Search" "rows" "LClauseSearch$Rows;") k_217) (fun _ h9 => h9) rfl d_Sr_keep_6 ?_
  refine lv_aload_n hx hb d_Sr_keep_9 rfl (lv_at hl 1 rfl) ?_
  refine lv_iload_n hx hb d_Sr_keep_10 rfl (lv_at hl 2 rfl) ?_
  refine lv_iload_n hx hb d_Sr_keep_11 rfl (lv_at hl 3 rfl) ?_
  refine ct_know (fun hN1 hN2 => ?_)
  have hPc := hP.sub (ws' := [(h0, .inr (2, [.ref g0, .ref g1, .ref g2, .int (nI a.n)])), (g0, .inl (y0, a.la, .inl a.sf)), (g1, .inl (y1, a.la, .inl a.kf)), (g2, .inl (y2, a.lc, .inl a.cf)), (fr, .inl (y3, ln, .inl ff))]) [1, 2, 3, 4, 8] rfl
  have hDc := hD.sub (ws' := [(h0, .inr (2, [.ref g0, .ref g1, .ref g2, .int (nI a.n)])), (g0, .inl (y0, a.la, .inl a.sf)), (g1, .inl (y1, a.la, .inl a.kf)), (g2, .inl (y2, a.lc, .inl a.cf)), (fr, .inl (y3, ln, .inl ff))]) [1, 2, 3, 4, 8] (by decide) rfl
  have hKc := hK.sub (tys' := [(y0, .int), (y1, .int), (y2, .int), (y3, .int)]) [0, 1, 2, 5] rfl
  have hFc := va_free (wc := [(h0, .inr (2, [.ref g0, .ref g1, .ref g2, .int (nI a.n)])), (g0, .inl (y0, a.la, .inl a.sf)), (g1, .inl (y1, a.la, .inl a.kf)), (g2, .inl (y2, a.lc, .inl a.cf)), (fr, .inl (y3, ln, .inl ff))]) hD hS hA [1, 2, 3, 4, 8] rfl
  refine va_callv (va_runV (As := [.ref fr, .int (nI len), .int kd]) (rest := []) ⟨hx, hb, hml, hown, hw⟩ (c_Rw_add l dC dI h0 g0 g1 g2 fr y0 y1 y2 y3 H.size (hsum H) a.n a.la a.lc ln len (a.S a.n) kd a.sf a.kf a.cf ff hR.n1 (hR.sf _ (Nat.le_refl _)) hR.top hlen.2.1 (by omega) (by omega) (by omega)) (cb_V (C := R_Rw) 3 hw k_409 k_30 k_406 k_407 k_408 rfl rfl (by decide +kernel) ⟨Nat.le_of_ble_eq_true rfl, Nat.le_of_ble_eq_true rfl⟩) ⟨fun a U g mk q => by obtain ⟨q0, q1, q2, qP, qK, qD⟩ := q; exact ⟨q0, q1, q2, qP, va_K.moved (u := U) (U := U.calling g mk a) (Vm.Alike.refl U.vm) qK, qD⟩, va_recv hKc hPc (ci := 2) (q0 := 0) rfl rfl, fun U hU hW => ⟨rfl, by rw [hU], by rw [hU], by rw [hU]; exact hPc, va_K.moved hW.alike hKc, hDc.weaken (fun _ _ _ _ => trivial)⟩⟩ rfl rfl hl.1 rfl (lv_room (Nat.le_of_ble_eq_true rfl)) d_Sr_keep_12 ⟨by show 0 + 3 ≤ 4; omega, by show 0 + (4 * a.la + 2 * ((a.S a.n) + len)) ≤ 4 * a.la + 2 * (a.S a.n + len) + 2 * w.nn; omega⟩) hS (fun q _ h => hFc q h) hFc (fun u t H1 locs ht hvm hw9 hB hz1 hk1 hS => ?_)
  obtain ⟨q_1, q_2, q_3, n_4, n_5, g_6, g_7, g_8, f_9, f_10, f_11, f_12, f_13, f_14, f_15, f_16, f_17, f_18, f_19, f_20, hP1, hK1, hD1⟩ := hB
  rw [ht] at hP1
  have hK1 := va_K.moved hvm.symm hK1
  obtain ⟨hP, hD⟩ := va_join (wr := [(o0, .inr (3, [.ref h0, .ref t0, .ref w0, .ref s0, .ref k0, .ref p0, .ref f0, .ref f1, .int (nI x.fc), .int (nI x.lc), .int x.bl, .int x.hp])), (w0, .inr (5, [.ref h0, .ref t0, .ref v0, .ref v1])), (v0, .inl (x0, 802, .inl w.hd)), (v1, .inl (x1, w.nn, .inl w.nx))]) (w1 := [(h0, .inr (2, [.ref q_1, .ref q_2, .ref q_3, .int (nI (a.n + 1))])), (q_1, .inl (y0, n_4, .inl g_6)), (q_2, .inl (y1, n_4, .inl g_7)), (q_3, .inl (y2, n_5, .inl g_8)), (fr, .inl (y3, ln, .inl ff))]) hP hD [1, 2, 3, 4, 8] [0, 5, 6, 7] rfl rfl (by decide) (by decide) hk1 hFc hP1 hD1
  rw [ht] at f_19 f_20
  generalize H1 = H at f_19 f_20 hP hS ⊢
  have hP : va_P (dC, dI) vwCl [(o0, .inr (3, [.ref h0, .ref t0, .ref w0, .ref s0, .ref k0, .ref p0, .ref f0, .ref f1, .int (nI x.fc), .int (nI x.lc), .int x.bl, .int x.hp])), (w0, .inr (5, [.ref h0, .ref t0, .ref v0, .ref v1])), (v0, .inl (x0, 802, .inl w.hd)), (v1, .inl (x1, w.nn, .inl w.nx)), (h0, .inr (2, [.ref q_1, .ref q_2, .ref q_3, .int (nI (a.n + 1))])), (q_1, .inl (y0, n_4, .inl g_6)), (q_2, .inl (y1, n_4, .inl g_7)), (q_3, .inl (y2, n_5, .inl g_8)), (fr, .inl (y3, ln, .inl ff))] H := hP
  have hD : va_D A [(o0, .inr (3, [.ref h0, .ref t0, .ref w0, .ref s0, .ref k0, .ref p0, .ref f0, .ref f1, .int (nI x.fc), .int (nI x.lc), .int x.bl, .int x.hp])), (w0, .inr (5, [.ref h0, .ref t0, .ref v0, .ref v1])), (v0, .inl (x0, 802, .inl w.hd)), (v1, .inl (x1, w.nn, .inl w.nx)), (h0, .inr (2, [.ref q_1, .ref q_2, .ref q_3, .int (nI (a.n + 1))])), (q_1, .inl (y0, n_4, .inl g_6)), (q_2, .inl (y1, n_4, .inl g_7)), (q_3, .inl (y2, n_5, .inl g_8)), (fr, .inl (y3, ln, .inl ff))] := hD
  refine ct_know (fun hN3 hN4 => ?_)
  obtain ⟨kc_21, ha_kc_21, hb_kc_21, hc_kc_21⟩ : ∃ k, k ≤ (0 + 3) ∧ k ≤ (n_4 / 16 + n_5 / 128 - (a.la / 16 + a.lc / 128)) ∧ H.size ≤ s.heap.size + k := by
    have h2 : H.size ≤ s.heap.size + (n_4 / 16 + n_5 / 128 - (a.la / 16 + a.lc / 128)) := by exact nw f_19 hN1
    refine ⟨min (0 + 3) (n_4 / 16 + n_5 / 128 - (a.la / 16 + a.lc / 128)), Nat.min_le_left _ _, Nat.min_le_right _ _, ?_⟩
    rcases Nat.le_total (0 + 3) (n_4 / 16 + n_5 / 128 - (a.la / 16 + a.lc / 128)) with q | q
    · rw [Nat.min_eq_left q]; exact hN3
    · rw [Nat.min_eq_right q]; exact h2
  obtain ⟨ks_22, ha_ks_22, hb_ks_22, hc_ks_22⟩ : ∃ k, k ≤ (0 + (4 * a.la + 2 * ((a.S a.n) + len))) ∧ k ≤ (4 * n_4 + 2 * n_5 - (4 * a.la + 2 * a.lc)) ∧ hsum H ≤ hsum s.heap + k := by
    have h2 : hsum H ≤ hsum s.heap + (4 * n_4 + 2 * n_5 - (4 * a.la + 2 * a.lc)) := by exact nw f_20 hN2
    refine ⟨min (0 + (4 * a.la + 2 * ((a.S a.n) + len))) (4 * n_4 + 2 * n_5 - (4 * a.la + 2 * a.lc)), Nat.min_le_left _ _, Nat.min_le_right _ _, ?_⟩
    rcases Nat.le_total (0 + (4 * a.la + 2 * ((a.S a.n) + len))) (4 * n_4 + 2 * n_5 - (4 * a.la + 2 * a.lc)) with q | q
    · rw [Nat.min_eq_left q]; exact hN4
    · rw [Nat.min_eq_right q]; exact h2
  refine ct_narrow (k := kc_21) (n := ks_22) hc_kc_21 hc_ks_22 ?_
  have hX1 : Rext a (Radd a len A9 n_4 n_5 g_6 g_7 g_8) len A9 kd := Radd.ext f_15 f_16
  have hR1 : Rok (Radd a len A9 n_4 n_5 g_6 g_7 g_8) := Radd.ok hR hlen.1 hcd9 (by omega) (by omega) f_11 (by omega) f_13 f_14 f_17 f_18
  refine lv_aload_n hx hb d_Sr_keep_15 rfl (lv_at hl 0 rfl) ?_
  refine va_get (D := (dC, dI)) (ci := 3) (v := .ref w0) (C := R_Sr) (T := F_Sr) (N := 12) hx hb hw in_Sr hown hK hP 0 rfl rfl 2 (by decide) (hw (Cond.fieldLink "ClauseSearch$Search" 24 "ClauseSearch$Search" "watch" "LClauseSearch$Watch;") k_219) (fun _ h9 => h9) rfl d_Sr_keep_16 ?_
  refine lv_aload_n hx hb d_Sr_keep_19 rfl (lv_at hl 0 rfl) ?_
  refine va_get (D := (dC, dI)) (ci := 3) (v := .ref h0) (C := R_Sr) (T := F_Sr) (N := 12) hx hb hw in_Sr hown hK hP 0 rfl rfl 0 (by decide) (hw (Cond.fieldLink "ClauseSearch$Search" 9 "ClauseSearch$Search" "rows" "LClauseSearch$Rows;") k_217) (fun _ h9 => h9) rfl d_Sr_keep_20 ?_
  refine va_getN (D := (dC, dI)) (ci := 2) (v := .int (nI (a.n + 1))) (C := R_Rw) (T := F_Rw) (N := 4) hx hb hw in_Rw hown hK hP 4 rfl rfl 3 (by decide) (hw (Cond.fieldLinkNest "ClauseSearch$Search" 69 "ClauseSearch$Rows" "size" "I" "ClauseSearch") k_77) (fun _ h9 => h9) rfl d_Sr_keep_23 ?_
  refine lv_iconst (v := nI 1) hx hb d_Sr_keep_26 (by decide) ?_
  refine lv_isub hx hb d_Sr_keep_27 ?_
  refine lv_topi (fun y_23 ey_23 => ?_)
  obtain rfl : y_23 = nI a.n := ey_23.trans ((show nI (a.n + 1) - nI 1 = nI a.n from by rw [pk_sub (by omega), show a.n + 1 - 1 = a.n by omega]))
  refine ct_know (fun hN1 hN2 => ?_)
  have hPc := hP.sub (ws' := [(h0, .inr (2, [.ref q_1, .ref q_2, .ref q_3, .int (nI (Radd a len A9 n_4 n_5 g_6 g_7 g_8).n)])), (q_1, .inl (y0, (Radd a len A9 n_4 n_5 g_6 g_7 g_8).la, .inl (Radd a len A9 n_4 n_5 g_6 g_7 g_8).sf)), (q_2, .inl (y1, (Radd a len A9 n_4 n_5 g_6 g_7 g_8).la, .inl (Radd a len A9 n_4 n_5 g_6 g_7 g_8).kf)), (q_3, .inl (y2, (Radd a len A9 n_4 n_5 g_6 g_7 g_8).lc, .inl (Radd a len A9 n_4 n_5 g_6 g_7 g_8).cf)), (w0, .inr (5, [.ref h0, .ref t0, .ref v0, .ref v1])), (v0, .inl (x0, 802, .inl w.hd)), (v1, .inl (x1, w.nn, .inl w.nx))]) [4, 5, 6, 7, 1, 2, 3] rfl
  have hDc := hD.sub (ws' := [(h0, .inr (2, [.ref q_1, .ref q_2, .ref q_3, .int (nI (Radd a len A9 n_4 n_5 g_6 g_7 g_8).n)])), (q_1, .inl (y0, (Radd a len A9 n_4 n_5 g_6 g_7 g_8).la, .inl (Radd a len A9 n_4 n_5 g_6 g_7 g_8).sf)), (q_2, .inl (y1, (Radd a len A9 n_4 n_5 g_6 g_7 g_8).la, .inl (Radd a len A9 n_4 n_5 g_6 g_7 g_8).kf)), (q_3, .inl (y2, (Radd a len A9 n_4 n_5 g_6 g_7 g_8).lc, .inl (Radd a len A9 n_4 n_5 g_6 g_7 g_8).cf)), (w0, .inr (5, [.ref h0, .ref t0, .ref v0, .ref v1])), (v0, .inl (x0, 802, .inl w.hd)), (v1, .inl (x1, w.nn, .inl w.nx))]) [4, 5, 6, 7, 1, 2, 3] (by decide) rfl
  have hKc := hK.sub (tys' := [(y0, .int), (y1, .int), (y2, .int), (x0, .int), (x1, .int)]) [0, 1, 2, 3, 4] rfl
  have hFc := va_free (wc := [(h0, .inr (2, [.ref q_1, .ref q_2, .ref q_3, .int (nI (Radd a len A9 n_4 n_5 g_6 g_7 g_8).n)])), (q_1, .inl (y0, (Radd a len A9 n_4 n_5 g_6 g_7 g_8).la, .inl (Radd a len A9 n_4 n_5 g_6 g_7 g_8).sf)), (q_2, .inl (y1, (Radd a len A9 n_4 n_5 g_6 g_7 g_8).la, .inl (Radd a len A9 n_4 n_5 g_6 g_7 g_8).kf)), (q_3, .inl (y2, (Radd a len A9 n_4 n_5 g_6 g_7 g_8).lc, .inl (Radd a len A9 n_4 n_5 g_6 g_7 g_8).cf)), (w0, .inr (5, [.ref h0, .ref t0, .ref v0, .ref v1])), (v0, .inl (x0, 802, .inl w.hd)), (v1, .inl (x1, w.nn, .inl w.nx))]) hD hS hA [4, 5, 6, 7, 1, 2, 3] rfl
  refine va_callv (va_runV (As := [.int (nI a.n)]) (rest := []) ⟨hx, hb, hml, hown, hw⟩ (c_Wt_add l dC dI h0 q_1 q_2 q_3 w0 t0 v0 v1 x0 x1 y0 y1 y2 H.size (hsum H) (Radd a len A9 n_4 n_5 g_6 g_7 g_8) w a.n hR1 (Nat.lt_succ_self _) (hX1.wok hR hWk) (by omega) h2n) (cb_V (C := R_Wt) 1 hw k_389 k_33 k_411 k_387 k_388 rfl rfl (by decide +kernel) ⟨Nat.le_of_ble_eq_true rfl, Nat.le_of_ble_eq_true rfl⟩) ⟨fun a U g mk q => by obtain ⟨q0, q1, q2, qP, qK, qD⟩ := q; exact ⟨q0, q1, q2, qP, va_K.moved (u := U) (U := U.calling g mk a) (Vm.Alike.refl U.vm) qK, qD⟩, va_recv hKc hPc (ci := 5) (q0 := 4) rfl rfl, fun U hU hW => ⟨rfl, by rw [hU], by rw [hU], by rw [hU]; exact hPc, va_K.moved hW.alike hKc, hDc.weaken (fun _ _ _ _ => trivial)⟩⟩ rfl rfl hl.1 rfl (lv_room (Nat.le_of_ble_eq_true rfl)) d_Sr_keep_28 ⟨by show kc_21 + 1 ≤ 4; omega, by show ks_22 + (2 * w.nn) ≤ 4 * a.la + 2 * (a.S a.n + len) + 2 * w.nn; omega⟩) hS (fun q _ h => hFc q h) hFc (fun u t H1 locs ht hvm hw9 hB hz1 hk1 hS => ?_)
  obtain ⟨n_24, b_25, f_26, f_27, f_28, f_29, f_30, hP1, hK1, hD1⟩ := hB
  rw [ht] at hP1
  have hK1 := va_K.moved hvm.symm hK1
  obtain ⟨hP, hD⟩ := va_join (wr := [(o0, .inr (3, [.ref h0, .ref t0, .ref w0, .ref s0, .ref k0, .ref p0, .ref f0, .ref f1, .int (nI x.fc), .int (nI x.lc), .int x.bl, .int x.hp])), (fr, .inl (y3, ln, .inl ff))]) (w1 := [(h0, .inr (2, [.ref q_1, .ref q_2, .ref q_3, .int (nI (Radd a len A9 n_4 n_5 g_6 g_7 g_8).n)])), (q_1, .inl (y0, (Radd a len A9 n_4 n_5 g_6 g_7 g_8).la, .inl (Radd a len A9 n_4 n_5 g_6 g_7 g_8).sf)), (q_2, .inl (y1, (Radd a len A9 n_4 n_5 g_6 g_7 g_8).la, .inl (Radd a len A9 n_4 n_5 g_6 g_7 g_8).kf)), (q_3, .inl (y2, (Radd a len A9 n_4 n_5 g_6 g_7 g_8).lc, .inl (Radd a len A9 n_4 n_5 g_6 g_7 g_8).cf)), (w0, .inr (5, [.ref h0, .ref t0, .ref v0, .ref n_24])), (v0, .inl (x0, 802, .inl b_25.hd)), (n_24, .inl (x1, b_25.nn, .inl b_25.nx))]) hP hD [4, 5, 6, 7, 1, 2, 3] [0, 8] rfl rfl (by decide) (by decide) hk1 hFc hP1 hD1
  rw [ht] at f_29 f_30
  generalize H1 = H at f_29 f_30 hP hS ⊢
  have hP : va_P (dC, dI) vwCl [(o0, .inr (3, [.ref h0, .ref t0, .ref w0, .ref s0, .ref k0, .ref p0, .ref f0, .ref f1, .int (nI x.fc), .int (nI x.lc), .int x.bl, .int x.hp])), (fr, .inl (y3, ln, .inl ff)), (h0, .inr (2, [.ref q_1, .ref q_2, .ref q_3, .int (nI (Radd a len A9 n_4 n_5 g_6 g_7 g_8).n)])), (q_1, .inl (y0, (Radd a len A9 n_4 n_5 g_6 g_7 g_8).la, .inl (Radd a len A9 n_4 n_5 g_6 g_7 g_8).sf)), (q_2, .inl (y1, (Radd a len A9 n_4 n_5 g_6 g_7 g_8).la, .inl (Radd a len A9 n_4 n_5 g_6 g_7 g_8).kf)), (q_3, .inl (y2, (Radd a len A9 n_4 n_5 g_6 g_7 g_8).lc, .inl (Radd a len A9 n_4 n_5 g_6 g_7 g_8).cf)), (w0, .inr (5, [.ref h0, .ref t0, .ref v0, .ref n_24])), (v0, .inl (x0, 802, .inl b_25.hd)), (n_24, .inl (x1, b_25.nn, .inl b_25.nx))] H := hP
  have hD : va_D A [(o0, .inr (3, [.ref h0, .ref t0, .ref w0, .ref s0, .ref k0, .ref p0, .ref f0, .ref f1, .int (nI x.fc), .int (nI x.lc), .int x.bl, .int x.hp])), (fr, .inl (y3, ln, .inl ff)), (h0, .inr (2, [.ref q_1, .ref q_2, .ref q_3, .int (nI (Radd a len A9 n_4 n_5 g_6 g_7 g_8).n)])), (q_1, .inl (y0, (Radd a len A9 n_4 n_5 g_6 g_7 g_8).la, .inl (Radd a len A9 n_4 n_5 g_6 g_7 g_8).sf)), (q_2, .inl (y1, (Radd a len A9 n_4 n_5 g_6 g_7 g_8).la, .inl (Radd a len A9 n_4 n_5 g_6 g_7 g_8).kf)), (q_3, .inl (y2, (Radd a len A9 n_4 n_5 g_6 g_7 g_8).lc, .inl (Radd a len A9 n_4 n_5 g_6 g_7 g_8).cf)), (w0, .inr (5, [.ref h0, .ref t0, .ref v0, .ref n_24])), (v0, .inl (x0, 802, .inl b_25.hd)), (n_24, .inl (x1, b_25.nn, .inl b_25.nx))] := hD
  refine ct_know (fun hN3 hN4 => ?_)
  obtain ⟨kc_31, ha_kc_31, hb_kc_31, hc_kc_31⟩ : ∃ k, k ≤ (kc_21 + 1) ∧ k ≤ (FC (Radd a len A9 n_4 n_5 g_6 g_7 g_8) b_25 - FC a w) ∧ H.size ≤ s.heap.size + k := by
    have h2 : H.size ≤ s.heap.size + (FC (Radd a len A9 n_4 n_5 g_6 g_7 g_8) b_25 - FC a w) := by have q1 := f_29; have q2 := hN1; have q3 := hb_kc_21; have q4 := f_9.1; have q5 := f_10; show H.size ≤ s.heap.size + (n_4 / 16 + n_5 / 128 + b_25.nn / 64 - (a.la / 16 + a.lc / 128 + w.nn / 64)); clear hN2; omega
    refine ⟨min (kc_21 + 1) (FC (Radd a len A9 n_4 n_5 g_6 g_7 g_8) b_25 - FC a w), Nat.min_le_left _ _, Nat.min_le_right _ _, ?_⟩
    rcases Nat.le_total (kc_21 + 1) (FC (Radd a len A9 n_4 n_5 g_6 g_7 g_8) b_25 - FC a w) with q | q
    · rw [Nat.min_eq_left q]; exact hN3
    · rw [Nat.min_eq_right q]; exact h2
  obtain ⟨ks_32, ha_ks_32, hb_ks_32, hc_ks_32⟩ : ∃ k, k ≤ (ks_22 + (2 * w.nn)) ∧ k ≤ (FS (Radd a len A9 n_4 n_5 g_6 g_7 g_8) b_25 - FS a w) ∧ hsum H ≤ hsum s.heap + k := by
    have h2 : hsum H ≤ hsum s.heap + (FS (Radd a len A9 n_4 n_5 g_6 g_7 g_8) b_25 - FS a w) := by have q1 := f_30; have q2 := hN2; have q3 := hb_ks_22; have q4 := f_9.1; have q5 := f_10; show hsum H ≤ hsum s.heap + (4 * n_4 + 2 * n_5 + 2 * b_25.nn - (4 * a.la + 2 * a.lc + 2 * w.nn)); omega
    refine ⟨min (ks_22 + (2 * w.nn)) (FS (Radd a len A9 n_4 n_5 g_6 g_7 g_8) b_25 - FS a w), Nat.min_le_left _ _, Nat.min_le_right _ _, ?_⟩
    rcases Nat.le_total (ks_22 + (2 * w.nn)) (FS (Radd a len A9 n_4 n_5 g_6 g_7 g_8) b_25 - FS a w) with q | q
    · rw [Nat.min_eq_left q]; exact hN4
    · rw [Nat.min_eq_right q]; exact h2
  refine ct_narrow (k := kc_31) (n := ks_32) hc_kc_31 hc_ks_32 ?_
  have hm9 : w.nn ≤ b_25.nn := nn_le f_27
  have hP : va_P (dC, dI) vwCl [(o0, .inr (3, [.ref h0, .ref t0, .ref w0, .ref s0, .ref k0, .ref p0, .ref f0, .ref f1, .int (nI x.fc), .int (nI x.lc), .int x.bl, .int x.hp])), (fr, .inl (y3, ln, .inl ff)), (h0, .inr (2, [.ref q_1, .ref q_2, .ref q_3, .int (nI (a.n + 1))])), (q_1, .inl (y0, (Radd a len A9 n_4 n_5 g_6 g_7 g_8).la, .inl (Radd a len A9 n_4 n_5 g_6 g_7 g_8).sf)), (q_2, .inl (y1, (Radd a len A9 n_4 n_5 g_6 g_7 g_8).la, .inl (Radd a len A9 n_4 n_5 g_6 g_7 g_8).kf)), (q_3, .inl (y2, (Radd a len A9 n_4 n_5 g_6 g_7 g_8).lc, .inl (Radd a len A9 n_4 n_5 g_6 g_7 g_8).cf)), (w0, .inr (5, [.ref h0, .ref t0, .ref v0, .ref n_24])), (v0, .inl (x0, 802, .inl b_25.hd)), (n_24, .inl (x1, b_25.nn, .inl b_25.nx))] H := hP
  have hD : va_D A [(o0, .inr (3, [.ref h0, .ref t0, .ref w0, .ref s0, .ref k0, .ref p0, .ref f0, .ref f1, .int (nI x.fc), .int (nI x.lc), .int x.bl, .int x.hp])), (fr, .inl (y3, ln, .inl ff)), (h0, .inr (2, [.ref q_1, .ref q_2, .ref q_3, .int (nI (a.n + 1))])), (q_1, .inl (y0, (Radd a len A9 n_4 n_5 g_6 g_7 g_8).la, .inl (Radd a len A9 n_4 n_5 g_6 g_7 g_8).sf)), (q_2, .inl (y1, (Radd a len A9 n_4 n_5 g_6 g_7 g_8).la, .inl (Radd a len A9 n_4 n_5 g_6 g_7 g_8).kf)), (q_3, .inl (y2, (Radd a len A9 n_4 n_5 g_6 g_7 g_8).lc, .inl (Radd a len A9 n_4 n_5 g_6 g_7 g_8).cf)), (w0, .inr (5, [.ref h0, .ref t0, .ref v0, .ref n_24])), (v0, .inl (x0, 802, .inl b_25.hd)), (n_24, .inl (x1, b_25.nn, .inl b_25.nx))] := hD
  refine lv_aload_n hx hb d_Sr_keep_31 rfl (lv_at hl 0 rfl) ?_
  refine va_get (D := (dC, dI)) (ci := 3) (v := .ref h0) (C := R_Sr) (T := F_Sr) (N := 12) hx hb hw in_Sr hown hK hP 0 rfl rfl 0 (by decide) (hw (Cond.fieldLink "ClauseSearch$Search" 9 "ClauseSearch$Search" "rows" "LClauseSearch$Rows;") k_217) (fun _ h9 => h9) rfl d_Sr_keep_32 ?_
  refine va_getN (D := (dC, dI)) (ci := 2) (v := .int (nI (a.n + 1))) (C := R_Rw) (T := F_Rw) (N := 4) hx hb hw in_Rw hown hK hP 2 rfl rfl 3 (by decide) (hw (Cond.fieldLinkNest "ClauseSearch$Search" 69 "ClauseSearch$Rows" "size" "I" "ClauseSearch") k_77) (fun _ h9 => h9) rfl d_Sr_keep_35 ?_
  refine lv_iconst (v := nI 1) hx hb d_Sr_keep_38 (by decide) ?_
  refine lv_isub hx hb d_Sr_keep_39 ?_
  refine lv_topi (fun y_33 ey_33 => ?_)
  obtain rfl : y_33 = nI a.n := ey_33.trans ((show nI (a.n + 1) - nI 1 = nI a.n from by rw [pk_sub (by omega), show a.n + 1 - 1 = a.n by omega]))
  refine ct_know (fun hN1 hN2 => ?_)
  have hmo : FC a w ≤ FC (Radd a len A9 n_4 n_5 g_6 g_7 g_8) b_25 ∧ FS a w ≤ FS (Radd a len A9 n_4 n_5 g_6 g_7 g_8) b_25 := FC_mono f_9.1 f_10 hm9
  have hP := hP.sub (ws' := [(o0, .inr (3, [.ref h0, .ref t0, .ref w0, .ref s0, .ref k0, .ref p0, .ref f0, .ref f1, .int (nI x.fc), .int (nI x.lc), .int x.bl, .int x.hp])), (h0, .inr (2, [.ref q_1, .ref q_2, .ref q_3, .int (nI (Radd a len A9 n_4 n_5 g_6 g_7 g_8).n)])), (q_1, .inl (y0, (Radd a len A9 n_4 n_5 g_6 g_7 g_8).la, .inl (Radd a len A9 n_4 n_5 g_6 g_7 g_8).sf)), (q_2, .inl (y1, (Radd a len A9 n_4 n_5 g_6 g_7 g_8).la, .inl (Radd a len A9 n_4 n_5 g_6 g_7 g_8).kf)), (q_3, .inl (y2, (Radd a len A9 n_4 n_5 g_6 g_7 g_8).lc, .inl (Radd a len A9 n_4 n_5 g_6 g_7 g_8).cf)), (w0, .inr (5, [.ref h0, .ref t0, .ref v0, .ref n_24])), (v0, .inl (x0, 802, .inl b_25.hd)), (n_24, .inl (x1, b_25.nn, .inl b_25.nx)), (fr, .inl (y3, ln, .inl ff))]) [0, 2, 3, 4, 5, 6, 7, 8, 1] rfl
  have hD := hD.sub (ws' := [(o0, .inr (3, [.ref h0, .ref t0, .ref w0, .ref s0, .ref k0, .ref p0, .ref f0, .ref f1, .int (nI x.fc), .int (nI x.lc), .int x.bl, .int x.hp])), (h0, .inr (2, [.ref q_1, .ref q_2, .ref q_3, .int (nI (Radd a len A9 n_4 n_5 g_6 g_7 g_8).n)])), (q_1, .inl (y0, (Radd a len A9 n_4 n_5 g_6 g_7 g_8).la, .inl (Radd a len A9 n_4 n_5 g_6 g_7 g_8).sf)), (q_2, .inl (y1, (Radd a len A9 n_4 n_5 g_6 g_7 g_8).la, .inl (Radd a len A9 n_4 n_5 g_6 g_7 g_8).kf)), (q_3, .inl (y2, (Radd a len A9 n_4 n_5 g_6 g_7 g_8).lc, .inl (Radd a len A9 n_4 n_5 g_6 g_7 g_8).cf)), (w0, .inr (5, [.ref h0, .ref t0, .ref v0, .ref n_24])), (v0, .inl (x0, 802, .inl b_25.hd)), (n_24, .inl (x1, b_25.nn, .inl b_25.nx)), (fr, .inl (y3, ln, .inl ff))]) [0, 2, 3, 4, 5, 6, 7, 8, 1] (by decide) rfl
  have hK := hK.sub (tys' := [(y0, .int), (y1, .int), (y2, .int), (x0, .int), (x1, .int), (y3, .int)]) [0, 1, 2, 3, 4, 5] rfl
  refine W.widen (k := 4) (n := 4 * a.la + 2 * (a.S a.n + len) + 2 * w.nn) (kp_c ha_kc_31 ha_kc_21) (kp_s ha_ks_32 ha_ks_22) ?_
  exact W.iret (v := nI a.n) hx hb hr (fun t ht hW => ⟨⟨nI a.n, nI a.n, rfl, rfl, q_1, q_2, q_3, n_24, (Radd a len A9 n_4 n_5 g_6 g_7 g_8), b_25, rfl, hR1, hX1, f_26, f_28, f_9.2.2, f_12, f_27, (by rw [ht, hH]; exact gw hN1 hb_kc_31 hmo.1), (by rw [ht, hH]; exact gw hN2 hb_ks_32 hmo.2), by rw [ht]; exact hP, va_K.moved hW.alike hK, hD⟩, hS.F ht⟩) hS.2.2 d_Sr_keep_40

set_option maxHeartbeats 4000000 in
set_option maxRecDepth 100000 in
/-- keep(codes, length, kind), one code -/
theorem c_Sr_keep_1 (l : Launch) (dC : Nat → ClassId) (dI : Nat → Nat → Nat) (o0 : Nat) (p0 : Nat) (f0 : Nat) (f1 : Nat) (h0 : Nat) (t0 : Nat) (w0 : Nat) (s0 : Nat) (k0 : Nat) (fr : Nat) (x6 : ClassId) (x7 : ClassId) (y3 : ClassId) (sz : Nat) (x : Sx) (ln : Nat) (ff : Nat → Int32) (len : Nat) (kd : Int32) (c0 : Nat) (hA9 : Aok x) (hlen : len ≤ 1 ∧ 1 ≤ ln ∧ ln ≤ 401) (hc0 : ff 0 = nI c0) (hc1 : 2 ≤ c0 ∧ c0 < 802) : Met l y_Sr_keep (wq y_Sr_keep prog_5_method_4_code 4 (some .int)) ({ frames := 0, cells := 0, slots := 0, locals := 0 }) (va_Pc [.ref o0, .ref fr, .int (nI len), .int kd] (fun U => U.heap.size = sz ∧ va_P (dC, dI) vwCl [(o0, .inr (3, [.ref h0, .ref t0, .ref w0, .ref s0, .ref k0, .ref p0, .ref f0, .ref f1, .int (nI x.fc), .int (nI x.lc), .int x.bl, .int x.hp])), (f0, .inl (x6, 802, .inl x.fv)), (f1, .inl (x7, 802, .inl x.fi)), (fr, .inl (y3, ln, .inl ff))] U.heap ∧ va_K (dC, dI) vwCl [(x6, .int), (x7, .boolean), (y3, .int)] U ∧ va_D (fun _ => True) [(o0, .inr (3, [.ref h0, .ref t0, .ref w0, .ref s0, .ref k0, .ref p0, .ref f0, .ref f1, .int (nI x.fc), .int (nI x.lc), .int x.bl, .int x.hp])), (f0, .inl (x6, 802, .inl x.fv)), (f1, .inl (x7, 802, .inl x.fi)), (fr, .inl (y3, ln, .inl ff))])) (va_Qi (fun (r : Int32) (r9 : Int32) => r = r9) (fun (r9 : Int32) t => ∃ (xx : Sx), r9 = -1 ∧ (Aok xx) ∧ (xx.lc = x.lc ∧ xx.bl = x.bl ∧ xx.hp = x.hp ∧ xx.pv = x.pv) ∧ va_P (dC, dI) vwCl [(o0, .inr (3, [.ref h0, .ref t0, .ref w0, .ref s0, .ref k0, .ref p0, .ref f0, .ref f1, .int (nI xx.fc), .int (nI xx.lc), .int xx.bl, .int xx.hp])), (f0, .inl (x6, 802, .inl xx.fv)), (f1, .inl (x7, 802, .inl xx.fi)), (fr, .inl (y3, ln, .inl ff))] t.heap ∧ va_K (dC, dI) vwCl [(x6, .int), (x7, .boolean), (y3, .int)] t ∧ va_D (va_A [(o0, .inr (3, [.ref h0, .ref t0, .ref w0, .ref s0, .ref k0, .ref p0, .ref f0, .ref f1, .int (nI x.fc), .int (nI x.lc), .int x.bl, .int x.hp])), (f0, .inl (x6, 802, .inl x.fv)), (f1, .inl (x7, 802, .inl x.fi)), (fr, .inl (y3, ln, .inl ff))] sz) [(o0, .inr (3, [.ref h0, .ref t0, .ref w0, .ref s0, .ref k0, .ref p0, .ref f0, .ref f1, .int (nI xx.fc), .int (nI xx.lc), .int xx.bl, .int xx.hp])), (f0, .inl (x6, 802, .inl xx.fv)), (f1, .inl (x7, 802, .inl xx.fi)), (fr, .inl (y3, ln, .inl ff))]) (va_A [(o0, .inr (3, [.ref h0, .ref t0, .ref w0, .ref s0, .ref k0, .ref p0, .ref f0, .ref f1, .int (nI x.fc), .int (nI x.lc), .int x.bl, .int x.hp])), (f0, .inl (x6, 802, .inl x.fv)), (f1, .inl (x7, 802, .inl x.fi)), (fr, .inl (y3, ln, .inl ff))] sz)) (0) (0) (va_A [(o0, .inr (3, [.ref h0, .ref t0, .ref w0, .ref s0, .ref k0, .ref p0, .ref f0, .ref f1, .int (nI x.fc), .int (nI x.lc), .int x.bl, .int x.hp])), (f0, .inl (x6, 802, .inl x.fv)), (f1, .inl (x7, 802, .inl x.fi)), (fr, .inl (y3, ln, .inl ff))] sz) := by
  refine Met.ofW (cc := prog_5_method_4_code) (maxL := 4) (ret := (some .int)) (by decide) rfl ?_
  intro p e s m args below meth c s₁ B hml hv
  obtain ⟨rfl, hsz, hP, hK, hD0⟩ := hv
  have hx := B.exec
  have hb := B.bytes
  have hr := B.returns
  have hw : ∀ w ∈ bg_W, w.before #[Value.ref o0, Value.ref fr, Value.int (nI len), Value.int kd] s = true := fun w h => atoms_spec (ws := (wq y_Sr_keep prog_5_method_4_code 4 (some .int))) B.pre w (List.mem_cons_of_mem _ h)
  have hown : s.vm.findClass R_Sr = some m.cls := findClass_of_methodNamed B.named
  have hlocks := B.notSynchronized
  subst hsz
  have hD := hD0.self (sz := s.heap.size)
  generalize hAe : va_A [(o0, .inr (3, [.ref h0, .ref t0, .ref w0, .ref s0, .ref k0, .ref p0, .ref f0, .ref f1, .int (nI x.fc), .int (nI x.lc), .int x.bl, .int x.hp])), (f0, .inl (x6, 802, .inl x.fv)), (f1, .inl (x7, 802, .inl x.fi)), (fr, .inl (y3, ln, .inl ff))] s.heap.size = A at hD ⊢
  have hA : ∀ q : Nat, s.heap.size ≤ q → A q := fun q h => by rw [← hAe]; exact Or.inr h
  have hS : va_S A s.heap s.heap [] := va_S.rf
  have hP : va_P (dC, dI) vwCl [(o0, .inr (3, [.ref h0, .ref t0, .ref w0, .ref s0, .ref k0, .ref p0, .ref f0, .ref f1, .int (nI x.fc), .int (nI x.lc), .int x.bl, .int x.hp])), (f0, .inl (x6, 802, .inl x.fv)), (f1, .inl (x7, 802, .inl x.fi)), (fr, .inl (y3, ln, .inl ff))] s.heap := hP
  have hl := lv_entry ([.ref o0, .ref fr, .int (nI len), .int kd]) (n := 4) (Nat.le_of_ble_eq_true rfl)
  rw [lg_entry_eq]
  generalize (lg_sl ([.ref o0, .ref fr, .int (nI len), .int kd]) ++ List.replicate (4 - (lg_sl ([.ref o0, .ref fr, .int (nI len), .int kd])).length) Slot.unset).toArray = ls at hl ⊢
  have hl : lv_has ls 4 [(0, .ref o0), (1, .ref fr), (2, .int (nI len)), (3, .int kd)] := hl
  obtain ⟨H, hH⟩ : ∃ H : Heap, H = s.heap := ⟨_, rfl⟩
  rw [← hH] at hP
  have hS : va_S A s.heap H [] := by rw [hH]; exact va_S.rf
  show W p l e _ s m _ below meth c s.heap [] 0 0 _ _
  rw [← hH]
  have hfc := hA9.fc
  refine lv_iload_n hx hb d_Sr_keep_0 rfl (lv_at hl 2 rfl) ?_
  refine lv_iconst (v := nI 1) hx hb d_Sr_keep_1 (by decide) ?_
  refine lv_icmp_le (tgt := 41) hx hb d_Sr_keep_2 (by decide) (fun c_2 => ?_) (fun c_2 => by exfalso; have c_2 : ¬ (len ≤ 1) := fun qq9 => c_2 ((nI_leI (a := len) (b := 1) (by omega) (by omega)).mpr qq9); omega)
  have c_2 : len ≤ 1 := (nI_leI (a := len) (b := 1) (by omega) (by omega)).mp c_2
  refine lv_aload_n hx hb d_Sr_keep_41 rfl (lv_at hl 0 rfl) ?_
  refine va_get (D := (dC, dI)) (ci := 3) (v := .ref f1) (C := R_Sr) (T := F_Sr) (N := 12) hx hb hw in_Sr hown hK hP 0 rfl rfl 7 (by decide) (hw (Cond.fieldLink "ClauseSearch$Search" 51 "ClauseSearch$Search" "isFact" "[Z") k_224) (fun _ h9 => h9) rfl d_Sr_keep_42 ?_
  refine lv_aload_n hx hb d_Sr_keep_45 rfl (lv_at hl 1 rfl) ?_
  refine lv_iconst (v := nI 0) hx hb d_Sr_keep_46 (by decide) ?_
  refine va_iald hx hb hK hP 3 2 rfl rfl (vp_in_nI (by omega) (by omega)) d_Sr_keep_47 ?_
  refine lv_topi (fun y_1 ey_1 => ?_)
  rw [nI_clamp (by omega)] at ey_1
  rw [hc0] at ey_1
  subst ey_1
  refine va_zald hx hb hK hP 2 1 rfl rfl (vp_in_nI (by omega) (by omega)) d_Sr_keep_48 ?_
  refine lv_topi (fun y_2 ey_2 => ?_)
  rw [nI_clamp (by omega)] at ey_2
  subst ey_2
  refine lv_if_ne (tgt := 83) hx hb d_Sr_keep_49 (by decide) (fun c_49 => ?_) (fun c_49 => ?_)
  · refine lv_iconst (v := (-1)) hx hb d_Sr_keep_83 (by decide) ?_
    have hK := hK.sub (tys' := [(x6, .int), (x7, .boolean), (y3, .int)]) [0, 1, 2] rfl
    refine W.widen (k := 0) (n := 0) (by decide) (by decide) ?_
    exact W.iret (v := (-1)) hx hb hr (fun t ht hW => ⟨⟨(-1), (-1), rfl, rfl, x, rfl, hA9, ⟨rfl, rfl, rfl, rfl⟩, by rw [ht]; exact hP, va_K.moved hW.alike hK, hD⟩, hS.F ht⟩) hS.2.2 d_Sr_keep_84
  · refine lv_aload_n hx hb d_Sr_keep_52 rfl (lv_at hl 0 rfl) ?_
    refine va_get (D := (dC, dI)) (ci := 3) (v := .ref f1) (C := R_Sr) (T := F_Sr) (N := 12) hx hb hw in_Sr hown hK hP 0 rfl rfl 7 (by decide) (hw (Cond.fieldLink "ClauseSearch$Search" 51 "ClauseSearch$Search" "isFact" "[Z") k_224) (fun _ h9 => h9) rfl d_Sr_keep_53 ?_
    refine lv_aload_n hx hb d_Sr_keep_56 rfl (lv_at hl 1 rfl) ?_
    refine lv_iconst (v := nI 0) hx hb d_Sr_keep_57 (by decide) ?_
    refine va_iald hx hb hK hP 3 2 rfl rfl (vp_in_nI (by omega) (by omega)) d_Sr_keep_58 ?_
    refine lv_topi (fun y_3 ey_3 => ?_)
    rw [nI_clamp (by omega)] at ey_3
    rw [hc0] at ey_3
    subst ey_3
    refine lv_iconst (v := 1) hx hb d_Sr_keep_59 (by decide) ?_
    have en_60 : vp_nar .boolean 1 = 1 := rfl
    refine va_zast hx hb hK hP hD hS 2 1 rfl rfl (vp_in_nI (by omega) (by omega)) d_Sr_keep_60 (fun H locs hP hD hS => ?_)
    rw [nI_clamp (n := c0) (by omega), en_60] at hP hD
    have hP : va_P (dC, dI) vwCl [(o0, .inr (3, [.ref h0, .ref t0, .ref w0, .ref s0, .ref k0, .ref p0, .ref f0, .ref f1, .int (nI x.fc), .int (nI x.lc), .int x.bl, .int x.hp])), (f0, .inl (x6, 802, .inl x.fv)), (f1, .inl (x7, 802, .inl (upd x.fi c0 1))), (fr, .inl (y3, ln, .inl ff))] H := hP
    have hD : va_D A [(o0, .inr (3, [.ref h0, .ref t0, .ref w0, .ref s0, .ref k0, .ref p0, .ref f0, .ref f1, .int (nI x.fc), .int (nI x.lc), .int x.bl, .int x.hp])), (f0, .inl (x6, 802, .inl x.fv)), (f1, .inl (x7, 802, .inl (upd x.fi c0 1))), (fr, .inl (y3, ln, .inl ff))] := hD
    refine lv_aload_n hx hb d_Sr_keep_61 rfl (lv_at hl 0 rfl) ?_
    refine va_get (D := (dC, dI)) (ci := 3) (v := .ref f0) (C := R_Sr) (T := F_Sr) (N := 12) hx hb hw in_Sr hown hK hP 0 rfl rfl 6 (by decide) (hw (Cond.fieldLink "ClauseSearch$Search" 48 "ClauseSearch$Search" "facts" "[I") k_223) (fun _ h9 => h9) rfl d_Sr_keep_62 ?_
    refine lv_aload_n hx hb d_Sr_keep_65 rfl (lv_at hl 0 rfl) ?_
    refine va_get (D := (dC, dI)) (ci := 3) (v := .int (nI x.fc)) (C := R_Sr) (T := F_Sr) (N := 12) hx hb hw in_Sr hown hK hP 0 rfl rfl 8 (by decide) (hw (Cond.fieldLink "ClauseSearch$Search" 76 "ClauseSearch$Search" "factCount" "I") k_225) (fun _ h9 => h9) rfl d_Sr_keep_66 ?_
    refine lv_aload_n hx hb d_Sr_keep_69 rfl (lv_at hl 1 rfl) ?_
    refine lv_iconst (v := nI 0) hx hb d_Sr_keep_70 (by decide) ?_
    refine va_iald hx hb hK hP 3 2 rfl rfl (vp_in_nI (by omega) (by omega)) d_Sr_keep_71 ?_
    refine lv_topi (fun y_4 ey_4 => ?_)
    rw [nI_clamp (by omega)] at ey_4
    rw [hc0] at ey_4
    subst ey_4
    refine va_iast hx hb hK hP hD hS 1 0 rfl rfl (vp_in_nI (by omega) (by omega)) d_Sr_keep_72 (fun H locs hP hD hS => ?_)
    rw [nI_clamp (n := x.fc) (by omega)] at hP hD
    have hP : va_P (dC, dI) vwCl [(o0, .inr (3, [.ref h0, .ref t0, .ref w0, .ref s0, .ref k0, .ref p0, .ref f0, .ref f1, .int (nI x.fc), .int (nI x.lc), .int x.bl, .int x.hp])), (f0, .inl (x6, 802, .inl (upd x.fv x.fc (nI c0)))), (f1, .inl (x7, 802, .inl (upd x.fi c0 1))), (fr, .inl (y3, ln, .inl ff))] H := hP
    have hD : va_D A [(o0, .inr (3, [.ref h0, .ref t0, .ref w0, .ref s0, .ref k0, .ref p0, .ref f0, .ref f1, .int (nI x.fc), .int (nI x.lc), .int x.bl, .int x.hp])), (f0, .inl (x6, 802, .inl (upd x.fv x.fc (nI c0)))), (f1, .inl (x7, 802, .inl (upd x.fi c0 1))), (fr, .inl (y3, ln, .inl ff))] := hD
    refine lv_aload_n hx hb d_Sr_keep_73 rfl (lv_at hl 0 rfl) ?_
    refine lv_dup hx hb d_Sr_keep_74 rfl ?_
    refine va_get (D := (dC, dI)) (ci := 3) (v := .int (nI x.fc)) (C := R_Sr) (T := F_Sr) (N := 12) hx hb hw in_Sr hown hK hP 0 rfl rfl 8 (by decide) (hw (Cond.fieldLink "ClauseSearch$Search" 76 "ClauseSearch$Search" "factCount" "I") k_225) (fun _ h9 => h9) rfl d_Sr_keep_75 ?_
    refine lv_iconst (v := nI 1) hx hb d_Sr_keep_78 (by decide) ?_
    refine lv_iadd hx hb d_Sr_keep_79 ?_
    refine lv_topi (fun y_5 ey_5 => ?_)
    obtain rfl : y_5 = nI (x.fc + 1) := ey_5.trans (nI_add x.fc 1)
    refine va_put (D := (dC, dI)) (ci := 3) (v := .int (nI (x.fc + 1))) (ty := .int) (C := R_Sr) (T := F_Sr) (N := 12) hx hb hw in_Sr t_Sr t_Sr_ok n_Sr hown hK hP hD hS 0 rfl rfl 8 (by decide) (hw (Cond.fieldLink "ClauseSearch$Search" 76 "ClauseSearch$Search" "factCount" "I") k_225) (fun _ h9 => h9) rfl (by decide +kernel) rfl rfl (Nat.le_of_ble_eq_true rfl) d_Sr_keep_80 (fun H locs hP hD hS => ?_)
    have hP : va_P (dC, dI) vwCl [(o0, .inr (3, [.ref h0, .ref t0, .ref w0, .ref s0, .ref k0, .ref p0, .ref f0, .ref f1, .int (nI (x.fc + 1)), .int (nI x.lc), .int x.bl, .int x.hp])), (f0, .inl (x6, 802, .inl (upd x.fv x.fc (nI c0)))), (f1, .inl (x7, 802, .inl (upd x.fi c0 1))), (fr, .inl (y3, ln, .inl ff))] H := hP
    have hD : va_D A [(o0, .inr (3, [.ref h0, .ref t0, .ref w0, .ref s0, .ref k0, .ref p0, .ref f0, .ref f1, .int (nI (x.fc + 1)), .int (nI x.lc), .int x.bl, .int x.hp])), (f0, .inl (x6, 802, .inl (upd x.fv x.fc (nI c0)))), (f1, .inl (x7, 802, .inl (upd x.fi c0 1))), (fr, .inl (y3, ln, .inl ff))] := hD
    refine lv_iconst (v := (-1)) hx hb d_Sr_keep_83 (by decide) ?_
    have hP := hP.sub (ws' := [(o0, .inr (3, [.ref h0, .ref t0, .ref w0, .ref s0, .ref k0, .ref p0, .ref f0, .ref f1, .int (nI (Sad x c0).fc), .int (nI (Sad x c0).lc), .int (Sad x c0).bl, .int (Sad x c0).hp])), (f0, .inl (x6, 802, .inl (Sad x c0).fv)), (f1, .inl (x7, 802, .inl (Sad x c0).fi)), (fr, .inl (y3, ln, .inl ff))]) [0, 1, 2, 3] rfl
    have hD := hD.sub (ws' := [(o0, .inr (3, [.ref h0, .ref t0, .ref w0, .ref s0, .ref k0, .ref p0, .ref f0, .ref f1, .int (nI (Sad x c0).fc), .int (nI (Sad x c0).lc), .int (Sad x c0).bl, .int (Sad x c0).hp])), (f0, .inl (x6, 802, .inl (Sad x c0).fv)), (f1, .inl (x7, 802, .inl (Sad x c0).fi)), (fr, .inl (y3, ln, .inl ff))]) [0, 1, 2, 3] (by decide) rfl
    have hK := hK.sub (tys' := [(x6, .int), (x7, .boolean), (y3, .int)]) [0, 1, 2] rfl
    refine W.widen (k := 0) (n := 0) (by decide) (by decide) ?_
    exact W.iret (v := (-1)) hx hb hr (fun t ht hW => ⟨⟨(-1), (-1), rfl, rfl, (Sad x c0), rfl, (hA9.add hc1.1 hc1.2 c_49), ⟨rfl, rfl, rfl, rfl⟩, by rw [ht]; exact hP, va_K.moved hW.alike hK, hD⟩, hS.F ht⟩) hS.2.2 d_Sr_keep_84
