abbrev y_Ar_copyOf : MethodName := ⟨"java/util/Arrays", "copyOf", "([II)[I"⟩
theorem k_45 : (Cond.initialized "java/lang/System") ∈ bg_W := bg_in 45 (by decide +kernel) (by decide +kernel)
theorem k_87 : (Cond.arrayClass .int) ∈ bg_W := bg_in 87 (by decide +kernel) (by decide +kernel)
theorem k_380 : (Cond.static ⟨"java/lang/System", "arraycopy", "(Ljava/lang/Object;ILjava/lang/Object;II)V"⟩) ∈ bg_W := bg_in 380 (by decide +kernel) (by decide +kernel)
theorem k_381 : (Cond.native ⟨"java/lang/System", "arraycopy", "(Ljava/lang/Object;ILjava/lang/Object;II)V"⟩) ∈ bg_W := bg_in 381 (by decide +kernel) (by decide +kernel)
theorem k_400 : (Cond.methodLink "java/util/Arrays" 304 ⟨"java/lang/Math", "min", "(II)I"⟩) ∈ bg_W := bg_in 400 (by decide +kernel) (by decide +kernel)
theorem k_401 : (Cond.methodLink "java/util/Arrays" 150 ⟨"java/lang/System", "arraycopy", "(Ljava/lang/Object;ILjava/lang/Object;II)V"⟩) ∈ bg_W := bg_in 401 (by decide +kernel) (by decide +kernel)
theorem d_Ar_copyOf_0 : decode prog_20_method_123_code 0 = .ok (.iload_n 1, 1) := by decide +kernel
theorem d_Ar_copyOf_1 : decode prog_20_method_123_code 1 = .ok (.aload_n 0, 1) := by decide +kernel
theorem d_Ar_copyOf_2 : decode prog_20_method_123_code 2 = .ok (.arraylength, 1) := by decide +kernel
theorem d_Ar_copyOf_3 : decode prog_20_method_123_code 3 = .ok (.if_icmp .ne 11, 3) := by decide +kernel
theorem d_Ar_copyOf_14 : decode prog_20_method_123_code 14 = .ok (.iload_n 1, 1) := by decide +kernel
theorem d_Ar_copyOf_15 : decode prog_20_method_123_code 15 = .ok (.newarray .int, 2) := by decide +kernel
theorem d_Ar_copyOf_17 : decode prog_20_method_123_code 17 = .ok (.astore_n 2, 1) := by decide +kernel
theorem d_Ar_copyOf_18 : decode prog_20_method_123_code 18 = .ok (.aload_n 0, 1) := by decide +kernel
theorem d_Ar_copyOf_19 : decode prog_20_method_123_code 19 = .ok (.iconst 0, 1) := by decide +kernel
theorem d_Ar_copyOf_20 : decode prog_20_method_123_code 20 = .ok (.aload_n 2, 1) := by decide +kernel
theorem d_Ar_copyOf_21 : decode prog_20_method_123_code 21 = .ok (.iconst 0, 1) := by decide +kernel
theorem d_Ar_copyOf_22 : decode prog_20_method_123_code 22 = .ok (.aload_n 0, 1) := by decide +kernel
theorem d_Ar_copyOf_23 : decode prog_20_method_123_code 23 = .ok (.arraylength, 1) := by decide +kernel
theorem d_Ar_copyOf_24 : decode prog_20_method_123_code 24 = .ok (.iload_n 1, 1) := by decide +kernel
theorem d_Ar_copyOf_25 : decode prog_20_method_123_code 25 = .ok (.invokestatic 304, 3) := by decide +kernel
theorem d_Ar_copyOf_28 : decode prog_20_method_123_code 28 = .ok (.invokestatic 150, 3) := by decide +kernel
theorem d_Ar_copyOf_31 : decode prog_20_method_123_code 31 = .ok (.aload_n 2, 1) := by decide +kernel
theorem d_Ar_copyOf_32 : decode prog_20_method_123_code 32 = .ok (.areturn, 1) := by decide +kernel
set_option maxHeartbeats 4000000 in
set_option maxRecDepth 100000 in
/-- Arrays.copyOf(a, N), N above the length -/
theorem c_Ar_copyOf (l : Launch) (dC : Nat → ClassId) (dI : Nat → Nat → Nat) (h0 : Nat) (ca : ClassId) (sz n N : Nat) (f : Nat → Int32) (hn : n < N) (hN : N ≤ 16777216) : Met l y_Ar_copyOf (wq y_Ar_copyOf prog_20_method_123_code 3 (some (.array .int))) ({ frames := 1, cells := 1, slots := N, locals := 60 }) (va_Pc [.ref h0, .int (nI N)] (fun U => U.heap.size = sz ∧ va_P (dC, dI) vwCl [(h0, .inl (ca, n, .inl f))] U.heap ∧ va_K (dC, dI) vwCl [(ca, .int)] U ∧ va_D (fun _ => True) [(h0, .inl (ca, n, .inl f))])) (va_Qr (fun _ : Unit => True) (fun (_ : Unit) (a : Nat) t => ∃ (cz : ClassId) (g : Nat → Int32), (∀ j, j < n → g j = f j) ∧ va_P (dC, dI) vwCl [(h0, .inl (ca, n, .inl f)), (a, .inl (cz, N, .inl g))] t.heap ∧ va_K (dC, dI) vwCl [(ca, .int), (cz, .int)] t ∧ va_D (va_A [(h0, .inl (ca, n, .inl f))] sz) [(h0, .inl (ca, n, .inl f)), (a, .inl (cz, N, .inl g))]) (va_A [(h0, .inl (ca, n, .inl f))] sz)) 1 N (va_A [(h0, .inl (ca, n, .inl f))] sz) := by
  refine Met.ofW (cc := prog_20_method_123_code) (maxL := 3) (ret := (some (.array .int))) (by decide) rfl ?_
  intro p e s m args below meth c s₁ B hml hv
  obtain ⟨rfl, hsz, hP, hK, hD0⟩ := hv
  have hx := B.exec
  have hb := B.bytes
  have hr := B.returns
  have hw : ∀ w ∈ bg_W, w.before #[Value.ref h0, Value.int (nI N)] s = true := fun w h => atoms_spec (ws := (wq y_Ar_copyOf prog_20_method_123_code 3 (some (.array .int)))) B.pre w (List.mem_cons_of_mem _ h)
  have hown : s.vm.findClass R_Ar = some m.cls := findClass_of_methodNamed B.named
  have hlocks := B.notSynchronized
  subst hsz
  have hD := hD0.self (sz := s.heap.size)
  generalize hAe : va_A [(h0, .inl (ca, n, .inl f))] s.heap.size = A at hD ⊢
  have hA : ∀ q : Nat, s.heap.size ≤ q → A q := fun q h => by rw [← hAe]; exact Or.inr h
  have hS : va_S A s.heap s.heap [] := va_S.rf
  have hP : va_P (dC, dI) vwCl [(h0, .inl (ca, n, .inl f))] s.heap := hP
  have hl := lv_entry ([.ref h0, .int (nI N)]) (n := 3) (Nat.le_of_ble_eq_true rfl)
  rw [lg_entry_eq]
  generalize (lg_sl ([.ref h0, .int (nI N)]) ++ List.replicate (3 - (lg_sl ([.ref h0, .int (nI N)])).length) Slot.unset).toArray = ls at hl ⊢
  have hl : lv_has ls 3 [(0, .ref h0), (1, .int (nI N))] := hl
  obtain ⟨H, hH⟩ : ∃ H : Heap, H = s.heap := ⟨_, rfl⟩
  rw [← hH] at hP
  have hS : va_S A s.heap H [] := by rw [hH]; exact va_S.rf
  show W p l e _ s m _ below meth c s.heap [] 0 0 _ _
  rw [← hH]
  refine lv_iload_n hx hb d_Ar_copyOf_0 rfl (lv_at hl 1 rfl) ?_
  refine lv_aload_n hx hb d_Ar_copyOf_1 rfl (lv_at hl 0 rfl) ?_
  refine va_alen hx hb hK hP 0 0 rfl rfl (v := nI n) rfl d_Ar_copyOf_2 ?_
  refine lv_icmp_ne (tgt := 14) hx hb d_Ar_copyOf_3 (by decide) (fun c_3 => ?_) (fun c_3 => by exfalso; have c_3 : N = n := (nI_eq (a := N) (b := n) (by omega) (by omega)).mp c_3; omega)
  have c_3 : ¬ (N = n) := fun qq9 => c_3 ((nI_eq (a := N) (b := n) (by omega) (by omega)).mpr qq9)
  refine lv_iload_n hx hb d_Ar_copyOf_14 rfl (lv_at hl 1 rfl) ?_
  refine va_newa (atype := .int) hx hb (hw (Cond.arrayClass .int) k_87) (ty := .int) rfl hK hP hD hS hA (n := nI N) (N' := N) (a0 := (N, .inl (fun _ => 0))) (fun _ => rfl) (nI_pos (by omega)) (nI_clamp (by omega)) (by show N * 4 ≤ 536870912; omega) (by show 0 + 1 ≤ 1; decide) (by show 0 + N ≤ N; omega) d_Ar_copyOf_15 (fun q_1 z_2 H hK hP hD hS => ?_)
  have hP : va_P (dC, dI) vwCl [(h0, .inl (ca, n, .inl f)), (q_1, .inl (z_2, N, .inl (fun _ => 0)))] H := hP
  have hD : va_D A [(h0, .inl (ca, n, .inl f)), (q_1, .inl (z_2, N, .inl (fun _ => 0)))] := hD
  have hK : va_K (dC, dI) vwCl [(ca, .int), (z_2, .int)] s := hK
  refine lv_astore_n (lv' := [(2, .ref q_1), (0, .ref h0), (1, .int (nI N))]) hx hb d_Ar_copyOf_17 rfl hl (by decide) rfl (fun ls hl => ?_)
  refine lv_aload_n hx hb d_Ar_copyOf_18 rfl (lv_at hl 1 rfl) ?_
  refine lv_iconst (v := nI 0) hx hb d_Ar_copyOf_19 (by decide) ?_
  refine lv_aload_n hx hb d_Ar_copyOf_20 rfl (lv_at hl 0 rfl) ?_
  refine lv_iconst (v := nI 0) hx hb d_Ar_copyOf_21 (by decide) ?_
  refine lv_aload_n hx hb d_Ar_copyOf_22 rfl (lv_at hl 1 rfl) ?_
  refine va_alen hx hb hK hP 0 0 rfl rfl (v := nI n) rfl d_Ar_copyOf_23 ?_
  refine lv_iload_n hx hb d_Ar_copyOf_24 rfl (lv_at hl 2 rfl) ?_
  refine va_mmin hx hb (by rw [hml]; exact hl.1.symm) hown (hw (Cond.methodLink "java/util/Arrays" 304 ⟨"java/lang/Math", "min", "(II)I"⟩) k_400) (hw (Cond.static ⟨"java/lang/Math", "min", "(II)I"⟩) k_297) (hw (Cond.initialized "java/lang/Math") k_44) (hw (Cond.code ⟨"java/lang/Math", "min", "(II)I"⟩ prog_15_method_69_code 2 (some .int)) k_298) (Nat.le_of_ble_eq_true rfl) (Nat.le_of_ble_eq_true rfl) (Nat.le_of_ble_eq_true rfl) (by show 0 + N ≤ N; omega) d_Ar_copyOf_25 ?_
  refine lv_topi (fun y_3 ey_3 => ?_)
  obtain rfl : y_3 = nI n := ey_3.trans ((ni_min (by omega) (by omega)).trans (by rw [show min n N = n by omega]))
  refine va_copyi (ty := .int) hx hb (by rw [hml]; exact hl.1.symm) hown (hw (Cond.methodLink "java/util/Arrays" 150 ⟨"java/lang/System", "arraycopy", "(Ljava/lang/Object;ILjava/lang/Object;II)V"⟩) k_401) (hw (Cond.native ⟨"java/lang/System", "arraycopy", "(Ljava/lang/Object;ILjava/lang/Object;II)V"⟩) k_381) (hw (Cond.static ⟨"java/lang/System", "arraycopy", "(Ljava/lang/Object;ILjava/lang/Object;II)V"⟩) k_380) (hw (Cond.initialized "java/lang/System") k_45) hK hP hD hS 0 1 0 1 rfl rfl rfl rfl rfl (nI_pos (by omega)) (nI_pos (by omega)) (nI_pos (by omega)) (by rw [nI_clamp (by omega), nI_clamp (by omega)]; omega) (by rw [nI_clamp (by omega), nI_clamp (by omega)]; omega) (fun _ _ => rfl) (Nat.le_of_ble_eq_true rfl) (Nat.le_of_ble_eq_true rfl) d_Ar_copyOf_28 (fun H locs hP hD hS => ?_)
  simp only [nI_clamp (n := 0) (show 0 < 2 ^ 31 by omega), nI_clamp (n := 0) (show 0 < 2 ^ 31 by omega), nI_clamp (n := n) (show n < 2 ^ 31 by omega)] at hP hD
  have hP : va_P (dC, dI) vwCl [(h0, .inl (ca, n, .inl f)), (q_1, .inl (z_2, N, .inl (va_cpy f (fun _ => 0) 0 0 n)))] H := hP
  have hD : va_D A [(h0, .inl (ca, n, .inl f)), (q_1, .inl (z_2, N, .inl (va_cpy f (fun _ => 0) 0 0 n)))] := hD
  refine lv_aload_n hx hb d_Ar_copyOf_31 rfl (lv_at hl 0 rfl) ?_
  refine W.widen (k := 1) (n := N) (by decide) (by omega) ?_
  exact W.aret (v := .ref q_1) hx hb hr (Or.inr ⟨_, rfl⟩) (Or.inr ⟨_, rfl⟩) (fun t ht hW => ⟨⟨(), q_1, rfl, trivial, z_2, _, (fun j hj => by rw [pk_cpy_in (Nat.zero_le j) (by omega)]; simp), by rw [ht]; exact hP, va_K.moved hW.alike hK, hD⟩, hS.F ht⟩) hS.2.2 d_Ar_copyOf_32
