abbrev y_Cs_isTrue : MethodName := ⟨"ClauseSearch", "isTrue", "(I)Z"⟩
abbrev y_Cs_hasTrue : MethodName := ⟨"ClauseSearch", "hasTrue", "(I)Z"⟩
theorem k_17 : (Cond.selects "ClauseSearch" ⟨"ClauseSearch", "isTrue", "(I)Z"⟩ ⟨"ClauseSearch", "isTrue", "(I)Z"⟩) ∈ bg_W := bg_in 17 (by decide +kernel) (by decide +kernel)
theorem k_29 : (Cond.initialized "ClauseSearch") ∈ bg_W := bg_in 29 (by decide +kernel) (by decide +kernel)
theorem k_65 : (Cond.fieldLinkNest "ClauseSearch" 115 "ClauseSearch$Rows" "start" "[I" "ClauseSearch") ∈ bg_W := bg_in 65 (by decide +kernel) (by decide +kernel)
theorem k_73 : (Cond.fieldLinkNest "ClauseSearch" 118 "ClauseSearch$Rows" "codes" "[I" "ClauseSearch") ∈ bg_W := bg_in 73 (by decide +kernel) (by decide +kernel)
theorem k_256 : (Cond.fieldLink "ClauseSearch" 16 "ClauseSearch" "clauses" "LClauseSearch$Rows;") ∈ bg_W := bg_in 256 (by decide +kernel) (by decide +kernel)
theorem k_258 : (Cond.fieldLink "ClauseSearch" 32 "ClauseSearch" "way" "[Z") ∈ bg_W := bg_in 258 (by decide +kernel) (by decide +kernel)
theorem k_437 : (Cond.methodLink "ClauseSearch" 108 ⟨"ClauseSearch", "isTrue", "(I)Z"⟩) ∈ bg_W := bg_in 437 (by decide +kernel) (by decide +kernel)
theorem k_439 : (Cond.instanceMethod ⟨"ClauseSearch", "isTrue", "(I)Z"⟩) ∈ bg_W := bg_in 439 (by decide +kernel) (by decide +kernel)
theorem k_440 : (Cond.code ⟨"ClauseSearch", "isTrue", "(I)Z"⟩ prog_1_method_11_code 2 (some .boolean)) ∈ bg_W := bg_in 440 (by decide +kernel) (by decide +kernel)
theorem d_Cs_isTrue_0 : decode prog_1_method_11_code 0 = .ok (.aload_n 0, 1) := by decide +kernel
theorem d_Cs_isTrue_1 : decode prog_1_method_11_code 1 = .ok (.getfield 32, 3) := by decide +kernel
theorem d_Cs_isTrue_4 : decode prog_1_method_11_code 4 = .ok (.iload_n 1, 1) := by decide +kernel
theorem d_Cs_isTrue_5 : decode prog_1_method_11_code 5 = .ok (.iconst 1, 1) := by decide +kernel
theorem d_Cs_isTrue_6 : decode prog_1_method_11_code 6 = .ok (.ishr, 1) := by decide +kernel
theorem d_Cs_isTrue_7 : decode prog_1_method_11_code 7 = .ok (.baload, 1) := by decide +kernel
theorem d_Cs_isTrue_8 : decode prog_1_method_11_code 8 = .ok (.iload_n 1, 1) := by decide +kernel
theorem d_Cs_isTrue_9 : decode prog_1_method_11_code 9 = .ok (.iconst 1, 1) := by decide +kernel
theorem d_Cs_isTrue_10 : decode prog_1_method_11_code 10 = .ok (.iand, 1) := by decide +kernel
theorem d_Cs_isTrue_11 : decode prog_1_method_11_code 11 = .ok (.ifCond .ne 7, 3) := by decide +kernel
theorem d_Cs_isTrue_18 : decode prog_1_method_11_code 18 = .ok (.iconst 0, 1) := by decide +kernel
theorem d_Cs_isTrue_19 : decode prog_1_method_11_code 19 = .ok (.if_icmp .ne 7, 3) := by decide +kernel
theorem d_Cs_isTrue_26 : decode prog_1_method_11_code 26 = .ok (.iconst 0, 1) := by decide +kernel
theorem d_Cs_isTrue_27 : decode prog_1_method_11_code 27 = .ok (.ireturn, 1) := by decide +kernel
theorem d_Cs_isTrue_22 : decode prog_1_method_11_code 22 = .ok (.iconst 1, 1) := by decide +kernel
theorem d_Cs_isTrue_23 : decode prog_1_method_11_code 23 = .ok (.goto 4, 3) := by decide +kernel
theorem d_Cs_isTrue_14 : decode prog_1_method_11_code 14 = .ok (.iconst 1, 1) := by decide +kernel
theorem d_Cs_isTrue_15 : decode prog_1_method_11_code 15 = .ok (.goto 4, 3) := by decide +kernel
theorem d_Cs_hasTrue_22 : decode prog_1_method_10_code 22 = .ok (.iload_n 3, 1) := by decide +kernel
theorem d_Cs_hasTrue_23 : decode prog_1_method_10_code 23 = .ok (.iload_n 2, 1) := by decide +kernel
theorem d_Cs_hasTrue_24 : decode prog_1_method_10_code 24 = .ok (.if_icmp .ge 27, 3) := by decide +kernel
theorem d_Cs_hasTrue_27 : decode prog_1_method_10_code 27 = .ok (.aload_n 0, 1) := by decide +kernel
theorem d_Cs_hasTrue_28 : decode prog_1_method_10_code 28 = .ok (.aload_n 0, 1) := by decide +kernel
theorem d_Cs_hasTrue_29 : decode prog_1_method_10_code 29 = .ok (.getfield 16, 3) := by decide +kernel
theorem d_Cs_hasTrue_32 : decode prog_1_method_10_code 32 = .ok (.getfield 118, 3) := by decide +kernel
theorem d_Cs_hasTrue_35 : decode prog_1_method_10_code 35 = .ok (.iload_n 3, 1) := by decide +kernel
theorem d_Cs_hasTrue_36 : decode prog_1_method_10_code 36 = .ok (.iaload, 1) := by decide +kernel
theorem d_Cs_hasTrue_37 : decode prog_1_method_10_code 37 = .ok (.invokevirtual 108, 3) := by decide +kernel
theorem d_Cs_hasTrue_40 : decode prog_1_method_10_code 40 = .ok (.ifCond .eq 5, 3) := by decide +kernel
theorem d_Cs_hasTrue_45 : decode prog_1_method_10_code 45 = .ok (.iinc 3 1, 3) := by decide +kernel
theorem d_Cs_hasTrue_48 : decode prog_1_method_10_code 48 = .ok (.goto (-26), 3) := by decide +kernel
theorem d_Cs_hasTrue_0 : decode prog_1_method_10_code 0 = .ok (.aload_n 0, 1) := by decide +kernel
theorem d_Cs_hasTrue_1 : decode prog_1_method_10_code 1 = .ok (.getfield 16, 3) := by decide +kernel
theorem d_Cs_hasTrue_4 : decode prog_1_method_10_code 4 = .ok (.getfield 115, 3) := by decide +kernel
theorem d_Cs_hasTrue_7 : decode prog_1_method_10_code 7 = .ok (.iload_n 1, 1) := by decide +kernel
theorem d_Cs_hasTrue_8 : decode prog_1_method_10_code 8 = .ok (.iconst 1, 1) := by decide +kernel
theorem d_Cs_hasTrue_9 : decode prog_1_method_10_code 9 = .ok (.iadd, 1) := by decide +kernel
theorem d_Cs_hasTrue_10 : decode prog_1_method_10_code 10 = .ok (.iaload, 1) := by decide +kernel
theorem d_Cs_hasTrue_11 : decode prog_1_method_10_code 11 = .ok (.istore_n 2, 1) := by decide +kernel
theorem d_Cs_hasTrue_12 : decode prog_1_method_10_code 12 = .ok (.aload_n 0, 1) := by decide +kernel
theorem d_Cs_hasTrue_13 : decode prog_1_method_10_code 13 = .ok (.getfield 16, 3) := by decide +kernel
theorem d_Cs_hasTrue_16 : decode prog_1_method_10_code 16 = .ok (.getfield 115, 3) := by decide +kernel
theorem d_Cs_hasTrue_19 : decode prog_1_method_10_code 19 = .ok (.iload_n 1, 1) := by decide +kernel
theorem d_Cs_hasTrue_20 : decode prog_1_method_10_code 20 = .ok (.iaload, 1) := by decide +kernel
theorem d_Cs_hasTrue_21 : decode prog_1_method_10_code 21 = .ok (.istore_n 3, 1) := by decide +kernel
theorem d_Cs_hasTrue_43 : decode prog_1_method_10_code 43 = .ok (.iconst 1, 1) := by decide +kernel
theorem d_Cs_hasTrue_44 : decode prog_1_method_10_code 44 = .ok (.ireturn, 1) := by decide +kernel
theorem d_Cs_hasTrue_51 : decode prog_1_method_10_code 51 = .ok (.iconst 0, 1) := by decide +kernel
theorem d_Cs_hasTrue_52 : decode prog_1_method_10_code 52 = .ok (.ireturn, 1) := by decide +kernel
set_option maxHeartbeats 4000000 in
set_option maxRecDepth 100000 in
/-- isTrue(code) -/
theorem c_Cs_isTrue (l : Launch) (dC : Nat → ClassId) (dI : Nat → Nat → Nat) (b0 : Nat) (r0 : Nat) (h1 : Nat) (o0 : Nat) (m1 : Nat) (x9 : ClassId) (sz : Nat) (q : Mx) (g : Nat → Int32) (c0 : Nat) (hc : c0 < 802) : Met l y_Cs_isTrue (wq y_Cs_isTrue prog_1_method_11_code 2 (some .boolean)) ({ frames := 0, cells := 0, slots := 0, locals := 0 }) (va_Pc [.ref b0, .int (nI c0)] (fun U => U.heap.size = sz ∧ va_P (dC, dI) vwCl [(b0, .inr (6, [.ref r0, .ref h1, .ref o0, .ref m1, .int (nI q.rs), .int (nI q.vc), .int q.ws, .int q.bw])), (m1, .inl (x9, 401, .inl g))] U.heap ∧ va_K (dC, dI) vwCl [(x9, .boolean)] U ∧ va_D (fun _ => True) [(b0, .inr (6, [.ref r0, .ref h1, .ref o0, .ref m1, .int (nI q.rs), .int (nI q.vc), .int q.ws, .int q.bw])), (m1, .inl (x9, 401, .inl g))])) (va_Qi (fun (r : Int32) (r9 : Int32) => r = r9) (fun (r9 : Int32) t => (r9 = 0 ∨ r9 = 1) ∧ va_P (dC, dI) vwCl [(b0, .inr (6, [.ref r0, .ref h1, .ref o0, .ref m1, .int (nI q.rs), .int (nI q.vc), .int q.ws, .int q.bw])), (m1, .inl (x9, 401, .inl g))] t.heap ∧ va_K (dC, dI) vwCl [(x9, .boolean)] t ∧ va_D (va_A [(b0, .inr (6, [.ref r0, .ref h1, .ref o0, .ref m1, .int (nI q.rs), .int (nI q.vc), .int q.ws, .int q.bw])), (m1, .inl (x9, 401, .inl g))] sz) [(b0, .inr (6, [.ref r0, .ref h1, .ref o0, .ref m1, .int (nI q.rs), .int (nI q.vc), .int q.ws, .int q.bw])), (m1, .inl (x9, 401, .inl g))]) (va_A [(b0, .inr (6, [.ref r0, .ref h1, .ref o0, .ref m1, .int (nI q.rs), .int (nI q.vc), .int q.ws, .int q.bw])), (m1, .inl (x9, 401, .inl g))] sz)) (0) (0) (va_A [(b0, .inr (6, [.ref r0, .ref h1, .ref o0, .ref m1, .int (nI q.rs), .int (nI q.vc), .int q.ws, .int q.bw])), (m1, .inl (x9, 401, .inl g))] sz) := by
  refine Met.ofW (cc := prog_1_method_11_code) (maxL := 2) (ret := (some .boolean)) (by decide) rfl ?_
  intro p e s m args below meth c s₁ B hml hv
  obtain ⟨rfl, hsz, hP, hK, hD0⟩ := hv
  have hx := B.exec
  have hb := B.bytes
  have hr := B.returns
  have hw : ∀ w ∈ bg_W, w.before #[Value.ref b0, Value.int (nI c0)] s = true := fun w h => atoms_spec (ws := (wq y_Cs_isTrue prog_1_method_11_code 2 (some .boolean))) B.pre w (List.mem_cons_of_mem _ h)
  have hown : s.vm.findClass R_Cs = some m.cls := findClass_of_methodNamed B.named
  have hlocks := B.notSynchronized
  subst hsz
  have hD := hD0.self (sz := s.heap.size)
  generalize hAe : va_A [(b0, .inr (6, [.ref r0, .ref h1, .ref o0, .ref m1, .int (nI q.rs), .int (nI q.vc), .int q.ws, .int q.bw])), (m1, .inl (x9, 401, .inl g))] s.heap.size = A at hD ⊢
  have hA : ∀ q : Nat, s.heap.size ≤ q → A q := fun q h => by rw [← hAe]; exact Or.inr h
  have hS : va_S A s.heap s.heap [] := va_S.rf
  have hP : va_P (dC, dI) vwCl [(b0, .inr (6, [.ref r0, .ref h1, .ref o0, .ref m1, .int (nI q.rs), .int (nI q.vc), .int q.ws, .int q.bw])), (m1, .inl (x9, 401, .inl g))] s.heap := hP
  have hl := lv_entry ([.ref b0, .int (nI c0)]) (n := 2) (Nat.le_of_ble_eq_true rfl)
  rw [lg_entry_eq]
  generalize (lg_sl ([.ref b0, .int (nI c0)]) ++ List.replicate (2 - (lg_sl ([.ref b0, .int (nI c0)])).length) Slot.unset).toArray = ls at hl ⊢
  have hl : lv_has ls 2 [(0, .ref b0), (1, .int (nI c0))] := hl
  obtain ⟨H, hH⟩ : ∃ H : Heap, H = s.heap := ⟨_, rfl⟩
  rw [← hH] at hP
  have hS : va_S A s.heap H [] := by rw [hH]; exact va_S.rf
  show W p l e _ s m _ below meth c s.heap [] 0 0 _ _
  rw [← hH]
  refine lv_aload_n hx hb d_Cs_isTrue_0 rfl (lv_at hl 0 rfl) ?_
  refine va_get (D := (dC, dI)) (ci := 6) (v := .ref m1) (C := R_Cs) (T := F_Cs) (N := 8) hx hb hw in_Cs hown hK hP 0 rfl rfl 3 (by decide) (hw (Cond.fieldLink "ClauseSearch" 32 "ClauseSearch" "way" "[Z") k_258) (fun _ h9 => h9) rfl d_Cs_isTrue_1 ?_
  refine lv_iload_n hx hb d_Cs_isTrue_4 rfl (lv_at hl 1 rfl) ?_
  refine lv_iconst (v := nI 1) hx hb d_Cs_isTrue_5 (by decide) ?_
  refine lv_ishr hx hb d_Cs_isTrue_6 ?_
  refine lv_topi (fun y_1 ey_1 => ?_)
  obtain rfl : y_1 = nI (c0 / 2) := ey_1.trans (ni_shr (by omega))
  refine va_zald hx hb hK hP 1 0 rfl rfl (vp_in_nI (by omega) (by omega)) d_Cs_isTrue_7 ?_
  refine lv_topi (fun y_2 ey_2 => ?_)
  rw [nI_clamp (by omega)] at ey_2
  subst ey_2
  refine lv_iload_n hx hb d_Cs_isTrue_8 rfl (lv_at hl 1 rfl) ?_
  refine lv_iconst (v := nI 1) hx hb d_Cs_isTrue_9 (by decide) ?_
  refine lv_iand hx hb d_Cs_isTrue_10 ?_
  refine lv_topi (fun y_3 ey_3 => ?_)
  obtain rfl : y_3 = nI (c0 % 2) := ey_3.trans (ni_and c0 (by omega))
  refine lv_if_ne (tgt := 18) hx hb d_Cs_isTrue_11 (by decide) (fun c_11 => ?_) (fun c_11 => ?_)
  · have c_11 : ¬ (c0 % 2 = 0) := fun qq9 => c_11 ((nI_eq (a := c0 % 2) (b := 0) (by omega) (by omega)).mpr qq9)
    refine lv_iconst (v := 0) hx hb d_Cs_isTrue_18 (by decide) ?_
    refine lv_icmp_ne (tgt := 26) hx hb d_Cs_isTrue_19 (by decide) (fun c_19 => ?_) (fun c_19 => ?_)
    · refine lv_iconst (v := 0) hx hb d_Cs_isTrue_26 (by decide) ?_
      have hK := hK.sub (tys' := [(x9, .boolean)]) [0] rfl
      refine W.widen (k := 0) (n := 0) (by decide) (by decide) ?_
      exact W.zret (v := 0) hx hb hr rfl (fun t ht hW => ⟨⟨0, 0, rfl, rfl, (Or.inl rfl), by rw [ht]; exact hP, va_K.moved hW.alike hK, hD⟩, hS.F ht⟩) hS.2.2 d_Cs_isTrue_27
    · refine lv_iconst (v := 1) hx hb d_Cs_isTrue_22 (by decide) ?_
      refine lv_goto (tgt := 27) hx hb d_Cs_isTrue_23 (by decide) ?_
      have hK := hK.sub (tys' := [(x9, .boolean)]) [0] rfl
      refine W.widen (k := 0) (n := 0) (by decide) (by decide) ?_
      exact W.zret (v := 1) hx hb hr rfl (fun t ht hW => ⟨⟨1, 1, rfl, rfl, (Or.inr rfl), by rw [ht]; exact hP, va_K.moved hW.alike hK, hD⟩, hS.F ht⟩) hS.2.2 d_Cs_isTrue_27
  · have c_11 : c0 % 2 = 0 := (nI_eq (a := c0 % 2) (b := 0) (by omega) (by omega)).mp c_11
    refine lv_iconst (v := 1) hx hb d_Cs_isTrue_14 (by decide) ?_
    refine lv_goto (tgt := 19) hx hb d_Cs_isTrue_15 (by decide) ?_
    refine lv_icmp_ne (tgt := 26) hx hb d_Cs_isTrue_19 (by decide) (fun c_19 => ?_) (fun c_19 => ?_)
    · refine lv_iconst (v := 0) hx hb d_Cs_isTrue_26 (by decide) ?_
      have hK := hK.sub (tys' := [(x9, .boolean)]) [0] rfl
      refine W.widen (k := 0) (n := 0) (by decide) (by decide) ?_
      exact W.zret (v := 0) hx hb hr rfl (fun t ht hW => ⟨⟨0, 0, rfl, rfl, (Or.inl rfl), by rw [ht]; exact hP, va_K.moved hW.alike hK, hD⟩, hS.F ht⟩) hS.2.2 d_Cs_isTrue_27
    · refine lv_iconst (v := 1) hx hb d_Cs_isTrue_22 (by decide) ?_
      refine lv_goto (tgt := 27) hx hb d_Cs_isTrue_23 (by decide) ?_
      have hK := hK.sub (tys' := [(x9, .boolean)]) [0] rfl
      refine W.widen (k := 0) (n := 0) (by decide) (by decide) ?_
      exact W.zret (v := 1) hx hb hr rfl (fun t ht hW => ⟨⟨1, 1, rfl, rfl, (Or.inr rfl), by rw [ht]; exact hP, va_K.moved hW.alike hK, hD⟩, hS.F ht⟩) hS.2.2 d_Cs_isTrue_27

set_option maxHeartbeats 4000000 in
set_option maxRecDepth 100000 in
/-- the loop of hasTrue -/
theorem l_hasTrue {p : Program} {l : Launch} {e : Env} {R : Room} {s : State} {m : MethodId} {args : Array Value} {below : List Frame} {meth : Method} {c : Code} {dC : Nat → ClassId} {dI : Nat → Nat → Nat} {A : Nat → Prop} {Q : State → Prop} {cells slots : Nat} {H0 : Heap} {b0 : Nat} {r0 : Nat} {h1 : Nat} {o0 : Nat} {m1 : Nat} {g3 : Nat} {g4 : Nat} {g5 : Nat} {x9 : ClassId} {y3 : ClassId} {y4 : ClassId} {y5 : ClassId} {q : Mx} {g : Nat → Int32} {b : Rx} {r : Nat} (hx : p.tables.exec = Jvm.exec) (hb : c.code = prog_1_method_10_code) (hml : c.maxLocals = 4) (hw : ∀ w ∈ bg_W, w.before args s = true) (hown : s.vm.findClass R_Cs = some m.cls) (hK : va_K (dC, dI) vwCl [(x9, .boolean), (y3, .int), (y4, .int), (y5, .int)] s) (hA : ∀ q : Nat, H0.size ≤ q → A q) (hR1 : 1 ≤ R.frames) (hR2 : 21 ≤ R.locals) (hR3 : cells ≤ R.cells) (hR4 : slots ≤ R.slots) (hQ : Kok b) (hr9 : r < b.n)
    (kk43 : ∀ (H : Heap) (locs : List Loc) (ls : Array Slot), va_P (dC, dI) vwCl [(b0, .inr (6, [.ref r0, .ref h1, .ref o0, .ref m1, .int (nI q.rs), .int (nI q.vc), .int q.ws, .int q.bw])), (m1, .inl (x9, 401, .inl g)), (h1, .inr (2, [.ref g3, .ref g4, .ref g5, .int (nI b.n)])), (g3, .inl (y3, b.la, .inl b.sf)), (g4, .inl (y4, b.la, .inl b.kf)), (g5, .inl (y5, b.lc, .inl b.cf))] H → va_D A [(b0, .inr (6, [.ref r0, .ref h1, .ref o0, .ref m1, .int (nI q.rs), .int (nI q.vc), .int q.ws, .int q.bw])), (m1, .inl (x9, 401, .inl g)), (h1, .inr (2, [.ref g3, .ref g4, .ref g5, .int (nI b.n)])), (g3, .inl (y3, b.la, .inl b.sf)), (g4, .inl (y4, b.la, .inl b.kf)), (g5, .inl (y5, b.lc, .inl b.cf))] → va_S A H0 H locs → lv_has ls 4 [(0, .ref b0)] → W p l e R s m args below meth c H locs cells slots Q (F0 m 43 ls []))
    (kk51 : ∀ (H : Heap) (locs : List Loc) (ls : Array Slot), va_P (dC, dI) vwCl [(b0, .inr (6, [.ref r0, .ref h1, .ref o0, .ref m1, .int (nI q.rs), .int (nI q.vc), .int q.ws, .int q.bw])), (m1, .inl (x9, 401, .inl g)), (h1, .inr (2, [.ref g3, .ref g4, .ref g5, .int (nI b.n)])), (g3, .inl (y3, b.la, .inl b.sf)), (g4, .inl (y4, b.la, .inl b.kf)), (g5, .inl (y5, b.lc, .inl b.cf))] H → va_D A [(b0, .inr (6, [.ref r0, .ref h1, .ref o0, .ref m1, .int (nI q.rs), .int (nI q.vc), .int q.ws, .int q.bw])), (m1, .inl (x9, 401, .inl g)), (h1, .inr (2, [.ref g3, .ref g4, .ref g5, .int (nI b.n)])), (g3, .inl (y3, b.la, .inl b.sf)), (g4, .inl (y4, b.la, .inl b.kf)), (g5, .inl (y5, b.lc, .inl b.cf))] → va_S A H0 H locs → lv_has ls 4 [(0, .ref b0)] → W p l e R s m args below meth c H locs cells slots Q (F0 m 51 ls []))
    : ∀ (f : Nat) (ix : Nat) (H : Heap) (locs : List Loc) (ls : Array Slot), b.S (r + 1) - ix < f → (ix ≤ b.S (r + 1)) → va_P (dC, dI) vwCl [(b0, .inr (6, [.ref r0, .ref h1, .ref o0, .ref m1, .int (nI q.rs), .int (nI q.vc), .int q.ws, .int q.bw])), (m1, .inl (x9, 401, .inl g)), (h1, .inr (2, [.ref g3, .ref g4, .ref g5, .int (nI b.n)])), (g3, .inl (y3, b.la, .inl b.sf)), (g4, .inl (y4, b.la, .inl b.kf)), (g5, .inl (y5, b.lc, .inl b.cf))] H → va_D A [(b0, .inr (6, [.ref r0, .ref h1, .ref o0, .ref m1, .int (nI q.rs), .int (nI q.vc), .int q.ws, .int q.bw])), (m1, .inl (x9, 401, .inl g)), (h1, .inr (2, [.ref g3, .ref g4, .ref g5, .int (nI b.n)])), (g3, .inl (y3, b.la, .inl b.sf)), (g4, .inl (y4, b.la, .inl b.kf)), (g5, .inl (y5, b.lc, .inl b.cf))] → va_S A H0 H locs → lv_has ls 4 [(0, .ref b0), (2, .int (nI (b.S (r + 1)))), (3, .int (nI ix))] → W p l e R s m args below meth c H locs cells slots Q (F0 m 22 ls []) := by
  intro f
  induction f with
  | zero => intro ix H locs ls q0 q2 hP hD hS hl; exact absurd q0 (Nat.not_lt_zero _)
  | succ f ih =>
    intro ix H locs ls q0 q2 hP hD hS hl
    obtain ⟨i1, i2, i3, i4, i5, i6⟩ := hQ.inb hr9
    refine lv_iload_n hx hb d_Cs_hasTrue_22 rfl (lv_at hl 2 rfl) ?_
    refine lv_iload_n hx hb d_Cs_hasTrue_23 rfl (lv_at hl 1 rfl) ?_
    refine lv_icmp_ge (tgt := 51) hx hb d_Cs_hasTrue_24 (by decide) (fun c_24 => ?_) (fun c_24 => ?_)
    · have c_24 : b.S (r + 1) ≤ ix := (nI_leI (a := b.S (r + 1)) (b := ix) (by omega) (by omega)).mp c_24
      exact kk51  _ _ ls  hP hD hS (lv_sub hl [0] rfl)
    · have c_24 : ¬ (b.S (r + 1) ≤ ix) := fun qq9 => c_24 ((nI_leI (a := b.S (r + 1)) (b := ix) (by omega) (by omega)).mpr qq9)
      refine lv_aload_n hx hb d_Cs_hasTrue_27 rfl (lv_at hl 0 rfl) ?_
      refine lv_aload_n hx hb d_Cs_hasTrue_28 rfl (lv_at hl 0 rfl) ?_
      refine va_get (D := (dC, dI)) (ci := 6) (v := .ref h1) (C := R_Cs) (T := F_Cs) (N := 8) hx hb hw in_Cs hown hK hP 0 rfl rfl 1 (by decide) (hw (Cond.fieldLink "ClauseSearch" 16 "ClauseSearch" "clauses" "LClauseSearch$Rows;") k_256) (fun _ h9 => h9) rfl d_Cs_hasTrue_29 ?_
      refine va_getN (D := (dC, dI)) (ci := 2) (v := .ref g5) (C := R_Rw) (T := F_Rw) (N := 4) hx hb hw in_Rw hown hK hP 2 rfl rfl 2 (by decide) (hw (Cond.fieldLinkNest "ClauseSearch" 118 "ClauseSearch$Rows" "codes" "[I" "ClauseSearch") k_73) (fun _ h9 => h9) rfl d_Cs_hasTrue_32 ?_
      refine lv_iload_n hx hb d_Cs_hasTrue_35 rfl (lv_at hl 2 rfl) ?_
      refine va_iald hx hb hK hP 5 3 rfl rfl (vp_in_nI (by omega) (by omega)) d_Cs_hasTrue_36 ?_
      refine lv_topi (fun y_1 ey_1 => ?_)
      rw [nI_clamp (by omega)] at ey_1
      have j1 := (hQ.cf ix (by omega)).2
      rw [(hQ.cf _ (by omega)).1] at ey_1
      subst ey_1
      have hPc := hP.sub (ws' := [(b0, .inr (6, [.ref r0, .ref h1, .ref o0, .ref m1, .int (nI q.rs), .int (nI q.vc), .int q.ws, .int q.bw])), (m1, .inl (x9, 401, .inl g))]) [0, 1] rfl
      have hDc := hD.sub (ws' := [(b0, .inr (6, [.ref r0, .ref h1, .ref o0, .ref m1, .int (nI q.rs), .int (nI q.vc), .int q.ws, .int q.bw])), (m1, .inl (x9, 401, .inl g))]) [0, 1] (by decide) rfl
      have hKc := hK.sub (tys' := [(x9, .boolean)]) [0] rfl
      have hFc := va_free (wc := [(b0, .inr (6, [.ref r0, .ref h1, .ref o0, .ref m1, .int (nI q.rs), .int (nI q.vc), .int q.ws, .int q.bw])), (m1, .inl (x9, 401, .inl g))]) hD hS hA [0, 1] rfl
      refine va_calli (va_runV (As := [.int (nI (b.C ix))]) (rest := []) ⟨hx, hb, hml, hown, hw⟩ (c_Cs_isTrue l dC dI b0 r0 h1 o0 m1 x9 H.size q g (b.C ix) j1.2) (cb_V (C := R_Cs) 1 hw k_440 k_29 k_437 k_439 k_17 rfl rfl (by decide +kernel) ⟨Nat.le_trans (Nat.le_of_ble_eq_true rfl) hR1, Nat.le_trans (Nat.le_of_ble_eq_true rfl) hR2⟩) ⟨fun a U g mk q => by obtain ⟨q0, q1, qP, qK, qD⟩ := q; exact ⟨q0, q1, qP, va_K.moved (u := U) (U := U.calling g mk a) (Vm.Alike.refl U.vm) qK, qD⟩, va_recv hKc hPc (ci := 6) (q0 := 0) rfl rfl, fun U hU hW => ⟨rfl, by rw [hU], by rw [hU]; exact hPc, va_K.moved hW.alike hKc, hDc.weaken (fun _ _ _ _ => trivial)⟩⟩ rfl rfl hl.1 rfl (lv_room (Nat.le_of_ble_eq_true rfl)) d_Cs_hasTrue_37 ⟨hR3, hR4⟩) hS (fun q _ h => hFc q h) hFc (fun r_2 u t H1 locs ht hvm hw9 hB hz1 hk1 hS => ?_)
      obtain ⟨f_3, hP1, hK1, hD1⟩ := hB
      rw [ht] at hP1
      have hK1 := va_K.moved hvm.symm hK1
      obtain ⟨hP, hD⟩ := va_join (wr := [(h1, .inr (2, [.ref g3, .ref g4, .ref g5, .int (nI b.n)])), (g3, .inl (y3, b.la, .inl b.sf)), (g4, .inl (y4, b.la, .inl b.kf)), (g5, .inl (y5, b.lc, .inl b.cf))]) (w1 := [(b0, .inr (6, [.ref r0, .ref h1, .ref o0, .ref m1, .int (nI q.rs), .int (nI q.vc), .int q.ws, .int q.bw])), (m1, .inl (x9, 401, .inl g))]) hP hD [0, 1] [2, 3, 4, 5] rfl rfl (by decide) (by decide) hk1 hFc hP1 hD1
      generalize H1 = H at hP hS ⊢
      have hP : va_P (dC, dI) vwCl [(h1, .inr (2, [.ref g3, .ref g4, .ref g5, .int (nI b.n)])), (g3, .inl (y3, b.la, .inl b.sf)), (g4, .inl (y4, b.la, .inl b.kf)), (g5, .inl (y5, b.lc, .inl b.cf)), (b0, .inr (6, [.ref r0, .ref h1, .ref o0, .ref m1, .int (nI q.rs), .int (nI q.vc), .int q.ws, .int q.bw])), (m1, .inl (x9, 401, .inl g))] H := hP
      have hD : va_D A [(h1, .inr (2, [.ref g3, .ref g4, .ref g5, .int (nI b.n)])), (g3, .inl (y3, b.la, .inl b.sf)), (g4, .inl (y4, b.la, .inl b.kf)), (g5, .inl (y5, b.lc, .inl b.cf)), (b0, .inr (6, [.ref r0, .ref h1, .ref o0, .ref m1, .int (nI q.rs), .int (nI q.vc), .int q.ws, .int q.bw])), (m1, .inl (x9, 401, .inl g))] := hD
      refine W.widen (k := cells) (n := slots) (Nat.le_refl _) (Nat.le_refl _) ?_
      have hw9 : r_2 = u := hw9
      subst hw9
      refine lv_if_eq (tgt := 45) hx hb d_Cs_hasTrue_40 (by decide) (fun c_40 => ?_) (fun c_40 => ?_)
      · refine lv_iinc (v := nI (ix + 1)) (lv' := [(3, .int (nI (ix + 1))), (0, .ref b0), (2, .int (nI (b.S (r + 1))))]) hx hb d_Cs_hasTrue_45 hl (k := 2) rfl (nI_1 ix) (by decide) rfl (fun ls hl => ?_)
        refine lv_goto (tgt := 22) hx hb d_Cs_hasTrue_48 (by decide) ?_
        have hP := hP.sub (ws' := [(b0, .inr (6, [.ref r0, .ref h1, .ref o0, .ref m1, .int (nI q.rs), .int (nI q.vc), .int q.ws, .int q.bw])), (m1, .inl (x9, 401, .inl g)), (h1, .inr (2, [.ref g3, .ref g4, .ref g5, .int (nI b.n)])), (g3, .inl (y3, b.la, .inl b.sf)), (g4, .inl (y4, b.la, .inl b.kf)), (g5, .inl (y5, b.lc, .inl b.cf))]) [4, 5, 0, 1, 2, 3] rfl
        have hD := hD.sub (ws' := [(b0, .inr (6, [.ref r0, .ref h1, .ref o0, .ref m1, .int (nI q.rs), .int (nI q.vc), .int q.ws, .int q.bw])), (m1, .inl (x9, 401, .inl g)), (h1, .inr (2, [.ref g3, .ref g4, .ref g5, .int (nI b.n)])), (g3, .inl (y3, b.la, .inl b.sf)), (g4, .inl (y4, b.la, .inl b.kf)), (g5, .inl (y5, b.lc, .inl b.cf))]) [4, 5, 0, 1, 2, 3] (by decide) rfl
        exact ih (ix + 1) _ _ ls (by omega) (by omega) hP hD hS (lv_sub hl [1, 2, 0] rfl)
      · have hP := hP.sub (ws' := [(b0, .inr (6, [.ref r0, .ref h1, .ref o0, .ref m1, .int (nI q.rs), .int (nI q.vc), .int q.ws, .int q.bw])), (m1, .inl (x9, 401, .inl g)), (h1, .inr (2, [.ref g3, .ref g4, .ref g5, .int (nI b.n)])), (g3, .inl (y3, b.la, .inl b.sf)), (g4, .inl (y4, b.la, .inl b.kf)), (g5, .inl (y5, b.lc, .inl b.cf))]) [4, 5, 0, 1, 2, 3] rfl
        have hD := hD.sub (ws' := [(b0, .inr (6, [.ref r0, .ref h1, .ref o0, .ref m1, .int (nI q.rs), .int (nI q.vc), .int q.ws, .int q.bw])), (m1, .inl (x9, 401, .inl g)), (h1, .inr (2, [.ref g3, .ref g4, .ref g5, .int (nI b.n)])), (g3, .inl (y3, b.la, .inl b.sf)), (g4, .inl (y4, b.la, .inl b.kf)), (g5, .inl (y5, b.lc, .inl b.cf))]) [4, 5, 0, 1, 2, 3] (by decide) rfl
        exact kk43  _ _ ls  hP hD hS (lv_sub hl [0] rfl)

set_option maxHeartbeats 4000000 in
set_option maxRecDepth 100000 in
/-- hasTrue(r) -/
theorem c_Cs_hasTrue (l : Launch) (dC : Nat → ClassId) (dI : Nat → Nat → Nat) (b0 : Nat) (r0 : Nat) (h1 : Nat) (o0 : Nat) (m1 : Nat) (g3 : Nat) (g4 : Nat) (g5 : Nat) (x9 : ClassId) (y3 : ClassId) (y4 : ClassId) (y5 : ClassId) (sz : Nat) (q : Mx) (g : Nat → Int32) (b : Rx) (r : Nat) (hQ : Kok b) (hr9 : r < b.n) : Met l y_Cs_hasTrue (wq y_Cs_hasTrue prog_1_method_10_code 4 (some .boolean)) ({ frames := 1, cells := 0, slots := 0, locals := 21 }) (va_Pc [.ref b0, .int (nI r)] (fun U => U.heap.size = sz ∧ va_P (dC, dI) vwCl [(b0, .inr (6, [.ref r0, .ref h1, .ref o0, .ref m1, .int (nI q.rs), .int (nI q.vc), .int q.ws, .int q.bw])), (m1, .inl (x9, 401, .inl g)), (h1, .inr (2, [.ref g3, .ref g4, .ref g5, .int (nI b.n)])), (g3, .inl (y3, b.la, .inl b.sf)), (g4, .inl (y4, b.la, .inl b.kf)), (g5, .inl (y5, b.lc, .inl b.cf))] U.heap ∧ va_K (dC, dI) vwCl [(x9, .boolean), (y3, .int), (y4, .int), (y5, .int)] U ∧ va_D (fun _ => True) [(b0, .inr (6, [.ref r0, .ref h1, .ref o0, .ref m1, .int (nI q.rs), .int (nI q.vc), .int q.ws, .int q.bw])), (m1, .inl (x9, 401, .inl g)), (h1, .inr (2, [.ref g3, .ref g4, .ref g5, .int (nI b.n)])), (g3, .inl (y3, b.la, .inl b.sf)), (g4, .inl (y4, b.la, .inl b.kf)), (g5, .inl (y5, b.lc, .inl b.cf))])) (va_Qi (fun (r : Int32) (r9 : Int32) => r = r9) (fun (r9 : Int32) t => (r9 = 0 ∨ r9 = 1) ∧ va_P (dC, dI) vwCl [(b0, .inr (6, [.ref r0, .ref h1, .ref o0, .ref m1, .int (nI q.rs), .int (nI q.vc), .int q.ws, .int q.bw])), (m1, .inl (x9, 401, .inl g)), (h1, .inr (2, [.ref g3, .ref g4, .ref g5, .int (nI b.n)])), (g3, .inl (y3, b.la, .inl b.sf)), (g4, .inl (y4, b.la, .inl b.kf)), (g5, .inl (y5, b.lc, .inl b.cf))] t.heap ∧ va_K (dC, dI) vwCl [(x9, .boolean), (y3, .int), (y4, .int), (y5, .int)] t ∧ va_D (va_A [(b0, .inr (6, [.ref r0, .ref h1, .ref o0, .ref m1, .int (nI q.rs), .int (nI q.vc), .int q.ws, .int q.bw])), (m1, .inl (x9, 401, .inl g)), (h1, .inr (2, [.ref g3, .ref g4, .ref g5, .int (nI b.n)])), (g3, .inl (y3, b.la, .inl b.sf)), (g4, .inl (y4, b.la, .inl b.kf)), (g5, .inl (y5, b.lc, .inl b.cf))] sz) [(b0, .inr (6, [.ref r0, .ref h1, .ref o0, .ref m1, .int (nI q.rs), .int (nI q.vc), .int q.ws, .int q.bw])), (m1, .inl (x9, 401, .inl g)), (h1, .inr (2, [.ref g3, .ref g4, .ref g5, .int (nI b.n)])), (g3, .inl (y3, b.la, .inl b.sf)), (g4, .inl (y4, b.la, .inl b.kf)), (g5, .inl (y5, b.lc, .inl b.cf))]) (va_A [(b0, .inr (6, [.ref r0, .ref h1, .ref o0, .ref m1, .int (nI q.rs), .int (nI q.vc), .int q.ws, .int q.bw])), (m1, .inl (x9, 401, .inl g)), (h1, .inr (2, [.ref g3, .ref g4, .ref g5, .int (nI b.n)])), (g3, .inl (y3, b.la, .inl b.sf)), (g4, .inl (y4, b.la, .inl b.kf)), (g5, .inl (y5, b.lc, .inl b.cf))] sz)) (0) (0) (va_A [(b0, .inr (6, [.ref r0, .ref h1, .ref o0, .ref m1, .int (nI q.rs), .int (nI q.vc), .int q.ws, .int q.bw])), (m1, .inl (x9, 401, .inl g)), (h1, .inr (2, [.ref g3, .ref g4, .ref g5, .int (nI b.n)])), (g3, .inl (y3, b.la, .inl b.sf)), (g4, .inl (y4, b.la, .inl b.kf)), (g5, .inl (y5, b.lc, .inl b.cf))] sz) := by
  refine Met.ofW (cc := prog_1_method_10_code) (maxL := 4) (ret := (some .boolean)) (by decide) rfl ?_
  intro p e s m args below meth c s₁ B hml hv
  obtain ⟨rfl, hsz, hP, hK, hD0⟩ := hv
  have hx := B.exec
  have hb := B.bytes
  have hr := B.returns
  have hw : ∀ w ∈ bg_W, w.before #[Value.ref b0, Value.int (nI r)] s = true := fun w h => atoms_spec (ws := (wq y_Cs_hasTrue prog_1_method_10_code 4 (some .boolean))) B.pre w (List.mem_cons_of_mem _ h)
  have hown : s.vm.findClass R_Cs = some m.cls := findClass_of_methodNamed B.named
  have hlocks := B.notSynchronized
  subst hsz
  have hD := hD0.self (sz := s.heap.size)
  generalize hAe : va_A [(b0, .inr (6, [.ref r0, .ref h1, .ref o0, .ref m1, .int (nI q.rs), .int (nI q.vc), .int q.ws, .int q.bw])), (m1, .inl (x9, 401, .inl g)), (h1, .inr (2, [.ref g3, .ref g4, .ref g5, .int (nI b.n)])), (g3, .inl (y3, b.la, .inl b.sf)), (g4, .inl (y4, b.la, .inl b.kf)), (g5, .inl (y5, b.lc, .inl b.cf))] s.heap.size = A at hD ⊢
  have hA : ∀ q : Nat, s.heap.size ≤ q → A q := fun q h => by rw [← hAe]; exact Or.inr h
  have hS : va_S A s.heap s.heap [] := va_S.rf
  have hP : va_P (dC, dI) vwCl [(b0, .inr (6, [.ref r0, .ref h1, .ref o0, .ref m1, .int (nI q.rs), .int (nI q.vc), .int q.ws, .int q.bw])), (m1, .inl (x9, 401, .inl g)), (h1, .inr (2, [.ref g3, .ref g4, .ref g5, .int (nI b.n)])), (g3, .inl (y3, b.la, .inl b.sf)), (g4, .inl (y4, b.la, .inl b.kf)), (g5, .inl (y5, b.lc, .inl b.cf))] s.heap := hP
  have hl := lv_entry ([.ref b0, .int (nI r)]) (n := 4) (Nat.le_of_ble_eq_true rfl)
  rw [lg_entry_eq]
  generalize (lg_sl ([.ref b0, .int (nI r)]) ++ List.replicate (4 - (lg_sl ([.ref b0, .int (nI r)])).length) Slot.unset).toArray = ls at hl ⊢
  have hl : lv_has ls 4 [(0, .ref b0), (1, .int (nI r))] := hl
  obtain ⟨H, hH⟩ : ∃ H : Heap, H = s.heap := ⟨_, rfl⟩
  rw [← hH] at hP
  have hS : va_S A s.heap H [] := by rw [hH]; exact va_S.rf
  show W p l e _ s m _ below meth c s.heap [] 0 0 _ _
  rw [← hH]
  obtain ⟨i1, i2, i3, i4, i5, i6⟩ := hQ.inb hr9
  refine lv_aload_n hx hb d_Cs_hasTrue_0 rfl (lv_at hl 0 rfl) ?_
  refine va_get (D := (dC, dI)) (ci := 6) (v := .ref h1) (C := R_Cs) (T := F_Cs) (N := 8) hx hb hw in_Cs hown hK hP 0 rfl rfl 1 (by decide) (hw (Cond.fieldLink "ClauseSearch" 16 "ClauseSearch" "clauses" "LClauseSearch$Rows;") k_256) (fun _ h9 => h9) rfl d_Cs_hasTrue_1 ?_
  refine va_getN (D := (dC, dI)) (ci := 2) (v := .ref g3) (C := R_Rw) (T := F_Rw) (N := 4) hx hb hw in_Rw hown hK hP 2 rfl rfl 0 (by decide) (hw (Cond.fieldLinkNest "ClauseSearch" 115 "ClauseSearch$Rows" "start" "[I" "ClauseSearch") k_65) (fun _ h9 => h9) rfl d_Cs_hasTrue_4 ?_
  refine lv_iload_n hx hb d_Cs_hasTrue_7 rfl (lv_at hl 1 rfl) ?_
  refine lv_iconst (v := nI 1) hx hb d_Cs_hasTrue_8 (by decide) ?_
  refine lv_iadd hx hb d_Cs_hasTrue_9 ?_
  refine lv_topi (fun y_1 ey_1 => ?_)
  obtain rfl : y_1 = nI (r + 1) := ey_1.trans (nI_add r 1)
  refine va_iald hx hb hK hP 3 1 rfl rfl (vp_in_nI (by omega) (by omega)) d_Cs_hasTrue_10 ?_
  refine lv_topi (fun y_2 ey_2 => ?_)
  rw [nI_clamp (by omega)] at ey_2
  rw [hQ.sf _ (by omega)] at ey_2
  subst ey_2
  refine lv_istore_n (lv' := [(2, .int (nI (b.S (r + 1)))), (0, .ref b0), (1, .int (nI r))]) hx hb d_Cs_hasTrue_11 rfl hl (by decide) rfl (fun ls hl => ?_)
  refine lv_aload_n hx hb d_Cs_hasTrue_12 rfl (lv_at hl 1 rfl) ?_
  refine va_get (D := (dC, dI)) (ci := 6) (v := .ref h1) (C := R_Cs) (T := F_Cs) (N := 8) hx hb hw in_Cs hown hK hP 0 rfl rfl 1 (by decide) (hw (Cond.fieldLink "ClauseSearch" 16 "ClauseSearch" "clauses" "LClauseSearch$Rows;") k_256) (fun _ h9 => h9) rfl d_Cs_hasTrue_13 ?_
  refine va_getN (D := (dC, dI)) (ci := 2) (v := .ref g3) (C := R_Rw) (T := F_Rw) (N := 4) hx hb hw in_Rw hown hK hP 2 rfl rfl 0 (by decide) (hw (Cond.fieldLinkNest "ClauseSearch" 115 "ClauseSearch$Rows" "start" "[I" "ClauseSearch") k_65) (fun _ h9 => h9) rfl d_Cs_hasTrue_16 ?_
  refine lv_iload_n hx hb d_Cs_hasTrue_19 rfl (lv_at hl 2 rfl) ?_
  refine va_iald hx hb hK hP 3 1 rfl rfl (vp_in_nI (by omega) (by omega)) d_Cs_hasTrue_20 ?_
  refine lv_topi (fun y_3 ey_3 => ?_)
  rw [nI_clamp (by omega)] at ey_3
  rw [hQ.sf _ (by omega)] at ey_3
  subst ey_3
  refine lv_istore_n (lv' := [(3, .int (nI (b.S r))), (2, .int (nI (b.S (r + 1)))), (0, .ref b0), (1, .int (nI r))]) hx hb d_Cs_hasTrue_21 rfl hl (by decide) rfl (fun ls hl => ?_)
  refine l_hasTrue (q := q) (g := g) (b := b) (r := r) hx hb hml hw hown (hK.sub (tys' := [(x9, .boolean), (y3, .int), (y4, .int), (y5, .int)]) [0, 1, 2, 3] rfl) hA (Nat.le_of_ble_eq_true rfl) (Nat.le_of_ble_eq_true rfl) (Nat.le_of_ble_eq_true rfl) (Nat.le_of_ble_eq_true rfl) hQ hr9 (fun  H1 locs ls  hP1 hD1 hS hl => ?_) (fun  H1 locs ls  hP1 hD1 hS hl => ?_) (_) (b.S r) _ _ ls (Nat.lt_succ_self _) (by omega) (hP.sub (ws' := [(b0, .inr (6, [.ref r0, .ref h1, .ref o0, .ref m1, .int (nI q.rs), .int (nI q.vc), .int q.ws, .int q.bw])), (m1, .inl (x9, 401, .inl g)), (h1, .inr (2, [.ref g3, .ref g4, .ref g5, .int (nI b.n)])), (g3, .inl (y3, b.la, .inl b.sf)), (g4, .inl (y4, b.la, .inl b.kf)), (g5, .inl (y5, b.lc, .inl b.cf))]) [0, 1, 2, 3, 4, 5] rfl) (hD.sub (ws' := [(b0, .inr (6, [.ref r0, .ref h1, .ref o0, .ref m1, .int (nI q.rs), .int (nI q.vc), .int q.ws, .int q.bw])), (m1, .inl (x9, 401, .inl g)), (h1, .inr (2, [.ref g3, .ref g4, .ref g5, .int (nI b.n)])), (g3, .inl (y3, b.la, .inl b.sf)), (g4, .inl (y4, b.la, .inl b.kf)), (g5, .inl (y5, b.lc, .inl b.cf))]) [0, 1, 2, 3, 4, 5] (by decide) rfl) hS (lv_sub hl [2, 1, 0] rfl)
  · have hP := hP1
    have hD := hD1
    generalize H1 = H at hP hS ⊢
    have hP : va_P (dC, dI) vwCl [(b0, .inr (6, [.ref r0, .ref h1, .ref o0, .ref m1, .int (nI q.rs), .int (nI q.vc), .int q.ws, .int q.bw])), (m1, .inl (x9, 401, .inl g)), (h1, .inr (2, [.ref g3, .ref g4, .ref g5, .int (nI b.n)])), (g3, .inl (y3, b.la, .inl b.sf)), (g4, .inl (y4, b.la, .inl b.kf)), (g5, .inl (y5, b.lc, .inl b.cf))] H := hP
    have hD : va_D A [(b0, .inr (6, [.ref r0, .ref h1, .ref o0, .ref m1, .int (nI q.rs), .int (nI q.vc), .int q.ws, .int q.bw])), (m1, .inl (x9, 401, .inl g)), (h1, .inr (2, [.ref g3, .ref g4, .ref g5, .int (nI b.n)])), (g3, .inl (y3, b.la, .inl b.sf)), (g4, .inl (y4, b.la, .inl b.kf)), (g5, .inl (y5, b.lc, .inl b.cf))] := hD
    refine lv_iconst (v := 1) hx hb d_Cs_hasTrue_43 (by decide) ?_
    have hK := hK.sub (tys' := [(x9, .boolean), (y3, .int), (y4, .int), (y5, .int)]) [0, 1, 2, 3] rfl
    refine W.widen (k := 0) (n := 0) (by decide) (by decide) ?_
    exact W.zret (v := 1) hx hb hr rfl (fun t ht hW => ⟨⟨1, 1, rfl, rfl, (Or.inr rfl), by rw [ht]; exact hP, va_K.moved hW.alike hK, hD⟩, hS.F ht⟩) hS.2.2 d_Cs_hasTrue_44
  · have hP := hP1
    have hD := hD1
    generalize H1 = H at hP hS ⊢
    have hP : va_P (dC, dI) vwCl [(b0, .inr (6, [.ref r0, .ref h1, .ref o0, .ref m1, .int (nI q.rs), .int (nI q.vc), .int q.ws, .int q.bw])), (m1, .inl (x9, 401, .inl g)), (h1, .inr (2, [.ref g3, .ref g4, .ref g5, .int (nI b.n)])), (g3, .inl (y3, b.la, .inl b.sf)), (g4, .inl (y4, b.la, .inl b.kf)), (g5, .inl (y5, b.lc, .inl b.cf))] H := hP
    have hD : va_D A [(b0, .inr (6, [.ref r0, .ref h1, .ref o0, .ref m1, .int (nI q.rs), .int (nI q.vc), .int q.ws, .int q.bw])), (m1, .inl (x9, 401, .inl g)), (h1, .inr (2, [.ref g3, .ref g4, .ref g5, .int (nI b.n)])), (g3, .inl (y3, b.la, .inl b.sf)), (g4, .inl (y4, b.la, .inl b.kf)), (g5, .inl (y5, b.lc, .inl b.cf))] := hD
    refine lv_iconst (v := 0) hx hb d_Cs_hasTrue_51 (by decide) ?_
    have hK := hK.sub (tys' := [(x9, .boolean), (y3, .int), (y4, .int), (y5, .int)]) [0, 1, 2, 3] rfl
    refine W.widen (k := 0) (n := 0) (by decide) (by decide) ?_
    exact W.zret (v := 0) hx hb hr rfl (fun t ht hW => ⟨⟨0, 0, rfl, rfl, (Or.inl rfl), by rw [ht]; exact hP, va_K.moved hW.alike hK, hD⟩, hS.F ht⟩) hS.2.2 d_Cs_hasTrue_52
