abbrev y_Ls_levelToGoBackTo : MethodName := ⟨"ClauseSearch$Lesson", "levelToGoBackTo", "()I"⟩
abbrev y_Ck_onlyCodeLeft : MethodName := ⟨"ClauseSearch$Check", "onlyCodeLeft", "(I)I"⟩
theorem k_62 : (Cond.fieldLinkNest "ClauseSearch$Check" 49 "ClauseSearch$Rows" "start" "[I" "ClauseSearch") ∈ bg_W := bg_in 62 (by decide +kernel) (by decide +kernel)
theorem k_70 : (Cond.fieldLinkNest "ClauseSearch$Check" 54 "ClauseSearch$Rows" "codes" "[I" "ClauseSearch") ∈ bg_W := bg_in 70 (by decide +kernel) (by decide +kernel)
theorem k_97 : (Cond.fieldLinkNest "ClauseSearch$Check" 55 "ClauseSearch$Trail" "truth" "[B" "ClauseSearch") ∈ bg_W := bg_in 97 (by decide +kernel) (by decide +kernel)
theorem k_210 : (Cond.fieldLink "ClauseSearch$Check" 9 "ClauseSearch$Check" "rows" "LClauseSearch$Rows;") ∈ bg_W := bg_in 210 (by decide +kernel) (by decide +kernel)
theorem k_211 : (Cond.fieldLink "ClauseSearch$Check" 18 "ClauseSearch$Check" "trail" "LClauseSearch$Trail;") ∈ bg_W := bg_in 211 (by decide +kernel) (by decide +kernel)
theorem d_Ls_levelToGoBackTo_0 : decode prog_3_method_5_code 0 = .ok (.aload_n 0, 1) := by decide +kernel
theorem d_Ls_levelToGoBackTo_1 : decode prog_3_method_5_code 1 = .ok (.getfield 30, 3) := by decide +kernel
theorem d_Ls_levelToGoBackTo_4 : decode prog_3_method_5_code 4 = .ok (.iconst 1, 1) := by decide +kernel
theorem d_Ls_levelToGoBackTo_5 : decode prog_3_method_5_code 5 = .ok (.if_icmp .le 22, 3) := by decide +kernel
theorem d_Ls_levelToGoBackTo_27 : decode prog_3_method_5_code 27 = .ok (.iconst 0, 1) := by decide +kernel
theorem d_Ls_levelToGoBackTo_28 : decode prog_3_method_5_code 28 = .ok (.ireturn, 1) := by decide +kernel
theorem d_Ls_levelToGoBackTo_8 : decode prog_3_method_5_code 8 = .ok (.aload_n 0, 1) := by decide +kernel
theorem d_Ls_levelToGoBackTo_9 : decode prog_3_method_5_code 9 = .ok (.getfield 15, 3) := by decide +kernel
theorem d_Ls_levelToGoBackTo_12 : decode prog_3_method_5_code 12 = .ok (.getfield 62, 3) := by decide +kernel
theorem d_Ls_levelToGoBackTo_15 : decode prog_3_method_5_code 15 = .ok (.aload_n 0, 1) := by decide +kernel
theorem d_Ls_levelToGoBackTo_16 : decode prog_3_method_5_code 16 = .ok (.getfield 23, 3) := by decide +kernel
theorem d_Ls_levelToGoBackTo_19 : decode prog_3_method_5_code 19 = .ok (.iconst 1, 1) := by decide +kernel
theorem d_Ls_levelToGoBackTo_20 : decode prog_3_method_5_code 20 = .ok (.iaload, 1) := by decide +kernel
theorem d_Ls_levelToGoBackTo_21 : decode prog_3_method_5_code 21 = .ok (.iconst 1, 1) := by decide +kernel
theorem d_Ls_levelToGoBackTo_22 : decode prog_3_method_5_code 22 = .ok (.ishr, 1) := by decide +kernel
theorem d_Ls_levelToGoBackTo_23 : decode prog_3_method_5_code 23 = .ok (.iaload, 1) := by decide +kernel
theorem d_Ls_levelToGoBackTo_24 : decode prog_3_method_5_code 24 = .ok (.goto 4, 3) := by decide +kernel
theorem d_Ck_onlyCodeLeft_12 : decode prog_2_method_3_code 12 = .ok (.iload_n 3, 1) := by decide +kernel
theorem d_Ck_onlyCodeLeft_13 : decode prog_2_method_3_code 13 = .ok (.aload_n 0, 1) := by decide +kernel
theorem d_Ck_onlyCodeLeft_14 : decode prog_2_method_3_code 14 = .ok (.getfield 9, 3) := by decide +kernel
theorem d_Ck_onlyCodeLeft_17 : decode prog_2_method_3_code 17 = .ok (.getfield 49, 3) := by decide +kernel
theorem d_Ck_onlyCodeLeft_20 : decode prog_2_method_3_code 20 = .ok (.iload_n 1, 1) := by decide +kernel
theorem d_Ck_onlyCodeLeft_21 : decode prog_2_method_3_code 21 = .ok (.iconst 1, 1) := by decide +kernel
theorem d_Ck_onlyCodeLeft_22 : decode prog_2_method_3_code 22 = .ok (.iadd, 1) := by decide +kernel
theorem d_Ck_onlyCodeLeft_23 : decode prog_2_method_3_code 23 = .ok (.iaload, 1) := by decide +kernel
theorem d_Ck_onlyCodeLeft_24 : decode prog_2_method_3_code 24 = .ok (.if_icmp .ge 59, 3) := by decide +kernel
theorem d_Ck_onlyCodeLeft_27 : decode prog_2_method_3_code 27 = .ok (.aload_n 0, 1) := by decide +kernel
theorem d_Ck_onlyCodeLeft_28 : decode prog_2_method_3_code 28 = .ok (.getfield 9, 3) := by decide +kernel
theorem d_Ck_onlyCodeLeft_31 : decode prog_2_method_3_code 31 = .ok (.getfield 54, 3) := by decide +kernel
theorem d_Ck_onlyCodeLeft_34 : decode prog_2_method_3_code 34 = .ok (.iload_n 3, 1) := by decide +kernel
theorem d_Ck_onlyCodeLeft_35 : decode prog_2_method_3_code 35 = .ok (.iaload, 1) := by decide +kernel
theorem d_Ck_onlyCodeLeft_36 : decode prog_2_method_3_code 36 = .ok (.istore 4, 2) := by decide +kernel
theorem d_Ck_onlyCodeLeft_38 : decode prog_2_method_3_code 38 = .ok (.aload_n 0, 1) := by decide +kernel
theorem d_Ck_onlyCodeLeft_39 : decode prog_2_method_3_code 39 = .ok (.getfield 18, 3) := by decide +kernel
theorem d_Ck_onlyCodeLeft_42 : decode prog_2_method_3_code 42 = .ok (.getfield 55, 3) := by decide +kernel
theorem d_Ck_onlyCodeLeft_45 : decode prog_2_method_3_code 45 = .ok (.iload 4, 2) := by decide +kernel
theorem d_Ck_onlyCodeLeft_47 : decode prog_2_method_3_code 47 = .ok (.baload, 1) := by decide +kernel
theorem d_Ck_onlyCodeLeft_48 : decode prog_2_method_3_code 48 = .ok (.iconst 2, 1) := by decide +kernel
theorem d_Ck_onlyCodeLeft_49 : decode prog_2_method_3_code 49 = .ok (.if_icmp .eq 28, 3) := by decide +kernel
theorem d_Ck_onlyCodeLeft_77 : decode prog_2_method_3_code 77 = .ok (.iinc 3 1, 3) := by decide +kernel
theorem d_Ck_onlyCodeLeft_80 : decode prog_2_method_3_code 80 = .ok (.goto (-68), 3) := by decide +kernel
theorem d_Ck_onlyCodeLeft_52 : decode prog_2_method_3_code 52 = .ok (.iload_n 2, 1) := by decide +kernel
theorem d_Ck_onlyCodeLeft_53 : decode prog_2_method_3_code 53 = .ok (.iconst (-1), 1) := by decide +kernel
theorem d_Ck_onlyCodeLeft_54 : decode prog_2_method_3_code 54 = .ok (.if_icmp .ne 17, 3) := by decide +kernel
theorem d_Ck_onlyCodeLeft_57 : decode prog_2_method_3_code 57 = .ok (.aload_n 0, 1) := by decide +kernel
theorem d_Ck_onlyCodeLeft_58 : decode prog_2_method_3_code 58 = .ok (.getfield 18, 3) := by decide +kernel
theorem d_Ck_onlyCodeLeft_61 : decode prog_2_method_3_code 61 = .ok (.getfield 55, 3) := by decide +kernel
theorem d_Ck_onlyCodeLeft_64 : decode prog_2_method_3_code 64 = .ok (.iload 4, 2) := by decide +kernel
theorem d_Ck_onlyCodeLeft_66 : decode prog_2_method_3_code 66 = .ok (.baload, 1) := by decide +kernel
theorem d_Ck_onlyCodeLeft_67 : decode prog_2_method_3_code 67 = .ok (.iconst 1, 1) := by decide +kernel
theorem d_Ck_onlyCodeLeft_68 : decode prog_2_method_3_code 68 = .ok (.if_icmp .ne 6, 3) := by decide +kernel
theorem d_Ck_onlyCodeLeft_74 : decode prog_2_method_3_code 74 = .ok (.iload 4, 2) := by decide +kernel
theorem d_Ck_onlyCodeLeft_76 : decode prog_2_method_3_code 76 = .ok (.istore_n 2, 1) := by decide +kernel
theorem d_Ck_onlyCodeLeft_0 : decode prog_2_method_3_code 0 = .ok (.iconst (-1), 1) := by decide +kernel
theorem d_Ck_onlyCodeLeft_1 : decode prog_2_method_3_code 1 = .ok (.istore_n 2, 1) := by decide +kernel
theorem d_Ck_onlyCodeLeft_2 : decode prog_2_method_3_code 2 = .ok (.aload_n 0, 1) := by decide +kernel
theorem d_Ck_onlyCodeLeft_3 : decode prog_2_method_3_code 3 = .ok (.getfield 9, 3) := by decide +kernel
theorem d_Ck_onlyCodeLeft_6 : decode prog_2_method_3_code 6 = .ok (.getfield 49, 3) := by decide +kernel
theorem d_Ck_onlyCodeLeft_9 : decode prog_2_method_3_code 9 = .ok (.iload_n 1, 1) := by decide +kernel
theorem d_Ck_onlyCodeLeft_10 : decode prog_2_method_3_code 10 = .ok (.iaload, 1) := by decide +kernel
theorem d_Ck_onlyCodeLeft_11 : decode prog_2_method_3_code 11 = .ok (.istore_n 3, 1) := by decide +kernel
theorem d_Ck_onlyCodeLeft_71 : decode prog_2_method_3_code 71 = .ok (.bipush (-2), 2) := by decide +kernel
theorem d_Ck_onlyCodeLeft_73 : decode prog_2_method_3_code 73 = .ok (.ireturn, 1) := by decide +kernel
theorem d_Ck_onlyCodeLeft_83 : decode prog_2_method_3_code 83 = .ok (.iload_n 2, 1) := by decide +kernel
theorem d_Ck_onlyCodeLeft_84 : decode prog_2_method_3_code 84 = .ok (.ireturn, 1) := by decide +kernel
set_option maxHeartbeats 4000000 in
set_option maxRecDepth 100000 in
/-- levelToGoBackTo() -/
theorem c_Ls_level (l : Launch) (dC : Nat → ClassId) (dI : Nat → Nat → Nat) (h0 : Nat) (t0 : Nat) (u0 : Nat) (u1 : Nat) (u2 : Nat) (u3 : Nat) (u4 : Nat) (s0 : Nat) (s1 : Nat) (s2 : Nat) (s3 : Nat) (x2 : ClassId) (x3 : ClassId) (x4 : ClassId) (z0 : ClassId) (z1 : ClassId) (z2 : ClassId) (z3 : ClassId) (z4 : ClassId) (sz : Nat) (a : Rx) (d : Tx) (z : Lx) (hT : Tok d) (hL : Lok d) (hE : Eok a d z z.sz) : Met l y_Ls_levelToGoBackTo (wq y_Ls_levelToGoBackTo prog_3_method_5_code 1 (some .int)) ({ frames := 0, cells := 0, slots := 0, locals := 0 }) (va_Pc [.ref s0] (fun U => U.heap.size = sz ∧ va_P (dC, dI) vwCl [(t0, .inr (4, [.ref u0, .ref u1, .ref u2, .ref u3, .ref u4, .int (nI d.k), .int (nI d.fo), .int (nI d.lev), .int (nI d.low)])), (u0, .inl (z0, 802, .inl d.tv)), (u1, .inl (z1, 401, .inl d.ov)), (u2, .inl (z2, 401, .inl d.lv)), (u3, .inl (z3, 401, .inl d.rv)), (u4, .inl (z4, 402, .inl d.sv)), (s0, .inr (1, [.ref h0, .ref t0, .ref s1, .ref s2, .ref s3, .int (nI z.sz), .int (nI z.uz), .int (nI z.op)])), (s1, .inl (x2, 401, .inl z.sn)), (s2, .inl (x3, 401, .inl z.cd)), (s3, .inl (x4, 401, .inl z.us))] U.heap ∧ va_K (dC, dI) vwCl [(z0, .byte), (z1, .int), (z2, .int), (z3, .int), (z4, .int), (x2, .boolean), (x3, .int), (x4, .int)] U ∧ va_D (fun _ => True) [(t0, .inr (4, [.ref u0, .ref u1, .ref u2, .ref u3, .ref u4, .int (nI d.k), .int (nI d.fo), .int (nI d.lev), .int (nI d.low)])), (u0, .inl (z0, 802, .inl d.tv)), (u1, .inl (z1, 401, .inl d.ov)), (u2, .inl (z2, 401, .inl d.lv)), (u3, .inl (z3, 401, .inl d.rv)), (u4, .inl (z4, 402, .inl d.sv)), (s0, .inr (1, [.ref h0, .ref t0, .ref s1, .ref s2, .ref s3, .int (nI z.sz), .int (nI z.uz), .int (nI z.op)])), (s1, .inl (x2, 401, .inl z.sn)), (s2, .inl (x3, 401, .inl z.cd)), (s3, .inl (x4, 401, .inl z.us))])) (va_Qi (fun (r : Int32) (r9 : Int32) => r = r9) (fun (r9 : Int32) t => ∃ (lw : Nat), (r9 = nI lw) ∧ ((1 < z.sz ∧ lw = d.V (z.Q 1)) ∨ (z.sz ≤ 1 ∧ lw = 0)) ∧ va_P (dC, dI) vwCl [(t0, .inr (4, [.ref u0, .ref u1, .ref u2, .ref u3, .ref u4, .int (nI d.k), .int (nI d.fo), .int (nI d.lev), .int (nI d.low)])), (u0, .inl (z0, 802, .inl d.tv)), (u1, .inl (z1, 401, .inl d.ov)), (u2, .inl (z2, 401, .inl d.lv)), (u3, .inl (z3, 401, .inl d.rv)), (u4, .inl (z4, 402, .inl d.sv)), (s0, .inr (1, [.ref h0, .ref t0, .ref s1, .ref s2, .ref s3, .int (nI z.sz), .int (nI z.uz), .int (nI z.op)])), (s1, .inl (x2, 401, .inl z.sn)), (s2, .inl (x3, 401, .inl z.cd)), (s3, .inl (x4, 401, .inl z.us))] t.heap ∧ va_K (dC, dI) vwCl [(z0, .byte), (z1, .int), (z2, .int), (z3, .int), (z4, .int), (x2, .boolean), (x3, .int), (x4, .int)] t ∧ va_D (va_A [(t0, .inr (4, [.ref u0, .ref u1, .ref u2, .ref u3, .ref u4, .int (nI d.k), .int (nI d.fo), .int (nI d.lev), .int (nI d.low)])), (u0, .inl (z0, 802, .inl d.tv)), (u1, .inl (z1, 401, .inl d.ov)), (u2, .inl (z2, 401, .inl d.lv)), (u3, .inl (z3, 401, .inl d.rv)), (u4, .inl (z4, 402, .inl d.sv)), (s0, .inr (1, [.ref h0, .ref t0, .ref s1, .ref s2, .ref s3, .int (nI z.sz), .int (nI z.uz), .int (nI z.op)])), (s1, .inl (x2, 401, .inl z.sn)), (s2, .inl (x3, 401, .inl z.cd)), (s3, .inl (x4, 401, .inl z.us))] sz) [(t0, .inr (4, [.ref u0, .ref u1, .ref u2, .ref u3, .ref u4, .int (nI d.k), .int (nI d.fo), .int (nI d.lev), .int (nI d.low)])), (u0, .inl (z0, 802, .inl d.tv)), (u1, .inl (z1, 401, .inl d.ov)), (u2, .inl (z2, 401, .inl d.lv)), (u3, .inl (z3, 401, .inl d.rv)), (u4, .inl (z4, 402, .inl d.sv)), (s0, .inr (1, [.ref h0, .ref t0, .ref s1, .ref s2, .ref s3, .int (nI z.sz), .int (nI z.uz), .int (nI z.op)])), (s1, .inl (x2, 401, .inl z.sn)), (s2, .inl (x3, 401, .inl z.cd)), (s3, .inl (x4, 401, .inl z.us))]) (va_A [(t0, .inr (4, [.ref u0, .ref u1, .ref u2, .ref u3, .ref u4, .int (nI d.k), .int (nI d.fo), .int (nI d.lev), .int (nI d.low)])), (u0, .inl (z0, 802, .inl d.tv)), (u1, .inl (z1, 401, .inl d.ov)), (u2, .inl (z2, 401, .inl d.lv)), (u3, .inl (z3, 401, .inl d.rv)), (u4, .inl (z4, 402, .inl d.sv)), (s0, .inr (1, [.ref h0, .ref t0, .ref s1, .ref s2, .ref s3, .int (nI z.sz), .int (nI z.uz), .int (nI z.op)])), (s1, .inl (x2, 401, .inl z.sn)), (s2, .inl (x3, 401, .inl z.cd)), (s3, .inl (x4, 401, .inl z.us))] sz)) (0) (0) (va_A [(t0, .inr (4, [.ref u0, .ref u1, .ref u2, .ref u3, .ref u4, .int (nI d.k), .int (nI d.fo), .int (nI d.lev), .int (nI d.low)])), (u0, .inl (z0, 802, .inl d.tv)), (u1, .inl (z1, 401, .inl d.ov)), (u2, .inl (z2, 401, .inl d.lv)), (u3, .inl (z3, 401, .inl d.rv)), (u4, .inl (z4, 402, .inl d.sv)), (s0, .inr (1, [.ref h0, .ref t0, .ref s1, .ref s2, .ref s3, .int (nI z.sz), .int (nI z.uz), .int (nI z.op)])), (s1, .inl (x2, 401, .inl z.sn)), (s2, .inl (x3, 401, .inl z.cd)), (s3, .inl (x4, 401, .inl z.us))] sz) := by
  refine Met.ofW (cc := prog_3_method_5_code) (maxL := 1) (ret := (some .int)) (by decide) rfl ?_
  intro p e s m args below meth c s₁ B hml hv
  obtain ⟨rfl, hsz, hP, hK, hD0⟩ := hv
  have hx := B.exec
  have hb := B.bytes
  have hr := B.returns
  have hw : ∀ w ∈ bg_W, w.before #[Value.ref s0] s = true := fun w h => atoms_spec (ws := (wq y_Ls_levelToGoBackTo prog_3_method_5_code 1 (some .int))) B.pre w (List.mem_cons_of_mem _ h)
  have hown : s.vm.findClass R_Ls = some m.cls := findClass_of_methodNamed B.named
  have hlocks := B.notSynchronized
  subst hsz
  have hD := hD0.self (sz := s.heap.size)
  generalize hAe : va_A [(t0, .inr (4, [.ref u0, .ref u1, .ref u2, .ref u3, .ref u4, .int (nI d.k), .int (nI d.fo), .int (nI d.lev), .int (nI d.low)])), (u0, .inl (z0, 802, .inl d.tv)), (u1, .inl (z1, 401, .inl d.ov)), (u2, .inl (z2, 401, .inl d.lv)), (u3, .inl (z3, 401, .inl d.rv)), (u4, .inl (z4, 402, .inl d.sv)), (s0, .inr (1, [.ref h0, .ref t0, .ref s1, .ref s2, .ref s3, .int (nI z.sz), .int (nI z.uz), .int (nI z.op)])), (s1, .inl (x2, 401, .inl z.sn)), (s2, .inl (x3, 401, .inl z.cd)), (s3, .inl (x4, 401, .inl z.us))] s.heap.size = A at hD ⊢
  have hA : ∀ q : Nat, s.heap.size ≤ q → A q := fun q h => by rw [← hAe]; exact Or.inr h
  have hS : va_S A s.heap s.heap [] := va_S.rf
  have hP : va_P (dC, dI) vwCl [(t0, .inr (4, [.ref u0, .ref u1, .ref u2, .ref u3, .ref u4, .int (nI d.k), .int (nI d.fo), .int (nI d.lev), .int (nI d.low)])), (u0, .inl (z0, 802, .inl d.tv)), (u1, .inl (z1, 401, .inl d.ov)), (u2, .inl (z2, 401, .inl d.lv)), (u3, .inl (z3, 401, .inl d.rv)), (u4, .inl (z4, 402, .inl d.sv)), (s0, .inr (1, [.ref h0, .ref t0, .ref s1, .ref s2, .ref s3, .int (nI z.sz), .int (nI z.uz), .int (nI z.op)])), (s1, .inl (x2, 401, .inl z.sn)), (s2, .inl (x3, 401, .inl z.cd)), (s3, .inl (x4, 401, .inl z.us))] s.heap := hP
  have hl := lv_entry ([.ref s0]) (n := 1) (Nat.le_of_ble_eq_true rfl)
  rw [lg_entry_eq]
  generalize (lg_sl ([.ref s0]) ++ List.replicate (1 - (lg_sl ([.ref s0])).length) Slot.unset).toArray = ls at hl ⊢
  have hl : lv_has ls 1 [(0, .ref s0)] := hl
  obtain ⟨H, hH⟩ : ∃ H : Heap, H = s.heap := ⟨_, rfl⟩
  rw [← hH] at hP
  have hS : va_S A s.heap H [] := by rw [hH]; exact va_S.rf
  show W p l e _ s m _ below meth c s.heap [] 0 0 _ _
  rw [← hH]
  have hk4 := hT.k400
  have hle := hL.lev
  have hs4 := hE.s4
  refine lv_aload_n hx hb d_Ls_levelToGoBackTo_0 rfl (lv_at hl 0 rfl) ?_
  refine va_get (D := (dC, dI)) (ci := 1) (v := .int (nI z.sz)) (C := R_Ls) (T := F_Ls) (N := 8) hx hb hw in_Ls hown hK hP 6 rfl rfl 5 (by decide) (hw (Cond.fieldLink "ClauseSearch$Lesson" 30 "ClauseSearch$Lesson" "size" "I") k_178) (fun _ h9 => h9) rfl d_Ls_levelToGoBackTo_1 ?_
  refine lv_iconst (v := nI 1) hx hb d_Ls_levelToGoBackTo_4 (by decide) ?_
  refine lv_icmp_le (tgt := 27) hx hb d_Ls_levelToGoBackTo_5 (by decide) (fun c_5 => ?_) (fun c_5 => ?_)
  · have c_5 : z.sz ≤ 1 := (nI_leI (a := z.sz) (b := 1) (by omega) (by omega)).mp c_5
    refine lv_iconst (v := nI 0) hx hb d_Ls_levelToGoBackTo_27 (by decide) ?_
    have hK := hK.sub (tys' := [(z0, .byte), (z1, .int), (z2, .int), (z3, .int), (z4, .int), (x2, .boolean), (x3, .int), (x4, .int)]) [0, 1, 2, 3, 4, 5, 6, 7] rfl
    refine W.widen (k := 0) (n := 0) (by decide) (by decide) ?_
    exact W.iret (v := nI 0) hx hb hr (fun t ht hW => ⟨⟨nI 0, nI 0, rfl, rfl, 0, rfl, (Or.inr ⟨by omega, rfl⟩), by rw [ht]; exact hP, va_K.moved hW.alike hK, hD⟩, hS.F ht⟩) hS.2.2 d_Ls_levelToGoBackTo_28
  · have c_5 : ¬ (z.sz ≤ 1) := fun qq9 => c_5 ((nI_leI (a := z.sz) (b := 1) (by omega) (by omega)).mpr qq9)
    obtain ⟨xa1, xa2, xa3⟩ := hE.cd 1 (Nat.le_refl _) (by omega)
    have xa4 := (hT.ov _ xa2).2
    have xa5 := fl_lt xa4.1 xa4.2
    have xa6 := hL.lv _ xa2
    refine lv_aload_n hx hb d_Ls_levelToGoBackTo_8 rfl (lv_at hl 0 rfl) ?_
    refine va_get (D := (dC, dI)) (ci := 1) (v := .ref t0) (C := R_Ls) (T := F_Ls) (N := 8) hx hb hw in_Ls hown hK hP 6 rfl rfl 1 (by decide) (hw (Cond.fieldLink "ClauseSearch$Lesson" 15 "ClauseSearch$Lesson" "trail" "LClauseSearch$Trail;") k_171) (fun _ h9 => h9) rfl d_Ls_levelToGoBackTo_9 ?_
    refine va_getN (D := (dC, dI)) (ci := 4) (v := .ref u2) (C := R_Tr) (T := F_Tr) (N := 9) hx hb hw in_Tr hown hK hP 0 rfl rfl 2 (by decide) (hw (Cond.fieldLinkNest "ClauseSearch$Lesson" 62 "ClauseSearch$Trail" "levelOf" "[I" "ClauseSearch") k_104) (fun _ h9 => h9) rfl d_Ls_levelToGoBackTo_12 ?_
    refine lv_aload_n hx hb d_Ls_levelToGoBackTo_15 rfl (lv_at hl 0 rfl) ?_
    refine va_get (D := (dC, dI)) (ci := 1) (v := .ref s2) (C := R_Ls) (T := F_Ls) (N := 8) hx hb hw in_Ls hown hK hP 6 rfl rfl 3 (by decide) (hw (Cond.fieldLink "ClauseSearch$Lesson" 23 "ClauseSearch$Lesson" "codes" "[I") k_173) (fun _ h9 => h9) rfl d_Ls_levelToGoBackTo_16 ?_
    refine lv_iconst (v := nI 1) hx hb d_Ls_levelToGoBackTo_19 (by decide) ?_
    refine va_iald hx hb hK hP 8 6 rfl rfl (vp_in_nI (by omega) (by omega)) d_Ls_levelToGoBackTo_20 ?_
    refine lv_topi (fun y_1 ey_1 => ?_)
    rw [nI_clamp (by omega)] at ey_1
    rw [xa1] at ey_1
    subst ey_1
    refine lv_iconst (v := nI 1) hx hb d_Ls_levelToGoBackTo_21 (by decide) ?_
    refine lv_ishr hx hb d_Ls_levelToGoBackTo_22 ?_
    refine lv_topi (fun y_2 ey_2 => ?_)
    obtain rfl : y_2 = nI ((fl (d.O (z.Q 1))) / 2) := ey_2.trans (ni_shr (by omega))
    refine va_iald hx hb hK hP 3 2 rfl rfl (vp_in_nI (by omega) (by omega)) d_Ls_levelToGoBackTo_23 ?_
    refine lv_topi (fun y_3 ey_3 => ?_)
    rw [nI_clamp (by omega)] at ey_3
    rw [fl_var, xa6.1] at ey_3
    subst ey_3
    refine lv_goto (tgt := 28) hx hb d_Ls_levelToGoBackTo_24 (by decide) ?_
    have hK := hK.sub (tys' := [(z0, .byte), (z1, .int), (z2, .int), (z3, .int), (z4, .int), (x2, .boolean), (x3, .int), (x4, .int)]) [0, 1, 2, 3, 4, 5, 6, 7] rfl
    refine W.widen (k := 0) (n := 0) (by decide) (by decide) ?_
    exact W.iret (v := nI (d.V (z.Q 1))) hx hb hr (fun t ht hW => ⟨⟨nI (d.V (z.Q 1)), nI (d.V (z.Q 1)), rfl, rfl, (d.V (z.Q 1)), rfl, (Or.inl ⟨by omega, rfl⟩), by rw [ht]; exact hP, va_K.moved hW.alike hK, hD⟩, hS.F ht⟩) hS.2.2 d_Ls_levelToGoBackTo_28

set_option maxHeartbeats 4000000 in
set_option maxRecDepth 100000 in
/-- the loop of onlyCodeLeft -/
theorem l_only {p : Program} {l : Launch} {e : Env} {R : Room} {s : State} {m : MethodId} {args : Array Value} {below : List Frame} {meth : Method} {c : Code} {dC : Nat → ClassId} {dI : Nat → Nat → Nat} {A : Nat → Prop} {Q : State → Prop} {cells slots : Nat} {H0 : Heap} {h0 : Nat} {g0 : Nat} {g1 : Nat} {g2 : Nat} {k0 : Nat} {t9 : Nat} {u5 : Nat} {u6 : Nat} {u7 : Nat} {u8 : Nat} {u9 : Nat} {y0 : ClassId} {y1 : ClassId} {y2 : ClassId} {z5 : ClassId} {z6 : ClassId} {z7 : ClassId} {z8 : ClassId} {z9 : ClassId} {a : Rx} {e9 : Tx} {r : Nat} (hx : p.tables.exec = Jvm.exec) (hb : c.code = prog_2_method_3_code) (hml : c.maxLocals = 5) (hw : ∀ w ∈ bg_W, w.before args s = true) (hown : s.vm.findClass R_Ck = some m.cls) (hK : va_K (dC, dI) vwCl [(y0, .int), (y1, .int), (y2, .int), (z5, .byte), (z6, .int), (z7, .int), (z8, .int), (z9, .int)] s) (hA : ∀ q : Nat, H0.size ≤ q → A q) (hR1 : 1 ≤ R.frames) (hR2 : 1 ≤ R.locals) (hR3 : cells ≤ R.cells) (hR4 : slots ≤ R.slots) (hR : Rok a) (hT : Tok e9) (hr9 : r < a.n)
    (kk71 : ∀ (H : Heap) (locs : List Loc) (ls : Array Slot), va_P (dC, dI) vwCl [(h0, .inr (2, [.ref g0, .ref g1, .ref g2, .int (nI a.n)])), (g0, .inl (y0, a.la, .inl a.sf)), (g1, .inl (y1, a.la, .inl a.kf)), (g2, .inl (y2, a.lc, .inl a.cf)), (k0, .inr (0, [.ref h0, .ref t9])), (t9, .inr (4, [.ref u5, .ref u6, .ref u7, .ref u8, .ref u9, .int (nI e9.k), .int (nI e9.fo), .int (nI e9.lev), .int (nI e9.low)])), (u5, .inl (z5, 802, .inl e9.tv)), (u6, .inl (z6, 401, .inl e9.ov)), (u7, .inl (z7, 401, .inl e9.lv)), (u8, .inl (z8, 401, .inl e9.rv)), (u9, .inl (z9, 402, .inl e9.sv))] H → va_D A [(h0, .inr (2, [.ref g0, .ref g1, .ref g2, .int (nI a.n)])), (g0, .inl (y0, a.la, .inl a.sf)), (g1, .inl (y1, a.la, .inl a.kf)), (g2, .inl (y2, a.lc, .inl a.cf)), (k0, .inr (0, [.ref h0, .ref t9])), (t9, .inr (4, [.ref u5, .ref u6, .ref u7, .ref u8, .ref u9, .int (nI e9.k), .int (nI e9.fo), .int (nI e9.lev), .int (nI e9.low)])), (u5, .inl (z5, 802, .inl e9.tv)), (u6, .inl (z6, 401, .inl e9.ov)), (u7, .inl (z7, 401, .inl e9.lv)), (u8, .inl (z8, 401, .inl e9.rv)), (u9, .inl (z9, 402, .inl e9.sv))] → va_S A H0 H locs → lv_has ls 5 [(0, .ref k0)] → W p l e R s m args below meth c H locs cells slots Q (F0 m 71 ls []))
    (kk83 : ∀ (fd : Int32) (H : Heap) (locs : List Loc) (ls : Array Slot), (fd = -1 ∨ ∃ c, fd = nI c ∧ 2 ≤ c ∧ c < 802 ∧ e9.tv c = 0) → va_P (dC, dI) vwCl [(h0, .inr (2, [.ref g0, .ref g1, .ref g2, .int (nI a.n)])), (g0, .inl (y0, a.la, .inl a.sf)), (g1, .inl (y1, a.la, .inl a.kf)), (g2, .inl (y2, a.lc, .inl a.cf)), (k0, .inr (0, [.ref h0, .ref t9])), (t9, .inr (4, [.ref u5, .ref u6, .ref u7, .ref u8, .ref u9, .int (nI e9.k), .int (nI e9.fo), .int (nI e9.lev), .int (nI e9.low)])), (u5, .inl (z5, 802, .inl e9.tv)), (u6, .inl (z6, 401, .inl e9.ov)), (u7, .inl (z7, 401, .inl e9.lv)), (u8, .inl (z8, 401, .inl e9.rv)), (u9, .inl (z9, 402, .inl e9.sv))] H → va_D A [(h0, .inr (2, [.ref g0, .ref g1, .ref g2, .int (nI a.n)])), (g0, .inl (y0, a.la, .inl a.sf)), (g1, .inl (y1, a.la, .inl a.kf)), (g2, .inl (y2, a.lc, .inl a.cf)), (k0, .inr (0, [.ref h0, .ref t9])), (t9, .inr (4, [.ref u5, .ref u6, .ref u7, .ref u8, .ref u9, .int (nI e9.k), .int (nI e9.fo), .int (nI e9.lev), .int (nI e9.low)])), (u5, .inl (z5, 802, .inl e9.tv)), (u6, .inl (z6, 401, .inl e9.ov)), (u7, .inl (z7, 401, .inl e9.lv)), (u8, .inl (z8, 401, .inl e9.rv)), (u9, .inl (z9, 402, .inl e9.sv))] → va_S A H0 H locs → lv_has ls 5 [(0, .ref k0), (2, .int fd)] → W p l e R s m args below meth c H locs cells slots Q (F0 m 83 ls []))
    : ∀ (f : Nat) (ix : Nat) (fd : Int32) (H : Heap) (locs : List Loc) (ls : Array Slot), a.S (r + 1) - ix < f → (a.S r ≤ ix) → (ix ≤ a.S (r + 1)) → (fd = -1 ∨ ∃ c, fd = nI c ∧ 2 ≤ c ∧ c < 802 ∧ e9.tv c = 0) → va_P (dC, dI) vwCl [(h0, .inr (2, [.ref g0, .ref g1, .ref g2, .int (nI a.n)])), (g0, .inl (y0, a.la, .inl a.sf)), (g1, .inl (y1, a.la, .inl a.kf)), (g2, .inl (y2, a.lc, .inl a.cf)), (k0, .inr (0, [.ref h0, .ref t9])), (t9, .inr (4, [.ref u5, .ref u6, .ref u7, .ref u8, .ref u9, .int (nI e9.k), .int (nI e9.fo), .int (nI e9.lev), .int (nI e9.low)])), (u5, .inl (z5, 802, .inl e9.tv)), (u6, .inl (z6, 401, .inl e9.ov)), (u7, .inl (z7, 401, .inl e9.lv)), (u8, .inl (z8, 401, .inl e9.rv)), (u9, .inl (z9, 402, .inl e9.sv))] H → va_D A [(h0, .inr (2, [.ref g0, .ref g1, .ref g2, .int (nI a.n)])), (g0, .inl (y0, a.la, .inl a.sf)), (g1, .inl (y1, a.la, .inl a.kf)), (g2, .inl (y2, a.lc, .inl a.cf)), (k0, .inr (0, [.ref h0, .ref t9])), (t9, .inr (4, [.ref u5, .ref u6, .ref u7, .ref u8, .ref u9, .int (nI e9.k), .int (nI e9.fo), .int (nI e9.lev), .int (nI e9.low)])), (u5, .inl (z5, 802, .inl e9.tv)), (u6, .inl (z6, 401, .inl e9.ov)), (u7, .inl (z7, 401, .inl e9.lv)), (u8, .inl (z8, 401, .inl e9.rv)), (u9, .inl (z9, 402, .inl e9.sv))] → va_S A H0 H locs → lv_has ls 5 [(0, .ref k0), (1, .int (nI r)), (2, .int fd), (3, .int (nI ix))] → W p l e R s m args below meth c H locs cells slots Q (F0 m 12 ls []) := by
  intro f
  induction f with
  | zero => intro ix fd H locs ls q0 q1 q2 hfd hP hD hS hl; exact absurd q0 (Nat.not_lt_zero _)
  | succ f ih =>
    intro ix fd H locs ls q0 q1 q2 hfd hP hD hS hl
    obtain ⟨i1, i2, i3, i4, i5, i6⟩ := hR.inb hr9
    refine lv_iload_n hx hb d_Ck_onlyCodeLeft_12 rfl (lv_at hl 3 rfl) ?_
    refine lv_aload_n hx hb d_Ck_onlyCodeLeft_13 rfl (lv_at hl 0 rfl) ?_
    refine va_get (D := (dC, dI)) (ci := 0) (v := .ref h0) (C := R_Ck) (T := F_Ck) (N := 2) hx hb hw in_Ck hown hK hP 4 rfl rfl 0 (by decide) (hw (Cond.fieldLink "ClauseSearch$Check" 9 "ClauseSearch$Check" "rows" "LClauseSearch$Rows;") k_210) (fun _ h9 => h9) rfl d_Ck_onlyCodeLeft_14 ?_
    refine va_getN (D := (dC, dI)) (ci := 2) (v := .ref g0) (C := R_Rw) (T := F_Rw) (N := 4) hx hb hw in_Rw hown hK hP 0 rfl rfl 0 (by decide) (hw (Cond.fieldLinkNest "ClauseSearch$Check" 49 "ClauseSearch$Rows" "start" "[I" "ClauseSearch") k_62) (fun _ h9 => h9) rfl d_Ck_onlyCodeLeft_17 ?_
    refine lv_iload_n hx hb d_Ck_onlyCodeLeft_20 rfl (lv_at hl 1 rfl) ?_
    refine lv_iconst (v := nI 1) hx hb d_Ck_onlyCodeLeft_21 (by decide) ?_
    refine lv_iadd hx hb d_Ck_onlyCodeLeft_22 ?_
    refine lv_topi (fun y_1 ey_1 => ?_)
    obtain rfl : y_1 = nI (r + 1) := ey_1.trans (nI_add r 1)
    refine va_iald hx hb hK hP 1 0 rfl rfl (vp_in_nI (by omega) (by omega)) d_Ck_onlyCodeLeft_23 ?_
    refine lv_topi (fun y_2 ey_2 => ?_)
    rw [nI_clamp (by omega)] at ey_2
    rw [hR.sf _ (by omega)] at ey_2
    subst ey_2
    refine lv_icmp_ge (tgt := 83) hx hb d_Ck_onlyCodeLeft_24 (by decide) (fun c_24 => ?_) (fun c_24 => ?_)
    · have c_24 : a.S (r + 1) ≤ ix := (nI_leI (a := a.S (r + 1)) (b := ix) (by omega) (by omega)).mp c_24
      exact kk83 fd _ _ ls hfd hP hD hS (lv_sub hl [0, 2] rfl)
    · have c_24 : ¬ (a.S (r + 1) ≤ ix) := fun qq9 => c_24 ((nI_leI (a := a.S (r + 1)) (b := ix) (by omega) (by omega)).mpr qq9)
      refine lv_aload_n hx hb d_Ck_onlyCodeLeft_27 rfl (lv_at hl 0 rfl) ?_
      refine va_get (D := (dC, dI)) (ci := 0) (v := .ref h0) (C := R_Ck) (T := F_Ck) (N := 2) hx hb hw in_Ck hown hK hP 4 rfl rfl 0 (by decide) (hw (Cond.fieldLink "ClauseSearch$Check" 9 "ClauseSearch$Check" "rows" "LClauseSearch$Rows;") k_210) (fun _ h9 => h9) rfl d_Ck_onlyCodeLeft_28 ?_
      refine va_getN (D := (dC, dI)) (ci := 2) (v := .ref g2) (C := R_Rw) (T := F_Rw) (N := 4) hx hb hw in_Rw hown hK hP 0 rfl rfl 2 (by decide) (hw (Cond.fieldLinkNest "ClauseSearch$Check" 54 "ClauseSearch$Rows" "codes" "[I" "ClauseSearch") k_70) (fun _ h9 => h9) rfl d_Ck_onlyCodeLeft_31 ?_
      refine lv_iload_n hx hb d_Ck_onlyCodeLeft_34 rfl (lv_at hl 3 rfl) ?_
      refine va_iald hx hb hK hP 3 2 rfl rfl (vp_in_nI (by omega) (by omega)) d_Ck_onlyCodeLeft_35 ?_
      refine lv_topi (fun y_3 ey_3 => ?_)
      rw [nI_clamp (by omega)] at ey_3
      have j1 := (hR.cf ix (by omega)).2
      rw [(hR.cf _ (by omega)).1] at ey_3
      subst ey_3
      refine lv_istore (lv' := [(4, .int (nI (a.C ix))), (0, .ref k0), (1, .int (nI r)), (2, .int fd), (3, .int (nI ix))]) hx hb d_Ck_onlyCodeLeft_36 hl (by decide) rfl (fun ls hl => ?_)
      refine lv_aload_n hx hb d_Ck_onlyCodeLeft_38 rfl (lv_at hl 1 rfl) ?_
      refine va_get (D := (dC, dI)) (ci := 0) (v := .ref t9) (C := R_Ck) (T := F_Ck) (N := 2) hx hb hw in_Ck hown hK hP 4 rfl rfl 1 (by decide) (hw (Cond.fieldLink "ClauseSearch$Check" 18 "ClauseSearch$Check" "trail" "LClauseSearch$Trail;") k_211) (fun _ h9 => h9) rfl d_Ck_onlyCodeLeft_39 ?_
      refine va_getN (D := (dC, dI)) (ci := 4) (v := .ref u5) (C := R_Tr) (T := F_Tr) (N := 9) hx hb hw in_Tr hown hK hP 5 rfl rfl 0 (by decide) (hw (Cond.fieldLinkNest "ClauseSearch$Check" 55 "ClauseSearch$Trail" "truth" "[B" "ClauseSearch") k_97) (fun _ h9 => h9) rfl d_Ck_onlyCodeLeft_42 ?_
      refine lv_iload hx hb d_Ck_onlyCodeLeft_45 (lv_at hl 0 rfl) ?_
      refine va_bald hx hb hK hP 6 3 rfl rfl (vp_in_nI (by omega) (by omega)) d_Ck_onlyCodeLeft_47 ?_
      refine lv_topi (fun y_4 ey_4 => ?_)
      rw [nI_clamp (by omega)] at ey_4
      subst ey_4
      refine lv_iconst (v := 2) hx hb d_Ck_onlyCodeLeft_48 (by decide) ?_
      refine lv_icmp_eq (tgt := 77) hx hb d_Ck_onlyCodeLeft_49 (by decide) (fun c_49 => ?_) (fun c_49 => ?_)
      · refine lv_iinc (v := nI (ix + 1)) (lv' := [(3, .int (nI (ix + 1))), (4, .int (nI (a.C ix))), (0, .ref k0), (1, .int (nI r)), (2, .int fd)]) hx hb d_Ck_onlyCodeLeft_77 hl (k := 4) rfl (nI_1 ix) (by decide) rfl (fun ls hl => ?_)
        refine lv_goto (tgt := 12) hx hb d_Ck_onlyCodeLeft_80 (by decide) ?_
        exact ih (ix + 1) fd _ _ ls (by omega) (by omega) (by omega) hfd hP hD hS (lv_sub hl [2, 3, 4, 0] rfl)
      · refine lv_iload_n hx hb d_Ck_onlyCodeLeft_52 rfl (lv_at hl 3 rfl) ?_
        refine lv_iconst (v := (-1)) hx hb d_Ck_onlyCodeLeft_53 (by decide) ?_
        refine lv_icmp_ne (tgt := 71) hx hb d_Ck_onlyCodeLeft_54 (by decide) (fun c_54 => ?_) (fun c_54 => ?_)
        · exact kk71  _ _ ls  hP hD hS (lv_sub hl [1] rfl)
        · refine lv_aload_n hx hb d_Ck_onlyCodeLeft_57 rfl (lv_at hl 1 rfl) ?_
          refine va_get (D := (dC, dI)) (ci := 0) (v := .ref t9) (C := R_Ck) (T := F_Ck) (N := 2) hx hb hw in_Ck hown hK hP 4 rfl rfl 1 (by decide) (hw (Cond.fieldLink "ClauseSearch$Check" 18 "ClauseSearch$Check" "trail" "LClauseSearch$Trail;") k_211) (fun _ h9 => h9) rfl d_Ck_onlyCodeLeft_58 ?_
          refine va_getN (D := (dC, dI)) (ci := 4) (v := .ref u5) (C := R_Tr) (T := F_Tr) (N := 9) hx hb hw in_Tr hown hK hP 5 rfl rfl 0 (by decide) (hw (Cond.fieldLinkNest "ClauseSearch$Check" 55 "ClauseSearch$Trail" "truth" "[B" "ClauseSearch") k_97) (fun _ h9 => h9) rfl d_Ck_onlyCodeLeft_61 ?_
          refine lv_iload hx hb d_Ck_onlyCodeLeft_64 (lv_at hl 0 rfl) ?_
          refine va_bald hx hb hK hP 6 3 rfl rfl (vp_in_nI (by omega) (by omega)) d_Ck_onlyCodeLeft_66 ?_
          refine lv_topi (fun y_5 ey_5 => ?_)
          rw [nI_clamp (by omega)] at ey_5
          subst ey_5
          refine lv_iconst (v := 1) hx hb d_Ck_onlyCodeLeft_67 (by decide) ?_
          refine lv_icmp_ne (tgt := 74) hx hb d_Ck_onlyCodeLeft_68 (by decide) (fun c_68 => ?_) (fun c_68 => ?_)
          · refine lv_iload hx hb d_Ck_onlyCodeLeft_74 (lv_at hl 0 rfl) ?_
            refine lv_istore_n (lv' := [(2, .int (nI (a.C ix))), (4, .int (nI (a.C ix))), (0, .ref k0), (1, .int (nI r)), (3, .int (nI ix))]) hx hb d_Ck_onlyCodeLeft_76 rfl hl (by decide) rfl (fun ls hl => ?_)
            refine lv_iinc (v := nI (ix + 1)) (lv' := [(3, .int (nI (ix + 1))), (2, .int (nI (a.C ix))), (4, .int (nI (a.C ix))), (0, .ref k0), (1, .int (nI r))]) hx hb d_Ck_onlyCodeLeft_77 hl (k := 4) rfl (nI_1 ix) (by decide) rfl (fun ls hl => ?_)
            refine lv_goto (tgt := 12) hx hb d_Ck_onlyCodeLeft_80 (by decide) ?_
            exact ih (ix + 1) (nI (a.C ix)) _ _ ls (by omega) (by omega) (by omega) (Or.inr ⟨_, rfl, j1.1, j1.2, (hT.val j1.1 j1.2).resolve_right (fun x => x.elim c_68 c_49)⟩) hP hD hS (lv_sub hl [3, 4, 1, 0] rfl)
          · exact kk71  _ _ ls  hP hD hS (lv_sub hl [1] rfl)

set_option maxHeartbeats 4000000 in
set_option maxRecDepth 100000 in
/-- onlyCodeLeft(r) -/
theorem c_Ck_only (l : Launch) (dC : Nat → ClassId) (dI : Nat → Nat → Nat) (h0 : Nat) (g0 : Nat) (g1 : Nat) (g2 : Nat) (k0 : Nat) (t9 : Nat) (u5 : Nat) (u6 : Nat) (u7 : Nat) (u8 : Nat) (u9 : Nat) (y0 : ClassId) (y1 : ClassId) (y2 : ClassId) (z5 : ClassId) (z6 : ClassId) (z7 : ClassId) (z8 : ClassId) (z9 : ClassId) (sz : Nat) (a : Rx) (e9 : Tx) (r : Nat) (hR : Rok a) (hT : Tok e9) (hr9 : r < a.n) : Met l y_Ck_onlyCodeLeft (wq y_Ck_onlyCodeLeft prog_2_method_3_code 5 (some .int)) ({ frames := 1, cells := 0, slots := 0, locals := 1 }) (va_Pc [.ref k0, .int (nI r)] (fun U => U.heap.size = sz ∧ va_P (dC, dI) vwCl [(h0, .inr (2, [.ref g0, .ref g1, .ref g2, .int (nI a.n)])), (g0, .inl (y0, a.la, .inl a.sf)), (g1, .inl (y1, a.la, .inl a.kf)), (g2, .inl (y2, a.lc, .inl a.cf)), (k0, .inr (0, [.ref h0, .ref t9])), (t9, .inr (4, [.ref u5, .ref u6, .ref u7, .ref u8, .ref u9, .int (nI e9.k), .int (nI e9.fo), .int (nI e9.lev), .int (nI e9.low)])), (u5, .inl (z5, 802, .inl e9.tv)), (u6, .inl (z6, 401, .inl e9.ov)), (u7, .inl (z7, 401, .inl e9.lv)), (u8, .inl (z8, 401, .inl e9.rv)), (u9, .inl (z9, 402, .inl e9.sv))] U.heap ∧ va_K (dC, dI) vwCl [(y0, .int), (y1, .int), (y2, .int), (z5, .byte), (z6, .int), (z7, .int), (z8, .int), (z9, .int)] U ∧ va_D (fun _ => True) [(h0, .inr (2, [.ref g0, .ref g1, .ref g2, .int (nI a.n)])), (g0, .inl (y0, a.la, .inl a.sf)), (g1, .inl (y1, a.la, .inl a.kf)), (g2, .inl (y2, a.lc, .inl a.cf)), (k0, .inr (0, [.ref h0, .ref t9])), (t9, .inr (4, [.ref u5, .ref u6, .ref u7, .ref u8, .ref u9, .int (nI e9.k), .int (nI e9.fo), .int (nI e9.lev), .int (nI e9.low)])), (u5, .inl (z5, 802, .inl e9.tv)), (u6, .inl (z6, 401, .inl e9.ov)), (u7, .inl (z7, 401, .inl e9.lv)), (u8, .inl (z8, 401, .inl e9.rv)), (u9, .inl (z9, 402, .inl e9.sv))])) (va_Qi (fun (r : Int32) (r9 : Int32) => r = r9) (fun (r9 : Int32) t => (r9 = -1 ∨ r9 = -2 ∨ ∃ c, r9 = nI c ∧ 2 ≤ c ∧ c < 802 ∧ e9.tv c = 0) ∧ va_P (dC, dI) vwCl [(h0, .inr (2, [.ref g0, .ref g1, .ref g2, .int (nI a.n)])), (g0, .inl (y0, a.la, .inl a.sf)), (g1, .inl (y1, a.la, .inl a.kf)), (g2, .inl (y2, a.lc, .inl a.cf)), (k0, .inr (0, [.ref h0, .ref t9])), (t9, .inr (4, [.ref u5, .ref u6, .ref u7, .ref u8, .ref u9, .int (nI e9.k), .int (nI e9.fo), .int (nI e9.lev), .int (nI e9.low)])), (u5, .inl (z5, 802, .inl e9.tv)), (u6, .inl (z6, 401, .inl e9.ov)), (u7, .inl (z7, 401, .inl e9.lv)), (u8, .inl (z8, 401, .inl e9.rv)), (u9, .inl (z9, 402, .inl e9.sv))] t.heap ∧ va_K (dC, dI) vwCl [(y0, .int), (y1, .int), (y2, .int), (z5, .byte), (z6, .int), (z7, .int), (z8, .int), (z9, .int)] t ∧ va_D (va_A [(h0, .inr (2, [.ref g0, .ref g1, .ref g2, .int (nI a.n)])), (g0, .inl (y0, a.la, .inl a.sf)), (g1, .inl (y1, a.la, .inl a.kf)), (g2, .inl (y2, a.lc, .inl a.cf)), (k0, .inr (0, [.ref h0, .ref t9])), (t9, .inr (4, [.ref u5, .ref u6, .ref u7, .ref u8, .ref u9, .int (nI e9.k), .int (nI e9.fo), .int (nI e9.lev), .int (nI e9.low)])), (u5, .inl (z5, 802, .inl e9.tv)), (u6, .inl (z6, 401, .inl e9.ov)), (u7, .inl (z7, 401, .inl e9.lv)), (u8, .inl (z8, 401, .inl e9.rv)), (u9, .inl (z9, 402, .inl e9.sv))] sz) [(h0, .inr (2, [.ref g0, .ref g1, .ref g2, .int (nI a.n)])), (g0, .inl (y0, a.la, .inl a.sf)), (g1, .inl (y1, a.la, .inl a.kf)), (g2, .inl (y2, a.lc, .inl a.cf)), (k0, .inr (0, [.ref h0, .ref t9])), (t9, .inr (4, [.ref u5, .ref u6, .ref u7, .ref u8, .ref u9, .int (nI e9.k), .int (nI e9.fo), .int (nI e9.lev), .int (nI e9.low)])), (u5, .inl (z5, 802, .inl e9.tv)), (u6, .inl (z6, 401, .inl e9.ov)), (u7, .inl (z7, 401, .inl e9.lv)), (u8, .inl (z8, 401, .inl e9.rv)), (u9, .inl (z9, 402, .inl e9.sv))]) (va_A [(h0, .inr (2, [.ref g0, .ref g1, .ref g2, .int (nI a.n)])), (g0, .inl (y0, a.la, .inl a.sf)), (g1, .inl (y1, a.la, .inl a.kf)), (g2, .inl (y2, a.lc, .inl a.cf)), (k0, .inr (0, [.ref h0, .ref t9])), (t9, .inr (4, [.ref u5, .ref u6, .ref u7, .ref u8, .ref u9, .int (nI e9.k), .int (nI e9.fo), .int (nI e9.lev), .int (nI e9.low)])), (u5, .inl (z5, 802, .inl e9.tv)), (u6, .inl (z6, 401, .inl e9.ov)), (u7, .inl (z7, 401, .inl e9.lv)), (u8, .inl (z8, 401, .inl e9.rv)), (u9, .inl (z9, 402, .inl e9.sv))] sz)) (0) (0) (va_A [(h0, .inr (2, [.ref g0, .ref g1, .ref g2, .int (nI a.n)])), (g0, .inl (y0, a.la, .inl a.sf)), (g1, .inl (y1, a.la, .inl a.kf)), (g2, .inl (y2, a.lc, .inl a.cf)), (k0, .inr (0, [.ref h0, .ref t9])), (t9, .inr (4, [.ref u5, .ref u6, .ref u7, .ref u8, .ref u9, .int (nI e9.k), .int (nI e9.fo), .int (nI e9.lev), .int (nI e9.low)])), (u5, .inl (z5, 802, .inl e9.tv)), (u6, .inl (z6, 401, .inl e9.ov)), (u7, .inl (z7, 401, .inl e9.lv)), (u8, .inl (z8, 401, .inl e9.rv)), (u9, .inl (z9, 402, .inl e9.sv))] sz) := by
  refine Met.ofW (cc := prog_2_method_3_code) (maxL := 5) (ret := (some .int)) (by decide) rfl ?_
  intro p e s m args below meth c s₁ B hml hv
  obtain ⟨rfl, hsz, hP, hK, hD0⟩ := hv
  have hx := B.exec
  have hb := B.bytes
  have hr := B.returns
  have hw : ∀ w ∈ bg_W, w.before #[Value.ref k0, Value.int (nI r)] s = true := fun w h => atoms_spec (ws := (wq y_Ck_onlyCodeLeft prog_2_method_3_code 5 (some .int))) B.pre w (List.mem_cons_of_mem _ h)
  have hown : s.vm.findClass R_Ck = some m.cls := findClass_of_methodNamed B.named
  have hlocks := B.notSynchronized
  subst hsz
  have hD := hD0.self (sz := s.heap.size)
  generalize hAe : va_A [(h0, .inr (2, [.ref g0, .ref g1, .ref g2, .int (nI a.n)])), (g0, .inl (y0, a.la, .inl a.sf)), (g1, .inl (y1, a.la, .inl a.kf)), (g2, .inl (y2, a.lc, .inl a.cf)), (k0, .inr (0, [.ref h0, .ref t9])), (t9, .inr (4, [.ref u5, .ref u6, .ref u7, .ref u8, .ref u9, .int (nI e9.k), .int (nI e9.fo), .int (nI e9.lev), .int (nI e9.low)])), (u5, .inl (z5, 802, .inl e9.tv)), (u6, .inl (z6, 401, .inl e9.ov)), (u7, .inl (z7, 401, .inl e9.lv)), (u8, .inl (z8, 401, .inl e9.rv)), (u9, .inl (z9, 402, .inl e9.sv))] s.heap.size = A at hD ⊢
  have hA : ∀ q : Nat, s.heap.size ≤ q → A q := fun q h => by rw [← hAe]; exact Or.inr h
  have hS : va_S A s.heap s.heap [] := va_S.rf
  have hP : va_P (dC, dI) vwCl [(h0, .inr (2, [.ref g0, .ref g1, .ref g2, .int (nI a.n)])), (g0, .inl (y0, a.la, .inl a.sf)), (g1, .inl (y1, a.la, .inl a.kf)), (g2, .inl (y2, a.lc, .inl a.cf)), (k0, .inr (0, [.ref h0, .ref t9])), (t9, .inr (4, [.ref u5, .ref u6, .ref u7, .ref u8, .ref u9, .int (nI e9.k), .int (nI e9.fo), .int (nI e9.lev), .int (nI e9.low)])), (u5, .inl (z5, 802, .inl e9.tv)), (u6, .inl (z6, 401, .inl e9.ov)), (u7, .inl (z7, 401, .inl e9.lv)), (u8, .inl (z8, 401, .inl e9.rv)), (u9, .inl (z9, 402, .inl e9.sv))] s.heap := hP
  have hl := lv_entry ([.ref k0, .int (nI r)]) (n := 5) (Nat.le_of_ble_eq_true rfl)
  rw [lg_entry_eq]
  generalize (lg_sl ([.ref k0, .int (nI r)]) ++ List.replicate (5 - (lg_sl ([.ref k0, .int (nI r)])).length) Slot.unset).toArray = ls at hl ⊢
  have hl : lv_has ls 5 [(0, .ref k0), (1, .int (nI r))] := hl
  obtain ⟨H, hH⟩ : ∃ H : Heap, H = s.heap := ⟨_, rfl⟩
  rw [← hH] at hP
  have hS : va_S A s.heap H [] := by rw [hH]; exact va_S.rf
  show W p l e _ s m _ below meth c s.heap [] 0 0 _ _
  rw [← hH]
  obtain ⟨i1, i2, i3, i4, i5, i6⟩ := hR.inb hr9
  refine lv_iconst (v := (-1)) hx hb d_Ck_onlyCodeLeft_0 (by decide) ?_
  refine lv_istore_n (lv' := [(2, .int (-1)), (0, .ref k0), (1, .int (nI r))]) hx hb d_Ck_onlyCodeLeft_1 rfl hl (by decide) rfl (fun ls hl => ?_)
  refine lv_aload_n hx hb d_Ck_onlyCodeLeft_2 rfl (lv_at hl 1 rfl) ?_
  refine va_get (D := (dC, dI)) (ci := 0) (v := .ref h0) (C := R_Ck) (T := F_Ck) (N := 2) hx hb hw in_Ck hown hK hP 4 rfl rfl 0 (by decide) (hw (Cond.fieldLink "ClauseSearch$Check" 9 "ClauseSearch$Check" "rows" "LClauseSearch$Rows;") k_210) (fun _ h9 => h9) rfl d_Ck_onlyCodeLeft_3 ?_
  refine va_getN (D := (dC, dI)) (ci := 2) (v := .ref g0) (C := R_Rw) (T := F_Rw) (N := 4) hx hb hw in_Rw hown hK hP 0 rfl rfl 0 (by decide) (hw (Cond.fieldLinkNest "ClauseSearch$Check" 49 "ClauseSearch$Rows" "start" "[I" "ClauseSearch") k_62) (fun _ h9 => h9) rfl d_Ck_onlyCodeLeft_6 ?_
  refine lv_iload_n hx hb d_Ck_onlyCodeLeft_9 rfl (lv_at hl 2 rfl) ?_
  refine va_iald hx hb hK hP 1 0 rfl rfl (vp_in_nI (by omega) (by omega)) d_Ck_onlyCodeLeft_10 ?_
  refine lv_topi (fun y_1 ey_1 => ?_)
  rw [nI_clamp (by omega)] at ey_1
  rw [hR.sf _ (by omega)] at ey_1
  subst ey_1
  refine lv_istore_n (lv' := [(3, .int (nI (a.S r))), (2, .int (-1)), (0, .ref k0), (1, .int (nI r))]) hx hb d_Ck_onlyCodeLeft_11 rfl hl (by decide) rfl (fun ls hl => ?_)
  refine l_only (a := a) (e9 := e9) (r := r) hx hb hml hw hown (hK.sub (tys' := [(y0, .int), (y1, .int), (y2, .int), (z5, .byte), (z6, .int), (z7, .int), (z8, .int), (z9, .int)]) [0, 1, 2, 3, 4, 5, 6, 7] rfl) hA (Nat.le_of_ble_eq_true rfl) (Nat.le_of_ble_eq_true rfl) (Nat.le_of_ble_eq_true rfl) (Nat.le_of_ble_eq_true rfl) hR hT hr9 (fun  H1 locs ls  hP1 hD1 hS hl => ?_) (fun g_2 H1 locs ls f_3 hP1 hD1 hS hl => ?_) (_) (a.S r) (-1) _ _ ls (Nat.lt_succ_self _) (Nat.le_refl _) (by omega) (Or.inl rfl) (hP.sub (ws' := [(h0, .inr (2, [.ref g0, .ref g1, .ref g2, .int (nI a.n)])), (g0, .inl (y0, a.la, .inl a.sf)), (g1, .inl (y1, a.la, .inl a.kf)), (g2, .inl (y2, a.lc, .inl a.cf)), (k0, .inr (0, [.ref h0, .ref t9])), (t9, .inr (4, [.ref u5, .ref u6, .ref u7, .ref u8, .ref u9, .int (nI e9.k), .int (nI e9.fo), .int (nI e9.lev), .int (nI e9.low)])), (u5, .inl (z5, 802, .inl e9.tv)), (u6, .inl (z6, 401, .inl e9.ov)), (u7, .inl (z7, 401, .inl e9.lv)), (u8, .inl (z8, 401, .inl e9.rv)), (u9, .inl (z9, 402, .inl e9.sv))]) [0, 1, 2, 3, 4, 5, 6, 7, 8, 9, 10] rfl) (hD.sub (ws' := [(h0, .inr (2, [.ref g0, .ref g1, .ref g2, .int (nI a.n)])), (g0, .inl (y0, a.la, .inl a.sf)), (g1, .inl (y1, a.la, .inl a.kf)), (g2, .inl (y2, a.lc, .inl a.cf)), (k0, .inr (0, [.ref h0, .ref t9])), (t9, .inr (4, [.ref u5, .ref u6, .ref u7, .ref u8, .ref u9, .int (nI e9.k), .int (nI e9.fo), .int (nI e9.lev), .int (nI e9.low)])), (u5, .inl (z5, 802, .inl e9.tv)), (u6, .inl (z6, 401, .inl e9.ov)), (u7, .inl (z7, 401, .inl e9.lv)), (u8, .inl (z8, 401, .inl e9.rv)), (u9, .inl (z9, 402, .inl e9.sv))]) [0, 1, 2, 3, 4, 5, 6, 7, 8, 9, 10] (by decide) rfl) hS (lv_sub hl [2, 3, 1, 0] rfl)
  · have hP := hP1
    have hD := hD1
    generalize H1 = H at hP hS ⊢
    have hP : va_P (dC, dI) vwCl [(h0, .inr (2, [.ref g0, .ref g1, .ref g2, .int (nI a.n)])), (g0, .inl (y0, a.la, .inl a.sf)), (g1, .inl (y1, a.la, .inl a.kf)), (g2, .inl (y2, a.lc, .inl a.cf)), (k0, .inr (0, [.ref h0, .ref t9])), (t9, .inr (4, [.ref u5, .ref u6, .ref u7, .ref u8, .ref u9, .int (nI e9.k), .int (nI e9.fo), .int (nI e9.lev), .int (nI e9.low)])), (u5, .inl (z5, 802, .inl e9.tv)), (u6, .inl (z6, 401, .inl e9.ov)), (u7, .inl (z7, 401, .inl e9.lv)), (u8, .inl (z8, 401, .inl e9.rv)), (u9, .inl (z9, 402, .inl e9.sv))] H := hP
    have hD : va_D A [(h0, .inr (2, [.ref g0, .ref g1, .ref g2, .int (nI a.n)])), (g0, .inl (y0, a.la, .inl a.sf)), (g1, .inl (y1, a.la, .inl a.kf)), (g2, .inl (y2, a.lc, .inl a.cf)), (k0, .inr (0, [.ref h0, .ref t9])), (t9, .inr (4, [.ref u5, .ref u6, .ref u7, .ref u8, .ref u9, .int (nI e9.k), .int (nI e9.fo), .int (nI e9.lev), .int (nI e9.low)])), (u5, .inl (z5, 802, .inl e9.tv)), (u6, .inl (z6, 401, .inl e9.ov)), (u7, .inl (z7, 401, .inl e9.lv)), (u8, .inl (z8, 401, .inl e9.rv)), (u9, .inl (z9, 402, .inl e9.sv))] := hD
    refine lv_bipush (v := (-2)) hx hb d_Ck_onlyCodeLeft_71 (by decide) ?_
    have hK := hK.sub (tys' := [(y0, .int), (y1, .int), (y2, .int), (z5, .byte), (z6, .int), (z7, .int), (z8, .int), (z9, .int)]) [0, 1, 2, 3, 4, 5, 6, 7] rfl
    refine W.widen (k := 0) (n := 0) (by decide) (by decide) ?_
    exact W.iret (v := (-2)) hx hb hr (fun t ht hW => ⟨⟨(-2), (-2), rfl, rfl, (Or.inr (Or.inl rfl)), by rw [ht]; exact hP, va_K.moved hW.alike hK, hD⟩, hS.F ht⟩) hS.2.2 d_Ck_onlyCodeLeft_73
  · have hP := hP1
    have hD := hD1
    generalize H1 = H at hP hS ⊢
    have hP : va_P (dC, dI) vwCl [(h0, .inr (2, [.ref g0, .ref g1, .ref g2, .int (nI a.n)])), (g0, .inl (y0, a.la, .inl a.sf)), (g1, .inl (y1, a.la, .inl a.kf)), (g2, .inl (y2, a.lc, .inl a.cf)), (k0, .inr (0, [.ref h0, .ref t9])), (t9, .inr (4, [.ref u5, .ref u6, .ref u7, .ref u8, .ref u9, .int (nI e9.k), .int (nI e9.fo), .int (nI e9.lev), .int (nI e9.low)])), (u5, .inl (z5, 802, .inl e9.tv)), (u6, .inl (z6, 401, .inl e9.ov)), (u7, .inl (z7, 401, .inl e9.lv)), (u8, .inl (z8, 401, .inl e9.rv)), (u9, .inl (z9, 402, .inl e9.sv))] H := hP
    have hD : va_D A [(h0, .inr (2, [.ref g0, .ref g1, .ref g2, .int (nI a.n)])), (g0, .inl (y0, a.la, .inl a.sf)), (g1, .inl (y1, a.la, .inl a.kf)), (g2, .inl (y2, a.lc, .inl a.cf)), (k0, .inr (0, [.ref h0, .ref t9])), (t9, .inr (4, [.ref u5, .ref u6, .ref u7, .ref u8, .ref u9, .int (nI e9.k), .int (nI e9.fo), .int (nI e9.lev), .int (nI e9.low)])), (u5, .inl (z5, 802, .inl e9.tv)), (u6, .inl (z6, 401, .inl e9.ov)), (u7, .inl (z7, 401, .inl e9.lv)), (u8, .inl (z8, 401, .inl e9.rv)), (u9, .inl (z9, 402, .inl e9.sv))] := hD
    refine lv_iload_n hx hb d_Ck_onlyCodeLeft_83 rfl (lv_at hl 1 rfl) ?_
    have hK := hK.sub (tys' := [(y0, .int), (y1, .int), (y2, .int), (z5, .byte), (z6, .int), (z7, .int), (z8, .int), (z9, .int)]) [0, 1, 2, 3, 4, 5, 6, 7] rfl
    refine W.widen (k := 0) (n := 0) (by decide) (by decide) ?_
    exact W.iret (v := g_2) hx hb hr (fun t ht hW => ⟨⟨g_2, g_2, rfl, rfl, (f_3.elim Or.inl (fun x => Or.inr (Or.inr x))), by rw [ht]; exact hP, va_K.moved hW.alike hK, hD⟩, hS.F ht⟩) hS.2.2 d_Ck_onlyCodeLeft_84
