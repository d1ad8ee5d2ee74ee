abbrev y_Ls_join : MethodName := ⟨"ClauseSearch$Lesson", "join", "(I)V"⟩
theorem k_63 : (Cond.fieldLinkNest "ClauseSearch$Lesson" 56 "ClauseSearch$Rows" "start" "[I" "ClauseSearch") ∈ bg_W := bg_in 63 (by decide +kernel) (by decide +kernel)
theorem k_71 : (Cond.fieldLinkNest "ClauseSearch$Lesson" 61 "ClauseSearch$Rows" "codes" "[I" "ClauseSearch") ∈ bg_W := bg_in 71 (by decide +kernel) (by decide +kernel)
theorem k_104 : (Cond.fieldLinkNest "ClauseSearch$Lesson" 62 "ClauseSearch$Trail" "levelOf" "[I" "ClauseSearch") ∈ bg_W := bg_in 104 (by decide +kernel) (by decide +kernel)
theorem k_115 : (Cond.fieldLinkNest "ClauseSearch$Lesson" 65 "ClauseSearch$Trail" "level" "I" "ClauseSearch") ∈ bg_W := bg_in 115 (by decide +kernel) (by decide +kernel)
theorem k_170 : (Cond.fieldLink "ClauseSearch$Lesson" 9 "ClauseSearch$Lesson" "rows" "LClauseSearch$Rows;") ∈ bg_W := bg_in 170 (by decide +kernel) (by decide +kernel)
theorem k_171 : (Cond.fieldLink "ClauseSearch$Lesson" 15 "ClauseSearch$Lesson" "trail" "LClauseSearch$Trail;") ∈ bg_W := bg_in 171 (by decide +kernel) (by decide +kernel)
theorem k_172 : (Cond.fieldLink "ClauseSearch$Lesson" 19 "ClauseSearch$Lesson" "seen" "[Z") ∈ bg_W := bg_in 172 (by decide +kernel) (by decide +kernel)
theorem k_173 : (Cond.fieldLink "ClauseSearch$Lesson" 23 "ClauseSearch$Lesson" "codes" "[I") ∈ bg_W := bg_in 173 (by decide +kernel) (by decide +kernel)
theorem k_176 : (Cond.fieldLink "ClauseSearch$Lesson" 27 "ClauseSearch$Lesson" "used" "[I") ∈ bg_W := bg_in 176 (by decide +kernel) (by decide +kernel)
theorem k_178 : (Cond.fieldLink "ClauseSearch$Lesson" 30 "ClauseSearch$Lesson" "size" "I") ∈ bg_W := bg_in 178 (by decide +kernel) (by decide +kernel)
theorem k_181 : (Cond.fieldLink "ClauseSearch$Lesson" 34 "ClauseSearch$Lesson" "usedSize" "I") ∈ bg_W := bg_in 181 (by decide +kernel) (by decide +kernel)
theorem k_183 : (Cond.fieldLink "ClauseSearch$Lesson" 37 "ClauseSearch$Lesson" "open" "I") ∈ bg_W := bg_in 183 (by decide +kernel) (by decide +kernel)
theorem d_Ls_join_30 : decode prog_3_method_3_code 30 = .ok (.iload_n 2, 1) := by decide +kernel
theorem d_Ls_join_31 : decode prog_3_method_3_code 31 = .ok (.aload_n 0, 1) := by decide +kernel
theorem d_Ls_join_32 : decode prog_3_method_3_code 32 = .ok (.getfield 9, 3) := by decide +kernel
theorem d_Ls_join_35 : decode prog_3_method_3_code 35 = .ok (.getfield 56, 3) := by decide +kernel
theorem d_Ls_join_38 : decode prog_3_method_3_code 38 = .ok (.iload_n 1, 1) := by decide +kernel
theorem d_Ls_join_39 : decode prog_3_method_3_code 39 = .ok (.iconst 1, 1) := by decide +kernel
theorem d_Ls_join_40 : decode prog_3_method_3_code 40 = .ok (.iadd, 1) := by decide +kernel
theorem d_Ls_join_41 : decode prog_3_method_3_code 41 = .ok (.iaload, 1) := by decide +kernel
theorem d_Ls_join_42 : decode prog_3_method_3_code 42 = .ok (.if_icmp .ge 93, 3) := by decide +kernel
theorem d_Ls_join_45 : decode prog_3_method_3_code 45 = .ok (.aload_n 0, 1) := by decide +kernel
theorem d_Ls_join_46 : decode prog_3_method_3_code 46 = .ok (.getfield 9, 3) := by decide +kernel
theorem d_Ls_join_49 : decode prog_3_method_3_code 49 = .ok (.getfield 61, 3) := by decide +kernel
theorem d_Ls_join_52 : decode prog_3_method_3_code 52 = .ok (.iload_n 2, 1) := by decide +kernel
theorem d_Ls_join_53 : decode prog_3_method_3_code 53 = .ok (.iaload, 1) := by decide +kernel
theorem d_Ls_join_54 : decode prog_3_method_3_code 54 = .ok (.istore_n 3, 1) := by decide +kernel
theorem d_Ls_join_55 : decode prog_3_method_3_code 55 = .ok (.aload_n 0, 1) := by decide +kernel
theorem d_Ls_join_56 : decode prog_3_method_3_code 56 = .ok (.getfield 19, 3) := by decide +kernel
theorem d_Ls_join_59 : decode prog_3_method_3_code 59 = .ok (.iload_n 3, 1) := by decide +kernel
theorem d_Ls_join_60 : decode prog_3_method_3_code 60 = .ok (.iconst 1, 1) := by decide +kernel
theorem d_Ls_join_61 : decode prog_3_method_3_code 61 = .ok (.ishr, 1) := by decide +kernel
theorem d_Ls_join_62 : decode prog_3_method_3_code 62 = .ok (.baload, 1) := by decide +kernel
theorem d_Ls_join_63 : decode prog_3_method_3_code 63 = .ok (.ifCond .ne 66, 3) := by decide +kernel
theorem d_Ls_join_129 : decode prog_3_method_3_code 129 = .ok (.iinc 2 1, 3) := by decide +kernel
theorem d_Ls_join_132 : decode prog_3_method_3_code 132 = .ok (.goto (-102), 3) := by decide +kernel
theorem d_Ls_join_66 : decode prog_3_method_3_code 66 = .ok (.aload_n 0, 1) := by decide +kernel
theorem d_Ls_join_67 : decode prog_3_method_3_code 67 = .ok (.getfield 19, 3) := by decide +kernel
theorem d_Ls_join_70 : decode prog_3_method_3_code 70 = .ok (.iload_n 3, 1) := by decide +kernel
theorem d_Ls_join_71 : decode prog_3_method_3_code 71 = .ok (.iconst 1, 1) := by decide +kernel
theorem d_Ls_join_72 : decode prog_3_method_3_code 72 = .ok (.ishr, 1) := by decide +kernel
theorem d_Ls_join_73 : decode prog_3_method_3_code 73 = .ok (.iconst 1, 1) := by decide +kernel
theorem d_Ls_join_74 : decode prog_3_method_3_code 74 = .ok (.bastore, 1) := by decide +kernel
theorem d_Ls_join_75 : decode prog_3_method_3_code 75 = .ok (.aload_n 0, 1) := by decide +kernel
theorem d_Ls_join_76 : decode prog_3_method_3_code 76 = .ok (.getfield 15, 3) := by decide +kernel
theorem d_Ls_join_79 : decode prog_3_method_3_code 79 = .ok (.getfield 62, 3) := by decide +kernel
theorem d_Ls_join_82 : decode prog_3_method_3_code 82 = .ok (.iload_n 3, 1) := by decide +kernel
theorem d_Ls_join_83 : decode prog_3_method_3_code 83 = .ok (.iconst 1, 1) := by decide +kernel
theorem d_Ls_join_84 : decode prog_3_method_3_code 84 = .ok (.ishr, 1) := by decide +kernel
theorem d_Ls_join_85 : decode prog_3_method_3_code 85 = .ok (.iaload, 1) := by decide +kernel
theorem d_Ls_join_86 : decode prog_3_method_3_code 86 = .ok (.aload_n 0, 1) := by decide +kernel
theorem d_Ls_join_87 : decode prog_3_method_3_code 87 = .ok (.getfield 15, 3) := by decide +kernel
theorem d_Ls_join_90 : decode prog_3_method_3_code 90 = .ok (.getfield 65, 3) := by decide +kernel
theorem d_Ls_join_93 : decode prog_3_method_3_code 93 = .ok (.if_icmp .ne 16, 3) := by decide +kernel
theorem d_Ls_join_109 : decode prog_3_method_3_code 109 = .ok (.aload_n 0, 1) := by decide +kernel
theorem d_Ls_join_110 : decode prog_3_method_3_code 110 = .ok (.getfield 23, 3) := by decide +kernel
theorem d_Ls_join_113 : decode prog_3_method_3_code 113 = .ok (.aload_n 0, 1) := by decide +kernel
theorem d_Ls_join_114 : decode prog_3_method_3_code 114 = .ok (.getfield 30, 3) := by decide +kernel
theorem d_Ls_join_117 : decode prog_3_method_3_code 117 = .ok (.iload_n 3, 1) := by decide +kernel
theorem d_Ls_join_118 : decode prog_3_method_3_code 118 = .ok (.iastore, 1) := by decide +kernel
theorem d_Ls_join_119 : decode prog_3_method_3_code 119 = .ok (.aload_n 0, 1) := by decide +kernel
theorem d_Ls_join_120 : decode prog_3_method_3_code 120 = .ok (.dup, 1) := by decide +kernel
theorem d_Ls_join_121 : decode prog_3_method_3_code 121 = .ok (.getfield 30, 3) := by decide +kernel
theorem d_Ls_join_124 : decode prog_3_method_3_code 124 = .ok (.iconst 1, 1) := by decide +kernel
theorem d_Ls_join_125 : decode prog_3_method_3_code 125 = .ok (.iadd, 1) := by decide +kernel
theorem d_Ls_join_126 : decode prog_3_method_3_code 126 = .ok (.putfield 30, 3) := by decide +kernel
theorem d_Ls_join_96 : decode prog_3_method_3_code 96 = .ok (.aload_n 0, 1) := by decide +kernel
theorem d_Ls_join_97 : decode prog_3_method_3_code 97 = .ok (.dup, 1) := by decide +kernel
theorem d_Ls_join_98 : decode prog_3_method_3_code 98 = .ok (.getfield 37, 3) := by decide +kernel
theorem d_Ls_join_101 : decode prog_3_method_3_code 101 = .ok (.iconst 1, 1) := by decide +kernel
theorem d_Ls_join_102 : decode prog_3_method_3_code 102 = .ok (.iadd, 1) := by decide +kernel
theorem d_Ls_join_103 : decode prog_3_method_3_code 103 = .ok (.putfield 37, 3) := by decide +kernel
theorem d_Ls_join_106 : decode prog_3_method_3_code 106 = .ok (.goto 23, 3) := by decide +kernel
theorem d_Ls_join_0 : decode prog_3_method_3_code 0 = .ok (.aload_n 0, 1) := by decide +kernel
theorem d_Ls_join_1 : decode prog_3_method_3_code 1 = .ok (.getfield 27, 3) := by decide +kernel
theorem d_Ls_join_4 : decode prog_3_method_3_code 4 = .ok (.aload_n 0, 1) := by decide +kernel
theorem d_Ls_join_5 : decode prog_3_method_3_code 5 = .ok (.getfield 34, 3) := by decide +kernel
theorem d_Ls_join_8 : decode prog_3_method_3_code 8 = .ok (.iload_n 1, 1) := by decide +kernel
theorem d_Ls_join_9 : decode prog_3_method_3_code 9 = .ok (.iastore, 1) := by decide +kernel
theorem d_Ls_join_10 : decode prog_3_method_3_code 10 = .ok (.aload_n 0, 1) := by decide +kernel
theorem d_Ls_join_11 : decode prog_3_method_3_code 11 = .ok (.dup, 1) := by decide +kernel
theorem d_Ls_join_12 : decode prog_3_method_3_code 12 = .ok (.getfield 34, 3) := by decide +kernel
theorem d_Ls_join_15 : decode prog_3_method_3_code 15 = .ok (.iconst 1, 1) := by decide +kernel
theorem d_Ls_join_16 : decode prog_3_method_3_code 16 = .ok (.iadd, 1) := by decide +kernel
theorem d_Ls_join_17 : decode prog_3_method_3_code 17 = .ok (.putfield 34, 3) := by decide +kernel
theorem d_Ls_join_20 : decode prog_3_method_3_code 20 = .ok (.aload_n 0, 1) := by decide +kernel
theorem d_Ls_join_21 : decode prog_3_method_3_code 21 = .ok (.getfield 9, 3) := by decide +kernel
theorem d_Ls_join_24 : decode prog_3_method_3_code 24 = .ok (.getfield 56, 3) := by decide +kernel
theorem d_Ls_join_27 : decode prog_3_method_3_code 27 = .ok (.iload_n 1, 1) := by decide +kernel
theorem d_Ls_join_28 : decode prog_3_method_3_code 28 = .ok (.iaload, 1) := by decide +kernel
theorem d_Ls_join_29 : decode prog_3_method_3_code 29 = .ok (.istore_n 2, 1) := by decide +kernel
theorem d_Ls_join_135 : decode prog_3_method_3_code 135 = .ok (.return_, 1) := by decide +kernel
set_option maxHeartbeats 4000000 in
set_option maxRecDepth 100000 in
/-- the loop of join -/
theorem l_join {p : Program} {l : Launch} {e : Env} {R : Room} {s : State} {m : MethodId} {args : Array Value} {below : List Frame} {meth : Method} {c : Code} {dC : Nat → ClassId} {dI : Nat → Nat → Nat} {A : Nat → Prop} {Q : State → Prop} {cells slots : Nat} {H0 : Heap} {h0 : Nat} {g0 : Nat} {g1 : Nat} {g2 : Nat} {t0 : Nat} {u0 : Nat} {u1 : Nat} {u2 : Nat} {u3 : Nat} {u4 : Nat} {s0 : Nat} {s1 : Nat} {s2 : Nat} {s3 : Nat} {x2 : ClassId} {x3 : ClassId} {x4 : ClassId} {y0 : ClassId} {y1 : ClassId} {y2 : ClassId} {z0 : ClassId} {z1 : ClassId} {z2 : ClassId} {z3 : ClassId} {z4 : ClassId} {a : Rx} {d : Tx} {r : Nat} {i : Nat} {ep : Nat} {z9 : Lx} (hx : p.tables.exec = Jvm.exec) (hb : c.code = prog_3_method_3_code) (hml : c.maxLocals = 4) (hw : ∀ w ∈ bg_W, w.before args s = true) (hown : s.vm.findClass R_Ls = some m.cls) (hK : va_K (dC, dI) vwCl [(y0, .int), (y1, .int), (y2, .int), (z0, .byte), (z1, .int), (z2, .int), (z3, .int), (z4, .int), (x2, .boolean), (x3, .int), (x4, .int)] s) (hA : ∀ q : Nat, H0.size ≤ q → A q) (hR1 : 1 ≤ R.frames) (hR2 : 1 ≤ R.locals) (hR3 : cells ≤ R.cells) (hR4 : slots ≤ R.slots) (hR : Rok a) (hT : Tok d) (hL : Lok d) (hlev : 1 ≤ d.lev) (hr9 : r < a.n) (hie : i ≤ ep) (hek : ep ≤ d.k)
    (kk135 : ∀ (z : Lx) (H : Heap) (locs : List Loc) (ls : Array Slot), (Jok a d z i ep) → (∀ j, a.S r ≤ j → j < a.S (r + 1) → z.sn (a.C j / 2) ≠ 0) → (∀ v, z9.sn v ≠ 0 → z.sn v ≠ 0) → (z.uz = z9.uz ∧ z.cd 0 = z9.cd 0) → va_P (dC, dI) vwCl [(h0, .inr (2, [.ref g0, .ref g1, .ref g2, .int (nI a.n)])), (g0, .inl (y0, a.la, .inl a.sf)), (g1, .inl (y1, a.la, .inl a.kf)), (g2, .inl (y2, a.lc, .inl a.cf)), (t0, .inr (4, [.ref u0, .ref u1, .ref u2, .ref u3, .ref u4, .int (nI d.k), .int (nI d.fo), .int (nI d.lev), .int (nI d.low)])), (u0, .inl (z0, 802, .inl d.tv)), (u1, .inl (z1, 401, .inl d.ov)), (u2, .inl (z2, 401, .inl d.lv)), (u3, .inl (z3, 401, .inl d.rv)), (u4, .inl (z4, 402, .inl d.sv)), (s0, .inr (1, [.ref h0, .ref t0, .ref s1, .ref s2, .ref s3, .int (nI z.sz), .int (nI z.uz), .int (nI z.op)])), (s1, .inl (x2, 401, .inl z.sn)), (s2, .inl (x3, 401, .inl z.cd)), (s3, .inl (x4, 401, .inl z.us))] H → va_D A [(h0, .inr (2, [.ref g0, .ref g1, .ref g2, .int (nI a.n)])), (g0, .inl (y0, a.la, .inl a.sf)), (g1, .inl (y1, a.la, .inl a.kf)), (g2, .inl (y2, a.lc, .inl a.cf)), (t0, .inr (4, [.ref u0, .ref u1, .ref u2, .ref u3, .ref u4, .int (nI d.k), .int (nI d.fo), .int (nI d.lev), .int (nI d.low)])), (u0, .inl (z0, 802, .inl d.tv)), (u1, .inl (z1, 401, .inl d.ov)), (u2, .inl (z2, 401, .inl d.lv)), (u3, .inl (z3, 401, .inl d.rv)), (u4, .inl (z4, 402, .inl d.sv)), (s0, .inr (1, [.ref h0, .ref t0, .ref s1, .ref s2, .ref s3, .int (nI z.sz), .int (nI z.uz), .int (nI z.op)])), (s1, .inl (x2, 401, .inl z.sn)), (s2, .inl (x3, 401, .inl z.cd)), (s3, .inl (x4, 401, .inl z.us))] → va_S A H0 H locs → lv_has ls 4 [(0, .ref s0)] → W p l e R s m args below meth c H locs cells slots Q (F0 m 135 ls []))
    : ∀ (f : Nat) (ix : Nat) (z : Lx) (H : Heap) (locs : List Loc) (ls : Array Slot), a.S (r + 1) - ix < f → (a.S r ≤ ix) → (ix ≤ a.S (r + 1)) → (Jok a d z i ep) → (Jrow a d z r i) → (∀ j, a.S r ≤ j → j < ix → z.sn (a.C j / 2) ≠ 0) → (∀ v, z9.sn v ≠ 0 → z.sn v ≠ 0) → (z.uz = z9.uz ∧ z.cd 0 = z9.cd 0) → va_P (dC, dI) vwCl [(h0, .inr (2, [.ref g0, .ref g1, .ref g2, .int (nI a.n)])), (g0, .inl (y0, a.la, .inl a.sf)), (g1, .inl (y1, a.la, .inl a.kf)), (g2, .inl (y2, a.lc, .inl a.cf)), (t0, .inr (4, [.ref u0, .ref u1, .ref u2, .ref u3, .ref u4, .int (nI d.k), .int (nI d.fo), .int (nI d.lev), .int (nI d.low)])), (u0, .inl (z0, 802, .inl d.tv)), (u1, .inl (z1, 401, .inl d.ov)), (u2, .inl (z2, 401, .inl d.lv)), (u3, .inl (z3, 401, .inl d.rv)), (u4, .inl (z4, 402, .inl d.sv)), (s0, .inr (1, [.ref h0, .ref t0, .ref s1, .ref s2, .ref s3, .int (nI z.sz), .int (nI z.uz), .int (nI z.op)])), (s1, .inl (x2, 401, .inl z.sn)), (s2, .inl (x3, 401, .inl z.cd)), (s3, .inl (x4, 401, .inl z.us))] H → va_D A [(h0, .inr (2, [.ref g0, .ref g1, .ref g2, .int (nI a.n)])), (g0, .inl (y0, a.la, .inl a.sf)), (g1, .inl (y1, a.la, .inl a.kf)), (g2, .inl (y2, a.lc, .inl a.cf)), (t0, .inr (4, [.ref u0, .ref u1, .ref u2, .ref u3, .ref u4, .int (nI d.k), .int (nI d.fo), .int (nI d.lev), .int (nI d.low)])), (u0, .inl (z0, 802, .inl d.tv)), (u1, .inl (z1, 401, .inl d.ov)), (u2, .inl (z2, 401, .inl d.lv)), (u3, .inl (z3, 401, .inl d.rv)), (u4, .inl (z4, 402, .inl d.sv)), (s0, .inr (1, [.ref h0, .ref t0, .ref s1, .ref s2, .ref s3, .int (nI z.sz), .int (nI z.uz), .int (nI z.op)])), (s1, .inl (x2, 401, .inl z.sn)), (s2, .inl (x3, 401, .inl z.cd)), (s3, .inl (x4, 401, .inl z.us))] → va_S A H0 H locs → lv_has ls 4 [(0, .ref s0), (1, .int (nI r)), (2, .int (nI ix))] → W p l e R s m args below meth c H locs cells slots Q (F0 m 30 ls []) := by
  intro f
  induction f with
  | zero => intro ix z H locs ls q0 q1 q2 hJ hrow hsn hmo huz hP hD hS hl; exact absurd q0 (Nat.not_lt_zero _)
  | succ f ih =>
    intro ix z H locs ls q0 q1 q2 hJ hrow hsn hmo huz hP hD hS hl
    obtain ⟨i1, i2, i3, i4, i5, i6⟩ := hR.inb hr9
    have hle := hL.lev
    have hk4 := hT.k400
    refine lv_iload_n hx hb d_Ls_join_30 rfl (lv_at hl 2 rfl) ?_
    refine lv_aload_n hx hb d_Ls_join_31 rfl (lv_at hl 0 rfl) ?_
    refine va_get (D := (dC, dI)) (ci := 1) (v := .ref h0) (C := R_Ls) (T := F_Ls) (N := 8) hx hb hw in_Ls hown hK hP 10 rfl rfl 0 (by decide) (hw (Cond.fieldLink "ClauseSearch$Lesson" 9 "ClauseSearch$Lesson" "rows" "LClauseSearch$Rows;") k_170) (fun _ h9 => h9) rfl d_Ls_join_32 ?_
    refine va_getN (D := (dC, dI)) (ci := 2) (v := .ref g0) (C := R_Rw) (T := F_Rw) (N := 4) hx hb hw in_Rw hown hK hP 0 rfl rfl 0 (by decide) (hw (Cond.fieldLinkNest "ClauseSearch$Lesson" 56 "ClauseSearch$Rows" "start" "[I" "ClauseSearch") k_63) (fun _ h9 => h9) rfl d_Ls_join_35 ?_
    refine lv_iload_n hx hb d_Ls_join_38 rfl (lv_at hl 1 rfl) ?_
    refine lv_iconst (v := nI 1) hx hb d_Ls_join_39 (by decide) ?_
    refine lv_iadd hx hb d_Ls_join_40 ?_
    refine lv_topi (fun y_1 ey_1 => ?_)
    obtain rfl : y_1 = nI (r + 1) := ey_1.trans (nI_add r 1)
    refine va_iald hx hb hK hP 1 0 rfl rfl (vp_in_nI (by omega) (by omega)) d_Ls_join_41 ?_
    refine lv_topi (fun y_2 ey_2 => ?_)
    rw [nI_clamp (by omega)] at ey_2
    rw [hR.sf _ (by omega)] at ey_2
    subst ey_2
    refine lv_icmp_ge (tgt := 135) hx hb d_Ls_join_42 (by decide) (fun c_42 => ?_) (fun c_42 => ?_)
    · have c_42 : a.S (r + 1) ≤ ix := (nI_leI (a := a.S (r + 1)) (b := ix) (by omega) (by omega)).mp c_42
      exact kk135 z _ _ ls hJ (by rw [show a.S (r + 1) = ix by omega]; exact hsn) hmo huz hP hD hS (lv_sub hl [0] rfl)
    · have c_42 : ¬ (a.S (r + 1) ≤ ix) := fun qq9 => c_42 ((nI_leI (a := a.S (r + 1)) (b := ix) (by omega) (by omega)).mpr qq9)
      refine lv_aload_n hx hb d_Ls_join_45 rfl (lv_at hl 0 rfl) ?_
      refine va_get (D := (dC, dI)) (ci := 1) (v := .ref h0) (C := R_Ls) (T := F_Ls) (N := 8) hx hb hw in_Ls hown hK hP 10 rfl rfl 0 (by decide) (hw (Cond.fieldLink "ClauseSearch$Lesson" 9 "ClauseSearch$Lesson" "rows" "LClauseSearch$Rows;") k_170) (fun _ h9 => h9) rfl d_Ls_join_46 ?_
      refine va_getN (D := (dC, dI)) (ci := 2) (v := .ref g2) (C := R_Rw) (T := F_Rw) (N := 4) hx hb hw in_Rw hown hK hP 0 rfl rfl 2 (by decide) (hw (Cond.fieldLinkNest "ClauseSearch$Lesson" 61 "ClauseSearch$Rows" "codes" "[I" "ClauseSearch") k_71) (fun _ h9 => h9) rfl d_Ls_join_49 ?_
      refine lv_iload_n hx hb d_Ls_join_52 rfl (lv_at hl 2 rfl) ?_
      refine va_iald hx hb hK hP 3 2 rfl rfl (vp_in_nI (by omega) (by omega)) d_Ls_join_53 ?_
      refine lv_topi (fun y_3 ey_3 => ?_)
      rw [nI_clamp (by omega)] at ey_3
      have j1 := (hR.cf ix (by omega)).2
      rw [(hR.cf _ (by omega)).1] at ey_3
      subst ey_3
      refine lv_istore_n (lv' := [(3, .int (nI (a.C ix))), (0, .ref s0), (1, .int (nI r)), (2, .int (nI ix))]) hx hb d_Ls_join_54 rfl hl (by decide) rfl (fun ls hl => ?_)
      refine lv_aload_n hx hb d_Ls_join_55 rfl (lv_at hl 1 rfl) ?_
      refine va_get (D := (dC, dI)) (ci := 1) (v := .ref s1) (C := R_Ls) (T := F_Ls) (N := 8) hx hb hw in_Ls hown hK hP 10 rfl rfl 2 (by decide) (hw (Cond.fieldLink "ClauseSearch$Lesson" 19 "ClauseSearch$Lesson" "seen" "[Z") k_172) (fun _ h9 => h9) rfl d_Ls_join_56 ?_
      refine lv_iload_n hx hb d_Ls_join_59 rfl (lv_at hl 0 rfl) ?_
      refine lv_iconst (v := nI 1) hx hb d_Ls_join_60 (by decide) ?_
      refine lv_ishr hx hb d_Ls_join_61 ?_
      refine lv_topi (fun y_4 ey_4 => ?_)
      obtain rfl : y_4 = nI ((a.C ix) / 2) := ey_4.trans (ni_shr (by omega))
      refine va_zald hx hb hK hP 11 8 rfl rfl (vp_in_nI (by omega) (by omega)) d_Ls_join_62 ?_
      refine lv_topi (fun y_5 ey_5 => ?_)
      rw [nI_clamp (by omega)] at ey_5
      subst ey_5
      refine lv_if_ne (tgt := 129) hx hb d_Ls_join_63 (by decide) (fun c_63 => ?_) (fun c_63 => ?_)
      · refine lv_iinc (v := nI (ix + 1)) (lv' := [(2, .int (nI (ix + 1))), (3, .int (nI (a.C ix))), (0, .ref s0), (1, .int (nI r))]) hx hb d_Ls_join_129 hl (k := 3) rfl (nI_1 ix) (by decide) rfl (fun ls hl => ?_)
        refine lv_goto (tgt := 30) hx hb d_Ls_join_132 (by decide) ?_
        exact ih (ix + 1) z _ _ ls (by omega) (by omega) (by omega) hJ hrow (fun j h1 h2 => by rcases Nat.lt_or_eq_of_le (Nat.le_of_lt_succ h2) with x | x; exact hsn j h1 x; rw [x]; exact c_63) hmo huz hP hD hS (lv_sub hl [2, 3, 0] rfl)
      · obtain ⟨q, hq1, hq2⟩ := hrow ix (by omega) (by omega) c_63
        obtain ⟨hq3, hq4⟩ := jm_up (f := z.sn) hq2
        have hs0 : z.sn (d.O q / 2) = 0 := by rw [← hq3]; exact c_63
        have hv1 := hL.lv q (by omega)
        have hvs := hL.vs q d.lev (by omega) hlev (Nat.le_refl _)
        have hz1 := hJ.sz
        have hz2 := (hJ.ad2 hT hie hek (q := q) (by omega))
        refine lv_aload_n hx hb d_Ls_join_66 rfl (lv_at hl 1 rfl) ?_
        refine va_get (D := (dC, dI)) (ci := 1) (v := .ref s1) (C := R_Ls) (T := F_Ls) (N := 8) hx hb hw in_Ls hown hK hP 10 rfl rfl 2 (by decide) (hw (Cond.fieldLink "ClauseSearch$Lesson" 19 "ClauseSearch$Lesson" "seen" "[Z") k_172) (fun _ h9 => h9) rfl d_Ls_join_67 ?_
        refine lv_iload_n hx hb d_Ls_join_70 rfl (lv_at hl 0 rfl) ?_
        refine lv_iconst (v := nI 1) hx hb d_Ls_join_71 (by decide) ?_
        refine lv_ishr hx hb d_Ls_join_72 ?_
        refine lv_topi (fun y_6 ey_6 => ?_)
        obtain rfl : y_6 = nI ((a.C ix) / 2) := ey_6.trans (ni_shr (by omega))
        refine lv_iconst (v := 1) hx hb d_Ls_join_73 (by decide) ?_
        have en_74 : vp_nar .boolean 1 = 1 := rfl
        refine va_zast hx hb hK hP hD hS 11 8 rfl rfl (vp_in_nI (by omega) (by omega)) d_Ls_join_74 (fun H locs hP hD hS => ?_)
        rw [nI_clamp (n := (a.C ix) / 2) (by omega), en_74] at hP hD
        have hP : va_P (dC, dI) vwCl [(h0, .inr (2, [.ref g0, .ref g1, .ref g2, .int (nI a.n)])), (g0, .inl (y0, a.la, .inl a.sf)), (g1, .inl (y1, a.la, .inl a.kf)), (g2, .inl (y2, a.lc, .inl a.cf)), (t0, .inr (4, [.ref u0, .ref u1, .ref u2, .ref u3, .ref u4, .int (nI d.k), .int (nI d.fo), .int (nI d.lev), .int (nI d.low)])), (u0, .inl (z0, 802, .inl d.tv)), (u1, .inl (z1, 401, .inl d.ov)), (u2, .inl (z2, 401, .inl d.lv)), (u3, .inl (z3, 401, .inl d.rv)), (u4, .inl (z4, 402, .inl d.sv)), (s0, .inr (1, [.ref h0, .ref t0, .ref s1, .ref s2, .ref s3, .int (nI z.sz), .int (nI z.uz), .int (nI z.op)])), (s1, .inl (x2, 401, .inl (upd z.sn ((a.C ix) / 2) 1))), (s2, .inl (x3, 401, .inl z.cd)), (s3, .inl (x4, 401, .inl z.us))] H := hP
        have hD : va_D A [(h0, .inr (2, [.ref g0, .ref g1, .ref g2, .int (nI a.n)])), (g0, .inl (y0, a.la, .inl a.sf)), (g1, .inl (y1, a.la, .inl a.kf)), (g2, .inl (y2, a.lc, .inl a.cf)), (t0, .inr (4, [.ref u0, .ref u1, .ref u2, .ref u3, .ref u4, .int (nI d.k), .int (nI d.fo), .int (nI d.lev), .int (nI d.low)])), (u0, .inl (z0, 802, .inl d.tv)), (u1, .inl (z1, 401, .inl d.ov)), (u2, .inl (z2, 401, .inl d.lv)), (u3, .inl (z3, 401, .inl d.rv)), (u4, .inl (z4, 402, .inl d.sv)), (s0, .inr (1, [.ref h0, .ref t0, .ref s1, .ref s2, .ref s3, .int (nI z.sz), .int (nI z.uz), .int (nI z.op)])), (s1, .inl (x2, 401, .inl (upd z.sn ((a.C ix) / 2) 1))), (s2, .inl (x3, 401, .inl z.cd)), (s3, .inl (x4, 401, .inl z.us))] := hD
        refine lv_aload_n hx hb d_Ls_join_75 rfl (lv_at hl 1 rfl) ?_
        refine va_get (D := (dC, dI)) (ci := 1) (v := .ref t0) (C := R_Ls) (T := F_Ls) (N := 8) hx hb hw in_Ls hown hK hP 10 rfl rfl 1 (by decide) (hw (Cond.fieldLink "ClauseSearch$Lesson" 15 "ClauseSearch$Lesson" "trail" "LClauseSearch$Trail;") k_171) (fun _ h9 => h9) rfl d_Ls_join_76 ?_
        refine va_getN (D := (dC, dI)) (ci := 4) (v := .ref u2) (C := R_Tr) (T := F_Tr) (N := 9) hx hb hw in_Tr hown hK hP 4 rfl rfl 2 (by decide) (hw (Cond.fieldLinkNest "ClauseSearch$Lesson" 62 "ClauseSearch$Trail" "levelOf" "[I" "ClauseSearch") k_104) (fun _ h9 => h9) rfl d_Ls_join_79 ?_
        refine lv_iload_n hx hb d_Ls_join_82 rfl (lv_at hl 0 rfl) ?_
        refine lv_iconst (v := nI 1) hx hb d_Ls_join_83 (by decide) ?_
        refine lv_ishr hx hb d_Ls_join_84 ?_
        refine lv_topi (fun y_7 ey_7 => ?_)
        obtain rfl : y_7 = nI ((a.C ix) / 2) := ey_7.trans (ni_shr (by omega))
        refine va_iald hx hb hK hP 7 5 rfl rfl (vp_in_nI (by omega) (by omega)) d_Ls_join_85 ?_
        refine lv_topi (fun y_8 ey_8 => ?_)
        rw [nI_clamp (by omega)] at ey_8
        rw [hq3, hv1.1] at ey_8
        subst ey_8
        refine lv_aload_n hx hb d_Ls_join_86 rfl (lv_at hl 1 rfl) ?_
        refine va_get (D := (dC, dI)) (ci := 1) (v := .ref t0) (C := R_Ls) (T := F_Ls) (N := 8) hx hb hw in_Ls hown hK hP 10 rfl rfl 1 (by decide) (hw (Cond.fieldLink "ClauseSearch$Lesson" 15 "ClauseSearch$Lesson" "trail" "LClauseSearch$Trail;") k_171) (fun _ h9 => h9) rfl d_Ls_join_87 ?_
        refine va_getN (D := (dC, dI)) (ci := 4) (v := .int (nI d.lev)) (C := R_Tr) (T := F_Tr) (N := 9) hx hb hw in_Tr hown hK hP 4 rfl rfl 7 (by decide) (hw (Cond.fieldLinkNest "ClauseSearch$Lesson" 65 "ClauseSearch$Trail" "level" "I" "ClauseSearch") k_115) (fun _ h9 => h9) rfl d_Ls_join_90 ?_
        refine lv_icmp_ne (tgt := 109) hx hb d_Ls_join_93 (by decide) (fun c_93 => ?_) (fun c_93 => ?_)
        · have c_93 : ¬ (d.V q = d.lev) := fun qq9 => c_93 ((nI_eq (a := d.V q) (b := d.lev) (by omega) (by omega)).mpr qq9)
          have hnl : ¬ d.L d.lev ≤ q := fun x => by have := hvs.mp x; omega
          have hszk : z.sz ≤ d.k := by have h5 : z.sz + 1 ≤ d.k + 1 := (hJ.ad2 hT hie hek (q := q) (by omega) hnl (by omega) hs0).sz; omega
          refine lv_aload_n hx hb d_Ls_join_109 rfl (lv_at hl 1 rfl) ?_
          refine va_get (D := (dC, dI)) (ci := 1) (v := .ref s2) (C := R_Ls) (T := F_Ls) (N := 8) hx hb hw in_Ls hown hK hP 10 rfl rfl 3 (by decide) (hw (Cond.fieldLink "ClauseSearch$Lesson" 23 "ClauseSearch$Lesson" "codes" "[I") k_173) (fun _ h9 => h9) rfl d_Ls_join_110 ?_
          refine lv_aload_n hx hb d_Ls_join_113 rfl (lv_at hl 1 rfl) ?_
          refine va_get (D := (dC, dI)) (ci := 1) (v := .int (nI z.sz)) (C := R_Ls) (T := F_Ls) (N := 8) hx hb hw in_Ls hown hK hP 10 rfl rfl 5 (by decide) (hw (Cond.fieldLink "ClauseSearch$Lesson" 30 "ClauseSearch$Lesson" "size" "I") k_178) (fun _ h9 => h9) rfl d_Ls_join_114 ?_
          refine lv_iload_n hx hb d_Ls_join_117 rfl (lv_at hl 0 rfl) ?_
          refine va_iast hx hb hK hP hD hS 12 9 rfl rfl (vp_in_nI (by omega) (by omega)) d_Ls_join_118 (fun H locs hP hD hS => ?_)
          rw [nI_clamp (n := z.sz) (by omega)] at hP hD
          have hP : va_P (dC, dI) vwCl [(h0, .inr (2, [.ref g0, .ref g1, .ref g2, .int (nI a.n)])), (g0, .inl (y0, a.la, .inl a.sf)), (g1, .inl (y1, a.la, .inl a.kf)), (g2, .inl (y2, a.lc, .inl a.cf)), (t0, .inr (4, [.ref u0, .ref u1, .ref u2, .ref u3, .ref u4, .int (nI d.k), .int (nI d.fo), .int (nI d.lev), .int (nI d.low)])), (u0, .inl (z0, 802, .inl d.tv)), (u1, .inl (z1, 401, .inl d.ov)), (u2, .inl (z2, 401, .inl d.lv)), (u3, .inl (z3, 401, .inl d.rv)), (u4, .inl (z4, 402, .inl d.sv)), (s0, .inr (1, [.ref h0, .ref t0, .ref s1, .ref s2, .ref s3, .int (nI z.sz), .int (nI z.uz), .int (nI z.op)])), (s1, .inl (x2, 401, .inl (upd z.sn ((a.C ix) / 2) 1))), (s2, .inl (x3, 401, .inl (upd z.cd z.sz (nI (a.C ix))))), (s3, .inl (x4, 401, .inl z.us))] H := hP
          have hD : va_D A [(h0, .inr (2, [.ref g0, .ref g1, .ref g2, .int (nI a.n)])), (g0, .inl (y0, a.la, .inl a.sf)), (g1, .inl (y1, a.la, .inl a.kf)), (g2, .inl (y2, a.lc, .inl a.cf)), (t0, .inr (4, [.ref u0, .ref u1, .ref u2, .ref u3, .ref u4, .int (nI d.k), .int (nI d.fo), .int (nI d.lev), .int (nI d.low)])), (u0, .inl (z0, 802, .inl d.tv)), (u1, .inl (z1, 401, .inl d.ov)), (u2, .inl (z2, 401, .inl d.lv)), (u3, .inl (z3, 401, .inl d.rv)), (u4, .inl (z4, 402, .inl d.sv)), (s0, .inr (1, [.ref h0, .ref t0, .ref s1, .ref s2, .ref s3, .int (nI z.sz), .int (nI z.uz), .int (nI z.op)])), (s1, .inl (x2, 401, .inl (upd z.sn ((a.C ix) / 2) 1))), (s2, .inl (x3, 401, .inl (upd z.cd z.sz (nI (a.C ix))))), (s3, .inl (x4, 401, .inl z.us))] := hD
          refine lv_aload_n hx hb d_Ls_join_119 rfl (lv_at hl 1 rfl) ?_
          refine lv_dup hx hb d_Ls_join_120 rfl ?_
          refine va_get (D := (dC, dI)) (ci := 1) (v := .int (nI z.sz)) (C := R_Ls) (T := F_Ls) (N := 8) hx hb hw in_Ls hown hK hP 10 rfl rfl 5 (by decide) (hw (Cond.fieldLink "ClauseSearch$Lesson" 30 "ClauseSearch$Lesson" "size" "I") k_178) (fun _ h9 => h9) rfl d_Ls_join_121 ?_
          refine lv_iconst (v := nI 1) hx hb d_Ls_join_124 (by decide) ?_
          refine lv_iadd hx hb d_Ls_join_125 ?_
          refine lv_topi (fun y_9 ey_9 => ?_)
          obtain rfl : y_9 = nI (z.sz + 1) := ey_9.trans (nI_add z.sz 1)
          refine va_put (D := (dC, dI)) (ci := 1) (v := .int (nI (z.sz + 1))) (ty := .int) (C := R_Ls) (T := F_Ls) (N := 8) hx hb hw in_Ls t_Ls t_Ls_ok n_Ls hown hK hP hD hS 10 rfl rfl 5 (by decide) (hw (Cond.fieldLink "ClauseSearch$Lesson" 30 "ClauseSearch$Lesson" "size" "I") k_178) (fun _ h9 => h9) rfl (by decide +kernel) rfl rfl (Nat.le_of_ble_eq_true rfl) d_Ls_join_126 (fun H locs hP hD hS => ?_)
          have hP : va_P (dC, dI) vwCl [(h0, .inr (2, [.ref g0, .ref g1, .ref g2, .int (nI a.n)])), (g0, .inl (y0, a.la, .inl a.sf)), (g1, .inl (y1, a.la, .inl a.kf)), (g2, .inl (y2, a.lc, .inl a.cf)), (t0, .inr (4, [.ref u0, .ref u1, .ref u2, .ref u3, .ref u4, .int (nI d.k), .int (nI d.fo), .int (nI d.lev), .int (nI d.low)])), (u0, .inl (z0, 802, .inl d.tv)), (u1, .inl (z1, 401, .inl d.ov)), (u2, .inl (z2, 401, .inl d.lv)), (u3, .inl (z3, 401, .inl d.rv)), (u4, .inl (z4, 402, .inl d.sv)), (s0, .inr (1, [.ref h0, .ref t0, .ref s1, .ref s2, .ref s3, .int (nI (z.sz + 1)), .int (nI z.uz), .int (nI z.op)])), (s1, .inl (x2, 401, .inl (upd z.sn ((a.C ix) / 2) 1))), (s2, .inl (x3, 401, .inl (upd z.cd z.sz (nI (a.C ix))))), (s3, .inl (x4, 401, .inl z.us))] H := hP
          have hD : va_D A [(h0, .inr (2, [.ref g0, .ref g1, .ref g2, .int (nI a.n)])), (g0, .inl (y0, a.la, .inl a.sf)), (g1, .inl (y1, a.la, .inl a.kf)), (g2, .inl (y2, a.lc, .inl a.cf)), (t0, .inr (4, [.ref u0, .ref u1, .ref u2, .ref u3, .ref u4, .int (nI d.k), .int (nI d.fo), .int (nI d.lev), .int (nI d.low)])), (u0, .inl (z0, 802, .inl d.tv)), (u1, .inl (z1, 401, .inl d.ov)), (u2, .inl (z2, 401, .inl d.lv)), (u3, .inl (z3, 401, .inl d.rv)), (u4, .inl (z4, 402, .inl d.sv)), (s0, .inr (1, [.ref h0, .ref t0, .ref s1, .ref s2, .ref s3, .int (nI (z.sz + 1)), .int (nI z.uz), .int (nI z.op)])), (s1, .inl (x2, 401, .inl (upd z.sn ((a.C ix) / 2) 1))), (s2, .inl (x3, 401, .inl (upd z.cd z.sz (nI (a.C ix))))), (s3, .inl (x4, 401, .inl z.us))] := hD
          refine lv_iinc (v := nI (ix + 1)) (lv' := [(2, .int (nI (ix + 1))), (3, .int (nI (a.C ix))), (0, .ref s0), (1, .int (nI r))]) hx hb d_Ls_join_129 hl (k := 3) rfl (nI_1 ix) (by decide) rfl (fun ls hl => ?_)
          refine lv_goto (tgt := 30) hx hb d_Ls_join_132 (by decide) ?_
          rw [hq3] at hP hD
          rw [hq4] at hP hD
          have hP : va_P (dC, dI) vwCl [(h0, .inr (2, [.ref g0, .ref g1, .ref g2, .int (nI a.n)])), (g0, .inl (y0, a.la, .inl a.sf)), (g1, .inl (y1, a.la, .inl a.kf)), (g2, .inl (y2, a.lc, .inl a.cf)), (t0, .inr (4, [.ref u0, .ref u1, .ref u2, .ref u3, .ref u4, .int (nI d.k), .int (nI d.fo), .int (nI d.lev), .int (nI d.low)])), (u0, .inl (z0, 802, .inl d.tv)), (u1, .inl (z1, 401, .inl d.ov)), (u2, .inl (z2, 401, .inl d.lv)), (u3, .inl (z3, 401, .inl d.rv)), (u4, .inl (z4, 402, .inl d.sv)), (s0, .inr (1, [.ref h0, .ref t0, .ref s1, .ref s2, .ref s3, .int (nI (z.sz + 1)), .int (nI z.uz), .int (nI z.op)])), (s1, .inl (x2, 401, .inl (upd z.sn (d.O q / 2) 1))), (s2, .inl (x3, 401, .inl (upd z.cd z.sz (nI (fl (d.O q)))))), (s3, .inl (x4, 401, .inl z.us))] H := hP
          have hD : va_D A [(h0, .inr (2, [.ref g0, .ref g1, .ref g2, .int (nI a.n)])), (g0, .inl (y0, a.la, .inl a.sf)), (g1, .inl (y1, a.la, .inl a.kf)), (g2, .inl (y2, a.lc, .inl a.cf)), (t0, .inr (4, [.ref u0, .ref u1, .ref u2, .ref u3, .ref u4, .int (nI d.k), .int (nI d.fo), .int (nI d.lev), .int (nI d.low)])), (u0, .inl (z0, 802, .inl d.tv)), (u1, .inl (z1, 401, .inl d.ov)), (u2, .inl (z2, 401, .inl d.lv)), (u3, .inl (z3, 401, .inl d.rv)), (u4, .inl (z4, 402, .inl d.sv)), (s0, .inr (1, [.ref h0, .ref t0, .ref s1, .ref s2, .ref s3, .int (nI (z.sz + 1)), .int (nI z.uz), .int (nI z.op)])), (s1, .inl (x2, 401, .inl (upd z.sn (d.O q / 2) 1))), (s2, .inl (x3, 401, .inl (upd z.cd z.sz (nI (fl (d.O q)))))), (s3, .inl (x4, 401, .inl z.us))] := hD
          have hP := hP.sub (ws' := [(h0, .inr (2, [.ref g0, .ref g1, .ref g2, .int (nI a.n)])), (g0, .inl (y0, a.la, .inl a.sf)), (g1, .inl (y1, a.la, .inl a.kf)), (g2, .inl (y2, a.lc, .inl a.cf)), (t0, .inr (4, [.ref u0, .ref u1, .ref u2, .ref u3, .ref u4, .int (nI d.k), .int (nI d.fo), .int (nI d.lev), .int (nI d.low)])), (u0, .inl (z0, 802, .inl d.tv)), (u1, .inl (z1, 401, .inl d.ov)), (u2, .inl (z2, 401, .inl d.lv)), (u3, .inl (z3, 401, .inl d.rv)), (u4, .inl (z4, 402, .inl d.sv)), (s0, .inr (1, [.ref h0, .ref t0, .ref s1, .ref s2, .ref s3, .int (nI (Jad2 d z q).sz), .int (nI (Jad2 d z q).uz), .int (nI (Jad2 d z q).op)])), (s1, .inl (x2, 401, .inl (Jad2 d z q).sn)), (s2, .inl (x3, 401, .inl (Jad2 d z q).cd)), (s3, .inl (x4, 401, .inl (Jad2 d z q).us))]) [0, 1, 2, 3, 4, 5, 6, 7, 8, 9, 10, 11, 12, 13] rfl
          have hD := hD.sub (ws' := [(h0, .inr (2, [.ref g0, .ref g1, .ref g2, .int (nI a.n)])), (g0, .inl (y0, a.la, .inl a.sf)), (g1, .inl (y1, a.la, .inl a.kf)), (g2, .inl (y2, a.lc, .inl a.cf)), (t0, .inr (4, [.ref u0, .ref u1, .ref u2, .ref u3, .ref u4, .int (nI d.k), .int (nI d.fo), .int (nI d.lev), .int (nI d.low)])), (u0, .inl (z0, 802, .inl d.tv)), (u1, .inl (z1, 401, .inl d.ov)), (u2, .inl (z2, 401, .inl d.lv)), (u3, .inl (z3, 401, .inl d.rv)), (u4, .inl (z4, 402, .inl d.sv)), (s0, .inr (1, [.ref h0, .ref t0, .ref s1, .ref s2, .ref s3, .int (nI (Jad2 d z q).sz), .int (nI (Jad2 d z q).uz), .int (nI (Jad2 d z q).op)])), (s1, .inl (x2, 401, .inl (Jad2 d z q).sn)), (s2, .inl (x3, 401, .inl (Jad2 d z q).cd)), (s3, .inl (x4, 401, .inl (Jad2 d z q).us))]) [0, 1, 2, 3, 4, 5, 6, 7, 8, 9, 10, 11, 12, 13] (by decide) rfl
          exact ih (ix + 1) (Jad2 d z q) _ _ ls (by omega) (by omega) (by omega) (hJ.ad2 hT hie hek (by omega) hnl (by omega) hs0) (hrow.up (q := q) rfl) (fun j h1 h2 => by show upd z.sn (d.O q / 2) 1 _ ≠ 0; rcases Nat.lt_or_eq_of_le (Nat.le_of_lt_succ h2) with x | x; exact sn_ne (hsn j h1 x); rw [x, hq3, pk_us]; decide) (fun v hv => sn_ne (hmo v hv)) ⟨huz.1, (pk_un (show 0 ≠ z.sz by have := hJ.s1; omega)).trans huz.2⟩ hP hD hS (lv_sub hl [2, 3, 0] rfl)
        · have c_93 : d.V q = d.lev := (nI_eq (a := d.V q) (b := d.lev) (by omega) (by omega)).mp c_93
          have hcn := cn_le (opn d z) i
          have hop := hJ.op
          refine lv_aload_n hx hb d_Ls_join_96 rfl (lv_at hl 1 rfl) ?_
          refine lv_dup hx hb d_Ls_join_97 rfl ?_
          refine va_get (D := (dC, dI)) (ci := 1) (v := .int (nI z.op)) (C := R_Ls) (T := F_Ls) (N := 8) hx hb hw in_Ls hown hK hP 10 rfl rfl 7 (by decide) (hw (Cond.fieldLink "ClauseSearch$Lesson" 37 "ClauseSearch$Lesson" "open" "I") k_183) (fun _ h9 => h9) rfl d_Ls_join_98 ?_
          refine lv_iconst (v := nI 1) hx hb d_Ls_join_101 (by decide) ?_
          refine lv_iadd hx hb d_Ls_join_102 ?_
          refine lv_topi (fun y_10 ey_10 => ?_)
          obtain rfl : y_10 = nI (z.op + 1) := ey_10.trans (nI_add z.op 1)
          refine va_put (D := (dC, dI)) (ci := 1) (v := .int (nI (z.op + 1))) (ty := .int) (C := R_Ls) (T := F_Ls) (N := 8) hx hb hw in_Ls t_Ls t_Ls_ok n_Ls hown hK hP hD hS 10 rfl rfl 7 (by decide) (hw (Cond.fieldLink "ClauseSearch$Lesson" 37 "ClauseSearch$Lesson" "open" "I") k_183) (fun _ h9 => h9) rfl (by decide +kernel) rfl rfl (Nat.le_of_ble_eq_true rfl) d_Ls_join_103 (fun H locs hP hD hS => ?_)
          have hP : va_P (dC, dI) vwCl [(h0, .inr (2, [.ref g0, .ref g1, .ref g2, .int (nI a.n)])), (g0, .inl (y0, a.la, .inl a.sf)), (g1, .inl (y1, a.la, .inl a.kf)), (g2, .inl (y2, a.lc, .inl a.cf)), (t0, .inr (4, [.ref u0, .ref u1, .ref u2, .ref u3, .ref u4, .int (nI d.k), .int (nI d.fo), .int (nI d.lev), .int (nI d.low)])), (u0, .inl (z0, 802, .inl d.tv)), (u1, .inl (z1, 401, .inl d.ov)), (u2, .inl (z2, 401, .inl d.lv)), (u3, .inl (z3, 401, .inl d.rv)), (u4, .inl (z4, 402, .inl d.sv)), (s0, .inr (1, [.ref h0, .ref t0, .ref s1, .ref s2, .ref s3, .int (nI z.sz), .int (nI z.uz), .int (nI (z.op + 1))])), (s1, .inl (x2, 401, .inl (upd z.sn ((a.C ix) / 2) 1))), (s2, .inl (x3, 401, .inl z.cd)), (s3, .inl (x4, 401, .inl z.us))] H := hP
          have hD : va_D A [(h0, .inr (2, [.ref g0, .ref g1, .ref g2, .int (nI a.n)])), (g0, .inl (y0, a.la, .inl a.sf)), (g1, .inl (y1, a.la, .inl a.kf)), (g2, .inl (y2, a.lc, .inl a.cf)), (t0, .inr (4, [.ref u0, .ref u1, .ref u2, .ref u3, .ref u4, .int (nI d.k), .int (nI d.fo), .int (nI d.lev), .int (nI d.low)])), (u0, .inl (z0, 802, .inl d.tv)), (u1, .inl (z1, 401, .inl d.ov)), (u2, .inl (z2, 401, .inl d.lv)), (u3, .inl (z3, 401, .inl d.rv)), (u4, .inl (z4, 402, .inl d.sv)), (s0, .inr (1, [.ref h0, .ref t0, .ref s1, .ref s2, .ref s3, .int (nI z.sz), .int (nI z.uz), .int (nI (z.op + 1))])), (s1, .inl (x2, 401, .inl (upd z.sn ((a.C ix) / 2) 1))), (s2, .inl (x3, 401, .inl z.cd)), (s3, .inl (x4, 401, .inl z.us))] := hD
          refine lv_goto (tgt := 129) hx hb d_Ls_join_106 (by decide) ?_
          refine lv_iinc (v := nI (ix + 1)) (lv' := [(2, .int (nI (ix + 1))), (3, .int (nI (a.C ix))), (0, .ref s0), (1, .int (nI r))]) hx hb d_Ls_join_129 hl (k := 3) rfl (nI_1 ix) (by decide) rfl (fun ls hl => ?_)
          refine lv_goto (tgt := 30) hx hb d_Ls_join_132 (by decide) ?_
          rw [hq3] at hP hD
          have hP : va_P (dC, dI) vwCl [(h0, .inr (2, [.ref g0, .ref g1, .ref g2, .int (nI a.n)])), (g0, .inl (y0, a.la, .inl a.sf)), (g1, .inl (y1, a.la, .inl a.kf)), (g2, .inl (y2, a.lc, .inl a.cf)), (t0, .inr (4, [.ref u0, .ref u1, .ref u2, .ref u3, .ref u4, .int (nI d.k), .int (nI d.fo), .int (nI d.lev), .int (nI d.low)])), (u0, .inl (z0, 802, .inl d.tv)), (u1, .inl (z1, 401, .inl d.ov)), (u2, .inl (z2, 401, .inl d.lv)), (u3, .inl (z3, 401, .inl d.rv)), (u4, .inl (z4, 402, .inl d.sv)), (s0, .inr (1, [.ref h0, .ref t0, .ref s1, .ref s2, .ref s3, .int (nI z.sz), .int (nI z.uz), .int (nI (z.op + 1))])), (s1, .inl (x2, 401, .inl (upd z.sn (d.O q / 2) 1))), (s2, .inl (x3, 401, .inl z.cd)), (s3, .inl (x4, 401, .inl z.us))] H := hP
          have hD : va_D A [(h0, .inr (2, [.ref g0, .ref g1, .ref g2, .int (nI a.n)])), (g0, .inl (y0, a.la, .inl a.sf)), (g1, .inl (y1, a.la, .inl a.kf)), (g2, .inl (y2, a.lc, .inl a.cf)), (t0, .inr (4, [.ref u0, .ref u1, .ref u2, .ref u3, .ref u4, .int (nI d.k), .int (nI d.fo), .int (nI d.lev), .int (nI d.low)])), (u0, .inl (z0, 802, .inl d.tv)), (u1, .inl (z1, 401, .inl d.ov)), (u2, .inl (z2, 401, .inl d.lv)), (u3, .inl (z3, 401, .inl d.rv)), (u4, .inl (z4, 402, .inl d.sv)), (s0, .inr (1, [.ref h0, .ref t0, .ref s1, .ref s2, .ref s3, .int (nI z.sz), .int (nI z.uz), .int (nI (z.op + 1))])), (s1, .inl (x2, 401, .inl (upd z.sn (d.O q / 2) 1))), (s2, .inl (x3, 401, .inl z.cd)), (s3, .inl (x4, 401, .inl z.us))] := hD
          have hP := hP.sub (ws' := [(h0, .inr (2, [.ref g0, .ref g1, .ref g2, .int (nI a.n)])), (g0, .inl (y0, a.la, .inl a.sf)), (g1, .inl (y1, a.la, .inl a.kf)), (g2, .inl (y2, a.lc, .inl a.cf)), (t0, .inr (4, [.ref u0, .ref u1, .ref u2, .ref u3, .ref u4, .int (nI d.k), .int (nI d.fo), .int (nI d.lev), .int (nI d.low)])), (u0, .inl (z0, 802, .inl d.tv)), (u1, .inl (z1, 401, .inl d.ov)), (u2, .inl (z2, 401, .inl d.lv)), (u3, .inl (z3, 401, .inl d.rv)), (u4, .inl (z4, 402, .inl d.sv)), (s0, .inr (1, [.ref h0, .ref t0, .ref s1, .ref s2, .ref s3, .int (nI (Jad1 d z q).sz), .int (nI (Jad1 d z q).uz), .int (nI (Jad1 d z q).op)])), (s1, .inl (x2, 401, .inl (Jad1 d z q).sn)), (s2, .inl (x3, 401, .inl (Jad1 d z q).cd)), (s3, .inl (x4, 401, .inl (Jad1 d z q).us))]) [0, 1, 2, 3, 4, 5, 6, 7, 8, 9, 10, 11, 12, 13] rfl
          have hD := hD.sub (ws' := [(h0, .inr (2, [.ref g0, .ref g1, .ref g2, .int (nI a.n)])), (g0, .inl (y0, a.la, .inl a.sf)), (g1, .inl (y1, a.la, .inl a.kf)), (g2, .inl (y2, a.lc, .inl a.cf)), (t0, .inr (4, [.ref u0, .ref u1, .ref u2, .ref u3, .ref u4, .int (nI d.k), .int (nI d.fo), .int (nI d.lev), .int (nI d.low)])), (u0, .inl (z0, 802, .inl d.tv)), (u1, .inl (z1, 401, .inl d.ov)), (u2, .inl (z2, 401, .inl d.lv)), (u3, .inl (z3, 401, .inl d.rv)), (u4, .inl (z4, 402, .inl d.sv)), (s0, .inr (1, [.ref h0, .ref t0, .ref s1, .ref s2, .ref s3, .int (nI (Jad1 d z q).sz), .int (nI (Jad1 d z q).uz), .int (nI (Jad1 d z q).op)])), (s1, .inl (x2, 401, .inl (Jad1 d z q).sn)), (s2, .inl (x3, 401, .inl (Jad1 d z q).cd)), (s3, .inl (x4, 401, .inl (Jad1 d z q).us))]) [0, 1, 2, 3, 4, 5, 6, 7, 8, 9, 10, 11, 12, 13] (by decide) rfl
          exact ih (ix + 1) (Jad1 d z q) _ _ ls (by omega) (by omega) (by omega) (hJ.ad1 hT hie hek hq1 (by omega) hs0) (hrow.up (q := q) rfl) (fun j h1 h2 => by show upd z.sn (d.O q / 2) 1 _ ≠ 0; rcases Nat.lt_or_eq_of_le (Nat.le_of_lt_succ h2) with x | x; exact sn_ne (hsn j h1 x); rw [x, hq3, pk_us]; decide) (fun v hv => sn_ne (hmo v hv)) huz hP hD hS (lv_sub hl [2, 3, 0] rfl)

set_option maxHeartbeats 4000000 in
set_option maxRecDepth 100000 in
/-- join(r) -/
theorem c_Ls_join (l : Launch) (dC : Nat → ClassId) (dI : Nat → Nat → Nat) (h0 : Nat) (g0 : Nat) (g1 : Nat) (g2 : Nat) (t0 : Nat) (u0 : Nat) (u1 : Nat) (u2 : Nat) (u3 : Nat) (u4 : Nat) (s0 : Nat) (s1 : Nat) (s2 : Nat) (s3 : Nat) (x2 : ClassId) (x3 : ClassId) (x4 : ClassId) (y0 : ClassId) (y1 : ClassId) (y2 : ClassId) (z0 : ClassId) (z1 : ClassId) (z2 : ClassId) (z3 : ClassId) (z4 : ClassId) (sz : Nat) (a : Rx) (d : Tx) (r : Nat) (i : Nat) (ep : Nat) (z : Lx) (hR : Rok a) (hT : Tok d) (hL : Lok d) (hlev : 1 ≤ d.lev) (hr9 : r < a.n) (hie : i ≤ ep) (hek : ep ≤ d.k) (hJ : Jok a d z i ep) (hrow : Jrow a d z r i) (huz : z.uz < 401) : Met l y_Ls_join (wq y_Ls_join prog_3_method_3_code 4 none) ({ frames := 1, cells := 0, slots := 0, locals := 1 }) (va_Pc [.ref s0, .int (nI r)] (fun U => U.heap.size = sz ∧ va_P (dC, dI) vwCl [(h0, .inr (2, [.ref g0, .ref g1, .ref g2, .int (nI a.n)])), (g0, .inl (y0, a.la, .inl a.sf)), (g1, .inl (y1, a.la, .inl a.kf)), (g2, .inl (y2, a.lc, .inl a.cf)), (t0, .inr (4, [.ref u0, .ref u1, .ref u2, .ref u3, .ref u4, .int (nI d.k), .int (nI d.fo), .int (nI d.lev), .int (nI d.low)])), (u0, .inl (z0, 802, .inl d.tv)), (u1, .inl (z1, 401, .inl d.ov)), (u2, .inl (z2, 401, .inl d.lv)), (u3, .inl (z3, 401, .inl d.rv)), (u4, .inl (z4, 402, .inl d.sv)), (s0, .inr (1, [.ref h0, .ref t0, .ref s1, .ref s2, .ref s3, .int (nI z.sz), .int (nI z.uz), .int (nI z.op)])), (s1, .inl (x2, 401, .inl z.sn)), (s2, .inl (x3, 401, .inl z.cd)), (s3, .inl (x4, 401, .inl z.us))] U.heap ∧ va_K (dC, dI) vwCl [(y0, .int), (y1, .int), (y2, .int), (z0, .byte), (z1, .int), (z2, .int), (z3, .int), (z4, .int), (x2, .boolean), (x3, .int), (x4, .int)] U ∧ va_D (fun _ => True) [(h0, .inr (2, [.ref g0, .ref g1, .ref g2, .int (nI a.n)])), (g0, .inl (y0, a.la, .inl a.sf)), (g1, .inl (y1, a.la, .inl a.kf)), (g2, .inl (y2, a.lc, .inl a.cf)), (t0, .inr (4, [.ref u0, .ref u1, .ref u2, .ref u3, .ref u4, .int (nI d.k), .int (nI d.fo), .int (nI d.lev), .int (nI d.low)])), (u0, .inl (z0, 802, .inl d.tv)), (u1, .inl (z1, 401, .inl d.ov)), (u2, .inl (z2, 401, .inl d.lv)), (u3, .inl (z3, 401, .inl d.rv)), (u4, .inl (z4, 402, .inl d.sv)), (s0, .inr (1, [.ref h0, .ref t0, .ref s1, .ref s2, .ref s3, .int (nI z.sz), .int (nI z.uz), .int (nI z.op)])), (s1, .inl (x2, 401, .inl z.sn)), (s2, .inl (x3, 401, .inl z.cd)), (s3, .inl (x4, 401, .inl z.us))])) (va_Qv (fun _ : Unit => True) (fun (_ : Unit) t => ∃ (zz : Lx), (Jok a d zz i ep) ∧ (∀ j, a.S r ≤ j → j < a.S (r + 1) → zz.sn (a.C j / 2) ≠ 0) ∧ (∀ v, z.sn v ≠ 0 → zz.sn v ≠ 0) ∧ (zz.uz = z.uz + 1 ∧ zz.cd 0 = z.cd 0) ∧ va_P (dC, dI) vwCl [(h0, .inr (2, [.ref g0, .ref g1, .ref g2, .int (nI a.n)])), (g0, .inl (y0, a.la, .inl a.sf)), (g1, .inl (y1, a.la, .inl a.kf)), (g2, .inl (y2, a.lc, .inl a.cf)), (t0, .inr (4, [.ref u0, .ref u1, .ref u2, .ref u3, .ref u4, .int (nI d.k), .int (nI d.fo), .int (nI d.lev), .int (nI d.low)])), (u0, .inl (z0, 802, .inl d.tv)), (u1, .inl (z1, 401, .inl d.ov)), (u2, .inl (z2, 401, .inl d.lv)), (u3, .inl (z3, 401, .inl d.rv)), (u4, .inl (z4, 402, .inl d.sv)), (s0, .inr (1, [.ref h0, .ref t0, .ref s1, .ref s2, .ref s3, .int (nI zz.sz), .int (nI zz.uz), .int (nI zz.op)])), (s1, .inl (x2, 401, .inl zz.sn)), (s2, .inl (x3, 401, .inl zz.cd)), (s3, .inl (x4, 401, .inl zz.us))] t.heap ∧ va_K (dC, dI) vwCl [(y0, .int), (y1, .int), (y2, .int), (z0, .byte), (z1, .int), (z2, .int), (z3, .int), (z4, .int), (x2, .boolean), (x3, .int), (x4, .int)] t ∧ va_D (va_A [(h0, .inr (2, [.ref g0, .ref g1, .ref g2, .int (nI a.n)])), (g0, .inl (y0, a.la, .inl a.sf)), (g1, .inl (y1, a.la, .inl a.kf)), (g2, .inl (y2, a.lc, .inl a.cf)), (t0, .inr (4, [.ref u0, .ref u1, .ref u2, .ref u3, .ref u4, .int (nI d.k), .int (nI d.fo), .int (nI d.lev), .int (nI d.low)])), (u0, .inl (z0, 802, .inl d.tv)), (u1, .inl (z1, 401, .inl d.ov)), (u2, .inl (z2, 401, .inl d.lv)), (u3, .inl (z3, 401, .inl d.rv)), (u4, .inl (z4, 402, .inl d.sv)), (s0, .inr (1, [.ref h0, .ref t0, .ref s1, .ref s2, .ref s3, .int (nI z.sz), .int (nI z.uz), .int (nI z.op)])), (s1, .inl (x2, 401, .inl z.sn)), (s2, .inl (x3, 401, .inl z.cd)), (s3, .inl (x4, 401, .inl z.us))] sz) [(h0, .inr (2, [.ref g0, .ref g1, .ref g2, .int (nI a.n)])), (g0, .inl (y0, a.la, .inl a.sf)), (g1, .inl (y1, a.la, .inl a.kf)), (g2, .inl (y2, a.lc, .inl a.cf)), (t0, .inr (4, [.ref u0, .ref u1, .ref u2, .ref u3, .ref u4, .int (nI d.k), .int (nI d.fo), .int (nI d.lev), .int (nI d.low)])), (u0, .inl (z0, 802, .inl d.tv)), (u1, .inl (z1, 401, .inl d.ov)), (u2, .inl (z2, 401, .inl d.lv)), (u3, .inl (z3, 401, .inl d.rv)), (u4, .inl (z4, 402, .inl d.sv)), (s0, .inr (1, [.ref h0, .ref t0, .ref s1, .ref s2, .ref s3, .int (nI zz.sz), .int (nI zz.uz), .int (nI zz.op)])), (s1, .inl (x2, 401, .inl zz.sn)), (s2, .inl (x3, 401, .inl zz.cd)), (s3, .inl (x4, 401, .inl zz.us))]) (va_A [(h0, .inr (2, [.ref g0, .ref g1, .ref g2, .int (nI a.n)])), (g0, .inl (y0, a.la, .inl a.sf)), (g1, .inl (y1, a.la, .inl a.kf)), (g2, .inl (y2, a.lc, .inl a.cf)), (t0, .inr (4, [.ref u0, .ref u1, .ref u2, .ref u3, .ref u4, .int (nI d.k), .int (nI d.fo), .int (nI d.lev), .int (nI d.low)])), (u0, .inl (z0, 802, .inl d.tv)), (u1, .inl (z1, 401, .inl d.ov)), (u2, .inl (z2, 401, .inl d.lv)), (u3, .inl (z3, 401, .inl d.rv)), (u4, .inl (z4, 402, .inl d.sv)), (s0, .inr (1, [.ref h0, .ref t0, .ref s1, .ref s2, .ref s3, .int (nI z.sz), .int (nI z.uz), .int (nI z.op)])), (s1, .inl (x2, 401, .inl z.sn)), (s2, .inl (x3, 401, .inl z.cd)), (s3, .inl (x4, 401, .inl z.us))] sz)) (0) (0) (va_A [(h0, .inr (2, [.ref g0, .ref g1, .ref g2, .int (nI a.n)])), (g0, .inl (y0, a.la, .inl a.sf)), (g1, .inl (y1, a.la, .inl a.kf)), (g2, .inl (y2, a.lc, .inl a.cf)), (t0, .inr (4, [.ref u0, .ref u1, .ref u2, .ref u3, .ref u4, .int (nI d.k), .int (nI d.fo), .int (nI d.lev), .int (nI d.low)])), (u0, .inl (z0, 802, .inl d.tv)), (u1, .inl (z1, 401, .inl d.ov)), (u2, .inl (z2, 401, .inl d.lv)), (u3, .inl (z3, 401, .inl d.rv)), (u4, .inl (z4, 402, .inl d.sv)), (s0, .inr (1, [.ref h0, .ref t0, .ref s1, .ref s2, .ref s3, .int (nI z.sz), .int (nI z.uz), .int (nI z.op)])), (s1, .inl (x2, 401, .inl z.sn)), (s2, .inl (x3, 401, .inl z.cd)), (s3, .inl (x4, 401, .inl z.us))] sz) := by
  refine Met.ofW (cc := prog_3_method_3_code) (maxL := 4) (ret := none) (by decide) rfl ?_
  intro p e s m args below meth c s₁ B hml hv
  obtain ⟨rfl, hsz, hP, hK, hD0⟩ := hv
  have hx := B.exec
  have hb := B.bytes
  have hr := B.returns
  have hw : ∀ w ∈ bg_W, w.before #[Value.ref s0, Value.int (nI r)] s = true := fun w h => atoms_spec (ws := (wq y_Ls_join prog_3_method_3_code 4 none)) B.pre w (List.mem_cons_of_mem _ h)
  have hown : s.vm.findClass R_Ls = some m.cls := findClass_of_methodNamed B.named
  have hlocks := B.notSynchronized
  subst hsz
  have hD := hD0.self (sz := s.heap.size)
  generalize hAe : va_A [(h0, .inr (2, [.ref g0, .ref g1, .ref g2, .int (nI a.n)])), (g0, .inl (y0, a.la, .inl a.sf)), (g1, .inl (y1, a.la, .inl a.kf)), (g2, .inl (y2, a.lc, .inl a.cf)), (t0, .inr (4, [.ref u0, .ref u1, .ref u2, .ref u3, .ref u4, .int (nI d.k), .int (nI d.fo), .int (nI d.lev), .int (nI d.low)])), (u0, .inl (z0, 802, .inl d.tv)), (u1, .inl (z1, 401, .inl d.ov)), (u2, .inl (z2, 401, .inl d.lv)), (u3, .inl (z3, 401, .inl d.rv)), (u4, .inl (z4, 402, .inl d.sv)), (s0, .inr (1, [.ref h0, .ref t0, .ref s1, .ref s2, .ref s3, .int (nI z.sz), .int (nI z.uz), .int (nI z.op)])), (s1, .inl (x2, 401, .inl z.sn)), (s2, .inl (x3, 401, .inl z.cd)), (s3, .inl (x4, 401, .inl z.us))] s.heap.size = A at hD ⊢
  have hA : ∀ q : Nat, s.heap.size ≤ q → A q := fun q h => by rw [← hAe]; exact Or.inr h
  have hS : va_S A s.heap s.heap [] := va_S.rf
  have hP : va_P (dC, dI) vwCl [(h0, .inr (2, [.ref g0, .ref g1, .ref g2, .int (nI a.n)])), (g0, .inl (y0, a.la, .inl a.sf)), (g1, .inl (y1, a.la, .inl a.kf)), (g2, .inl (y2, a.lc, .inl a.cf)), (t0, .inr (4, [.ref u0, .ref u1, .ref u2, .ref u3, .ref u4, .int (nI d.k), .int (nI d.fo), .int (nI d.lev), .int (nI d.low)])), (u0, .inl (z0, 802, .inl d.tv)), (u1, .inl (z1, 401, .inl d.ov)), (u2, .inl (z2, 401, .inl d.lv)), (u3, .inl (z3, 401, .inl d.rv)), (u4, .inl (z4, 402, .inl d.sv)), (s0, .inr (1, [.ref h0, .ref t0, .ref s1, .ref s2, .ref s3, .int (nI z.sz), .int (nI z.uz), .int (nI z.op)])), (s1, .inl (x2, 401, .inl z.sn)), (s2, .inl (x3, 401, .inl z.cd)), (s3, .inl (x4, 401, .inl z.us))] s.heap := hP
  have hl := lv_entry ([.ref s0, .int (nI r)]) (n := 4) (Nat.le_of_ble_eq_true rfl)
  rw [lg_entry_eq]
  generalize (lg_sl ([.ref s0, .int (nI r)]) ++ List.replicate (4 - (lg_sl ([.ref s0, .int (nI r)])).length) Slot.unset).toArray = ls at hl ⊢
  have hl : lv_has ls 4 [(0, .ref s0), (1, .int (nI r))] := hl
  obtain ⟨H, hH⟩ : ∃ H : Heap, H = s.heap := ⟨_, rfl⟩
  rw [← hH] at hP
  have hS : va_S A s.heap H [] := by rw [hH]; exact va_S.rf
  show W p l e _ s m _ below meth c s.heap [] 0 0 _ _
  rw [← hH]
  obtain ⟨i1, i2, i3, i4, i5, i6⟩ := hR.inb hr9
  have hle := hL.lev
  have hk4 := hT.k400
  refine lv_aload_n hx hb d_Ls_join_0 rfl (lv_at hl 0 rfl) ?_
  refine va_get (D := (dC, dI)) (ci := 1) (v := .ref s3) (C := R_Ls) (T := F_Ls) (N := 8) hx hb hw in_Ls hown hK hP 10 rfl rfl 4 (by decide) (hw (Cond.fieldLink "ClauseSearch$Lesson" 27 "ClauseSearch$Lesson" "used" "[I") k_176) (fun _ h9 => h9) rfl d_Ls_join_1 ?_
  refine lv_aload_n hx hb d_Ls_join_4 rfl (lv_at hl 0 rfl) ?_
  refine va_get (D := (dC, dI)) (ci := 1) (v := .int (nI z.uz)) (C := R_Ls) (T := F_Ls) (N := 8) hx hb hw in_Ls hown hK hP 10 rfl rfl 6 (by decide) (hw (Cond.fieldLink "ClauseSearch$Lesson" 34 "ClauseSearch$Lesson" "usedSize" "I") k_181) (fun _ h9 => h9) rfl d_Ls_join_5 ?_
  refine lv_iload_n hx hb d_Ls_join_8 rfl (lv_at hl 1 rfl) ?_
  refine va_iast hx hb hK hP hD hS 13 10 rfl rfl (vp_in_nI (by omega) (by omega)) d_Ls_join_9 (fun H locs hP hD hS => ?_)
  rw [nI_clamp (n := z.uz) (by omega)] at hP hD
  have hP : va_P (dC, dI) vwCl [(h0, .inr (2, [.ref g0, .ref g1, .ref g2, .int (nI a.n)])), (g0, .inl (y0, a.la, .inl a.sf)), (g1, .inl (y1, a.la, .inl a.kf)), (g2, .inl (y2, a.lc, .inl a.cf)), (t0, .inr (4, [.ref u0, .ref u1, .ref u2, .ref u3, .ref u4, .int (nI d.k), .int (nI d.fo), .int (nI d.lev), .int (nI d.low)])), (u0, .inl (z0, 802, .inl d.tv)), (u1, .inl (z1, 401, .inl d.ov)), (u2, .inl (z2, 401, .inl d.lv)), (u3, .inl (z3, 401, .inl d.rv)), (u4, .inl (z4, 402, .inl d.sv)), (s0, .inr (1, [.ref h0, .ref t0, .ref s1, .ref s2, .ref s3, .int (nI z.sz), .int (nI z.uz), .int (nI z.op)])), (s1, .inl (x2, 401, .inl z.sn)), (s2, .inl (x3, 401, .inl z.cd)), (s3, .inl (x4, 401, .inl (upd z.us z.uz (nI r))))] H := hP
  have hD : va_D A [(h0, .inr (2, [.ref g0, .ref g1, .ref g2, .int (nI a.n)])), (g0, .inl (y0, a.la, .inl a.sf)), (g1, .inl (y1, a.la, .inl a.kf)), (g2, .inl (y2, a.lc, .inl a.cf)), (t0, .inr (4, [.ref u0, .ref u1, .ref u2, .ref u3, .ref u4, .int (nI d.k), .int (nI d.fo), .int (nI d.lev), .int (nI d.low)])), (u0, .inl (z0, 802, .inl d.tv)), (u1, .inl (z1, 401, .inl d.ov)), (u2, .inl (z2, 401, .inl d.lv)), (u3, .inl (z3, 401, .inl d.rv)), (u4, .inl (z4, 402, .inl d.sv)), (s0, .inr (1, [.ref h0, .ref t0, .ref s1, .ref s2, .ref s3, .int (nI z.sz), .int (nI z.uz), .int (nI z.op)])), (s1, .inl (x2, 401, .inl z.sn)), (s2, .inl (x3, 401, .inl z.cd)), (s3, .inl (x4, 401, .inl (upd z.us z.uz (nI r))))] := hD
  refine lv_aload_n hx hb d_Ls_join_10 rfl (lv_at hl 0 rfl) ?_
  refine lv_dup hx hb d_Ls_join_11 rfl ?_
  refine va_get (D := (dC, dI)) (ci := 1) (v := .int (nI z.uz)) (C := R_Ls) (T := F_Ls) (N := 8) hx hb hw in_Ls hown hK hP 10 rfl rfl 6 (by decide) (hw (Cond.fieldLink "ClauseSearch$Lesson" 34 "ClauseSearch$Lesson" "usedSize" "I") k_181) (fun _ h9 => h9) rfl d_Ls_join_12 ?_
  refine lv_iconst (v := nI 1) hx hb d_Ls_join_15 (by decide) ?_
  refine lv_iadd hx hb d_Ls_join_16 ?_
  refine lv_topi (fun y_1 ey_1 => ?_)
  obtain rfl : y_1 = nI (z.uz + 1) := ey_1.trans (nI_add z.uz 1)
  refine va_put (D := (dC, dI)) (ci := 1) (v := .int (nI (z.uz + 1))) (ty := .int) (C := R_Ls) (T := F_Ls) (N := 8) hx hb hw in_Ls t_Ls t_Ls_ok n_Ls hown hK hP hD hS 10 rfl rfl 6 (by decide) (hw (Cond.fieldLink "ClauseSearch$Lesson" 34 "ClauseSearch$Lesson" "usedSize" "I") k_181) (fun _ h9 => h9) rfl (by decide +kernel) rfl rfl (Nat.le_of_ble_eq_true rfl) d_Ls_join_17 (fun H locs hP hD hS => ?_)
  have hP : va_P (dC, dI) vwCl [(h0, .inr (2, [.ref g0, .ref g1, .ref g2, .int (nI a.n)])), (g0, .inl (y0, a.la, .inl a.sf)), (g1, .inl (y1, a.la, .inl a.kf)), (g2, .inl (y2, a.lc, .inl a.cf)), (t0, .inr (4, [.ref u0, .ref u1, .ref u2, .ref u3, .ref u4, .int (nI d.k), .int (nI d.fo), .int (nI d.lev), .int (nI d.low)])), (u0, .inl (z0, 802, .inl d.tv)), (u1, .inl (z1, 401, .inl d.ov)), (u2, .inl (z2, 401, .inl d.lv)), (u3, .inl (z3, 401, .inl d.rv)), (u4, .inl (z4, 402, .inl d.sv)), (s0, .inr (1, [.ref h0, .ref t0, .ref s1, .ref s2, .ref s3, .int (nI z.sz), .int (nI (z.uz + 1)), .int (nI z.op)])), (s1, .inl (x2, 401, .inl z.sn)), (s2, .inl (x3, 401, .inl z.cd)), (s3, .inl (x4, 401, .inl (upd z.us z.uz (nI r))))] H := hP
  have hD : va_D A [(h0, .inr (2, [.ref g0, .ref g1, .ref g2, .int (nI a.n)])), (g0, .inl (y0, a.la, .inl a.sf)), (g1, .inl (y1, a.la, .inl a.kf)), (g2, .inl (y2, a.lc, .inl a.cf)), (t0, .inr (4, [.ref u0, .ref u1, .ref u2, .ref u3, .ref u4, .int (nI d.k), .int (nI d.fo), .int (nI d.lev), .int (nI d.low)])), (u0, .inl (z0, 802, .inl d.tv)), (u1, .inl (z1, 401, .inl d.ov)), (u2, .inl (z2, 401, .inl d.lv)), (u3, .inl (z3, 401, .inl d.rv)), (u4, .inl (z4, 402, .inl d.sv)), (s0, .inr (1, [.ref h0, .ref t0, .ref s1, .ref s2, .ref s3, .int (nI z.sz), .int (nI (z.uz + 1)), .int (nI z.op)])), (s1, .inl (x2, 401, .inl z.sn)), (s2, .inl (x3, 401, .inl z.cd)), (s3, .inl (x4, 401, .inl (upd z.us z.uz (nI r))))] := hD
  refine lv_aload_n hx hb d_Ls_join_20 rfl (lv_at hl 0 rfl) ?_
  refine va_get (D := (dC, dI)) (ci := 1) (v := .ref h0) (C := R_Ls) (T := F_Ls) (N := 8) hx hb hw in_Ls hown hK hP 10 rfl rfl 0 (by decide) (hw (Cond.fieldLink "ClauseSearch$Lesson" 9 "ClauseSearch$Lesson" "rows" "LClauseSearch$Rows;") k_170) (fun _ h9 => h9) rfl d_Ls_join_21 ?_
  refine va_getN (D := (dC, dI)) (ci := 2) (v := .ref g0) (C := R_Rw) (T := F_Rw) (N := 4) hx hb hw in_Rw hown hK hP 0 rfl rfl 0 (by decide) (hw (Cond.fieldLinkNest "ClauseSearch$Lesson" 56 "ClauseSearch$Rows" "start" "[I" "ClauseSearch") k_63) (fun _ h9 => h9) rfl d_Ls_join_24 ?_
  refine lv_iload_n hx hb d_Ls_join_27 rfl (lv_at hl 1 rfl) ?_
  refine va_iald hx hb hK hP 1 0 rfl rfl (vp_in_nI (by omega) (by omega)) d_Ls_join_28 ?_
  refine lv_topi (fun y_2 ey_2 => ?_)
  rw [nI_clamp (by omega)] at ey_2
  rw [hR.sf _ (by omega)] at ey_2
  subst ey_2
  refine lv_istore_n (lv' := [(2, .int (nI (a.S r))), (0, .ref s0), (1, .int (nI r))]) hx hb d_Ls_join_29 rfl hl (by decide) rfl (fun ls hl => ?_)
  have hJ1 := hJ.usd hr9
  refine l_join (a := a) (d := d) (r := r) (i := i) (ep := ep) (z9 := (Lx.of z.sn z.cd (upd z.us z.uz (nI r)) z.sz (z.uz + 1) z.op z.Q (upN z.U z.uz r))) hx hb hml hw hown (hK.sub (tys' := [(y0, .int), (y1, .int), (y2, .int), (z0, .byte), (z1, .int), (z2, .int), (z3, .int), (z4, .int), (x2, .boolean), (x3, .int), (x4, .int)]) [0, 1, 2, 3, 4, 5, 6, 7, 8, 9, 10] rfl) hA (Nat.le_of_ble_eq_true rfl) (Nat.le_of_ble_eq_true rfl) (Nat.le_of_ble_eq_true rfl) (Nat.le_of_ble_eq_true rfl) hR hT hL hlev hr9 hie hek (fun b_3 H1 locs ls f_4 f_5 f_6 f_7 hP1 hD1 hS hl => ?_) (_) (a.S r) (Lx.of z.sn z.cd (upd z.us z.uz (nI r)) z.sz (z.uz + 1) z.op z.Q (upN z.U z.uz r)) _ _ ls (Nat.lt_succ_self _) (Nat.le_refl _) (by omega) hJ1 hrow (fun j h1 h2 => absurd h1 (by omega)) (fun v hv => hv) ⟨rfl, rfl⟩ (hP.sub (ws' := [(h0, .inr (2, [.ref g0, .ref g1, .ref g2, .int (nI a.n)])), (g0, .inl (y0, a.la, .inl a.sf)), (g1, .inl (y1, a.la, .inl a.kf)), (g2, .inl (y2, a.lc, .inl a.cf)), (t0, .inr (4, [.ref u0, .ref u1, .ref u2, .ref u3, .ref u4, .int (nI d.k), .int (nI d.fo), .int (nI d.lev), .int (nI d.low)])), (u0, .inl (z0, 802, .inl d.tv)), (u1, .inl (z1, 401, .inl d.ov)), (u2, .inl (z2, 401, .inl d.lv)), (u3, .inl (z3, 401, .inl d.rv)), (u4, .inl (z4, 402, .inl d.sv)), (s0, .inr (1, [.ref h0, .ref t0, .ref s1, .ref s2, .ref s3, .int (nI (Lx.of z.sn z.cd (upd z.us z.uz (nI r)) z.sz (z.uz + 1) z.op z.Q (upN z.U z.uz r)).sz), .int (nI (Lx.of z.sn z.cd (upd z.us z.uz (nI r)) z.sz (z.uz + 1) z.op z.Q (upN z.U z.uz r)).uz), .int (nI (Lx.of z.sn z.cd (upd z.us z.uz (nI r)) z.sz (z.uz + 1) z.op z.Q (upN z.U z.uz r)).op)])), (s1, .inl (x2, 401, .inl (Lx.of z.sn z.cd (upd z.us z.uz (nI r)) z.sz (z.uz + 1) z.op z.Q (upN z.U z.uz r)).sn)), (s2, .inl (x3, 401, .inl (Lx.of z.sn z.cd (upd z.us z.uz (nI r)) z.sz (z.uz + 1) z.op z.Q (upN z.U z.uz r)).cd)), (s3, .inl (x4, 401, .inl (Lx.of z.sn z.cd (upd z.us z.uz (nI r)) z.sz (z.uz + 1) z.op z.Q (upN z.U z.uz r)).us))]) [0, 1, 2, 3, 4, 5, 6, 7, 8, 9, 10, 11, 12, 13] rfl) (hD.sub (ws' := [(h0, .inr (2, [.ref g0, .ref g1, .ref g2, .int (nI a.n)])), (g0, .inl (y0, a.la, .inl a.sf)), (g1, .inl (y1, a.la, .inl a.kf)), (g2, .inl (y2, a.lc, .inl a.cf)), (t0, .inr (4, [.ref u0, .ref u1, .ref u2, .ref u3, .ref u4, .int (nI d.k), .int (nI d.fo), .int (nI d.lev), .int (nI d.low)])), (u0, .inl (z0, 802, .inl d.tv)), (u1, .inl (z1, 401, .inl d.ov)), (u2, .inl (z2, 401, .inl d.lv)), (u3, .inl (z3, 401, .inl d.rv)), (u4, .inl (z4, 402, .inl d.sv)), (s0, .inr (1, [.ref h0, .ref t0, .ref s1, .ref s2, .ref s3, .int (nI (Lx.of z.sn z.cd (upd z.us z.uz (nI r)) z.sz (z.uz + 1) z.op z.Q (upN z.U z.uz r)).sz), .int (nI (Lx.of z.sn z.cd (upd z.us z.uz (nI r)) z.sz (z.uz + 1) z.op z.Q (upN z.U z.uz r)).uz), .int (nI (Lx.of z.sn z.cd (upd z.us z.uz (nI r)) z.sz (z.uz + 1) z.op z.Q (upN z.U z.uz r)).op)])), (s1, .inl (x2, 401, .inl (Lx.of z.sn z.cd (upd z.us z.uz (nI r)) z.sz (z.uz + 1) z.op z.Q (upN z.U z.uz r)).sn)), (s2, .inl (x3, 401, .inl (Lx.of z.sn z.cd (upd z.us z.uz (nI r)) z.sz (z.uz + 1) z.op z.Q (upN z.U z.uz r)).cd)), (s3, .inl (x4, 401, .inl (Lx.of z.sn z.cd (upd z.us z.uz (nI r)) z.sz (z.uz + 1) z.op z.Q (upN z.U z.uz r)).us))]) [0, 1, 2, 3, 4, 5, 6, 7, 8, 9, 10, 11, 12, 13] (by decide) rfl) hS (lv_sub hl [1, 2, 0] rfl)
  have hP := hP1
  have hD := hD1
  generalize H1 = H at hP hS ⊢
  have hP : va_P (dC, dI) vwCl [(h0, .inr (2, [.ref g0, .ref g1, .ref g2, .int (nI a.n)])), (g0, .inl (y0, a.la, .inl a.sf)), (g1, .inl (y1, a.la, .inl a.kf)), (g2, .inl (y2, a.lc, .inl a.cf)), (t0, .inr (4, [.ref u0, .ref u1, .ref u2, .ref u3, .ref u4, .int (nI d.k), .int (nI d.fo), .int (nI d.lev), .int (nI d.low)])), (u0, .inl (z0, 802, .inl d.tv)), (u1, .inl (z1, 401, .inl d.ov)), (u2, .inl (z2, 401, .inl d.lv)), (u3, .inl (z3, 401, .inl d.rv)), (u4, .inl (z4, 402, .inl d.sv)), (s0, .inr (1, [.ref h0, .ref t0, .ref s1, .ref s2, .ref s3, .int (nI b_3.sz), .int (nI b_3.uz), .int (nI b_3.op)])), (s1, .inl (x2, 401, .inl b_3.sn)), (s2, .inl (x3, 401, .inl b_3.cd)), (s3, .inl (x4, 401, .inl b_3.us))] H := hP
  have hD : va_D A [(h0, .inr (2, [.ref g0, .ref g1, .ref g2, .int (nI a.n)])), (g0, .inl (y0, a.la, .inl a.sf)), (g1, .inl (y1, a.la, .inl a.kf)), (g2, .inl (y2, a.lc, .inl a.cf)), (t0, .inr (4, [.ref u0, .ref u1, .ref u2, .ref u3, .ref u4, .int (nI d.k), .int (nI d.fo), .int (nI d.lev), .int (nI d.low)])), (u0, .inl (z0, 802, .inl d.tv)), (u1, .inl (z1, 401, .inl d.ov)), (u2, .inl (z2, 401, .inl d.lv)), (u3, .inl (z3, 401, .inl d.rv)), (u4, .inl (z4, 402, .inl d.sv)), (s0, .inr (1, [.ref h0, .ref t0, .ref s1, .ref s2, .ref s3, .int (nI b_3.sz), .int (nI b_3.uz), .int (nI b_3.op)])), (s1, .inl (x2, 401, .inl b_3.sn)), (s2, .inl (x3, 401, .inl b_3.cd)), (s3, .inl (x4, 401, .inl b_3.us))] := hD
  have hK := hK.sub (tys' := [(y0, .int), (y1, .int), (y2, .int), (z0, .byte), (z1, .int), (z2, .int), (z3, .int), (z4, .int), (x2, .boolean), (x3, .int), (x4, .int)]) [0, 1, 2, 3, 4, 5, 6, 7, 8, 9, 10] rfl
  refine W.widen (k := 0) (n := 0) (by decide) (by decide) ?_
  exact W.vret hx hb hr (fun t ht hW => ⟨⟨(), rfl, trivial, b_3, f_4, f_5, f_6, f_7, by rw [ht]; exact hP, va_K.moved hW.alike hK, hD⟩, hS.F ht⟩) hS.2.2 d_Ls_join_135
