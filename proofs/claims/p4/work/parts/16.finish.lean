abbrev y_Ls_finish : MethodName := ⟨"ClauseSearch$Lesson", "finish", "()V"⟩
theorem d_Ls_finish_2 : decode prog_3_method_4_code 2 = .ok (.iload_n 1, 1) := by decide +kernel
theorem d_Ls_finish_3 : decode prog_3_method_4_code 3 = .ok (.aload_n 0, 1) := by decide +kernel
theorem d_Ls_finish_4 : decode prog_3_method_4_code 4 = .ok (.getfield 30, 3) := by decide +kernel
theorem d_Ls_finish_7 : decode prog_3_method_4_code 7 = .ok (.if_icmp .ge 84, 3) := by decide +kernel
theorem d_Ls_finish_10 : decode prog_3_method_4_code 10 = .ok (.aload_n 0, 1) := by decide +kernel
theorem d_Ls_finish_11 : decode prog_3_method_4_code 11 = .ok (.getfield 19, 3) := by decide +kernel
theorem d_Ls_finish_14 : decode prog_3_method_4_code 14 = .ok (.aload_n 0, 1) := by decide +kernel
theorem d_Ls_finish_15 : decode prog_3_method_4_code 15 = .ok (.getfield 23, 3) := by decide +kernel
theorem d_Ls_finish_18 : decode prog_3_method_4_code 18 = .ok (.iload_n 1, 1) := by decide +kernel
theorem d_Ls_finish_19 : decode prog_3_method_4_code 19 = .ok (.iaload, 1) := by decide +kernel
theorem d_Ls_finish_20 : decode prog_3_method_4_code 20 = .ok (.iconst 1, 1) := by decide +kernel
theorem d_Ls_finish_21 : decode prog_3_method_4_code 21 = .ok (.ishr, 1) := by decide +kernel
theorem d_Ls_finish_22 : decode prog_3_method_4_code 22 = .ok (.iconst 0, 1) := by decide +kernel
theorem d_Ls_finish_23 : decode prog_3_method_4_code 23 = .ok (.bastore, 1) := by decide +kernel
theorem d_Ls_finish_24 : decode prog_3_method_4_code 24 = .ok (.aload_n 0, 1) := by decide +kernel
theorem d_Ls_finish_25 : decode prog_3_method_4_code 25 = .ok (.getfield 15, 3) := by decide +kernel
theorem d_Ls_finish_28 : decode prog_3_method_4_code 28 = .ok (.getfield 62, 3) := by decide +kernel
theorem d_Ls_finish_31 : decode prog_3_method_4_code 31 = .ok (.aload_n 0, 1) := by decide +kernel
theorem d_Ls_finish_32 : decode prog_3_method_4_code 32 = .ok (.getfield 23, 3) := by decide +kernel
theorem d_Ls_finish_35 : decode prog_3_method_4_code 35 = .ok (.iload_n 1, 1) := by decide +kernel
theorem d_Ls_finish_36 : decode prog_3_method_4_code 36 = .ok (.iaload, 1) := by decide +kernel
theorem d_Ls_finish_37 : decode prog_3_method_4_code 37 = .ok (.iconst 1, 1) := by decide +kernel
theorem d_Ls_finish_38 : decode prog_3_method_4_code 38 = .ok (.ishr, 1) := by decide +kernel
theorem d_Ls_finish_39 : decode prog_3_method_4_code 39 = .ok (.iaload, 1) := by decide +kernel
theorem d_Ls_finish_40 : decode prog_3_method_4_code 40 = .ok (.aload_n 0, 1) := by decide +kernel
theorem d_Ls_finish_41 : decode prog_3_method_4_code 41 = .ok (.getfield 15, 3) := by decide +kernel
theorem d_Ls_finish_44 : decode prog_3_method_4_code 44 = .ok (.getfield 62, 3) := by decide +kernel
theorem d_Ls_finish_47 : decode prog_3_method_4_code 47 = .ok (.aload_n 0, 1) := by decide +kernel
theorem d_Ls_finish_48 : decode prog_3_method_4_code 48 = .ok (.getfield 23, 3) := by decide +kernel
theorem d_Ls_finish_51 : decode prog_3_method_4_code 51 = .ok (.iconst 1, 1) := by decide +kernel
theorem d_Ls_finish_52 : decode prog_3_method_4_code 52 = .ok (.iaload, 1) := by decide +kernel
theorem d_Ls_finish_53 : decode prog_3_method_4_code 53 = .ok (.iconst 1, 1) := by decide +kernel
theorem d_Ls_finish_54 : decode prog_3_method_4_code 54 = .ok (.ishr, 1) := by decide +kernel
theorem d_Ls_finish_55 : decode prog_3_method_4_code 55 = .ok (.iaload, 1) := by decide +kernel
theorem d_Ls_finish_56 : decode prog_3_method_4_code 56 = .ok (.if_icmp .le 29, 3) := by decide +kernel
theorem d_Ls_finish_85 : decode prog_3_method_4_code 85 = .ok (.iinc 1 1, 3) := by decide +kernel
theorem d_Ls_finish_88 : decode prog_3_method_4_code 88 = .ok (.goto (-86), 3) := by decide +kernel
theorem d_Ls_finish_59 : decode prog_3_method_4_code 59 = .ok (.aload_n 0, 1) := by decide +kernel
theorem d_Ls_finish_60 : decode prog_3_method_4_code 60 = .ok (.getfield 23, 3) := by decide +kernel
theorem d_Ls_finish_63 : decode prog_3_method_4_code 63 = .ok (.iload_n 1, 1) := by decide +kernel
theorem d_Ls_finish_64 : decode prog_3_method_4_code 64 = .ok (.iaload, 1) := by decide +kernel
theorem d_Ls_finish_65 : decode prog_3_method_4_code 65 = .ok (.istore_n 2, 1) := by decide +kernel
theorem d_Ls_finish_66 : decode prog_3_method_4_code 66 = .ok (.aload_n 0, 1) := by decide +kernel
theorem d_Ls_finish_67 : decode prog_3_method_4_code 67 = .ok (.getfield 23, 3) := by decide +kernel
theorem d_Ls_finish_70 : decode prog_3_method_4_code 70 = .ok (.iload_n 1, 1) := by decide +kernel
theorem d_Ls_finish_71 : decode prog_3_method_4_code 71 = .ok (.aload_n 0, 1) := by decide +kernel
theorem d_Ls_finish_72 : decode prog_3_method_4_code 72 = .ok (.getfield 23, 3) := by decide +kernel
theorem d_Ls_finish_75 : decode prog_3_method_4_code 75 = .ok (.iconst 1, 1) := by decide +kernel
theorem d_Ls_finish_76 : decode prog_3_method_4_code 76 = .ok (.iaload, 1) := by decide +kernel
theorem d_Ls_finish_77 : decode prog_3_method_4_code 77 = .ok (.iastore, 1) := by decide +kernel
theorem d_Ls_finish_78 : decode prog_3_method_4_code 78 = .ok (.aload_n 0, 1) := by decide +kernel
theorem d_Ls_finish_79 : decode prog_3_method_4_code 79 = .ok (.getfield 23, 3) := by decide +kernel
theorem d_Ls_finish_82 : decode prog_3_method_4_code 82 = .ok (.iconst 1, 1) := by decide +kernel
theorem d_Ls_finish_83 : decode prog_3_method_4_code 83 = .ok (.iload_n 2, 1) := by decide +kernel
theorem d_Ls_finish_84 : decode prog_3_method_4_code 84 = .ok (.iastore, 1) := by decide +kernel
theorem d_Ls_finish_0 : decode prog_3_method_4_code 0 = .ok (.iconst 1, 1) := by decide +kernel
theorem d_Ls_finish_1 : decode prog_3_method_4_code 1 = .ok (.istore_n 1, 1) := by decide +kernel
theorem d_Ls_finish_91 : decode prog_3_method_4_code 91 = .ok (.return_, 1) := by decide +kernel
set_option maxHeartbeats 4000000 in
set_option maxRecDepth 100000 in
/-- the loop of finish -/
theorem l_finish {p : Program} {l : Launch} {e : Env} {R : Room} {s : State} {m : MethodId} {args : Array Value} {below : List Frame} {meth : Method} {c : Code} {dC : Nat → ClassId} {dI : Nat → Nat → Nat} {A : Nat → Prop} {Q : State → Prop} {cells slots : Nat} {H0 : Heap} {h0 : Nat} {g0 : Nat} {g1 : Nat} {g2 : Nat} {t0 : Nat} {u0 : Nat} {u1 : Nat} {u2 : Nat} {u3 : Nat} {u4 : Nat} {s0 : Nat} {s1 : Nat} {s2 : Nat} {s3 : Nat} {x2 : ClassId} {x3 : ClassId} {x4 : ClassId} {y0 : ClassId} {y1 : ClassId} {y2 : ClassId} {z0 : ClassId} {z1 : ClassId} {z2 : ClassId} {z3 : ClassId} {z4 : ClassId} {a : Rx} {d : Tx} {sz9 : Nat} {uz9 : Nat} (hx : p.tables.exec = Jvm.exec) (hb : c.code = prog_3_method_4_code) (hml : c.maxLocals = 3) (hw : ∀ w ∈ bg_W, w.before args s = true) (hown : s.vm.findClass R_Ls = some m.cls) (hK : va_K (dC, dI) vwCl [(y0, .int), (y1, .int), (y2, .int), (z0, .byte), (z1, .int), (z2, .int), (z3, .int), (z4, .int), (x2, .boolean), (x3, .int), (x4, .int)] s) (hA : ∀ q : Nat, H0.size ≤ q → A q) (hR1 : 1 ≤ R.frames) (hR2 : 1 ≤ R.locals) (hR3 : cells ≤ R.cells) (hR4 : slots ≤ R.slots) (hT : Tok d) (hL : Lok d)
    (kk91 : ∀ (z : Lx) (H : Heap) (locs : List Loc) (ls : Array Slot), (Eok a d z z.sz) → (z.sz = sz9) → (z.uz = uz9) → va_P (dC, dI) vwCl [(h0, .inr (2, [.ref g0, .ref g1, .ref g2, .int (nI a.n)])), (g0, .inl (y0, a.la, .inl a.sf)), (g1, .inl (y1, a.la, .inl a.kf)), (g2, .inl (y2, a.lc, .inl a.cf)), (t0, .inr (4, [.ref u0, .ref u1, .ref u2, .ref u3, .ref u4, .int (nI d.k), .int (nI d.fo), .int (nI d.lev), .int (nI d.low)])), (u0, .inl (z0, 802, .inl d.tv)), (u1, .inl (z1, 401, .inl d.ov)), (u2, .inl (z2, 401, .inl d.lv)), (u3, .inl (z3, 401, .inl d.rv)), (u4, .inl (z4, 402, .inl d.sv)), (s0, .inr (1, [.ref h0, .ref t0, .ref s1, .ref s2, .ref s3, .int (nI z.sz), .int (nI z.uz), .int (nI z.op)])), (s1, .inl (x2, 401, .inl z.sn)), (s2, .inl (x3, 401, .inl z.cd)), (s3, .inl (x4, 401, .inl z.us))] H → va_D A [(h0, .inr (2, [.ref g0, .ref g1, .ref g2, .int (nI a.n)])), (g0, .inl (y0, a.la, .inl a.sf)), (g1, .inl (y1, a.la, .inl a.kf)), (g2, .inl (y2, a.lc, .inl a.cf)), (t0, .inr (4, [.ref u0, .ref u1, .ref u2, .ref u3, .ref u4, .int (nI d.k), .int (nI d.fo), .int (nI d.lev), .int (nI d.low)])), (u0, .inl (z0, 802, .inl d.tv)), (u1, .inl (z1, 401, .inl d.ov)), (u2, .inl (z2, 401, .inl d.lv)), (u3, .inl (z3, 401, .inl d.rv)), (u4, .inl (z4, 402, .inl d.sv)), (s0, .inr (1, [.ref h0, .ref t0, .ref s1, .ref s2, .ref s3, .int (nI z.sz), .int (nI z.uz), .int (nI z.op)])), (s1, .inl (x2, 401, .inl z.sn)), (s2, .inl (x3, 401, .inl z.cd)), (s3, .inl (x4, 401, .inl z.us))] → va_S A H0 H locs → lv_has ls 3 [(0, .ref s0)] → W p l e R s m args below meth c H locs cells slots Q (F0 m 91 ls []))
    : ∀ (f : Nat) (ix : Nat) (z : Lx) (H : Heap) (locs : List Loc) (ls : Array Slot), sz9 - ix < f → (1 ≤ ix) → (ix ≤ z.sz) → (Eok a d z ix) → (z.sz = sz9) → (z.uz = uz9) → va_P (dC, dI) vwCl [(h0, .inr (2, [.ref g0, .ref g1, .ref g2, .int (nI a.n)])), (g0, .inl (y0, a.la, .inl a.sf)), (g1, .inl (y1, a.la, .inl a.kf)), (g2, .inl (y2, a.lc, .inl a.cf)), (t0, .inr (4, [.ref u0, .ref u1, .ref u2, .ref u3, .ref u4, .int (nI d.k), .int (nI d.fo), .int (nI d.lev), .int (nI d.low)])), (u0, .inl (z0, 802, .inl d.tv)), (u1, .inl (z1, 401, .inl d.ov)), (u2, .inl (z2, 401, .inl d.lv)), (u3, .inl (z3, 401, .inl d.rv)), (u4, .inl (z4, 402, .inl d.sv)), (s0, .inr (1, [.ref h0, .ref t0, .ref s1, .ref s2, .ref s3, .int (nI z.sz), .int (nI z.uz), .int (nI z.op)])), (s1, .inl (x2, 401, .inl z.sn)), (s2, .inl (x3, 401, .inl z.cd)), (s3, .inl (x4, 401, .inl z.us))] H → va_D A [(h0, .inr (2, [.ref g0, .ref g1, .ref g2, .int (nI a.n)])), (g0, .inl (y0, a.la, .inl a.sf)), (g1, .inl (y1, a.la, .inl a.kf)), (g2, .inl (y2, a.lc, .inl a.cf)), (t0, .inr (4, [.ref u0, .ref u1, .ref u2, .ref u3, .ref u4, .int (nI d.k), .int (nI d.fo), .int (nI d.lev), .int (nI d.low)])), (u0, .inl (z0, 802, .inl d.tv)), (u1, .inl (z1, 401, .inl d.ov)), (u2, .inl (z2, 401, .inl d.lv)), (u3, .inl (z3, 401, .inl d.rv)), (u4, .inl (z4, 402, .inl d.sv)), (s0, .inr (1, [.ref h0, .ref t0, .ref s1, .ref s2, .ref s3, .int (nI z.sz), .int (nI z.uz), .int (nI z.op)])), (s1, .inl (x2, 401, .inl z.sn)), (s2, .inl (x3, 401, .inl z.cd)), (s3, .inl (x4, 401, .inl z.us))] → va_S A H0 H locs → lv_has ls 3 [(0, .ref s0), (1, .int (nI ix))] → W p l e R s m args below meth c H locs cells slots Q (F0 m 2 ls []) := by
  intro f
  induction f with
  | zero => intro ix z H locs ls q0 q1 q2 hE hsz huz9 hP hD hS hl; exact absurd q0 (Nat.not_lt_zero _)
  | succ f ih =>
    intro ix z H locs ls q0 q1 q2 hE hsz huz9 hP hD hS hl
    have hk4 := hT.k400
    have hle := hL.lev
    have hs4 := hE.s4
    refine lv_iload_n hx hb d_Ls_finish_2 rfl (lv_at hl 1 rfl) ?_
    refine lv_aload_n hx hb d_Ls_finish_3 rfl (lv_at hl 0 rfl) ?_
    refine va_get (D := (dC, dI)) (ci := 1) (v := .int (nI z.sz)) (C := R_Ls) (T := F_Ls) (N := 8) hx hb hw in_Ls hown hK hP 10 rfl rfl 5 (by decide) (hw (Cond.fieldLink "ClauseSearch$Lesson" 30 "ClauseSearch$Lesson" "size" "I") k_178) (fun _ h9 => h9) rfl d_Ls_finish_4 ?_
    refine lv_icmp_ge (tgt := 91) hx hb d_Ls_finish_7 (by decide) (fun c_7 => ?_) (fun c_7 => ?_)
    · have c_7 : z.sz ≤ ix := (nI_leI (a := z.sz) (b := ix) (by omega) (by omega)).mp c_7
      exact kk91 z _ _ ls (by rw [show z.sz = ix by omega]; exact hE) hsz huz9 hP hD hS (lv_sub hl [0] rfl)
    · have c_7 : ¬ (z.sz ≤ ix) := fun qq9 => c_7 ((nI_leI (a := z.sz) (b := ix) (by omega) (by omega)).mpr qq9)
      obtain ⟨xa1, xa2, xa3⟩ := hE.cd ix (by omega) (by omega)
      have xa4 := (hT.ov _ xa2).2
      have xa5 := fl_lt xa4.1 xa4.2
      have xa6 := hL.lv _ xa2
      obtain ⟨ya1, ya2, ya3⟩ := hE.cd 1 (by omega) (by omega)
      have ya4 := (hT.ov _ ya2).2
      have ya5 := fl_lt ya4.1 ya4.2
      have ya6 := hL.lv _ ya2
      refine lv_aload_n hx hb d_Ls_finish_10 rfl (lv_at hl 0 rfl) ?_
      refine va_get (D := (dC, dI)) (ci := 1) (v := .ref s1) (C := R_Ls) (T := F_Ls) (N := 8) hx hb hw in_Ls hown hK hP 10 rfl rfl 2 (by decide) (hw (Cond.fieldLink "ClauseSearch$Lesson" 19 "ClauseSearch$Lesson" "seen" "[Z") k_172) (fun _ h9 => h9) rfl d_Ls_finish_11 ?_
      refine lv_aload_n hx hb d_Ls_finish_14 rfl (lv_at hl 0 rfl) ?_
      refine va_get (D := (dC, dI)) (ci := 1) (v := .ref s2) (C := R_Ls) (T := F_Ls) (N := 8) hx hb hw in_Ls hown hK hP 10 rfl rfl 3 (by decide) (hw (Cond.fieldLink "ClauseSearch$Lesson" 23 "ClauseSearch$Lesson" "codes" "[I") k_173) (fun _ h9 => h9) rfl d_Ls_finish_15 ?_
      refine lv_iload_n hx hb d_Ls_finish_18 rfl (lv_at hl 1 rfl) ?_
      refine va_iald hx hb hK hP 12 9 rfl rfl (vp_in_nI (by omega) (by omega)) d_Ls_finish_19 ?_
      refine lv_topi (fun y_1 ey_1 => ?_)
      rw [nI_clamp (by omega)] at ey_1
      rw [xa1] at ey_1
      subst ey_1
      refine lv_iconst (v := nI 1) hx hb d_Ls_finish_20 (by decide) ?_
      refine lv_ishr hx hb d_Ls_finish_21 ?_
      refine lv_topi (fun y_2 ey_2 => ?_)
      obtain rfl : y_2 = nI ((fl (d.O (z.Q ix))) / 2) := ey_2.trans (ni_shr (by omega))
      refine lv_iconst (v := 0) hx hb d_Ls_finish_22 (by decide) ?_
      have en_23 : vp_nar .boolean 0 = 0 := rfl
      refine va_zast hx hb hK hP hD hS 11 8 rfl rfl (vp_in_nI (by omega) (by omega)) d_Ls_finish_23 (fun H locs hP hD hS => ?_)
      rw [nI_clamp (n := (fl (d.O (z.Q ix))) / 2) (by omega), en_23] at hP hD
      have hP : va_P (dC, dI) vwCl [(h0, .inr (2, [.ref g0, .ref g1, .ref g2, .int (nI a.n)])), (g0, .inl (y0, a.la, .inl a.sf)), (g1, .inl (y1, a.la, .inl a.kf)), (g2, .inl (y2, a.lc, .inl a.cf)), (t0, .inr (4, [.ref u0, .ref u1, .ref u2, .ref u3, .ref u4, .int (nI d.k), .int (nI d.fo), .int (nI d.lev), .int (nI d.low)])), (u0, .inl (z0, 802, .inl d.tv)), (u1, .inl (z1, 401, .inl d.ov)), (u2, .inl (z2, 401, .inl d.lv)), (u3, .inl (z3, 401, .inl d.rv)), (u4, .inl (z4, 402, .inl d.sv)), (s0, .inr (1, [.ref h0, .ref t0, .ref s1, .ref s2, .ref s3, .int (nI z.sz), .int (nI z.uz), .int (nI z.op)])), (s1, .inl (x2, 401, .inl (upd z.sn ((fl (d.O (z.Q ix))) / 2) 0))), (s2, .inl (x3, 401, .inl z.cd)), (s3, .inl (x4, 401, .inl z.us))] H := hP
      have hD : va_D A [(h0, .inr (2, [.ref g0, .ref g1, .ref g2, .int (nI a.n)])), (g0, .inl (y0, a.la, .inl a.sf)), (g1, .inl (y1, a.la, .inl a.kf)), (g2, .inl (y2, a.lc, .inl a.cf)), (t0, .inr (4, [.ref u0, .ref u1, .ref u2, .ref u3, .ref u4, .int (nI d.k), .int (nI d.fo), .int (nI d.lev), .int (nI d.low)])), (u0, .inl (z0, 802, .inl d.tv)), (u1, .inl (z1, 401, .inl d.ov)), (u2, .inl (z2, 401, .inl d.lv)), (u3, .inl (z3, 401, .inl d.rv)), (u4, .inl (z4, 402, .inl d.sv)), (s0, .inr (1, [.ref h0, .ref t0, .ref s1, .ref s2, .ref s3, .int (nI z.sz), .int (nI z.uz), .int (nI z.op)])), (s1, .inl (x2, 401, .inl (upd z.sn ((fl (d.O (z.Q ix))) / 2) 0))), (s2, .inl (x3, 401, .inl z.cd)), (s3, .inl (x4, 401, .inl z.us))] := hD
      refine lv_aload_n hx hb d_Ls_finish_24 rfl (lv_at hl 0 rfl) ?_
      refine va_get (D := (dC, dI)) (ci := 1) (v := .ref t0) (C := R_Ls) (T := F_Ls) (N := 8) hx hb hw in_Ls hown hK hP 10 rfl rfl 1 (by decide) (hw (Cond.fieldLink "ClauseSearch$Lesson" 15 "ClauseSearch$Lesson" "trail" "LClauseSearch$Trail;") k_171) (fun _ h9 => h9) rfl d_Ls_finish_25 ?_
      refine va_getN (D := (dC, dI)) (ci := 4) (v := .ref u2) (C := R_Tr) (T := F_Tr) (N := 9) hx hb hw in_Tr hown hK hP 4 rfl rfl 2 (by decide) (hw (Cond.fieldLinkNest "ClauseSearch$Lesson" 62 "ClauseSearch$Trail" "levelOf" "[I" "ClauseSearch") k_104) (fun _ h9 => h9) rfl d_Ls_finish_28 ?_
      refine lv_aload_n hx hb d_Ls_finish_31 rfl (lv_at hl 0 rfl) ?_
      refine va_get (D := (dC, dI)) (ci := 1) (v := .ref s2) (C := R_Ls) (T := F_Ls) (N := 8) hx hb hw in_Ls hown hK hP 10 rfl rfl 3 (by decide) (hw (Cond.fieldLink "ClauseSearch$Lesson" 23 "ClauseSearch$Lesson" "codes" "[I") k_173) (fun _ h9 => h9) rfl d_Ls_finish_32 ?_
      refine lv_iload_n hx hb d_Ls_finish_35 rfl (lv_at hl 1 rfl) ?_
      refine va_iald hx hb hK hP 12 9 rfl rfl (vp_in_nI (by omega) (by omega)) d_Ls_finish_36 ?_
      refine lv_topi (fun y_3 ey_3 => ?_)
      rw [nI_clamp (by omega)] at ey_3
      rw [xa1] at ey_3
      subst ey_3
      refine lv_iconst (v := nI 1) hx hb d_Ls_finish_37 (by decide) ?_
      refine lv_ishr hx hb d_Ls_finish_38 ?_
      refine lv_topi (fun y_4 ey_4 => ?_)
      obtain rfl : y_4 = nI ((fl (d.O (z.Q ix))) / 2) := ey_4.trans (ni_shr (by omega))
      refine va_iald hx hb hK hP 7 5 rfl rfl (vp_in_nI (by omega) (by omega)) d_Ls_finish_39 ?_
      refine lv_topi (fun y_5 ey_5 => ?_)
      rw [nI_clamp (by omega)] at ey_5
      rw [fl_var, xa6.1] at ey_5
      subst ey_5
      refine lv_aload_n hx hb d_Ls_finish_40 rfl (lv_at hl 0 rfl) ?_
      refine va_get (D := (dC, dI)) (ci := 1) (v := .ref t0) (C := R_Ls) (T := F_Ls) (N := 8) hx hb hw in_Ls hown hK hP 10 rfl rfl 1 (by decide) (hw (Cond.fieldLink "ClauseSearch$Lesson" 15 "ClauseSearch$Lesson" "trail" "LClauseSearch$Trail;") k_171) (fun _ h9 => h9) rfl d_Ls_finish_41 ?_
      refine va_getN (D := (dC, dI)) (ci := 4) (v := .ref u2) (C := R_Tr) (T := F_Tr) (N := 9) hx hb hw in_Tr hown hK hP 4 rfl rfl 2 (by decide) (hw (Cond.fieldLinkNest "ClauseSearch$Lesson" 62 "ClauseSearch$Trail" "levelOf" "[I" "ClauseSearch") k_104) (fun _ h9 => h9) rfl d_Ls_finish_44 ?_
      refine lv_aload_n hx hb d_Ls_finish_47 rfl (lv_at hl 0 rfl) ?_
      refine va_get (D := (dC, dI)) (ci := 1) (v := .ref s2) (C := R_Ls) (T := F_Ls) (N := 8) hx hb hw in_Ls hown hK hP 10 rfl rfl 3 (by decide) (hw (Cond.fieldLink "ClauseSearch$Lesson" 23 "ClauseSearch$Lesson" "codes" "[I") k_173) (fun _ h9 => h9) rfl d_Ls_finish_48 ?_
      refine lv_iconst (v := nI 1) hx hb d_Ls_finish_51 (by decide) ?_
      refine va_iald hx hb hK hP 12 9 rfl rfl (vp_in_nI (by omega) (by omega)) d_Ls_finish_52 ?_
      refine lv_topi (fun y_6 ey_6 => ?_)
      rw [nI_clamp (by omega)] at ey_6
      rw [ya1] at ey_6
      subst ey_6
      refine lv_iconst (v := nI 1) hx hb d_Ls_finish_53 (by decide) ?_
      refine lv_ishr hx hb d_Ls_finish_54 ?_
      refine lv_topi (fun y_7 ey_7 => ?_)
      obtain rfl : y_7 = nI ((fl (d.O (z.Q 1))) / 2) := ey_7.trans (ni_shr (by omega))
      refine va_iald hx hb hK hP 7 5 rfl rfl (vp_in_nI (by omega) (by omega)) d_Ls_finish_55 ?_
      refine lv_topi (fun y_8 ey_8 => ?_)
      rw [nI_clamp (by omega)] at ey_8
      rw [fl_var, ya6.1] at ey_8
      subst ey_8
      refine lv_icmp_le (tgt := 85) hx hb d_Ls_finish_56 (by decide) (fun c_56 => ?_) (fun c_56 => ?_)
      · have c_56 : d.V (z.Q ix) ≤ d.V (z.Q 1) := (nI_leI (a := d.V (z.Q ix)) (b := d.V (z.Q 1)) (by omega) (by omega)).mp c_56
        refine lv_iinc (v := nI (ix + 1)) (lv' := [(1, .int (nI (ix + 1))), (0, .ref s0)]) hx hb d_Ls_finish_85 hl (k := 1) rfl (nI_1 ix) (by decide) rfl (fun ls hl => ?_)
        refine lv_goto (tgt := 2) hx hb d_Ls_finish_88 (by decide) ?_
        rw [fl_var] at hP hD
        have hP : va_P (dC, dI) vwCl [(h0, .inr (2, [.ref g0, .ref g1, .ref g2, .int (nI a.n)])), (g0, .inl (y0, a.la, .inl a.sf)), (g1, .inl (y1, a.la, .inl a.kf)), (g2, .inl (y2, a.lc, .inl a.cf)), (t0, .inr (4, [.ref u0, .ref u1, .ref u2, .ref u3, .ref u4, .int (nI d.k), .int (nI d.fo), .int (nI d.lev), .int (nI d.low)])), (u0, .inl (z0, 802, .inl d.tv)), (u1, .inl (z1, 401, .inl d.ov)), (u2, .inl (z2, 401, .inl d.lv)), (u3, .inl (z3, 401, .inl d.rv)), (u4, .inl (z4, 402, .inl d.sv)), (s0, .inr (1, [.ref h0, .ref t0, .ref s1, .ref s2, .ref s3, .int (nI z.sz), .int (nI z.uz), .int (nI z.op)])), (s1, .inl (x2, 401, .inl (upd z.sn (d.O (z.Q ix) / 2) 0))), (s2, .inl (x3, 401, .inl z.cd)), (s3, .inl (x4, 401, .inl z.us))] H := hP
        have hD : va_D A [(h0, .inr (2, [.ref g0, .ref g1, .ref g2, .int (nI a.n)])), (g0, .inl (y0, a.la, .inl a.sf)), (g1, .inl (y1, a.la, .inl a.kf)), (g2, .inl (y2, a.lc, .inl a.cf)), (t0, .inr (4, [.ref u0, .ref u1, .ref u2, .ref u3, .ref u4, .int (nI d.k), .int (nI d.fo), .int (nI d.lev), .int (nI d.low)])), (u0, .inl (z0, 802, .inl d.tv)), (u1, .inl (z1, 401, .inl d.ov)), (u2, .inl (z2, 401, .inl d.lv)), (u3, .inl (z3, 401, .inl d.rv)), (u4, .inl (z4, 402, .inl d.sv)), (s0, .inr (1, [.ref h0, .ref t0, .ref s1, .ref s2, .ref s3, .int (nI z.sz), .int (nI z.uz), .int (nI z.op)])), (s1, .inl (x2, 401, .inl (upd z.sn (d.O (z.Q ix) / 2) 0))), (s2, .inl (x3, 401, .inl z.cd)), (s3, .inl (x4, 401, .inl z.us))] := hD
        have hP := hP.sub (ws' := [(h0, .inr (2, [.ref g0, .ref g1, .ref g2, .int (nI a.n)])), (g0, .inl (y0, a.la, .inl a.sf)), (g1, .inl (y1, a.la, .inl a.kf)), (g2, .inl (y2, a.lc, .inl a.cf)), (t0, .inr (4, [.ref u0, .ref u1, .ref u2, .ref u3, .ref u4, .int (nI d.k), .int (nI d.fo), .int (nI d.lev), .int (nI d.low)])), (u0, .inl (z0, 802, .inl d.tv)), (u1, .inl (z1, 401, .inl d.ov)), (u2, .inl (z2, 401, .inl d.lv)), (u3, .inl (z3, 401, .inl d.rv)), (u4, .inl (z4, 402, .inl d.sv)), (s0, .inr (1, [.ref h0, .ref t0, .ref s1, .ref s2, .ref s3, .int (nI (Ekp d z ix).sz), .int (nI (Ekp d z ix).uz), .int (nI (Ekp d z ix).op)])), (s1, .inl (x2, 401, .inl (Ekp d z ix).sn)), (s2, .inl (x3, 401, .inl (Ekp d z ix).cd)), (s3, .inl (x4, 401, .inl (Ekp d z ix).us))]) [0, 1, 2, 3, 4, 5, 6, 7, 8, 9, 10, 11, 12, 13] rfl
        have hD := hD.sub (ws' := [(h0, .inr (2, [.ref g0, .ref g1, .ref g2, .int (nI a.n)])), (g0, .inl (y0, a.la, .inl a.sf)), (g1, .inl (y1, a.la, .inl a.kf)), (g2, .inl (y2, a.lc, .inl a.cf)), (t0, .inr (4, [.ref u0, .ref u1, .ref u2, .ref u3, .ref u4, .int (nI d.k), .int (nI d.fo), .int (nI d.lev), .int (nI d.low)])), (u0, .inl (z0, 802, .inl d.tv)), (u1, .inl (z1, 401, .inl d.ov)), (u2, .inl (z2, 401, .inl d.lv)), (u3, .inl (z3, 401, .inl d.rv)), (u4, .inl (z4, 402, .inl d.sv)), (s0, .inr (1, [.ref h0, .ref t0, .ref s1, .ref s2, .ref s3, .int (nI (Ekp d z ix).sz), .int (nI (Ekp d z ix).uz), .int (nI (Ekp d z ix).op)])), (s1, .inl (x2, 401, .inl (Ekp d z ix).sn)), (s2, .inl (x3, 401, .inl (Ekp d z ix).cd)), (s3, .inl (x4, 401, .inl (Ekp d z ix).us))]) [0, 1, 2, 3, 4, 5, 6, 7, 8, 9, 10, 11, 12, 13] (by decide) rfl
        exact ih (ix + 1) (Ekp d z ix) _ _ ls (by omega) (by omega) (by show ix + 1 ≤ z.sz; omega) (hE.keep q1 (by omega) c_56) hsz huz9 hP hD hS (lv_sub hl [1, 0] rfl)
      · have c_56 : ¬ (d.V (z.Q ix) ≤ d.V (z.Q 1)) := fun qq9 => c_56 ((nI_leI (a := d.V (z.Q ix)) (b := d.V (z.Q 1)) (by omega) (by omega)).mpr qq9)
        refine lv_aload_n hx hb d_Ls_finish_59 rfl (lv_at hl 0 rfl) ?_
        refine va_get (D := (dC, dI)) (ci := 1) (v := .ref s2) (C := R_Ls) (T := F_Ls) (N := 8) hx hb hw in_Ls hown hK hP 10 rfl rfl 3 (by decide) (hw (Cond.fieldLink "ClauseSearch$Lesson" 23 "ClauseSearch$Lesson" "codes" "[I") k_173) (fun _ h9 => h9) rfl d_Ls_finish_60 ?_
        refine lv_iload_n hx hb d_Ls_finish_63 rfl (lv_at hl 1 rfl) ?_
        refine va_iald hx hb hK hP 12 9 rfl rfl (vp_in_nI (by omega) (by omega)) d_Ls_finish_64 ?_
        refine lv_topi (fun y_9 ey_9 => ?_)
        rw [nI_clamp (by omega)] at ey_9
        rw [xa1] at ey_9
        subst ey_9
        refine lv_istore_n (lv' := [(2, .int (nI (fl (d.O (z.Q ix))))), (0, .ref s0), (1, .int (nI ix))]) hx hb d_Ls_finish_65 rfl hl (by decide) rfl (fun ls hl => ?_)
        refine lv_aload_n hx hb d_Ls_finish_66 rfl (lv_at hl 1 rfl) ?_
        refine va_get (D := (dC, dI)) (ci := 1) (v := .ref s2) (C := R_Ls) (T := F_Ls) (N := 8) hx hb hw in_Ls hown hK hP 10 rfl rfl 3 (by decide) (hw (Cond.fieldLink "ClauseSearch$Lesson" 23 "ClauseSearch$Lesson" "codes" "[I") k_173) (fun _ h9 => h9) rfl d_Ls_finish_67 ?_
        refine lv_iload_n hx hb d_Ls_finish_70 rfl (lv_at hl 2 rfl) ?_
        refine lv_aload_n hx hb d_Ls_finish_71 rfl (lv_at hl 1 rfl) ?_
        refine va_get (D := (dC, dI)) (ci := 1) (v := .ref s2) (C := R_Ls) (T := F_Ls) (N := 8) hx hb hw in_Ls hown hK hP 10 rfl rfl 3 (by decide) (hw (Cond.fieldLink "ClauseSearch$Lesson" 23 "ClauseSearch$Lesson" "codes" "[I") k_173) (fun _ h9 => h9) rfl d_Ls_finish_72 ?_
        refine lv_iconst (v := nI 1) hx hb d_Ls_finish_75 (by decide) ?_
        refine va_iald hx hb hK hP 12 9 rfl rfl (vp_in_nI (by omega) (by omega)) d_Ls_finish_76 ?_
        refine lv_topi (fun y_10 ey_10 => ?_)
        rw [nI_clamp (by omega)] at ey_10
        rw [ya1] at ey_10
        subst ey_10
        refine va_iast hx hb hK hP hD hS 12 9 rfl rfl (vp_in_nI (by omega) (by omega)) d_Ls_finish_77 (fun H locs hP hD hS => ?_)
        rw [nI_clamp (n := ix) (by omega)] at hP hD
        have hP : va_P (dC, dI) vwCl [(h0, .inr (2, [.ref g0, .ref g1, .ref g2, .int (nI a.n)])), (g0, .inl (y0, a.la, .inl a.sf)), (g1, .inl (y1, a.la, .inl a.kf)), (g2, .inl (y2, a.lc, .inl a.cf)), (t0, .inr (4, [.ref u0, .ref u1, .ref u2, .ref u3, .ref u4, .int (nI d.k), .int (nI d.fo), .int (nI d.lev), .int (nI d.low)])), (u0, .inl (z0, 802, .inl d.tv)), (u1, .inl (z1, 401, .inl d.ov)), (u2, .inl (z2, 401, .inl d.lv)), (u3, .inl (z3, 401, .inl d.rv)), (u4, .inl (z4, 402, .inl d.sv)), (s0, .inr (1, [.ref h0, .ref t0, .ref s1, .ref s2, .ref s3, .int (nI z.sz), .int (nI z.uz), .int (nI z.op)])), (s1, .inl (x2, 401, .inl (upd z.sn ((fl (d.O (z.Q ix))) / 2) 0))), (s2, .inl (x3, 401, .inl (upd z.cd ix (nI (fl (d.O (z.Q 1))))))), (s3, .inl (x4, 401, .inl z.us))] H := hP
        have hD : va_D A [(h0, .inr (2, [.ref g0, .ref g1, .ref g2, .int (nI a.n)])), (g0, .inl (y0, a.la, .inl a.sf)), (g1, .inl (y1, a.la, .inl a.kf)), (g2, .inl (y2, a.lc, .inl a.cf)), (t0, .inr (4, [.ref u0, .ref u1, .ref u2, .ref u3, .ref u4, .int (nI d.k), .int (nI d.fo), .int (nI d.lev), .int (nI d.low)])), (u0, .inl (z0, 802, .inl d.tv)), (u1, .inl (z1, 401, .inl d.ov)), (u2, .inl (z2, 401, .inl d.lv)), (u3, .inl (z3, 401, .inl d.rv)), (u4, .inl (z4, 402, .inl d.sv)), (s0, .inr (1, [.ref h0, .ref t0, .ref s1, .ref s2, .ref s3, .int (nI z.sz), .int (nI z.uz), .int (nI z.op)])), (s1, .inl (x2, 401, .inl (upd z.sn ((fl (d.O (z.Q ix))) / 2) 0))), (s2, .inl (x3, 401, .inl (upd z.cd ix (nI (fl (d.O (z.Q 1))))))), (s3, .inl (x4, 401, .inl z.us))] := hD
        refine lv_aload_n hx hb d_Ls_finish_78 rfl (lv_at hl 1 rfl) ?_
        refine va_get (D := (dC, dI)) (ci := 1) (v := .ref s2) (C := R_Ls) (T := F_Ls) (N := 8) hx hb hw in_Ls hown hK hP 10 rfl rfl 3 (by decide) (hw (Cond.fieldLink "ClauseSearch$Lesson" 23 "ClauseSearch$Lesson" "codes" "[I") k_173) (fun _ h9 => h9) rfl d_Ls_finish_79 ?_
        refine lv_iconst (v := nI 1) hx hb d_Ls_finish_82 (by decide) ?_
        refine lv_iload_n hx hb d_Ls_finish_83 rfl (lv_at hl 0 rfl) ?_
        refine va_iast hx hb hK hP hD hS 12 9 rfl rfl (vp_in_nI (by omega) (by omega)) d_Ls_finish_84 (fun H locs hP hD hS => ?_)
        rw [nI_clamp (n := 1) (by omega)] at hP hD
        have hP : va_P (dC, dI) vwCl [(h0, .inr (2, [.ref g0, .ref g1, .ref g2, .int (nI a.n)])), (g0, .inl (y0, a.la, .inl a.sf)), (g1, .inl (y1, a.la, .inl a.kf)), (g2, .inl (y2, a.lc, .inl a.cf)), (t0, .inr (4, [.ref u0, .ref u1, .ref u2, .ref u3, .ref u4, .int (nI d.k), .int (nI d.fo), .int (nI d.lev), .int (nI d.low)])), (u0, .inl (z0, 802, .inl d.tv)), (u1, .inl (z1, 401, .inl d.ov)), (u2, .inl (z2, 401, .inl d.lv)), (u3, .inl (z3, 401, .inl d.rv)), (u4, .inl (z4, 402, .inl d.sv)), (s0, .inr (1, [.ref h0, .ref t0, .ref s1, .ref s2, .ref s3, .int (nI z.sz), .int (nI z.uz), .int (nI z.op)])), (s1, .inl (x2, 401, .inl (upd z.sn ((fl (d.O (z.Q ix))) / 2) 0))), (s2, .inl (x3, 401, .inl (upd (upd z.cd ix (nI (fl (d.O (z.Q 1))))) 1 (nI (fl (d.O (z.Q ix))))))), (s3, .inl (x4, 401, .inl z.us))] H := hP
        have hD : va_D A [(h0, .inr (2, [.ref g0, .ref g1, .ref g2, .int (nI a.n)])), (g0, .inl (y0, a.la, .inl a.sf)), (g1, .inl (y1, a.la, .inl a.kf)), (g2, .inl (y2, a.lc, .inl a.cf)), (t0, .inr (4, [.ref u0, .ref u1, .ref u2, .ref u3, .ref u4, .int (nI d.k), .int (nI d.fo), .int (nI d.lev), .int (nI d.low)])), (u0, .inl (z0, 802, .inl d.tv)), (u1, .inl (z1, 401, .inl d.ov)), (u2, .inl (z2, 401, .inl d.lv)), (u3, .inl (z3, 401, .inl d.rv)), (u4, .inl (z4, 402, .inl d.sv)), (s0, .inr (1, [.ref h0, .ref t0, .ref s1, .ref s2, .ref s3, .int (nI z.sz), .int (nI z.uz), .int (nI z.op)])), (s1, .inl (x2, 401, .inl (upd z.sn ((fl (d.O (z.Q ix))) / 2) 0))), (s2, .inl (x3, 401, .inl (upd (upd z.cd ix (nI (fl (d.O (z.Q 1))))) 1 (nI (fl (d.O (z.Q ix))))))), (s3, .inl (x4, 401, .inl z.us))] := hD
        refine lv_iinc (v := nI (ix + 1)) (lv' := [(1, .int (nI (ix + 1))), (2, .int (nI (fl (d.O (z.Q ix))))), (0, .ref s0)]) hx hb d_Ls_finish_85 hl (k := 2) rfl (nI_1 ix) (by decide) rfl (fun ls hl => ?_)
        refine lv_goto (tgt := 2) hx hb d_Ls_finish_88 (by decide) ?_
        rw [fl_var] at hP hD
        have hP : va_P (dC, dI) vwCl [(h0, .inr (2, [.ref g0, .ref g1, .ref g2, .int (nI a.n)])), (g0, .inl (y0, a.la, .inl a.sf)), (g1, .inl (y1, a.la, .inl a.kf)), (g2, .inl (y2, a.lc, .inl a.cf)), (t0, .inr (4, [.ref u0, .ref u1, .ref u2, .ref u3, .ref u4, .int (nI d.k), .int (nI d.fo), .int (nI d.lev), .int (nI d.low)])), (u0, .inl (z0, 802, .inl d.tv)), (u1, .inl (z1, 401, .inl d.ov)), (u2, .inl (z2, 401, .inl d.lv)), (u3, .inl (z3, 401, .inl d.rv)), (u4, .inl (z4, 402, .inl d.sv)), (s0, .inr (1, [.ref h0, .ref t0, .ref s1, .ref s2, .ref s3, .int (nI z.sz), .int (nI z.uz), .int (nI z.op)])), (s1, .inl (x2, 401, .inl (upd z.sn (d.O (z.Q ix) / 2) 0))), (s2, .inl (x3, 401, .inl (upd (upd z.cd ix (nI (fl (d.O (z.Q 1))))) 1 (nI (fl (d.O (z.Q ix))))))), (s3, .inl (x4, 401, .inl z.us))] H := hP
        have hD : va_D A [(h0, .inr (2, [.ref g0, .ref g1, .ref g2, .int (nI a.n)])), (g0, .inl (y0, a.la, .inl a.sf)), (g1, .inl (y1, a.la, .inl a.kf)), (g2, .inl (y2, a.lc, .inl a.cf)), (t0, .inr (4, [.ref u0, .ref u1, .ref u2, .ref u3, .ref u4, .int (nI d.k), .int (nI d.fo), .int (nI d.lev), .int (nI d.low)])), (u0, .inl (z0, 802, .inl d.tv)), (u1, .inl (z1, 401, .inl d.ov)), (u2, .inl (z2, 401, .inl d.lv)), (u3, .inl (z3, 401, .inl d.rv)), (u4, .inl (z4, 402, .inl d.sv)), (s0, .inr (1, [.ref h0, .ref t0, .ref s1, .ref s2, .ref s3, .int (nI z.sz), .int (nI z.uz), .int (nI z.op)])), (s1, .inl (x2, 401, .inl (upd z.sn (d.O (z.Q ix) / 2) 0))), (s2, .inl (x3, 401, .inl (upd (upd z.cd ix (nI (fl (d.O (z.Q 1))))) 1 (nI (fl (d.O (z.Q ix))))))), (s3, .inl (x4, 401, .inl z.us))] := hD
        have hP := hP.sub (ws' := [(h0, .inr (2, [.ref g0, .ref g1, .ref g2, .int (nI a.n)])), (g0, .inl (y0, a.la, .inl a.sf)), (g1, .inl (y1, a.la, .inl a.kf)), (g2, .inl (y2, a.lc, .inl a.cf)), (t0, .inr (4, [.ref u0, .ref u1, .ref u2, .ref u3, .ref u4, .int (nI d.k), .int (nI d.fo), .int (nI d.lev), .int (nI d.low)])), (u0, .inl (z0, 802, .inl d.tv)), (u1, .inl (z1, 401, .inl d.ov)), (u2, .inl (z2, 401, .inl d.lv)), (u3, .inl (z3, 401, .inl d.rv)), (u4, .inl (z4, 402, .inl d.sv)), (s0, .inr (1, [.ref h0, .ref t0, .ref s1, .ref s2, .ref s3, .int (nI (Esw d z ix).sz), .int (nI (Esw d z ix).uz), .int (nI (Esw d z ix).op)])), (s1, .inl (x2, 401, .inl (Esw d z ix).sn)), (s2, .inl (x3, 401, .inl (Esw d z ix).cd)), (s3, .inl (x4, 401, .inl (Esw d z ix).us))]) [0, 1, 2, 3, 4, 5, 6, 7, 8, 9, 10, 11, 12, 13] rfl
        have hD := hD.sub (ws' := [(h0, .inr (2, [.ref g0, .ref g1, .ref g2, .int (nI a.n)])), (g0, .inl (y0, a.la, .inl a.sf)), (g1, .inl (y1, a.la, .inl a.kf)), (g2, .inl (y2, a.lc, .inl a.cf)), (t0, .inr (4, [.ref u0, .ref u1, .ref u2, .ref u3, .ref u4, .int (nI d.k), .int (nI d.fo), .int (nI d.lev), .int (nI d.low)])), (u0, .inl (z0, 802, .inl d.tv)), (u1, .inl (z1, 401, .inl d.ov)), (u2, .inl (z2, 401, .inl d.lv)), (u3, .inl (z3, 401, .inl d.rv)), (u4, .inl (z4, 402, .inl d.sv)), (s0, .inr (1, [.ref h0, .ref t0, .ref s1, .ref s2, .ref s3, .int (nI (Esw d z ix).sz), .int (nI (Esw d z ix).uz), .int (nI (Esw d z ix).op)])), (s1, .inl (x2, 401, .inl (Esw d z ix).sn)), (s2, .inl (x3, 401, .inl (Esw d z ix).cd)), (s3, .inl (x4, 401, .inl (Esw d z ix).us))]) [0, 1, 2, 3, 4, 5, 6, 7, 8, 9, 10, 11, 12, 13] (by decide) rfl
        exact ih (ix + 1) (Esw d z ix) _ _ ls (by omega) (by omega) (by show ix + 1 ≤ z.sz; omega) (hE.swap q1 (by omega) (by omega)) hsz huz9 hP hD hS (lv_sub hl [2, 0] rfl)

set_option maxHeartbeats 4000000 in
set_option maxRecDepth 100000 in
/-- finish() -/
theorem c_Ls_finish (l : Launch) (dC : Nat → ClassId) (dI : Nat → Nat → Nat) (h0 : Nat) (g0 : Nat) (g1 : Nat) (g2 : Nat) (t0 : Nat) (u0 : Nat) (u1 : Nat) (u2 : Nat) (u3 : Nat) (u4 : Nat) (s0 : Nat) (s1 : Nat) (s2 : Nat) (s3 : Nat) (x2 : ClassId) (x3 : ClassId) (x4 : ClassId) (y0 : ClassId) (y1 : ClassId) (y2 : ClassId) (z0 : ClassId) (z1 : ClassId) (z2 : ClassId) (z3 : ClassId) (z4 : ClassId) (sz : Nat) (a : Rx) (d : Tx) (z : Lx) (hT : Tok d) (hL : Lok d) (hE : Eok a d z 1) : Met l y_Ls_finish (wq y_Ls_finish prog_3_method_4_code 3 none) ({ frames := 1, cells := 0, slots := 0, locals := 1 }) (va_Pc [.ref s0] (fun U => U.heap.size = sz ∧ va_P (dC, dI) vwCl [(h0, .inr (2, [.ref g0, .ref g1, .ref g2, .int (nI a.n)])), (g0, .inl (y0, a.la, .inl a.sf)), (g1, .inl (y1, a.la, .inl a.kf)), (g2, .inl (y2, a.lc, .inl a.cf)), (t0, .inr (4, [.ref u0, .ref u1, .ref u2, .ref u3, .ref u4, .int (nI d.k), .int (nI d.fo), .int (nI d.lev), .int (nI d.low)])), (u0, .inl (z0, 802, .inl d.tv)), (u1, .inl (z1, 401, .inl d.ov)), (u2, .inl (z2, 401, .inl d.lv)), (u3, .inl (z3, 401, .inl d.rv)), (u4, .inl (z4, 402, .inl d.sv)), (s0, .inr (1, [.ref h0, .ref t0, .ref s1, .ref s2, .ref s3, .int (nI z.sz), .int (nI z.uz), .int (nI z.op)])), (s1, .inl (x2, 401, .inl z.sn)), (s2, .inl (x3, 401, .inl z.cd)), (s3, .inl (x4, 401, .inl z.us))] U.heap ∧ va_K (dC, dI) vwCl [(y0, .int), (y1, .int), (y2, .int), (z0, .byte), (z1, .int), (z2, .int), (z3, .int), (z4, .int), (x2, .boolean), (x3, .int), (x4, .int)] U ∧ va_D (fun _ => True) [(h0, .inr (2, [.ref g0, .ref g1, .ref g2, .int (nI a.n)])), (g0, .inl (y0, a.la, .inl a.sf)), (g1, .inl (y1, a.la, .inl a.kf)), (g2, .inl (y2, a.lc, .inl a.cf)), (t0, .inr (4, [.ref u0, .ref u1, .ref u2, .ref u3, .ref u4, .int (nI d.k), .int (nI d.fo), .int (nI d.lev), .int (nI d.low)])), (u0, .inl (z0, 802, .inl d.tv)), (u1, .inl (z1, 401, .inl d.ov)), (u2, .inl (z2, 401, .inl d.lv)), (u3, .inl (z3, 401, .inl d.rv)), (u4, .inl (z4, 402, .inl d.sv)), (s0, .inr (1, [.ref h0, .ref t0, .ref s1, .ref s2, .ref s3, .int (nI z.sz), .int (nI z.uz), .int (nI z.op)])), (s1, .inl (x2, 401, .inl z.sn)), (s2, .inl (x3, 401, .inl z.cd)), (s3, .inl (x4, 401, .inl z.us))])) (va_Qv (fun _ : Unit => True) (fun (_ : Unit) t => ∃ (zz : Lx), (Eok a d zz zz.sz) ∧ (zz.sz = z.sz) ∧ (zz.uz = z.uz) ∧ va_P (dC, dI) vwCl [(h0, .inr (2, [.ref g0, .ref g1, .ref g2, .int (nI a.n)])), (g0, .inl (y0, a.la, .inl a.sf)), (g1, .inl (y1, a.la, .inl a.kf)), (g2, .inl (y2, a.lc, .inl a.cf)), (t0, .inr (4, [.ref u0, .ref u1, .ref u2, .ref u3, .ref u4, .int (nI d.k), .int (nI d.fo), .int (nI d.lev), .int (nI d.low)])), (u0, .inl (z0, 802, .inl d.tv)), (u1, .inl (z1, 401, .inl d.ov)), (u2, .inl (z2, 401, .inl d.lv)), (u3, .inl (z3, 401, .inl d.rv)), (u4, .inl (z4, 402, .inl d.sv)), (s0, .inr (1, [.ref h0, .ref t0, .ref s1, .ref s2, .ref s3, .int (nI zz.sz), .int (nI zz.uz), .int (nI zz.op)])), (s1, .inl (x2, 401, .inl zz.sn)), (s2, .inl (x3, 401, .inl zz.cd)), (s3, .inl (x4, 401, .inl zz.us))] t.heap ∧ va_K (dC, dI) vwCl [(y0, .int), (y1, .int), (y2, .int), (z0, .byte), (z1, .int), (z2, .int), (z3, .int), (z4, .int), (x2, .boolean), (x3, .int), (x4, .int)] t ∧ va_D (va_A [(h0, .inr (2, [.ref g0, .ref g1, .ref g2, .int (nI a.n)])), (g0, .inl (y0, a.la, .inl a.sf)), (g1, .inl (y1, a.la, .inl a.kf)), (g2, .inl (y2, a.lc, .inl a.cf)), (t0, .inr (4, [.ref u0, .ref u1, .ref u2, .ref u3, .ref u4, .int (nI d.k), .int (nI d.fo), .int (nI d.lev), .int (nI d.low)])), (u0, .inl (z0, 802, .inl d.tv)), (u1, .inl (z1, 401, .inl d.ov)), (u2, .inl (z2, 401, .inl d.lv)), (u3, .inl (z3, 401, .inl d.rv)), (u4, .inl (z4, 402, .inl d.sv)), (s0, .inr (1, [.ref h0, .ref t0, .ref s1, .ref s2, .ref s3, .int (nI z.sz), .int (nI z.uz), .int (nI z.op)])), (s1, .inl (x2, 401, .inl z.sn)), (s2, .inl (x3, 401, .inl z.cd)), (s3, .inl (x4, 401, .inl z.us))] sz) [(h0, .inr (2, [.ref g0, .ref g1, .ref g2, .int (nI a.n)])), (g0, .inl (y0, a.la, .inl a.sf)), (g1, .inl (y1, a.la, .inl a.kf)), (g2, .inl (y2, a.lc, .inl a.cf)), (t0, .inr (4, [.ref u0, .ref u1, .ref u2, .ref u3, .ref u4, .int (nI d.k), .int (nI d.fo), .int (nI d.lev), .int (nI d.low)])), (u0, .inl (z0, 802, .inl d.tv)), (u1, .inl (z1, 401, .inl d.ov)), (u2, .inl (z2, 401, .inl d.lv)), (u3, .inl (z3, 401, .inl d.rv)), (u4, .inl (z4, 402, .inl d.sv)), (s0, .inr (1, [.ref h0, .ref t0, .ref s1, .ref s2, .ref s3, .int (nI zz.sz), .int (nI zz.uz), .int (nI zz.op)])), (s1, .inl (x2, 401, .inl zz.sn)), (s2, .inl (x3, 401, .inl zz.cd)), (s3, .inl (x4, 401, .inl zz.us))]) (va_A [(h0, .inr (2, [.ref g0, .ref g1, .ref g2, .int (nI a.n)])), (g0, .inl (y0, a.la, .inl a.sf)), (g1, .inl (y1, a.la, .inl a.kf)), (g2, .inl (y2, a.lc, .inl a.cf)), (t0, .inr (4, [.ref u0, .ref u1, .ref u2, .ref u3, .ref u4, .int (nI d.k), .int (nI d.fo), .int (nI d.lev), .int (nI d.low)])), (u0, .inl (z0, 802, .inl d.tv)), (u1, .inl (z1, 401, .inl d.ov)), (u2, .inl (z2, 401, .inl d.lv)), (u3, .inl (z3, 401, .inl d.rv)), (u4, .inl (z4, 402, .inl d.sv)), (s0, .inr (1, [.ref h0, .ref t0, .ref s1, .ref s2, .ref s3, .int (nI z.sz), .int (nI z.uz), .int (nI z.op)])), (s1, .inl (x2, 401, .inl z.sn)), (s2, .inl (x3, 401, .inl z.cd)), (s3, .inl (x4, 401, .inl z.us))] sz)) (0) (0) (va_A [(h0, .inr (2, [.ref g0, .ref g1, .ref g2, .int (nI a.n)])), (g0, .inl (y0, a.la, .inl a.sf)), (g1, .inl (y1, a.la, .inl a.kf)), (g2, .inl (y2, a.lc, .inl a.cf)), (t0, .inr (4, [.ref u0, .ref u1, .ref u2, .ref u3, .ref u4, .int (nI d.k), .int (nI d.fo), .int (nI d.lev), .int (nI d.low)])), (u0, .inl (z0, 802, .inl d.tv)), (u1, .inl (z1, 401, .inl d.ov)), (u2, .inl (z2, 401, .inl d.lv)), (u3, .inl (z3, 401, .inl d.rv)), (u4, .inl (z4, 402, .inl d.sv)), (s0, .inr (1, [.ref h0, .ref t0, .ref s1, .ref s2, .ref s3, .int (nI z.sz), .int (nI z.uz), .int (nI z.op)])), (s1, .inl (x2, 401, .inl z.sn)), (s2, .inl (x3, 401, .inl z.cd)), (s3, .inl (x4, 401, .inl z.us))] sz) := by
  refine Met.ofW (cc := prog_3_method_4_code) (maxL := 3) (ret := none) (by decide) rfl ?_
  intro p e s m args below meth c s₁ B hml hv
  obtain ⟨rfl, hsz, hP, hK, hD0⟩ := hv
  have hx := B.exec
  have hb := B.bytes
  have hr := B.returns
  have hw : ∀ w ∈ bg_W, w.before #[Value.ref s0] s = true := fun w h => atoms_spec (ws := (wq y_Ls_finish prog_3_method_4_code 3 none)) B.pre w (List.mem_cons_of_mem _ h)
  have hown : s.vm.findClass R_Ls = some m.cls := findClass_of_methodNamed B.named
  have hlocks := B.notSynchronized
  subst hsz
  have hD := hD0.self (sz := s.heap.size)
  generalize hAe : va_A [(h0, .inr (2, [.ref g0, .ref g1, .ref g2, .int (nI a.n)])), (g0, .inl (y0, a.la, .inl a.sf)), (g1, .inl (y1, a.la, .inl a.kf)), (g2, .inl (y2, a.lc, .inl a.cf)), (t0, .inr (4, [.ref u0, .ref u1, .ref u2, .ref u3, .ref u4, .int (nI d.k), .int (nI d.fo), .int (nI d.lev), .int (nI d.low)])), (u0, .inl (z0, 802, .inl d.tv)), (u1, .inl (z1, 401, .inl d.ov)), (u2, .inl (z2, 401, .inl d.lv)), (u3, .inl (z3, 401, .inl d.rv)), (u4, .inl (z4, 402, .inl d.sv)), (s0, .inr (1, [.ref h0, .ref t0, .ref s1, .ref s2, .ref s3, .int (nI z.sz), .int (nI z.uz), .int (nI z.op)])), (s1, .inl (x2, 401, .inl z.sn)), (s2, .inl (x3, 401, .inl z.cd)), (s3, .inl (x4, 401, .inl z.us))] s.heap.size = A at hD ⊢
  have hA : ∀ q : Nat, s.heap.size ≤ q → A q := fun q h => by rw [← hAe]; exact Or.inr h
  have hS : va_S A s.heap s.heap [] := va_S.rf
  have hP : va_P (dC, dI) vwCl [(h0, .inr (2, [.ref g0, .ref g1, .ref g2, .int (nI a.n)])), (g0, .inl (y0, a.la, .inl a.sf)), (g1, .inl (y1, a.la, .inl a.kf)), (g2, .inl (y2, a.lc, .inl a.cf)), (t0, .inr (4, [.ref u0, .ref u1, .ref u2, .ref u3, .ref u4, .int (nI d.k), .int (nI d.fo), .int (nI d.lev), .int (nI d.low)])), (u0, .inl (z0, 802, .inl d.tv)), (u1, .inl (z1, 401, .inl d.ov)), (u2, .inl (z2, 401, .inl d.lv)), (u3, .inl (z3, 401, .inl d.rv)), (u4, .inl (z4, 402, .inl d.sv)), (s0, .inr (1, [.ref h0, .ref t0, .ref s1, .ref s2, .ref s3, .int (nI z.sz), .int (nI z.uz), .int (nI z.op)])), (s1, .inl (x2, 401, .inl z.sn)), (s2, .inl (x3, 401, .inl z.cd)), (s3, .inl (x4, 401, .inl z.us))] s.heap := hP
  have hl := lv_entry ([.ref s0]) (n := 3) (Nat.le_of_ble_eq_true rfl)
  rw [lg_entry_eq]
  generalize (lg_sl ([.ref s0]) ++ List.replicate (3 - (lg_sl ([.ref s0])).length) Slot.unset).toArray = ls at hl ⊢
  have hl : lv_has ls 3 [(0, .ref s0)] := hl
  obtain ⟨H, hH⟩ : ∃ H : Heap, H = s.heap := ⟨_, rfl⟩
  rw [← hH] at hP
  have hS : va_S A s.heap H [] := by rw [hH]; exact va_S.rf
  show W p l e _ s m _ below meth c s.heap [] 0 0 _ _
  rw [← hH]
  refine lv_iconst (v := nI 1) hx hb d_Ls_finish_0 (by decide) ?_
  refine lv_istore_n (lv' := [(1, .int (nI 1)), (0, .ref s0)]) hx hb d_Ls_finish_1 rfl hl (by decide) rfl (fun ls hl => ?_)
  refine l_finish (a := a) (d := d) (sz9 := z.sz) (uz9 := z.uz) hx hb hml hw hown (hK.sub (tys' := [(y0, .int), (y1, .int), (y2, .int), (z0, .byte), (z1, .int), (z2, .int), (z3, .int), (z4, .int), (x2, .boolean), (x3, .int), (x4, .int)]) [0, 1, 2, 3, 4, 5, 6, 7, 8, 9, 10] rfl) hA (Nat.le_of_ble_eq_true rfl) (Nat.le_of_ble_eq_true rfl) (Nat.le_of_ble_eq_true rfl) (Nat.le_of_ble_eq_true rfl) hT hL (fun b_1 H1 locs ls f_2 f_3 f_4 hP1 hD1 hS hl => ?_) (_) 1 z _ _ ls (Nat.lt_succ_self _) (Nat.le_refl _) hE.s1 hE rfl rfl (hP.sub (ws' := [(h0, .inr (2, [.ref g0, .ref g1, .ref g2, .int (nI a.n)])), (g0, .inl (y0, a.la, .inl a.sf)), (g1, .inl (y1, a.la, .inl a.kf)), (g2, .inl (y2, a.lc, .inl a.cf)), (t0, .inr (4, [.ref u0, .ref u1, .ref u2, .ref u3, .ref u4, .int (nI d.k), .int (nI d.fo), .int (nI d.lev), .int (nI d.low)])), (u0, .inl (z0, 802, .inl d.tv)), (u1, .inl (z1, 401, .inl d.ov)), (u2, .inl (z2, 401, .inl d.lv)), (u3, .inl (z3, 401, .inl d.rv)), (u4, .inl (z4, 402, .inl d.sv)), (s0, .inr (1, [.ref h0, .ref t0, .ref s1, .ref s2, .ref s3, .int (nI z.sz), .int (nI z.uz), .int (nI z.op)])), (s1, .inl (x2, 401, .inl z.sn)), (s2, .inl (x3, 401, .inl z.cd)), (s3, .inl (x4, 401, .inl z.us))]) [0, 1, 2, 3, 4, 5, 6, 7, 8, 9, 10, 11, 12, 13] rfl) (hD.sub (ws' := [(h0, .inr (2, [.ref g0, .ref g1, .ref g2, .int (nI a.n)])), (g0, .inl (y0, a.la, .inl a.sf)), (g1, .inl (y1, a.la, .inl a.kf)), (g2, .inl (y2, a.lc, .inl a.cf)), (t0, .inr (4, [.ref u0, .ref u1, .ref u2, .ref u3, .ref u4, .int (nI d.k), .int (nI d.fo), .int (nI d.lev), .int (nI d.low)])), (u0, .inl (z0, 802, .inl d.tv)), (u1, .inl (z1, 401, .inl d.ov)), (u2, .inl (z2, 401, .inl d.lv)), (u3, .inl (z3, 401, .inl d.rv)), (u4, .inl (z4, 402, .inl d.sv)), (s0, .inr (1, [.ref h0, .ref t0, .ref s1, .ref s2, .ref s3, .int (nI z.sz), .int (nI z.uz), .int (nI z.op)])), (s1, .inl (x2, 401, .inl z.sn)), (s2, .inl (x3, 401, .inl z.cd)), (s3, .inl (x4, 401, .inl z.us))]) [0, 1, 2, 3, 4, 5, 6, 7, 8, 9, 10, 11, 12, 13] (by decide) rfl) hS (lv_sub hl [1, 0] rfl)
  have hP := hP1
  have hD := hD1
  generalize H1 = H at hP hS ⊢
  have hP : va_P (dC, dI) vwCl [(h0, .inr (2, [.ref g0, .ref g1, .ref g2, .int (nI a.n)])), (g0, .inl (y0, a.la, .inl a.sf)), (g1, .inl (y1, a.la, .inl a.kf)), (g2, .inl (y2, a.lc, .inl a.cf)), (t0, .inr (4, [.ref u0, .ref u1, .ref u2, .ref u3, .ref u4, .int (nI d.k), .int (nI d.fo), .int (nI d.lev), .int (nI d.low)])), (u0, .inl (z0, 802, .inl d.tv)), (u1, .inl (z1, 401, .inl d.ov)), (u2, .inl (z2, 401, .inl d.lv)), (u3, .inl (z3, 401, .inl d.rv)), (u4, .inl (z4, 402, .inl d.sv)), (s0, .inr (1, [.ref h0, .ref t0, .ref s1, .ref s2, .ref s3, .int (nI b_1.sz), .int (nI b_1.uz), .int (nI b_1.op)])), (s1, .inl (x2, 401, .inl b_1.sn)), (s2, .inl (x3, 401, .inl b_1.cd)), (s3, .inl (x4, 401, .inl b_1.us))] H := hP
  have hD : va_D A [(h0, .inr (2, [.ref g0, .ref g1, .ref g2, .int (nI a.n)])), (g0, .inl (y0, a.la, .inl a.sf)), (g1, .inl (y1, a.la, .inl a.kf)), (g2, .inl (y2, a.lc, .inl a.cf)), (t0, .inr (4, [.ref u0, .ref u1, .ref u2, .ref u3, .ref u4, .int (nI d.k), .int (nI d.fo), .int (nI d.lev), .int (nI d.low)])), (u0, .inl (z0, 802, .inl d.tv)), (u1, .inl (z1, 401, .inl d.ov)), (u2, .inl (z2, 401, .inl d.lv)), (u3, .inl (z3, 401, .inl d.rv)), (u4, .inl (z4, 402, .inl d.sv)), (s0, .inr (1, [.ref h0, .ref t0, .ref s1, .ref s2, .ref s3, .int (nI b_1.sz), .int (nI b_1.uz), .int (nI b_1.op)])), (s1, .inl (x2, 401, .inl b_1.sn)), (s2, .inl (x3, 401, .inl b_1.cd)), (s3, .inl (x4, 401, .inl b_1.us))] := hD
  have hK := hK.sub (tys' := [(y0, .int), (y1, .int), (y2, .int), (z0, .byte), (z1, .int), (z2, .int), (z3, .int), (z4, .int), (x2, .boolean), (x3, .int), (x4, .int)]) [0, 1, 2, 3, 4, 5, 6, 7, 8, 9, 10] rfl
  refine W.widen (k := 0) (n := 0) (by decide) (by decide) ?_
  exact W.vret hx hb hr (fun t ht hW => ⟨⟨(), rfl, trivial, b_1, f_2, f_3, f_4, by rw [ht]; exact hP, va_K.moved hW.alike hK, hD⟩, hS.F ht⟩) hS.2.2 d_Ls_finish_91
