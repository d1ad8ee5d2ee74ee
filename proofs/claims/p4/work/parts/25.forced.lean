abbrev y_Sr_forcedBy : MethodName := ⟨"ClauseSearch$Search", "forcedBy", "(I)I"⟩
theorem k_64 : (Cond.fieldLinkNest "ClauseSearch$Search" 163 "ClauseSearch$Rows" "start" "[I" "ClauseSearch") ∈ bg_W := bg_in 64 (by decide +kernel) (by decide +kernel)
theorem k_72 : (Cond.fieldLinkNest "ClauseSearch$Search" 166 "ClauseSearch$Rows" "codes" "[I" "ClauseSearch") ∈ bg_W := bg_in 72 (by decide +kernel) (by decide +kernel)
theorem k_107 : (Cond.fieldLinkNest "ClauseSearch$Search" 154 "ClauseSearch$Trail" "reason" "[I" "ClauseSearch") ∈ bg_W := bg_in 107 (by decide +kernel) (by decide +kernel)
theorem k_217 : (Cond.fieldLink "ClauseSearch$Search" 9 "ClauseSearch$Search" "rows" "LClauseSearch$Rows;") ∈ bg_W := bg_in 217 (by decide +kernel) (by decide +kernel)
theorem d_Sr_forcedBy_10 : decode prog_5_method_10_code 10 = .ok (.iload_n 2, 1) := by decide +kernel
theorem d_Sr_forcedBy_11 : decode prog_5_method_10_code 11 = .ok (.aload_n 0, 1) := by decide +kernel
theorem d_Sr_forcedBy_12 : decode prog_5_method_10_code 12 = .ok (.getfield 9, 3) := by decide +kernel
theorem d_Sr_forcedBy_15 : decode prog_5_method_10_code 15 = .ok (.getfield 163, 3) := by decide +kernel
theorem d_Sr_forcedBy_18 : decode prog_5_method_10_code 18 = .ok (.iload_n 1, 1) := by decide +kernel
theorem d_Sr_forcedBy_19 : decode prog_5_method_10_code 19 = .ok (.iaload, 1) := by decide +kernel
theorem d_Sr_forcedBy_20 : decode prog_5_method_10_code 20 = .ok (.iconst 2, 1) := by decide +kernel
theorem d_Sr_forcedBy_21 : decode prog_5_method_10_code 21 = .ok (.iadd, 1) := by decide +kernel
theorem d_Sr_forcedBy_22 : decode prog_5_method_10_code 22 = .ok (.if_icmp .ge 51, 3) := by decide +kernel
theorem d_Sr_forcedBy_25 : decode prog_5_method_10_code 25 = .ok (.aload_n 0, 1) := by decide +kernel
theorem d_Sr_forcedBy_26 : decode prog_5_method_10_code 26 = .ok (.getfield 9, 3) := by decide +kernel
theorem d_Sr_forcedBy_29 : decode prog_5_method_10_code 29 = .ok (.getfield 166, 3) := by decide +kernel
theorem d_Sr_forcedBy_32 : decode prog_5_method_10_code 32 = .ok (.iload_n 2, 1) := by decide +kernel
theorem d_Sr_forcedBy_33 : decode prog_5_method_10_code 33 = .ok (.iaload, 1) := by decide +kernel
theorem d_Sr_forcedBy_34 : decode prog_5_method_10_code 34 = .ok (.istore_n 3, 1) := by decide +kernel
theorem d_Sr_forcedBy_35 : decode prog_5_method_10_code 35 = .ok (.aload_n 0, 1) := by decide +kernel
theorem d_Sr_forcedBy_36 : decode prog_5_method_10_code 36 = .ok (.getfield 15, 3) := by decide +kernel
theorem d_Sr_forcedBy_39 : decode prog_5_method_10_code 39 = .ok (.getfield 104, 3) := by decide +kernel
theorem d_Sr_forcedBy_42 : decode prog_5_method_10_code 42 = .ok (.iload_n 3, 1) := by decide +kernel
theorem d_Sr_forcedBy_43 : decode prog_5_method_10_code 43 = .ok (.baload, 1) := by decide +kernel
theorem d_Sr_forcedBy_44 : decode prog_5_method_10_code 44 = .ok (.iconst 1, 1) := by decide +kernel
theorem d_Sr_forcedBy_45 : decode prog_5_method_10_code 45 = .ok (.if_icmp .ne 22, 3) := by decide +kernel
theorem d_Sr_forcedBy_67 : decode prog_5_method_10_code 67 = .ok (.iinc 2 1, 3) := by decide +kernel
theorem d_Sr_forcedBy_70 : decode prog_5_method_10_code 70 = .ok (.goto (-60), 3) := by decide +kernel
theorem d_Sr_forcedBy_48 : decode prog_5_method_10_code 48 = .ok (.aload_n 0, 1) := by decide +kernel
theorem d_Sr_forcedBy_49 : decode prog_5_method_10_code 49 = .ok (.getfield 15, 3) := by decide +kernel
theorem d_Sr_forcedBy_52 : decode prog_5_method_10_code 52 = .ok (.getfield 154, 3) := by decide +kernel
theorem d_Sr_forcedBy_55 : decode prog_5_method_10_code 55 = .ok (.iload_n 3, 1) := by decide +kernel
theorem d_Sr_forcedBy_56 : decode prog_5_method_10_code 56 = .ok (.iconst 1, 1) := by decide +kernel
theorem d_Sr_forcedBy_57 : decode prog_5_method_10_code 57 = .ok (.ishr, 1) := by decide +kernel
theorem d_Sr_forcedBy_58 : decode prog_5_method_10_code 58 = .ok (.iaload, 1) := by decide +kernel
theorem d_Sr_forcedBy_59 : decode prog_5_method_10_code 59 = .ok (.iload_n 1, 1) := by decide +kernel
theorem d_Sr_forcedBy_60 : decode prog_5_method_10_code 60 = .ok (.if_icmp .ne 7, 3) := by decide +kernel
theorem d_Sr_forcedBy_0 : decode prog_5_method_10_code 0 = .ok (.aload_n 0, 1) := by decide +kernel
theorem d_Sr_forcedBy_1 : decode prog_5_method_10_code 1 = .ok (.getfield 9, 3) := by decide +kernel
theorem d_Sr_forcedBy_4 : decode prog_5_method_10_code 4 = .ok (.getfield 163, 3) := by decide +kernel
theorem d_Sr_forcedBy_7 : decode prog_5_method_10_code 7 = .ok (.iload_n 1, 1) := by decide +kernel
theorem d_Sr_forcedBy_8 : decode prog_5_method_10_code 8 = .ok (.iaload, 1) := by decide +kernel
theorem d_Sr_forcedBy_9 : decode prog_5_method_10_code 9 = .ok (.istore_n 2, 1) := by decide +kernel
theorem d_Sr_forcedBy_63 : decode prog_5_method_10_code 63 = .ok (.iload_n 3, 1) := by decide +kernel
theorem d_Sr_forcedBy_64 : decode prog_5_method_10_code 64 = .ok (.iconst 1, 1) := by decide +kernel
theorem d_Sr_forcedBy_65 : decode prog_5_method_10_code 65 = .ok (.ishr, 1) := by decide +kernel
theorem d_Sr_forcedBy_66 : decode prog_5_method_10_code 66 = .ok (.ireturn, 1) := by decide +kernel
theorem d_Sr_forcedBy_73 : decode prog_5_method_10_code 73 = .ok (.iconst (-1), 1) := by decide +kernel
theorem d_Sr_forcedBy_74 : decode prog_5_method_10_code 74 = .ok (.ireturn, 1) := by decide +kernel
set_option maxHeartbeats 4000000 in
set_option maxRecDepth 100000 in
/-- the loop of forcedBy -/
theorem l_forced {p : Program} {l : Launch} {e : Env} {R : Room} {s : State} {m : MethodId} {args : Array Value} {below : List Frame} {meth : Method} {c : Code} {dC : Nat → ClassId} {dI : Nat → Nat → Nat} {A : Nat → Prop} {Q : State → Prop} {cells slots : Nat} {H0 : Heap} {o0 : Nat} {p0 : Nat} {f0 : Nat} {f1 : Nat} {h0 : Nat} {t0 : Nat} {w0 : Nat} {s0 : Nat} {k0 : Nat} {g0 : Nat} {g1 : Nat} {g2 : Nat} {u0 : Nat} {u1 : Nat} {u2 : Nat} {u3 : Nat} {u4 : Nat} {y0 : ClassId} {y1 : ClassId} {y2 : ClassId} {z0 : ClassId} {z1 : ClassId} {z2 : ClassId} {z3 : ClassId} {z4 : ClassId} {a : Rx} {d : Tx} {x : Sx} {r : Nat} (hx : p.tables.exec = Jvm.exec) (hb : c.code = prog_5_method_10_code) (hml : c.maxLocals = 4) (hw : ∀ w ∈ bg_W, w.before args s = true) (hown : s.vm.findClass R_Sr = some m.cls) (hK : va_K (dC, dI) vwCl [(y0, .int), (y1, .int), (y2, .int), (z0, .byte), (z1, .int), (z2, .int), (z3, .int), (z4, .int)] s) (hA : ∀ q : Nat, H0.size ≤ q → A q) (hR1 : 1 ≤ R.frames) (hR2 : 1 ≤ R.locals) (hR3 : cells ≤ R.cells) (hR4 : slots ≤ R.slots) (hf1 : a.sf r = nI (a.S r)) (hf2 : r < a.la ∧ a.S r + 2 ≤ a.lc ∧ a.la ≤ 1048576 ∧ a.lc ≤ 4194304) (hf3 : ∀ j, a.S r ≤ j → j < a.S r + 2 → a.cf j = nI (a.C j) ∧ 2 ≤ a.C j ∧ a.C j < 802)
    (kk63 : ∀ (ix : Nat) (H : Heap) (locs : List Loc) (ls : Array Slot), (a.S r ≤ ix) → (ix < a.S r + 2) → (d.tv (a.C ix) = 1) → (d.rv (a.C ix / 2) = nI r) → (a.C ix < 802) → va_P (dC, dI) vwCl [(o0, .inr (3, [.ref h0, .ref t0, .ref w0, .ref s0, .ref k0, .ref p0, .ref f0, .ref f1, .int (nI x.fc), .int (nI x.lc), .int x.bl, .int x.hp])), (h0, .inr (2, [.ref g0, .ref g1, .ref g2, .int (nI a.n)])), (g0, .inl (y0, a.la, .inl a.sf)), (g1, .inl (y1, a.la, .inl a.kf)), (g2, .inl (y2, a.lc, .inl a.cf)), (t0, .inr (4, [.ref u0, .ref u1, .ref u2, .ref u3, .ref u4, .int (nI d.k), .int (nI d.fo), .int (nI d.lev), .int (nI d.low)])), (u0, .inl (z0, 802, .inl d.tv)), (u1, .inl (z1, 401, .inl d.ov)), (u2, .inl (z2, 401, .inl d.lv)), (u3, .inl (z3, 401, .inl d.rv)), (u4, .inl (z4, 402, .inl d.sv))] H → va_D A [(o0, .inr (3, [.ref h0, .ref t0, .ref w0, .ref s0, .ref k0, .ref p0, .ref f0, .ref f1, .int (nI x.fc), .int (nI x.lc), .int x.bl, .int x.hp])), (h0, .inr (2, [.ref g0, .ref g1, .ref g2, .int (nI a.n)])), (g0, .inl (y0, a.la, .inl a.sf)), (g1, .inl (y1, a.la, .inl a.kf)), (g2, .inl (y2, a.lc, .inl a.cf)), (t0, .inr (4, [.ref u0, .ref u1, .ref u2, .ref u3, .ref u4, .int (nI d.k), .int (nI d.fo), .int (nI d.lev), .int (nI d.low)])), (u0, .inl (z0, 802, .inl d.tv)), (u1, .inl (z1, 401, .inl d.ov)), (u2, .inl (z2, 401, .inl d.lv)), (u3, .inl (z3, 401, .inl d.rv)), (u4, .inl (z4, 402, .inl d.sv))] → va_S A H0 H locs → lv_has ls 4 [(0, .ref o0), (3, .int (nI (a.C ix)))] → W p l e R s m args below meth c H locs cells slots Q (F0 m 63 ls []))
    (kk73 : ∀ (H : Heap) (locs : List Loc) (ls : Array Slot), (∀ j, a.S r ≤ j → j < a.S r + 2 → ¬ (d.tv (a.C j) = 1 ∧ d.rv (a.C j / 2) = nI r)) → va_P (dC, dI) vwCl [(o0, .inr (3, [.ref h0, .ref t0, .ref w0, .ref s0, .ref k0, .ref p0, .ref f0, .ref f1, .int (nI x.fc), .int (nI x.lc), .int x.bl, .int x.hp])), (h0, .inr (2, [.ref g0, .ref g1, .ref g2, .int (nI a.n)])), (g0, .inl (y0, a.la, .inl a.sf)), (g1, .inl (y1, a.la, .inl a.kf)), (g2, .inl (y2, a.lc, .inl a.cf)), (t0, .inr (4, [.ref u0, .ref u1, .ref u2, .ref u3, .ref u4, .int (nI d.k), .int (nI d.fo), .int (nI d.lev), .int (nI d.low)])), (u0, .inl (z0, 802, .inl d.tv)), (u1, .inl (z1, 401, .inl d.ov)), (u2, .inl (z2, 401, .inl d.lv)), (u3, .inl (z3, 401, .inl d.rv)), (u4, .inl (z4, 402, .inl d.sv))] H → va_D A [(o0, .inr (3, [.ref h0, .ref t0, .ref w0, .ref s0, .ref k0, .ref p0, .ref f0, .ref f1, .int (nI x.fc), .int (nI x.lc), .int x.bl, .int x.hp])), (h0, .inr (2, [.ref g0, .ref g1, .ref g2, .int (nI a.n)])), (g0, .inl (y0, a.la, .inl a.sf)), (g1, .inl (y1, a.la, .inl a.kf)), (g2, .inl (y2, a.lc, .inl a.cf)), (t0, .inr (4, [.ref u0, .ref u1, .ref u2, .ref u3, .ref u4, .int (nI d.k), .int (nI d.fo), .int (nI d.lev), .int (nI d.low)])), (u0, .inl (z0, 802, .inl d.tv)), (u1, .inl (z1, 401, .inl d.ov)), (u2, .inl (z2, 401, .inl d.lv)), (u3, .inl (z3, 401, .inl d.rv)), (u4, .inl (z4, 402, .inl d.sv))] → va_S A H0 H locs → lv_has ls 4 [(0, .ref o0)] → W p l e R s m args below meth c H locs cells slots Q (F0 m 73 ls []))
    : ∀ (f : Nat) (ix : Nat) (H : Heap) (locs : List Loc) (ls : Array Slot), a.S r + 2 - ix < f → (a.S r ≤ ix) → (ix ≤ a.S r + 2) → (∀ j, a.S r ≤ j → j < ix → ¬ (d.tv (a.C j) = 1 ∧ d.rv (a.C j / 2) = nI r)) → va_P (dC, dI) vwCl [(o0, .inr (3, [.ref h0, .ref t0, .ref w0, .ref s0, .ref k0, .ref p0, .ref f0, .ref f1, .int (nI x.fc), .int (nI x.lc), .int x.bl, .int x.hp])), (h0, .inr (2, [.ref g0, .ref g1, .ref g2, .int (nI a.n)])), (g0, .inl (y0, a.la, .inl a.sf)), (g1, .inl (y1, a.la, .inl a.kf)), (g2, .inl (y2, a.lc, .inl a.cf)), (t0, .inr (4, [.ref u0, .ref u1, .ref u2, .ref u3, .ref u4, .int (nI d.k), .int (nI d.fo), .int (nI d.lev), .int (nI d.low)])), (u0, .inl (z0, 802, .inl d.tv)), (u1, .inl (z1, 401, .inl d.ov)), (u2, .inl (z2, 401, .inl d.lv)), (u3, .inl (z3, 401, .inl d.rv)), (u4, .inl (z4, 402, .inl d.sv))] H → va_D A [(o0, .inr (3, [.ref h0, .ref t0, .ref w0, .ref s0, .ref k0, .ref p0, .ref f0, .ref f1, .int (nI x.fc), .int (nI x.lc), .int x.bl, .int x.hp])), (h0, .inr (2, [.ref g0, .ref g1, .ref g2, .int (nI a.n)])), (g0, .inl (y0, a.la, .inl a.sf)), (g1, .inl (y1, a.la, .inl a.kf)), (g2, .inl (y2, a.lc, .inl a.cf)), (t0, .inr (4, [.ref u0, .ref u1, .ref u2, .ref u3, .ref u4, .int (nI d.k), .int (nI d.fo), .int (nI d.lev), .int (nI d.low)])), (u0, .inl (z0, 802, .inl d.tv)), (u1, .inl (z1, 401, .inl d.ov)), (u2, .inl (z2, 401, .inl d.lv)), (u3, .inl (z3, 401, .inl d.rv)), (u4, .inl (z4, 402, .inl d.sv))] → va_S A H0 H locs → lv_has ls 4 [(0, .ref o0), (1, .int (nI r)), (2, .int (nI ix))] → W p l e R s m args below meth c H locs cells slots Q (F0 m 10 ls []) := by
  intro f
  induction f with
  | zero => intro ix H locs ls q0 q1 q2 q3 hP hD hS hl; exact absurd q0 (Nat.not_lt_zero _)
  | succ f ih =>
    intro ix H locs ls q0 q1 q2 q3 hP hD hS hl
    refine lv_iload_n hx hb d_Sr_forcedBy_10 rfl (lv_at hl 2 rfl) ?_
    refine lv_aload_n hx hb d_Sr_forcedBy_11 rfl (lv_at hl 0 rfl) ?_
    refine va_get (D := (dC, dI)) (ci := 3) (v := .ref h0) (C := R_Sr) (T := F_Sr) (N := 12) hx hb hw in_Sr hown hK hP 0 rfl rfl 0 (by decide) (hw (Cond.fieldLink "ClauseSearch$Search" 9 "ClauseSearch$Search" "rows" "LClauseSearch$Rows;") k_217) (fun _ h9 => h9) rfl d_Sr_forcedBy_12 ?_
    refine va_getN (D := (dC, dI)) (ci := 2) (v := .ref g0) (C := R_Rw) (T := F_Rw) (N := 4) hx hb hw in_Rw hown hK hP 1 rfl rfl 0 (by decide) (hw (Cond.fieldLinkNest "ClauseSearch$Search" 163 "ClauseSearch$Rows" "start" "[I" "ClauseSearch") k_64) (fun _ h9 => h9) rfl d_Sr_forcedBy_15 ?_
    refine lv_iload_n hx hb d_Sr_forcedBy_18 rfl (lv_at hl 1 rfl) ?_
    refine va_iald hx hb hK hP 2 0 rfl rfl (vp_in_nI (by omega) (by omega)) d_Sr_forcedBy_19 ?_
    refine lv_topi (fun y_1 ey_1 => ?_)
    rw [nI_clamp (by omega)] at ey_1
    rw [hf1] at ey_1
    subst ey_1
    refine lv_iconst (v := nI 2) hx hb d_Sr_forcedBy_20 (by decide) ?_
    refine lv_iadd hx hb d_Sr_forcedBy_21 ?_
    refine lv_topi (fun y_2 ey_2 => ?_)
    obtain rfl : y_2 = nI (a.S r + 2) := ey_2.trans (nI_add (a.S r) 2)
    refine lv_icmp_ge (tgt := 73) hx hb d_Sr_forcedBy_22 (by decide) (fun c_22 => ?_) (fun c_22 => ?_)
    · have c_22 : a.S r + 2 ≤ ix := (nI_leI (a := a.S r + 2) (b := ix) (by omega) (by omega)).mp c_22
      exact kk73  _ _ ls (by rw [show a.S r + 2 = ix by omega]; exact q3) hP hD hS (lv_sub hl [0] rfl)
    · have c_22 : ¬ (a.S r + 2 ≤ ix) := fun qq9 => c_22 ((nI_leI (a := a.S r + 2) (b := ix) (by omega) (by omega)).mpr qq9)
      refine lv_aload_n hx hb d_Sr_forcedBy_25 rfl (lv_at hl 0 rfl) ?_
      refine va_get (D := (dC, dI)) (ci := 3) (v := .ref h0) (C := R_Sr) (T := F_Sr) (N := 12) hx hb hw in_Sr hown hK hP 0 rfl rfl 0 (by decide) (hw (Cond.fieldLink "ClauseSearch$Search" 9 "ClauseSearch$Search" "rows" "LClauseSearch$Rows;") k_217) (fun _ h9 => h9) rfl d_Sr_forcedBy_26 ?_
      refine va_getN (D := (dC, dI)) (ci := 2) (v := .ref g2) (C := R_Rw) (T := F_Rw) (N := 4) hx hb hw in_Rw hown hK hP 1 rfl rfl 2 (by decide) (hw (Cond.fieldLinkNest "ClauseSearch$Search" 166 "ClauseSearch$Rows" "codes" "[I" "ClauseSearch") k_72) (fun _ h9 => h9) rfl d_Sr_forcedBy_29 ?_
      refine lv_iload_n hx hb d_Sr_forcedBy_32 rfl (lv_at hl 2 rfl) ?_
      refine va_iald hx hb hK hP 4 2 rfl rfl (vp_in_nI (by omega) (by omega)) d_Sr_forcedBy_33 ?_
      refine lv_topi (fun y_3 ey_3 => ?_)
      rw [nI_clamp (by omega)] at ey_3
      have j1 := hf3 ix (by omega) (by omega)
      rw [j1.1] at ey_3
      subst ey_3
      refine lv_istore_n (lv' := [(3, .int (nI (a.C ix))), (0, .ref o0), (1, .int (nI r)), (2, .int (nI ix))]) hx hb d_Sr_forcedBy_34 rfl hl (by decide) rfl (fun ls hl => ?_)
      refine lv_aload_n hx hb d_Sr_forcedBy_35 rfl (lv_at hl 1 rfl) ?_
      refine va_get (D := (dC, dI)) (ci := 3) (v := .ref t0) (C := R_Sr) (T := F_Sr) (N := 12) hx hb hw in_Sr hown hK hP 0 rfl rfl 1 (by decide) (hw (Cond.fieldLink "ClauseSearch$Search" 15 "ClauseSearch$Search" "trail" "LClauseSearch$Trail;") k_218) (fun _ h9 => h9) rfl d_Sr_forcedBy_36 ?_
      refine va_getN (D := (dC, dI)) (ci := 4) (v := .ref u0) (C := R_Tr) (T := F_Tr) (N := 9) hx hb hw in_Tr hown hK hP 5 rfl rfl 0 (by decide) (hw (Cond.fieldLinkNest "ClauseSearch$Search" 104 "ClauseSearch$Trail" "truth" "[B" "ClauseSearch") k_98) (fun _ h9 => h9) rfl d_Sr_forcedBy_39 ?_
      refine lv_iload_n hx hb d_Sr_forcedBy_42 rfl (lv_at hl 0 rfl) ?_
      refine va_bald hx hb hK hP 6 3 rfl rfl (vp_in_nI (by omega) (by omega)) d_Sr_forcedBy_43 ?_
      refine lv_topi (fun y_4 ey_4 => ?_)
      rw [nI_clamp (by omega)] at ey_4
      subst ey_4
      refine lv_iconst (v := 1) hx hb d_Sr_forcedBy_44 (by decide) ?_
      refine lv_icmp_ne (tgt := 67) hx hb d_Sr_forcedBy_45 (by decide) (fun c_45 => ?_) (fun c_45 => ?_)
      · refine lv_iinc (v := nI (ix + 1)) (lv' := [(2, .int (nI (ix + 1))), (3, .int (nI (a.C ix))), (0, .ref o0), (1, .int (nI r))]) hx hb d_Sr_forcedBy_67 hl (k := 3) rfl (nI_1 ix) (by decide) rfl (fun ls hl => ?_)
        refine lv_goto (tgt := 10) hx hb d_Sr_forcedBy_70 (by decide) ?_
        exact ih (ix + 1) _ _ ls (by omega) (by omega) (by omega) (fun j h1 h2 h3 => by rcases Nat.lt_or_eq_of_le (Nat.le_of_lt_succ h2) with x | x; exact q3 j h1 x h3; rw [x] at h3; exact c_45 h3.1) hP hD hS (lv_sub hl [2, 3, 0] rfl)
      · refine lv_aload_n hx hb d_Sr_forcedBy_48 rfl (lv_at hl 1 rfl) ?_
        refine va_get (D := (dC, dI)) (ci := 3) (v := .ref t0) (C := R_Sr) (T := F_Sr) (N := 12) hx hb hw in_Sr hown hK hP 0 rfl rfl 1 (by decide) (hw (Cond.fieldLink "ClauseSearch$Search" 15 "ClauseSearch$Search" "trail" "LClauseSearch$Trail;") k_218) (fun _ h9 => h9) rfl d_Sr_forcedBy_49 ?_
        refine va_getN (D := (dC, dI)) (ci := 4) (v := .ref u3) (C := R_Tr) (T := F_Tr) (N := 9) hx hb hw in_Tr hown hK hP 5 rfl rfl 3 (by decide) (hw (Cond.fieldLinkNest "ClauseSearch$Search" 154 "ClauseSearch$Trail" "reason" "[I" "ClauseSearch") k_107) (fun _ h9 => h9) rfl d_Sr_forcedBy_52 ?_
        refine lv_iload_n hx hb d_Sr_forcedBy_55 rfl (lv_at hl 0 rfl) ?_
        refine lv_iconst (v := nI 1) hx hb d_Sr_forcedBy_56 (by decide) ?_
        refine lv_ishr hx hb d_Sr_forcedBy_57 ?_
        refine lv_topi (fun y_5 ey_5 => ?_)
        obtain rfl : y_5 = nI ((a.C ix) / 2) := ey_5.trans (ni_shr (by omega))
        refine va_iald hx hb hK hP 9 6 rfl rfl (vp_in_nI (by omega) (by omega)) d_Sr_forcedBy_58 ?_
        refine lv_topi (fun y_6 ey_6 => ?_)
        rw [nI_clamp (by omega)] at ey_6
        subst ey_6
        refine lv_iload_n hx hb d_Sr_forcedBy_59 rfl (lv_at hl 2 rfl) ?_
        refine lv_icmp_ne (tgt := 67) hx hb d_Sr_forcedBy_60 (by decide) (fun c_60 => ?_) (fun c_60 => ?_)
        · refine lv_iinc (v := nI (ix + 1)) (lv' := [(2, .int (nI (ix + 1))), (3, .int (nI (a.C ix))), (0, .ref o0), (1, .int (nI r))]) hx hb d_Sr_forcedBy_67 hl (k := 3) rfl (nI_1 ix) (by decide) rfl (fun ls hl => ?_)
          refine lv_goto (tgt := 10) hx hb d_Sr_forcedBy_70 (by decide) ?_
          exact ih (ix + 1) _ _ ls (by omega) (by omega) (by omega) (fun j h1 h2 h3 => by rcases Nat.lt_or_eq_of_le (Nat.le_of_lt_succ h2) with x | x; exact q3 j h1 x h3; rw [x] at h3; exact c_60 h3.2) hP hD hS (lv_sub hl [2, 3, 0] rfl)
        · exact kk63 ix _ _ ls q1 (by omega) c_45 c_60 j1.2.2 hP hD hS (lv_sub hl [1, 0] rfl)

set_option maxHeartbeats 4000000 in
set_option maxRecDepth 100000 in
/-- forcedBy(r) -/
theorem c_Sr_forcedBy (l : Launch) (dC : Nat → ClassId) (dI : Nat → Nat → Nat) (o0 : Nat) (p0 : Nat) (f0 : Nat) (f1 : Nat) (h0 : Nat) (t0 : Nat) (w0 : Nat) (s0 : Nat) (k0 : Nat) (g0 : Nat) (g1 : Nat) (g2 : Nat) (u0 : Nat) (u1 : Nat) (u2 : Nat) (u3 : Nat) (u4 : Nat) (y0 : ClassId) (y1 : ClassId) (y2 : ClassId) (z0 : ClassId) (z1 : ClassId) (z2 : ClassId) (z3 : ClassId) (z4 : ClassId) (sz : Nat) (a : Rx) (d : Tx) (x : Sx) (r : Nat) (hf1 : a.sf r = nI (a.S r)) (hf2 : r < a.la ∧ a.S r + 2 ≤ a.lc ∧ a.la ≤ 1048576 ∧ a.lc ≤ 4194304) (hf3 : ∀ j, a.S r ≤ j → j < a.S r + 2 → a.cf j = nI (a.C j) ∧ 2 ≤ a.C j ∧ a.C j < 802) : Met l y_Sr_forcedBy (wq y_Sr_forcedBy prog_5_method_10_code 4 (some .int)) ({ frames := 1, cells := 0, slots := 0, locals := 1 }) (va_Pc [.ref o0, .int (nI r)] (fun U => U.heap.size = sz ∧ va_P (dC, dI) vwCl [(o0, .inr (3, [.ref h0, .ref t0, .ref w0, .ref s0, .ref k0, .ref p0, .ref f0, .ref f1, .int (nI x.fc), .int (nI x.lc), .int x.bl, .int x.hp])), (h0, .inr (2, [.ref g0, .ref g1, .ref g2, .int (nI a.n)])), (g0, .inl (y0, a.la, .inl a.sf)), (g1, .inl (y1, a.la, .inl a.kf)), (g2, .inl (y2, a.lc, .inl a.cf)), (t0, .inr (4, [.ref u0, .ref u1, .ref u2, .ref u3, .ref u4, .int (nI d.k), .int (nI d.fo), .int (nI d.lev), .int (nI d.low)])), (u0, .inl (z0, 802, .inl d.tv)), (u1, .inl (z1, 401, .inl d.ov)), (u2, .inl (z2, 401, .inl d.lv)), (u3, .inl (z3, 401, .inl d.rv)), (u4, .inl (z4, 402, .inl d.sv))] U.heap ∧ va_K (dC, dI) vwCl [(y0, .int), (y1, .int), (y2, .int), (z0, .byte), (z1, .int), (z2, .int), (z3, .int), (z4, .int)] U ∧ va_D (fun _ => True) [(o0, .inr (3, [.ref h0, .ref t0, .ref w0, .ref s0, .ref k0, .ref p0, .ref f0, .ref f1, .int (nI x.fc), .int (nI x.lc), .int x.bl, .int x.hp])), (h0, .inr (2, [.ref g0, .ref g1, .ref g2, .int (nI a.n)])), (g0, .inl (y0, a.la, .inl a.sf)), (g1, .inl (y1, a.la, .inl a.kf)), (g2, .inl (y2, a.lc, .inl a.cf)), (t0, .inr (4, [.ref u0, .ref u1, .ref u2, .ref u3, .ref u4, .int (nI d.k), .int (nI d.fo), .int (nI d.lev), .int (nI d.low)])), (u0, .inl (z0, 802, .inl d.tv)), (u1, .inl (z1, 401, .inl d.ov)), (u2, .inl (z2, 401, .inl d.lv)), (u3, .inl (z3, 401, .inl d.rv)), (u4, .inl (z4, 402, .inl d.sv))])) (va_Qi (fun (r : Int32) (r9 : Int32) => r = r9) (fun (r9 : Int32) t => ((r9 = -1 ∧ ∀ j, a.S r ≤ j → j < a.S r + 2 → ¬ (d.tv (a.C j) = 1 ∧ d.rv (a.C j / 2) = nI r)) ∨ ∃ j, a.S r ≤ j ∧ j < a.S r + 2 ∧ d.tv (a.C j) = 1 ∧ d.rv (a.C j / 2) = nI r ∧ r9 = nI (a.C j / 2)) ∧ va_P (dC, dI) vwCl [(o0, .inr (3, [.ref h0, .ref t0, .ref w0, .ref s0, .ref k0, .ref p0, .ref f0, .ref f1, .int (nI x.fc), .int (nI x.lc), .int x.bl, .int x.hp])), (h0, .inr (2, [.ref g0, .ref g1, .ref g2, .int (nI a.n)])), (g0, .inl (y0, a.la, .inl a.sf)), (g1, .inl (y1, a.la, .inl a.kf)), (g2, .inl (y2, a.lc, .inl a.cf)), (t0, .inr (4, [.ref u0, .ref u1, .ref u2, .ref u3, .ref u4, .int (nI d.k), .int (nI d.fo), .int (nI d.lev), .int (nI d.low)])), (u0, .inl (z0, 802, .inl d.tv)), (u1, .inl (z1, 401, .inl d.ov)), (u2, .inl (z2, 401, .inl d.lv)), (u3, .inl (z3, 401, .inl d.rv)), (u4, .inl (z4, 402, .inl d.sv))] t.heap ∧ va_K (dC, dI) vwCl [(y0, .int), (y1, .int), (y2, .int), (z0, .byte), (z1, .int), (z2, .int), (z3, .int), (z4, .int)] t ∧ va_D (va_A [(o0, .inr (3, [.ref h0, .ref t0, .ref w0, .ref s0, .ref k0, .ref p0, .ref f0, .ref f1, .int (nI x.fc), .int (nI x.lc), .int x.bl, .int x.hp])), (h0, .inr (2, [.ref g0, .ref g1, .ref g2, .int (nI a.n)])), (g0, .inl (y0, a.la, .inl a.sf)), (g1, .inl (y1, a.la, .inl a.kf)), (g2, .inl (y2, a.lc, .inl a.cf)), (t0, .inr (4, [.ref u0, .ref u1, .ref u2, .ref u3, .ref u4, .int (nI d.k), .int (nI d.fo), .int (nI d.lev), .int (nI d.low)])), (u0, .inl (z0, 802, .inl d.tv)), (u1, .inl (z1, 401, .inl d.ov)), (u2, .inl (z2, 401, .inl d.lv)), (u3, .inl (z3, 401, .inl d.rv)), (u4, .inl (z4, 402, .inl d.sv))] sz) [(o0, .inr (3, [.ref h0, .ref t0, .ref w0, .ref s0, .ref k0, .ref p0, .ref f0, .ref f1, .int (nI x.fc), .int (nI x.lc), .int x.bl, .int x.hp])), (h0, .inr (2, [.ref g0, .ref g1, .ref g2, .int (nI a.n)])), (g0, .inl (y0, a.la, .inl a.sf)), (g1, .inl (y1, a.la, .inl a.kf)), (g2, .inl (y2, a.lc, .inl a.cf)), (t0, .inr (4, [.ref u0, .ref u1, .ref u2, .ref u3, .ref u4, .int (nI d.k), .int (nI d.fo), .int (nI d.lev), .int (nI d.low)])), (u0, .inl (z0, 802, .inl d.tv)), (u1, .inl (z1, 401, .inl d.ov)), (u2, .inl (z2, 401, .inl d.lv)), (u3, .inl (z3, 401, .inl d.rv)), (u4, .inl (z4, 402, .inl d.sv))]) (va_A [(o0, .inr (3, [.ref h0, .ref t0, .ref w0, .ref s0, .ref k0, .ref p0, .ref f0, .ref f1, .int (nI x.fc), .int (nI x.lc), .int x.bl, .int x.hp])), (h0, .inr (2, [.ref g0, .ref g1, .ref g2, .int (nI a.n)])), (g0, .inl (y0, a.la, .inl a.sf)), (g1, .inl (y1, a.la, .inl a.kf)), (g2, .inl (y2, a.lc, .inl a.cf)), (t0, .inr (4, [.ref u0, .ref u1, .ref u2, .ref u3, .ref u4, .int (nI d.k), .int (nI d.fo), .int (nI d.lev), .int (nI d.low)])), (u0, .inl (z0, 802, .inl d.tv)), (u1, .inl (z1, 401, .inl d.ov)), (u2, .inl (z2, 401, .inl d.lv)), (u3, .inl (z3, 401, .inl d.rv)), (u4, .inl (z4, 402, .inl d.sv))] sz)) (0) (0) (va_A [(o0, .inr (3, [.ref h0, .ref t0, .ref w0, .ref s0, .ref k0, .ref p0, .ref f0, .ref f1, .int (nI x.fc), .int (nI x.lc), .int x.bl, .int x.hp])), (h0, .inr (2, [.ref g0, .ref g1, .ref g2, .int (nI a.n)])), (g0, .inl (y0, a.la, .inl a.sf)), (g1, .inl (y1, a.la, .inl a.kf)), (g2, .inl (y2, a.lc, .inl a.cf)), (t0, .inr (4, [.ref u0, .ref u1, .ref u2, .ref u3, .ref u4, .int (nI d.k), .int (nI d.fo), .int (nI d.lev), .int (nI d.low)])), (u0, .inl (z0, 802, .inl d.tv)), (u1, .inl (z1, 401, .inl d.ov)), (u2, .inl (z2, 401, .inl d.lv)), (u3, .inl (z3, 401, .inl d.rv)), (u4, .inl (z4, 402, .inl d.sv))] sz) := by
  refine Met.ofW (cc := prog_5_method_10_code) (maxL := 4) (ret := (some .int)) (by decide) rfl ?_
  intro p e s m args below meth c s₁ B hml hv
  obtain ⟨rfl, hsz, hP, hK, hD0⟩ := hv
  have hx := B.exec
  have hb := B.bytes
  have hr := B.returns
  have hw : ∀ w ∈ bg_W, w.before #[Value.ref o0, Value.int (nI r)] s = true := fun w h => atoms_spec (ws := (wq y_Sr_forcedBy prog_5_method_10_code 4 (some .int))) B.pre w (List.mem_cons_of_mem _ h)
  have hown : s.vm.findClass R_Sr = some m.cls := findClass_of_methodNamed B.named
  have hlocks := B.notSynchronized
  subst hsz
  have hD := hD0.self (sz := s.heap.size)
  generalize hAe : va_A [(o0, .inr (3, [.ref h0, .ref t0, .ref w0, .ref s0, .ref k0, .ref p0, .ref f0, .ref f1, .int (nI x.fc), .int (nI x.lc), .int x.bl, .int x.hp])), (h0, .inr (2, [.ref g0, .ref g1, .ref g2, .int (nI a.n)])), (g0, .inl (y0, a.la, .inl a.sf)), (g1, .inl (y1, a.la, .inl a.kf)), (g2, .inl (y2, a.lc, .inl a.cf)), (t0, .inr (4, [.ref u0, .ref u1, .ref u2, .ref u3, .ref u4, .int (nI d.k), .int (nI d.fo), .int (nI d.lev), .int (nI d.low)])), (u0, .inl (z0, 802, .inl d.tv)), (u1, .inl (z1, 401, .inl d.ov)), (u2, .inl (z2, 401, .inl d.lv)), (u3, .inl (z3, 401, .inl d.rv)), (u4, .inl (z4, 402, .inl d.sv))] s.heap.size = A at hD ⊢
  have hA : ∀ q : Nat, s.heap.size ≤ q → A q := fun q h => by rw [← hAe]; exact Or.inr h
  have hS : va_S A s.heap s.heap [] := va_S.rf
  have hP : va_P (dC, dI) vwCl [(o0, .inr (3, [.ref h0, .ref t0, .ref w0, .ref s0, .ref k0, .ref p0, .ref f0, .ref f1, .int (nI x.fc), .int (nI x.lc), .int x.bl, .int x.hp])), (h0, .inr (2, [.ref g0, .ref g1, .ref g2, .int (nI a.n)])), (g0, .inl (y0, a.la, .inl a.sf)), (g1, .inl (y1, a.la, .inl a.kf)), (g2, .inl (y2, a.lc, .inl a.cf)), (t0, .inr (4, [.ref u0, .ref u1, .ref u2, .ref u3, .ref u4, .int (nI d.k), .int (nI d.fo), .int (nI d.lev), .int (nI d.low)])), (u0, .inl (z0, 802, .inl d.tv)), (u1, .inl (z1, 401, .inl d.ov)), (u2, .inl (z2, 401, .inl d.lv)), (u3, .inl (z3, 401, .inl d.rv)), (u4, .inl (z4, 402, .inl d.sv))] s.heap := hP
  have hl := lv_entry ([.ref o0, .int (nI r)]) (n := 4) (Nat.le_of_ble_eq_true rfl)
  rw [lg_entry_eq]
  generalize (lg_sl ([.ref o0, .int (nI r)]) ++ List.replicate (4 - (lg_sl ([.ref o0, .int (nI r)])).length) Slot.unset).toArray = ls at hl ⊢
  have hl : lv_has ls 4 [(0, .ref o0), (1, .int (nI r))] := hl
  obtain ⟨H, hH⟩ : ∃ H : Heap, H = s.heap := ⟨_, rfl⟩
  rw [← hH] at hP
  have hS : va_S A s.heap H [] := by rw [hH]; exact va_S.rf
  show W p l e _ s m _ below meth c s.heap [] 0 0 _ _
  rw [← hH]
  refine lv_aload_n hx hb d_Sr_forcedBy_0 rfl (lv_at hl 0 rfl) ?_
  refine va_get (D := (dC, dI)) (ci := 3) (v := .ref h0) (C := R_Sr) (T := F_Sr) (N := 12) hx hb hw in_Sr hown hK hP 0 rfl rfl 0 (by decide) (hw (Cond.fieldLink "ClauseSearch$Search" 9 "ClauseSearch$Search" "rows" "LClauseSearch$Rows;") k_217) (fun _ h9 => h9) rfl d_Sr_forcedBy_1 ?_
  refine va_getN (D := (dC, dI)) (ci := 2) (v := .ref g0) (C := R_Rw) (T := F_Rw) (N := 4) hx hb hw in_Rw hown hK hP 1 rfl rfl 0 (by decide) (hw (Cond.fieldLinkNest "ClauseSearch$Search" 163 "ClauseSearch$Rows" "start" "[I" "ClauseSearch") k_64) (fun _ h9 => h9) rfl d_Sr_forcedBy_4 ?_
  refine lv_iload_n hx hb d_Sr_forcedBy_7 rfl (lv_at hl 1 rfl) ?_
  refine va_iald hx hb hK hP 2 0 rfl rfl (vp_in_nI (by omega) (by omega)) d_Sr_forcedBy_8 ?_
  refine lv_topi (fun y_1 ey_1 => ?_)
  rw [nI_clamp (by omega)] at ey_1
  rw [hf1] at ey_1
  subst ey_1
  refine lv_istore_n (lv' := [(2, .int (nI (a.S r))), (0, .ref o0), (1, .int (nI r))]) hx hb d_Sr_forcedBy_9 rfl hl (by decide) rfl (fun ls hl => ?_)
  refine l_forced (a := a) (d := d) (x := x) (r := r) hx hb hml hw hown (hK.sub (tys' := [(y0, .int), (y1, .int), (y2, .int), (z0, .byte), (z1, .int), (z2, .int), (z3, .int), (z4, .int)]) [0, 1, 2, 3, 4, 5, 6, 7] rfl) hA (Nat.le_of_ble_eq_true rfl) (Nat.le_of_ble_eq_true rfl) (Nat.le_of_ble_eq_true rfl) (Nat.le_of_ble_eq_true rfl) hf1 hf2 hf3 (fun n_2 H1 locs ls f_3 f_4 f_5 f_6 f_7 hP1 hD1 hS hl => ?_) (fun  H1 locs ls f_8 hP1 hD1 hS hl => ?_) (_) (a.S r) _ _ ls (Nat.lt_succ_self _) (Nat.le_refl _) (by omega) (fun j h1 h2 => absurd h1 (by omega)) (hP.sub (ws' := [(o0, .inr (3, [.ref h0, .ref t0, .ref w0, .ref s0, .ref k0, .ref p0, .ref f0, .ref f1, .int (nI x.fc), .int (nI x.lc), .int x.bl, .int x.hp])), (h0, .inr (2, [.ref g0, .ref g1, .ref g2, .int (nI a.n)])), (g0, .inl (y0, a.la, .inl a.sf)), (g1, .inl (y1, a.la, .inl a.kf)), (g2, .inl (y2, a.lc, .inl a.cf)), (t0, .inr (4, [.ref u0, .ref u1, .ref u2, .ref u3, .ref u4, .int (nI d.k), .int (nI d.fo), .int (nI d.lev), .int (nI d.low)])), (u0, .inl (z0, 802, .inl d.tv)), (u1, .inl (z1, 401, .inl d.ov)), (u2, .inl (z2, 401, .inl d.lv)), (u3, .inl (z3, 401, .inl d.rv)), (u4, .inl (z4, 402, .inl d.sv))]) [0, 1, 2, 3, 4, 5, 6, 7, 8, 9, 10] rfl) (hD.sub (ws' := [(o0, .inr (3, [.ref h0, .ref t0, .ref w0, .ref s0, .ref k0, .ref p0, .ref f0, .ref f1, .int (nI x.fc), .int (nI x.lc), .int x.bl, .int x.hp])), (h0, .inr (2, [.ref g0, .ref g1, .ref g2, .int (nI a.n)])), (g0, .inl (y0, a.la, .inl a.sf)), (g1, .inl (y1, a.la, .inl a.kf)), (g2, .inl (y2, a.lc, .inl a.cf)), (t0, .inr (4, [.ref u0, .ref u1, .ref u2, .ref u3, .ref u4, .int (nI d.k), .int (nI d.fo), .int (nI d.lev), .int (nI d.low)])), (u0, .inl (z0, 802, .inl d.tv)), (u1, .inl (z1, 401, .inl d.ov)), (u2, .inl (z2, 401, .inl d.lv)), (u3, .inl (z3, 401, .inl d.rv)), (u4, .inl (z4, 402, .inl d.sv))]) [0, 1, 2, 3, 4, 5, 6, 7, 8, 9, 10] (by decide) rfl) hS (lv_sub hl [1, 2, 0] rfl)
  · have hP := hP1
    have hD := hD1
    generalize H1 = H at hP hS ⊢
    have hP : va_P (dC, dI) vwCl [(o0, .inr (3, [.ref h0, .ref t0, .ref w0, .ref s0, .ref k0, .ref p0, .ref f0, .ref f1, .int (nI x.fc), .int (nI x.lc), .int x.bl, .int x.hp])), (h0, .inr (2, [.ref g0, .ref g1, .ref g2, .int (nI a.n)])), (g0, .inl (y0, a.la, .inl a.sf)), (g1, .inl (y1, a.la, .inl a.kf)), (g2, .inl (y2, a.lc, .inl a.cf)), (t0, .inr (4, [.ref u0, .ref u1, .ref u2, .ref u3, .ref u4, .int (nI d.k), .int (nI d.fo), .int (nI d.lev), .int (nI d.low)])), (u0, .inl (z0, 802, .inl d.tv)), (u1, .inl (z1, 401, .inl d.ov)), (u2, .inl (z2, 401, .inl d.lv)), (u3, .inl (z3, 401, .inl d.rv)), (u4, .inl (z4, 402, .inl d.sv))] H := hP
    have hD : va_D A [(o0, .inr (3, [.ref h0, .ref t0, .ref w0, .ref s0, .ref k0, .ref p0, .ref f0, .ref f1, .int (nI x.fc), .int (nI x.lc), .int x.bl, .int x.hp])), (h0, .inr (2, [.ref g0, .ref g1, .ref g2, .int (nI a.n)])), (g0, .inl (y0, a.la, .inl a.sf)), (g1, .inl (y1, a.la, .inl a.kf)), (g2, .inl (y2, a.lc, .inl a.cf)), (t0, .inr (4, [.ref u0, .ref u1, .ref u2, .ref u3, .ref u4, .int (nI d.k), .int (nI d.fo), .int (nI d.lev), .int (nI d.low)])), (u0, .inl (z0, 802, .inl d.tv)), (u1, .inl (z1, 401, .inl d.ov)), (u2, .inl (z2, 401, .inl d.lv)), (u3, .inl (z3, 401, .inl d.rv)), (u4, .inl (z4, 402, .inl d.sv))] := hD
    have j5 := f_7
    refine lv_iload_n hx hb d_Sr_forcedBy_63 rfl (lv_at hl 1 rfl) ?_
    refine lv_iconst (v := nI 1) hx hb d_Sr_forcedBy_64 (by decide) ?_
    refine lv_ishr hx hb d_Sr_forcedBy_65 ?_
    refine lv_topi (fun y_9 ey_9 => ?_)
    obtain rfl : y_9 = nI ((a.C n_2) / 2) := ey_9.trans (ni_shr (by omega))
    have hK := hK.sub (tys' := [(y0, .int), (y1, .int), (y2, .int), (z0, .byte), (z1, .int), (z2, .int), (z3, .int), (z4, .int)]) [0, 1, 2, 3, 4, 5, 6, 7] rfl
    refine W.widen (k := 0) (n := 0) (by decide) (by decide) ?_
    exact W.iret (v := nI ((a.C n_2) / 2)) hx hb hr (fun t ht hW => ⟨⟨nI ((a.C n_2) / 2), nI ((a.C n_2) / 2), rfl, rfl, (Or.inr ⟨n_2, f_3, f_4, f_5, f_6, rfl⟩), by rw [ht]; exact hP, va_K.moved hW.alike hK, hD⟩, hS.F ht⟩) hS.2.2 d_Sr_forcedBy_66
  · have hP := hP1
    have hD := hD1
    generalize H1 = H at hP hS ⊢
    have hP : va_P (dC, dI) vwCl [(o0, .inr (3, [.ref h0, .ref t0, .ref w0, .ref s0, .ref k0, .ref p0, .ref f0, .ref f1, .int (nI x.fc), .int (nI x.lc), .int x.bl, .int x.hp])), (h0, .inr (2, [.ref g0, .ref g1, .ref g2, .int (nI a.n)])), (g0, .inl (y0, a.la, .inl a.sf)), (g1, .inl (y1, a.la, .inl a.kf)), (g2, .inl (y2, a.lc, .inl a.cf)), (t0, .inr (4, [.ref u0, .ref u1, .ref u2, .ref u3, .ref u4, .int (nI d.k), .int (nI d.fo), .int (nI d.lev), .int (nI d.low)])), (u0, .inl (z0, 802, .inl d.tv)), (u1, .inl (z1, 401, .inl d.ov)), (u2, .inl (z2, 401, .inl d.lv)), (u3, .inl (z3, 401, .inl d.rv)), (u4, .inl (z4, 402, .inl d.sv))] H := hP
    have hD : va_D A [(o0, .inr (3, [.ref h0, .ref t0, .ref w0, .ref s0, .ref k0, .ref p0, .ref f0, .ref f1, .int (nI x.fc), .int (nI x.lc), .int x.bl, .int x.hp])), (h0, .inr (2, [.ref g0, .ref g1, .ref g2, .int (nI a.n)])), (g0, .inl (y0, a.la, .inl a.sf)), (g1, .inl (y1, a.la, .inl a.kf)), (g2, .inl (y2, a.lc, .inl a.cf)), (t0, .inr (4, [.ref u0, .ref u1, .ref u2, .ref u3, .ref u4, .int (nI d.k), .int (nI d.fo), .int (nI d.lev), .int (nI d.low)])), (u0, .inl (z0, 802, .inl d.tv)), (u1, .inl (z1, 401, .inl d.ov)), (u2, .inl (z2, 401, .inl d.lv)), (u3, .inl (z3, 401, .inl d.rv)), (u4, .inl (z4, 402, .inl d.sv))] := hD
    refine lv_iconst (v := (-1)) hx hb d_Sr_forcedBy_73 (by decide) ?_
    have hK := hK.sub (tys' := [(y0, .int), (y1, .int), (y2, .int), (z0, .byte), (z1, .int), (z2, .int), (z3, .int), (z4, .int)]) [0, 1, 2, 3, 4, 5, 6, 7] rfl
    refine W.widen (k := 0) (n := 0) (by decide) (by decide) ?_
    exact W.iret (v := (-1)) hx hb hr (fun t ht hW => ⟨⟨(-1), (-1), rfl, rfl, (Or.inl ⟨rfl, f_8⟩), by rw [ht]; exact hP, va_K.moved hW.alike hK, hD⟩, hS.F ht⟩) hS.2.2 d_Sr_forcedBy_74
