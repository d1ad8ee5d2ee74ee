abbrev y_Sr_putFacts : MethodName := ⟨"ClauseSearch$Search", "putFacts", "()V"⟩
abbrev y_Sr_codeToTry : MethodName := ⟨"ClauseSearch$Search", "codeToTry", "(I[II)I"⟩
theorem k_98 : (Cond.fieldLinkNest "ClauseSearch$Search" 104 "ClauseSearch$Trail" "truth" "[B" "ClauseSearch") ∈ bg_W := bg_in 98 (by decide +kernel) (by decide +kernel)
theorem k_218 : (Cond.fieldLink "ClauseSearch$Search" 15 "ClauseSearch$Search" "trail" "LClauseSearch$Trail;") ∈ bg_W := bg_in 218 (by decide +kernel) (by decide +kernel)
theorem k_223 : (Cond.fieldLink "ClauseSearch$Search" 48 "ClauseSearch$Search" "facts" "[I") ∈ bg_W := bg_in 223 (by decide +kernel) (by decide +kernel)
theorem k_225 : (Cond.fieldLink "ClauseSearch$Search" 76 "ClauseSearch$Search" "factCount" "I") ∈ bg_W := bg_in 225 (by decide +kernel) (by decide +kernel)
theorem k_229 : (Cond.fieldLink "ClauseSearch$Search" 89 "ClauseSearch$Search" "hopeless" "Z") ∈ bg_W := bg_in 229 (by decide +kernel) (by decide +kernel)
theorem k_303 : (Cond.methodLink "ClauseSearch$Search" 111 ⟨"ClauseSearch$Trail", "put", "(II)V"⟩) ∈ bg_W := bg_in 303 (by decide +kernel) (by decide +kernel)
theorem k_416 : (Cond.methodLink "ClauseSearch$Search" 115 ⟨"ClauseSearch$Trail", "lowestUnknown", "(I)I"⟩) ∈ bg_W := bg_in 416 (by decide +kernel) (by decide +kernel)
theorem k_417 : (Cond.instanceMethod ⟨"ClauseSearch$Trail", "lowestUnknown", "(I)I"⟩) ∈ bg_W := bg_in 417 (by decide +kernel) (by decide +kernel)
theorem k_418 : (Cond.selects "ClauseSearch$Trail" ⟨"ClauseSearch$Trail", "lowestUnknown", "(I)I"⟩ ⟨"ClauseSearch$Trail", "lowestUnknown", "(I)I"⟩) ∈ bg_W := bg_in 418 (by decide +kernel) (by decide +kernel)
theorem k_419 : (Cond.code ⟨"ClauseSearch$Trail", "lowestUnknown", "(I)I"⟩ prog_6_method_7_code 2 (some .int)) ∈ bg_W := bg_in 419 (by decide +kernel) (by decide +kernel)
theorem d_Sr_putFacts_2 : decode prog_5_method_6_code 2 = .ok (.iload_n 1, 1) := by decide +kernel
theorem d_Sr_putFacts_3 : decode prog_5_method_6_code 3 = .ok (.aload_n 0, 1) := by decide +kernel
theorem d_Sr_putFacts_4 : decode prog_5_method_6_code 4 = .ok (.getfield 76, 3) := by decide +kernel
theorem d_Sr_putFacts_7 : decode prog_5_method_6_code 7 = .ok (.if_icmp .ge 66, 3) := by decide +kernel
theorem d_Sr_putFacts_10 : decode prog_5_method_6_code 10 = .ok (.aload_n 0, 1) := by decide +kernel
theorem d_Sr_putFacts_11 : decode prog_5_method_6_code 11 = .ok (.getfield 15, 3) := by decide +kernel
theorem d_Sr_putFacts_14 : decode prog_5_method_6_code 14 = .ok (.getfield 104, 3) := by decide +kernel
theorem d_Sr_putFacts_17 : decode prog_5_method_6_code 17 = .ok (.aload_n 0, 1) := by decide +kernel
theorem d_Sr_putFacts_18 : decode prog_5_method_6_code 18 = .ok (.getfield 48, 3) := by decide +kernel
theorem d_Sr_putFacts_21 : decode prog_5_method_6_code 21 = .ok (.iload_n 1, 1) := by decide +kernel
theorem d_Sr_putFacts_22 : decode prog_5_method_6_code 22 = .ok (.iaload, 1) := by decide +kernel
theorem d_Sr_putFacts_23 : decode prog_5_method_6_code 23 = .ok (.baload, 1) := by decide +kernel
theorem d_Sr_putFacts_24 : decode prog_5_method_6_code 24 = .ok (.iconst 2, 1) := by decide +kernel
theorem d_Sr_putFacts_25 : decode prog_5_method_6_code 25 = .ok (.if_icmp .ne 11, 3) := by decide +kernel
theorem d_Sr_putFacts_36 : decode prog_5_method_6_code 36 = .ok (.aload_n 0, 1) := by decide +kernel
theorem d_Sr_putFacts_37 : decode prog_5_method_6_code 37 = .ok (.getfield 15, 3) := by decide +kernel
theorem d_Sr_putFacts_40 : decode prog_5_method_6_code 40 = .ok (.getfield 104, 3) := by decide +kernel
theorem d_Sr_putFacts_43 : decode prog_5_method_6_code 43 = .ok (.aload_n 0, 1) := by decide +kernel
theorem d_Sr_putFacts_44 : decode prog_5_method_6_code 44 = .ok (.getfield 48, 3) := by decide +kernel
theorem d_Sr_putFacts_47 : decode prog_5_method_6_code 47 = .ok (.iload_n 1, 1) := by decide +kernel
theorem d_Sr_putFacts_48 : decode prog_5_method_6_code 48 = .ok (.iaload, 1) := by decide +kernel
theorem d_Sr_putFacts_49 : decode prog_5_method_6_code 49 = .ok (.baload, 1) := by decide +kernel
theorem d_Sr_putFacts_50 : decode prog_5_method_6_code 50 = .ok (.ifCond .ne 17, 3) := by decide +kernel
theorem d_Sr_putFacts_67 : decode prog_5_method_6_code 67 = .ok (.iinc 1 1, 3) := by decide +kernel
theorem d_Sr_putFacts_70 : decode prog_5_method_6_code 70 = .ok (.goto (-68), 3) := by decide +kernel
theorem d_Sr_putFacts_53 : decode prog_5_method_6_code 53 = .ok (.aload_n 0, 1) := by decide +kernel
theorem d_Sr_putFacts_54 : decode prog_5_method_6_code 54 = .ok (.getfield 15, 3) := by decide +kernel
theorem d_Sr_putFacts_57 : decode prog_5_method_6_code 57 = .ok (.aload_n 0, 1) := by decide +kernel
theorem d_Sr_putFacts_58 : decode prog_5_method_6_code 58 = .ok (.getfield 48, 3) := by decide +kernel
theorem d_Sr_putFacts_61 : decode prog_5_method_6_code 61 = .ok (.iload_n 1, 1) := by decide +kernel
theorem d_Sr_putFacts_62 : decode prog_5_method_6_code 62 = .ok (.iaload, 1) := by decide +kernel
theorem d_Sr_putFacts_63 : decode prog_5_method_6_code 63 = .ok (.iconst (-1), 1) := by decide +kernel
theorem d_Sr_putFacts_64 : decode prog_5_method_6_code 64 = .ok (.invokevirtual 111, 3) := by decide +kernel
theorem d_Sr_putFacts_28 : decode prog_5_method_6_code 28 = .ok (.aload_n 0, 1) := by decide +kernel
theorem d_Sr_putFacts_29 : decode prog_5_method_6_code 29 = .ok (.iconst 1, 1) := by decide +kernel
theorem d_Sr_putFacts_30 : decode prog_5_method_6_code 30 = .ok (.putfield 89, 3) := by decide +kernel
theorem d_Sr_putFacts_33 : decode prog_5_method_6_code 33 = .ok (.goto 34, 3) := by decide +kernel
theorem d_Sr_putFacts_0 : decode prog_5_method_6_code 0 = .ok (.iconst 0, 1) := by decide +kernel
theorem d_Sr_putFacts_1 : decode prog_5_method_6_code 1 = .ok (.istore_n 1, 1) := by decide +kernel
theorem d_Sr_putFacts_73 : decode prog_5_method_6_code 73 = .ok (.return_, 1) := by decide +kernel
theorem d_Sr_codeToTry_3 : decode prog_5_method_7_code 3 = .ok (.iload 4, 2) := by decide +kernel
theorem d_Sr_codeToTry_5 : decode prog_5_method_7_code 5 = .ok (.iload_n 3, 1) := by decide +kernel
theorem d_Sr_codeToTry_6 : decode prog_5_method_7_code 6 = .ok (.if_icmp .ge 30, 3) := by decide +kernel
theorem d_Sr_codeToTry_9 : decode prog_5_method_7_code 9 = .ok (.aload_n 0, 1) := by decide +kernel
theorem d_Sr_codeToTry_10 : decode prog_5_method_7_code 10 = .ok (.getfield 15, 3) := by decide +kernel
theorem d_Sr_codeToTry_13 : decode prog_5_method_7_code 13 = .ok (.getfield 104, 3) := by decide +kernel
theorem d_Sr_codeToTry_16 : decode prog_5_method_7_code 16 = .ok (.aload_n 2, 1) := by decide +kernel
theorem d_Sr_codeToTry_17 : decode prog_5_method_7_code 17 = .ok (.iload 4, 2) := by decide +kernel
theorem d_Sr_codeToTry_19 : decode prog_5_method_7_code 19 = .ok (.iaload, 1) := by decide +kernel
theorem d_Sr_codeToTry_20 : decode prog_5_method_7_code 20 = .ok (.baload, 1) := by decide +kernel
theorem d_Sr_codeToTry_21 : decode prog_5_method_7_code 21 = .ok (.iconst 1, 1) := by decide +kernel
theorem d_Sr_codeToTry_22 : decode prog_5_method_7_code 22 = .ok (.if_icmp .eq 8, 3) := by decide +kernel
theorem d_Sr_codeToTry_30 : decode prog_5_method_7_code 30 = .ok (.iinc 4 1, 3) := by decide +kernel
theorem d_Sr_codeToTry_33 : decode prog_5_method_7_code 33 = .ok (.goto (-30), 3) := by decide +kernel
theorem d_Sr_codeToTry_0 : decode prog_5_method_7_code 0 = .ok (.iconst 0, 1) := by decide +kernel
theorem d_Sr_codeToTry_1 : decode prog_5_method_7_code 1 = .ok (.istore 4, 2) := by decide +kernel
theorem d_Sr_codeToTry_25 : decode prog_5_method_7_code 25 = .ok (.aload_n 2, 1) := by decide +kernel
theorem d_Sr_codeToTry_26 : decode prog_5_method_7_code 26 = .ok (.iload 4, 2) := by decide +kernel
theorem d_Sr_codeToTry_28 : decode prog_5_method_7_code 28 = .ok (.iaload, 1) := by decide +kernel
theorem d_Sr_codeToTry_29 : decode prog_5_method_7_code 29 = .ok (.ireturn, 1) := by decide +kernel
theorem d_Sr_codeToTry_36 : decode prog_5_method_7_code 36 = .ok (.aload_n 0, 1) := by decide +kernel
theorem d_Sr_codeToTry_37 : decode prog_5_method_7_code 37 = .ok (.getfield 15, 3) := by decide +kernel
theorem d_Sr_codeToTry_40 : decode prog_5_method_7_code 40 = .ok (.iload_n 1, 1) := by decide +kernel
theorem d_Sr_codeToTry_41 : decode prog_5_method_7_code 41 = .ok (.invokevirtual 115, 3) := by decide +kernel
theorem d_Sr_codeToTry_44 : decode prog_5_method_7_code 44 = .ok (.istore 4, 2) := by decide +kernel
theorem d_Sr_codeToTry_46 : decode prog_5_method_7_code 46 = .ok (.iload 4, 2) := by decide +kernel
theorem d_Sr_codeToTry_48 : decode prog_5_method_7_code 48 = .ok (.iload_n 1, 1) := by decide +kernel
theorem d_Sr_codeToTry_49 : decode prog_5_method_7_code 49 = .ok (.if_icmp .le 7, 3) := by decide +kernel
theorem d_Sr_codeToTry_56 : decode prog_5_method_7_code 56 = .ok (.iconst 2, 1) := by decide +kernel
theorem d_Sr_codeToTry_57 : decode prog_5_method_7_code 57 = .ok (.iload 4, 2) := by decide +kernel
theorem d_Sr_codeToTry_59 : decode prog_5_method_7_code 59 = .ok (.imul, 1) := by decide +kernel
theorem d_Sr_codeToTry_60 : decode prog_5_method_7_code 60 = .ok (.iconst 1, 1) := by decide +kernel
theorem d_Sr_codeToTry_61 : decode prog_5_method_7_code 61 = .ok (.iadd, 1) := by decide +kernel
theorem d_Sr_codeToTry_62 : decode prog_5_method_7_code 62 = .ok (.ireturn, 1) := by decide +kernel
theorem d_Sr_codeToTry_52 : decode prog_5_method_7_code 52 = .ok (.iconst (-1), 1) := by decide +kernel
theorem d_Sr_codeToTry_53 : decode prog_5_method_7_code 53 = .ok (.goto 9, 3) := by decide +kernel
set_option maxHeartbeats 4000000 in
set_option maxRecDepth 100000 in
/-- the loop of putFacts -/
theorem l_facts {p : Program} {l : Launch} {e : Env} {R : Room} {s : State} {m : MethodId} {args : Array Value} {below : List Frame} {meth : Method} {c : Code} {dC : Nat → ClassId} {dI : Nat → Nat → Nat} {A : Nat → Prop} {Q : State → Prop} {cells slots : Nat} {H0 : Heap} {o0 : Nat} {p0 : Nat} {f0 : Nat} {f1 : Nat} {h0 : Nat} {t0 : Nat} {w0 : Nat} {s0 : Nat} {k0 : Nat} {u0 : Nat} {u1 : Nat} {u2 : Nat} {u3 : Nat} {u4 : Nat} {x5 : ClassId} {x6 : ClassId} {x7 : ClassId} {z0 : ClassId} {z1 : ClassId} {z2 : ClassId} {z3 : ClassId} {z4 : ClassId} {a : Rx} {w : Wx} {x : Sx} (hx : p.tables.exec = Jvm.exec) (hb : c.code = prog_5_method_6_code) (hml : c.maxLocals = 2) (hw : ∀ w ∈ bg_W, w.before args s = true) (hown : s.vm.findClass R_Sr = some m.cls) (hK : va_K (dC, dI) vwCl [(x5, .int), (x6, .int), (x7, .boolean), (z0, .byte), (z1, .int), (z2, .int), (z3, .int), (z4, .int)] s) (hA : ∀ q : Nat, H0.size ≤ q → A q) (hR1 : 1 ≤ R.frames) (hR2 : 22 ≤ R.locals) (hR3 : cells ≤ R.cells) (hR4 : slots ≤ R.slots) (hA9 : Aok x)
    (kk73 : ∀ (d : Tx) (hp : Int32) (H : Heap) (locs : List Loc) (ls : Array Slot), (Gok a d w) → (d.lev = 0) → (hp = x.hp ∨ hp = 1) → va_P (dC, dI) vwCl [(o0, .inr (3, [.ref h0, .ref t0, .ref w0, .ref s0, .ref k0, .ref p0, .ref f0, .ref f1, .int (nI x.fc), .int (nI x.lc), .int x.bl, .int hp])), (p0, .inl (x5, 20, .inl x.pv)), (f0, .inl (x6, 802, .inl x.fv)), (f1, .inl (x7, 802, .inl x.fi)), (t0, .inr (4, [.ref u0, .ref u1, .ref u2, .ref u3, .ref u4, .int (nI d.k), .int (nI d.fo), .int (nI d.lev), .int (nI d.low)])), (u0, .inl (z0, 802, .inl d.tv)), (u1, .inl (z1, 401, .inl d.ov)), (u2, .inl (z2, 401, .inl d.lv)), (u3, .inl (z3, 401, .inl d.rv)), (u4, .inl (z4, 402, .inl d.sv))] H → va_D A [(o0, .inr (3, [.ref h0, .ref t0, .ref w0, .ref s0, .ref k0, .ref p0, .ref f0, .ref f1, .int (nI x.fc), .int (nI x.lc), .int x.bl, .int hp])), (p0, .inl (x5, 20, .inl x.pv)), (f0, .inl (x6, 802, .inl x.fv)), (f1, .inl (x7, 802, .inl x.fi)), (t0, .inr (4, [.ref u0, .ref u1, .ref u2, .ref u3, .ref u4, .int (nI d.k), .int (nI d.fo), .int (nI d.lev), .int (nI d.low)])), (u0, .inl (z0, 802, .inl d.tv)), (u1, .inl (z1, 401, .inl d.ov)), (u2, .inl (z2, 401, .inl d.lv)), (u3, .inl (z3, 401, .inl d.rv)), (u4, .inl (z4, 402, .inl d.sv))] → va_S A H0 H locs → lv_has ls 2 [(0, .ref o0)] → W p l e R s m args below meth c H locs cells slots Q (F0 m 73 ls []))
    : ∀ (f : Nat) (ix : Nat) (d : Tx) (hp : Int32) (H : Heap) (locs : List Loc) (ls : Array Slot), x.fc - ix < f → (ix ≤ x.fc) → (Gok a d w) → (d.lev = 0) → (hp = x.hp ∨ hp = 1) → va_P (dC, dI) vwCl [(o0, .inr (3, [.ref h0, .ref t0, .ref w0, .ref s0, .ref k0, .ref p0, .ref f0, .ref f1, .int (nI x.fc), .int (nI x.lc), .int x.bl, .int hp])), (p0, .inl (x5, 20, .inl x.pv)), (f0, .inl (x6, 802, .inl x.fv)), (f1, .inl (x7, 802, .inl x.fi)), (t0, .inr (4, [.ref u0, .ref u1, .ref u2, .ref u3, .ref u4, .int (nI d.k), .int (nI d.fo), .int (nI d.lev), .int (nI d.low)])), (u0, .inl (z0, 802, .inl d.tv)), (u1, .inl (z1, 401, .inl d.ov)), (u2, .inl (z2, 401, .inl d.lv)), (u3, .inl (z3, 401, .inl d.rv)), (u4, .inl (z4, 402, .inl d.sv))] H → va_D A [(o0, .inr (3, [.ref h0, .ref t0, .ref w0, .ref s0, .ref k0, .ref p0, .ref f0, .ref f1, .int (nI x.fc), .int (nI x.lc), .int x.bl, .int hp])), (p0, .inl (x5, 20, .inl x.pv)), (f0, .inl (x6, 802, .inl x.fv)), (f1, .inl (x7, 802, .inl x.fi)), (t0, .inr (4, [.ref u0, .ref u1, .ref u2, .ref u3, .ref u4, .int (nI d.k), .int (nI d.fo), .int (nI d.lev), .int (nI d.low)])), (u0, .inl (z0, 802, .inl d.tv)), (u1, .inl (z1, 401, .inl d.ov)), (u2, .inl (z2, 401, .inl d.lv)), (u3, .inl (z3, 401, .inl d.rv)), (u4, .inl (z4, 402, .inl d.sv))] → va_S A H0 H locs → lv_has ls 2 [(0, .ref o0), (1, .int (nI ix))] → W p l e R s m args below meth c H locs cells slots Q (F0 m 2 ls []) := by
  intro f
  induction f with
  | zero => intro ix d hp H locs ls q0 q2 hG hlv0 hhp hP hD hS hl; exact absurd q0 (Nat.not_lt_zero _)
  | succ f ih =>
    intro ix d hp H locs ls q0 q2 hG hlv0 hhp hP hD hS hl
    have hfc := hA9.fc
    refine lv_iload_n hx hb d_Sr_putFacts_2 rfl (lv_at hl 1 rfl) ?_
    refine lv_aload_n hx hb d_Sr_putFacts_3 rfl (lv_at hl 0 rfl) ?_
    refine va_get (D := (dC, dI)) (ci := 3) (v := .int (nI x.fc)) (C := R_Sr) (T := F_Sr) (N := 12) hx hb hw in_Sr hown hK hP 0 rfl rfl 8 (by decide) (hw (Cond.fieldLink "ClauseSearch$Search" 76 "ClauseSearch$Search" "factCount" "I") k_225) (fun _ h9 => h9) rfl d_Sr_putFacts_4 ?_
    refine lv_icmp_ge (tgt := 73) hx hb d_Sr_putFacts_7 (by decide) (fun c_7 => ?_) (fun c_7 => ?_)
    · have c_7 : x.fc ≤ ix := (nI_leI (a := x.fc) (b := ix) (by omega) (by omega)).mp c_7
      exact kk73 d hp _ _ ls hG hlv0 hhp hP hD hS (lv_sub hl [0] rfl)
    · have c_7 : ¬ (x.fc ≤ ix) := fun qq9 => c_7 ((nI_leI (a := x.fc) (b := ix) (by omega) (by omega)).mpr qq9)
      have hf1 := hA9.fv ix (by omega)
      have hf2 := fl_lt hf1.2.1 hf1.2.2.1
      have hk4 := hG.T.k400
      refine lv_aload_n hx hb d_Sr_putFacts_10 rfl (lv_at hl 0 rfl) ?_
      refine va_get (D := (dC, dI)) (ci := 3) (v := .ref t0) (C := R_Sr) (T := F_Sr) (N := 12) hx hb hw in_Sr hown hK hP 0 rfl rfl 1 (by decide) (hw (Cond.fieldLink "ClauseSearch$Search" 15 "ClauseSearch$Search" "trail" "LClauseSearch$Trail;") k_218) (fun _ h9 => h9) rfl d_Sr_putFacts_11 ?_
      refine va_getN (D := (dC, dI)) (ci := 4) (v := .ref u0) (C := R_Tr) (T := F_Tr) (N := 9) hx hb hw in_Tr hown hK hP 4 rfl rfl 0 (by decide) (hw (Cond.fieldLinkNest "ClauseSearch$Search" 104 "ClauseSearch$Trail" "truth" "[B" "ClauseSearch") k_98) (fun _ h9 => h9) rfl d_Sr_putFacts_14 ?_
      refine lv_aload_n hx hb d_Sr_putFacts_17 rfl (lv_at hl 0 rfl) ?_
      refine va_get (D := (dC, dI)) (ci := 3) (v := .ref f0) (C := R_Sr) (T := F_Sr) (N := 12) hx hb hw in_Sr hown hK hP 0 rfl rfl 6 (by decide) (hw (Cond.fieldLink "ClauseSearch$Search" 48 "ClauseSearch$Search" "facts" "[I") k_223) (fun _ h9 => h9) rfl d_Sr_putFacts_18 ?_
      refine lv_iload_n hx hb d_Sr_putFacts_21 rfl (lv_at hl 1 rfl) ?_
      refine va_iald hx hb hK hP 2 1 rfl rfl (vp_in_nI (by omega) (by omega)) d_Sr_putFacts_22 ?_
      refine lv_topi (fun y_1 ey_1 => ?_)
      rw [nI_clamp (by omega)] at ey_1
      rw [hf1.1] at ey_1
      subst ey_1
      refine va_bald hx hb hK hP 5 3 rfl rfl (vp_in_nI (by omega) (by omega)) d_Sr_putFacts_23 ?_
      refine lv_topi (fun y_2 ey_2 => ?_)
      rw [nI_clamp (by omega)] at ey_2
      subst ey_2
      refine lv_iconst (v := 2) hx hb d_Sr_putFacts_24 (by decide) ?_
      refine lv_icmp_ne (tgt := 36) hx hb d_Sr_putFacts_25 (by decide) (fun c_25 => ?_) (fun c_25 => ?_)
      · refine lv_aload_n hx hb d_Sr_putFacts_36 rfl (lv_at hl 0 rfl) ?_
        refine va_get (D := (dC, dI)) (ci := 3) (v := .ref t0) (C := R_Sr) (T := F_Sr) (N := 12) hx hb hw in_Sr hown hK hP 0 rfl rfl 1 (by decide) (hw (Cond.fieldLink "ClauseSearch$Search" 15 "ClauseSearch$Search" "trail" "LClauseSearch$Trail;") k_218) (fun _ h9 => h9) rfl d_Sr_putFacts_37 ?_
        refine va_getN (D := (dC, dI)) (ci := 4) (v := .ref u0) (C := R_Tr) (T := F_Tr) (N := 9) hx hb hw in_Tr hown hK hP 4 rfl rfl 0 (by decide) (hw (Cond.fieldLinkNest "ClauseSearch$Search" 104 "ClauseSearch$Trail" "truth" "[B" "ClauseSearch") k_98) (fun _ h9 => h9) rfl d_Sr_putFacts_40 ?_
        refine lv_aload_n hx hb d_Sr_putFacts_43 rfl (lv_at hl 0 rfl) ?_
        refine va_get (D := (dC, dI)) (ci := 3) (v := .ref f0) (C := R_Sr) (T := F_Sr) (N := 12) hx hb hw in_Sr hown hK hP 0 rfl rfl 6 (by decide) (hw (Cond.fieldLink "ClauseSearch$Search" 48 "ClauseSearch$Search" "facts" "[I") k_223) (fun _ h9 => h9) rfl d_Sr_putFacts_44 ?_
        refine lv_iload_n hx hb d_Sr_putFacts_47 rfl (lv_at hl 1 rfl) ?_
        refine va_iald hx hb hK hP 2 1 rfl rfl (vp_in_nI (by omega) (by omega)) d_Sr_putFacts_48 ?_
        refine lv_topi (fun y_3 ey_3 => ?_)
        rw [nI_clamp (by omega)] at ey_3
        rw [hf1.1] at ey_3
        subst ey_3
        refine va_bald hx hb hK hP 5 3 rfl rfl (vp_in_nI (by omega) (by omega)) d_Sr_putFacts_49 ?_
        refine lv_topi (fun y_4 ey_4 => ?_)
        rw [nI_clamp (by omega)] at ey_4
        subst ey_4
        refine lv_if_ne (tgt := 67) hx hb d_Sr_putFacts_50 (by decide) (fun c_50 => ?_) (fun c_50 => ?_)
        · refine lv_iinc (v := nI (ix + 1)) (lv' := [(1, .int (nI (ix + 1))), (0, .ref o0)]) hx hb d_Sr_putFacts_67 hl (k := 1) rfl (nI_1 ix) (by decide) rfl (fun ls hl => ?_)
          refine lv_goto (tgt := 2) hx hb d_Sr_putFacts_70 (by decide) ?_
          exact ih (ix + 1) d hp _ _ ls (by omega) (by omega) hG hlv0 hhp hP hD hS (lv_sub hl [1, 0] rfl)
        · refine lv_aload_n hx hb d_Sr_putFacts_53 rfl (lv_at hl 0 rfl) ?_
          refine va_get (D := (dC, dI)) (ci := 3) (v := .ref t0) (C := R_Sr) (T := F_Sr) (N := 12) hx hb hw in_Sr hown hK hP 0 rfl rfl 1 (by decide) (hw (Cond.fieldLink "ClauseSearch$Search" 15 "ClauseSearch$Search" "trail" "LClauseSearch$Trail;") k_218) (fun _ h9 => h9) rfl d_Sr_putFacts_54 ?_
          refine lv_aload_n hx hb d_Sr_putFacts_57 rfl (lv_at hl 0 rfl) ?_
          refine va_get (D := (dC, dI)) (ci := 3) (v := .ref f0) (C := R_Sr) (T := F_Sr) (N := 12) hx hb hw in_Sr hown hK hP 0 rfl rfl 6 (by decide) (hw (Cond.fieldLink "ClauseSearch$Search" 48 "ClauseSearch$Search" "facts" "[I") k_223) (fun _ h9 => h9) rfl d_Sr_putFacts_58 ?_
          refine lv_iload_n hx hb d_Sr_putFacts_61 rfl (lv_at hl 1 rfl) ?_
          refine va_iald hx hb hK hP 2 1 rfl rfl (vp_in_nI (by omega) (by omega)) d_Sr_putFacts_62 ?_
          refine lv_topi (fun y_5 ey_5 => ?_)
          rw [nI_clamp (by omega)] at ey_5
          rw [hf1.1] at ey_5
          subst ey_5
          refine lv_iconst (v := (-1)) hx hb d_Sr_putFacts_63 (by decide) ?_
          have hPc := hP.sub (ws' := [(t0, .inr (4, [.ref u0, .ref u1, .ref u2, .ref u3, .ref u4, .int (nI d.k), .int (nI d.fo), .int (nI d.lev), .int (nI d.low)])), (u0, .inl (z0, 802, .inl d.tv)), (u1, .inl (z1, 401, .inl d.ov)), (u2, .inl (z2, 401, .inl d.lv)), (u3, .inl (z3, 401, .inl d.rv))]) [4, 5, 6, 7, 8] rfl
          have hDc := hD.sub (ws' := [(t0, .inr (4, [.ref u0, .ref u1, .ref u2, .ref u3, .ref u4, .int (nI d.k), .int (nI d.fo), .int (nI d.lev), .int (nI d.low)])), (u0, .inl (z0, 802, .inl d.tv)), (u1, .inl (z1, 401, .inl d.ov)), (u2, .inl (z2, 401, .inl d.lv)), (u3, .inl (z3, 401, .inl d.rv))]) [4, 5, 6, 7, 8] (by decide) rfl
          have hKc := hK.sub (tys' := [(z0, .byte), (z1, .int), (z2, .int), (z3, .int)]) [3, 4, 5, 6] rfl
          have hFc := va_free (wc := [(t0, .inr (4, [.ref u0, .ref u1, .ref u2, .ref u3, .ref u4, .int (nI d.k), .int (nI d.fo), .int (nI d.lev), .int (nI d.low)])), (u0, .inl (z0, 802, .inl d.tv)), (u1, .inl (z1, 401, .inl d.ov)), (u2, .inl (z2, 401, .inl d.lv)), (u3, .inl (z3, 401, .inl d.rv))]) hD hS hA [4, 5, 6, 7, 8] rfl
          refine va_callv (va_runV (As := [.int (nI (x.F ix)), .int (-1)]) (rest := []) ⟨hx, hb, hml, hown, hw⟩ (c_Tr_put l dC dI t0 u0 u1 u2 u3 u4 z0 z1 z2 z3 H.size d.k d.fo d.lev d.low d.tv d.ov d.lv d.rv (x.F ix) (-1) (by omega) hf2.2 (by omega)) (cb_V (C := R_Tr) 2 hw k_306 k_32 k_303 k_304 k_305 rfl rfl (by decide +kernel) ⟨Nat.le_trans (Nat.le_of_ble_eq_true rfl) hR1, Nat.le_trans (Nat.le_of_ble_eq_true rfl) hR2⟩) ⟨fun a U g mk q => by obtain ⟨q0, q1, qP, qK, qD⟩ := q; exact ⟨q0, q1, qP, va_K.moved (u := U) (U := U.calling g mk a) (Vm.Alike.refl U.vm) qK, qD⟩, va_recv hKc hPc (ci := 4) (q0 := 0) rfl rfl, fun U hU hW => ⟨rfl, by rw [hU], by rw [hU]; exact hPc, va_K.moved hW.alike hKc, hDc.weaken (fun _ _ _ _ => trivial)⟩⟩ rfl rfl hl.1 rfl (lv_room (Nat.le_of_ble_eq_true rfl)) d_Sr_putFacts_64 ⟨hR3, hR4⟩) hS (fun q _ h => hFc q h) hFc (fun u t H1 locs ht hvm hw9 hB hz1 hk1 hS => ?_)
          obtain ⟨hP1, hK1, hD1⟩ := hB
          rw [ht] at hP1
          have hK1 := va_K.moved hvm.symm hK1
          obtain ⟨hP, hD⟩ := va_join (wr := [(o0, .inr (3, [.ref h0, .ref t0, .ref w0, .ref s0, .ref k0, .ref p0, .ref f0, .ref f1, .int (nI x.fc), .int (nI x.lc), .int x.bl, .int hp])), (p0, .inl (x5, 20, .inl x.pv)), (f0, .inl (x6, 802, .inl x.fv)), (f1, .inl (x7, 802, .inl x.fi)), (u4, .inl (z4, 402, .inl d.sv))]) (w1 := [(t0, .inr (4, [.ref u0, .ref u1, .ref u2, .ref u3, .ref u4, .int (nI (d.k + 1)), .int (nI d.fo), .int (nI d.lev), .int (nI d.low)])), (u0, .inl (z0, 802, .inl (upd (upd d.tv (x.F ix) 1) (fl (x.F ix)) 2))), (u1, .inl (z1, 401, .inl (upd d.ov d.k (nI (x.F ix))))), (u2, .inl (z2, 401, .inl (upd d.lv ((x.F ix) / 2) (nI d.lev)))), (u3, .inl (z3, 401, .inl (upd d.rv ((x.F ix) / 2) (-1))))]) hP hD [4, 5, 6, 7, 8] [0, 1, 2, 3, 9] rfl rfl (by decide) (by decide) hk1 hFc hP1 hD1
          generalize H1 = H at hP hS ⊢
          have hP : va_P (dC, dI) vwCl [(o0, .inr (3, [.ref h0, .ref t0, .ref w0, .ref s0, .ref k0, .ref p0, .ref f0, .ref f1, .int (nI x.fc), .int (nI x.lc), .int x.bl, .int hp])), (p0, .inl (x5, 20, .inl x.pv)), (f0, .inl (x6, 802, .inl x.fv)), (f1, .inl (x7, 802, .inl x.fi)), (u4, .inl (z4, 402, .inl d.sv)), (t0, .inr (4, [.ref u0, .ref u1, .ref u2, .ref u3, .ref u4, .int (nI (d.k + 1)), .int (nI d.fo), .int (nI d.lev), .int (nI d.low)])), (u0, .inl (z0, 802, .inl (upd (upd d.tv (x.F ix) 1) (fl (x.F ix)) 2))), (u1, .inl (z1, 401, .inl (upd d.ov d.k (nI (x.F ix))))), (u2, .inl (z2, 401, .inl (upd d.lv ((x.F ix) / 2) (nI d.lev)))), (u3, .inl (z3, 401, .inl (upd d.rv ((x.F ix) / 2) (-1))))] H := hP
          have hD : va_D A [(o0, .inr (3, [.ref h0, .ref t0, .ref w0, .ref s0, .ref k0, .ref p0, .ref f0, .ref f1, .int (nI x.fc), .int (nI x.lc), .int x.bl, .int hp])), (p0, .inl (x5, 20, .inl x.pv)), (f0, .inl (x6, 802, .inl x.fv)), (f1, .inl (x7, 802, .inl x.fi)), (u4, .inl (z4, 402, .inl d.sv)), (t0, .inr (4, [.ref u0, .ref u1, .ref u2, .ref u3, .ref u4, .int (nI (d.k + 1)), .int (nI d.fo), .int (nI d.lev), .int (nI d.low)])), (u0, .inl (z0, 802, .inl (upd (upd d.tv (x.F ix) 1) (fl (x.F ix)) 2))), (u1, .inl (z1, 401, .inl (upd d.ov d.k (nI (x.F ix))))), (u2, .inl (z2, 401, .inl (upd d.lv ((x.F ix) / 2) (nI d.lev)))), (u3, .inl (z3, 401, .inl (upd d.rv ((x.F ix) / 2) (-1))))] := hD
          refine W.widen (k := cells) (n := slots) (Nat.le_refl _) (Nat.le_refl _) ?_
          refine lv_iinc (v := nI (ix + 1)) (lv' := [(1, .int (nI (ix + 1))), (0, .ref o0)]) hx hb d_Sr_putFacts_67 hl (k := 1) rfl (nI_1 ix) (by decide) rfl (fun ls hl => ?_)
          refine lv_goto (tgt := 2) hx hb d_Sr_putFacts_70 (by decide) ?_
          have hP := hP.sub (ws' := [(o0, .inr (3, [.ref h0, .ref t0, .ref w0, .ref s0, .ref k0, .ref p0, .ref f0, .ref f1, .int (nI x.fc), .int (nI x.lc), .int x.bl, .int hp])), (p0, .inl (x5, 20, .inl x.pv)), (f0, .inl (x6, 802, .inl x.fv)), (f1, .inl (x7, 802, .inl x.fi)), (t0, .inr (4, [.ref u0, .ref u1, .ref u2, .ref u3, .ref u4, .int (nI (Tput d (x.F ix) (-1)).k), .int (nI (Tput d (x.F ix) (-1)).fo), .int (nI (Tput d (x.F ix) (-1)).lev), .int (nI (Tput d (x.F ix) (-1)).low)])), (u0, .inl (z0, 802, .inl (Tput d (x.F ix) (-1)).tv)), (u1, .inl (z1, 401, .inl (Tput d (x.F ix) (-1)).ov)), (u2, .inl (z2, 401, .inl (Tput d (x.F ix) (-1)).lv)), (u3, .inl (z3, 401, .inl (Tput d (x.F ix) (-1)).rv)), (u4, .inl (z4, 402, .inl (Tput d (x.F ix) (-1)).sv))]) [0, 1, 2, 3, 5, 6, 7, 8, 9, 4] rfl
          have hD := hD.sub (ws' := [(o0, .inr (3, [.ref h0, .ref t0, .ref w0, .ref s0, .ref k0, .ref p0, .ref f0, .ref f1, .int (nI x.fc), .int (nI x.lc), .int x.bl, .int hp])), (p0, .inl (x5, 20, .inl x.pv)), (f0, .inl (x6, 802, .inl x.fv)), (f1, .inl (x7, 802, .inl x.fi)), (t0, .inr (4, [.ref u0, .ref u1, .ref u2, .ref u3, .ref u4, .int (nI (Tput d (x.F ix) (-1)).k), .int (nI (Tput d (x.F ix) (-1)).fo), .int (nI (Tput d (x.F ix) (-1)).lev), .int (nI (Tput d (x.F ix) (-1)).low)])), (u0, .inl (z0, 802, .inl (Tput d (x.F ix) (-1)).tv)), (u1, .inl (z1, 401, .inl (Tput d (x.F ix) (-1)).ov)), (u2, .inl (z2, 401, .inl (Tput d (x.F ix) (-1)).lv)), (u3, .inl (z3, 401, .inl (Tput d (x.F ix) (-1)).rv)), (u4, .inl (z4, 402, .inl (Tput d (x.F ix) (-1)).sv))]) [0, 1, 2, 3, 5, 6, 7, 8, 9, 4] (by decide) rfl
          exact ih (ix + 1) (Tput d (x.F ix) (-1)) hp _ _ ls (by omega) (by omega) (hG.fact hf1.2.1 hf1.2.2.1 c_50 hlv0) hlv0 hhp hP hD hS (lv_sub hl [1, 0] rfl)
      · refine lv_aload_n hx hb d_Sr_putFacts_28 rfl (lv_at hl 0 rfl) ?_
        refine lv_iconst (v := 1) hx hb d_Sr_putFacts_29 (by decide) ?_
        refine va_put (D := (dC, dI)) (ci := 3) (v := .int 1) (ty := .boolean) (C := R_Sr) (T := F_Sr) (N := 12) hx hb hw in_Sr t_Sr t_Sr_ok n_Sr hown hK hP hD hS 0 rfl rfl 11 (by decide) (hw (Cond.fieldLink "ClauseSearch$Search" 89 "ClauseSearch$Search" "hopeless" "Z") k_229) (fun _ h9 => h9) rfl (by decide +kernel) rfl rfl (Nat.le_of_ble_eq_true rfl) d_Sr_putFacts_30 (fun H locs hP hD hS => ?_)
        have hP : va_P (dC, dI) vwCl [(o0, .inr (3, [.ref h0, .ref t0, .ref w0, .ref s0, .ref k0, .ref p0, .ref f0, .ref f1, .int (nI x.fc), .int (nI x.lc), .int x.bl, .int 1])), (p0, .inl (x5, 20, .inl x.pv)), (f0, .inl (x6, 802, .inl x.fv)), (f1, .inl (x7, 802, .inl x.fi)), (t0, .inr (4, [.ref u0, .ref u1, .ref u2, .ref u3, .ref u4, .int (nI d.k), .int (nI d.fo), .int (nI d.lev), .int (nI d.low)])), (u0, .inl (z0, 802, .inl d.tv)), (u1, .inl (z1, 401, .inl d.ov)), (u2, .inl (z2, 401, .inl d.lv)), (u3, .inl (z3, 401, .inl d.rv)), (u4, .inl (z4, 402, .inl d.sv))] H := hP
        have hD : va_D A [(o0, .inr (3, [.ref h0, .ref t0, .ref w0, .ref s0, .ref k0, .ref p0, .ref f0, .ref f1, .int (nI x.fc), .int (nI x.lc), .int x.bl, .int 1])), (p0, .inl (x5, 20, .inl x.pv)), (f0, .inl (x6, 802, .inl x.fv)), (f1, .inl (x7, 802, .inl x.fi)), (t0, .inr (4, [.ref u0, .ref u1, .ref u2, .ref u3, .ref u4, .int (nI d.k), .int (nI d.fo), .int (nI d.lev), .int (nI d.low)])), (u0, .inl (z0, 802, .inl d.tv)), (u1, .inl (z1, 401, .inl d.ov)), (u2, .inl (z2, 401, .inl d.lv)), (u3, .inl (z3, 401, .inl d.rv)), (u4, .inl (z4, 402, .inl d.sv))] := hD
        refine lv_goto (tgt := 67) hx hb d_Sr_putFacts_33 (by decide) ?_
        refine lv_iinc (v := nI (ix + 1)) (lv' := [(1, .int (nI (ix + 1))), (0, .ref o0)]) hx hb d_Sr_putFacts_67 hl (k := 1) rfl (nI_1 ix) (by decide) rfl (fun ls hl => ?_)
        refine lv_goto (tgt := 2) hx hb d_Sr_putFacts_70 (by decide) ?_
        exact ih (ix + 1) d 1 _ _ ls (by omega) (by omega) hG hlv0 (Or.inr rfl) hP hD hS (lv_sub hl [1, 0] rfl)

set_option maxHeartbeats 4000000 in
set_option maxRecDepth 100000 in
/-- putFacts() -/
theorem c_Sr_putFacts (l : Launch) (dC : Nat → ClassId) (dI : Nat → Nat → Nat) (o0 : Nat) (p0 : Nat) (f0 : Nat) (f1 : Nat) (h0 : Nat) (t0 : Nat) (w0 : Nat) (s0 : Nat) (k0 : Nat) (u0 : Nat) (u1 : Nat) (u2 : Nat) (u3 : Nat) (u4 : Nat) (x5 : ClassId) (x6 : ClassId) (x7 : ClassId) (z0 : ClassId) (z1 : ClassId) (z2 : ClassId) (z3 : ClassId) (z4 : ClassId) (sz : Nat) (a : Rx) (w : Wx) (x : Sx) (d : Tx) (hA9 : Aok x) (hG : Gok a d w) (hlv0 : d.lev = 0) : Met l y_Sr_putFacts (wq y_Sr_putFacts prog_5_method_6_code 2 none) ({ frames := 1, cells := 0, slots := 0, locals := 22 }) (va_Pc [.ref o0] (fun U => U.heap.size = sz ∧ va_P (dC, dI) vwCl [(o0, .inr (3, [.ref h0, .ref t0, .ref w0, .ref s0, .ref k0, .ref p0, .ref f0, .ref f1, .int (nI x.fc), .int (nI x.lc), .int x.bl, .int x.hp])), (p0, .inl (x5, 20, .inl x.pv)), (f0, .inl (x6, 802, .inl x.fv)), (f1, .inl (x7, 802, .inl x.fi)), (t0, .inr (4, [.ref u0, .ref u1, .ref u2, .ref u3, .ref u4, .int (nI d.k), .int (nI d.fo), .int (nI d.lev), .int (nI d.low)])), (u0, .inl (z0, 802, .inl d.tv)), (u1, .inl (z1, 401, .inl d.ov)), (u2, .inl (z2, 401, .inl d.lv)), (u3, .inl (z3, 401, .inl d.rv)), (u4, .inl (z4, 402, .inl d.sv))] U.heap ∧ va_K (dC, dI) vwCl [(x5, .int), (x6, .int), (x7, .boolean), (z0, .byte), (z1, .int), (z2, .int), (z3, .int), (z4, .int)] U ∧ va_D (fun _ => True) [(o0, .inr (3, [.ref h0, .ref t0, .ref w0, .ref s0, .ref k0, .ref p0, .ref f0, .ref f1, .int (nI x.fc), .int (nI x.lc), .int x.bl, .int x.hp])), (p0, .inl (x5, 20, .inl x.pv)), (f0, .inl (x6, 802, .inl x.fv)), (f1, .inl (x7, 802, .inl x.fi)), (t0, .inr (4, [.ref u0, .ref u1, .ref u2, .ref u3, .ref u4, .int (nI d.k), .int (nI d.fo), .int (nI d.lev), .int (nI d.low)])), (u0, .inl (z0, 802, .inl d.tv)), (u1, .inl (z1, 401, .inl d.ov)), (u2, .inl (z2, 401, .inl d.lv)), (u3, .inl (z3, 401, .inl d.rv)), (u4, .inl (z4, 402, .inl d.sv))])) (va_Qv (fun _ : Unit => True) (fun (_ : Unit) t => ∃ (f : Tx) (hp : Int32), (Gok a f w) ∧ (f.lev = 0) ∧ (hp = x.hp ∨ hp = 1) ∧ va_P (dC, dI) vwCl [(o0, .inr (3, [.ref h0, .ref t0, .ref w0, .ref s0, .ref k0, .ref p0, .ref f0, .ref f1, .int (nI x.fc), .int (nI x.lc), .int x.bl, .int hp])), (p0, .inl (x5, 20, .inl x.pv)), (f0, .inl (x6, 802, .inl x.fv)), (f1, .inl (x7, 802, .inl x.fi)), (t0, .inr (4, [.ref u0, .ref u1, .ref u2, .ref u3, .ref u4, .int (nI f.k), .int (nI f.fo), .int (nI f.lev), .int (nI f.low)])), (u0, .inl (z0, 802, .inl f.tv)), (u1, .inl (z1, 401, .inl f.ov)), (u2, .inl (z2, 401, .inl f.lv)), (u3, .inl (z3, 401, .inl f.rv)), (u4, .inl (z4, 402, .inl f.sv))] t.heap ∧ va_K (dC, dI) vwCl [(x5, .int), (x6, .int), (x7, .boolean), (z0, .byte), (z1, .int), (z2, .int), (z3, .int), (z4, .int)] t ∧ va_D (va_A [(o0, .inr (3, [.ref h0, .ref t0, .ref w0, .ref s0, .ref k0, .ref p0, .ref f0, .ref f1, .int (nI x.fc), .int (nI x.lc), .int x.bl, .int x.hp])), (p0, .inl (x5, 20, .inl x.pv)), (f0, .inl (x6, 802, .inl x.fv)), (f1, .inl (x7, 802, .inl x.fi)), (t0, .inr (4, [.ref u0, .ref u1, .ref u2, .ref u3, .ref u4, .int (nI d.k), .int (nI d.fo), .int (nI d.lev), .int (nI d.low)])), (u0, .inl (z0, 802, .inl d.tv)), (u1, .inl (z1, 401, .inl d.ov)), (u2, .inl (z2, 401, .inl d.lv)), (u3, .inl (z3, 401, .inl d.rv)), (u4, .inl (z4, 402, .inl d.sv))] sz) [(o0, .inr (3, [.ref h0, .ref t0, .ref w0, .ref s0, .ref k0, .ref p0, .ref f0, .ref f1, .int (nI x.fc), .int (nI x.lc), .int x.bl, .int hp])), (p0, .inl (x5, 20, .inl x.pv)), (f0, .inl (x6, 802, .inl x.fv)), (f1, .inl (x7, 802, .inl x.fi)), (t0, .inr (4, [.ref u0, .ref u1, .ref u2, .ref u3, .ref u4, .int (nI f.k), .int (nI f.fo), .int (nI f.lev), .int (nI f.low)])), (u0, .inl (z0, 802, .inl f.tv)), (u1, .inl (z1, 401, .inl f.ov)), (u2, .inl (z2, 401, .inl f.lv)), (u3, .inl (z3, 401, .inl f.rv)), (u4, .inl (z4, 402, .inl f.sv))]) (va_A [(o0, .inr (3, [.ref h0, .ref t0, .ref w0, .ref s0, .ref k0, .ref p0, .ref f0, .ref f1, .int (nI x.fc), .int (nI x.lc), .int x.bl, .int x.hp])), (p0, .inl (x5, 20, .inl x.pv)), (f0, .inl (x6, 802, .inl x.fv)), (f1, .inl (x7, 802, .inl x.fi)), (t0, .inr (4, [.ref u0, .ref u1, .ref u2, .ref u3, .ref u4, .int (nI d.k), .int (nI d.fo), .int (nI d.lev), .int (nI d.low)])), (u0, .inl (z0, 802, .inl d.tv)), (u1, .inl (z1, 401, .inl d.ov)), (u2, .inl (z2, 401, .inl d.lv)), (u3, .inl (z3, 401, .inl d.rv)), (u4, .inl (z4, 402, .inl d.sv))] sz)) (0) (0) (va_A [(o0, .inr (3, [.ref h0, .ref t0, .ref w0, .ref s0, .ref k0, .ref p0, .ref f0, .ref f1, .int (nI x.fc), .int (nI x.lc), .int x.bl, .int x.hp])), (p0, .inl (x5, 20, .inl x.pv)), (f0, .inl (x6, 802, .inl x.fv)), (f1, .inl (x7, 802, .inl x.fi)), (t0, .inr (4, [.ref u0, .ref u1, .ref u2, .ref u3, .ref u4, .int (nI d.k), .int (nI d.fo), .int (nI d.lev), .int (nI d.low)])), (u0, .inl (z0, 802, .inl d.tv)), (u1, .inl (z1, 401, .inl d.ov)), (u2, .inl (z2, 401, .inl d.lv)), (u3, .inl (z3, 401, .inl d.rv)), (u4, .inl (z4, 402, .inl d.sv))] sz) := by
  refine Met.ofW (cc := prog_5_method_6_code) (maxL := 2) (ret := none) (by decide) rfl ?_
  intro p e s m args below meth c s₁ B hml hv
  obtain ⟨rfl, hsz, hP, hK, hD0⟩ := hv
  have hx := B.exec
  have hb := B.bytes
  have hr := B.returns
  have hw : ∀ w ∈ bg_W, w.before #[Value.ref o0] s = true := fun w h => atoms_spec (ws := (wq y_Sr_putFacts prog_5_method_6_code 2 none)) B.pre w (List.mem_cons_of_mem _ h)
  have hown : s.vm.findClass R_Sr = some m.cls := findClass_of_methodNamed B.named
  have hlocks := B.notSynchronized
  subst hsz
  have hD := hD0.self (sz := s.heap.size)
  generalize hAe : va_A [(o0, .inr (3, [.ref h0, .ref t0, .ref w0, .ref s0, .ref k0, .ref p0, .ref f0, .ref f1, .int (nI x.fc), .int (nI x.lc), .int x.bl, .int x.hp])), (p0, .inl (x5, 20, .inl x.pv)), (f0, .inl (x6, 802, .inl x.fv)), (f1, .inl (x7, 802, .inl x.fi)), (t0, .inr (4, [.ref u0, .ref u1, .ref u2, .ref u3, .ref u4, .int (nI d.k), .int (nI d.fo), .int (nI d.lev), .int (nI d.low)])), (u0, .inl (z0, 802, .inl d.tv)), (u1, .inl (z1, 401, .inl d.ov)), (u2, .inl (z2, 401, .inl d.lv)), (u3, .inl (z3, 401, .inl d.rv)), (u4, .inl (z4, 402, .inl d.sv))] s.heap.size = A at hD ⊢
  have hA : ∀ q : Nat, s.heap.size ≤ q → A q := fun q h => by rw [← hAe]; exact Or.inr h
  have hS : va_S A s.heap s.heap [] := va_S.rf
  have hP : va_P (dC, dI) vwCl [(o0, .inr (3, [.ref h0, .ref t0, .ref w0, .ref s0, .ref k0, .ref p0, .ref f0, .ref f1, .int (nI x.fc), .int (nI x.lc), .int x.bl, .int x.hp])), (p0, .inl (x5, 20, .inl x.pv)), (f0, .inl (x6, 802, .inl x.fv)), (f1, .inl (x7, 802, .inl x.fi)), (t0, .inr (4, [.ref u0, .ref u1, .ref u2, .ref u3, .ref u4, .int (nI d.k), .int (nI d.fo), .int (nI d.lev), .int (nI d.low)])), (u0, .inl (z0, 802, .inl d.tv)), (u1, .inl (z1, 401, .inl d.ov)), (u2, .inl (z2, 401, .inl d.lv)), (u3, .inl (z3, 401, .inl d.rv)), (u4, .inl (z4, 402, .inl d.sv))] s.heap := hP
  have hl := lv_entry ([.ref o0]) (n := 2) (Nat.le_of_ble_eq_true rfl)
  rw [lg_entry_eq]
  generalize (lg_sl ([.ref o0]) ++ List.replicate (2 - (lg_sl ([.ref o0])).length) Slot.unset).toArray = ls at hl ⊢
  have hl : lv_has ls 2 [(0, .ref o0)] := hl
  obtain ⟨H, hH⟩ : ∃ H : Heap, H = s.heap := ⟨_, rfl⟩
  rw [← hH] at hP
  have hS : va_S A s.heap H [] := by rw [hH]; exact va_S.rf
  show W p l e _ s m _ below meth c s.heap [] 0 0 _ _
  rw [← hH]
  refine lv_iconst (v := nI 0) hx hb d_Sr_putFacts_0 (by decide) ?_
  refine lv_istore_n (lv' := [(1, .int (nI 0)), (0, .ref o0)]) hx hb d_Sr_putFacts_1 rfl hl (by decide) rfl (fun ls hl => ?_)
  refine l_facts (a := a) (w := w) (x := x) hx hb hml hw hown (hK.sub (tys' := [(x5, .int), (x6, .int), (x7, .boolean), (z0, .byte), (z1, .int), (z2, .int), (z3, .int), (z4, .int)]) [0, 1, 2, 3, 4, 5, 6, 7] rfl) hA (Nat.le_of_ble_eq_true rfl) (Nat.le_of_ble_eq_true rfl) (Nat.le_of_ble_eq_true rfl) (Nat.le_of_ble_eq_true rfl) hA9 (fun b_1 g_2 H1 locs ls f_3 f_4 f_5 hP1 hD1 hS hl => ?_) (_) 0 d x.hp _ _ ls (Nat.lt_succ_self _) (Nat.zero_le _) hG hlv0 (Or.inl rfl) (hP.sub (ws' := [(o0, .inr (3, [.ref h0, .ref t0, .ref w0, .ref s0, .ref k0, .ref p0, .ref f0, .ref f1, .int (nI x.fc), .int (nI x.lc), .int x.bl, .int x.hp])), (p0, .inl (x5, 20, .inl x.pv)), (f0, .inl (x6, 802, .inl x.fv)), (f1, .inl (x7, 802, .inl x.fi)), (t0, .inr (4, [.ref u0, .ref u1, .ref u2, .ref u3, .ref u4, .int (nI d.k), .int (nI d.fo), .int (nI d.lev), .int (nI d.low)])), (u0, .inl (z0, 802, .inl d.tv)), (u1, .inl (z1, 401, .inl d.ov)), (u2, .inl (z2, 401, .inl d.lv)), (u3, .inl (z3, 401, .inl d.rv)), (u4, .inl (z4, 402, .inl d.sv))]) [0, 1, 2, 3, 4, 5, 6, 7, 8, 9] rfl) (hD.sub (ws' := [(o0, .inr (3, [.ref h0, .ref t0, .ref w0, .ref s0, .ref k0, .ref p0, .ref f0, .ref f1, .int (nI x.fc), .int (nI x.lc), .int x.bl, .int x.hp])), (p0, .inl (x5, 20, .inl x.pv)), (f0, .inl (x6, 802, .inl x.fv)), (f1, .inl (x7, 802, .inl x.fi)), (t0, .inr (4, [.ref u0, .ref u1, .ref u2, .ref u3, .ref u4, .int (nI d.k), .int (nI d.fo), .int (nI d.lev), .int (nI d.low)])), (u0, .inl (z0, 802, .inl d.tv)), (u1, .inl (z1, 401, .inl d.ov)), (u2, .inl (z2, 401, .inl d.lv)), (u3, .inl (z3, 401, .inl d.rv)), (u4, .inl (z4, 402, .inl d.sv))]) [0, 1, 2, 3, 4, 5, 6, 7, 8, 9] (by decide) rfl) hS (lv_sub hl [1, 0] rfl)
  have hP := hP1
  have hD := hD1
  generalize H1 = H at hP hS ⊢
  have hP : va_P (dC, dI) vwCl [(o0, .inr (3, [.ref h0, .ref t0, .ref w0, .ref s0, .ref k0, .ref p0, .ref f0, .ref f1, .int (nI x.fc), .int (nI x.lc), .int x.bl, .int g_2])), (p0, .inl (x5, 20, .inl x.pv)), (f0, .inl (x6, 802, .inl x.fv)), (f1, .inl (x7, 802, .inl x.fi)), (t0, .inr (4, [.ref u0, .ref u1, .ref u2, .ref u3, .ref u4, .int (nI b_1.k), .int (nI b_1.fo), .int (nI b_1.lev), .int (nI b_1.low)])), (u0, .inl (z0, 802, .inl b_1.tv)), (u1, .inl (z1, 401, .inl b_1.ov)), (u2, .inl (z2, 401, .inl b_1.lv)), (u3, .inl (z3, 401, .inl b_1.rv)), (u4, .inl (z4, 402, .inl b_1.sv))] H := hP
  have hD : va_D A [(o0, .inr (3, [.ref h0, .ref t0, .ref w0, .ref s0, .ref k0, .ref p0, .ref f0, .ref f1, .int (nI x.fc), .int (nI x.lc), .int x.bl, .int g_2])), (p0, .inl (x5, 20, .inl x.pv)), (f0, .inl (x6, 802, .inl x.fv)), (f1, .inl (x7, 802, .inl x.fi)), (t0, .inr (4, [.ref u0, .ref u1, .ref u2, .ref u3, .ref u4, .int (nI b_1.k), .int (nI b_1.fo), .int (nI b_1.lev), .int (nI b_1.low)])), (u0, .inl (z0, 802, .inl b_1.tv)), (u1, .inl (z1, 401, .inl b_1.ov)), (u2, .inl (z2, 401, .inl b_1.lv)), (u3, .inl (z3, 401, .inl b_1.rv)), (u4, .inl (z4, 402, .inl b_1.sv))] := hD
  have hK := hK.sub (tys' := [(x5, .int), (x6, .int), (x7, .boolean), (z0, .byte), (z1, .int), (z2, .int), (z3, .int), (z4, .int)]) [0, 1, 2, 3, 4, 5, 6, 7] rfl
  refine W.widen (k := 0) (n := 0) (by decide) (by decide) ?_
  exact W.vret hx hb hr (fun t ht hW => ⟨⟨(), rfl, trivial, b_1, g_2, f_3, f_4, f_5, by rw [ht]; exact hP, va_K.moved hW.alike hK, hD⟩, hS.F ht⟩) hS.2.2 d_Sr_putFacts_73

set_option maxHeartbeats 4000000 in
set_option maxRecDepth 100000 in
/-- the loop of codeToTry -/
theorem l_assumed {p : Program} {l : Launch} {e : Env} {R : Room} {s : State} {m : MethodId} {args : Array Value} {below : List Frame} {meth : Method} {c : Code} {dC : Nat → ClassId} {dI : Nat → Nat → Nat} {A : Nat → Prop} {Q : State → Prop} {cells slots : Nat} {H0 : Heap} {o0 : Nat} {p0 : Nat} {f0 : Nat} {f1 : Nat} {h0 : Nat} {t0 : Nat} {w0 : Nat} {s0 : Nat} {k0 : Nat} {u0 : Nat} {u1 : Nat} {u2 : Nat} {u3 : Nat} {u4 : Nat} {r0 : Nat} {x8 : ClassId} {z0 : ClassId} {z1 : ClassId} {z2 : ClassId} {z3 : ClassId} {z4 : ClassId} {a : Rx} {w : Wx} {x : Sx} {d : Tx} {v : Nat} {len : Nat} {rw : Nat → Int32} {A9 : Nat → Nat} (hx : p.tables.exec = Jvm.exec) (hb : c.code = prog_5_method_7_code) (hml : c.maxLocals = 5) (hw : ∀ w ∈ bg_W, w.before args s = true) (hown : s.vm.findClass R_Sr = some m.cls) (hK : va_K (dC, dI) vwCl [(z0, .byte), (z1, .int), (z2, .int), (z3, .int), (z4, .int), (x8, .int)] s) (hA : ∀ q : Nat, H0.size ≤ q → A q) (hR1 : 1 ≤ R.frames) (hR2 : 1 ≤ R.locals) (hR3 : cells ≤ R.cells) (hR4 : slots ≤ R.slots) (hG : Gok a d w) (hv : v ≤ 400) (hlen : len ≤ 20) (hrw : ∀ j, j < len → rw j = nI (A9 j) ∧ 2 ≤ A9 j ∧ A9 j < 802)
    (kk25 : ∀ (ix : Nat) (H : Heap) (locs : List Loc) (ls : Array Slot), (ix < len) → (d.tv (A9 ix) ≠ 1) → va_P (dC, dI) vwCl [(o0, .inr (3, [.ref h0, .ref t0, .ref w0, .ref s0, .ref k0, .ref p0, .ref f0, .ref f1, .int (nI x.fc), .int (nI x.lc), .int x.bl, .int x.hp])), (t0, .inr (4, [.ref u0, .ref u1, .ref u2, .ref u3, .ref u4, .int (nI d.k), .int (nI d.fo), .int (nI d.lev), .int (nI d.low)])), (u0, .inl (z0, 802, .inl d.tv)), (u1, .inl (z1, 401, .inl d.ov)), (u2, .inl (z2, 401, .inl d.lv)), (u3, .inl (z3, 401, .inl d.rv)), (u4, .inl (z4, 402, .inl d.sv)), (r0, .inl (x8, 20, .inl rw))] H → va_D A [(o0, .inr (3, [.ref h0, .ref t0, .ref w0, .ref s0, .ref k0, .ref p0, .ref f0, .ref f1, .int (nI x.fc), .int (nI x.lc), .int x.bl, .int x.hp])), (t0, .inr (4, [.ref u0, .ref u1, .ref u2, .ref u3, .ref u4, .int (nI d.k), .int (nI d.fo), .int (nI d.lev), .int (nI d.low)])), (u0, .inl (z0, 802, .inl d.tv)), (u1, .inl (z1, 401, .inl d.ov)), (u2, .inl (z2, 401, .inl d.lv)), (u3, .inl (z3, 401, .inl d.rv)), (u4, .inl (z4, 402, .inl d.sv)), (r0, .inl (x8, 20, .inl rw))] → va_S A H0 H locs → lv_has ls 5 [(0, .ref o0), (1, .int (nI v)), (2, .ref r0), (3, .int (nI len)), (4, .int (nI ix))] → W p l e R s m args below meth c H locs cells slots Q (F0 m 25 ls []))
    (kk36 : ∀ (H : Heap) (locs : List Loc) (ls : Array Slot), va_P (dC, dI) vwCl [(o0, .inr (3, [.ref h0, .ref t0, .ref w0, .ref s0, .ref k0, .ref p0, .ref f0, .ref f1, .int (nI x.fc), .int (nI x.lc), .int x.bl, .int x.hp])), (t0, .inr (4, [.ref u0, .ref u1, .ref u2, .ref u3, .ref u4, .int (nI d.k), .int (nI d.fo), .int (nI d.lev), .int (nI d.low)])), (u0, .inl (z0, 802, .inl d.tv)), (u1, .inl (z1, 401, .inl d.ov)), (u2, .inl (z2, 401, .inl d.lv)), (u3, .inl (z3, 401, .inl d.rv)), (u4, .inl (z4, 402, .inl d.sv)), (r0, .inl (x8, 20, .inl rw))] H → va_D A [(o0, .inr (3, [.ref h0, .ref t0, .ref w0, .ref s0, .ref k0, .ref p0, .ref f0, .ref f1, .int (nI x.fc), .int (nI x.lc), .int x.bl, .int x.hp])), (t0, .inr (4, [.ref u0, .ref u1, .ref u2, .ref u3, .ref u4, .int (nI d.k), .int (nI d.fo), .int (nI d.lev), .int (nI d.low)])), (u0, .inl (z0, 802, .inl d.tv)), (u1, .inl (z1, 401, .inl d.ov)), (u2, .inl (z2, 401, .inl d.lv)), (u3, .inl (z3, 401, .inl d.rv)), (u4, .inl (z4, 402, .inl d.sv)), (r0, .inl (x8, 20, .inl rw))] → va_S A H0 H locs → lv_has ls 5 [(0, .ref o0), (1, .int (nI v)), (2, .ref r0), (3, .int (nI len))] → W p l e R s m args below meth c H locs cells slots Q (F0 m 36 ls []))
    : ∀ (f : Nat) (ix : Nat) (H : Heap) (locs : List Loc) (ls : Array Slot), len - ix < f → (ix ≤ len) → va_P (dC, dI) vwCl [(o0, .inr (3, [.ref h0, .ref t0, .ref w0, .ref s0, .ref k0, .ref p0, .ref f0, .ref f1, .int (nI x.fc), .int (nI x.lc), .int x.bl, .int x.hp])), (t0, .inr (4, [.ref u0, .ref u1, .ref u2, .ref u3, .ref u4, .int (nI d.k), .int (nI d.fo), .int (nI d.lev), .int (nI d.low)])), (u0, .inl (z0, 802, .inl d.tv)), (u1, .inl (z1, 401, .inl d.ov)), (u2, .inl (z2, 401, .inl d.lv)), (u3, .inl (z3, 401, .inl d.rv)), (u4, .inl (z4, 402, .inl d.sv)), (r0, .inl (x8, 20, .inl rw))] H → va_D A [(o0, .inr (3, [.ref h0, .ref t0, .ref w0, .ref s0, .ref k0, .ref p0, .ref f0, .ref f1, .int (nI x.fc), .int (nI x.lc), .int x.bl, .int x.hp])), (t0, .inr (4, [.ref u0, .ref u1, .ref u2, .ref u3, .ref u4, .int (nI d.k), .int (nI d.fo), .int (nI d.lev), .int (nI d.low)])), (u0, .inl (z0, 802, .inl d.tv)), (u1, .inl (z1, 401, .inl d.ov)), (u2, .inl (z2, 401, .inl d.lv)), (u3, .inl (z3, 401, .inl d.rv)), (u4, .inl (z4, 402, .inl d.sv)), (r0, .inl (x8, 20, .inl rw))] → va_S A H0 H locs → lv_has ls 5 [(0, .ref o0), (1, .int (nI v)), (2, .ref r0), (3, .int (nI len)), (4, .int (nI ix))] → W p l e R s m args below meth c H locs cells slots Q (F0 m 3 ls []) := by
  intro f
  induction f with
  | zero => intro ix H locs ls q0 q2 hP hD hS hl; exact absurd q0 (Nat.not_lt_zero _)
  | succ f ih =>
    intro ix H locs ls q0 q2 hP hD hS hl
    refine lv_iload hx hb d_Sr_codeToTry_3 (lv_at hl 4 rfl) ?_
    refine lv_iload_n hx hb d_Sr_codeToTry_5 rfl (lv_at hl 3 rfl) ?_
    refine lv_icmp_ge (tgt := 36) hx hb d_Sr_codeToTry_6 (by decide) (fun c_6 => ?_) (fun c_6 => ?_)
    · have c_6 : len ≤ ix := (nI_leI (a := len) (b := ix) (by omega) (by omega)).mp c_6
      exact kk36  _ _ ls  hP hD hS (lv_sub hl [0, 1, 2, 3] rfl)
    · have c_6 : ¬ (len ≤ ix) := fun qq9 => c_6 ((nI_leI (a := len) (b := ix) (by omega) (by omega)).mpr qq9)
      have hj1 := hrw ix (by omega)
      refine lv_aload_n hx hb d_Sr_codeToTry_9 rfl (lv_at hl 0 rfl) ?_
      refine va_get (D := (dC, dI)) (ci := 3) (v := .ref t0) (C := R_Sr) (T := F_Sr) (N := 12) hx hb hw in_Sr hown hK hP 0 rfl rfl 1 (by decide) (hw (Cond.fieldLink "ClauseSearch$Search" 15 "ClauseSearch$Search" "trail" "LClauseSearch$Trail;") k_218) (fun _ h9 => h9) rfl d_Sr_codeToTry_10 ?_
      refine va_getN (D := (dC, dI)) (ci := 4) (v := .ref u0) (C := R_Tr) (T := F_Tr) (N := 9) hx hb hw in_Tr hown hK hP 1 rfl rfl 0 (by decide) (hw (Cond.fieldLinkNest "ClauseSearch$Search" 104 "ClauseSearch$Trail" "truth" "[B" "ClauseSearch") k_98) (fun _ h9 => h9) rfl d_Sr_codeToTry_13 ?_
      refine lv_aload_n hx hb d_Sr_codeToTry_16 rfl (lv_at hl 2 rfl) ?_
      refine lv_iload hx hb d_Sr_codeToTry_17 (lv_at hl 4 rfl) ?_
      refine va_iald hx hb hK hP 7 5 rfl rfl (vp_in_nI (by omega) (by omega)) d_Sr_codeToTry_19 ?_
      refine lv_topi (fun y_1 ey_1 => ?_)
      rw [nI_clamp (by omega)] at ey_1
      rw [hj1.1] at ey_1
      subst ey_1
      refine va_bald hx hb hK hP 2 0 rfl rfl (vp_in_nI (by omega) (by omega)) d_Sr_codeToTry_20 ?_
      refine lv_topi (fun y_2 ey_2 => ?_)
      rw [nI_clamp (by omega)] at ey_2
      subst ey_2
      refine lv_iconst (v := 1) hx hb d_Sr_codeToTry_21 (by decide) ?_
      refine lv_icmp_eq (tgt := 30) hx hb d_Sr_codeToTry_22 (by decide) (fun c_22 => ?_) (fun c_22 => ?_)
      · refine lv_iinc (v := nI (ix + 1)) (lv' := [(4, .int (nI (ix + 1))), (0, .ref o0), (1, .int (nI v)), (2, .ref r0), (3, .int (nI len))]) hx hb d_Sr_codeToTry_30 hl (k := 4) rfl (nI_1 ix) (by decide) rfl (fun ls hl => ?_)
        refine lv_goto (tgt := 3) hx hb d_Sr_codeToTry_33 (by decide) ?_
        exact ih (ix + 1) _ _ ls (by omega) (by omega) hP hD hS (lv_sub hl [1, 2, 3, 4, 0] rfl)
      · exact kk25 ix _ _ ls (by omega) c_22 hP hD hS (lv_sub hl [0, 1, 2, 3, 4] rfl)

set_option maxHeartbeats 4000000 in
set_option maxRecDepth 100000 in
/-- codeToTry(variables, assumed, length) -/
theorem c_Sr_codeToTry (l : Launch) (dC : Nat → ClassId) (dI : Nat → Nat → Nat) (o0 : Nat) (p0 : Nat) (f0 : Nat) (f1 : Nat) (h0 : Nat) (t0 : Nat) (w0 : Nat) (s0 : Nat) (k0 : Nat) (u0 : Nat) (u1 : Nat) (u2 : Nat) (u3 : Nat) (u4 : Nat) (r0 : Nat) (x8 : ClassId) (z0 : ClassId) (z1 : ClassId) (z2 : ClassId) (z3 : ClassId) (z4 : ClassId) (sz : Nat) (a : Rx) (w : Wx) (x : Sx) (d : Tx) (v : Nat) (len : Nat) (rw : Nat → Int32) (A9 : Nat → Nat) (hG : Gok a d w) (hv : v ≤ 400) (hlen : len ≤ 20) (hrw : ∀ j, j < len → rw j = nI (A9 j) ∧ 2 ≤ A9 j ∧ A9 j < 802) : Met l y_Sr_codeToTry (wq y_Sr_codeToTry prog_5_method_7_code 5 (some .int)) ({ frames := 1, cells := 0, slots := 0, locals := 21 }) (va_Pc [.ref o0, .int (nI v), .ref r0, .int (nI len)] (fun U => U.heap.size = sz ∧ va_P (dC, dI) vwCl [(o0, .inr (3, [.ref h0, .ref t0, .ref w0, .ref s0, .ref k0, .ref p0, .ref f0, .ref f1, .int (nI x.fc), .int (nI x.lc), .int x.bl, .int x.hp])), (t0, .inr (4, [.ref u0, .ref u1, .ref u2, .ref u3, .ref u4, .int (nI d.k), .int (nI d.fo), .int (nI d.lev), .int (nI d.low)])), (u0, .inl (z0, 802, .inl d.tv)), (u1, .inl (z1, 401, .inl d.ov)), (u2, .inl (z2, 401, .inl d.lv)), (u3, .inl (z3, 401, .inl d.rv)), (u4, .inl (z4, 402, .inl d.sv)), (r0, .inl (x8, 20, .inl rw))] U.heap ∧ va_K (dC, dI) vwCl [(z0, .byte), (z1, .int), (z2, .int), (z3, .int), (z4, .int), (x8, .int)] U ∧ va_D (fun _ => True) [(o0, .inr (3, [.ref h0, .ref t0, .ref w0, .ref s0, .ref k0, .ref p0, .ref f0, .ref f1, .int (nI x.fc), .int (nI x.lc), .int x.bl, .int x.hp])), (t0, .inr (4, [.ref u0, .ref u1, .ref u2, .ref u3, .ref u4, .int (nI d.k), .int (nI d.fo), .int (nI d.lev), .int (nI d.low)])), (u0, .inl (z0, 802, .inl d.tv)), (u1, .inl (z1, 401, .inl d.ov)), (u2, .inl (z2, 401, .inl d.lv)), (u3, .inl (z3, 401, .inl d.rv)), (u4, .inl (z4, 402, .inl d.sv)), (r0, .inl (x8, 20, .inl rw))])) (va_Qi (fun (r : Int32) (r9 : Int32) => r = r9) (fun (r9 : Int32) t => ∃ (lo : Nat), (Gok a (Tlow d lo) w) ∧ (r9 = -1 ∨ ∃ c, r9 = nI c ∧ 2 ≤ c ∧ c < 802 ∧ d.tv c ≠ 1) ∧ va_P (dC, dI) vwCl [(o0, .inr (3, [.ref h0, .ref t0, .ref w0, .ref s0, .ref k0, .ref p0, .ref f0, .ref f1, .int (nI x.fc), .int (nI x.lc), .int x.bl, .int x.hp])), (t0, .inr (4, [.ref u0, .ref u1, .ref u2, .ref u3, .ref u4, .int (nI (Tlow d lo).k), .int (nI (Tlow d lo).fo), .int (nI (Tlow d lo).lev), .int (nI (Tlow d lo).low)])), (u0, .inl (z0, 802, .inl (Tlow d lo).tv)), (u1, .inl (z1, 401, .inl (Tlow d lo).ov)), (u2, .inl (z2, 401, .inl (Tlow d lo).lv)), (u3, .inl (z3, 401, .inl (Tlow d lo).rv)), (u4, .inl (z4, 402, .inl (Tlow d lo).sv)), (r0, .inl (x8, 20, .inl rw))] t.heap ∧ va_K (dC, dI) vwCl [(z0, .byte), (z1, .int), (z2, .int), (z3, .int), (z4, .int), (x8, .int)] t ∧ va_D (va_A [(o0, .inr (3, [.ref h0, .ref t0, .ref w0, .ref s0, .ref k0, .ref p0, .ref f0, .ref f1, .int (nI x.fc), .int (nI x.lc), .int x.bl, .int x.hp])), (t0, .inr (4, [.ref u0, .ref u1, .ref u2, .ref u3, .ref u4, .int (nI d.k), .int (nI d.fo), .int (nI d.lev), .int (nI d.low)])), (u0, .inl (z0, 802, .inl d.tv)), (u1, .inl (z1, 401, .inl d.ov)), (u2, .inl (z2, 401, .inl d.lv)), (u3, .inl (z3, 401, .inl d.rv)), (u4, .inl (z4, 402, .inl d.sv)), (r0, .inl (x8, 20, .inl rw))] sz) [(o0, .inr (3, [.ref h0, .ref t0, .ref w0, .ref s0, .ref k0, .ref p0, .ref f0, .ref f1, .int (nI x.fc), .int (nI x.lc), .int x.bl, .int x.hp])), (t0, .inr (4, [.ref u0, .ref u1, .ref u2, .ref u3, .ref u4, .int (nI (Tlow d lo).k), .int (nI (Tlow d lo).fo), .int (nI (Tlow d lo).lev), .int (nI (Tlow d lo).low)])), (u0, .inl (z0, 802, .inl (Tlow d lo).tv)), (u1, .inl (z1, 401, .inl (Tlow d lo).ov)), (u2, .inl (z2, 401, .inl (Tlow d lo).lv)), (u3, .inl (z3, 401, .inl (Tlow d lo).rv)), (u4, .inl (z4, 402, .inl (Tlow d lo).sv)), (r0, .inl (x8, 20, .inl rw))]) (va_A [(o0, .inr (3, [.ref h0, .ref t0, .ref w0, .ref s0, .ref k0, .ref p0, .ref f0, .ref f1, .int (nI x.fc), .int (nI x.lc), .int x.bl, .int x.hp])), (t0, .inr (4, [.ref u0, .ref u1, .ref u2, .ref u3, .ref u4, .int (nI d.k), .int (nI d.fo), .int (nI d.lev), .int (nI d.low)])), (u0, .inl (z0, 802, .inl d.tv)), (u1, .inl (z1, 401, .inl d.ov)), (u2, .inl (z2, 401, .inl d.lv)), (u3, .inl (z3, 401, .inl d.rv)), (u4, .inl (z4, 402, .inl d.sv)), (r0, .inl (x8, 20, .inl rw))] sz)) (0) (0) (va_A [(o0, .inr (3, [.ref h0, .ref t0, .ref w0, .ref s0, .ref k0, .ref p0, .ref f0, .ref f1, .int (nI x.fc), .int (nI x.lc), .int x.bl, .int x.hp])), (t0, .inr (4, [.ref u0, .ref u1, .ref u2, .ref u3, .ref u4, .int (nI d.k), .int (nI d.fo), .int (nI d.lev), .int (nI d.low)])), (u0, .inl (z0, 802, .inl d.tv)), (u1, .inl (z1, 401, .inl d.ov)), (u2, .inl (z2, 401, .inl d.lv)), (u3, .inl (z3, 401, .inl d.rv)), (u4, .inl (z4, 402, .inl d.sv)), (r0, .inl (x8, 20, .inl rw))] sz) := by
  refine Met.ofW (cc := prog_5_method_7_code) (maxL := 5) (ret := (some .int)) (by decide) rfl ?_
  intro p e s m args below meth c s₁ B hml hv
  obtain ⟨rfl, hsz, hP, hK, hD0⟩ := hv
  have hx := B.exec
  have hb := B.bytes
  have hr := B.returns
  have hw : ∀ w ∈ bg_W, w.before #[Value.ref o0, Value.int (nI v), Value.ref r0, Value.int (nI len)] s = true := fun w h => atoms_spec (ws := (wq y_Sr_codeToTry prog_5_method_7_code 5 (some .int))) B.pre w (List.mem_cons_of_mem _ h)
  have hown : s.vm.findClass R_Sr = some m.cls := findClass_of_methodNamed B.named
  have hlocks := B.notSynchronized
  subst hsz
  have hD := hD0.self (sz := s.heap.size)
  generalize hAe : va_A [(o0, .inr (3, [.ref h0, .ref t0, .ref w0, .ref s0, .ref k0, .ref p0, .ref f0, .ref f1, .int (nI x.fc), .int (nI x.lc), .int x.bl, .int x.hp])), (t0, .inr (4, [.ref u0, .ref u1, .ref u2, .ref u3, .ref u4, .int (nI d.k), .int (nI d.fo), .int (nI d.lev), .int (nI d.low)])), (u0, .inl (z0, 802, .inl d.tv)), (u1, .inl (z1, 401, .inl d.ov)), (u2, .inl (z2, 401, .inl d.lv)), (u3, .inl (z3, 401, .inl d.rv)), (u4, .inl (z4, 402, .inl d.sv)), (r0, .inl (x8, 20, .inl rw))] s.heap.size = A at hD ⊢
  have hA : ∀ q : Nat, s.heap.size ≤ q → A q := fun q h => by rw [← hAe]; exact Or.inr h
  have hS : va_S A s.heap s.heap [] := va_S.rf
  have hP : va_P (dC, dI) vwCl [(o0, .inr (3, [.ref h0, .ref t0, .ref w0, .ref s0, .ref k0, .ref p0, .ref f0, .ref f1, .int (nI x.fc), .int (nI x.lc), .int x.bl, .int x.hp])), (t0, .inr (4, [.ref u0, .ref u1, .ref u2, .ref u3, .ref u4, .int (nI d.k), .int (nI d.fo), .int (nI d.lev), .int (nI d.low)])), (u0, .inl (z0, 802, .inl d.tv)), (u1, .inl (z1, 401, .inl d.ov)), (u2, .inl (z2, 401, .inl d.lv)), (u3, .inl (z3, 401, .inl d.rv)), (u4, .inl (z4, 402, .inl d.sv)), (r0, .inl (x8, 20, .inl rw))] s.heap := hP
  have hl := lv_entry ([.ref o0, .int (nI v), .ref r0, .int (nI len)]) (n := 5) (Nat.le_of_ble_eq_true rfl)
  rw [lg_entry_eq]
  generalize (lg_sl ([.ref o0, .int (nI v), .ref r0, .int (nI len)]) ++ List.replicate (5 - (lg_sl ([.ref o0, .int (nI v), .ref r0, .int (nI len)])).length) Slot.unset).toArray = ls at hl ⊢
  have hl : lv_has ls 5 [(0, .ref o0), (1, .int (nI v)), (2, .ref r0), (3, .int (nI len))] := hl
  obtain ⟨H, hH⟩ : ∃ H : Heap, H = s.heap := ⟨_, rfl⟩
  rw [← hH] at hP
  have hS : va_S A s.heap H [] := by rw [hH]; exact va_S.rf
  show W p l e _ s m _ below meth c s.heap [] 0 0 _ _
  rw [← hH]
  refine lv_iconst (v := nI 0) hx hb d_Sr_codeToTry_0 (by decide) ?_
  refine lv_istore (lv' := [(4, .int (nI 0)), (0, .ref o0), (1, .int (nI v)), (2, .ref r0), (3, .int (nI len))]) hx hb d_Sr_codeToTry_1 hl (by decide) rfl (fun ls hl => ?_)
  refine l_assumed (a := a) (w := w) (x := x) (d := d) (v := v) (len := len) (rw := rw) (A9 := A9) hx hb hml hw hown (hK.sub (tys' := [(z0, .byte), (z1, .int), (z2, .int), (z3, .int), (z4, .int), (x8, .int)]) [0, 1, 2, 3, 4, 5] rfl) hA (Nat.le_of_ble_eq_true rfl) (Nat.le_of_ble_eq_true rfl) (Nat.le_of_ble_eq_true rfl) (Nat.le_of_ble_eq_true rfl) hG hv hlen hrw (fun n_1 H1 locs ls f_2 f_3 hP1 hD1 hS hl => ?_) (fun  H1 locs ls  hP1 hD1 hS hl => ?_) (_) 0 _ _ ls (Nat.lt_succ_self _) (Nat.zero_le _) (hP.sub (ws' := [(o0, .inr (3, [.ref h0, .ref t0, .ref w0, .ref s0, .ref k0, .ref p0, .ref f0, .ref f1, .int (nI x.fc), .int (nI x.lc), .int x.bl, .int x.hp])), (t0, .inr (4, [.ref u0, .ref u1, .ref u2, .ref u3, .ref u4, .int (nI d.k), .int (nI d.fo), .int (nI d.lev), .int (nI d.low)])), (u0, .inl (z0, 802, .inl d.tv)), (u1, .inl (z1, 401, .inl d.ov)), (u2, .inl (z2, 401, .inl d.lv)), (u3, .inl (z3, 401, .inl d.rv)), (u4, .inl (z4, 402, .inl d.sv)), (r0, .inl (x8, 20, .inl rw))]) [0, 1, 2, 3, 4, 5, 6, 7] rfl) (hD.sub (ws' := [(o0, .inr (3, [.ref h0, .ref t0, .ref w0, .ref s0, .ref k0, .ref p0, .ref f0, .ref f1, .int (nI x.fc), .int (nI x.lc), .int x.bl, .int x.hp])), (t0, .inr (4, [.ref u0, .ref u1, .ref u2, .ref u3, .ref u4, .int (nI d.k), .int (nI d.fo), .int (nI d.lev), .int (nI d.low)])), (u0, .inl (z0, 802, .inl d.tv)), (u1, .inl (z1, 401, .inl d.ov)), (u2, .inl (z2, 401, .inl d.lv)), (u3, .inl (z3, 401, .inl d.rv)), (u4, .inl (z4, 402, .inl d.sv)), (r0, .inl (x8, 20, .inl rw))]) [0, 1, 2, 3, 4, 5, 6, 7] (by decide) rfl) hS (lv_sub hl [1, 2, 3, 4, 0] rfl)
  · have hP := hP1
    have hD := hD1
    generalize H1 = H at hP hS ⊢
    have hP : va_P (dC, dI) vwCl [(o0, .inr (3, [.ref h0, .ref t0, .ref w0, .ref s0, .ref k0, .ref p0, .ref f0, .ref f1, .int (nI x.fc), .int (nI x.lc), .int x.bl, .int x.hp])), (t0, .inr (4, [.ref u0, .ref u1, .ref u2, .ref u3, .ref u4, .int (nI d.k), .int (nI d.fo), .int (nI d.lev), .int (nI d.low)])), (u0, .inl (z0, 802, .inl d.tv)), (u1, .inl (z1, 401, .inl d.ov)), (u2, .inl (z2, 401, .inl d.lv)), (u3, .inl (z3, 401, .inl d.rv)), (u4, .inl (z4, 402, .inl d.sv)), (r0, .inl (x8, 20, .inl rw))] H := hP
    have hD : va_D A [(o0, .inr (3, [.ref h0, .ref t0, .ref w0, .ref s0, .ref k0, .ref p0, .ref f0, .ref f1, .int (nI x.fc), .int (nI x.lc), .int x.bl, .int x.hp])), (t0, .inr (4, [.ref u0, .ref u1, .ref u2, .ref u3, .ref u4, .int (nI d.k), .int (nI d.fo), .int (nI d.lev), .int (nI d.low)])), (u0, .inl (z0, 802, .inl d.tv)), (u1, .inl (z1, 401, .inl d.ov)), (u2, .inl (z2, 401, .inl d.lv)), (u3, .inl (z3, 401, .inl d.rv)), (u4, .inl (z4, 402, .inl d.sv)), (r0, .inl (x8, 20, .inl rw))] := hD
    have hj1 := hrw n_1 f_2
    refine lv_aload_n hx hb d_Sr_codeToTry_25 rfl (lv_at hl 2 rfl) ?_
    refine lv_iload hx hb d_Sr_codeToTry_26 (lv_at hl 4 rfl) ?_
    refine va_iald hx hb hK hP 7 5 rfl rfl (vp_in_nI (by omega) (by omega)) d_Sr_codeToTry_28 ?_
    refine lv_topi (fun y_4 ey_4 => ?_)
    rw [nI_clamp (by omega)] at ey_4
    rw [hj1.1] at ey_4
    subst ey_4
    have hP := hP.sub (ws' := [(o0, .inr (3, [.ref h0, .ref t0, .ref w0, .ref s0, .ref k0, .ref p0, .ref f0, .ref f1, .int (nI x.fc), .int (nI x.lc), .int x.bl, .int x.hp])), (t0, .inr (4, [.ref u0, .ref u1, .ref u2, .ref u3, .ref u4, .int (nI (Tlow d d.low).k), .int (nI (Tlow d d.low).fo), .int (nI (Tlow d d.low).lev), .int (nI (Tlow d d.low).low)])), (u0, .inl (z0, 802, .inl (Tlow d d.low).tv)), (u1, .inl (z1, 401, .inl (Tlow d d.low).ov)), (u2, .inl (z2, 401, .inl (Tlow d d.low).lv)), (u3, .inl (z3, 401, .inl (Tlow d d.low).rv)), (u4, .inl (z4, 402, .inl (Tlow d d.low).sv)), (r0, .inl (x8, 20, .inl rw))]) [0, 1, 2, 3, 4, 5, 6, 7] rfl
    have hD := hD.sub (ws' := [(o0, .inr (3, [.ref h0, .ref t0, .ref w0, .ref s0, .ref k0, .ref p0, .ref f0, .ref f1, .int (nI x.fc), .int (nI x.lc), .int x.bl, .int x.hp])), (t0, .inr (4, [.ref u0, .ref u1, .ref u2, .ref u3, .ref u4, .int (nI (Tlow d d.low).k), .int (nI (Tlow d d.low).fo), .int (nI (Tlow d d.low).lev), .int (nI (Tlow d d.low).low)])), (u0, .inl (z0, 802, .inl (Tlow d d.low).tv)), (u1, .inl (z1, 401, .inl (Tlow d d.low).ov)), (u2, .inl (z2, 401, .inl (Tlow d d.low).lv)), (u3, .inl (z3, 401, .inl (Tlow d d.low).rv)), (u4, .inl (z4, 402, .inl (Tlow d d.low).sv)), (r0, .inl (x8, 20, .inl rw))]) [0, 1, 2, 3, 4, 5, 6, 7] (by decide) rfl
    have hK := hK.sub (tys' := [(z0, .byte), (z1, .int), (z2, .int), (z3, .int), (z4, .int), (x8, .int)]) [0, 1, 2, 3, 4, 5] rfl
    refine W.widen (k := 0) (n := 0) (by decide) (by decide) ?_
    exact W.iret (v := nI (A9 n_1)) hx hb hr (fun t ht hW => ⟨⟨nI (A9 n_1), nI (A9 n_1), rfl, rfl, d.low, (hG.low hG.L.lw), (Or.inr ⟨_, rfl, hj1.2.1, hj1.2.2, f_3⟩), by rw [ht]; exact hP, va_K.moved hW.alike hK, hD⟩, hS.F ht⟩) hS.2.2 d_Sr_codeToTry_29
  · have hP := hP1
    have hD := hD1
    generalize H1 = H at hP hS ⊢
    have hP : va_P (dC, dI) vwCl [(o0, .inr (3, [.ref h0, .ref t0, .ref w0, .ref s0, .ref k0, .ref p0, .ref f0, .ref f1, .int (nI x.fc), .int (nI x.lc), .int x.bl, .int x.hp])), (t0, .inr (4, [.ref u0, .ref u1, .ref u2, .ref u3, .ref u4, .int (nI d.k), .int (nI d.fo), .int (nI d.lev), .int (nI d.low)])), (u0, .inl (z0, 802, .inl d.tv)), (u1, .inl (z1, 401, .inl d.ov)), (u2, .inl (z2, 401, .inl d.lv)), (u3, .inl (z3, 401, .inl d.rv)), (u4, .inl (z4, 402, .inl d.sv)), (r0, .inl (x8, 20, .inl rw))] H := hP
    have hD : va_D A [(o0, .inr (3, [.ref h0, .ref t0, .ref w0, .ref s0, .ref k0, .ref p0, .ref f0, .ref f1, .int (nI x.fc), .int (nI x.lc), .int x.bl, .int x.hp])), (t0, .inr (4, [.ref u0, .ref u1, .ref u2, .ref u3, .ref u4, .int (nI d.k), .int (nI d.fo), .int (nI d.lev), .int (nI d.low)])), (u0, .inl (z0, 802, .inl d.tv)), (u1, .inl (z1, 401, .inl d.ov)), (u2, .inl (z2, 401, .inl d.lv)), (u3, .inl (z3, 401, .inl d.rv)), (u4, .inl (z4, 402, .inl d.sv)), (r0, .inl (x8, 20, .inl rw))] := hD
    refine lv_aload_n hx hb d_Sr_codeToTry_36 rfl (lv_at hl 0 rfl) ?_
    refine va_get (D := (dC, dI)) (ci := 3) (v := .ref t0) (C := R_Sr) (T := F_Sr) (N := 12) hx hb hw in_Sr hown hK hP 0 rfl rfl 1 (by decide) (hw (Cond.fieldLink "ClauseSearch$Search" 15 "ClauseSearch$Search" "trail" "LClauseSearch$Trail;") k_218) (fun _ h9 => h9) rfl d_Sr_codeToTry_37 ?_
    refine lv_iload_n hx hb d_Sr_codeToTry_40 rfl (lv_at hl 1 rfl) ?_
    have hPc := hP.sub (ws' := [(t0, .inr (4, [.ref u0, .ref u1, .ref u2, .ref u3, .ref u4, .int (nI d.k), .int (nI d.fo), .int (nI d.lev), .int (nI d.low)])), (u0, .inl (z0, 802, .inl d.tv))]) [1, 2] rfl
    have hDc := hD.sub (ws' := [(t0, .inr (4, [.ref u0, .ref u1, .ref u2, .ref u3, .ref u4, .int (nI d.k), .int (nI d.fo), .int (nI d.lev), .int (nI d.low)])), (u0, .inl (z0, 802, .inl d.tv))]) [1, 2] (by decide) rfl
    have hKc := hK.sub (tys' := [(z0, .byte)]) [0] rfl
    have hFc := va_free (wc := [(t0, .inr (4, [.ref u0, .ref u1, .ref u2, .ref u3, .ref u4, .int (nI d.k), .int (nI d.fo), .int (nI d.lev), .int (nI d.low)])), (u0, .inl (z0, 802, .inl d.tv))]) hD hS hA [1, 2] rfl
    refine va_calli (va_runV (As := [.int (nI v)]) (rest := []) ⟨hx, hb, hml, hown, hw⟩ (c_Tr_lowest l dC dI t0 u0 u1 u2 u3 u4 z0 H.size d.k d.fo d.lev d.low d.tv v hv hG.L.lw.2) (cb_V (C := R_Tr) 1 hw k_419 k_32 k_416 k_417 k_418 rfl rfl (by decide +kernel) ⟨Nat.le_of_ble_eq_true rfl, Nat.le_of_ble_eq_true rfl⟩) ⟨fun a U g mk q => by obtain ⟨q0, q1, qP, qK, qD⟩ := q; exact ⟨q0, q1, qP, va_K.moved (u := U) (U := U.calling g mk a) (Vm.Alike.refl U.vm) qK, qD⟩, va_recv hKc hPc (ci := 4) (q0 := 0) rfl rfl, fun U hU hW => ⟨rfl, by rw [hU], by rw [hU]; exact hPc, va_K.moved hW.alike hKc, hDc.weaken (fun _ _ _ _ => trivial)⟩⟩ rfl rfl hl.1 rfl (lv_room (Nat.le_of_ble_eq_true rfl)) d_Sr_codeToTry_41 ⟨Nat.le_of_ble_eq_true rfl, Nat.le_of_ble_eq_true rfl⟩) hS (fun q _ h => hFc q h) hFc (fun r_5 u t H1 locs ht hvm hw9 hB hz1 hk1 hS => ?_)
    obtain ⟨n_6, er9, f_7, hP1, hK1, hD1⟩ := hB
    rw [ht] at hP1
    have hK1 := va_K.moved hvm.symm hK1
    obtain ⟨hP, hD⟩ := va_join (wr := [(o0, .inr (3, [.ref h0, .ref t0, .ref w0, .ref s0, .ref k0, .ref p0, .ref f0, .ref f1, .int (nI x.fc), .int (nI x.lc), .int x.bl, .int x.hp])), (u1, .inl (z1, 401, .inl d.ov)), (u2, .inl (z2, 401, .inl d.lv)), (u3, .inl (z3, 401, .inl d.rv)), (u4, .inl (z4, 402, .inl d.sv)), (r0, .inl (x8, 20, .inl rw))]) (w1 := [(t0, .inr (4, [.ref u0, .ref u1, .ref u2, .ref u3, .ref u4, .int (nI d.k), .int (nI d.fo), .int (nI d.lev), .int (nI n_6)])), (u0, .inl (z0, 802, .inl d.tv))]) hP hD [1, 2] [0, 3, 4, 5, 6, 7] rfl rfl (by decide) (by decide) hk1 hFc hP1 hD1
    generalize H1 = H at hP hS ⊢
    have hP : va_P (dC, dI) vwCl [(o0, .inr (3, [.ref h0, .ref t0, .ref w0, .ref s0, .ref k0, .ref p0, .ref f0, .ref f1, .int (nI x.fc), .int (nI x.lc), .int x.bl, .int x.hp])), (u1, .inl (z1, 401, .inl d.ov)), (u2, .inl (z2, 401, .inl d.lv)), (u3, .inl (z3, 401, .inl d.rv)), (u4, .inl (z4, 402, .inl d.sv)), (r0, .inl (x8, 20, .inl rw)), (t0, .inr (4, [.ref u0, .ref u1, .ref u2, .ref u3, .ref u4, .int (nI d.k), .int (nI d.fo), .int (nI d.lev), .int (nI n_6)])), (u0, .inl (z0, 802, .inl d.tv))] H := hP
    have hD : va_D A [(o0, .inr (3, [.ref h0, .ref t0, .ref w0, .ref s0, .ref k0, .ref p0, .ref f0, .ref f1, .int (nI x.fc), .int (nI x.lc), .int x.bl, .int x.hp])), (u1, .inl (z1, 401, .inl d.ov)), (u2, .inl (z2, 401, .inl d.lv)), (u3, .inl (z3, 401, .inl d.rv)), (u4, .inl (z4, 402, .inl d.sv)), (r0, .inl (x8, 20, .inl rw)), (t0, .inr (4, [.ref u0, .ref u1, .ref u2, .ref u3, .ref u4, .int (nI d.k), .int (nI d.fo), .int (nI d.lev), .int (nI n_6)])), (u0, .inl (z0, 802, .inl d.tv))] := hD
    refine W.widen (k := 0) (n := 0) (by decide) (by decide) ?_
    have hw9 : r_5 = nI n_6 := hw9.trans er9
    subst hw9
    have hlw := hG.L.lw
    obtain ⟨b1, b2, b3⟩ := f_7
    refine lv_istore (lv' := [(4, .int (nI n_6)), (0, .ref o0), (1, .int (nI v)), (2, .ref r0), (3, .int (nI len))]) hx hb d_Sr_codeToTry_44 hl (by decide) rfl (fun ls hl => ?_)
    refine lv_iload hx hb d_Sr_codeToTry_46 (lv_at hl 0 rfl) ?_
    refine lv_iload_n hx hb d_Sr_codeToTry_48 rfl (lv_at hl 2 rfl) ?_
    refine lv_icmp_le (tgt := 56) hx hb d_Sr_codeToTry_49 (by decide) (fun c_49 => ?_) (fun c_49 => ?_)
    · have c_49 : n_6 ≤ v := (nI_leI (a := n_6) (b := v) (by omega) (by omega)).mp c_49
      refine lv_iconst (v := nI 2) hx hb d_Sr_codeToTry_56 (by decide) ?_
      refine lv_iload hx hb d_Sr_codeToTry_57 (lv_at hl 0 rfl) ?_
      refine lv_imul hx hb d_Sr_codeToTry_59 ?_
      refine lv_topi (fun y_8 ey_8 => ?_)
      obtain rfl : y_8 = nI (2 * n_6) := ey_8.trans (pk_mul 2 n_6)
      refine lv_iconst (v := nI 1) hx hb d_Sr_codeToTry_60 (by decide) ?_
      refine lv_iadd hx hb d_Sr_codeToTry_61 ?_
      refine lv_topi (fun y_9 ey_9 => ?_)
      obtain rfl : y_9 = nI (2 * n_6 + 1) := ey_9.trans (nI_add (2 * n_6) 1)
      have hP := hP.sub (ws' := [(o0, .inr (3, [.ref h0, .ref t0, .ref w0, .ref s0, .ref k0, .ref p0, .ref f0, .ref f1, .int (nI x.fc), .int (nI x.lc), .int x.bl, .int x.hp])), (t0, .inr (4, [.ref u0, .ref u1, .ref u2, .ref u3, .ref u4, .int (nI (Tlow d n_6).k), .int (nI (Tlow d n_6).fo), .int (nI (Tlow d n_6).lev), .int (nI (Tlow d n_6).low)])), (u0, .inl (z0, 802, .inl (Tlow d n_6).tv)), (u1, .inl (z1, 401, .inl (Tlow d n_6).ov)), (u2, .inl (z2, 401, .inl (Tlow d n_6).lv)), (u3, .inl (z3, 401, .inl (Tlow d n_6).rv)), (u4, .inl (z4, 402, .inl (Tlow d n_6).sv)), (r0, .inl (x8, 20, .inl rw))]) [0, 6, 7, 1, 2, 3, 4, 5] rfl
      have hD := hD.sub (ws' := [(o0, .inr (3, [.ref h0, .ref t0, .ref w0, .ref s0, .ref k0, .ref p0, .ref f0, .ref f1, .int (nI x.fc), .int (nI x.lc), .int x.bl, .int x.hp])), (t0, .inr (4, [.ref u0, .ref u1, .ref u2, .ref u3, .ref u4, .int (nI (Tlow d n_6).k), .int (nI (Tlow d n_6).fo), .int (nI (Tlow d n_6).lev), .int (nI (Tlow d n_6).low)])), (u0, .inl (z0, 802, .inl (Tlow d n_6).tv)), (u1, .inl (z1, 401, .inl (Tlow d n_6).ov)), (u2, .inl (z2, 401, .inl (Tlow d n_6).lv)), (u3, .inl (z3, 401, .inl (Tlow d n_6).rv)), (u4, .inl (z4, 402, .inl (Tlow d n_6).sv)), (r0, .inl (x8, 20, .inl rw))]) [0, 6, 7, 1, 2, 3, 4, 5] (by decide) rfl
      have hK := hK.sub (tys' := [(z0, .byte), (z1, .int), (z2, .int), (z3, .int), (z4, .int), (x8, .int)]) [0, 1, 2, 3, 4, 5] rfl
      refine W.widen (k := 0) (n := 0) (by decide) (by decide) ?_
      exact W.iret (v := nI (2 * n_6 + 1)) hx hb hr (fun t ht hW => ⟨⟨nI (2 * n_6 + 1), nI (2 * n_6 + 1), rfl, rfl, n_6, (hG.low ⟨by omega, by omega⟩), (Or.inr ⟨_, rfl, by omega, by omega, hG.T.odd (by omega) (by omega) (b3 c_49)⟩), by rw [ht]; exact hP, va_K.moved hW.alike hK, hD⟩, hS.F ht⟩) hS.2.2 d_Sr_codeToTry_62
    · have c_49 : ¬ (n_6 ≤ v) := fun qq9 => c_49 ((nI_leI (a := n_6) (b := v) (by omega) (by omega)).mpr qq9)
      refine lv_iconst (v := (-1)) hx hb d_Sr_codeToTry_52 (by decide) ?_
      refine lv_goto (tgt := 62) hx hb d_Sr_codeToTry_53 (by decide) ?_
      have hP := hP.sub (ws' := [(o0, .inr (3, [.ref h0, .ref t0, .ref w0, .ref s0, .ref k0, .ref p0, .ref f0, .ref f1, .int (nI x.fc), .int (nI x.lc), .int x.bl, .int x.hp])), (t0, .inr (4, [.ref u0, .ref u1, .ref u2, .ref u3, .ref u4, .int (nI (Tlow d n_6).k), .int (nI (Tlow d n_6).fo), .int (nI (Tlow d n_6).lev), .int (nI (Tlow d n_6).low)])), (u0, .inl (z0, 802, .inl (Tlow d n_6).tv)), (u1, .inl (z1, 401, .inl (Tlow d n_6).ov)), (u2, .inl (z2, 401, .inl (Tlow d n_6).lv)), (u3, .inl (z3, 401, .inl (Tlow d n_6).rv)), (u4, .inl (z4, 402, .inl (Tlow d n_6).sv)), (r0, .inl (x8, 20, .inl rw))]) [0, 6, 7, 1, 2, 3, 4, 5] rfl
      have hD := hD.sub (ws' := [(o0, .inr (3, [.ref h0, .ref t0, .ref w0, .ref s0, .ref k0, .ref p0, .ref f0, .ref f1, .int (nI x.fc), .int (nI x.lc), .int x.bl, .int x.hp])), (t0, .inr (4, [.ref u0, .ref u1, .ref u2, .ref u3, .ref u4, .int (nI (Tlow d n_6).k), .int (nI (Tlow d n_6).fo), .int (nI (Tlow d n_6).lev), .int (nI (Tlow d n_6).low)])), (u0, .inl (z0, 802, .inl (Tlow d n_6).tv)), (u1, .inl (z1, 401, .inl (Tlow d n_6).ov)), (u2, .inl (z2, 401, .inl (Tlow d n_6).lv)), (u3, .inl (z3, 401, .inl (Tlow d n_6).rv)), (u4, .inl (z4, 402, .inl (Tlow d n_6).sv)), (r0, .inl (x8, 20, .inl rw))]) [0, 6, 7, 1, 2, 3, 4, 5] (by decide) rfl
      have hK := hK.sub (tys' := [(z0, .byte), (z1, .int), (z2, .int), (z3, .int), (z4, .int), (x8, .int)]) [0, 1, 2, 3, 4, 5] rfl
      refine W.widen (k := 0) (n := 0) (by decide) (by decide) ?_
      exact W.iret (v := (-1)) hx hb hr (fun t ht hW => ⟨⟨(-1), (-1), rfl, rfl, n_6, (hG.low ⟨by omega, by omega⟩), (Or.inl rfl), by rw [ht]; exact hP, va_K.moved hW.alike hK, hD⟩, hS.F ht⟩) hS.2.2 d_Sr_codeToTry_62
