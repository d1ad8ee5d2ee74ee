abbrev y_Md_value : MethodName := ⟨"ClauseSearchModel", "value", "(I)Z"⟩
abbrev y_Md_count : MethodName := ⟨"ClauseSearchModel", "count", "(I)I"⟩
theorem d_Md_clause_47 : decode prog_9_method_6_code 47 = .ok (.iload_n 1, 1) := by decide +kernel
theorem d_Md_clause_48 : decode prog_9_method_6_code 48 = .ok (.aload_n 0, 1) := by decide +kernel
theorem d_Md_clause_49 : decode prog_9_method_6_code 49 = .ok (.getfield 50, 3) := by decide +kernel
theorem d_Md_clause_52 : decode prog_9_method_6_code 52 = .ok (.if_icmp .ge 31, 3) := by decide +kernel
theorem d_Md_clause_55 : decode prog_9_method_6_code 55 = .ok (.aload_n 0, 1) := by decide +kernel
theorem d_Md_clause_56 : decode prog_9_method_6_code 56 = .ok (.getfield 8, 3) := by decide +kernel
theorem d_Md_clause_59 : decode prog_9_method_6_code 59 = .ok (.aload_n 0, 1) := by decide +kernel
theorem d_Md_clause_60 : decode prog_9_method_6_code 60 = .ok (.getfield 14, 3) := by decide +kernel
theorem d_Md_clause_63 : decode prog_9_method_6_code 63 = .ok (.aload_n 0, 1) := by decide +kernel
theorem d_Md_clause_64 : decode prog_9_method_6_code 64 = .ok (.getfield 53, 3) := by decide +kernel
theorem d_Md_clause_67 : decode prog_9_method_6_code 67 = .ok (.iaload, 1) := by decide +kernel
theorem d_Md_clause_68 : decode prog_9_method_6_code 68 = .ok (.iload_n 1, 1) := by decide +kernel
theorem d_Md_clause_69 : decode prog_9_method_6_code 69 = .ok (.iadd, 1) := by decide +kernel
theorem d_Md_clause_70 : decode prog_9_method_6_code 70 = .ok (.aload_n 0, 1) := by decide +kernel
theorem d_Md_clause_71 : decode prog_9_method_6_code 71 = .ok (.getfield 17, 3) := by decide +kernel
theorem d_Md_clause_74 : decode prog_9_method_6_code 74 = .ok (.iload_n 1, 1) := by decide +kernel
theorem d_Md_clause_75 : decode prog_9_method_6_code 75 = .ok (.iaload, 1) := by decide +kernel
theorem d_Md_clause_76 : decode prog_9_method_6_code 76 = .ok (.iastore, 1) := by decide +kernel
theorem d_Md_clause_77 : decode prog_9_method_6_code 77 = .ok (.iinc 1 1, 3) := by decide +kernel
theorem d_Md_clause_80 : decode prog_9_method_6_code 80 = .ok (.goto (-33), 3) := by decide +kernel
theorem d_Md_clause_8 : decode prog_9_method_6_code 8 = .ok (.iconst 1, 1) := by decide +kernel
theorem d_Md_clause_9 : decode prog_9_method_6_code 9 = .ok (.goto 4, 3) := by decide +kernel
theorem d_Md_clause_20 : decode prog_9_method_6_code 20 = .ok (.aload_n 0, 1) := by decide +kernel
theorem d_Md_clause_21 : decode prog_9_method_6_code 21 = .ok (.aload_n 0, 1) := by decide +kernel
theorem d_Md_clause_22 : decode prog_9_method_6_code 22 = .ok (.getfield 53, 3) := by decide +kernel
theorem d_Md_clause_25 : decode prog_9_method_6_code 25 = .ok (.sipush 4000, 3) := by decide +kernel
theorem d_Md_clause_28 : decode prog_9_method_6_code 28 = .ok (.if_icmp .ge 7, 3) := by decide +kernel
theorem d_Md_clause_31 : decode prog_9_method_6_code 31 = .ok (.iconst 1, 1) := by decide +kernel
theorem d_Md_clause_32 : decode prog_9_method_6_code 32 = .ok (.goto 4, 3) := by decide +kernel
theorem d_Md_clause_36 : decode prog_9_method_6_code 36 = .ok (.iconst 2, 1) := by decide +kernel
theorem d_Md_clause_37 : decode prog_9_method_6_code 37 = .ok (.invokevirtual 39, 3) := by decide +kernel
theorem d_Md_clause_40 : decode prog_9_method_6_code 40 = .ok (.ifCond .ne 5, 3) := by decide +kernel
theorem d_Md_clause_45 : decode prog_9_method_6_code 45 = .ok (.iconst 0, 1) := by decide +kernel
theorem d_Md_clause_46 : decode prog_9_method_6_code 46 = .ok (.istore_n 1, 1) := by decide +kernel
theorem d_Md_clause_83 : decode prog_9_method_6_code 83 = .ok (.aload_n 0, 1) := by decide +kernel
theorem d_Md_clause_84 : decode prog_9_method_6_code 84 = .ok (.dup, 1) := by decide +kernel
theorem d_Md_clause_85 : decode prog_9_method_6_code 85 = .ok (.getfield 53, 3) := by decide +kernel
theorem d_Md_clause_88 : decode prog_9_method_6_code 88 = .ok (.iconst 1, 1) := by decide +kernel
theorem d_Md_clause_89 : decode prog_9_method_6_code 89 = .ok (.iadd, 1) := by decide +kernel
theorem d_Md_clause_90 : decode prog_9_method_6_code 90 = .ok (.putfield 53, 3) := by decide +kernel
theorem d_Md_clause_93 : decode prog_9_method_6_code 93 = .ok (.aload_n 0, 1) := by decide +kernel
theorem d_Md_clause_94 : decode prog_9_method_6_code 94 = .ok (.getfield 14, 3) := by decide +kernel
theorem d_Md_clause_97 : decode prog_9_method_6_code 97 = .ok (.aload_n 0, 1) := by decide +kernel
theorem d_Md_clause_98 : decode prog_9_method_6_code 98 = .ok (.getfield 53, 3) := by decide +kernel
theorem d_Md_clause_101 : decode prog_9_method_6_code 101 = .ok (.aload_n 0, 1) := by decide +kernel
theorem d_Md_clause_102 : decode prog_9_method_6_code 102 = .ok (.getfield 14, 3) := by decide +kernel
theorem d_Md_clause_105 : decode prog_9_method_6_code 105 = .ok (.aload_n 0, 1) := by decide +kernel
theorem d_Md_clause_106 : decode prog_9_method_6_code 106 = .ok (.getfield 53, 3) := by decide +kernel
theorem d_Md_clause_109 : decode prog_9_method_6_code 109 = .ok (.iconst 1, 1) := by decide +kernel
theorem d_Md_clause_110 : decode prog_9_method_6_code 110 = .ok (.isub, 1) := by decide +kernel
theorem d_Md_clause_111 : decode prog_9_method_6_code 111 = .ok (.iaload, 1) := by decide +kernel
theorem d_Md_clause_112 : decode prog_9_method_6_code 112 = .ok (.aload_n 0, 1) := by decide +kernel
theorem d_Md_clause_113 : decode prog_9_method_6_code 113 = .ok (.getfield 50, 3) := by decide +kernel
theorem d_Md_clause_116 : decode prog_9_method_6_code 116 = .ok (.iadd, 1) := by decide +kernel
theorem d_Md_clause_117 : decode prog_9_method_6_code 117 = .ok (.iastore, 1) := by decide +kernel
theorem d_Md_clause_118 : decode prog_9_method_6_code 118 = .ok (.aload_n 0, 1) := by decide +kernel
theorem d_Md_clause_119 : decode prog_9_method_6_code 119 = .ok (.iconst 0, 1) := by decide +kernel
theorem d_Md_clause_120 : decode prog_9_method_6_code 120 = .ok (.putfield 50, 3) := by decide +kernel
theorem d_Md_clause_123 : decode prog_9_method_6_code 123 = .ok (.aload_n 0, 1) := by decide +kernel
theorem d_Md_clause_124 : decode prog_9_method_6_code 124 = .ok (.iconst 0, 1) := by decide +kernel
theorem d_Md_clause_125 : decode prog_9_method_6_code 125 = .ok (.putfield 46, 3) := by decide +kernel
theorem d_Md_clause_128 : decode prog_9_method_6_code 128 = .ok (.aload_n 0, 1) := by decide +kernel
theorem d_Md_clause_129 : decode prog_9_method_6_code 129 = .ok (.getfield 53, 3) := by decide +kernel
theorem d_Md_clause_132 : decode prog_9_method_6_code 132 = .ok (.ireturn, 1) := by decide +kernel
theorem d_Md_value_0 : decode prog_9_method_14_code 0 = .ok (.aload_n 0, 1) := by decide +kernel
theorem d_Md_value_1 : decode prog_9_method_14_code 1 = .ok (.iload_n 1, 1) := by decide +kernel
theorem d_Md_value_2 : decode prog_9_method_14_code 2 = .ok (.iconst 1, 1) := by decide +kernel
theorem d_Md_value_3 : decode prog_9_method_14_code 3 = .ok (.if_icmp .lt 15, 3) := by decide +kernel
theorem d_Md_value_18 : decode prog_9_method_14_code 18 = .ok (.iconst 0, 1) := by decide +kernel
theorem d_Md_value_19 : decode prog_9_method_14_code 19 = .ok (.iconst 1, 1) := by decide +kernel
theorem d_Md_value_20 : decode prog_9_method_14_code 20 = .ok (.invokevirtual 39, 3) := by decide +kernel
theorem d_Md_value_23 : decode prog_9_method_14_code 23 = .ok (.ifCond .eq 15, 3) := by decide +kernel
theorem d_Md_value_38 : decode prog_9_method_14_code 38 = .ok (.iconst 0, 1) := by decide +kernel
theorem d_Md_value_39 : decode prog_9_method_14_code 39 = .ok (.ireturn, 1) := by decide +kernel
theorem d_Md_value_6 : decode prog_9_method_14_code 6 = .ok (.iload_n 1, 1) := by decide +kernel
theorem d_Md_value_7 : decode prog_9_method_14_code 7 = .ok (.aload_n 0, 1) := by decide +kernel
theorem d_Md_value_8 : decode prog_9_method_14_code 8 = .ok (.getfield 43, 3) := by decide +kernel
theorem d_Md_value_11 : decode prog_9_method_14_code 11 = .ok (.if_icmp .gt 7, 3) := by decide +kernel
theorem d_Md_value_14 : decode prog_9_method_14_code 14 = .ok (.iconst 1, 1) := by decide +kernel
theorem d_Md_value_15 : decode prog_9_method_14_code 15 = .ok (.goto 4, 3) := by decide +kernel
theorem d_Md_value_26 : decode prog_9_method_14_code 26 = .ok (.aload_n 0, 1) := by decide +kernel
theorem d_Md_value_27 : decode prog_9_method_14_code 27 = .ok (.aload_n 0, 1) := by decide +kernel
theorem d_Md_value_28 : decode prog_9_method_14_code 28 = .ok (.getfield 46, 3) := by decide +kernel
theorem d_Md_value_31 : decode prog_9_method_14_code 31 = .ok (.iconst 2, 1) := by decide +kernel
theorem d_Md_value_32 : decode prog_9_method_14_code 32 = .ok (.invokevirtual 39, 3) := by decide +kernel
theorem d_Md_value_35 : decode prog_9_method_14_code 35 = .ok (.ifCond .ne 5, 3) := by decide +kernel
theorem d_Md_value_40 : decode prog_9_method_14_code 40 = .ok (.aload_n 0, 1) := by decide +kernel
theorem d_Md_value_41 : decode prog_9_method_14_code 41 = .ok (.getfield 23, 3) := by decide +kernel
theorem d_Md_value_44 : decode prog_9_method_14_code 44 = .ok (.iload_n 1, 1) := by decide +kernel
theorem d_Md_value_45 : decode prog_9_method_14_code 45 = .ok (.iaload, 1) := by decide +kernel
theorem d_Md_value_46 : decode prog_9_method_14_code 46 = .ok (.iconst 1, 1) := by decide +kernel
theorem d_Md_value_47 : decode prog_9_method_14_code 47 = .ok (.if_icmp .ne 7, 3) := by decide +kernel
theorem d_Md_value_54 : decode prog_9_method_14_code 54 = .ok (.iconst 0, 1) := by decide +kernel
theorem d_Md_value_55 : decode prog_9_method_14_code 55 = .ok (.ireturn, 1) := by decide +kernel
theorem d_Md_value_50 : decode prog_9_method_14_code 50 = .ok (.iconst 1, 1) := by decide +kernel
theorem d_Md_value_51 : decode prog_9_method_14_code 51 = .ok (.goto 4, 3) := by decide +kernel
theorem d_Md_count_0 : decode prog_9_method_15_code 0 = .ok (.aload_n 0, 1) := by decide +kernel
theorem d_Md_count_1 : decode prog_9_method_15_code 1 = .ok (.iload_n 1, 1) := by decide +kernel
theorem d_Md_count_2 : decode prog_9_method_15_code 2 = .ok (.ifCond .lt 12, 3) := by decide +kernel
theorem d_Md_count_14 : decode prog_9_method_15_code 14 = .ok (.iconst 0, 1) := by decide +kernel
theorem d_Md_count_15 : decode prog_9_method_15_code 15 = .ok (.iconst 1, 1) := by decide +kernel
theorem d_Md_count_16 : decode prog_9_method_15_code 16 = .ok (.invokevirtual 39, 3) := by decide +kernel
theorem d_Md_count_19 : decode prog_9_method_15_code 19 = .ok (.ifCond .ne 5, 3) := by decide +kernel
theorem d_Md_count_22 : decode prog_9_method_15_code 22 = .ok (.iconst 0, 1) := by decide +kernel
theorem d_Md_count_23 : decode prog_9_method_15_code 23 = .ok (.ireturn, 1) := by decide +kernel
theorem d_Md_count_5 : decode prog_9_method_15_code 5 = .ok (.iload_n 1, 1) := by decide +kernel
theorem d_Md_count_6 : decode prog_9_method_15_code 6 = .ok (.iconst 5, 1) := by decide +kernel
theorem d_Md_count_7 : decode prog_9_method_15_code 7 = .ok (.if_icmp .gt 7, 3) := by decide +kernel
theorem d_Md_count_10 : decode prog_9_method_15_code 10 = .ok (.iconst 1, 1) := by decide +kernel
theorem d_Md_count_11 : decode prog_9_method_15_code 11 = .ok (.goto 4, 3) := by decide +kernel
theorem d_Md_count_24 : decode prog_9_method_15_code 24 = .ok (.iload_n 1, 1) := by decide +kernel
theorem d_Md_count_25 : decode prog_9_method_15_code 25 = .ok (.ifCond .ne 10, 3) := by decide +kernel
theorem d_Md_count_35 : decode prog_9_method_15_code 35 = .ok (.iload_n 1, 1) := by decide +kernel
theorem d_Md_count_36 : decode prog_9_method_15_code 36 = .ok (.iconst 1, 1) := by decide +kernel
theorem d_Md_count_37 : decode prog_9_method_15_code 37 = .ok (.if_icmp .ne 10, 3) := by decide +kernel
theorem d_Md_count_47 : decode prog_9_method_15_code 47 = .ok (.iload_n 1, 1) := by decide +kernel
theorem d_Md_count_48 : decode prog_9_method_15_code 48 = .ok (.iconst 2, 1) := by decide +kernel
theorem d_Md_count_49 : decode prog_9_method_15_code 49 = .ok (.if_icmp .ne 10, 3) := by decide +kernel
theorem d_Md_count_59 : decode prog_9_method_15_code 59 = .ok (.iload_n 1, 1) := by decide +kernel
theorem d_Md_count_60 : decode prog_9_method_15_code 60 = .ok (.iconst 3, 1) := by decide +kernel
theorem d_Md_count_61 : decode prog_9_method_15_code 61 = .ok (.if_icmp .ne 14, 3) := by decide +kernel
theorem d_Md_count_75 : decode prog_9_method_15_code 75 = .ok (.iconst 0, 1) := by decide +kernel
theorem d_Md_count_76 : decode prog_9_method_15_code 76 = .ok (.ireturn, 1) := by decide +kernel
theorem d_Md_count_64 : decode prog_9_method_15_code 64 = .ok (.aload_n 0, 1) := by decide +kernel
theorem d_Md_count_65 : decode prog_9_method_15_code 65 = .ok (.getfield 46, 3) := by decide +kernel
theorem d_Md_count_68 : decode prog_9_method_15_code 68 = .ok (.ifCond .eq 7, 3) := by decide +kernel
theorem d_Md_count_71 : decode prog_9_method_15_code 71 = .ok (.iconst 1, 1) := by decide +kernel
theorem d_Md_count_72 : decode prog_9_method_15_code 72 = .ok (.goto 4, 3) := by decide +kernel
theorem d_Md_count_52 : decode prog_9_method_15_code 52 = .ok (.aload_n 0, 1) := by decide +kernel
theorem d_Md_count_53 : decode prog_9_method_15_code 53 = .ok (.getfield 50, 3) := by decide +kernel
theorem d_Md_count_56 : decode prog_9_method_15_code 56 = .ok (.goto 20, 3) := by decide +kernel
theorem d_Md_count_40 : decode prog_9_method_15_code 40 = .ok (.aload_n 0, 1) := by decide +kernel
theorem d_Md_count_41 : decode prog_9_method_15_code 41 = .ok (.getfield 53, 3) := by decide +kernel
theorem d_Md_count_44 : decode prog_9_method_15_code 44 = .ok (.goto 32, 3) := by decide +kernel
theorem d_Md_count_28 : decode prog_9_method_15_code 28 = .ok (.aload_n 0, 1) := by decide +kernel
theorem d_Md_count_29 : decode prog_9_method_15_code 29 = .ok (.getfield 43, 3) := by decide +kernel
theorem d_Md_count_32 : decode prog_9_method_15_code 32 = .ok (.goto 44, 3) := by decide +kernel
set_option maxHeartbeats 4000000 in
set_option maxRecDepth 100000 in
/-- the row becomes a clause -/
theorem l_mclause {p : Program} {l : Launch} {e : Env} {R : Room} {s : State} {m : MethodId} {args : Array Value} {below : List Frame} {meth : Method} {c : Code} {dC : Nat → ClassId} {dI : Nat → Nat → Nat} {A : Nat → Prop} {Q : State → Prop} {cells slots : Nat} {H0 : Heap} {e0 : Nat} {e1 : Nat} {e2 : Nat} {e3 : Nat} {e4 : Nat} {e5 : Nat} {e6 : Nat} {e7 : Nat} {e8 : Nat} {c1 : ClassId} {c2 : ClassId} {c3 : ClassId} {o : Dx} {Bf : Nat → Nat} {Pf : Nat → Nat} (hx : p.tables.exec = Jvm.exec) (hb : c.code = prog_9_method_6_code) (hml : c.maxLocals = 2) (hw : ∀ w ∈ bg_W, w.before args s = true) (hown : s.vm.findClass R_Md = some m.cls) (hK : va_K (dC, dI) vwCl [(c1, .int), (c2, .int), (c3, .int)] s) (hA : ∀ q : Nat, H0.size ≤ q → A q) (hR1 : 1 ≤ R.frames) (hR2 : 1 ≤ R.locals) (hR3 : cells ≤ R.cells) (hR4 : slots ≤ R.slots) (hPk : Pok o Bf Pf) (hgv : o.gv ≤ 20) (hcl : o.cl < 4000)
    (kk83 : ∀ (lt : Nat → Int32) (H : Heap) (locs : List Loc) (ls : Array Slot), (∀ j, j < Bf o.cl → lt j = o.lt j) → (∀ j, j < o.gv → lt (Bf o.cl + j) = o.rw j) → va_P (dC, dI) vwCl [(e0, .inr (7, [.ref e1, .ref e2, .ref e3, .ref e4, .ref e5, .int (nI o.vc), .int (nI o.cl), .int (nI o.gv), .int (nI o.na), .int o.sd, .int 0, .ref e6, .int (nI o.ln), .ref e7, .ref e8])), (e1, .inl (c1, 80000, .inl lt)), (e2, .inl (c2, 4001, .inl o.fs)), (e3, .inl (c3, 20, .inl o.rw))] H → va_D A [(e0, .inr (7, [.ref e1, .ref e2, .ref e3, .ref e4, .ref e5, .int (nI o.vc), .int (nI o.cl), .int (nI o.gv), .int (nI o.na), .int o.sd, .int 0, .ref e6, .int (nI o.ln), .ref e7, .ref e8])), (e1, .inl (c1, 80000, .inl lt)), (e2, .inl (c2, 4001, .inl o.fs)), (e3, .inl (c3, 20, .inl o.rw))] → va_S A H0 H locs → lv_has ls 2 [(0, .ref e0)] → W p l e R s m args below meth c H locs cells slots Q (F0 m 83 ls []))
    : ∀ (f : Nat) (ix : Nat) (lt : Nat → Int32) (H : Heap) (locs : List Loc) (ls : Array Slot), o.gv - ix < f → (ix ≤ o.gv) → (∀ j, j < Bf o.cl → lt j = o.lt j) → (∀ j, j < ix → lt (Bf o.cl + j) = o.rw j) → va_P (dC, dI) vwCl [(e0, .inr (7, [.ref e1, .ref e2, .ref e3, .ref e4, .ref e5, .int (nI o.vc), .int (nI o.cl), .int (nI o.gv), .int (nI o.na), .int o.sd, .int 0, .ref e6, .int (nI o.ln), .ref e7, .ref e8])), (e1, .inl (c1, 80000, .inl lt)), (e2, .inl (c2, 4001, .inl o.fs)), (e3, .inl (c3, 20, .inl o.rw))] H → va_D A [(e0, .inr (7, [.ref e1, .ref e2, .ref e3, .ref e4, .ref e5, .int (nI o.vc), .int (nI o.cl), .int (nI o.gv), .int (nI o.na), .int o.sd, .int 0, .ref e6, .int (nI o.ln), .ref e7, .ref e8])), (e1, .inl (c1, 80000, .inl lt)), (e2, .inl (c2, 4001, .inl o.fs)), (e3, .inl (c3, 20, .inl o.rw))] → va_S A H0 H locs → lv_has ls 2 [(0, .ref e0), (1, .int (nI ix))] → W p l e R s m args below meth c H locs cells slots Q (F0 m 47 ls []) := by
  intro f
  induction f with
  | zero => intro ix lt H locs ls q0 q2 q3 q4 hP hD hS hl; exact absurd q0 (Nat.not_lt_zero _)
  | succ f ih =>
    intro ix lt H locs ls q0 q2 q3 q4 hP hD hS hl
    have h20 := hPk.tp o.cl (Nat.le_refl _)
    refine lv_iload_n hx hb d_Md_clause_47 rfl (lv_at hl 1 rfl) ?_
    refine lv_aload_n hx hb d_Md_clause_48 rfl (lv_at hl 0 rfl) ?_
    refine va_get (D := (dC, dI)) (ci := 7) (v := .int (nI o.gv)) (C := R_Md) (T := F_Md) (N := 15) hx hb hw in_Md hown hK hP 0 rfl rfl 7 (by decide) (hw (Cond.fieldLink "ClauseSearchModel" 50 "ClauseSearchModel" "given" "I") k_611) (fun _ h9 => h9) rfl d_Md_clause_49 ?_
    refine lv_icmp_ge (tgt := 83) hx hb d_Md_clause_52 (by decide) (fun c_52 => ?_) (fun c_52 => ?_)
    · have c_52 : o.gv ≤ ix := (nI_leI (a := o.gv) (b := ix) (by omega) (by omega)).mp c_52
      exact kk83 lt _ _ ls q3 (fun j hj => q4 j (by omega)) hP hD hS (lv_sub hl [0] rfl)
    · have c_52 : ¬ (o.gv ≤ ix) := fun qq9 => c_52 ((nI_leI (a := o.gv) (b := ix) (by omega) (by omega)).mpr qq9)
      refine lv_aload_n hx hb d_Md_clause_55 rfl (lv_at hl 0 rfl) ?_
      refine va_get (D := (dC, dI)) (ci := 7) (v := .ref e1) (C := R_Md) (T := F_Md) (N := 15) hx hb hw in_Md hown hK hP 0 rfl rfl 0 (by decide) (hw (Cond.fieldLink "ClauseSearchModel" 8 "ClauseSearchModel" "literal" "[I") k_604) (fun _ h9 => h9) rfl d_Md_clause_56 ?_
      refine lv_aload_n hx hb d_Md_clause_59 rfl (lv_at hl 0 rfl) ?_
      refine va_get (D := (dC, dI)) (ci := 7) (v := .ref e2) (C := R_Md) (T := F_Md) (N := 15) hx hb hw in_Md hown hK hP 0 rfl rfl 1 (by decide) (hw (Cond.fieldLink "ClauseSearchModel" 14 "ClauseSearchModel" "first" "[I") k_605) (fun _ h9 => h9) rfl d_Md_clause_60 ?_
      refine lv_aload_n hx hb d_Md_clause_63 rfl (lv_at hl 0 rfl) ?_
      refine va_get (D := (dC, dI)) (ci := 7) (v := .int (nI o.cl)) (C := R_Md) (T := F_Md) (N := 15) hx hb hw in_Md hown hK hP 0 rfl rfl 6 (by decide) (hw (Cond.fieldLink "ClauseSearchModel" 53 "ClauseSearchModel" "clauses" "I") k_610) (fun _ h9 => h9) rfl d_Md_clause_64 ?_
      refine va_iald hx hb hK hP 2 1 rfl rfl (vp_in_nI (by omega) (by omega)) d_Md_clause_67 ?_
      refine lv_topi (fun y_1 ey_1 => ?_)
      rw [nI_clamp (by omega)] at ey_1
      rw [hPk.fs _ (by omega)] at ey_1
      subst ey_1
      refine lv_iload_n hx hb d_Md_clause_68 rfl (lv_at hl 1 rfl) ?_
      refine lv_iadd hx hb d_Md_clause_69 ?_
      refine lv_topi (fun y_2 ey_2 => ?_)
      obtain rfl : y_2 = nI (Bf o.cl + ix) := ey_2.trans (nI_add (Bf o.cl) ix)
      refine lv_aload_n hx hb d_Md_clause_70 rfl (lv_at hl 0 rfl) ?_
      refine va_get (D := (dC, dI)) (ci := 7) (v := .ref e3) (C := R_Md) (T := F_Md) (N := 15) hx hb hw in_Md hown hK hP 0 rfl rfl 2 (by decide) (hw (Cond.fieldLink "ClauseSearchModel" 17 "ClauseSearchModel" "row" "[I") k_606) (fun _ h9 => h9) rfl d_Md_clause_71 ?_
      refine lv_iload_n hx hb d_Md_clause_74 rfl (lv_at hl 1 rfl) ?_
      refine va_iald hx hb hK hP 3 2 rfl rfl (vp_in_nI (by omega) (by omega)) d_Md_clause_75 ?_
      refine lv_topi (fun y_3 ey_3 => ?_)
      rw [nI_clamp (by omega)] at ey_3
      subst ey_3
      refine va_iast hx hb hK hP hD hS 1 0 rfl rfl (vp_in_nI (by omega) (by omega)) d_Md_clause_76 (fun H locs hP hD hS => ?_)
      rw [nI_clamp (n := Bf o.cl + ix) (by omega)] at hP hD
      have hP : va_P (dC, dI) vwCl [(e0, .inr (7, [.ref e1, .ref e2, .ref e3, .ref e4, .ref e5, .int (nI o.vc), .int (nI o.cl), .int (nI o.gv), .int (nI o.na), .int o.sd, .int 0, .ref e6, .int (nI o.ln), .ref e7, .ref e8])), (e1, .inl (c1, 80000, .inl (upd lt (Bf o.cl + ix) (o.rw ix)))), (e2, .inl (c2, 4001, .inl o.fs)), (e3, .inl (c3, 20, .inl o.rw))] H := hP
      have hD : va_D A [(e0, .inr (7, [.ref e1, .ref e2, .ref e3, .ref e4, .ref e5, .int (nI o.vc), .int (nI o.cl), .int (nI o.gv), .int (nI o.na), .int o.sd, .int 0, .ref e6, .int (nI o.ln), .ref e7, .ref e8])), (e1, .inl (c1, 80000, .inl (upd lt (Bf o.cl + ix) (o.rw ix)))), (e2, .inl (c2, 4001, .inl o.fs)), (e3, .inl (c3, 20, .inl o.rw))] := hD
      refine lv_iinc (v := nI (ix + 1)) (lv' := [(1, .int (nI (ix + 1))), (0, .ref e0)]) hx hb d_Md_clause_77 hl (k := 1) rfl (nI_1 ix) (by decide) rfl (fun ls hl => ?_)
      refine lv_goto (tgt := 47) hx hb d_Md_clause_80 (by decide) ?_
      exact ih (ix + 1) (upd lt (Bf o.cl + ix) (o.rw ix)) _ _ ls (by omega) (by omega) (fun j hj => by rw [pk_un (by omega)]; exact q3 j hj) (fun j hj => by by_cases h : j = ix; (rw [h, pk_us]); rw [pk_un (by omega)]; exact q4 j (by omega)) hP hD hS (lv_sub hl [1, 0] rfl)

set_option maxHeartbeats 4000000 in
set_option maxRecDepth 100000 in
/-- clause() -/
theorem c_Md_clause (l : Launch) (dC : Nat → ClassId) (dI : Nat → Nat → Nat) (e0 : Nat) (e1 : Nat) (e2 : Nat) (e3 : Nat) (e4 : Nat) (e5 : Nat) (e6 : Nat) (e7 : Nat) (e8 : Nat) (c1 : ClassId) (c2 : ClassId) (c3 : ClassId) (sz : Nat) (o : Dx) (Bf : Nat → Nat) (Pf : Nat → Nat) (hPk : Pok o Bf Pf) (hgv : o.gv ≤ 20) (hcl : o.cl < 4000) (hg1 : 1 ≤ o.gv) : Met l y_Md_clause (wq y_Md_clause prog_9_method_6_code 2 (some .int)) ({ frames := 1, cells := 0, slots := 0, locals := 22 }) (va_Pc [.ref e0] (fun U => U.heap.size = sz ∧ va_P (dC, dI) vwCl [(e0, .inr (7, [.ref e1, .ref e2, .ref e3, .ref e4, .ref e5, .int (nI o.vc), .int (nI o.cl), .int (nI o.gv), .int (nI o.na), .int o.sd, .int o.cd, .ref e6, .int (nI o.ln), .ref e7, .ref e8])), (e1, .inl (c1, 80000, .inl o.lt)), (e2, .inl (c2, 4001, .inl o.fs)), (e3, .inl (c3, 20, .inl o.rw))] U.heap ∧ va_K (dC, dI) vwCl [(c1, .int), (c2, .int), (c3, .int)] U ∧ va_D (fun _ => True) [(e0, .inr (7, [.ref e1, .ref e2, .ref e3, .ref e4, .ref e5, .int (nI o.vc), .int (nI o.cl), .int (nI o.gv), .int (nI o.na), .int o.sd, .int o.cd, .ref e6, .int (nI o.ln), .ref e7, .ref e8])), (e1, .inl (c1, 80000, .inl o.lt)), (e2, .inl (c2, 4001, .inl o.fs)), (e3, .inl (c3, 20, .inl o.rw))])) (va_Qi (fun (r : Int32) (r9 : Int32) => r = r9) (fun (r9 : Int32) t => ∃ (lt2 : Nat → Int32), r9 = nI (o.cl + 1) ∧ (∀ j, j < Bf o.cl → lt2 j = o.lt j) ∧ (∀ j, j < o.gv → lt2 (Bf o.cl + j) = o.rw j) ∧ va_P (dC, dI) vwCl [(e0, .inr (7, [.ref e1, .ref e2, .ref e3, .ref e4, .ref e5, .int (nI o.vc), .int (nI (o.cl + 1)), .int (nI 0), .int (nI o.na), .int 0, .int 0, .ref e6, .int (nI o.ln), .ref e7, .ref e8])), (e1, .inl (c1, 80000, .inl lt2)), (e2, .inl (c2, 4001, .inl (upd o.fs (o.cl + 1) (nI (Bf o.cl + o.gv))))), (e3, .inl (c3, 20, .inl o.rw))] t.heap ∧ va_K (dC, dI) vwCl [(c1, .int), (c2, .int), (c3, .int)] t ∧ va_D (va_A [(e0, .inr (7, [.ref e1, .ref e2, .ref e3, .ref e4, .ref e5, .int (nI o.vc), .int (nI o.cl), .int (nI o.gv), .int (nI o.na), .int o.sd, .int o.cd, .ref e6, .int (nI o.ln), .ref e7, .ref e8])), (e1, .inl (c1, 80000, .inl o.lt)), (e2, .inl (c2, 4001, .inl o.fs)), (e3, .inl (c3, 20, .inl o.rw))] sz) [(e0, .inr (7, [.ref e1, .ref e2, .ref e3, .ref e4, .ref e5, .int (nI o.vc), .int (nI (o.cl + 1)), .int (nI 0), .int (nI o.na), .int 0, .int 0, .ref e6, .int (nI o.ln), .ref e7, .ref e8])), (e1, .inl (c1, 80000, .inl lt2)), (e2, .inl (c2, 4001, .inl (upd o.fs (o.cl + 1) (nI (Bf o.cl + o.gv))))), (e3, .inl (c3, 20, .inl o.rw))]) (va_A [(e0, .inr (7, [.ref e1, .ref e2, .ref e3, .ref e4, .ref e5, .int (nI o.vc), .int (nI o.cl), .int (nI o.gv), .int (nI o.na), .int o.sd, .int o.cd, .ref e6, .int (nI o.ln), .ref e7, .ref e8])), (e1, .inl (c1, 80000, .inl o.lt)), (e2, .inl (c2, 4001, .inl o.fs)), (e3, .inl (c3, 20, .inl o.rw))] sz)) (0) (0) (va_A [(e0, .inr (7, [.ref e1, .ref e2, .ref e3, .ref e4, .ref e5, .int (nI o.vc), .int (nI o.cl), .int (nI o.gv), .int (nI o.na), .int o.sd, .int o.cd, .ref e6, .int (nI o.ln), .ref e7, .ref e8])), (e1, .inl (c1, 80000, .inl o.lt)), (e2, .inl (c2, 4001, .inl o.fs)), (e3, .inl (c3, 20, .inl o.rw))] sz) := by
  refine Met.ofW (cc := prog_9_method_6_code) (maxL := 2) (ret := (some .int)) (by decide) rfl ?_
  intro p e s m args below meth c s₁ B hml hv
  obtain ⟨rfl, hsz, hP, hK, hD0⟩ := hv
  have hx := B.exec
  have hb := B.bytes
  have hr := B.returns
  have hw : ∀ w ∈ bg_W, w.before #[Value.ref e0] s = true := fun w h => atoms_spec (ws := (wq y_Md_clause prog_9_method_6_code 2 (some .int))) B.pre w (List.mem_cons_of_mem _ h)
  have hown : s.vm.findClass R_Md = some m.cls := findClass_of_methodNamed B.named
  have hlocks := B.notSynchronized
  subst hsz
  have hD := hD0.self (sz := s.heap.size)
  generalize hAe : va_A [(e0, .inr (7, [.ref e1, .ref e2, .ref e3, .ref e4, .ref e5, .int (nI o.vc), .int (nI o.cl), .int (nI o.gv), .int (nI o.na), .int o.sd, .int o.cd, .ref e6, .int (nI o.ln), .ref e7, .ref e8])), (e1, .inl (c1, 80000, .inl o.lt)), (e2, .inl (c2, 4001, .inl o.fs)), (e3, .inl (c3, 20, .inl o.rw))] s.heap.size = A at hD ⊢
  have hA : ∀ q : Nat, s.heap.size ≤ q → A q := fun q h => by rw [← hAe]; exact Or.inr h
  have hS : va_S A s.heap s.heap [] := va_S.rf
  have hP : va_P (dC, dI) vwCl [(e0, .inr (7, [.ref e1, .ref e2, .ref e3, .ref e4, .ref e5, .int (nI o.vc), .int (nI o.cl), .int (nI o.gv), .int (nI o.na), .int o.sd, .int o.cd, .ref e6, .int (nI o.ln), .ref e7, .ref e8])), (e1, .inl (c1, 80000, .inl o.lt)), (e2, .inl (c2, 4001, .inl o.fs)), (e3, .inl (c3, 20, .inl o.rw))] s.heap := hP
  have hl := lv_entry ([.ref e0]) (n := 2) (Nat.le_of_ble_eq_true rfl)
  rw [lg_entry_eq]
  generalize (lg_sl ([.ref e0]) ++ List.replicate (2 - (lg_sl ([.ref e0])).length) Slot.unset).toArray = ls at hl ⊢
  have hl : lv_has ls 2 [(0, .ref e0)] := hl
  obtain ⟨H, hH⟩ : ∃ H : Heap, H = s.heap := ⟨_, rfl⟩
  rw [← hH] at hP
  have hS : va_S A s.heap H [] := by rw [hH]; exact va_S.rf
  show W p l e _ s m _ below meth c s.heap [] 0 0 _ _
  rw [← hH]
  have h20 := hPk.tp o.cl (Nat.le_refl _)
  refine lv_aload_n hx hb d_Md_clause_0 rfl (lv_at hl 0 rfl) ?_
  refine lv_aload_n hx hb d_Md_clause_1 rfl (lv_at hl 0 rfl) ?_
  refine va_get (D := (dC, dI)) (ci := 7) (v := .int (nI o.gv)) (C := R_Md) (T := F_Md) (N := 15) hx hb hw in_Md hown hK hP 0 rfl rfl 7 (by decide) (hw (Cond.fieldLink "ClauseSearchModel" 50 "ClauseSearchModel" "given" "I") k_611) (fun _ h9 => h9) rfl d_Md_clause_2 ?_
  refine lv_if_le (tgt := 12) hx hb d_Md_clause_5 (by decide) (fun c_5 => by exfalso; have c_5 : o.gv ≤ 0 := (nI_leI (a := o.gv) (b := 0) (by omega) (by omega)).mp c_5; omega) (fun c_5 => ?_)
  have c_5 : ¬ (o.gv ≤ 0) := fun qq9 => c_5 ((nI_leI (a := o.gv) (b := 0) (by omega) (by omega)).mpr qq9)
  refine lv_iconst (v := 1) hx hb d_Md_clause_8 (by decide) ?_
  refine lv_goto (tgt := 13) hx hb d_Md_clause_9 (by decide) ?_
  refine lv_iconst (v := 1) hx hb d_Md_clause_13 (by decide) ?_
  have hPc := hP.sub (ws' := [(e0, .inr (7, [.ref e1, .ref e2, .ref e3, .ref e4, .ref e5, .int (nI o.vc), .int (nI o.cl), .int (nI o.gv), .int (nI o.na), .int o.sd, .int o.cd, .ref e6, .int (nI o.ln), .ref e7, .ref e8]))]) [0] rfl
  have hDc := hD.sub (ws' := [(e0, .inr (7, [.ref e1, .ref e2, .ref e3, .ref e4, .ref e5, .int (nI o.vc), .int (nI o.cl), .int (nI o.gv), .int (nI o.na), .int o.sd, .int o.cd, .ref e6, .int (nI o.ln), .ref e7, .ref e8]))]) [0] (by decide) rfl
  have hKc := hK.sub (tys' := []) [] rfl
  have hFc := va_free (wc := [(e0, .inr (7, [.ref e1, .ref e2, .ref e3, .ref e4, .ref e5, .int (nI o.vc), .int (nI o.cl), .int (nI o.gv), .int (nI o.na), .int o.sd, .int o.cd, .ref e6, .int (nI o.ln), .ref e7, .ref e8]))]) hD hS hA [0] rfl
  refine va_calli (va_runV (As := [.int 1, .int 1]) (rest := []) ⟨hx, hb, hml, hown, hw⟩ (c_Md_good_1 l dC dI e0 e1 e2 e3 e4 e5 e6 e7 e8 H.size o 1) (cb_V (C := R_Md) 2 hw k_661 k_37 k_658 k_660 k_21 rfl rfl (by decide +kernel) ⟨Nat.le_of_ble_eq_true rfl, Nat.le_of_ble_eq_true rfl⟩) ⟨fun a U g mk q => by obtain ⟨q0, q1, qP, qK, qD⟩ := q; exact ⟨q0, q1, qP, va_K.moved (u := U) (U := U.calling g mk a) (Vm.Alike.refl U.vm) qK, qD⟩, va_recv hKc hPc (ci := 7) (q0 := 0) rfl rfl, fun U hU hW => ⟨rfl, by rw [hU], by rw [hU]; exact hPc, va_K.moved hW.alike hKc, hDc.weaken (fun _ _ _ _ => trivial)⟩⟩ rfl rfl hl.1 rfl (lv_room (Nat.le_of_ble_eq_true rfl)) d_Md_clause_14 ⟨Nat.le_of_ble_eq_true rfl, Nat.le_of_ble_eq_true rfl⟩) hS (fun q _ h => hFc q h) hFc (fun r_1 u t H1 locs ht hvm hw9 hB hz1 hk1 hS => ?_)
  obtain ⟨er9, hP1, hK1, hD1⟩ := hB
  rw [ht] at hP1
  have hK1 := va_K.moved hvm.symm hK1
  obtain ⟨hP, hD⟩ := va_join (wr := [(e1, .inl (c1, 80000, .inl o.lt)), (e2, .inl (c2, 4001, .inl o.fs)), (e3, .inl (c3, 20, .inl o.rw))]) (w1 := [(e0, .inr (7, [.ref e1, .ref e2, .ref e3, .ref e4, .ref e5, .int (nI o.vc), .int (nI o.cl), .int (nI o.gv), .int (nI o.na), .int o.sd, .int 0, .ref e6, .int (nI o.ln), .ref e7, .ref e8]))]) hP hD [0] [1, 2, 3] rfl rfl (by decide) (by decide) hk1 hFc hP1 hD1
  generalize H1 = H at hP hS ⊢
  have hP : va_P (dC, dI) vwCl [(e1, .inl (c1, 80000, .inl o.lt)), (e2, .inl (c2, 4001, .inl o.fs)), (e3, .inl (c3, 20, .inl o.rw)), (e0, .inr (7, [.ref e1, .ref e2, .ref e3, .ref e4, .ref e5, .int (nI o.vc), .int (nI o.cl), .int (nI o.gv), .int (nI o.na), .int o.sd, .int 0, .ref e6, .int (nI o.ln), .ref e7, .ref e8]))] H := hP
  have hD : va_D A [(e1, .inl (c1, 80000, .inl o.lt)), (e2, .inl (c2, 4001, .inl o.fs)), (e3, .inl (c3, 20, .inl o.rw)), (e0, .inr (7, [.ref e1, .ref e2, .ref e3, .ref e4, .ref e5, .int (nI o.vc), .int (nI o.cl), .int (nI o.gv), .int (nI o.na), .int o.sd, .int 0, .ref e6, .int (nI o.ln), .ref e7, .ref e8]))] := hD
  refine W.widen (k := 0) (n := 0) (by decide) (by decide) ?_
  have hw9 : r_1 = 1 := hw9.trans er9
  subst hw9
  have hP : va_P (dC, dI) vwCl [(e1, .inl (c1, 80000, .inl o.lt)), (e2, .inl (c2, 4001, .inl o.fs)), (e3, .inl (c3, 20, .inl o.rw)), (e0, .inr (7, [.ref e1, .ref e2, .ref e3, .ref e4, .ref e5, .int (nI o.vc), .int (nI o.cl), .int (nI o.gv), .int (nI o.na), .int o.sd, .int 0, .ref e6, .int (nI o.ln), .ref e7, .ref e8]))] H := hP
  have hD : va_D A [(e1, .inl (c1, 80000, .inl o.lt)), (e2, .inl (c2, 4001, .inl o.fs)), (e3, .inl (c3, 20, .inl o.rw)), (e0, .inr (7, [.ref e1, .ref e2, .ref e3, .ref e4, .ref e5, .int (nI o.vc), .int (nI o.cl), .int (nI o.gv), .int (nI o.na), .int o.sd, .int 0, .ref e6, .int (nI o.ln), .ref e7, .ref e8]))] := hD
  refine lv_if_eq (tgt := 43) hx hb d_Md_clause_17 (by decide) (fun c_17 => absurd c_17 (by decide)) (fun c_17 => ?_)
  refine lv_aload_n hx hb d_Md_clause_20 rfl (lv_at hl 0 rfl) ?_
  refine lv_aload_n hx hb d_Md_clause_21 rfl (lv_at hl 0 rfl) ?_
  refine va_get (D := (dC, dI)) (ci := 7) (v := .int (nI o.cl)) (C := R_Md) (T := F_Md) (N := 15) hx hb hw in_Md hown hK hP 3 rfl rfl 6 (by decide) (hw (Cond.fieldLink "ClauseSearchModel" 53 "ClauseSearchModel" "clauses" "I") k_610) (fun _ h9 => h9) rfl d_Md_clause_22 ?_
  refine lv_sipush (v := nI 4000) hx hb d_Md_clause_25 (by decide) ?_
  refine lv_icmp_ge (tgt := 35) hx hb d_Md_clause_28 (by decide) (fun c_28 => by exfalso; have c_28 : 4000 ≤ o.cl := (nI_leI (a := 4000) (b := o.cl) (by omega) (by omega)).mp c_28; omega) (fun c_28 => ?_)
  have c_28 : ¬ (4000 ≤ o.cl) := fun qq9 => c_28 ((nI_leI (a := 4000) (b := o.cl) (by omega) (by omega)).mpr qq9)
  refine lv_iconst (v := 1) hx hb d_Md_clause_31 (by decide) ?_
  refine lv_goto (tgt := 36) hx hb d_Md_clause_32 (by decide) ?_
  refine lv_iconst (v := 2) hx hb d_Md_clause_36 (by decide) ?_
  have hPc := hP.sub (ws' := [(e0, .inr (7, [.ref e1, .ref e2, .ref e3, .ref e4, .ref e5, .int (nI (Dx.of o.lt o.fs o.rw o.am o.wv o.tl o.ch o.mk o.vc o.cl o.gv o.na o.ln o.sd 0 o.X).vc), .int (nI (Dx.of o.lt o.fs o.rw o.am o.wv o.tl o.ch o.mk o.vc o.cl o.gv o.na o.ln o.sd 0 o.X).cl), .int (nI (Dx.of o.lt o.fs o.rw o.am o.wv o.tl o.ch o.mk o.vc o.cl o.gv o.na o.ln o.sd 0 o.X).gv), .int (nI (Dx.of o.lt o.fs o.rw o.am o.wv o.tl o.ch o.mk o.vc o.cl o.gv o.na o.ln o.sd 0 o.X).na), .int (Dx.of o.lt o.fs o.rw o.am o.wv o.tl o.ch o.mk o.vc o.cl o.gv o.na o.ln o.sd 0 o.X).sd, .int (Dx.of o.lt o.fs o.rw o.am o.wv o.tl o.ch o.mk o.vc o.cl o.gv o.na o.ln o.sd 0 o.X).cd, .ref e6, .int (nI (Dx.of o.lt o.fs o.rw o.am o.wv o.tl o.ch o.mk o.vc o.cl o.gv o.na o.ln o.sd 0 o.X).ln), .ref e7, .ref e8]))]) [3] rfl
  have hDc := hD.sub (ws' := [(e0, .inr (7, [.ref e1, .ref e2, .ref e3, .ref e4, .ref e5, .int (nI (Dx.of o.lt o.fs o.rw o.am o.wv o.tl o.ch o.mk o.vc o.cl o.gv o.na o.ln o.sd 0 o.X).vc), .int (nI (Dx.of o.lt o.fs o.rw o.am o.wv o.tl o.ch o.mk o.vc o.cl o.gv o.na o.ln o.sd 0 o.X).cl), .int (nI (Dx.of o.lt o.fs o.rw o.am o.wv o.tl o.ch o.mk o.vc o.cl o.gv o.na o.ln o.sd 0 o.X).gv), .int (nI (Dx.of o.lt o.fs o.rw o.am o.wv o.tl o.ch o.mk o.vc o.cl o.gv o.na o.ln o.sd 0 o.X).na), .int (Dx.of o.lt o.fs o.rw o.am o.wv o.tl o.ch o.mk o.vc o.cl o.gv o.na o.ln o.sd 0 o.X).sd, .int (Dx.of o.lt o.fs o.rw o.am o.wv o.tl o.ch o.mk o.vc o.cl o.gv o.na o.ln o.sd 0 o.X).cd, .ref e6, .int (nI (Dx.of o.lt o.fs o.rw o.am o.wv o.tl o.ch o.mk o.vc o.cl o.gv o.na o.ln o.sd 0 o.X).ln), .ref e7, .ref e8]))]) [3] (by decide) rfl
  have hKc := hK.sub (tys' := []) [] rfl
  have hFc := va_free (wc := [(e0, .inr (7, [.ref e1, .ref e2, .ref e3, .ref e4, .ref e5, .int (nI (Dx.of o.lt o.fs o.rw o.am o.wv o.tl o.ch o.mk o.vc o.cl o.gv o.na o.ln o.sd 0 o.X).vc), .int (nI (Dx.of o.lt o.fs o.rw o.am o.wv o.tl o.ch o.mk o.vc o.cl o.gv o.na o.ln o.sd 0 o.X).cl), .int (nI (Dx.of o.lt o.fs o.rw o.am o.wv o.tl o.ch o.mk o.vc o.cl o.gv o.na o.ln o.sd 0 o.X).gv), .int (nI (Dx.of o.lt o.fs o.rw o.am o.wv o.tl o.ch o.mk o.vc o.cl o.gv o.na o.ln o.sd 0 o.X).na), .int (Dx.of o.lt o.fs o.rw o.am o.wv o.tl o.ch o.mk o.vc o.cl o.gv o.na o.ln o.sd 0 o.X).sd, .int (Dx.of o.lt o.fs o.rw o.am o.wv o.tl o.ch o.mk o.vc o.cl o.gv o.na o.ln o.sd 0 o.X).cd, .ref e6, .int (nI (Dx.of o.lt o.fs o.rw o.am o.wv o.tl o.ch o.mk o.vc o.cl o.gv o.na o.ln o.sd 0 o.X).ln), .ref e7, .ref e8]))]) hD hS hA [3] rfl
  refine va_calli (va_runV (As := [.int 1, .int 2]) (rest := []) ⟨hx, hb, hml, hown, hw⟩ (c_Md_good_1 l dC dI e0 e1 e2 e3 e4 e5 e6 e7 e8 H.size (Dx.of o.lt o.fs o.rw o.am o.wv o.tl o.ch o.mk o.vc o.cl o.gv o.na o.ln o.sd 0 o.X) 2) (cb_V (C := R_Md) 2 hw k_661 k_37 k_658 k_660 k_21 rfl rfl (by decide +kernel) ⟨Nat.le_of_ble_eq_true rfl, Nat.le_of_ble_eq_true rfl⟩) ⟨fun a U g mk q => by obtain ⟨q0, q1, qP, qK, qD⟩ := q; exact ⟨q0, q1, qP, va_K.moved (u := U) (U := U.calling g mk a) (Vm.Alike.refl U.vm) qK, qD⟩, va_recv hKc hPc (ci := 7) (q0 := 0) rfl rfl, fun U hU hW => ⟨rfl, by rw [hU], by rw [hU]; exact hPc, va_K.moved hW.alike hKc, hDc.weaken (fun _ _ _ _ => trivial)⟩⟩ rfl rfl hl.1 rfl (lv_room (Nat.le_of_ble_eq_true rfl)) d_Md_clause_37 ⟨Nat.le_of_ble_eq_true rfl, Nat.le_of_ble_eq_true rfl⟩) hS (fun q _ h => hFc q h) hFc (fun r_2 u t H1 locs ht hvm hw9 hB hz1 hk1 hS => ?_)
  obtain ⟨er9, hP1, hK1, hD1⟩ := hB
  rw [ht] at hP1
  have hK1 := va_K.moved hvm.symm hK1
  obtain ⟨hP, hD⟩ := va_join (wr := [(e1, .inl (c1, 80000, .inl o.lt)), (e2, .inl (c2, 4001, .inl o.fs)), (e3, .inl (c3, 20, .inl o.rw))]) (w1 := [(e0, .inr (7, [.ref e1, .ref e2, .ref e3, .ref e4, .ref e5, .int (nI (Dx.of o.lt o.fs o.rw o.am o.wv o.tl o.ch o.mk o.vc o.cl o.gv o.na o.ln o.sd 0 o.X).vc), .int (nI (Dx.of o.lt o.fs o.rw o.am o.wv o.tl o.ch o.mk o.vc o.cl o.gv o.na o.ln o.sd 0 o.X).cl), .int (nI (Dx.of o.lt o.fs o.rw o.am o.wv o.tl o.ch o.mk o.vc o.cl o.gv o.na o.ln o.sd 0 o.X).gv), .int (nI (Dx.of o.lt o.fs o.rw o.am o.wv o.tl o.ch o.mk o.vc o.cl o.gv o.na o.ln o.sd 0 o.X).na), .int (Dx.of o.lt o.fs o.rw o.am o.wv o.tl o.ch o.mk o.vc o.cl o.gv o.na o.ln o.sd 0 o.X).sd, .int 0, .ref e6, .int (nI (Dx.of o.lt o.fs o.rw o.am o.wv o.tl o.ch o.mk o.vc o.cl o.gv o.na o.ln o.sd 0 o.X).ln), .ref e7, .ref e8]))]) hP hD [3] [0, 1, 2] rfl rfl (by decide) (by decide) hk1 hFc hP1 hD1
  generalize H1 = H at hP hS ⊢
  have hP : va_P (dC, dI) vwCl [(e1, .inl (c1, 80000, .inl o.lt)), (e2, .inl (c2, 4001, .inl o.fs)), (e3, .inl (c3, 20, .inl o.rw)), (e0, .inr (7, [.ref e1, .ref e2, .ref e3, .ref e4, .ref e5, .int (nI (Dx.of o.lt o.fs o.rw o.am o.wv o.tl o.ch o.mk o.vc o.cl o.gv o.na o.ln o.sd 0 o.X).vc), .int (nI (Dx.of o.lt o.fs o.rw o.am o.wv o.tl o.ch o.mk o.vc o.cl o.gv o.na o.ln o.sd 0 o.X).cl), .int (nI (Dx.of o.lt o.fs o.rw o.am o.wv o.tl o.ch o.mk o.vc o.cl o.gv o.na o.ln o.sd 0 o.X).gv), .int (nI (Dx.of o.lt o.fs o.rw o.am o.wv o.tl o.ch o.mk o.vc o.cl o.gv o.na o.ln o.sd 0 o.X).na), .int (Dx.of o.lt o.fs o.rw o.am o.wv o.tl o.ch o.mk o.vc o.cl o.gv o.na o.ln o.sd 0 o.X).sd, .int 0, .ref e6, .int (nI (Dx.of o.lt o.fs o.rw o.am o.wv o.tl o.ch o.mk o.vc o.cl o.gv o.na o.ln o.sd 0 o.X).ln), .ref e7, .ref e8]))] H := hP
  have hD : va_D A [(e1, .inl (c1, 80000, .inl o.lt)), (e2, .inl (c2, 4001, .inl o.fs)), (e3, .inl (c3, 20, .inl o.rw)), (e0, .inr (7, [.ref e1, .ref e2, .ref e3, .ref e4, .ref e5, .int (nI (Dx.of o.lt o.fs o.rw o.am o.wv o.tl o.ch o.mk o.vc o.cl o.gv o.na o.ln o.sd 0 o.X).vc), .int (nI (Dx.of o.lt o.fs o.rw o.am o.wv o.tl o.ch o.mk o.vc o.cl o.gv o.na o.ln o.sd 0 o.X).cl), .int (nI (Dx.of o.lt o.fs o.rw o.am o.wv o.tl o.ch o.mk o.vc o.cl o.gv o.na o.ln o.sd 0 o.X).gv), .int (nI (Dx.of o.lt o.fs o.rw o.am o.wv o.tl o.ch o.mk o.vc o.cl o.gv o.na o.ln o.sd 0 o.X).na), .int (Dx.of o.lt o.fs o.rw o.am o.wv o.tl o.ch o.mk o.vc o.cl o.gv o.na o.ln o.sd 0 o.X).sd, .int 0, .ref e6, .int (nI (Dx.of o.lt o.fs o.rw o.am o.wv o.tl o.ch o.mk o.vc o.cl o.gv o.na o.ln o.sd 0 o.X).ln), .ref e7, .ref e8]))] := hD
  refine W.widen (k := 0) (n := 0) (by decide) (by decide) ?_
  have hw9 : r_2 = 1 := hw9.trans er9
  subst hw9
  have hP : va_P (dC, dI) vwCl [(e1, .inl (c1, 80000, .inl o.lt)), (e2, .inl (c2, 4001, .inl o.fs)), (e3, .inl (c3, 20, .inl o.rw)), (e0, .inr (7, [.ref e1, .ref e2, .ref e3, .ref e4, .ref e5, .int (nI o.vc), .int (nI o.cl), .int (nI o.gv), .int (nI o.na), .int o.sd, .int 0, .ref e6, .int (nI o.ln), .ref e7, .ref e8]))] H := hP
  have hD : va_D A [(e1, .inl (c1, 80000, .inl o.lt)), (e2, .inl (c2, 4001, .inl o.fs)), (e3, .inl (c3, 20, .inl o.rw)), (e0, .inr (7, [.ref e1, .ref e2, .ref e3, .ref e4, .ref e5, .int (nI o.vc), .int (nI o.cl), .int (nI o.gv), .int (nI o.na), .int o.sd, .int 0, .ref e6, .int (nI o.ln), .ref e7, .ref e8]))] := hD
  refine lv_if_ne (tgt := 45) hx hb d_Md_clause_40 (by decide) (fun c_40 => ?_) (fun c_40 => absurd c_40 (by decide))
  refine lv_iconst (v := nI 0) hx hb d_Md_clause_45 (by decide) ?_
  refine lv_istore_n (lv' := [(1, .int (nI 0)), (0, .ref e0)]) hx hb d_Md_clause_46 rfl hl (by decide) rfl (fun ls hl => ?_)
  refine l_mclause (o := o) (Bf := Bf) (Pf := Pf) hx hb hml hw hown (hK.sub (tys' := [(c1, .int), (c2, .int), (c3, .int)]) [0, 1, 2] rfl) hA (Nat.le_of_ble_eq_true rfl) (Nat.le_of_ble_eq_true rfl) (Nat.le_of_ble_eq_true rfl) (Nat.le_of_ble_eq_true rfl) hPk hgv hcl (fun g_3 H1 locs ls f_4 f_5 hP1 hD1 hS hl => ?_) (_) 0 o.lt _ _ ls (Nat.lt_succ_self _) (Nat.zero_le _) (fun j hj => rfl) (fun j hj => absurd hj (Nat.not_lt_zero _)) (hP.sub (ws' := [(e0, .inr (7, [.ref e1, .ref e2, .ref e3, .ref e4, .ref e5, .int (nI o.vc), .int (nI o.cl), .int (nI o.gv), .int (nI o.na), .int o.sd, .int 0, .ref e6, .int (nI o.ln), .ref e7, .ref e8])), (e1, .inl (c1, 80000, .inl o.lt)), (e2, .inl (c2, 4001, .inl o.fs)), (e3, .inl (c3, 20, .inl o.rw))]) [3, 0, 1, 2] rfl) (hD.sub (ws' := [(e0, .inr (7, [.ref e1, .ref e2, .ref e3, .ref e4, .ref e5, .int (nI o.vc), .int (nI o.cl), .int (nI o.gv), .int (nI o.na), .int o.sd, .int 0, .ref e6, .int (nI o.ln), .ref e7, .ref e8])), (e1, .inl (c1, 80000, .inl o.lt)), (e2, .inl (c2, 4001, .inl o.fs)), (e3, .inl (c3, 20, .inl o.rw))]) [3, 0, 1, 2] (by decide) rfl) hS (lv_sub hl [1, 0] rfl)
  have hP := hP1
  have hD := hD1
  generalize H1 = H at hP hS ⊢
  have hP : va_P (dC, dI) vwCl [(e0, .inr (7, [.ref e1, .ref e2, .ref e3, .ref e4, .ref e5, .int (nI o.vc), .int (nI o.cl), .int (nI o.gv), .int (nI o.na), .int o.sd, .int 0, .ref e6, .int (nI o.ln), .ref e7, .ref e8])), (e1, .inl (c1, 80000, .inl g_3)), (e2, .inl (c2, 4001, .inl o.fs)), (e3, .inl (c3, 20, .inl o.rw))] H := hP
  have hD : va_D A [(e0, .inr (7, [.ref e1, .ref e2, .ref e3, .ref e4, .ref e5, .int (nI o.vc), .int (nI o.cl), .int (nI o.gv), .int (nI o.na), .int o.sd, .int 0, .ref e6, .int (nI o.ln), .ref e7, .ref e8])), (e1, .inl (c1, 80000, .inl g_3)), (e2, .inl (c2, 4001, .inl o.fs)), (e3, .inl (c3, 20, .inl o.rw))] := hD
  refine lv_aload_n hx hb d_Md_clause_83 rfl (lv_at hl 0 rfl) ?_
  refine lv_dup hx hb d_Md_clause_84 rfl ?_
  refine va_get (D := (dC, dI)) (ci := 7) (v := .int (nI o.cl)) (C := R_Md) (T := F_Md) (N := 15) hx hb hw in_Md hown hK hP 0 rfl rfl 6 (by decide) (hw (Cond.fieldLink "ClauseSearchModel" 53 "ClauseSearchModel" "clauses" "I") k_610) (fun _ h9 => h9) rfl d_Md_clause_85 ?_
  refine lv_iconst (v := nI 1) hx hb d_Md_clause_88 (by decide) ?_
  refine lv_iadd hx hb d_Md_clause_89 ?_
  refine lv_topi (fun y_6 ey_6 => ?_)
  obtain rfl : y_6 = nI (o.cl + 1) := ey_6.trans (nI_add o.cl 1)
  refine va_put (D := (dC, dI)) (ci := 7) (v := .int (nI (o.cl + 1))) (ty := .int) (C := R_Md) (T := F_Md) (N := 15) hx hb hw in_Md t_Md t_Md_ok n_Md hown hK hP hD hS 0 rfl rfl 6 (by decide) (hw (Cond.fieldLink "ClauseSearchModel" 53 "ClauseSearchModel" "clauses" "I") k_610) (fun _ h9 => h9) rfl (by decide +kernel) rfl rfl (Nat.le_of_ble_eq_true rfl) d_Md_clause_90 (fun H locs hP hD hS => ?_)
  have hP : va_P (dC, dI) vwCl [(e0, .inr (7, [.ref e1, .ref e2, .ref e3, .ref e4, .ref e5, .int (nI o.vc), .int (nI (o.cl + 1)), .int (nI o.gv), .int (nI o.na), .int o.sd, .int 0, .ref e6, .int (nI o.ln), .ref e7, .ref e8])), (e1, .inl (c1, 80000, .inl g_3)), (e2, .inl (c2, 4001, .inl o.fs)), (e3, .inl (c3, 20, .inl o.rw))] H := hP
  have hD : va_D A [(e0, .inr (7, [.ref e1, .ref e2, .ref e3, .ref e4, .ref e5, .int (nI o.vc), .int (nI (o.cl + 1)), .int (nI o.gv), .int (nI o.na), .int o.sd, .int 0, .ref e6, .int (nI o.ln), .ref e7, .ref e8])), (e1, .inl (c1, 80000, .inl g_3)), (e2, .inl (c2, 4001, .inl o.fs)), (e3, .inl (c3, 20, .inl o.rw))] := hD
  refine lv_aload_n hx hb d_Md_clause_93 rfl (lv_at hl 0 rfl) ?_
  refine va_get (D := (dC, dI)) (ci := 7) (v := .ref e2) (C := R_Md) (T := F_Md) (N := 15) hx hb hw in_Md hown hK hP 0 rfl rfl 1 (by decide) (hw (Cond.fieldLink "ClauseSearchModel" 14 "ClauseSearchModel" "first" "[I") k_605) (fun _ h9 => h9) rfl d_Md_clause_94 ?_
  refine lv_aload_n hx hb d_Md_clause_97 rfl (lv_at hl 0 rfl) ?_
  refine va_get (D := (dC, dI)) (ci := 7) (v := .int (nI (o.cl + 1))) (C := R_Md) (T := F_Md) (N := 15) hx hb hw in_Md hown hK hP 0 rfl rfl 6 (by decide) (hw (Cond.fieldLink "ClauseSearchModel" 53 "ClauseSearchModel" "clauses" "I") k_610) (fun _ h9 => h9) rfl d_Md_clause_98 ?_
  refine lv_aload_n hx hb d_Md_clause_101 rfl (lv_at hl 0 rfl) ?_
  refine va_get (D := (dC, dI)) (ci := 7) (v := .ref e2) (C := R_Md) (T := F_Md) (N := 15) hx hb hw in_Md hown hK hP 0 rfl rfl 1 (by decide) (hw (Cond.fieldLink "ClauseSearchModel" 14 "ClauseSearchModel" "first" "[I") k_605) (fun _ h9 => h9) rfl d_Md_clause_102 ?_
  refine lv_aload_n hx hb d_Md_clause_105 rfl (lv_at hl 0 rfl) ?_
  refine va_get (D := (dC, dI)) (ci := 7) (v := .int (nI (o.cl + 1))) (C := R_Md) (T := F_Md) (N := 15) hx hb hw in_Md hown hK hP 0 rfl rfl 6 (by decide) (hw (Cond.fieldLink "ClauseSearchModel" 53 "ClauseSearchModel" "clauses" "I") k_610) (fun _ h9 => h9) rfl d_Md_clause_106 ?_
  refine lv_iconst (v := nI 1) hx hb d_Md_clause_109 (by decide) ?_
  refine lv_isub hx hb d_Md_clause_110 ?_
  refine lv_topi (fun y_7 ey_7 => ?_)
  obtain rfl : y_7 = nI (o.cl + 1 - 1) := ey_7.trans (pk_sub (by omega))
  refine va_iald hx hb hK hP 2 1 rfl rfl (vp_in_nI (by omega) (by omega)) d_Md_clause_111 ?_
  refine lv_topi (fun y_8 ey_8 => ?_)
  rw [nI_clamp (by omega)] at ey_8
  rw [show o.cl + 1 - 1 = o.cl by omega, hPk.fs _ (Nat.le_refl _)] at ey_8
  subst ey_8
  refine lv_aload_n hx hb d_Md_clause_112 rfl (lv_at hl 0 rfl) ?_
  refine va_get (D := (dC, dI)) (ci := 7) (v := .int (nI o.gv)) (C := R_Md) (T := F_Md) (N := 15) hx hb hw in_Md hown hK hP 0 rfl rfl 7 (by decide) (hw (Cond.fieldLink "ClauseSearchModel" 50 "ClauseSearchModel" "given" "I") k_611) (fun _ h9 => h9) rfl d_Md_clause_113 ?_
  refine lv_iadd hx hb d_Md_clause_116 ?_
  refine lv_topi (fun y_9 ey_9 => ?_)
  obtain rfl : y_9 = nI (Bf o.cl + o.gv) := ey_9.trans (nI_add (Bf o.cl) o.gv)
  refine va_iast hx hb hK hP hD hS 2 1 rfl rfl (vp_in_nI (by omega) (by omega)) d_Md_clause_117 (fun H locs hP hD hS => ?_)
  rw [nI_clamp (n := o.cl + 1) (by omega)] at hP hD
  have hP : va_P (dC, dI) vwCl [(e0, .inr (7, [.ref e1, .ref e2, .ref e3, .ref e4, .ref e5, .int (nI o.vc), .int (nI (o.cl + 1)), .int (nI o.gv), .int (nI o.na), .int o.sd, .int 0, .ref e6, .int (nI o.ln), .ref e7, .ref e8])), (e1, .inl (c1, 80000, .inl g_3)), (e2, .inl (c2, 4001, .inl (upd o.fs (o.cl + 1) (nI (Bf o.cl + o.gv))))), (e3, .inl (c3, 20, .inl o.rw))] H := hP
  have hD : va_D A [(e0, .inr (7, [.ref e1, .ref e2, .ref e3, .ref e4, .ref e5, .int (nI o.vc), .int (nI (o.cl + 1)), .int (nI o.gv), .int (nI o.na), .int o.sd, .int 0, .ref e6, .int (nI o.ln), .ref e7, .ref e8])), (e1, .inl (c1, 80000, .inl g_3)), (e2, .inl (c2, 4001, .inl (upd o.fs (o.cl + 1) (nI (Bf o.cl + o.gv))))), (e3, .inl (c3, 20, .inl o.rw))] := hD
  refine lv_aload_n hx hb d_Md_clause_118 rfl (lv_at hl 0 rfl) ?_
  refine lv_iconst (v := nI 0) hx hb d_Md_clause_119 (by decide) ?_
  refine va_put (D := (dC, dI)) (ci := 7) (v := .int (nI 0)) (ty := .int) (C := R_Md) (T := F_Md) (N := 15) hx hb hw in_Md t_Md t_Md_ok n_Md hown hK hP hD hS 0 rfl rfl 7 (by decide) (hw (Cond.fieldLink "ClauseSearchModel" 50 "ClauseSearchModel" "given" "I") k_611) (fun _ h9 => h9) rfl (by decide +kernel) rfl rfl (Nat.le_of_ble_eq_true rfl) d_Md_clause_120 (fun H locs hP hD hS => ?_)
  have hP : va_P (dC, dI) vwCl [(e0, .inr (7, [.ref e1, .ref e2, .ref e3, .ref e4, .ref e5, .int (nI o.vc), .int (nI (o.cl + 1)), .int (nI 0), .int (nI o.na), .int o.sd, .int 0, .ref e6, .int (nI o.ln), .ref e7, .ref e8])), (e1, .inl (c1, 80000, .inl g_3)), (e2, .inl (c2, 4001, .inl (upd o.fs (o.cl + 1) (nI (Bf o.cl + o.gv))))), (e3, .inl (c3, 20, .inl o.rw))] H := hP
  have hD : va_D A [(e0, .inr (7, [.ref e1, .ref e2, .ref e3, .ref e4, .ref e5, .int (nI o.vc), .int (nI (o.cl + 1)), .int (nI 0), .int (nI o.na), .int o.sd, .int 0, .ref e6, .int (nI o.ln), .ref e7, .ref e8])), (e1, .inl (c1, 80000, .inl g_3)), (e2, .inl (c2, 4001, .inl (upd o.fs (o.cl + 1) (nI (Bf o.cl + o.gv))))), (e3, .inl (c3, 20, .inl o.rw))] := hD
  refine lv_aload_n hx hb d_Md_clause_123 rfl (lv_at hl 0 rfl) ?_
  refine lv_iconst (v := 0) hx hb d_Md_clause_124 (by decide) ?_
  refine va_put (D := (dC, dI)) (ci := 7) (v := .int 0) (ty := .boolean) (C := R_Md) (T := F_Md) (N := 15) hx hb hw in_Md t_Md t_Md_ok n_Md hown hK hP hD hS 0 rfl rfl 9 (by decide) (hw (Cond.fieldLink "ClauseSearchModel" 46 "ClauseSearchModel" "stands" "Z") k_613) (fun _ h9 => h9) rfl (by decide +kernel) rfl rfl (Nat.le_of_ble_eq_true rfl) d_Md_clause_125 (fun H locs hP hD hS => ?_)
  have hP : va_P (dC, dI) vwCl [(e0, .inr (7, [.ref e1, .ref e2, .ref e3, .ref e4, .ref e5, .int (nI o.vc), .int (nI (o.cl + 1)), .int (nI 0), .int (nI o.na), .int 0, .int 0, .ref e6, .int (nI o.ln), .ref e7, .ref e8])), (e1, .inl (c1, 80000, .inl g_3)), (e2, .inl (c2, 4001, .inl (upd o.fs (o.cl + 1) (nI (Bf o.cl + o.gv))))), (e3, .inl (c3, 20, .inl o.rw))] H := hP
  have hD : va_D A [(e0, .inr (7, [.ref e1, .ref e2, .ref e3, .ref e4, .ref e5, .int (nI o.vc), .int (nI (o.cl + 1)), .int (nI 0), .int (nI o.na), .int 0, .int 0, .ref e6, .int (nI o.ln), .ref e7, .ref e8])), (e1, .inl (c1, 80000, .inl g_3)), (e2, .inl (c2, 4001, .inl (upd o.fs (o.cl + 1) (nI (Bf o.cl + o.gv))))), (e3, .inl (c3, 20, .inl o.rw))] := hD
  refine lv_aload_n hx hb d_Md_clause_128 rfl (lv_at hl 0 rfl) ?_
  refine va_get (D := (dC, dI)) (ci := 7) (v := .int (nI (o.cl + 1))) (C := R_Md) (T := F_Md) (N := 15) hx hb hw in_Md hown hK hP 0 rfl rfl 6 (by decide) (hw (Cond.fieldLink "ClauseSearchModel" 53 "ClauseSearchModel" "clauses" "I") k_610) (fun _ h9 => h9) rfl d_Md_clause_129 ?_
  have hK := hK.sub (tys' := [(c1, .int), (c2, .int), (c3, .int)]) [0, 1, 2] rfl
  refine W.widen (k := 0) (n := 0) (by decide) (by decide) ?_
  exact W.iret (v := nI (o.cl + 1)) hx hb hr (fun t ht hW => ⟨⟨nI (o.cl + 1), nI (o.cl + 1), rfl, rfl, g_3, rfl, f_4, f_5, by rw [ht]; exact hP, va_K.moved hW.alike hK, hD⟩, hS.F ht⟩) hS.2.2 d_Md_clause_132

set_option maxHeartbeats 4000000 in
set_option maxRecDepth 100000 in
/-- value(v) refuses v -/
theorem c_Md_value_1 (l : Launch) (dC : Nat → ClassId) (dI : Nat → Nat → Nat) (e0 : Nat) (e1 : Nat) (e2 : Nat) (e3 : Nat) (e4 : Nat) (e5 : Nat) (e6 : Nat) (e7 : Nat) (e8 : Nat) (sz : Nat) (o : Dx) (p0 : Int32) (h : p0 < 1 ∨ nI o.vc < p0) : Met l y_Md_value (wq y_Md_value prog_9_method_14_code 2 (some .boolean)) ({ frames := 1, cells := 0, slots := 0, locals := 22 }) (va_Pc [.ref e0, .int p0] (fun U => U.heap.size = sz ∧ va_P (dC, dI) vwCl [(e0, .inr (7, [.ref e1, .ref e2, .ref e3, .ref e4, .ref e5, .int (nI o.vc), .int (nI o.cl), .int (nI o.gv), .int (nI o.na), .int o.sd, .int o.cd, .ref e6, .int (nI o.ln), .ref e7, .ref e8]))] U.heap ∧ va_K (dC, dI) vwCl [] U ∧ va_D (fun _ => True) [(e0, .inr (7, [.ref e1, .ref e2, .ref e3, .ref e4, .ref e5, .int (nI o.vc), .int (nI o.cl), .int (nI o.gv), .int (nI o.na), .int o.sd, .int o.cd, .ref e6, .int (nI o.ln), .ref e7, .ref e8]))])) (va_Qi (fun (r : Int32) (r9 : Int32) => r = r9) (fun (r9 : Int32) t => r9 = 0 ∧ va_P (dC, dI) vwCl [(e0, .inr (7, [.ref e1, .ref e2, .ref e3, .ref e4, .ref e5, .int (nI o.vc), .int (nI o.cl), .int (nI o.gv), .int (nI o.na), .int o.sd, .int 1, .ref e6, .int (nI o.ln), .ref e7, .ref e8]))] t.heap ∧ va_K (dC, dI) vwCl [] t ∧ va_D (va_A [(e0, .inr (7, [.ref e1, .ref e2, .ref e3, .ref e4, .ref e5, .int (nI o.vc), .int (nI o.cl), .int (nI o.gv), .int (nI o.na), .int o.sd, .int o.cd, .ref e6, .int (nI o.ln), .ref e7, .ref e8]))] sz) [(e0, .inr (7, [.ref e1, .ref e2, .ref e3, .ref e4, .ref e5, .int (nI o.vc), .int (nI o.cl), .int (nI o.gv), .int (nI o.na), .int o.sd, .int 1, .ref e6, .int (nI o.ln), .ref e7, .ref e8]))]) (va_A [(e0, .inr (7, [.ref e1, .ref e2, .ref e3, .ref e4, .ref e5, .int (nI o.vc), .int (nI o.cl), .int (nI o.gv), .int (nI o.na), .int o.sd, .int o.cd, .ref e6, .int (nI o.ln), .ref e7, .ref e8]))] sz)) (0) (0) (va_A [(e0, .inr (7, [.ref e1, .ref e2, .ref e3, .ref e4, .ref e5, .int (nI o.vc), .int (nI o.cl), .int (nI o.gv), .int (nI o.na), .int o.sd, .int o.cd, .ref e6, .int (nI o.ln), .ref e7, .ref e8]))] sz) := by
  refine Met.ofW (cc := prog_9_method_14_code) (maxL := 2) (ret := (some .boolean)) (by decide) rfl ?_
  intro p e s m args below meth c s₁ B hml hv
  obtain ⟨rfl, hsz, hP, hK, hD0⟩ := hv
  have hx := B.exec
  have hb := B.bytes
  have hr := B.returns
  have hw : ∀ w ∈ bg_W, w.before #[Value.ref e0, Value.int p0] s = true := fun w h => atoms_spec (ws := (wq y_Md_value prog_9_method_14_code 2 (some .boolean))) B.pre w (List.mem_cons_of_mem _ h)
  have hown : s.vm.findClass R_Md = some m.cls := findClass_of_methodNamed B.named
  have hlocks := B.notSynchronized
  subst hsz
  have hD := hD0.self (sz := s.heap.size)
  generalize hAe : va_A [(e0, .inr (7, [.ref e1, .ref e2, .ref e3, .ref e4, .ref e5, .int (nI o.vc), .int (nI o.cl), .int (nI o.gv), .int (nI o.na), .int o.sd, .int o.cd, .ref e6, .int (nI o.ln), .ref e7, .ref e8]))] s.heap.size = A at hD ⊢
  have hA : ∀ q : Nat, s.heap.size ≤ q → A q := fun q h => by rw [← hAe]; exact Or.inr h
  have hS : va_S A s.heap s.heap [] := va_S.rf
  have hP : va_P (dC, dI) vwCl [(e0, .inr (7, [.ref e1, .ref e2, .ref e3, .ref e4, .ref e5, .int (nI o.vc), .int (nI o.cl), .int (nI o.gv), .int (nI o.na), .int o.sd, .int o.cd, .ref e6, .int (nI o.ln), .ref e7, .ref e8]))] s.heap := hP
  have hl := lv_entry ([.ref e0, .int p0]) (n := 2) (Nat.le_of_ble_eq_true rfl)
  rw [lg_entry_eq]
  generalize (lg_sl ([.ref e0, .int p0]) ++ List.replicate (2 - (lg_sl ([.ref e0, .int p0])).length) Slot.unset).toArray = ls at hl ⊢
  have hl : lv_has ls 2 [(0, .ref e0), (1, .int p0)] := hl
  obtain ⟨H, hH⟩ : ∃ H : Heap, H = s.heap := ⟨_, rfl⟩
  rw [← hH] at hP
  have hS : va_S A s.heap H [] := by rw [hH]; exact va_S.rf
  show W p l e _ s m _ below meth c s.heap [] 0 0 _ _
  rw [← hH]
  refine lv_aload_n hx hb d_Md_value_0 rfl (lv_at hl 0 rfl) ?_
  refine lv_iload_n hx hb d_Md_value_1 rfl (lv_at hl 1 rfl) ?_
  refine lv_iconst (v := 1) hx hb d_Md_value_2 (by decide) ?_
  refine lv_icmp_lt (tgt := 18) hx hb d_Md_value_3 (by decide) (fun c_3 => ?_) (fun c_3 => ?_)
  · refine lv_iconst (v := 0) hx hb d_Md_value_18 (by decide) ?_
    refine lv_iconst (v := 1) hx hb d_Md_value_19 (by decide) ?_
    have hPc := hP.sub (ws' := [(e0, .inr (7, [.ref e1, .ref e2, .ref e3, .ref e4, .ref e5, .int (nI o.vc), .int (nI o.cl), .int (nI o.gv), .int (nI o.na), .int o.sd, .int o.cd, .ref e6, .int (nI o.ln), .ref e7, .ref e8]))]) [0] rfl
    have hDc := hD.sub (ws' := [(e0, .inr (7, [.ref e1, .ref e2, .ref e3, .ref e4, .ref e5, .int (nI o.vc), .int (nI o.cl), .int (nI o.gv), .int (nI o.na), .int o.sd, .int o.cd, .ref e6, .int (nI o.ln), .ref e7, .ref e8]))]) [0] (by decide) rfl
    have hKc := hK.sub (tys' := []) [] rfl
    have hFc := va_free (wc := [(e0, .inr (7, [.ref e1, .ref e2, .ref e3, .ref e4, .ref e5, .int (nI o.vc), .int (nI o.cl), .int (nI o.gv), .int (nI o.na), .int o.sd, .int o.cd, .ref e6, .int (nI o.ln), .ref e7, .ref e8]))]) hD hS hA [0] rfl
    refine va_calli (va_runV (As := [.int 0, .int 1]) (rest := []) ⟨hx, hb, hml, hown, hw⟩ (c_Md_good_0 l dC dI e0 e1 e2 e3 e4 e5 e6 e7 e8 H.size o 1) (cb_V (C := R_Md) 2 hw k_661 k_37 k_658 k_660 k_21 rfl rfl (by decide +kernel) ⟨Nat.le_of_ble_eq_true rfl, Nat.le_of_ble_eq_true rfl⟩) ⟨fun a U g mk q => by obtain ⟨q0, q1, qP, qK, qD⟩ := q; exact ⟨q0, q1, qP, va_K.moved (u := U) (U := U.calling g mk a) (Vm.Alike.refl U.vm) qK, qD⟩, va_recv hKc hPc (ci := 7) (q0 := 0) rfl rfl, fun U hU hW => ⟨rfl, by rw [hU], by rw [hU]; exact hPc, va_K.moved hW.alike hKc, hDc.weaken (fun _ _ _ _ => trivial)⟩⟩ rfl rfl hl.1 rfl (lv_room (Nat.le_of_ble_eq_true rfl)) d_Md_value_20 ⟨Nat.le_of_ble_eq_true rfl, Nat.le_of_ble_eq_true rfl⟩) hS (fun q _ h => hFc q h) hFc (fun r_1 u t H1 locs ht hvm hw9 hB hz1 hk1 hS => ?_)
    obtain ⟨er9, hP1, hK1, hD1⟩ := hB
    rw [ht] at hP1
    have hK1 := va_K.moved hvm.symm hK1
    obtain ⟨hP, hD⟩ := va_join (wr := []) (w1 := [(e0, .inr (7, [.ref e1, .ref e2, .ref e3, .ref e4, .ref e5, .int (nI o.vc), .int (nI o.cl), .int (nI o.gv), .int (nI o.na), .int o.sd, .int 1, .ref e6, .int (nI o.ln), .ref e7, .ref e8]))]) hP hD [0] [] rfl rfl (by decide) (by decide) hk1 hFc hP1 hD1
    generalize H1 = H at hP hS ⊢
    have hP : va_P (dC, dI) vwCl [(e0, .inr (7, [.ref e1, .ref e2, .ref e3, .ref e4, .ref e5, .int (nI o.vc), .int (nI o.cl), .int (nI o.gv), .int (nI o.na), .int o.sd, .int 1, .ref e6, .int (nI o.ln), .ref e7, .ref e8]))] H := hP
    have hD : va_D A [(e0, .inr (7, [.ref e1, .ref e2, .ref e3, .ref e4, .ref e5, .int (nI o.vc), .int (nI o.cl), .int (nI o.gv), .int (nI o.na), .int o.sd, .int 1, .ref e6, .int (nI o.ln), .ref e7, .ref e8]))] := hD
    refine W.widen (k := 0) (n := 0) (by decide) (by decide) ?_
    have hw9 : r_1 = 0 := hw9.trans er9
    subst hw9
    have hP : va_P (dC, dI) vwCl [(e0, .inr (7, [.ref e1, .ref e2, .ref e3, .ref e4, .ref e5, .int (nI o.vc), .int (nI o.cl), .int (nI o.gv), .int (nI o.na), .int o.sd, .int 1, .ref e6, .int (nI o.ln), .ref e7, .ref e8]))] H := hP
    have hD : va_D A [(e0, .inr (7, [.ref e1, .ref e2, .ref e3, .ref e4, .ref e5, .int (nI o.vc), .int (nI o.cl), .int (nI o.gv), .int (nI o.na), .int o.sd, .int 1, .ref e6, .int (nI o.ln), .ref e7, .ref e8]))] := hD
    refine lv_if_eq (tgt := 38) hx hb d_Md_value_23 (by decide) (fun c_23 => ?_) (fun c_23 => absurd c_23 (by decide))
    refine lv_iconst (v := 0) hx hb d_Md_value_38 (by decide) ?_
    have hK := hK.sub (tys' := []) [] rfl
    refine W.widen (k := 0) (n := 0) (by decide) (by decide) ?_
    exact W.zret (v := 0) hx hb hr rfl (fun t ht hW => ⟨⟨0, 0, rfl, rfl, rfl, by rw [ht]; exact hP, va_K.moved hW.alike hK, hD⟩, hS.F ht⟩) hS.2.2 d_Md_value_39
  · refine lv_iload_n hx hb d_Md_value_6 rfl (lv_at hl 1 rfl) ?_
    refine lv_aload_n hx hb d_Md_value_7 rfl (lv_at hl 0 rfl) ?_
    refine va_get (D := (dC, dI)) (ci := 7) (v := .int (nI o.vc)) (C := R_Md) (T := F_Md) (N := 15) hx hb hw in_Md hown hK hP 0 rfl rfl 5 (by decide) (hw (Cond.fieldLink "ClauseSearchModel" 43 "ClauseSearchModel" "variables" "I") k_609) (fun _ h9 => h9) rfl d_Md_value_8 ?_
    refine lv_icmp_gt (tgt := 18) hx hb d_Md_value_11 (by decide) (fun c_11 => ?_) (fun c_11 => absurd c_11 (by rcases h with h | h; exact absurd h c_3; exact fun q => q h))
    refine lv_iconst (v := 0) hx hb d_Md_value_18 (by decide) ?_
    refine lv_iconst (v := 1) hx hb d_Md_value_19 (by decide) ?_
    have hPc := hP.sub (ws' := [(e0, .inr (7, [.ref e1, .ref e2, .ref e3, .ref e4, .ref e5, .int (nI o.vc), .int (nI o.cl), .int (nI o.gv), .int (nI o.na), .int o.sd, .int o.cd, .ref e6, .int (nI o.ln), .ref e7, .ref e8]))]) [0] rfl
    have hDc := hD.sub (ws' := [(e0, .inr (7, [.ref e1, .ref e2, .ref e3, .ref e4, .ref e5, .int (nI o.vc), .int (nI o.cl), .int (nI o.gv), .int (nI o.na), .int o.sd, .int o.cd, .ref e6, .int (nI o.ln), .ref e7, .ref e8]))]) [0] (by decide) rfl
    have hKc := hK.sub (tys' := []) [] rfl
    have hFc := va_free (wc := [(e0, .inr (7, [.ref e1, .ref e2, .ref e3, .ref e4, .ref e5, .int (nI o.vc), .int (nI o.cl), .int (nI o.gv), .int (nI o.na), .int o.sd, .int o.cd, .ref e6, .int (nI o.ln), .ref e7, .ref e8]))]) hD hS hA [0] rfl
    refine va_calli (va_runV (As := [.int 0, .int 1]) (rest := []) ⟨hx, hb, hml, hown, hw⟩ (c_Md_good_0 l dC dI e0 e1 e2 e3 e4 e5 e6 e7 e8 H.size o 1) (cb_V (C := R_Md) 2 hw k_661 k_37 k_658 k_660 k_21 rfl rfl (by decide +kernel) ⟨Nat.le_of_ble_eq_true rfl, Nat.le_of_ble_eq_true rfl⟩) ⟨fun a U g mk q => by obtain ⟨q0, q1, qP, qK, qD⟩ := q; exact ⟨q0, q1, qP, va_K.moved (u := U) (U := U.calling g mk a) (Vm.Alike.refl U.vm) qK, qD⟩, va_recv hKc hPc (ci := 7) (q0 := 0) rfl rfl, fun U hU hW => ⟨rfl, by rw [hU], by rw [hU]; exact hPc, va_K.moved hW.alike hKc, hDc.weaken (fun _ _ _ _ => trivial)⟩⟩ rfl rfl hl.1 rfl (lv_room (Nat.le_of_ble_eq_true rfl)) d_Md_value_20 ⟨Nat.le_of_ble_eq_true rfl, Nat.le_of_ble_eq_true rfl⟩) hS (fun q _ h => hFc q h) hFc (fun r_2 u t H1 locs ht hvm hw9 hB hz1 hk1 hS => ?_)
    obtain ⟨er9, hP1, hK1, hD1⟩ := hB
    rw [ht] at hP1
    have hK1 := va_K.moved hvm.symm hK1
    obtain ⟨hP, hD⟩ := va_join (wr := []) (w1 := [(e0, .inr (7, [.ref e1, .ref e2, .ref e3, .ref e4, .ref e5, .int (nI o.vc), .int (nI o.cl), .int (nI o.gv), .int (nI o.na), .int o.sd, .int 1, .ref e6, .int (nI o.ln), .ref e7, .ref e8]))]) hP hD [0] [] rfl rfl (by decide) (by decide) hk1 hFc hP1 hD1
    generalize H1 = H at hP hS ⊢
    have hP : va_P (dC, dI) vwCl [(e0, .inr (7, [.ref e1, .ref e2, .ref e3, .ref e4, .ref e5, .int (nI o.vc), .int (nI o.cl), .int (nI o.gv), .int (nI o.na), .int o.sd, .int 1, .ref e6, .int (nI o.ln), .ref e7, .ref e8]))] H := hP
    have hD : va_D A [(e0, .inr (7, [.ref e1, .ref e2, .ref e3, .ref e4, .ref e5, .int (nI o.vc), .int (nI o.cl), .int (nI o.gv), .int (nI o.na), .int o.sd, .int 1, .ref e6, .int (nI o.ln), .ref e7, .ref e8]))] := hD
    refine W.widen (k := 0) (n := 0) (by decide) (by decide) ?_
    have hw9 : r_2 = 0 := hw9.trans er9
    subst hw9
    have hP : va_P (dC, dI) vwCl [(e0, .inr (7, [.ref e1, .ref e2, .ref e3, .ref e4, .ref e5, .int (nI o.vc), .int (nI o.cl), .int (nI o.gv), .int (nI o.na), .int o.sd, .int 1, .ref e6, .int (nI o.ln), .ref e7, .ref e8]))] H := hP
    have hD : va_D A [(e0, .inr (7, [.ref e1, .ref e2, .ref e3, .ref e4, .ref e5, .int (nI o.vc), .int (nI o.cl), .int (nI o.gv), .int (nI o.na), .int o.sd, .int 1, .ref e6, .int (nI o.ln), .ref e7, .ref e8]))] := hD
    refine lv_if_eq (tgt := 38) hx hb d_Md_value_23 (by decide) (fun c_23 => ?_) (fun c_23 => absurd c_23 (by decide))
    refine lv_iconst (v := 0) hx hb d_Md_value_38 (by decide) ?_
    have hK := hK.sub (tys' := []) [] rfl
    refine W.widen (k := 0) (n := 0) (by decide) (by decide) ?_
    exact W.zret (v := 0) hx hb hr rfl (fun t ht hW => ⟨⟨0, 0, rfl, rfl, rfl, by rw [ht]; exact hP, va_K.moved hW.alike hK, hD⟩, hS.F ht⟩) hS.2.2 d_Md_value_39

set_option maxHeartbeats 4000000 in
set_option maxRecDepth 100000 in
/-- value(v): no way stands -/
theorem c_Md_value_2 (l : Launch) (dC : Nat → ClassId) (dI : Nat → Nat → Nat) (e0 : Nat) (e1 : Nat) (e2 : Nat) (e3 : Nat) (e4 : Nat) (e5 : Nat) (e6 : Nat) (e7 : Nat) (e8 : Nat) (sz : Nat) (o : Dx) (n0 : Nat) (hn1 : 1 ≤ n0) (hn2 : n0 ≤ o.vc) (hvc : o.vc ≤ 400) (hsd : o.sd = 0) : Met l y_Md_value (wq y_Md_value prog_9_method_14_code 2 (some .boolean)) ({ frames := 1, cells := 0, slots := 0, locals := 22 }) (va_Pc [.ref e0, .int (nI n0)] (fun U => U.heap.size = sz ∧ va_P (dC, dI) vwCl [(e0, .inr (7, [.ref e1, .ref e2, .ref e3, .ref e4, .ref e5, .int (nI o.vc), .int (nI o.cl), .int (nI o.gv), .int (nI o.na), .int 0, .int o.cd, .ref e6, .int (nI o.ln), .ref e7, .ref e8]))] U.heap ∧ va_K (dC, dI) vwCl [] U ∧ va_D (fun _ => True) [(e0, .inr (7, [.ref e1, .ref e2, .ref e3, .ref e4, .ref e5, .int (nI o.vc), .int (nI o.cl), .int (nI o.gv), .int (nI o.na), .int 0, .int o.cd, .ref e6, .int (nI o.ln), .ref e7, .ref e8]))])) (va_Qi (fun (r : Int32) (r9 : Int32) => r = r9) (fun (r9 : Int32) t => r9 = 0 ∧ va_P (dC, dI) vwCl [(e0, .inr (7, [.ref e1, .ref e2, .ref e3, .ref e4, .ref e5, .int (nI o.vc), .int (nI o.cl), .int (nI o.gv), .int (nI o.na), .int 0, .int 2, .ref e6, .int (nI o.ln), .ref e7, .ref e8]))] t.heap ∧ va_K (dC, dI) vwCl [] t ∧ va_D (va_A [(e0, .inr (7, [.ref e1, .ref e2, .ref e3, .ref e4, .ref e5, .int (nI o.vc), .int (nI o.cl), .int (nI o.gv), .int (nI o.na), .int 0, .int o.cd, .ref e6, .int (nI o.ln), .ref e7, .ref e8]))] sz) [(e0, .inr (7, [.ref e1, .ref e2, .ref e3, .ref e4, .ref e5, .int (nI o.vc), .int (nI o.cl), .int (nI o.gv), .int (nI o.na), .int 0, .int 2, .ref e6, .int (nI o.ln), .ref e7, .ref e8]))]) (va_A [(e0, .inr (7, [.ref e1, .ref e2, .ref e3, .ref e4, .ref e5, .int (nI o.vc), .int (nI o.cl), .int (nI o.gv), .int (nI o.na), .int 0, .int o.cd, .ref e6, .int (nI o.ln), .ref e7, .ref e8]))] sz)) (0) (0) (va_A [(e0, .inr (7, [.ref e1, .ref e2, .ref e3, .ref e4, .ref e5, .int (nI o.vc), .int (nI o.cl), .int (nI o.gv), .int (nI o.na), .int 0, .int o.cd, .ref e6, .int (nI o.ln), .ref e7, .ref e8]))] sz) := by
  refine Met.ofW (cc := prog_9_method_14_code) (maxL := 2) (ret := (some .boolean)) (by decide) rfl ?_
  intro p e s m args below meth c s₁ B hml hv
  obtain ⟨rfl, hsz, hP, hK, hD0⟩ := hv
  have hx := B.exec
  have hb := B.bytes
  have hr := B.returns
  have hw : ∀ w ∈ bg_W, w.before #[Value.ref e0, Value.int (nI n0)] s = true := fun w h => atoms_spec (ws := (wq y_Md_value prog_9_method_14_code 2 (some .boolean))) B.pre w (List.mem_cons_of_mem _ h)
  have hown : s.vm.findClass R_Md = some m.cls := findClass_of_methodNamed B.named
  have hlocks := B.notSynchronized
  subst hsz
  have hD := hD0.self (sz := s.heap.size)
  generalize hAe : va_A [(e0, .inr (7, [.ref e1, .ref e2, .ref e3, .ref e4, .ref e5, .int (nI o.vc), .int (nI o.cl), .int (nI o.gv), .int (nI o.na), .int 0, .int o.cd, .ref e6, .int (nI o.ln), .ref e7, .ref e8]))] s.heap.size = A at hD ⊢
  have hA : ∀ q : Nat, s.heap.size ≤ q → A q := fun q h => by rw [← hAe]; exact Or.inr h
  have hS : va_S A s.heap s.heap [] := va_S.rf
  have hP : va_P (dC, dI) vwCl [(e0, .inr (7, [.ref e1, .ref e2, .ref e3, .ref e4, .ref e5, .int (nI o.vc), .int (nI o.cl), .int (nI o.gv), .int (nI o.na), .int 0, .int o.cd, .ref e6, .int (nI o.ln), .ref e7, .ref e8]))] s.heap := hP
  have hl := lv_entry ([.ref e0, .int (nI n0)]) (n := 2) (Nat.le_of_ble_eq_true rfl)
  rw [lg_entry_eq]
  generalize (lg_sl ([.ref e0, .int (nI n0)]) ++ List.replicate (2 - (lg_sl ([.ref e0, .int (nI n0)])).length) Slot.unset).toArray = ls at hl ⊢
  have hl : lv_has ls 2 [(0, .ref e0), (1, .int (nI n0))] := hl
  obtain ⟨H, hH⟩ : ∃ H : Heap, H = s.heap := ⟨_, rfl⟩
  rw [← hH] at hP
  have hS : va_S A s.heap H [] := by rw [hH]; exact va_S.rf
  show W p l e _ s m _ below meth c s.heap [] 0 0 _ _
  rw [← hH]
  refine lv_aload_n hx hb d_Md_value_0 rfl (lv_at hl 0 rfl) ?_
  refine lv_iload_n hx hb d_Md_value_1 rfl (lv_at hl 1 rfl) ?_
  refine lv_iconst (v := nI 1) hx hb d_Md_value_2 (by decide) ?_
  refine lv_icmp_lt (tgt := 18) hx hb d_Md_value_3 (by decide) (fun c_3 => by exfalso; have c_3 : n0 < 1 := (nI_ltI (a := n0) (b := 1) (by omega) (by omega)).mp c_3; omega) (fun c_3 => ?_)
  have c_3 : ¬ (n0 < 1) := fun qq9 => c_3 ((nI_ltI (a := n0) (b := 1) (by omega) (by omega)).mpr qq9)
  refine lv_iload_n hx hb d_Md_value_6 rfl (lv_at hl 1 rfl) ?_
  refine lv_aload_n hx hb d_Md_value_7 rfl (lv_at hl 0 rfl) ?_
  refine va_get (D := (dC, dI)) (ci := 7) (v := .int (nI o.vc)) (C := R_Md) (T := F_Md) (N := 15) hx hb hw in_Md hown hK hP 0 rfl rfl 5 (by decide) (hw (Cond.fieldLink "ClauseSearchModel" 43 "ClauseSearchModel" "variables" "I") k_609) (fun _ h9 => h9) rfl d_Md_value_8 ?_
  refine lv_icmp_gt (tgt := 18) hx hb d_Md_value_11 (by decide) (fun c_11 => by exfalso; have c_11 : o.vc < n0 := (nI_ltI (a := o.vc) (b := n0) (by omega) (by omega)).mp c_11; omega) (fun c_11 => ?_)
  have c_11 : ¬ (o.vc < n0) := fun qq9 => c_11 ((nI_ltI (a := o.vc) (b := n0) (by omega) (by omega)).mpr qq9)
  refine lv_iconst (v := 1) hx hb d_Md_value_14 (by decide) ?_
  refine lv_goto (tgt := 19) hx hb d_Md_value_15 (by decide) ?_
  refine lv_iconst (v := 1) hx hb d_Md_value_19 (by decide) ?_
  have hPc := hP.sub (ws' := [(e0, .inr (7, [.ref e1, .ref e2, .ref e3, .ref e4, .ref e5, .int (nI (Dx.of o.lt o.fs o.rw o.am o.wv o.tl o.ch o.mk o.vc o.cl o.gv o.na o.ln 0 o.cd o.X).vc), .int (nI (Dx.of o.lt o.fs o.rw o.am o.wv o.tl o.ch o.mk o.vc o.cl o.gv o.na o.ln 0 o.cd o.X).cl), .int (nI (Dx.of o.lt o.fs o.rw o.am o.wv o.tl o.ch o.mk o.vc o.cl o.gv o.na o.ln 0 o.cd o.X).gv), .int (nI (Dx.of o.lt o.fs o.rw o.am o.wv o.tl o.ch o.mk o.vc o.cl o.gv o.na o.ln 0 o.cd o.X).na), .int (Dx.of o.lt o.fs o.rw o.am o.wv o.tl o.ch o.mk o.vc o.cl o.gv o.na o.ln 0 o.cd o.X).sd, .int (Dx.of o.lt o.fs o.rw o.am o.wv o.tl o.ch o.mk o.vc o.cl o.gv o.na o.ln 0 o.cd o.X).cd, .ref e6, .int (nI (Dx.of o.lt o.fs o.rw o.am o.wv o.tl o.ch o.mk o.vc o.cl o.gv o.na o.ln 0 o.cd o.X).ln), .ref e7, .ref e8]))]) [0] rfl
  have hDc := hD.sub (ws' := [(e0, .inr (7, [.ref e1, .ref e2, .ref e3, .ref e4, .ref e5, .int (nI (Dx.of o.lt o.fs o.rw o.am o.wv o.tl o.ch o.mk o.vc o.cl o.gv o.na o.ln 0 o.cd o.X).vc), .int (nI (Dx.of o.lt o.fs o.rw o.am o.wv o.tl o.ch o.mk o.vc o.cl o.gv o.na o.ln 0 o.cd o.X).cl), .int (nI (Dx.of o.lt o.fs o.rw o.am o.wv o.tl o.ch o.mk o.vc o.cl o.gv o.na o.ln 0 o.cd o.X).gv), .int (nI (Dx.of o.lt o.fs o.rw o.am o.wv o.tl o.ch o.mk o.vc o.cl o.gv o.na o.ln 0 o.cd o.X).na), .int (Dx.of o.lt o.fs o.rw o.am o.wv o.tl o.ch o.mk o.vc o.cl o.gv o.na o.ln 0 o.cd o.X).sd, .int (Dx.of o.lt o.fs o.rw o.am o.wv o.tl o.ch o.mk o.vc o.cl o.gv o.na o.ln 0 o.cd o.X).cd, .ref e6, .int (nI (Dx.of o.lt o.fs o.rw o.am o.wv o.tl o.ch o.mk o.vc o.cl o.gv o.na o.ln 0 o.cd o.X).ln), .ref e7, .ref e8]))]) [0] (by decide) rfl
  have hKc := hK.sub (tys' := []) [] rfl
  have hFc := va_free (wc := [(e0, .inr (7, [.ref e1, .ref e2, .ref e3, .ref e4, .ref e5, .int (nI (Dx.of o.lt o.fs o.rw o.am o.wv o.tl o.ch o.mk o.vc o.cl o.gv o.na o.ln 0 o.cd o.X).vc), .int (nI (Dx.of o.lt o.fs o.rw o.am o.wv o.tl o.ch o.mk o.vc o.cl o.gv o.na o.ln 0 o.cd o.X).cl), .int (nI (Dx.of o.lt o.fs o.rw o.am o.wv o.tl o.ch o.mk o.vc o.cl o.gv o.na o.ln 0 o.cd o.X).gv), .int (nI (Dx.of o.lt o.fs o.rw o.am o.wv o.tl o.ch o.mk o.vc o.cl o.gv o.na o.ln 0 o.cd o.X).na), .int (Dx.of o.lt o.fs o.rw o.am o.wv o.tl o.ch o.mk o.vc o.cl o.gv o.na o.ln 0 o.cd o.X).sd, .int (Dx.of o.lt o.fs o.rw o.am o.wv o.tl o.ch o.mk o.vc o.cl o.gv o.na o.ln 0 o.cd o.X).cd, .ref e6, .int (nI (Dx.of o.lt o.fs o.rw o.am o.wv o.tl o.ch o.mk o.vc o.cl o.gv o.na o.ln 0 o.cd o.X).ln), .ref e7, .ref e8]))]) hD hS hA [0] rfl
  refine va_calli (va_runV (As := [.int 1, .int 1]) (rest := []) ⟨hx, hb, hml, hown, hw⟩ (c_Md_good_1 l dC dI e0 e1 e2 e3 e4 e5 e6 e7 e8 H.size (Dx.of o.lt o.fs o.rw o.am o.wv o.tl o.ch o.mk o.vc o.cl o.gv o.na o.ln 0 o.cd o.X) 1) (cb_V (C := R_Md) 2 hw k_661 k_37 k_658 k_660 k_21 rfl rfl (by decide +kernel) ⟨Nat.le_of_ble_eq_true rfl, Nat.le_of_ble_eq_true rfl⟩) ⟨fun a U g mk q => by obtain ⟨q0, q1, qP, qK, qD⟩ := q; exact ⟨q0, q1, qP, va_K.moved (u := U) (U := U.calling g mk a) (Vm.Alike.refl U.vm) qK, qD⟩, va_recv hKc hPc (ci := 7) (q0 := 0) rfl rfl, fun U hU hW => ⟨rfl, by rw [hU], by rw [hU]; exact hPc, va_K.moved hW.alike hKc, hDc.weaken (fun _ _ _ _ => trivial)⟩⟩ rfl rfl hl.1 rfl (lv_room (Nat.le_of_ble_eq_true rfl)) d_Md_value_20 ⟨Nat.le_of_ble_eq_true rfl, Nat.le_of_ble_eq_true rfl⟩) hS (fun q _ h => hFc q h) hFc (fun r_1 u t H1 locs ht hvm hw9 hB hz1 hk1 hS => ?_)
  obtain ⟨er9, hP1, hK1, hD1⟩ := hB
  rw [ht] at hP1
  have hK1 := va_K.moved hvm.symm hK1
  obtain ⟨hP, hD⟩ := va_join (wr := []) (w1 := [(e0, .inr (7, [.ref e1, .ref e2, .ref e3, .ref e4, .ref e5, .int (nI (Dx.of o.lt o.fs o.rw o.am o.wv o.tl o.ch o.mk o.vc o.cl o.gv o.na o.ln 0 o.cd o.X).vc), .int (nI (Dx.of o.lt o.fs o.rw o.am o.wv o.tl o.ch o.mk o.vc o.cl o.gv o.na o.ln 0 o.cd o.X).cl), .int (nI (Dx.of o.lt o.fs o.rw o.am o.wv o.tl o.ch o.mk o.vc o.cl o.gv o.na o.ln 0 o.cd o.X).gv), .int (nI (Dx.of o.lt o.fs o.rw o.am o.wv o.tl o.ch o.mk o.vc o.cl o.gv o.na o.ln 0 o.cd o.X).na), .int (Dx.of o.lt o.fs o.rw o.am o.wv o.tl o.ch o.mk o.vc o.cl o.gv o.na o.ln 0 o.cd o.X).sd, .int 0, .ref e6, .int (nI (Dx.of o.lt o.fs o.rw o.am o.wv o.tl o.ch o.mk o.vc o.cl o.gv o.na o.ln 0 o.cd o.X).ln), .ref e7, .ref e8]))]) hP hD [0] [] rfl rfl (by decide) (by decide) hk1 hFc hP1 hD1
  generalize H1 = H at hP hS ⊢
  have hP : va_P (dC, dI) vwCl [(e0, .inr (7, [.ref e1, .ref e2, .ref e3, .ref e4, .ref e5, .int (nI (Dx.of o.lt o.fs o.rw o.am o.wv o.tl o.ch o.mk o.vc o.cl o.gv o.na o.ln 0 o.cd o.X).vc), .int (nI (Dx.of o.lt o.fs o.rw o.am o.wv o.tl o.ch o.mk o.vc o.cl o.gv o.na o.ln 0 o.cd o.X).cl), .int (nI (Dx.of o.lt o.fs o.rw o.am o.wv o.tl o.ch o.mk o.vc o.cl o.gv o.na o.ln 0 o.cd o.X).gv), .int (nI (Dx.of o.lt o.fs o.rw o.am o.wv o.tl o.ch o.mk o.vc o.cl o.gv o.na o.ln 0 o.cd o.X).na), .int (Dx.of o.lt o.fs o.rw o.am o.wv o.tl o.ch o.mk o.vc o.cl o.gv o.na o.ln 0 o.cd o.X).sd, .int 0, .ref e6, .int (nI (Dx.of o.lt o.fs o.rw o.am o.wv o.tl o.ch o.mk o.vc o.cl o.gv o.na o.ln 0 o.cd o.X).ln), .ref e7, .ref e8]))] H := hP
  have hD : va_D A [(e0, .inr (7, [.ref e1, .ref e2, .ref e3, .ref e4, .ref e5, .int (nI (Dx.of o.lt o.fs o.rw o.am o.wv o.tl o.ch o.mk o.vc o.cl o.gv o.na o.ln 0 o.cd o.X).vc), .int (nI (Dx.of o.lt o.fs o.rw o.am o.wv o.tl o.ch o.mk o.vc o.cl o.gv o.na o.ln 0 o.cd o.X).cl), .int (nI (Dx.of o.lt o.fs o.rw o.am o.wv o.tl o.ch o.mk o.vc o.cl o.gv o.na o.ln 0 o.cd o.X).gv), .int (nI (Dx.of o.lt o.fs o.rw o.am o.wv o.tl o.ch o.mk o.vc o.cl o.gv o.na o.ln 0 o.cd o.X).na), .int (Dx.of o.lt o.fs o.rw o.am o.wv o.tl o.ch o.mk o.vc o.cl o.gv o.na o.ln 0 o.cd o.X).sd, .int 0, .ref e6, .int (nI (Dx.of o.lt o.fs o.rw o.am o.wv o.tl o.ch o.mk o.vc o.cl o.gv o.na o.ln 0 o.cd o.X).ln), .ref e7, .ref e8]))] := hD
  refine W.widen (k := 0) (n := 0) (by decide) (by decide) ?_
  have hw9 : r_1 = 1 := hw9.trans er9
  subst hw9
  have hP : va_P (dC, dI) vwCl [(e0, .inr (7, [.ref e1, .ref e2, .ref e3, .ref e4, .ref e5, .int (nI o.vc), .int (nI o.cl), .int (nI o.gv), .int (nI o.na), .int 0, .int 0, .ref e6, .int (nI o.ln), .ref e7, .ref e8]))] H := hP
  have hD : va_D A [(e0, .inr (7, [.ref e1, .ref e2, .ref e3, .ref e4, .ref e5, .int (nI o.vc), .int (nI o.cl), .int (nI o.gv), .int (nI o.na), .int 0, .int 0, .ref e6, .int (nI o.ln), .ref e7, .ref e8]))] := hD
  refine lv_if_eq (tgt := 38) hx hb d_Md_value_23 (by decide) (fun c_23 => absurd c_23 (by decide)) (fun c_23 => ?_)
  refine lv_aload_n hx hb d_Md_value_26 rfl (lv_at hl 0 rfl) ?_
  refine lv_aload_n hx hb d_Md_value_27 rfl (lv_at hl 0 rfl) ?_
  refine va_get (D := (dC, dI)) (ci := 7) (v := .int 0) (C := R_Md) (T := F_Md) (N := 15) hx hb hw in_Md hown hK hP 0 rfl rfl 9 (by decide) (hw (Cond.fieldLink "ClauseSearchModel" 46 "ClauseSearchModel" "stands" "Z") k_613) (fun _ h9 => h9) rfl d_Md_value_28 ?_
  refine lv_iconst (v := 2) hx hb d_Md_value_31 (by decide) ?_
  have hPc := hP.sub (ws' := [(e0, .inr (7, [.ref e1, .ref e2, .ref e3, .ref e4, .ref e5, .int (nI (Dx.of o.lt o.fs o.rw o.am o.wv o.tl o.ch o.mk o.vc o.cl o.gv o.na o.ln 0 0 o.X).vc), .int (nI (Dx.of o.lt o.fs o.rw o.am o.wv o.tl o.ch o.mk o.vc o.cl o.gv o.na o.ln 0 0 o.X).cl), .int (nI (Dx.of o.lt o.fs o.rw o.am o.wv o.tl o.ch o.mk o.vc o.cl o.gv o.na o.ln 0 0 o.X).gv), .int (nI (Dx.of o.lt o.fs o.rw o.am o.wv o.tl o.ch o.mk o.vc o.cl o.gv o.na o.ln 0 0 o.X).na), .int (Dx.of o.lt o.fs o.rw o.am o.wv o.tl o.ch o.mk o.vc o.cl o.gv o.na o.ln 0 0 o.X).sd, .int (Dx.of o.lt o.fs o.rw o.am o.wv o.tl o.ch o.mk o.vc o.cl o.gv o.na o.ln 0 0 o.X).cd, .ref e6, .int (nI (Dx.of o.lt o.fs o.rw o.am o.wv o.tl o.ch o.mk o.vc o.cl o.gv o.na o.ln 0 0 o.X).ln), .ref e7, .ref e8]))]) [0] rfl
  have hDc := hD.sub (ws' := [(e0, .inr (7, [.ref e1, .ref e2, .ref e3, .ref e4, .ref e5, .int (nI (Dx.of o.lt o.fs o.rw o.am o.wv o.tl o.ch o.mk o.vc o.cl o.gv o.na o.ln 0 0 o.X).vc), .int (nI (Dx.of o.lt o.fs o.rw o.am o.wv o.tl o.ch o.mk o.vc o.cl o.gv o.na o.ln 0 0 o.X).cl), .int (nI (Dx.of o.lt o.fs o.rw o.am o.wv o.tl o.ch o.mk o.vc o.cl o.gv o.na o.ln 0 0 o.X).gv), .int (nI (Dx.of o.lt o.fs o.rw o.am o.wv o.tl o.ch o.mk o.vc o.cl o.gv o.na o.ln 0 0 o.X).na), .int (Dx.of o.lt o.fs o.rw o.am o.wv o.tl o.ch o.mk o.vc o.cl o.gv o.na o.ln 0 0 o.X).sd, .int (Dx.of o.lt o.fs o.rw o.am o.wv o.tl o.ch o.mk o.vc o.cl o.gv o.na o.ln 0 0 o.X).cd, .ref e6, .int (nI (Dx.of o.lt o.fs o.rw o.am o.wv o.tl o.ch o.mk o.vc o.cl o.gv o.na o.ln 0 0 o.X).ln), .ref e7, .ref e8]))]) [0] (by decide) rfl
  have hKc := hK.sub (tys' := []) [] rfl
  have hFc := va_free (wc := [(e0, .inr (7, [.ref e1, .ref e2, .ref e3, .ref e4, .ref e5, .int (nI (Dx.of o.lt o.fs o.rw o.am o.wv o.tl o.ch o.mk o.vc o.cl o.gv o.na o.ln 0 0 o.X).vc), .int (nI (Dx.of o.lt o.fs o.rw o.am o.wv o.tl o.ch o.mk o.vc o.cl o.gv o.na o.ln 0 0 o.X).cl), .int (nI (Dx.of o.lt o.fs o.rw o.am o.wv o.tl o.ch o.mk o.vc o.cl o.gv o.na o.ln 0 0 o.X).gv), .int (nI (Dx.of o.lt o.fs o.rw o.am o.wv o.tl o.ch o.mk o.vc o.cl o.gv o.na o.ln 0 0 o.X).na), .int (Dx.of o.lt o.fs o.rw o.am o.wv o.tl o.ch o.mk o.vc o.cl o.gv o.na o.ln 0 0 o.X).sd, .int (Dx.of o.lt o.fs o.rw o.am o.wv o.tl o.ch o.mk o.vc o.cl o.gv o.na o.ln 0 0 o.X).cd, .ref e6, .int (nI (Dx.of o.lt o.fs o.rw o.am o.wv o.tl o.ch o.mk o.vc o.cl o.gv o.na o.ln 0 0 o.X).ln), .ref e7, .ref e8]))]) hD hS hA [0] rfl
  refine va_calli (va_runV (As := [.int 0, .int 2]) (rest := []) ⟨hx, hb, hml, hown, hw⟩ (c_Md_good_0 l dC dI e0 e1 e2 e3 e4 e5 e6 e7 e8 H.size (Dx.of o.lt o.fs o.rw o.am o.wv o.tl o.ch o.mk o.vc o.cl o.gv o.na o.ln 0 0 o.X) 2) (cb_V (C := R_Md) 2 hw k_661 k_37 k_658 k_660 k_21 rfl rfl (by decide +kernel) ⟨Nat.le_of_ble_eq_true rfl, Nat.le_of_ble_eq_true rfl⟩) ⟨fun a U g mk q => by obtain ⟨q0, q1, qP, qK, qD⟩ := q; exact ⟨q0, q1, qP, va_K.moved (u := U) (U := U.calling g mk a) (Vm.Alike.refl U.vm) qK, qD⟩, va_recv hKc hPc (ci := 7) (q0 := 0) rfl rfl, fun U hU hW => ⟨rfl, by rw [hU], by rw [hU]; exact hPc, va_K.moved hW.alike hKc, hDc.weaken (fun _ _ _ _ => trivial)⟩⟩ rfl rfl hl.1 rfl (lv_room (Nat.le_of_ble_eq_true rfl)) d_Md_value_32 ⟨Nat.le_of_ble_eq_true rfl, Nat.le_of_ble_eq_true rfl⟩) hS (fun q _ h => hFc q h) hFc (fun r_2 u t H1 locs ht hvm hw9 hB hz1 hk1 hS => ?_)
  obtain ⟨er9, hP1, hK1, hD1⟩ := hB
  rw [ht] at hP1
  have hK1 := va_K.moved hvm.symm hK1
  obtain ⟨hP, hD⟩ := va_join (wr := []) (w1 := [(e0, .inr (7, [.ref e1, .ref e2, .ref e3, .ref e4, .ref e5, .int (nI (Dx.of o.lt o.fs o.rw o.am o.wv o.tl o.ch o.mk o.vc o.cl o.gv o.na o.ln 0 0 o.X).vc), .int (nI (Dx.of o.lt o.fs o.rw o.am o.wv o.tl o.ch o.mk o.vc o.cl o.gv o.na o.ln 0 0 o.X).cl), .int (nI (Dx.of o.lt o.fs o.rw o.am o.wv o.tl o.ch o.mk o.vc o.cl o.gv o.na o.ln 0 0 o.X).gv), .int (nI (Dx.of o.lt o.fs o.rw o.am o.wv o.tl o.ch o.mk o.vc o.cl o.gv o.na o.ln 0 0 o.X).na), .int (Dx.of o.lt o.fs o.rw o.am o.wv o.tl o.ch o.mk o.vc o.cl o.gv o.na o.ln 0 0 o.X).sd, .int 2, .ref e6, .int (nI (Dx.of o.lt o.fs o.rw o.am o.wv o.tl o.ch o.mk o.vc o.cl o.gv o.na o.ln 0 0 o.X).ln), .ref e7, .ref e8]))]) hP hD [0] [] rfl rfl (by decide) (by decide) hk1 hFc hP1 hD1
  generalize H1 = H at hP hS ⊢
  have hP : va_P (dC, dI) vwCl [(e0, .inr (7, [.ref e1, .ref e2, .ref e3, .ref e4, .ref e5, .int (nI (Dx.of o.lt o.fs o.rw o.am o.wv o.tl o.ch o.mk o.vc o.cl o.gv o.na o.ln 0 0 o.X).vc), .int (nI (Dx.of o.lt o.fs o.rw o.am o.wv o.tl o.ch o.mk o.vc o.cl o.gv o.na o.ln 0 0 o.X).cl), .int (nI (Dx.of o.lt o.fs o.rw o.am o.wv o.tl o.ch o.mk o.vc o.cl o.gv o.na o.ln 0 0 o.X).gv), .int (nI (Dx.of o.lt o.fs o.rw o.am o.wv o.tl o.ch o.mk o.vc o.cl o.gv o.na o.ln 0 0 o.X).na), .int (Dx.of o.lt o.fs o.rw o.am o.wv o.tl o.ch o.mk o.vc o.cl o.gv o.na o.ln 0 0 o.X).sd, .int 2, .ref e6, .int (nI (Dx.of o.lt o.fs o.rw o.am o.wv o.tl o.ch o.mk o.vc o.cl o.gv o.na o.ln 0 0 o.X).ln), .ref e7, .ref e8]))] H := hP
  have hD : va_D A [(e0, .inr (7, [.ref e1, .ref e2, .ref e3, .ref e4, .ref e5, .int (nI (Dx.of o.lt o.fs o.rw o.am o.wv o.tl o.ch o.mk o.vc o.cl o.gv o.na o.ln 0 0 o.X).vc), .int (nI (Dx.of o.lt o.fs o.rw o.am o.wv o.tl o.ch o.mk o.vc o.cl o.gv o.na o.ln 0 0 o.X).cl), .int (nI (Dx.of o.lt o.fs o.rw o.am o.wv o.tl o.ch o.mk o.vc o.cl o.gv o.na o.ln 0 0 o.X).gv), .int (nI (Dx.of o.lt o.fs o.rw o.am o.wv o.tl o.ch o.mk o.vc o.cl o.gv o.na o.ln 0 0 o.X).na), .int (Dx.of o.lt o.fs o.rw o.am o.wv o.tl o.ch o.mk o.vc o.cl o.gv o.na o.ln 0 0 o.X).sd, .int 2, .ref e6, .int (nI (Dx.of o.lt o.fs o.rw o.am o.wv o.tl o.ch o.mk o.vc o.cl o.gv o.na o.ln 0 0 o.X).ln), .ref e7, .ref e8]))] := hD
  refine W.widen (k := 0) (n := 0) (by decide) (by decide) ?_
  have hw9 : r_2 = 0 := hw9.trans er9
  subst hw9
  have hP : va_P (dC, dI) vwCl [(e0, .inr (7, [.ref e1, .ref e2, .ref e3, .ref e4, .ref e5, .int (nI o.vc), .int (nI o.cl), .int (nI o.gv), .int (nI o.na), .int 0, .int 2, .ref e6, .int (nI o.ln), .ref e7, .ref e8]))] H := hP
  have hD : va_D A [(e0, .inr (7, [.ref e1, .ref e2, .ref e3, .ref e4, .ref e5, .int (nI o.vc), .int (nI o.cl), .int (nI o.gv), .int (nI o.na), .int 0, .int 2, .ref e6, .int (nI o.ln), .ref e7, .ref e8]))] := hD
  refine lv_if_ne (tgt := 40) hx hb d_Md_value_35 (by decide) (fun c_35 => absurd c_35 (by decide)) (fun c_35 => ?_)
  refine lv_iconst (v := 0) hx hb d_Md_value_38 (by decide) ?_
  have hK := hK.sub (tys' := []) [] rfl
  refine W.widen (k := 0) (n := 0) (by decide) (by decide) ?_
  exact W.zret (v := 0) hx hb hr rfl (fun t ht hW => ⟨⟨0, 0, rfl, rfl, rfl, by rw [ht]; exact hP, va_K.moved hW.alike hK, hD⟩, hS.F ht⟩) hS.2.2 d_Md_value_39

set_option maxHeartbeats 4000000 in
set_option maxRecDepth 100000 in
/-- value(v) -/
theorem c_Md_value (l : Launch) (dC : Nat → ClassId) (dI : Nat → Nat → Nat) (e0 : Nat) (e1 : Nat) (e2 : Nat) (e3 : Nat) (e4 : Nat) (e5 : Nat) (e6 : Nat) (e7 : Nat) (e8 : Nat) (c5 : ClassId) (sz : Nat) (o : Dx) (n0 : Nat) (hn1 : 1 ≤ n0) (hn2 : n0 ≤ o.vc) (hvc : o.vc ≤ 400) (hsd : o.sd = 1) : Met l y_Md_value (wq y_Md_value prog_9_method_14_code 2 (some .boolean)) ({ frames := 1, cells := 0, slots := 0, locals := 22 }) (va_Pc [.ref e0, .int (nI n0)] (fun U => U.heap.size = sz ∧ va_P (dC, dI) vwCl [(e0, .inr (7, [.ref e1, .ref e2, .ref e3, .ref e4, .ref e5, .int (nI o.vc), .int (nI o.cl), .int (nI o.gv), .int (nI o.na), .int 1, .int o.cd, .ref e6, .int (nI o.ln), .ref e7, .ref e8])), (e5, .inl (c5, 401, .inl o.wv))] U.heap ∧ va_K (dC, dI) vwCl [(c5, .int)] U ∧ va_D (fun _ => True) [(e0, .inr (7, [.ref e1, .ref e2, .ref e3, .ref e4, .ref e5, .int (nI o.vc), .int (nI o.cl), .int (nI o.gv), .int (nI o.na), .int 1, .int o.cd, .ref e6, .int (nI o.ln), .ref e7, .ref e8])), (e5, .inl (c5, 401, .inl o.wv))])) (va_Qi (fun (r : Int32) (r9 : Int32) => r = r9) (fun (r9 : Int32) t => va_P (dC, dI) vwCl [(e0, .inr (7, [.ref e1, .ref e2, .ref e3, .ref e4, .ref e5, .int (nI o.vc), .int (nI o.cl), .int (nI o.gv), .int (nI o.na), .int 1, .int 0, .ref e6, .int (nI o.ln), .ref e7, .ref e8])), (e5, .inl (c5, 401, .inl o.wv))] t.heap ∧ va_K (dC, dI) vwCl [(c5, .int)] t ∧ va_D (va_A [(e0, .inr (7, [.ref e1, .ref e2, .ref e3, .ref e4, .ref e5, .int (nI o.vc), .int (nI o.cl), .int (nI o.gv), .int (nI o.na), .int 1, .int o.cd, .ref e6, .int (nI o.ln), .ref e7, .ref e8])), (e5, .inl (c5, 401, .inl o.wv))] sz) [(e0, .inr (7, [.ref e1, .ref e2, .ref e3, .ref e4, .ref e5, .int (nI o.vc), .int (nI o.cl), .int (nI o.gv), .int (nI o.na), .int 1, .int 0, .ref e6, .int (nI o.ln), .ref e7, .ref e8])), (e5, .inl (c5, 401, .inl o.wv))]) (va_A [(e0, .inr (7, [.ref e1, .ref e2, .ref e3, .ref e4, .ref e5, .int (nI o.vc), .int (nI o.cl), .int (nI o.gv), .int (nI o.na), .int 1, .int o.cd, .ref e6, .int (nI o.ln), .ref e7, .ref e8])), (e5, .inl (c5, 401, .inl o.wv))] sz)) (0) (0) (va_A [(e0, .inr (7, [.ref e1, .ref e2, .ref e3, .ref e4, .ref e5, .int (nI o.vc), .int (nI o.cl), .int (nI o.gv), .int (nI o.na), .int 1, .int o.cd, .ref e6, .int (nI o.ln), .ref e7, .ref e8])), (e5, .inl (c5, 401, .inl o.wv))] sz) := by
  refine Met.ofW (cc := prog_9_method_14_code) (maxL := 2) (ret := (some .boolean)) (by decide) rfl ?_
  intro p e s m args below meth c s₁ B hml hv
  obtain ⟨rfl, hsz, hP, hK, hD0⟩ := hv
  have hx := B.exec
  have hb := B.bytes
  have hr := B.returns
  have hw : ∀ w ∈ bg_W, w.before #[Value.ref e0, Value.int (nI n0)] s = true := fun w h => atoms_spec (ws := (wq y_Md_value prog_9_method_14_code 2 (some .boolean))) B.pre w (List.mem_cons_of_mem _ h)
  have hown : s.vm.findClass R_Md = some m.cls := findClass_of_methodNamed B.named
  have hlocks := B.notSynchronized
  subst hsz
  have hD := hD0.self (sz := s.heap.size)
  generalize hAe : va_A [(e0, .inr (7, [.ref e1, .ref e2, .ref e3, .ref e4, .ref e5, .int (nI o.vc), .int (nI o.cl), .int (nI o.gv), .int (nI o.na), .int 1, .int o.cd, .ref e6, .int (nI o.ln), .ref e7, .ref e8])), (e5, .inl (c5, 401, .inl o.wv))] s.heap.size = A at hD ⊢
  have hA : ∀ q : Nat, s.heap.size ≤ q → A q := fun q h => by rw [← hAe]; exact Or.inr h
  have hS : va_S A s.heap s.heap [] := va_S.rf
  have hP : va_P (dC, dI) vwCl [(e0, .inr (7, [.ref e1, .ref e2, .ref e3, .ref e4, .ref e5, .int (nI o.vc), .int (nI o.cl), .int (nI o.gv), .int (nI o.na), .int 1, .int o.cd, .ref e6, .int (nI o.ln), .ref e7, .ref e8])), (e5, .inl (c5, 401, .inl o.wv))] s.heap := hP
  have hl := lv_entry ([.ref e0, .int (nI n0)]) (n := 2) (Nat.le_of_ble_eq_true rfl)
  rw [lg_entry_eq]
  generalize (lg_sl ([.ref e0, .int (nI n0)]) ++ List.replicate (2 - (lg_sl ([.ref e0, .int (nI n0)])).length) Slot.unset).toArray = ls at hl ⊢
  have hl : lv_has ls 2 [(0, .ref e0), (1, .int (nI n0))] := hl
  obtain ⟨H, hH⟩ : ∃ H : Heap, H = s.heap := ⟨_, rfl⟩
  rw [← hH] at hP
  have hS : va_S A s.heap H [] := by rw [hH]; exact va_S.rf
  show W p l e _ s m _ below meth c s.heap [] 0 0 _ _
  rw [← hH]
  refine lv_aload_n hx hb d_Md_value_0 rfl (lv_at hl 0 rfl) ?_
  refine lv_iload_n hx hb d_Md_value_1 rfl (lv_at hl 1 rfl) ?_
  refine lv_iconst (v := nI 1) hx hb d_Md_value_2 (by decide) ?_
  refine lv_icmp_lt (tgt := 18) hx hb d_Md_value_3 (by decide) (fun c_3 => by exfalso; have c_3 : n0 < 1 := (nI_ltI (a := n0) (b := 1) (by omega) (by omega)).mp c_3; omega) (fun c_3 => ?_)
  have c_3 : ¬ (n0 < 1) := fun qq9 => c_3 ((nI_ltI (a := n0) (b := 1) (by omega) (by omega)).mpr qq9)
  refine lv_iload_n hx hb d_Md_value_6 rfl (lv_at hl 1 rfl) ?_
  refine lv_aload_n hx hb d_Md_value_7 rfl (lv_at hl 0 rfl) ?_
  refine va_get (D := (dC, dI)) (ci := 7) (v := .int (nI o.vc)) (C := R_Md) (T := F_Md) (N := 15) hx hb hw in_Md hown hK hP 0 rfl rfl 5 (by decide) (hw (Cond.fieldLink "ClauseSearchModel" 43 "ClauseSearchModel" "variables" "I") k_609) (fun _ h9 => h9) rfl d_Md_value_8 ?_
  refine lv_icmp_gt (tgt := 18) hx hb d_Md_value_11 (by decide) (fun c_11 => by exfalso; have c_11 : o.vc < n0 := (nI_ltI (a := o.vc) (b := n0) (by omega) (by omega)).mp c_11; omega) (fun c_11 => ?_)
  have c_11 : ¬ (o.vc < n0) := fun qq9 => c_11 ((nI_ltI (a := o.vc) (b := n0) (by omega) (by omega)).mpr qq9)
  refine lv_iconst (v := 1) hx hb d_Md_value_14 (by decide) ?_
  refine lv_goto (tgt := 19) hx hb d_Md_value_15 (by decide) ?_
  refine lv_iconst (v := 1) hx hb d_Md_value_19 (by decide) ?_
  have hPc := hP.sub (ws' := [(e0, .inr (7, [.ref e1, .ref e2, .ref e3, .ref e4, .ref e5, .int (nI (Dx.of o.lt o.fs o.rw o.am o.wv o.tl o.ch o.mk o.vc o.cl o.gv o.na o.ln 1 o.cd o.X).vc), .int (nI (Dx.of o.lt o.fs o.rw o.am o.wv o.tl o.ch o.mk o.vc o.cl o.gv o.na o.ln 1 o.cd o.X).cl), .int (nI (Dx.of o.lt o.fs o.rw o.am o.wv o.tl o.ch o.mk o.vc o.cl o.gv o.na o.ln 1 o.cd o.X).gv), .int (nI (Dx.of o.lt o.fs o.rw o.am o.wv o.tl o.ch o.mk o.vc o.cl o.gv o.na o.ln 1 o.cd o.X).na), .int (Dx.of o.lt o.fs o.rw o.am o.wv o.tl o.ch o.mk o.vc o.cl o.gv o.na o.ln 1 o.cd o.X).sd, .int (Dx.of o.lt o.fs o.rw o.am o.wv o.tl o.ch o.mk o.vc o.cl o.gv o.na o.ln 1 o.cd o.X).cd, .ref e6, .int (nI (Dx.of o.lt o.fs o.rw o.am o.wv o.tl o.ch o.mk o.vc o.cl o.gv o.na o.ln 1 o.cd o.X).ln), .ref e7, .ref e8]))]) [0] rfl
  have hDc := hD.sub (ws' := [(e0, .inr (7, [.ref e1, .ref e2, .ref e3, .ref e4, .ref e5, .int (nI (Dx.of o.lt o.fs o.rw o.am o.wv o.tl o.ch o.mk o.vc o.cl o.gv o.na o.ln 1 o.cd o.X).vc), .int (nI (Dx.of o.lt o.fs o.rw o.am o.wv o.tl o.ch o.mk o.vc o.cl o.gv o.na o.ln 1 o.cd o.X).cl), .int (nI (Dx.of o.lt o.fs o.rw o.am o.wv o.tl o.ch o.mk o.vc o.cl o.gv o.na o.ln 1 o.cd o.X).gv), .int (nI (Dx.of o.lt o.fs o.rw o.am o.wv o.tl o.ch o.mk o.vc o.cl o.gv o.na o.ln 1 o.cd o.X).na), .int (Dx.of o.lt o.fs o.rw o.am o.wv o.tl o.ch o.mk o.vc o.cl o.gv o.na o.ln 1 o.cd o.X).sd, .int (Dx.of o.lt o.fs o.rw o.am o.wv o.tl o.ch o.mk o.vc o.cl o.gv o.na o.ln 1 o.cd o.X).cd, .ref e6, .int (nI (Dx.of o.lt o.fs o.rw o.am o.wv o.tl o.ch o.mk o.vc o.cl o.gv o.na o.ln 1 o.cd o.X).ln), .ref e7, .ref e8]))]) [0] (by decide) rfl
  have hKc := hK.sub (tys' := []) [] rfl
  have hFc := va_free (wc := [(e0, .inr (7, [.ref e1, .ref e2, .ref e3, .ref e4, .ref e5, .int (nI (Dx.of o.lt o.fs o.rw o.am o.wv o.tl o.ch o.mk o.vc o.cl o.gv o.na o.ln 1 o.cd o.X).vc), .int (nI (Dx.of o.lt o.fs o.rw o.am o.wv o.tl o.ch o.mk o.vc o.cl o.gv o.na o.ln 1 o.cd o.X).cl), .int (nI (Dx.of o.lt o.fs o.rw o.am o.wv o.tl o.ch o.mk o.vc o.cl o.gv o.na o.ln 1 o.cd o.X).gv), .int (nI (Dx.of o.lt o.fs o.rw o.am o.wv o.tl o.ch o.mk o.vc o.cl o.gv o.na o.ln 1 o.cd o.X).na), .int (Dx.of o.lt o.fs o.rw o.am o.wv o.tl o.ch o.mk o.vc o.cl o.gv o.na o.ln 1 o.cd o.X).sd, .int (Dx.of o.lt o.fs o.rw o.am o.wv o.tl o.ch o.mk o.vc o.cl o.gv o.na o.ln 1 o.cd o.X).cd, .ref e6, .int (nI (Dx.of o.lt o.fs o.rw o.am o.wv o.tl o.ch o.mk o.vc o.cl o.gv o.na o.ln 1 o.cd o.X).ln), .ref e7, .ref e8]))]) hD hS hA [0] rfl
  refine va_calli (va_runV (As := [.int 1, .int 1]) (rest := []) ⟨hx, hb, hml, hown, hw⟩ (c_Md_good_1 l dC dI e0 e1 e2 e3 e4 e5 e6 e7 e8 H.size (Dx.of o.lt o.fs o.rw o.am o.wv o.tl o.ch o.mk o.vc o.cl o.gv o.na o.ln 1 o.cd o.X) 1) (cb_V (C := R_Md) 2 hw k_661 k_37 k_658 k_660 k_21 rfl rfl (by decide +kernel) ⟨Nat.le_of_ble_eq_true rfl, Nat.le_of_ble_eq_true rfl⟩) ⟨fun a U g mk q => by obtain ⟨q0, q1, qP, qK, qD⟩ := q; exact ⟨q0, q1, qP, va_K.moved (u := U) (U := U.calling g mk a) (Vm.Alike.refl U.vm) qK, qD⟩, va_recv hKc hPc (ci := 7) (q0 := 0) rfl rfl, fun U hU hW => ⟨rfl, by rw [hU], by rw [hU]; exact hPc, va_K.moved hW.alike hKc, hDc.weaken (fun _ _ _ _ => trivial)⟩⟩ rfl rfl hl.1 rfl (lv_room (Nat.le_of_ble_eq_true rfl)) d_Md_value_20 ⟨Nat.le_of_ble_eq_true rfl, Nat.le_of_ble_eq_true rfl⟩) hS (fun q _ h => hFc q h) hFc (fun r_1 u t H1 locs ht hvm hw9 hB hz1 hk1 hS => ?_)
  obtain ⟨er9, hP1, hK1, hD1⟩ := hB
  rw [ht] at hP1
  have hK1 := va_K.moved hvm.symm hK1
  obtain ⟨hP, hD⟩ := va_join (wr := [(e5, .inl (c5, 401, .inl o.wv))]) (w1 := [(e0, .inr (7, [.ref e1, .ref e2, .ref e3, .ref e4, .ref e5, .int (nI (Dx.of o.lt o.fs o.rw o.am o.wv o.tl o.ch o.mk o.vc o.cl o.gv o.na o.ln 1 o.cd o.X).vc), .int (nI (Dx.of o.lt o.fs o.rw o.am o.wv o.tl o.ch o.mk o.vc o.cl o.gv o.na o.ln 1 o.cd o.X).cl), .int (nI (Dx.of o.lt o.fs o.rw o.am o.wv o.tl o.ch o.mk o.vc o.cl o.gv o.na o.ln 1 o.cd o.X).gv), .int (nI (Dx.of o.lt o.fs o.rw o.am o.wv o.tl o.ch o.mk o.vc o.cl o.gv o.na o.ln 1 o.cd o.X).na), .int (Dx.of o.lt o.fs o.rw o.am o.wv o.tl o.ch o.mk o.vc o.cl o.gv o.na o.ln 1 o.cd o.X).sd, .int 0, .ref e6, .int (nI (Dx.of o.lt o.fs o.rw o.am o.wv o.tl o.ch o.mk o.vc o.cl o.gv o.na o.ln 1 o.cd o.X).ln), .ref e7, .ref e8]))]) hP hD [0] [1] rfl rfl (by decide) (by decide) hk1 hFc hP1 hD1
  generalize H1 = H at hP hS ⊢
  have hP : va_P (dC, dI) vwCl [(e5, .inl (c5, 401, .inl o.wv)), (e0, .inr (7, [.ref e1, .ref e2, .ref e3, .ref e4, .ref e5, .int (nI (Dx.of o.lt o.fs o.rw o.am o.wv o.tl o.ch o.mk o.vc o.cl o.gv o.na o.ln 1 o.cd o.X).vc), .int (nI (Dx.of o.lt o.fs o.rw o.am o.wv o.tl o.ch o.mk o.vc o.cl o.gv o.na o.ln 1 o.cd o.X).cl), .int (nI (Dx.of o.lt o.fs o.rw o.am o.wv o.tl o.ch o.mk o.vc o.cl o.gv o.na o.ln 1 o.cd o.X).gv), .int (nI (Dx.of o.lt o.fs o.rw o.am o.wv o.tl o.ch o.mk o.vc o.cl o.gv o.na o.ln 1 o.cd o.X).na), .int (Dx.of o.lt o.fs o.rw o.am o.wv o.tl o.ch o.mk o.vc o.cl o.gv o.na o.ln 1 o.cd o.X).sd, .int 0, .ref e6, .int (nI (Dx.of o.lt o.fs o.rw o.am o.wv o.tl o.ch o.mk o.vc o.cl o.gv o.na o.ln 1 o.cd o.X).ln), .ref e7, .ref e8]))] H := hP
  have hD : va_D A [(e5, .inl (c5, 401, .inl o.wv)), (e0, .inr (7, [.ref e1, .ref e2, .ref e3, .ref e4, .ref e5, .int (nI (Dx.of o.lt o.fs o.rw o.am o.wv o.tl o.ch o.mk o.vc o.cl o.gv o.na o.ln 1 o.cd o.X).vc), .int (nI (Dx.of o.lt o.fs o.rw o.am o.wv o.tl o.ch o.mk o.vc o.cl o.gv o.na o.ln 1 o.cd o.X).cl), .int (nI (Dx.of o.lt o.fs o.rw o.am o.wv o.tl o.ch o.mk o.vc o.cl o.gv o.na o.ln 1 o.cd o.X).gv), .int (nI (Dx.of o.lt o.fs o.rw o.am o.wv o.tl o.ch o.mk o.vc o.cl o.gv o.na o.ln 1 o.cd o.X).na), .int (Dx.of o.lt o.fs o.rw o.am o.wv o.tl o.ch o.mk o.vc o.cl o.gv o.na o.ln 1 o.cd o.X).sd, .int 0, .ref e6, .int (nI (Dx.of o.lt o.fs o.rw o.am o.wv o.tl o.ch o.mk o.vc o.cl o.gv o.na o.ln 1 o.cd o.X).ln), .ref e7, .ref e8]))] := hD
  refine W.widen (k := 0) (n := 0) (by decide) (by decide) ?_
  have hw9 : r_1 = 1 := hw9.trans er9
  subst hw9
  have hP : va_P (dC, dI) vwCl [(e5, .inl (c5, 401, .inl o.wv)), (e0, .inr (7, [.ref e1, .ref e2, .ref e3, .ref e4, .ref e5, .int (nI o.vc), .int (nI o.cl), .int (nI o.gv), .int (nI o.na), .int 1, .int 0, .ref e6, .int (nI o.ln), .ref e7, .ref e8]))] H := hP
  have hD : va_D A [(e5, .inl (c5, 401, .inl o.wv)), (e0, .inr (7, [.ref e1, .ref e2, .ref e3, .ref e4, .ref e5, .int (nI o.vc), .int (nI o.cl), .int (nI o.gv), .int (nI o.na), .int 1, .int 0, .ref e6, .int (nI o.ln), .ref e7, .ref e8]))] := hD
  refine lv_if_eq (tgt := 38) hx hb d_Md_value_23 (by decide) (fun c_23 => absurd c_23 (by decide)) (fun c_23 => ?_)
  refine lv_aload_n hx hb d_Md_value_26 rfl (lv_at hl 0 rfl) ?_
  refine lv_aload_n hx hb d_Md_value_27 rfl (lv_at hl 0 rfl) ?_
  refine va_get (D := (dC, dI)) (ci := 7) (v := .int 1) (C := R_Md) (T := F_Md) (N := 15) hx hb hw in_Md hown hK hP 1 rfl rfl 9 (by decide) (hw (Cond.fieldLink "ClauseSearchModel" 46 "ClauseSearchModel" "stands" "Z") k_613) (fun _ h9 => h9) rfl d_Md_value_28 ?_
  refine lv_iconst (v := 2) hx hb d_Md_value_31 (by decide) ?_
  have hPc := hP.sub (ws' := [(e0, .inr (7, [.ref e1, .ref e2, .ref e3, .ref e4, .ref e5, .int (nI (Dx.of o.lt o.fs o.rw o.am o.wv o.tl o.ch o.mk o.vc o.cl o.gv o.na o.ln 1 0 o.X).vc), .int (nI (Dx.of o.lt o.fs o.rw o.am o.wv o.tl o.ch o.mk o.vc o.cl o.gv o.na o.ln 1 0 o.X).cl), .int (nI (Dx.of o.lt o.fs o.rw o.am o.wv o.tl o.ch o.mk o.vc o.cl o.gv o.na o.ln 1 0 o.X).gv), .int (nI (Dx.of o.lt o.fs o.rw o.am o.wv o.tl o.ch o.mk o.vc o.cl o.gv o.na o.ln 1 0 o.X).na), .int (Dx.of o.lt o.fs o.rw o.am o.wv o.tl o.ch o.mk o.vc o.cl o.gv o.na o.ln 1 0 o.X).sd, .int (Dx.of o.lt o.fs o.rw o.am o.wv o.tl o.ch o.mk o.vc o.cl o.gv o.na o.ln 1 0 o.X).cd, .ref e6, .int (nI (Dx.of o.lt o.fs o.rw o.am o.wv o.tl o.ch o.mk o.vc o.cl o.gv o.na o.ln 1 0 o.X).ln), .ref e7, .ref e8]))]) [1] rfl
  have hDc := hD.sub (ws' := [(e0, .inr (7, [.ref e1, .ref e2, .ref e3, .ref e4, .ref e5, .int (nI (Dx.of o.lt o.fs o.rw o.am o.wv o.tl o.ch o.mk o.vc o.cl o.gv o.na o.ln 1 0 o.X).vc), .int (nI (Dx.of o.lt o.fs o.rw o.am o.wv o.tl o.ch o.mk o.vc o.cl o.gv o.na o.ln 1 0 o.X).cl), .int (nI (Dx.of o.lt o.fs o.rw o.am o.wv o.tl o.ch o.mk o.vc o.cl o.gv o.na o.ln 1 0 o.X).gv), .int (nI (Dx.of o.lt o.fs o.rw o.am o.wv o.tl o.ch o.mk o.vc o.cl o.gv o.na o.ln 1 0 o.X).na), .int (Dx.of o.lt o.fs o.rw o.am o.wv o.tl o.ch o.mk o.vc o.cl o.gv o.na o.ln 1 0 o.X).sd, .int (Dx.of o.lt o.fs o.rw o.am o.wv o.tl o.ch o.mk o.vc o.cl o.gv o.na o.ln 1 0 o.X).cd, .ref e6, .int (nI (Dx.of o.lt o.fs o.rw o.am o.wv o.tl o.ch o.mk o.vc o.cl o.gv o.na o.ln 1 0 o.X).ln), .ref e7, .ref e8]))]) [1] (by decide) rfl
  have hKc := hK.sub (tys' := []) [] rfl
  have hFc := va_free (wc := [(e0, .inr (7, [.ref e1, .ref e2, .ref e3, .ref e4, .ref e5, .int (nI (Dx.of o.lt o.fs o.rw o.am o.wv o.tl o.ch o.mk o.vc o.cl o.gv o.na o.ln 1 0 o.X).vc), .int (nI (Dx.of o.lt o.fs o.rw o.am o.wv o.tl o.ch o.mk o.vc o.cl o.gv o.na o.ln 1 0 o.X).cl), .int (nI (Dx.of o.lt o.fs o.rw o.am o.wv o.tl o.ch o.mk o.vc o.cl o.gv o.na o.ln 1 0 o.X).gv), .int (nI (Dx.of o.lt o.fs o.rw o.am o.wv o.tl o.ch o.mk o.vc o.cl o.gv o.na o.ln 1 0 o.X).na), .int (Dx.of o.lt o.fs o.rw o.am o.wv o.tl o.ch o.mk o.vc o.cl o.gv o.na o.ln 1 0 o.X).sd, .int (Dx.of o.lt o.fs o.rw o.am o.wv o.tl o.ch o.mk o.vc o.cl o.gv o.na o.ln 1 0 o.X).cd, .ref e6, .int (nI (Dx.of o.lt o.fs o.rw o.am o.wv o.tl o.ch o.mk o.vc o.cl o.gv o.na o.ln 1 0 o.X).ln), .ref e7, .ref e8]))]) hD hS hA [1] rfl
  refine va_calli (va_runV (As := [.int 1, .int 2]) (rest := []) ⟨hx, hb, hml, hown, hw⟩ (c_Md_good_1 l dC dI e0 e1 e2 e3 e4 e5 e6 e7 e8 H.size (Dx.of o.lt o.fs o.rw o.am o.wv o.tl o.ch o.mk o.vc o.cl o.gv o.na o.ln 1 0 o.X) 2) (cb_V (C := R_Md) 2 hw k_661 k_37 k_658 k_660 k_21 rfl rfl (by decide +kernel) ⟨Nat.le_of_ble_eq_true rfl, Nat.le_of_ble_eq_true rfl⟩) ⟨fun a U g mk q => by obtain ⟨q0, q1, qP, qK, qD⟩ := q; exact ⟨q0, q1, qP, va_K.moved (u := U) (U := U.calling g mk a) (Vm.Alike.refl U.vm) qK, qD⟩, va_recv hKc hPc (ci := 7) (q0 := 0) rfl rfl, fun U hU hW => ⟨rfl, by rw [hU], by rw [hU]; exact hPc, va_K.moved hW.alike hKc, hDc.weaken (fun _ _ _ _ => trivial)⟩⟩ rfl rfl hl.1 rfl (lv_room (Nat.le_of_ble_eq_true rfl)) d_Md_value_32 ⟨Nat.le_of_ble_eq_true rfl, Nat.le_of_ble_eq_true rfl⟩) hS (fun q _ h => hFc q h) hFc (fun r_2 u t H1 locs ht hvm hw9 hB hz1 hk1 hS => ?_)
  obtain ⟨er9, hP1, hK1, hD1⟩ := hB
  rw [ht] at hP1
  have hK1 := va_K.moved hvm.symm hK1
  obtain ⟨hP, hD⟩ := va_join (wr := [(e5, .inl (c5, 401, .inl o.wv))]) (w1 := [(e0, .inr (7, [.ref e1, .ref e2, .ref e3, .ref e4, .ref e5, .int (nI (Dx.of o.lt o.fs o.rw o.am o.wv o.tl o.ch o.mk o.vc o.cl o.gv o.na o.ln 1 0 o.X).vc), .int (nI (Dx.of o.lt o.fs o.rw o.am o.wv o.tl o.ch o.mk o.vc o.cl o.gv o.na o.ln 1 0 o.X).cl), .int (nI (Dx.of o.lt o.fs o.rw o.am o.wv o.tl o.ch o.mk o.vc o.cl o.gv o.na o.ln 1 0 o.X).gv), .int (nI (Dx.of o.lt o.fs o.rw o.am o.wv o.tl o.ch o.mk o.vc o.cl o.gv o.na o.ln 1 0 o.X).na), .int (Dx.of o.lt o.fs o.rw o.am o.wv o.tl o.ch o.mk o.vc o.cl o.gv o.na o.ln 1 0 o.X).sd, .int 0, .ref e6, .int (nI (Dx.of o.lt o.fs o.rw o.am o.wv o.tl o.ch o.mk o.vc o.cl o.gv o.na o.ln 1 0 o.X).ln), .ref e7, .ref e8]))]) hP hD [1] [0] rfl rfl (by decide) (by decide) hk1 hFc hP1 hD1
  generalize H1 = H at hP hS ⊢
  have hP : va_P (dC, dI) vwCl [(e5, .inl (c5, 401, .inl o.wv)), (e0, .inr (7, [.ref e1, .ref e2, .ref e3, .ref e4, .ref e5, .int (nI (Dx.of o.lt o.fs o.rw o.am o.wv o.tl o.ch o.mk o.vc o.cl o.gv o.na o.ln 1 0 o.X).vc), .int (nI (Dx.of o.lt o.fs o.rw o.am o.wv o.tl o.ch o.mk o.vc o.cl o.gv o.na o.ln 1 0 o.X).cl), .int (nI (Dx.of o.lt o.fs o.rw o.am o.wv o.tl o.ch o.mk o.vc o.cl o.gv o.na o.ln 1 0 o.X).gv), .int (nI (Dx.of o.lt o.fs o.rw o.am o.wv o.tl o.ch o.mk o.vc o.cl o.gv o.na o.ln 1 0 o.X).na), .int (Dx.of o.lt o.fs o.rw o.am o.wv o.tl o.ch o.mk o.vc o.cl o.gv o.na o.ln 1 0 o.X).sd, .int 0, .ref e6, .int (nI (Dx.of o.lt o.fs o.rw o.am o.wv o.tl o.ch o.mk o.vc o.cl o.gv o.na o.ln 1 0 o.X).ln), .ref e7, .ref e8]))] H := hP
  have hD : va_D A [(e5, .inl (c5, 401, .inl o.wv)), (e0, .inr (7, [.ref e1, .ref e2, .ref e3, .ref e4, .ref e5, .int (nI (Dx.of o.lt o.fs o.rw o.am o.wv o.tl o.ch o.mk o.vc o.cl o.gv o.na o.ln 1 0 o.X).vc), .int (nI (Dx.of o.lt o.fs o.rw o.am o.wv o.tl o.ch o.mk o.vc o.cl o.gv o.na o.ln 1 0 o.X).cl), .int (nI (Dx.of o.lt o.fs o.rw o.am o.wv o.tl o.ch o.mk o.vc o.cl o.gv o.na o.ln 1 0 o.X).gv), .int (nI (Dx.of o.lt o.fs o.rw o.am o.wv o.tl o.ch o.mk o.vc o.cl o.gv o.na o.ln 1 0 o.X).na), .int (Dx.of o.lt o.fs o.rw o.am o.wv o.tl o.ch o.mk o.vc o.cl o.gv o.na o.ln 1 0 o.X).sd, .int 0, .ref e6, .int (nI (Dx.of o.lt o.fs o.rw o.am o.wv o.tl o.ch o.mk o.vc o.cl o.gv o.na o.ln 1 0 o.X).ln), .ref e7, .ref e8]))] := hD
  refine W.widen (k := 0) (n := 0) (by decide) (by decide) ?_
  have hw9 : r_2 = 1 := hw9.trans er9
  subst hw9
  have hP : va_P (dC, dI) vwCl [(e5, .inl (c5, 401, .inl o.wv)), (e0, .inr (7, [.ref e1, .ref e2, .ref e3, .ref e4, .ref e5, .int (nI o.vc), .int (nI o.cl), .int (nI o.gv), .int (nI o.na), .int 1, .int 0, .ref e6, .int (nI o.ln), .ref e7, .ref e8]))] H := hP
  have hD : va_D A [(e5, .inl (c5, 401, .inl o.wv)), (e0, .inr (7, [.ref e1, .ref e2, .ref e3, .ref e4, .ref e5, .int (nI o.vc), .int (nI o.cl), .int (nI o.gv), .int (nI o.na), .int 1, .int 0, .ref e6, .int (nI o.ln), .ref e7, .ref e8]))] := hD
  refine lv_if_ne (tgt := 40) hx hb d_Md_value_35 (by decide) (fun c_35 => ?_) (fun c_35 => absurd c_35 (by decide))
  refine lv_aload_n hx hb d_Md_value_40 rfl (lv_at hl 0 rfl) ?_
  refine va_get (D := (dC, dI)) (ci := 7) (v := .ref e5) (C := R_Md) (T := F_Md) (N := 15) hx hb hw in_Md hown hK hP 1 rfl rfl 4 (by decide) (hw (Cond.fieldLink "ClauseSearchModel" 23 "ClauseSearchModel" "way" "[I") k_608) (fun _ h9 => h9) rfl d_Md_value_41 ?_
  refine lv_iload_n hx hb d_Md_value_44 rfl (lv_at hl 1 rfl) ?_
  refine va_iald hx hb hK hP 0 0 rfl rfl (vp_in_nI (by omega) (by omega)) d_Md_value_45 ?_
  refine lv_topi (fun y_3 ey_3 => ?_)
  rw [nI_clamp (by omega)] at ey_3
  subst ey_3
  refine lv_iconst (v := 1) hx hb d_Md_value_46 (by decide) ?_
  refine lv_icmp_ne (tgt := 54) hx hb d_Md_value_47 (by decide) (fun c_47 => ?_) (fun c_47 => ?_)
  · refine lv_iconst (v := 0) hx hb d_Md_value_54 (by decide) ?_
    have hP := hP.sub (ws' := [(e0, .inr (7, [.ref e1, .ref e2, .ref e3, .ref e4, .ref e5, .int (nI o.vc), .int (nI o.cl), .int (nI o.gv), .int (nI o.na), .int 1, .int 0, .ref e6, .int (nI o.ln), .ref e7, .ref e8])), (e5, .inl (c5, 401, .inl o.wv))]) [1, 0] rfl
    have hD := hD.sub (ws' := [(e0, .inr (7, [.ref e1, .ref e2, .ref e3, .ref e4, .ref e5, .int (nI o.vc), .int (nI o.cl), .int (nI o.gv), .int (nI o.na), .int 1, .int 0, .ref e6, .int (nI o.ln), .ref e7, .ref e8])), (e5, .inl (c5, 401, .inl o.wv))]) [1, 0] (by decide) rfl
    have hK := hK.sub (tys' := [(c5, .int)]) [0] rfl
    refine W.widen (k := 0) (n := 0) (by decide) (by decide) ?_
    exact W.zret (v := 0) hx hb hr rfl (fun t ht hW => ⟨⟨0, 0, rfl, rfl, by rw [ht]; exact hP, va_K.moved hW.alike hK, hD⟩, hS.F ht⟩) hS.2.2 d_Md_value_55
  · refine lv_iconst (v := 1) hx hb d_Md_value_50 (by decide) ?_
    refine lv_goto (tgt := 55) hx hb d_Md_value_51 (by decide) ?_
    have hP := hP.sub (ws' := [(e0, .inr (7, [.ref e1, .ref e2, .ref e3, .ref e4, .ref e5, .int (nI o.vc), .int (nI o.cl), .int (nI o.gv), .int (nI o.na), .int 1, .int 0, .ref e6, .int (nI o.ln), .ref e7, .ref e8])), (e5, .inl (c5, 401, .inl o.wv))]) [1, 0] rfl
    have hD := hD.sub (ws' := [(e0, .inr (7, [.ref e1, .ref e2, .ref e3, .ref e4, .ref e5, .int (nI o.vc), .int (nI o.cl), .int (nI o.gv), .int (nI o.na), .int 1, .int 0, .ref e6, .int (nI o.ln), .ref e7, .ref e8])), (e5, .inl (c5, 401, .inl o.wv))]) [1, 0] (by decide) rfl
    have hK := hK.sub (tys' := [(c5, .int)]) [0] rfl
    refine W.widen (k := 0) (n := 0) (by decide) (by decide) ?_
    exact W.zret (v := 1) hx hb hr rfl (fun t ht hW => ⟨⟨1, 1, rfl, rfl, by rw [ht]; exact hP, va_K.moved hW.alike hK, hD⟩, hS.F ht⟩) hS.2.2 d_Md_value_55

set_option maxHeartbeats 4000000 in
set_option maxRecDepth 100000 in
/-- count(what) refuses what -/
theorem c_Md_count_1 (l : Launch) (dC : Nat → ClassId) (dI : Nat → Nat → Nat) (e0 : Nat) (e1 : Nat) (e2 : Nat) (e3 : Nat) (e4 : Nat) (e5 : Nat) (e6 : Nat) (e7 : Nat) (e8 : Nat) (sz : Nat) (o : Dx) (p0 : Int32) (h : p0 < 0 ∨ 5 < p0) : Met l y_Md_count (wq y_Md_count prog_9_method_15_code 2 (some .int)) ({ frames := 1, cells := 0, slots := 0, locals := 22 }) (va_Pc [.ref e0, .int p0] (fun U => U.heap.size = sz ∧ va_P (dC, dI) vwCl [(e0, .inr (7, [.ref e1, .ref e2, .ref e3, .ref e4, .ref e5, .int (nI o.vc), .int (nI o.cl), .int (nI o.gv), .int (nI o.na), .int o.sd, .int o.cd, .ref e6, .int (nI o.ln), .ref e7, .ref e8]))] U.heap ∧ va_K (dC, dI) vwCl [] U ∧ va_D (fun _ => True) [(e0, .inr (7, [.ref e1, .ref e2, .ref e3, .ref e4, .ref e5, .int (nI o.vc), .int (nI o.cl), .int (nI o.gv), .int (nI o.na), .int o.sd, .int o.cd, .ref e6, .int (nI o.ln), .ref e7, .ref e8]))])) (va_Qi (fun (r : Int32) (r9 : Int32) => r = r9) (fun (r9 : Int32) t => r9 = 0 ∧ va_P (dC, dI) vwCl [(e0, .inr (7, [.ref e1, .ref e2, .ref e3, .ref e4, .ref e5, .int (nI o.vc), .int (nI o.cl), .int (nI o.gv), .int (nI o.na), .int o.sd, .int 1, .ref e6, .int (nI o.ln), .ref e7, .ref e8]))] t.heap ∧ va_K (dC, dI) vwCl [] t ∧ va_D (va_A [(e0, .inr (7, [.ref e1, .ref e2, .ref e3, .ref e4, .ref e5, .int (nI o.vc), .int (nI o.cl), .int (nI o.gv), .int (nI o.na), .int o.sd, .int o.cd, .ref e6, .int (nI o.ln), .ref e7, .ref e8]))] sz) [(e0, .inr (7, [.ref e1, .ref e2, .ref e3, .ref e4, .ref e5, .int (nI o.vc), .int (nI o.cl), .int (nI o.gv), .int (nI o.na), .int o.sd, .int 1, .ref e6, .int (nI o.ln), .ref e7, .ref e8]))]) (va_A [(e0, .inr (7, [.ref e1, .ref e2, .ref e3, .ref e4, .ref e5, .int (nI o.vc), .int (nI o.cl), .int (nI o.gv), .int (nI o.na), .int o.sd, .int o.cd, .ref e6, .int (nI o.ln), .ref e7, .ref e8]))] sz)) (0) (0) (va_A [(e0, .inr (7, [.ref e1, .ref e2, .ref e3, .ref e4, .ref e5, .int (nI o.vc), .int (nI o.cl), .int (nI o.gv), .int (nI o.na), .int o.sd, .int o.cd, .ref e6, .int (nI o.ln), .ref e7, .ref e8]))] sz) := by
  refine Met.ofW (cc := prog_9_method_15_code) (maxL := 2) (ret := (some .int)) (by decide) rfl ?_
  intro p e s m args below meth c s₁ B hml hv
  obtain ⟨rfl, hsz, hP, hK, hD0⟩ := hv
  have hx := B.exec
  have hb := B.bytes
  have hr := B.returns
  have hw : ∀ w ∈ bg_W, w.before #[Value.ref e0, Value.int p0] s = true := fun w h => atoms_spec (ws := (wq y_Md_count prog_9_method_15_code 2 (some .int))) B.pre w (List.mem_cons_of_mem _ h)
  have hown : s.vm.findClass R_Md = some m.cls := findClass_of_methodNamed B.named
  have hlocks := B.notSynchronized
  subst hsz
  have hD := hD0.self (sz := s.heap.size)
  generalize hAe : va_A [(e0, .inr (7, [.ref e1, .ref e2, .ref e3, .ref e4, .ref e5, .int (nI o.vc), .int (nI o.cl), .int (nI o.gv), .int (nI o.na), .int o.sd, .int o.cd, .ref e6, .int (nI o.ln), .ref e7, .ref e8]))] s.heap.size = A at hD ⊢
  have hA : ∀ q : Nat, s.heap.size ≤ q → A q := fun q h => by rw [← hAe]; exact Or.inr h
  have hS : va_S A s.heap s.heap [] := va_S.rf
  have hP : va_P (dC, dI) vwCl [(e0, .inr (7, [.ref e1, .ref e2, .ref e3, .ref e4, .ref e5, .int (nI o.vc), .int (nI o.cl), .int (nI o.gv), .int (nI o.na), .int o.sd, .int o.cd, .ref e6, .int (nI o.ln), .ref e7, .ref e8]))] s.heap := hP
  have hl := lv_entry ([.ref e0, .int p0]) (n := 2) (Nat.le_of_ble_eq_true rfl)
  rw [lg_entry_eq]
  generalize (lg_sl ([.ref e0, .int p0]) ++ List.replicate (2 - (lg_sl ([.ref e0, .int p0])).length) Slot.unset).toArray = ls at hl ⊢
  have hl : lv_has ls 2 [(0, .ref e0), (1, .int p0)] := hl
  obtain ⟨H, hH⟩ : ∃ H : Heap, H = s.heap := ⟨_, rfl⟩
  rw [← hH] at hP
  have hS : va_S A s.heap H [] := by rw [hH]; exact va_S.rf
  show W p l e _ s m _ below meth c s.heap [] 0 0 _ _
  rw [← hH]
  refine lv_aload_n hx hb d_Md_count_0 rfl (lv_at hl 0 rfl) ?_
  refine lv_iload_n hx hb d_Md_count_1 rfl (lv_at hl 1 rfl) ?_
  refine lv_if_lt (tgt := 14) hx hb d_Md_count_2 (by decide) (fun c_2 => ?_) (fun c_2 => ?_)
  · refine lv_iconst (v := 0) hx hb d_Md_count_14 (by decide) ?_
    refine lv_iconst (v := 1) hx hb d_Md_count_15 (by decide) ?_
    have hPc := hP.sub (ws' := [(e0, .inr (7, [.ref e1, .ref e2, .ref e3, .ref e4, .ref e5, .int (nI o.vc), .int (nI o.cl), .int (nI o.gv), .int (nI o.na), .int o.sd, .int o.cd, .ref e6, .int (nI o.ln), .ref e7, .ref e8]))]) [0] rfl
    have hDc := hD.sub (ws' := [(e0, .inr (7, [.ref e1, .ref e2, .ref e3, .ref e4, .ref e5, .int (nI o.vc), .int (nI o.cl), .int (nI o.gv), .int (nI o.na), .int o.sd, .int o.cd, .ref e6, .int (nI o.ln), .ref e7, .ref e8]))]) [0] (by decide) rfl
    have hKc := hK.sub (tys' := []) [] rfl
    have hFc := va_free (wc := [(e0, .inr (7, [.ref e1, .ref e2, .ref e3, .ref e4, .ref e5, .int (nI o.vc), .int (nI o.cl), .int (nI o.gv), .int (nI o.na), .int o.sd, .int o.cd, .ref e6, .int (nI o.ln), .ref e7, .ref e8]))]) hD hS hA [0] rfl
    refine va_calli (va_runV (As := [.int 0, .int 1]) (rest := []) ⟨hx, hb, hml, hown, hw⟩ (c_Md_good_0 l dC dI e0 e1 e2 e3 e4 e5 e6 e7 e8 H.size o 1) (cb_V (C := R_Md) 2 hw k_661 k_37 k_658 k_660 k_21 rfl rfl (by decide +kernel) ⟨Nat.le_of_ble_eq_true rfl, Nat.le_of_ble_eq_true rfl⟩) ⟨fun a U g mk q => by obtain ⟨q0, q1, qP, qK, qD⟩ := q; exact ⟨q0, q1, qP, va_K.moved (u := U) (U := U.calling g mk a) (Vm.Alike.refl U.vm) qK, qD⟩, va_recv hKc hPc (ci := 7) (q0 := 0) rfl rfl, fun U hU hW => ⟨rfl, by rw [hU], by rw [hU]; exact hPc, va_K.moved hW.alike hKc, hDc.weaken (fun _ _ _ _ => trivial)⟩⟩ rfl rfl hl.1 rfl (lv_room (Nat.le_of_ble_eq_true rfl)) d_Md_count_16 ⟨Nat.le_of_ble_eq_true rfl, Nat.le_of_ble_eq_true rfl⟩) hS (fun q _ h => hFc q h) hFc (fun r_1 u t H1 locs ht hvm hw9 hB hz1 hk1 hS => ?_)
    obtain ⟨er9, hP1, hK1, hD1⟩ := hB
    rw [ht] at hP1
    have hK1 := va_K.moved hvm.symm hK1
    obtain ⟨hP, hD⟩ := va_join (wr := []) (w1 := [(e0, .inr (7, [.ref e1, .ref e2, .ref e3, .ref e4, .ref e5, .int (nI o.vc), .int (nI o.cl), .int (nI o.gv), .int (nI o.na), .int o.sd, .int 1, .ref e6, .int (nI o.ln), .ref e7, .ref e8]))]) hP hD [0] [] rfl rfl (by decide) (by decide) hk1 hFc hP1 hD1
    generalize H1 = H at hP hS ⊢
    have hP : va_P (dC, dI) vwCl [(e0, .inr (7, [.ref e1, .ref e2, .ref e3, .ref e4, .ref e5, .int (nI o.vc), .int (nI o.cl), .int (nI o.gv), .int (nI o.na), .int o.sd, .int 1, .ref e6, .int (nI o.ln), .ref e7, .ref e8]))] H := hP
    have hD : va_D A [(e0, .inr (7, [.ref e1, .ref e2, .ref e3, .ref e4, .ref e5, .int (nI o.vc), .int (nI o.cl), .int (nI o.gv), .int (nI o.na), .int o.sd, .int 1, .ref e6, .int (nI o.ln), .ref e7, .ref e8]))] := hD
    refine W.widen (k := 0) (n := 0) (by decide) (by decide) ?_
    have hw9 : r_1 = 0 := hw9.trans er9
    subst hw9
    have hP : va_P (dC, dI) vwCl [(e0, .inr (7, [.ref e1, .ref e2, .ref e3, .ref e4, .ref e5, .int (nI o.vc), .int (nI o.cl), .int (nI o.gv), .int (nI o.na), .int o.sd, .int 1, .ref e6, .int (nI o.ln), .ref e7, .ref e8]))] H := hP
    have hD : va_D A [(e0, .inr (7, [.ref e1, .ref e2, .ref e3, .ref e4, .ref e5, .int (nI o.vc), .int (nI o.cl), .int (nI o.gv), .int (nI o.na), .int o.sd, .int 1, .ref e6, .int (nI o.ln), .ref e7, .ref e8]))] := hD
    refine lv_if_ne (tgt := 24) hx hb d_Md_count_19 (by decide) (fun c_19 => absurd c_19 (by decide)) (fun c_19 => ?_)
    refine lv_iconst (v := 0) hx hb d_Md_count_22 (by decide) ?_
    have hK := hK.sub (tys' := []) [] rfl
    refine W.widen (k := 0) (n := 0) (by decide) (by decide) ?_
    exact W.iret (v := 0) hx hb hr (fun t ht hW => ⟨⟨0, 0, rfl, rfl, rfl, by rw [ht]; exact hP, va_K.moved hW.alike hK, hD⟩, hS.F ht⟩) hS.2.2 d_Md_count_23
  · refine lv_iload_n hx hb d_Md_count_5 rfl (lv_at hl 1 rfl) ?_
    refine lv_iconst (v := 5) hx hb d_Md_count_6 (by decide) ?_
    refine lv_icmp_gt (tgt := 14) hx hb d_Md_count_7 (by decide) (fun c_7 => ?_) (fun c_7 => absurd c_7 (by rcases h with h | h; exact absurd h c_2; exact fun q => q h))
    refine lv_iconst (v := 0) hx hb d_Md_count_14 (by decide) ?_
    refine lv_iconst (v := 1) hx hb d_Md_count_15 (by decide) ?_
    have hPc := hP.sub (ws' := [(e0, .inr (7, [.ref e1, .ref e2, .ref e3, .ref e4, .ref e5, .int (nI o.vc), .int (nI o.cl), .int (nI o.gv), .int (nI o.na), .int o.sd, .int o.cd, .ref e6, .int (nI o.ln), .ref e7, .ref e8]))]) [0] rfl
    have hDc := hD.sub (ws' := [(e0, .inr (7, [.ref e1, .ref e2, .ref e3, .ref e4, .ref e5, .int (nI o.vc), .int (nI o.cl), .int (nI o.gv), .int (nI o.na), .int o.sd, .int o.cd, .ref e6, .int (nI o.ln), .ref e7, .ref e8]))]) [0] (by decide) rfl
    have hKc := hK.sub (tys' := []) [] rfl
    have hFc := va_free (wc := [(e0, .inr (7, [.ref e1, .ref e2, .ref e3, .ref e4, .ref e5, .int (nI o.vc), .int (nI o.cl), .int (nI o.gv), .int (nI o.na), .int o.sd, .int o.cd, .ref e6, .int (nI o.ln), .ref e7, .ref e8]))]) hD hS hA [0] rfl
    refine va_calli (va_runV (As := [.int 0, .int 1]) (rest := []) ⟨hx, hb, hml, hown, hw⟩ (c_Md_good_0 l dC dI e0 e1 e2 e3 e4 e5 e6 e7 e8 H.size o 1) (cb_V (C := R_Md) 2 hw k_661 k_37 k_658 k_660 k_21 rfl rfl (by decide +kernel) ⟨Nat.le_of_ble_eq_true rfl, Nat.le_of_ble_eq_true rfl⟩) ⟨fun a U g mk q => by obtain ⟨q0, q1, qP, qK, qD⟩ := q; exact ⟨q0, q1, qP, va_K.moved (u := U) (U := U.calling g mk a) (Vm.Alike.refl U.vm) qK, qD⟩, va_recv hKc hPc (ci := 7) (q0 := 0) rfl rfl, fun U hU hW => ⟨rfl, by rw [hU], by rw [hU]; exact hPc, va_K.moved hW.alike hKc, hDc.weaken (fun _ _ _ _ => trivial)⟩⟩ rfl rfl hl.1 rfl (lv_room (Nat.le_of_ble_eq_true rfl)) d_Md_count_16 ⟨Nat.le_of_ble_eq_true rfl, Nat.le_of_ble_eq_true rfl⟩) hS (fun q _ h => hFc q h) hFc (fun r_2 u t H1 locs ht hvm hw9 hB hz1 hk1 hS => ?_)
    obtain ⟨er9, hP1, hK1, hD1⟩ := hB
    rw [ht] at hP1
    have hK1 := va_K.moved hvm.symm hK1
    obtain ⟨hP, hD⟩ := va_join (wr := []) (w1 := [(e0, .inr (7, [.ref e1, .ref e2, .ref e3, .ref e4, .ref e5, .int (nI o.vc), .int (nI o.cl), .int (nI o.gv), .int (nI o.na), .int o.sd, .int 1, .ref e6, .int (nI o.ln), .ref e7, .ref e8]))]) hP hD [0] [] rfl rfl (by decide) (by decide) hk1 hFc hP1 hD1
    generalize H1 = H at hP hS ⊢
    have hP : va_P (dC, dI) vwCl [(e0, .inr (7, [.ref e1, .ref e2, .ref e3, .ref e4, .ref e5, .int (nI o.vc), .int (nI o.cl), .int (nI o.gv), .int (nI o.na), .int o.sd, .int 1, .ref e6, .int (nI o.ln), .ref e7, .ref e8]))] H := hP
    have hD : va_D A [(e0, .inr (7, [.ref e1, .ref e2, .ref e3, .ref e4, .ref e5, .int (nI o.vc), .int (nI o.cl), .int (nI o.gv), .int (nI o.na), .int o.sd, .int 1, .ref e6, .int (nI o.ln), .ref e7, .ref e8]))] := hD
    refine W.widen (k := 0) (n := 0) (by decide) (by decide) ?_
    have hw9 : r_2 = 0 := hw9.trans er9
    subst hw9
    have hP : va_P (dC, dI) vwCl [(e0, .inr (7, [.ref e1, .ref e2, .ref e3, .ref e4, .ref e5, .int (nI o.vc), .int (nI o.cl), .int (nI o.gv), .int (nI o.na), .int o.sd, .int 1, .ref e6, .int (nI o.ln), .ref e7, .ref e8]))] H := hP
    have hD : va_D A [(e0, .inr (7, [.ref e1, .ref e2, .ref e3, .ref e4, .ref e5, .int (nI o.vc), .int (nI o.cl), .int (nI o.gv), .int (nI o.na), .int o.sd, .int 1, .ref e6, .int (nI o.ln), .ref e7, .ref e8]))] := hD
    refine lv_if_ne (tgt := 24) hx hb d_Md_count_19 (by decide) (fun c_19 => absurd c_19 (by decide)) (fun c_19 => ?_)
    refine lv_iconst (v := 0) hx hb d_Md_count_22 (by decide) ?_
    have hK := hK.sub (tys' := []) [] rfl
    refine W.widen (k := 0) (n := 0) (by decide) (by decide) ?_
    exact W.iret (v := 0) hx hb hr (fun t ht hW => ⟨⟨0, 0, rfl, rfl, rfl, by rw [ht]; exact hP, va_K.moved hW.alike hK, hD⟩, hS.F ht⟩) hS.2.2 d_Md_count_23

set_option maxHeartbeats 4000000 in
set_option maxRecDepth 100000 in
/-- count(what) -/
theorem c_Md_count (l : Launch) (dC : Nat → ClassId) (dI : Nat → Nat → Nat) (e0 : Nat) (e1 : Nat) (e2 : Nat) (e3 : Nat) (e4 : Nat) (e5 : Nat) (e6 : Nat) (e7 : Nat) (e8 : Nat) (sz : Nat) (o : Dx) (p0 : Int32) (h1 : ¬ p0 < 0) (h2 : ¬ 5 < p0) : Met l y_Md_count (wq y_Md_count prog_9_method_15_code 2 (some .int)) ({ frames := 1, cells := 0, slots := 0, locals := 22 }) (va_Pc [.ref e0, .int p0] (fun U => U.heap.size = sz ∧ va_P (dC, dI) vwCl [(e0, .inr (7, [.ref e1, .ref e2, .ref e3, .ref e4, .ref e5, .int (nI o.vc), .int (nI o.cl), .int (nI o.gv), .int (nI o.na), .int o.sd, .int o.cd, .ref e6, .int (nI o.ln), .ref e7, .ref e8]))] U.heap ∧ va_K (dC, dI) vwCl [] U ∧ va_D (fun _ => True) [(e0, .inr (7, [.ref e1, .ref e2, .ref e3, .ref e4, .ref e5, .int (nI o.vc), .int (nI o.cl), .int (nI o.gv), .int (nI o.na), .int o.sd, .int o.cd, .ref e6, .int (nI o.ln), .ref e7, .ref e8]))])) (va_Qi (fun (r : Int32) (r9 : Int32) => r = r9) (fun (r9 : Int32) t => va_P (dC, dI) vwCl [(e0, .inr (7, [.ref e1, .ref e2, .ref e3, .ref e4, .ref e5, .int (nI o.vc), .int (nI o.cl), .int (nI o.gv), .int (nI o.na), .int o.sd, .int 0, .ref e6, .int (nI o.ln), .ref e7, .ref e8]))] t.heap ∧ va_K (dC, dI) vwCl [] t ∧ va_D (va_A [(e0, .inr (7, [.ref e1, .ref e2, .ref e3, .ref e4, .ref e5, .int (nI o.vc), .int (nI o.cl), .int (nI o.gv), .int (nI o.na), .int o.sd, .int o.cd, .ref e6, .int (nI o.ln), .ref e7, .ref e8]))] sz) [(e0, .inr (7, [.ref e1, .ref e2, .ref e3, .ref e4, .ref e5, .int (nI o.vc), .int (nI o.cl), .int (nI o.gv), .int (nI o.na), .int o.sd, .int 0, .ref e6, .int (nI o.ln), .ref e7, .ref e8]))]) (va_A [(e0, .inr (7, [.ref e1, .ref e2, .ref e3, .ref e4, .ref e5, .int (nI o.vc), .int (nI o.cl), .int (nI o.gv), .int (nI o.na), .int o.sd, .int o.cd, .ref e6, .int (nI o.ln), .ref e7, .ref e8]))] sz)) (0) (0) (va_A [(e0, .inr (7, [.ref e1, .ref e2, .ref e3, .ref e4, .ref e5, .int (nI o.vc), .int (nI o.cl), .int (nI o.gv), .int (nI o.na), .int o.sd, .int o.cd, .ref e6, .int (nI o.ln), .ref e7, .ref e8]))] sz) := by
  refine Met.ofW (cc := prog_9_method_15_code) (maxL := 2) (ret := (some .int)) (by decide) rfl ?_
  intro p e s m args below meth c s₁ B hml hv
  obtain ⟨rfl, hsz, hP, hK, hD0⟩ := hv
  have hx := B.exec
  have hb := B.bytes
  have hr := B.returns
  have hw : ∀ w ∈ bg_W, w.before #[Value.ref e0, Value.int p0] s = true := fun w h => atoms_spec (ws := (wq y_Md_count prog_9_method_15_code 2 (some .int))) B.pre w (List.mem_cons_of_mem _ h)
  have hown : s.vm.findClass R_Md = some m.cls := findClass_of_methodNamed B.named
  have hlocks := B.notSynchronized
  subst hsz
  have hD := hD0.self (sz := s.heap.size)
  generalize hAe : va_A [(e0, .inr (7, [.ref e1, .ref e2, .ref e3, .ref e4, .ref e5, .int (nI o.vc), .int (nI o.cl), .int (nI o.gv), .int (nI o.na), .int o.sd, .int o.cd, .ref e6, .int (nI o.ln), .ref e7, .ref e8]))] s.heap.size = A at hD ⊢
  have hA : ∀ q : Nat, s.heap.size ≤ q → A q := fun q h => by rw [← hAe]; exact Or.inr h
  have hS : va_S A s.heap s.heap [] := va_S.rf
  have hP : va_P (dC, dI) vwCl [(e0, .inr (7, [.ref e1, .ref e2, .ref e3, .ref e4, .ref e5, .int (nI o.vc), .int (nI o.cl), .int (nI o.gv), .int (nI o.na), .int o.sd, .int o.cd, .ref e6, .int (nI o.ln), .ref e7, .ref e8]))] s.heap := hP
  have hl := lv_entry ([.ref e0, .int p0]) (n := 2) (Nat.le_of_ble_eq_true rfl)
  rw [lg_entry_eq]
  generalize (lg_sl ([.ref e0, .int p0]) ++ List.replicate (2 - (lg_sl ([.ref e0, .int p0])).length) Slot.unset).toArray = ls at hl ⊢
  have hl : lv_has ls 2 [(0, .ref e0), (1, .int p0)] := hl
  obtain ⟨H, hH⟩ : ∃ H : Heap, H = s.heap := ⟨_, rfl⟩
  rw [← hH] at hP
  have hS : va_S A s.heap H [] := by rw [hH]; exact va_S.rf
  show W p l e _ s m _ below meth c s.heap [] 0 0 _ _
  rw [← hH]
  refine lv_aload_n hx hb d_Md_count_0 rfl (lv_at hl 0 rfl) ?_
  refine lv_iload_n hx hb d_Md_count_1 rfl (lv_at hl 1 rfl) ?_
  refine lv_if_lt (tgt := 14) hx hb d_Md_count_2 (by decide) (fun c_2 => absurd c_2 (h1)) (fun c_2 => ?_)
  refine lv_iload_n hx hb d_Md_count_5 rfl (lv_at hl 1 rfl) ?_
  refine lv_iconst (v := 5) hx hb d_Md_count_6 (by decide) ?_
  refine lv_icmp_gt (tgt := 14) hx hb d_Md_count_7 (by decide) (fun c_7 => absurd c_7 (h2)) (fun c_7 => ?_)
  refine lv_iconst (v := 1) hx hb d_Md_count_10 (by decide) ?_
  refine lv_goto (tgt := 15) hx hb d_Md_count_11 (by decide) ?_
  refine lv_iconst (v := 1) hx hb d_Md_count_15 (by decide) ?_
  have hPc := hP.sub (ws' := [(e0, .inr (7, [.ref e1, .ref e2, .ref e3, .ref e4, .ref e5, .int (nI o.vc), .int (nI o.cl), .int (nI o.gv), .int (nI o.na), .int o.sd, .int o.cd, .ref e6, .int (nI o.ln), .ref e7, .ref e8]))]) [0] rfl
  have hDc := hD.sub (ws' := [(e0, .inr (7, [.ref e1, .ref e2, .ref e3, .ref e4, .ref e5, .int (nI o.vc), .int (nI o.cl), .int (nI o.gv), .int (nI o.na), .int o.sd, .int o.cd, .ref e6, .int (nI o.ln), .ref e7, .ref e8]))]) [0] (by decide) rfl
  have hKc := hK.sub (tys' := []) [] rfl
  have hFc := va_free (wc := [(e0, .inr (7, [.ref e1, .ref e2, .ref e3, .ref e4, .ref e5, .int (nI o.vc), .int (nI o.cl), .int (nI o.gv), .int (nI o.na), .int o.sd, .int o.cd, .ref e6, .int (nI o.ln), .ref e7, .ref e8]))]) hD hS hA [0] rfl
  refine va_calli (va_runV (As := [.int 1, .int 1]) (rest := []) ⟨hx, hb, hml, hown, hw⟩ (c_Md_good_1 l dC dI e0 e1 e2 e3 e4 e5 e6 e7 e8 H.size o 1) (cb_V (C := R_Md) 2 hw k_661 k_37 k_658 k_660 k_21 rfl rfl (by decide +kernel) ⟨Nat.le_of_ble_eq_true rfl, Nat.le_of_ble_eq_true rfl⟩) ⟨fun a U g mk q => by obtain ⟨q0, q1, qP, qK, qD⟩ := q; exact ⟨q0, q1, qP, va_K.moved (u := U) (U := U.calling g mk a) (Vm.Alike.refl U.vm) qK, qD⟩, va_recv hKc hPc (ci := 7) (q0 := 0) rfl rfl, fun U hU hW => ⟨rfl, by rw [hU], by rw [hU]; exact hPc, va_K.moved hW.alike hKc, hDc.weaken (fun _ _ _ _ => trivial)⟩⟩ rfl rfl hl.1 rfl (lv_room (Nat.le_of_ble_eq_true rfl)) d_Md_count_16 ⟨Nat.le_of_ble_eq_true rfl, Nat.le_of_ble_eq_true rfl⟩) hS (fun q _ h => hFc q h) hFc (fun r_1 u t H1 locs ht hvm hw9 hB hz1 hk1 hS => ?_)
  obtain ⟨er9, hP1, hK1, hD1⟩ := hB
  rw [ht] at hP1
  have hK1 := va_K.moved hvm.symm hK1
  obtain ⟨hP, hD⟩ := va_join (wr := []) (w1 := [(e0, .inr (7, [.ref e1, .ref e2, .ref e3, .ref e4, .ref e5, .int (nI o.vc), .int (nI o.cl), .int (nI o.gv), .int (nI o.na), .int o.sd, .int 0, .ref e6, .int (nI o.ln), .ref e7, .ref e8]))]) hP hD [0] [] rfl rfl (by decide) (by decide) hk1 hFc hP1 hD1
  generalize H1 = H at hP hS ⊢
  have hP : va_P (dC, dI) vwCl [(e0, .inr (7, [.ref e1, .ref e2, .ref e3, .ref e4, .ref e5, .int (nI o.vc), .int (nI o.cl), .int (nI o.gv), .int (nI o.na), .int o.sd, .int 0, .ref e6, .int (nI o.ln), .ref e7, .ref e8]))] H := hP
  have hD : va_D A [(e0, .inr (7, [.ref e1, .ref e2, .ref e3, .ref e4, .ref e5, .int (nI o.vc), .int (nI o.cl), .int (nI o.gv), .int (nI o.na), .int o.sd, .int 0, .ref e6, .int (nI o.ln), .ref e7, .ref e8]))] := hD
  refine W.widen (k := 0) (n := 0) (by decide) (by decide) ?_
  have hw9 : r_1 = 1 := hw9.trans er9
  subst hw9
  have hP : va_P (dC, dI) vwCl [(e0, .inr (7, [.ref e1, .ref e2, .ref e3, .ref e4, .ref e5, .int (nI o.vc), .int (nI o.cl), .int (nI o.gv), .int (nI o.na), .int o.sd, .int 0, .ref e6, .int (nI o.ln), .ref e7, .ref e8]))] H := hP
  have hD : va_D A [(e0, .inr (7, [.ref e1, .ref e2, .ref e3, .ref e4, .ref e5, .int (nI o.vc), .int (nI o.cl), .int (nI o.gv), .int (nI o.na), .int o.sd, .int 0, .ref e6, .int (nI o.ln), .ref e7, .ref e8]))] := hD
  refine lv_if_ne (tgt := 24) hx hb d_Md_count_19 (by decide) (fun c_19 => ?_) (fun c_19 => absurd c_19 (by decide))
  refine lv_iload_n hx hb d_Md_count_24 rfl (lv_at hl 1 rfl) ?_
  refine lv_if_ne (tgt := 35) hx hb d_Md_count_25 (by decide) (fun c_25 => ?_) (fun c_25 => ?_)
  · refine lv_iload_n hx hb d_Md_count_35 rfl (lv_at hl 1 rfl) ?_
    refine lv_iconst (v := 1) hx hb d_Md_count_36 (by decide) ?_
    refine lv_icmp_ne (tgt := 47) hx hb d_Md_count_37 (by decide) (fun c_37 => ?_) (fun c_37 => ?_)
    · refine lv_iload_n hx hb d_Md_count_47 rfl (lv_at hl 1 rfl) ?_
      refine lv_iconst (v := 2) hx hb d_Md_count_48 (by decide) ?_
      refine lv_icmp_ne (tgt := 59) hx hb d_Md_count_49 (by decide) (fun c_49 => ?_) (fun c_49 => ?_)
      · refine lv_iload_n hx hb d_Md_count_59 rfl (lv_at hl 1 rfl) ?_
        refine lv_iconst (v := 3) hx hb d_Md_count_60 (by decide) ?_
        refine lv_icmp_ne (tgt := 75) hx hb d_Md_count_61 (by decide) (fun c_61 => ?_) (fun c_61 => ?_)
        · refine lv_iconst (v := 0) hx hb d_Md_count_75 (by decide) ?_
          have hK := hK.sub (tys' := []) [] rfl
          refine W.widen (k := 0) (n := 0) (by decide) (by decide) ?_
          exact W.iret (v := 0) hx hb hr (fun t ht hW => ⟨⟨0, 0, rfl, rfl, by rw [ht]; exact hP, va_K.moved hW.alike hK, hD⟩, hS.F ht⟩) hS.2.2 d_Md_count_76
        · refine lv_aload_n hx hb d_Md_count_64 rfl (lv_at hl 0 rfl) ?_
          refine va_get (D := (dC, dI)) (ci := 7) (v := .int o.sd) (C := R_Md) (T := F_Md) (N := 15) hx hb hw in_Md hown hK hP 0 rfl rfl 9 (by decide) (hw (Cond.fieldLink "ClauseSearchModel" 46 "ClauseSearchModel" "stands" "Z") k_613) (fun _ h9 => h9) rfl d_Md_count_65 ?_
          refine lv_if_eq (tgt := 75) hx hb d_Md_count_68 (by decide) (fun c_68 => ?_) (fun c_68 => ?_)
          · refine lv_iconst (v := 0) hx hb d_Md_count_75 (by decide) ?_
            have hK := hK.sub (tys' := []) [] rfl
            refine W.widen (k := 0) (n := 0) (by decide) (by decide) ?_
            exact W.iret (v := 0) hx hb hr (fun t ht hW => ⟨⟨0, 0, rfl, rfl, by rw [ht]; exact hP, va_K.moved hW.alike hK, hD⟩, hS.F ht⟩) hS.2.2 d_Md_count_76
          · refine lv_iconst (v := 1) hx hb d_Md_count_71 (by decide) ?_
            refine lv_goto (tgt := 76) hx hb d_Md_count_72 (by decide) ?_
            have hK := hK.sub (tys' := []) [] rfl
            refine W.widen (k := 0) (n := 0) (by decide) (by decide) ?_
            exact W.iret (v := 1) hx hb hr (fun t ht hW => ⟨⟨1, 1, rfl, rfl, by rw [ht]; exact hP, va_K.moved hW.alike hK, hD⟩, hS.F ht⟩) hS.2.2 d_Md_count_76
      · refine lv_aload_n hx hb d_Md_count_52 rfl (lv_at hl 0 rfl) ?_
        refine va_get (D := (dC, dI)) (ci := 7) (v := .int (nI o.gv)) (C := R_Md) (T := F_Md) (N := 15) hx hb hw in_Md hown hK hP 0 rfl rfl 7 (by decide) (hw (Cond.fieldLink "ClauseSearchModel" 50 "ClauseSearchModel" "given" "I") k_611) (fun _ h9 => h9) rfl d_Md_count_53 ?_
        refine lv_goto (tgt := 76) hx hb d_Md_count_56 (by decide) ?_
        have hK := hK.sub (tys' := []) [] rfl
        refine W.widen (k := 0) (n := 0) (by decide) (by decide) ?_
        exact W.iret (v := nI o.gv) hx hb hr (fun t ht hW => ⟨⟨nI o.gv, nI o.gv, rfl, rfl, by rw [ht]; exact hP, va_K.moved hW.alike hK, hD⟩, hS.F ht⟩) hS.2.2 d_Md_count_76
    · refine lv_aload_n hx hb d_Md_count_40 rfl (lv_at hl 0 rfl) ?_
      refine va_get (D := (dC, dI)) (ci := 7) (v := .int (nI o.cl)) (C := R_Md) (T := F_Md) (N := 15) hx hb hw in_Md hown hK hP 0 rfl rfl 6 (by decide) (hw (Cond.fieldLink "ClauseSearchModel" 53 "ClauseSearchModel" "clauses" "I") k_610) (fun _ h9 => h9) rfl d_Md_count_41 ?_
      refine lv_goto (tgt := 76) hx hb d_Md_count_44 (by decide) ?_
      have hK := hK.sub (tys' := []) [] rfl
      refine W.widen (k := 0) (n := 0) (by decide) (by decide) ?_
      exact W.iret (v := nI o.cl) hx hb hr (fun t ht hW => ⟨⟨nI o.cl, nI o.cl, rfl, rfl, by rw [ht]; exact hP, va_K.moved hW.alike hK, hD⟩, hS.F ht⟩) hS.2.2 d_Md_count_76
  · refine lv_aload_n hx hb d_Md_count_28 rfl (lv_at hl 0 rfl) ?_
    refine va_get (D := (dC, dI)) (ci := 7) (v := .int (nI o.vc)) (C := R_Md) (T := F_Md) (N := 15) hx hb hw in_Md hown hK hP 0 rfl rfl 5 (by decide) (hw (Cond.fieldLink "ClauseSearchModel" 43 "ClauseSearchModel" "variables" "I") k_609) (fun _ h9 => h9) rfl d_Md_count_29 ?_
    refine lv_goto (tgt := 76) hx hb d_Md_count_32 (by decide) ?_
    have hK := hK.sub (tys' := []) [] rfl
    refine W.widen (k := 0) (n := 0) (by decide) (by decide) ?_
    exact W.iret (v := nI o.vc) hx hb hr (fun t ht hW => ⟨⟨nI o.vc, nI o.vc, rfl, rfl, by rw [ht]; exact hP, va_K.moved hW.alike hK, hD⟩, hS.F ht⟩) hS.2.2 d_Md_count_76
