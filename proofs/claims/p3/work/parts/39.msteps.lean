abbrev y_Md_search : MethodName := ⟨"ClauseSearchModel", "search", "()Z"⟩
theorem k_607 : (Cond.fieldLink "ClauseSearchModel" 20 "ClauseSearchModel" "assumed" "[I") ∈ bg_W := bg_in 607 (by decide +kernel) (by decide +kernel)
theorem k_609 : (Cond.fieldLink "ClauseSearchModel" 43 "ClauseSearchModel" "variables" "I") ∈ bg_W := bg_in 609 (by decide +kernel) (by decide +kernel)
theorem k_612 : (Cond.fieldLink "ClauseSearchModel" 70 "ClauseSearchModel" "assumptions" "I") ∈ bg_W := bg_in 612 (by decide +kernel) (by decide +kernel)
theorem k_617 : (Cond.fieldLink "ClauseSearchModel" 29 "ClauseSearchModel" "chosen" "[I") ∈ bg_W := bg_in 617 (by decide +kernel) (by decide +kernel)
theorem d_Md_search_2 : decode prog_9_method_12_code 2 = .ok (.iload_n 1, 1) := by decide +kernel
theorem d_Md_search_3 : decode prog_9_method_12_code 3 = .ok (.sipush 400, 3) := by decide +kernel
theorem d_Md_search_6 : decode prog_9_method_12_code 6 = .ok (.if_icmp .gt 16, 3) := by decide +kernel
theorem d_Md_search_9 : decode prog_9_method_12_code 9 = .ok (.aload_n 0, 1) := by decide +kernel
theorem d_Md_search_10 : decode prog_9_method_12_code 10 = .ok (.getfield 23, 3) := by decide +kernel
theorem d_Md_search_13 : decode prog_9_method_12_code 13 = .ok (.iload_n 1, 1) := by decide +kernel
theorem d_Md_search_14 : decode prog_9_method_12_code 14 = .ok (.iconst (-1), 1) := by decide +kernel
theorem d_Md_search_15 : decode prog_9_method_12_code 15 = .ok (.iastore, 1) := by decide +kernel
theorem d_Md_search_16 : decode prog_9_method_12_code 16 = .ok (.iinc 1 1, 3) := by decide +kernel
theorem d_Md_search_19 : decode prog_9_method_12_code 19 = .ok (.goto (-17), 3) := by decide +kernel
theorem d_Md_search_29 : decode prog_9_method_12_code 29 = .ok (.iload_n 1, 1) := by decide +kernel
theorem d_Md_search_30 : decode prog_9_method_12_code 30 = .ok (.aload_n 0, 1) := by decide +kernel
theorem d_Md_search_31 : decode prog_9_method_12_code 31 = .ok (.getfield 70, 3) := by decide +kernel
theorem d_Md_search_34 : decode prog_9_method_12_code 34 = .ok (.if_icmp .ge 40, 3) := by decide +kernel
theorem d_Md_search_37 : decode prog_9_method_12_code 37 = .ok (.aload_n 0, 1) := by decide +kernel
theorem d_Md_search_38 : decode prog_9_method_12_code 38 = .ok (.aload_n 0, 1) := by decide +kernel
theorem d_Md_search_39 : decode prog_9_method_12_code 39 = .ok (.getfield 20, 3) := by decide +kernel
theorem d_Md_search_42 : decode prog_9_method_12_code 42 = .ok (.iload_n 1, 1) := by decide +kernel
theorem d_Md_search_43 : decode prog_9_method_12_code 43 = .ok (.iaload, 1) := by decide +kernel
theorem d_Md_search_44 : decode prog_9_method_12_code 44 = .ok (.invokevirtual 56, 3) := by decide +kernel
theorem d_Md_search_47 : decode prog_9_method_12_code 47 = .ok (.istore_n 2, 1) := by decide +kernel
theorem d_Md_search_48 : decode prog_9_method_12_code 48 = .ok (.iload_n 2, 1) := by decide +kernel
theorem d_Md_search_49 : decode prog_9_method_12_code 49 = .ok (.ifCond .ne 5, 3) := by decide +kernel
theorem d_Md_search_54 : decode prog_9_method_12_code 54 = .ok (.iload_n 2, 1) := by decide +kernel
theorem d_Md_search_55 : decode prog_9_method_12_code 55 = .ok (.ifCond .ge 13, 3) := by decide +kernel
theorem d_Md_search_68 : decode prog_9_method_12_code 68 = .ok (.iinc 1 1, 3) := by decide +kernel
theorem d_Md_search_71 : decode prog_9_method_12_code 71 = .ok (.goto (-42), 3) := by decide +kernel
theorem d_Md_search_58 : decode prog_9_method_12_code 58 = .ok (.aload_n 0, 1) := by decide +kernel
theorem d_Md_search_59 : decode prog_9_method_12_code 59 = .ok (.aload_n 0, 1) := by decide +kernel
theorem d_Md_search_60 : decode prog_9_method_12_code 60 = .ok (.getfield 20, 3) := by decide +kernel
theorem d_Md_search_63 : decode prog_9_method_12_code 63 = .ok (.iload_n 1, 1) := by decide +kernel
theorem d_Md_search_64 : decode prog_9_method_12_code 64 = .ok (.iaload, 1) := by decide +kernel
theorem d_Md_search_65 : decode prog_9_method_12_code 65 = .ok (.invokevirtual 66, 3) := by decide +kernel
theorem d_Md_search_87 : decode prog_9_method_12_code 87 = .ok (.iload_n 3, 1) := by decide +kernel
theorem d_Md_search_88 : decode prog_9_method_12_code 88 = .ok (.aload_n 0, 1) := by decide +kernel
theorem d_Md_search_89 : decode prog_9_method_12_code 89 = .ok (.getfield 43, 3) := by decide +kernel
theorem d_Md_search_92 : decode prog_9_method_12_code 92 = .ok (.if_icmp .gt 18, 3) := by decide +kernel
theorem d_Md_search_95 : decode prog_9_method_12_code 95 = .ok (.aload_n 0, 1) := by decide +kernel
theorem d_Md_search_96 : decode prog_9_method_12_code 96 = .ok (.getfield 23, 3) := by decide +kernel
theorem d_Md_search_99 : decode prog_9_method_12_code 99 = .ok (.iload_n 3, 1) := by decide +kernel
theorem d_Md_search_100 : decode prog_9_method_12_code 100 = .ok (.iaload, 1) := by decide +kernel
theorem d_Md_search_101 : decode prog_9_method_12_code 101 = .ok (.ifCond .lt 9, 3) := by decide +kernel
theorem d_Md_search_104 : decode prog_9_method_12_code 104 = .ok (.iinc 3 1, 3) := by decide +kernel
theorem d_Md_search_107 : decode prog_9_method_12_code 107 = .ok (.goto (-20), 3) := by decide +kernel
theorem d_Md_search_158 : decode prog_9_method_12_code 158 = .ok (.iload_n 2, 1) := by decide +kernel
theorem d_Md_search_159 : decode prog_9_method_12_code 159 = .ok (.ifCond .lt 18, 3) := by decide +kernel
theorem d_Md_search_162 : decode prog_9_method_12_code 162 = .ok (.aload_n 0, 1) := by decide +kernel
theorem d_Md_search_163 : decode prog_9_method_12_code 163 = .ok (.getfield 29, 3) := by decide +kernel
theorem d_Md_search_166 : decode prog_9_method_12_code 166 = .ok (.iload_n 2, 1) := by decide +kernel
theorem d_Md_search_167 : decode prog_9_method_12_code 167 = .ok (.iaload, 1) := by decide +kernel
theorem d_Md_search_168 : decode prog_9_method_12_code 168 = .ok (.ifCond .ge 9, 3) := by decide +kernel
theorem d_Md_search_171 : decode prog_9_method_12_code 171 = .ok (.iinc 2 (-1), 3) := by decide +kernel
theorem d_Md_search_174 : decode prog_9_method_12_code 174 = .ok (.goto (-16), 3) := by decide +kernel
set_option maxHeartbeats 4000000 in
set_option maxRecDepth 100000 in
/-- the way is emptied -/
theorem l_mway {p : Program} {l : Launch} {e : Env} {R : Room} {s : State} {m : MethodId} {args : Array Value} {below : List Frame} {meth : Method} {c : Code} {dC : Nat → ClassId} {dI : Nat → Nat → Nat} {A : Nat → Prop} {Q : State → Prop} {cells slots : Nat} {H0 : Heap} {e0 : Nat} {e1 : Nat} {e2 : Nat} {e3 : Nat} {e4 : Nat} {e5 : Nat} {e6 : Nat} {e7 : Nat} {e8 : Nat} {c1 : ClassId} {c2 : ClassId} {c4 : ClassId} {c5 : ClassId} {c6 : ClassId} {c7 : ClassId} {c8 : ClassId} {o : Dx} (hx : p.tables.exec = Jvm.exec) (hb : c.code = prog_9_method_12_code) (hml : c.maxLocals = 4) (hw : ∀ w ∈ bg_W, w.before args s = true) (hown : s.vm.findClass R_Md = some m.cls) (hK : va_K (dC, dI) vwCl [(c1, .int), (c2, .int), (c4, .int), (c5, .int), (c6, .int), (c7, .int), (c8, .int)] s) (hA : ∀ q : Nat, H0.size ≤ q → A q) (hR1 : 1 ≤ R.frames) (hR2 : 1 ≤ R.locals) (hR3 : cells ≤ R.cells) (hR4 : slots ≤ R.slots)
    (kk22 : ∀ (g : Nat → Int32) (H : Heap) (locs : List Loc) (ls : Array Slot), (∀ j, j < 401 → g j = -1) → va_P (dC, dI) vwCl [(e0, .inr (7, [.ref e1, .ref e2, .ref e3, .ref e4, .ref e5, .int (nI o.vc), .int (nI o.cl), .int (nI o.gv), .int (nI o.na), .int o.sd, .int o.cd, .ref e6, .int (nI o.ln), .ref e7, .ref e8])), (e1, .inl (c1, 80000, .inl o.lt)), (e2, .inl (c2, 4001, .inl o.fs)), (e4, .inl (c4, 20, .inl o.am)), (e5, .inl (c5, 401, .inl g)), (e6, .inl (c6, 401, .inl o.tl)), (e7, .inl (c7, 401, .inl o.ch)), (e8, .inl (c8, 401, .inl o.mk))] H → va_D A [(e0, .inr (7, [.ref e1, .ref e2, .ref e3, .ref e4, .ref e5, .int (nI o.vc), .int (nI o.cl), .int (nI o.gv), .int (nI o.na), .int o.sd, .int o.cd, .ref e6, .int (nI o.ln), .ref e7, .ref e8])), (e1, .inl (c1, 80000, .inl o.lt)), (e2, .inl (c2, 4001, .inl o.fs)), (e4, .inl (c4, 20, .inl o.am)), (e5, .inl (c5, 401, .inl g)), (e6, .inl (c6, 401, .inl o.tl)), (e7, .inl (c7, 401, .inl o.ch)), (e8, .inl (c8, 401, .inl o.mk))] → va_S A H0 H locs → lv_has ls 4 [(0, .ref e0)] → W p l e R s m args below meth c H locs cells slots Q (F0 m 22 ls []))
    : ∀ (f : Nat) (ix : Nat) (g : Nat → Int32) (H : Heap) (locs : List Loc) (ls : Array Slot), 401 - ix < f → (ix ≤ 401) → (∀ j, j < ix → g j = -1) → va_P (dC, dI) vwCl [(e0, .inr (7, [.ref e1, .ref e2, .ref e3, .ref e4, .ref e5, .int (nI o.vc), .int (nI o.cl), .int (nI o.gv), .int (nI o.na), .int o.sd, .int o.cd, .ref e6, .int (nI o.ln), .ref e7, .ref e8])), (e1, .inl (c1, 80000, .inl o.lt)), (e2, .inl (c2, 4001, .inl o.fs)), (e4, .inl (c4, 20, .inl o.am)), (e5, .inl (c5, 401, .inl g)), (e6, .inl (c6, 401, .inl o.tl)), (e7, .inl (c7, 401, .inl o.ch)), (e8, .inl (c8, 401, .inl o.mk))] H → va_D A [(e0, .inr (7, [.ref e1, .ref e2, .ref e3, .ref e4, .ref e5, .int (nI o.vc), .int (nI o.cl), .int (nI o.gv), .int (nI o.na), .int o.sd, .int o.cd, .ref e6, .int (nI o.ln), .ref e7, .ref e8])), (e1, .inl (c1, 80000, .inl o.lt)), (e2, .inl (c2, 4001, .inl o.fs)), (e4, .inl (c4, 20, .inl o.am)), (e5, .inl (c5, 401, .inl g)), (e6, .inl (c6, 401, .inl o.tl)), (e7, .inl (c7, 401, .inl o.ch)), (e8, .inl (c8, 401, .inl o.mk))] → va_S A H0 H locs → lv_has ls 4 [(0, .ref e0), (1, .int (nI ix))] → W p l e R s m args below meth c H locs cells slots Q (F0 m 2 ls []) := by
  intro f
  induction f with
  | zero => intro ix g H locs ls q0 q2 q3 hP hD hS hl; exact absurd q0 (Nat.not_lt_zero _)
  | succ f ih =>
    intro ix g H locs ls q0 q2 q3 hP hD hS hl
    refine lv_iload_n hx hb d_Md_search_2 rfl (lv_at hl 1 rfl) ?_
    refine lv_sipush (v := nI 400) hx hb d_Md_search_3 (by decide) ?_
    refine lv_icmp_gt (tgt := 22) hx hb d_Md_search_6 (by decide) (fun c_6 => ?_) (fun c_6 => ?_)
    · have c_6 : 400 < ix := (nI_ltI (a := 400) (b := ix) (by omega) (by omega)).mp c_6
      exact kk22 g _ _ ls (fun j hj => q3 j (by omega)) hP hD hS (lv_sub hl [0] rfl)
    · have c_6 : ¬ (400 < ix) := fun qq9 => c_6 ((nI_ltI (a := 400) (b := ix) (by omega) (by omega)).mpr qq9)
      refine lv_aload_n hx hb d_Md_search_9 rfl (lv_at hl 0 rfl) ?_
      refine va_get (D := (dC, dI)) (ci := 7) (v := .ref e5) (C := R_Md) (T := F_Md) (N := 15) hx hb hw in_Md hown hK hP 0 rfl rfl 4 (by decide) (hw (Cond.fieldLink "ClauseSearchModel" 23 "ClauseSearchModel" "way" "[I") k_608) (fun _ h9 => h9) rfl d_Md_search_10 ?_
      refine lv_iload_n hx hb d_Md_search_13 rfl (lv_at hl 1 rfl) ?_
      refine lv_iconst (v := (-1)) hx hb d_Md_search_14 (by decide) ?_
      refine va_iast hx hb hK hP hD hS 4 3 rfl rfl (vp_in_nI (by omega) (by omega)) d_Md_search_15 (fun H locs hP hD hS => ?_)
      rw [nI_clamp (n := ix) (by omega)] at hP hD
      have hP : va_P (dC, dI) vwCl [(e0, .inr (7, [.ref e1, .ref e2, .ref e3, .ref e4, .ref e5, .int (nI o.vc), .int (nI o.cl), .int (nI o.gv), .int (nI o.na), .int o.sd, .int o.cd, .ref e6, .int (nI o.ln), .ref e7, .ref e8])), (e1, .inl (c1, 80000, .inl o.lt)), (e2, .inl (c2, 4001, .inl o.fs)), (e4, .inl (c4, 20, .inl o.am)), (e5, .inl (c5, 401, .inl (upd g ix (-1)))), (e6, .inl (c6, 401, .inl o.tl)), (e7, .inl (c7, 401, .inl o.ch)), (e8, .inl (c8, 401, .inl o.mk))] H := hP
      have hD : va_D A [(e0, .inr (7, [.ref e1, .ref e2, .ref e3, .ref e4, .ref e5, .int (nI o.vc), .int (nI o.cl), .int (nI o.gv), .int (nI o.na), .int o.sd, .int o.cd, .ref e6, .int (nI o.ln), .ref e7, .ref e8])), (e1, .inl (c1, 80000, .inl o.lt)), (e2, .inl (c2, 4001, .inl o.fs)), (e4, .inl (c4, 20, .inl o.am)), (e5, .inl (c5, 401, .inl (upd g ix (-1)))), (e6, .inl (c6, 401, .inl o.tl)), (e7, .inl (c7, 401, .inl o.ch)), (e8, .inl (c8, 401, .inl o.mk))] := hD
      refine lv_iinc (v := nI (ix + 1)) (lv' := [(1, .int (nI (ix + 1))), (0, .ref e0)]) hx hb d_Md_search_16 hl (k := 1) rfl (nI_1 ix) (by decide) rfl (fun ls hl => ?_)
      refine lv_goto (tgt := 2) hx hb d_Md_search_19 (by decide) ?_
      exact ih (ix + 1) (upd g ix (-1)) _ _ ls (by omega) (by omega) (fun j hj => by by_cases h : j = ix; (rw [h, pk_us]); rw [pk_un h]; exact q3 j (by omega)) hP hD hS (lv_sub hl [1, 0] rfl)

set_option maxHeartbeats 4000000 in
set_option maxRecDepth 100000 in
/-- what is assumed -/
theorem l_massume {p : Program} {l : Launch} {e : Env} {R : Room} {s : State} {m : MethodId} {args : Array Value} {below : List Frame} {meth : Method} {c : Code} {dC : Nat → ClassId} {dI : Nat → Nat → Nat} {A : Nat → Prop} {Q : State → Prop} {cells slots : Nat} {H0 : Heap} {e0 : Nat} {e1 : Nat} {e2 : Nat} {e3 : Nat} {e4 : Nat} {e5 : Nat} {e6 : Nat} {e7 : Nat} {e8 : Nat} {c1 : ClassId} {c2 : ClassId} {c4 : ClassId} {c5 : ClassId} {c6 : ClassId} {c7 : ClassId} {c8 : ClassId} {o : Dx} {Ag : Nat → Nat} (hx : p.tables.exec = Jvm.exec) (hb : c.code = prog_9_method_12_code) (hml : c.maxLocals = 4) (hw : ∀ w ∈ bg_W, w.before args s = true) (hown : s.vm.findClass R_Md = some m.cls) (hK : va_K (dC, dI) vwCl [(c1, .int), (c2, .int), (c4, .int), (c5, .int), (c6, .int), (c7, .int), (c8, .int)] s) (hA : ∀ q : Nat, H0.size ≤ q → A q) (hR1 : 1 ≤ R.frames) (hR2 : 22 ≤ R.locals) (hR3 : cells ≤ R.cells) (hR4 : slots ≤ R.slots) (hna : o.na ≤ 20) (ham : ∀ j, j < o.na → o.am j = li (Ag j) ∧ 2 ≤ Ag j ∧ Ag j < 802)
    (kk52 : ∀ (w1 : Nat → Int32) (t1 : Nat → Int32) (n1 : Nat) (X1 : Nat → Nat) (H : Heap) (locs : List Loc) (ls : Array Slot), (Mok (Dst o w1 t1 n1 X1)) → va_P (dC, dI) vwCl [(e0, .inr (7, [.ref e1, .ref e2, .ref e3, .ref e4, .ref e5, .int (nI o.vc), .int (nI o.cl), .int (nI o.gv), .int (nI o.na), .int o.sd, .int o.cd, .ref e6, .int (nI n1), .ref e7, .ref e8])), (e1, .inl (c1, 80000, .inl o.lt)), (e2, .inl (c2, 4001, .inl o.fs)), (e4, .inl (c4, 20, .inl o.am)), (e5, .inl (c5, 401, .inl w1)), (e6, .inl (c6, 401, .inl t1)), (e7, .inl (c7, 401, .inl o.ch)), (e8, .inl (c8, 401, .inl o.mk))] H → va_D A [(e0, .inr (7, [.ref e1, .ref e2, .ref e3, .ref e4, .ref e5, .int (nI o.vc), .int (nI o.cl), .int (nI o.gv), .int (nI o.na), .int o.sd, .int o.cd, .ref e6, .int (nI n1), .ref e7, .ref e8])), (e1, .inl (c1, 80000, .inl o.lt)), (e2, .inl (c2, 4001, .inl o.fs)), (e4, .inl (c4, 20, .inl o.am)), (e5, .inl (c5, 401, .inl w1)), (e6, .inl (c6, 401, .inl t1)), (e7, .inl (c7, 401, .inl o.ch)), (e8, .inl (c8, 401, .inl o.mk))] → va_S A H0 H locs → lv_has ls 4 [(0, .ref e0)] → W p l e R s m args below meth c H locs cells slots Q (F0 m 52 ls []))
    (kk74 : ∀ (w1 : Nat → Int32) (t1 : Nat → Int32) (n1 : Nat) (X1 : Nat → Nat) (H : Heap) (locs : List Loc) (ls : Array Slot), (Mok (Dst o w1 t1 n1 X1)) → va_P (dC, dI) vwCl [(e0, .inr (7, [.ref e1, .ref e2, .ref e3, .ref e4, .ref e5, .int (nI o.vc), .int (nI o.cl), .int (nI o.gv), .int (nI o.na), .int o.sd, .int o.cd, .ref e6, .int (nI n1), .ref e7, .ref e8])), (e1, .inl (c1, 80000, .inl o.lt)), (e2, .inl (c2, 4001, .inl o.fs)), (e4, .inl (c4, 20, .inl o.am)), (e5, .inl (c5, 401, .inl w1)), (e6, .inl (c6, 401, .inl t1)), (e7, .inl (c7, 401, .inl o.ch)), (e8, .inl (c8, 401, .inl o.mk))] H → va_D A [(e0, .inr (7, [.ref e1, .ref e2, .ref e3, .ref e4, .ref e5, .int (nI o.vc), .int (nI o.cl), .int (nI o.gv), .int (nI o.na), .int o.sd, .int o.cd, .ref e6, .int (nI n1), .ref e7, .ref e8])), (e1, .inl (c1, 80000, .inl o.lt)), (e2, .inl (c2, 4001, .inl o.fs)), (e4, .inl (c4, 20, .inl o.am)), (e5, .inl (c5, 401, .inl w1)), (e6, .inl (c6, 401, .inl t1)), (e7, .inl (c7, 401, .inl o.ch)), (e8, .inl (c8, 401, .inl o.mk))] → va_S A H0 H locs → lv_has ls 4 [(0, .ref e0)] → W p l e R s m args below meth c H locs cells slots Q (F0 m 74 ls []))
    : ∀ (f : Nat) (ix : Nat) (w1 : Nat → Int32) (t1 : Nat → Int32) (n1 : Nat) (X1 : Nat → Nat) (H : Heap) (locs : List Loc) (ls : Array Slot), o.na - ix < f → (ix ≤ o.na) → (Mok (Dst o w1 t1 n1 X1)) → va_P (dC, dI) vwCl [(e0, .inr (7, [.ref e1, .ref e2, .ref e3, .ref e4, .ref e5, .int (nI o.vc), .int (nI o.cl), .int (nI o.gv), .int (nI o.na), .int o.sd, .int o.cd, .ref e6, .int (nI n1), .ref e7, .ref e8])), (e1, .inl (c1, 80000, .inl o.lt)), (e2, .inl (c2, 4001, .inl o.fs)), (e4, .inl (c4, 20, .inl o.am)), (e5, .inl (c5, 401, .inl w1)), (e6, .inl (c6, 401, .inl t1)), (e7, .inl (c7, 401, .inl o.ch)), (e8, .inl (c8, 401, .inl o.mk))] H → va_D A [(e0, .inr (7, [.ref e1, .ref e2, .ref e3, .ref e4, .ref e5, .int (nI o.vc), .int (nI o.cl), .int (nI o.gv), .int (nI o.na), .int o.sd, .int o.cd, .ref e6, .int (nI n1), .ref e7, .ref e8])), (e1, .inl (c1, 80000, .inl o.lt)), (e2, .inl (c2, 4001, .inl o.fs)), (e4, .inl (c4, 20, .inl o.am)), (e5, .inl (c5, 401, .inl w1)), (e6, .inl (c6, 401, .inl t1)), (e7, .inl (c7, 401, .inl o.ch)), (e8, .inl (c8, 401, .inl o.mk))] → va_S A H0 H locs → lv_has ls 4 [(0, .ref e0), (1, .int (nI ix))] → W p l e R s m args below meth c H locs cells slots Q (F0 m 29 ls []) := by
  intro f
  induction f with
  | zero => intro ix w1 t1 n1 X1 H locs ls q0 q2 hM hP hD hS hl; exact absurd q0 (Nat.not_lt_zero _)
  | succ f ih =>
    intro ix w1 t1 n1 X1 H locs ls q0 q2 hM hP hD hS hl
    have hn4 : n1 ≤ 400 := hM.ln
    refine lv_iload_n hx hb d_Md_search_29 rfl (lv_at hl 1 rfl) ?_
    refine lv_aload_n hx hb d_Md_search_30 rfl (lv_at hl 0 rfl) ?_
    refine va_get (D := (dC, dI)) (ci := 7) (v := .int (nI o.na)) (C := R_Md) (T := F_Md) (N := 15) hx hb hw in_Md hown hK hP 0 rfl rfl 8 (by decide) (hw (Cond.fieldLink "ClauseSearchModel" 70 "ClauseSearchModel" "assumptions" "I") k_612) (fun _ h9 => h9) rfl d_Md_search_31 ?_
    refine lv_icmp_ge (tgt := 74) hx hb d_Md_search_34 (by decide) (fun c_34 => ?_) (fun c_34 => ?_)
    · have c_34 : o.na ≤ ix := (nI_leI (a := o.na) (b := ix) (by omega) (by omega)).mp c_34
      exact kk74 w1 t1 n1 X1 _ _ ls hM hP hD hS (lv_sub hl [0] rfl)
    · have c_34 : ¬ (o.na ≤ ix) := fun qq9 => c_34 ((nI_leI (a := o.na) (b := ix) (by omega) (by omega)).mpr qq9)
      have hj1 := ham ix (by omega)
      refine lv_aload_n hx hb d_Md_search_37 rfl (lv_at hl 0 rfl) ?_
      refine lv_aload_n hx hb d_Md_search_38 rfl (lv_at hl 0 rfl) ?_
      refine va_get (D := (dC, dI)) (ci := 7) (v := .ref e4) (C := R_Md) (T := F_Md) (N := 15) hx hb hw in_Md hown hK hP 0 rfl rfl 3 (by decide) (hw (Cond.fieldLink "ClauseSearchModel" 20 "ClauseSearchModel" "assumed" "[I") k_607) (fun _ h9 => h9) rfl d_Md_search_39 ?_
      refine lv_iload_n hx hb d_Md_search_42 rfl (lv_at hl 1 rfl) ?_
      refine va_iald hx hb hK hP 3 2 rfl rfl (vp_in_nI (by omega) (by omega)) d_Md_search_43 ?_
      refine lv_topi (fun y_1 ey_1 => ?_)
      rw [nI_clamp (by omega)] at ey_1
      rw [hj1.1] at ey_1
      subst ey_1
      have hPc := hP.sub (ws' := [(e0, .inr (7, [.ref e1, .ref e2, .ref e3, .ref e4, .ref e5, .int (nI (Dst o w1 t1 n1 X1).vc), .int (nI (Dst o w1 t1 n1 X1).cl), .int (nI (Dst o w1 t1 n1 X1).gv), .int (nI (Dst o w1 t1 n1 X1).na), .int (Dst o w1 t1 n1 X1).sd, .int (Dst o w1 t1 n1 X1).cd, .ref e6, .int (nI (Dst o w1 t1 n1 X1).ln), .ref e7, .ref e8])), (e5, .inl (c5, 401, .inl (Dst o w1 t1 n1 X1).wv))]) [0, 4] rfl
      have hDc := hD.sub (ws' := [(e0, .inr (7, [.ref e1, .ref e2, .ref e3, .ref e4, .ref e5, .int (nI (Dst o w1 t1 n1 X1).vc), .int (nI (Dst o w1 t1 n1 X1).cl), .int (nI (Dst o w1 t1 n1 X1).gv), .int (nI (Dst o w1 t1 n1 X1).na), .int (Dst o w1 t1 n1 X1).sd, .int (Dst o w1 t1 n1 X1).cd, .ref e6, .int (nI (Dst o w1 t1 n1 X1).ln), .ref e7, .ref e8])), (e5, .inl (c5, 401, .inl (Dst o w1 t1 n1 X1).wv))]) [0, 4] (by decide) rfl
      have hKc := hK.sub (tys' := [(c5, .int)]) [3] rfl
      have hFc := va_free (wc := [(e0, .inr (7, [.ref e1, .ref e2, .ref e3, .ref e4, .ref e5, .int (nI (Dst o w1 t1 n1 X1).vc), .int (nI (Dst o w1 t1 n1 X1).cl), .int (nI (Dst o w1 t1 n1 X1).gv), .int (nI (Dst o w1 t1 n1 X1).na), .int (Dst o w1 t1 n1 X1).sd, .int (Dst o w1 t1 n1 X1).cd, .ref e6, .int (nI (Dst o w1 t1 n1 X1).ln), .ref e7, .ref e8])), (e5, .inl (c5, 401, .inl (Dst o w1 t1 n1 X1).wv))]) hD hS hA [0, 4] rfl
      refine va_calli (va_runV (As := [.int (li (Ag ix))]) (rest := []) ⟨hx, hb, hml, hown, hw⟩ (c_Md_truth l dC dI e0 e1 e2 e3 e4 e5 e6 e7 e8 c5 H.size (Dst o w1 t1 n1 X1) (Ag ix) hj1.2.1 hj1.2.2 (hM.tri (by omega) (by omega))) (cb_V (C := R_Md) 1 hw k_681 k_37 k_678 k_680 k_23 rfl rfl (by decide +kernel) ⟨Nat.le_trans (Nat.le_of_ble_eq_true rfl) hR1, Nat.le_trans (Nat.le_of_ble_eq_true rfl) hR2⟩) ⟨fun a U g mk q => by obtain ⟨q0, q1, qP, qK, qD⟩ := q; exact ⟨q0, q1, qP, va_K.moved (u := U) (U := U.calling g mk a) (Vm.Alike.refl U.vm) qK, qD⟩, va_recv hKc hPc (ci := 7) (q0 := 0) rfl rfl, fun U hU hW => ⟨rfl, by rw [hU], by rw [hU]; exact hPc, va_K.moved hW.alike hKc, hDc.weaken (fun _ _ _ _ => trivial)⟩⟩ rfl rfl hl.1 rfl (lv_room (Nat.le_of_ble_eq_true rfl)) d_Md_search_44 ⟨hR3, hR4⟩) hS (fun q _ h => hFc q h) hFc (fun r_2 u t H1 locs ht hvm hw9 hB hz1 hk1 hS => ?_)
      obtain ⟨f_3, hP1, hK1, hD1⟩ := hB
      rw [ht] at hP1
      have hK1 := va_K.moved hvm.symm hK1
      obtain ⟨hP, hD⟩ := va_join (wr := [(e1, .inl (c1, 80000, .inl o.lt)), (e2, .inl (c2, 4001, .inl o.fs)), (e4, .inl (c4, 20, .inl o.am)), (e6, .inl (c6, 401, .inl t1)), (e7, .inl (c7, 401, .inl o.ch)), (e8, .inl (c8, 401, .inl o.mk))]) (w1 := [(e0, .inr (7, [.ref e1, .ref e2, .ref e3, .ref e4, .ref e5, .int (nI (Dst o w1 t1 n1 X1).vc), .int (nI (Dst o w1 t1 n1 X1).cl), .int (nI (Dst o w1 t1 n1 X1).gv), .int (nI (Dst o w1 t1 n1 X1).na), .int (Dst o w1 t1 n1 X1).sd, .int (Dst o w1 t1 n1 X1).cd, .ref e6, .int (nI (Dst o w1 t1 n1 X1).ln), .ref e7, .ref e8])), (e5, .inl (c5, 401, .inl (Dst o w1 t1 n1 X1).wv))]) hP hD [0, 4] [1, 2, 3, 5, 6, 7] rfl rfl (by decide) (by decide) hk1 hFc hP1 hD1
      generalize H1 = H at hP hS ⊢
      have hP : va_P (dC, dI) vwCl [(e1, .inl (c1, 80000, .inl o.lt)), (e2, .inl (c2, 4001, .inl o.fs)), (e4, .inl (c4, 20, .inl o.am)), (e6, .inl (c6, 401, .inl t1)), (e7, .inl (c7, 401, .inl o.ch)), (e8, .inl (c8, 401, .inl o.mk)), (e0, .inr (7, [.ref e1, .ref e2, .ref e3, .ref e4, .ref e5, .int (nI (Dst o w1 t1 n1 X1).vc), .int (nI (Dst o w1 t1 n1 X1).cl), .int (nI (Dst o w1 t1 n1 X1).gv), .int (nI (Dst o w1 t1 n1 X1).na), .int (Dst o w1 t1 n1 X1).sd, .int (Dst o w1 t1 n1 X1).cd, .ref e6, .int (nI (Dst o w1 t1 n1 X1).ln), .ref e7, .ref e8])), (e5, .inl (c5, 401, .inl (Dst o w1 t1 n1 X1).wv))] H := hP
      have hD : va_D A [(e1, .inl (c1, 80000, .inl o.lt)), (e2, .inl (c2, 4001, .inl o.fs)), (e4, .inl (c4, 20, .inl o.am)), (e6, .inl (c6, 401, .inl t1)), (e7, .inl (c7, 401, .inl o.ch)), (e8, .inl (c8, 401, .inl o.mk)), (e0, .inr (7, [.ref e1, .ref e2, .ref e3, .ref e4, .ref e5, .int (nI (Dst o w1 t1 n1 X1).vc), .int (nI (Dst o w1 t1 n1 X1).cl), .int (nI (Dst o w1 t1 n1 X1).gv), .int (nI (Dst o w1 t1 n1 X1).na), .int (Dst o w1 t1 n1 X1).sd, .int (Dst o w1 t1 n1 X1).cd, .ref e6, .int (nI (Dst o w1 t1 n1 X1).ln), .ref e7, .ref e8])), (e5, .inl (c5, 401, .inl (Dst o w1 t1 n1 X1).wv))] := hD
      refine W.widen (k := cells) (n := slots) (Nat.le_refl _) (Nat.le_refl _) ?_
      have hw9 : r_2 = u := hw9
      subst hw9
      refine lv_istore_n (lv' := [(2, .int r_2), (0, .ref e0), (1, .int (nI ix))]) hx hb d_Md_search_47 rfl hl (by decide) rfl (fun ls hl => ?_)
      refine lv_iload_n hx hb d_Md_search_48 rfl (lv_at hl 0 rfl) ?_
      refine lv_if_ne (tgt := 54) hx hb d_Md_search_49 (by decide) (fun c_49 => ?_) (fun c_49 => ?_)
      · refine lv_iload_n hx hb d_Md_search_54 rfl (lv_at hl 0 rfl) ?_
        refine lv_if_ge (tgt := 68) hx hb d_Md_search_55 (by decide) (fun c_55 => ?_) (fun c_55 => ?_)
        · refine lv_iinc (v := nI (ix + 1)) (lv' := [(1, .int (nI (ix + 1))), (2, .int r_2), (0, .ref e0)]) hx hb d_Md_search_68 hl (k := 2) rfl (nI_1 ix) (by decide) rfl (fun ls hl => ?_)
          refine lv_goto (tgt := 29) hx hb d_Md_search_71 (by decide) ?_
          have hP := hP.sub (ws' := [(e0, .inr (7, [.ref e1, .ref e2, .ref e3, .ref e4, .ref e5, .int (nI o.vc), .int (nI o.cl), .int (nI o.gv), .int (nI o.na), .int o.sd, .int o.cd, .ref e6, .int (nI n1), .ref e7, .ref e8])), (e1, .inl (c1, 80000, .inl o.lt)), (e2, .inl (c2, 4001, .inl o.fs)), (e4, .inl (c4, 20, .inl o.am)), (e5, .inl (c5, 401, .inl w1)), (e6, .inl (c6, 401, .inl t1)), (e7, .inl (c7, 401, .inl o.ch)), (e8, .inl (c8, 401, .inl o.mk))]) [6, 0, 1, 2, 7, 3, 4, 5] rfl
          have hD := hD.sub (ws' := [(e0, .inr (7, [.ref e1, .ref e2, .ref e3, .ref e4, .ref e5, .int (nI o.vc), .int (nI o.cl), .int (nI o.gv), .int (nI o.na), .int o.sd, .int o.cd, .ref e6, .int (nI n1), .ref e7, .ref e8])), (e1, .inl (c1, 80000, .inl o.lt)), (e2, .inl (c2, 4001, .inl o.fs)), (e4, .inl (c4, 20, .inl o.am)), (e5, .inl (c5, 401, .inl w1)), (e6, .inl (c6, 401, .inl t1)), (e7, .inl (c7, 401, .inl o.ch)), (e8, .inl (c8, 401, .inl o.mk))]) [6, 0, 1, 2, 7, 3, 4, 5] (by decide) rfl
          exact ih (ix + 1) w1 t1 n1 X1 _ _ ls (by omega) (by omega) hM hP hD hS (lv_sub hl [2, 0] rfl)
        · have hn1 := tvl_neg (o := (Dst o w1 t1 n1 X1)) (hM.tri (v := Ag ix / 2) (by omega) (by omega)) (by rw [← f_3]; exact c_55)
          refine lv_aload_n hx hb d_Md_search_58 rfl (lv_at hl 1 rfl) ?_
          refine lv_aload_n hx hb d_Md_search_59 rfl (lv_at hl 1 rfl) ?_
          refine va_get (D := (dC, dI)) (ci := 7) (v := .ref e4) (C := R_Md) (T := F_Md) (N := 15) hx hb hw in_Md hown hK hP 6 rfl rfl 3 (by decide) (hw (Cond.fieldLink "ClauseSearchModel" 20 "ClauseSearchModel" "assumed" "[I") k_607) (fun _ h9 => h9) rfl d_Md_search_60 ?_
          refine lv_iload_n hx hb d_Md_search_63 rfl (lv_at hl 2 rfl) ?_
          refine va_iald hx hb hK hP 2 2 rfl rfl (vp_in_nI (by omega) (by omega)) d_Md_search_64 ?_
          refine lv_topi (fun y_4 ey_4 => ?_)
          rw [nI_clamp (by omega)] at ey_4
          rw [hj1.1] at ey_4
          subst ey_4
          have hPc := hP.sub (ws' := [(e0, .inr (7, [.ref e1, .ref e2, .ref e3, .ref e4, .ref e5, .int (nI (Dst o w1 t1 n1 X1).vc), .int (nI (Dst o w1 t1 n1 X1).cl), .int (nI (Dst o w1 t1 n1 X1).gv), .int (nI (Dst o w1 t1 n1 X1).na), .int (Dst o w1 t1 n1 X1).sd, .int (Dst o w1 t1 n1 X1).cd, .ref e6, .int (nI (Dst o w1 t1 n1 X1).ln), .ref e7, .ref e8])), (e5, .inl (c5, 401, .inl (Dst o w1 t1 n1 X1).wv)), (e6, .inl (c6, 401, .inl (Dst o w1 t1 n1 X1).tl))]) [6, 7, 3] rfl
          have hDc := hD.sub (ws' := [(e0, .inr (7, [.ref e1, .ref e2, .ref e3, .ref e4, .ref e5, .int (nI (Dst o w1 t1 n1 X1).vc), .int (nI (Dst o w1 t1 n1 X1).cl), .int (nI (Dst o w1 t1 n1 X1).gv), .int (nI (Dst o w1 t1 n1 X1).na), .int (Dst o w1 t1 n1 X1).sd, .int (Dst o w1 t1 n1 X1).cd, .ref e6, .int (nI (Dst o w1 t1 n1 X1).ln), .ref e7, .ref e8])), (e5, .inl (c5, 401, .inl (Dst o w1 t1 n1 X1).wv)), (e6, .inl (c6, 401, .inl (Dst o w1 t1 n1 X1).tl))]) [6, 7, 3] (by decide) rfl
          have hKc := hK.sub (tys' := [(c5, .int), (c6, .int)]) [3, 4] rfl
          have hFc := va_free (wc := [(e0, .inr (7, [.ref e1, .ref e2, .ref e3, .ref e4, .ref e5, .int (nI (Dst o w1 t1 n1 X1).vc), .int (nI (Dst o w1 t1 n1 X1).cl), .int (nI (Dst o w1 t1 n1 X1).gv), .int (nI (Dst o w1 t1 n1 X1).na), .int (Dst o w1 t1 n1 X1).sd, .int (Dst o w1 t1 n1 X1).cd, .ref e6, .int (nI (Dst o w1 t1 n1 X1).ln), .ref e7, .ref e8])), (e5, .inl (c5, 401, .inl (Dst o w1 t1 n1 X1).wv)), (e6, .inl (c6, 401, .inl (Dst o w1 t1 n1 X1).tl))]) hD hS hA [6, 7, 3] rfl
          refine va_callv (va_runV (As := [.int (li (Ag ix))]) (rest := []) ⟨hx, hb, hml, hown, hw⟩ (c_Md_set l dC dI e0 e1 e2 e3 e4 e5 e6 e7 e8 c5 c6 H.size (Dst o w1 t1 n1 X1) (Ag ix) hj1.2.1 hj1.2.2 (show n1 < 401 by omega)) (cb_V (C := R_Md) 1 hw k_685 k_37 k_682 k_684 k_24 rfl rfl (by decide +kernel) ⟨Nat.le_trans (Nat.le_of_ble_eq_true rfl) hR1, Nat.le_trans (Nat.le_of_ble_eq_true rfl) hR2⟩) ⟨fun a U g mk q => by obtain ⟨q0, q1, qP, qK, qD⟩ := q; exact ⟨q0, q1, qP, va_K.moved (u := U) (U := U.calling g mk a) (Vm.Alike.refl U.vm) qK, qD⟩, va_recv hKc hPc (ci := 7) (q0 := 0) rfl rfl, fun U hU hW => ⟨rfl, by rw [hU], by rw [hU]; exact hPc, va_K.moved hW.alike hKc, hDc.weaken (fun _ _ _ _ => trivial)⟩⟩ rfl rfl hl.1 rfl (lv_room (Nat.le_of_ble_eq_true rfl)) d_Md_search_65 ⟨hR3, hR4⟩) hS (fun q _ h => hFc q h) hFc (fun u t H1 locs ht hvm hw9 hB hz1 hk1 hS => ?_)
          obtain ⟨hP1, hK1, hD1⟩ := hB
          rw [ht] at hP1
          have hK1 := va_K.moved hvm.symm hK1
          obtain ⟨hP, hD⟩ := va_join (wr := [(e1, .inl (c1, 80000, .inl o.lt)), (e2, .inl (c2, 4001, .inl o.fs)), (e4, .inl (c4, 20, .inl o.am)), (e7, .inl (c7, 401, .inl o.ch)), (e8, .inl (c8, 401, .inl o.mk))]) (w1 := [(e0, .inr (7, [.ref e1, .ref e2, .ref e3, .ref e4, .ref e5, .int (nI (Dst o w1 t1 n1 X1).vc), .int (nI (Dst o w1 t1 n1 X1).cl), .int (nI (Dst o w1 t1 n1 X1).gv), .int (nI (Dst o w1 t1 n1 X1).na), .int (Dst o w1 t1 n1 X1).sd, .int (Dst o w1 t1 n1 X1).cd, .ref e6, .int (nI ((Dst o w1 t1 n1 X1).ln + 1)), .ref e7, .ref e8])), (e5, .inl (c5, 401, .inl (upd (Dst o w1 t1 n1 X1).wv ((Ag ix) / 2) (sg (Ag ix))))), (e6, .inl (c6, 401, .inl (upd (Dst o w1 t1 n1 X1).tl (Dst o w1 t1 n1 X1).ln (nI ((Ag ix) / 2)))))]) hP hD [6, 7, 3] [0, 1, 2, 4, 5] rfl rfl (by decide) (by decide) hk1 hFc hP1 hD1
          generalize H1 = H at hP hS ⊢
          have hP : va_P (dC, dI) vwCl [(e1, .inl (c1, 80000, .inl o.lt)), (e2, .inl (c2, 4001, .inl o.fs)), (e4, .inl (c4, 20, .inl o.am)), (e7, .inl (c7, 401, .inl o.ch)), (e8, .inl (c8, 401, .inl o.mk)), (e0, .inr (7, [.ref e1, .ref e2, .ref e3, .ref e4, .ref e5, .int (nI (Dst o w1 t1 n1 X1).vc), .int (nI (Dst o w1 t1 n1 X1).cl), .int (nI (Dst o w1 t1 n1 X1).gv), .int (nI (Dst o w1 t1 n1 X1).na), .int (Dst o w1 t1 n1 X1).sd, .int (Dst o w1 t1 n1 X1).cd, .ref e6, .int (nI ((Dst o w1 t1 n1 X1).ln + 1)), .ref e7, .ref e8])), (e5, .inl (c5, 401, .inl (upd (Dst o w1 t1 n1 X1).wv ((Ag ix) / 2) (sg (Ag ix))))), (e6, .inl (c6, 401, .inl (upd (Dst o w1 t1 n1 X1).tl (Dst o w1 t1 n1 X1).ln (nI ((Ag ix) / 2)))))] H := hP
          have hD : va_D A [(e1, .inl (c1, 80000, .inl o.lt)), (e2, .inl (c2, 4001, .inl o.fs)), (e4, .inl (c4, 20, .inl o.am)), (e7, .inl (c7, 401, .inl o.ch)), (e8, .inl (c8, 401, .inl o.mk)), (e0, .inr (7, [.ref e1, .ref e2, .ref e3, .ref e4, .ref e5, .int (nI (Dst o w1 t1 n1 X1).vc), .int (nI (Dst o w1 t1 n1 X1).cl), .int (nI (Dst o w1 t1 n1 X1).gv), .int (nI (Dst o w1 t1 n1 X1).na), .int (Dst o w1 t1 n1 X1).sd, .int (Dst o w1 t1 n1 X1).cd, .ref e6, .int (nI ((Dst o w1 t1 n1 X1).ln + 1)), .ref e7, .ref e8])), (e5, .inl (c5, 401, .inl (upd (Dst o w1 t1 n1 X1).wv ((Ag ix) / 2) (sg (Ag ix))))), (e6, .inl (c6, 401, .inl (upd (Dst o w1 t1 n1 X1).tl (Dst o w1 t1 n1 X1).ln (nI ((Ag ix) / 2)))))] := hD
          refine W.widen (k := cells) (n := slots) (Nat.le_refl _) (Nat.le_refl _) ?_
          refine lv_iinc (v := nI (ix + 1)) (lv' := [(1, .int (nI (ix + 1))), (2, .int r_2), (0, .ref e0)]) hx hb d_Md_search_68 hl (k := 2) rfl (nI_1 ix) (by decide) rfl (fun ls hl => ?_)
          refine lv_goto (tgt := 29) hx hb d_Md_search_71 (by decide) ?_
          have hP := hP.sub (ws' := [(e0, .inr (7, [.ref e1, .ref e2, .ref e3, .ref e4, .ref e5, .int (nI o.vc), .int (nI o.cl), .int (nI o.gv), .int (nI o.na), .int o.sd, .int o.cd, .ref e6, .int (nI (n1 + 1)), .ref e7, .ref e8])), (e1, .inl (c1, 80000, .inl o.lt)), (e2, .inl (c2, 4001, .inl o.fs)), (e4, .inl (c4, 20, .inl o.am)), (e5, .inl (c5, 401, .inl (upd w1 (Ag ix / 2) (sg (Ag ix))))), (e6, .inl (c6, 401, .inl (upd t1 n1 (nI (Ag ix / 2))))), (e7, .inl (c7, 401, .inl o.ch)), (e8, .inl (c8, 401, .inl o.mk))]) [5, 0, 1, 2, 6, 7, 3, 4] rfl
          have hD := hD.sub (ws' := [(e0, .inr (7, [.ref e1, .ref e2, .ref e3, .ref e4, .ref e5, .int (nI o.vc), .int (nI o.cl), .int (nI o.gv), .int (nI o.na), .int o.sd, .int o.cd, .ref e6, .int (nI (n1 + 1)), .ref e7, .ref e8])), (e1, .inl (c1, 80000, .inl o.lt)), (e2, .inl (c2, 4001, .inl o.fs)), (e4, .inl (c4, 20, .inl o.am)), (e5, .inl (c5, 401, .inl (upd w1 (Ag ix / 2) (sg (Ag ix))))), (e6, .inl (c6, 401, .inl (upd t1 n1 (nI (Ag ix / 2))))), (e7, .inl (c7, 401, .inl o.ch)), (e8, .inl (c8, 401, .inl o.mk))]) [5, 0, 1, 2, 6, 7, 3, 4] (by decide) rfl
          exact ih (ix + 1) (upd w1 (Ag ix / 2) (sg (Ag ix))) (upd t1 n1 (nI (Ag ix / 2))) (n1 + 1) (upN X1 n1 (Ag ix / 2)) _ _ ls (by omega) (by omega) (hM.set (v := Ag ix / 2) (by omega) (by omega) hn1 (sg_01 (Ag ix))) hP hD hS (lv_sub hl [2, 0] rfl)
      · have hP := hP.sub (ws' := [(e0, .inr (7, [.ref e1, .ref e2, .ref e3, .ref e4, .ref e5, .int (nI o.vc), .int (nI o.cl), .int (nI o.gv), .int (nI o.na), .int o.sd, .int o.cd, .ref e6, .int (nI n1), .ref e7, .ref e8])), (e1, .inl (c1, 80000, .inl o.lt)), (e2, .inl (c2, 4001, .inl o.fs)), (e4, .inl (c4, 20, .inl o.am)), (e5, .inl (c5, 401, .inl w1)), (e6, .inl (c6, 401, .inl t1)), (e7, .inl (c7, 401, .inl o.ch)), (e8, .inl (c8, 401, .inl o.mk))]) [6, 0, 1, 2, 7, 3, 4, 5] rfl
        have hD := hD.sub (ws' := [(e0, .inr (7, [.ref e1, .ref e2, .ref e3, .ref e4, .ref e5, .int (nI o.vc), .int (nI o.cl), .int (nI o.gv), .int (nI o.na), .int o.sd, .int o.cd, .ref e6, .int (nI n1), .ref e7, .ref e8])), (e1, .inl (c1, 80000, .inl o.lt)), (e2, .inl (c2, 4001, .inl o.fs)), (e4, .inl (c4, 20, .inl o.am)), (e5, .inl (c5, 401, .inl w1)), (e6, .inl (c6, 401, .inl t1)), (e7, .inl (c7, 401, .inl o.ch)), (e8, .inl (c8, 401, .inl o.mk))]) [6, 0, 1, 2, 7, 3, 4, 5] (by decide) rfl
        exact kk52 w1 t1 n1 X1 _ _ ls hM hP hD hS (lv_sub hl [1] rfl)

set_option maxHeartbeats 4000000 in
set_option maxRecDepth 100000 in
/-- the lowest variable without a truth -/
theorem l_mpick {p : Program} {l : Launch} {e : Env} {R : Room} {s : State} {m : MethodId} {args : Array Value} {below : List Frame} {meth : Method} {c : Code} {dC : Nat → ClassId} {dI : Nat → Nat → Nat} {A : Nat → Prop} {Q : State → Prop} {cells slots : Nat} {H0 : Heap} {e0 : Nat} {e1 : Nat} {e2 : Nat} {e3 : Nat} {e4 : Nat} {e5 : Nat} {e6 : Nat} {e7 : Nat} {e8 : Nat} {c1 : ClassId} {c2 : ClassId} {c4 : ClassId} {c5 : ClassId} {c6 : ClassId} {c7 : ClassId} {c8 : ClassId} {o : Dx} {n1 : Nat} {w1 : Nat → Int32} {t1 : Nat → Int32} {ch : Nat → Int32} {mk : Nat → Int32} {dp : Nat} (hx : p.tables.exec = Jvm.exec) (hb : c.code = prog_9_method_12_code) (hml : c.maxLocals = 4) (hw : ∀ w ∈ bg_W, w.before args s = true) (hown : s.vm.findClass R_Md = some m.cls) (hK : va_K (dC, dI) vwCl [(c1, .int), (c2, .int), (c4, .int), (c5, .int), (c6, .int), (c7, .int), (c8, .int)] s) (hA : ∀ q : Nat, H0.size ≤ q → A q) (hR1 : 1 ≤ R.frames) (hR2 : 1 ≤ R.locals) (hR3 : cells ≤ R.cells) (hR4 : slots ≤ R.slots) (hvc : o.vc ≤ 400)
    (kk110 : ∀ (v : Nat) (H : Heap) (locs : List Loc) (ls : Array Slot), (1 ≤ v) → (v ≤ o.vc + 1) → (v ≤ o.vc → ¬ 0 ≤ w1 v) → va_P (dC, dI) vwCl [(e0, .inr (7, [.ref e1, .ref e2, .ref e3, .ref e4, .ref e5, .int (nI o.vc), .int (nI o.cl), .int (nI o.gv), .int (nI o.na), .int o.sd, .int o.cd, .ref e6, .int (nI n1), .ref e7, .ref e8])), (e1, .inl (c1, 80000, .inl o.lt)), (e2, .inl (c2, 4001, .inl o.fs)), (e4, .inl (c4, 20, .inl o.am)), (e5, .inl (c5, 401, .inl w1)), (e6, .inl (c6, 401, .inl t1)), (e7, .inl (c7, 401, .inl ch)), (e8, .inl (c8, 401, .inl mk))] H → va_D A [(e0, .inr (7, [.ref e1, .ref e2, .ref e3, .ref e4, .ref e5, .int (nI o.vc), .int (nI o.cl), .int (nI o.gv), .int (nI o.na), .int o.sd, .int o.cd, .ref e6, .int (nI n1), .ref e7, .ref e8])), (e1, .inl (c1, 80000, .inl o.lt)), (e2, .inl (c2, 4001, .inl o.fs)), (e4, .inl (c4, 20, .inl o.am)), (e5, .inl (c5, 401, .inl w1)), (e6, .inl (c6, 401, .inl t1)), (e7, .inl (c7, 401, .inl ch)), (e8, .inl (c8, 401, .inl mk))] → va_S A H0 H locs → lv_has ls 4 [(0, .ref e0), (2, .int (nI dp)), (3, .int (nI v))] → W p l e R s m args below meth c H locs cells slots Q (F0 m 110 ls []))
    : ∀ (f : Nat) (v : Nat) (H : Heap) (locs : List Loc) (ls : Array Slot), o.vc + 1 - v < f → (1 ≤ v) → (v ≤ o.vc + 1) → va_P (dC, dI) vwCl [(e0, .inr (7, [.ref e1, .ref e2, .ref e3, .ref e4, .ref e5, .int (nI o.vc), .int (nI o.cl), .int (nI o.gv), .int (nI o.na), .int o.sd, .int o.cd, .ref e6, .int (nI n1), .ref e7, .ref e8])), (e1, .inl (c1, 80000, .inl o.lt)), (e2, .inl (c2, 4001, .inl o.fs)), (e4, .inl (c4, 20, .inl o.am)), (e5, .inl (c5, 401, .inl w1)), (e6, .inl (c6, 401, .inl t1)), (e7, .inl (c7, 401, .inl ch)), (e8, .inl (c8, 401, .inl mk))] H → va_D A [(e0, .inr (7, [.ref e1, .ref e2, .ref e3, .ref e4, .ref e5, .int (nI o.vc), .int (nI o.cl), .int (nI o.gv), .int (nI o.na), .int o.sd, .int o.cd, .ref e6, .int (nI n1), .ref e7, .ref e8])), (e1, .inl (c1, 80000, .inl o.lt)), (e2, .inl (c2, 4001, .inl o.fs)), (e4, .inl (c4, 20, .inl o.am)), (e5, .inl (c5, 401, .inl w1)), (e6, .inl (c6, 401, .inl t1)), (e7, .inl (c7, 401, .inl ch)), (e8, .inl (c8, 401, .inl mk))] → va_S A H0 H locs → lv_has ls 4 [(0, .ref e0), (2, .int (nI dp)), (3, .int (nI v))] → W p l e R s m args below meth c H locs cells slots Q (F0 m 87 ls []) := by
  intro f
  induction f with
  | zero => intro v H locs ls q0 q1 q2 hP hD hS hl; exact absurd q0 (Nat.not_lt_zero _)
  | succ f ih =>
    intro v H locs ls q0 q1 q2 hP hD hS hl
    refine lv_iload_n hx hb d_Md_search_87 rfl (lv_at hl 2 rfl) ?_
    refine lv_aload_n hx hb d_Md_search_88 rfl (lv_at hl 0 rfl) ?_
    refine va_get (D := (dC, dI)) (ci := 7) (v := .int (nI o.vc)) (C := R_Md) (T := F_Md) (N := 15) hx hb hw in_Md hown hK hP 0 rfl rfl 5 (by decide) (hw (Cond.fieldLink "ClauseSearchModel" 43 "ClauseSearchModel" "variables" "I") k_609) (fun _ h9 => h9) rfl d_Md_search_89 ?_
    refine lv_icmp_gt (tgt := 110) hx hb d_Md_search_92 (by decide) (fun c_92 => ?_) (fun c_92 => ?_)
    · have c_92 : o.vc < v := (nI_ltI (a := o.vc) (b := v) (by omega) (by omega)).mp c_92
      exact kk110 v _ _ ls q1 q2 (fun q => absurd q (by omega)) hP hD hS (lv_sub hl [0, 1, 2] rfl)
    · have c_92 : ¬ (o.vc < v) := fun qq9 => c_92 ((nI_ltI (a := o.vc) (b := v) (by omega) (by omega)).mpr qq9)
      refine lv_aload_n hx hb d_Md_search_95 rfl (lv_at hl 0 rfl) ?_
      refine va_get (D := (dC, dI)) (ci := 7) (v := .ref e5) (C := R_Md) (T := F_Md) (N := 15) hx hb hw in_Md hown hK hP 0 rfl rfl 4 (by decide) (hw (Cond.fieldLink "ClauseSearchModel" 23 "ClauseSearchModel" "way" "[I") k_608) (fun _ h9 => h9) rfl d_Md_search_96 ?_
      refine lv_iload_n hx hb d_Md_search_99 rfl (lv_at hl 2 rfl) ?_
      refine va_iald hx hb hK hP 4 3 rfl rfl (vp_in_nI (by omega) (by omega)) d_Md_search_100 ?_
      refine lv_topi (fun y_1 ey_1 => ?_)
      rw [nI_clamp (by omega)] at ey_1
      subst ey_1
      refine lv_if_lt (tgt := 110) hx hb d_Md_search_101 (by decide) (fun c_101 => ?_) (fun c_101 => ?_)
      · exact kk110 v _ _ ls q1 q2 (fun _ => Int32.not_le.mpr c_101) hP hD hS (lv_sub hl [0, 1, 2] rfl)
      · refine lv_iinc (v := nI (v + 1)) (lv' := [(3, .int (nI (v + 1))), (0, .ref e0), (2, .int (nI dp))]) hx hb d_Md_search_104 hl (k := 2) rfl (nI_1 v) (by decide) rfl (fun ls hl => ?_)
        refine lv_goto (tgt := 87) hx hb d_Md_search_107 (by decide) ?_
        exact ih (v + 1) _ _ ls (by omega) (by omega) (by omega) hP hD hS (lv_sub hl [1, 2, 0] rfl)

set_option maxHeartbeats 4000000 in
set_option maxRecDepth 100000 in
/-- back over what was tried both ways -/
theorem l_mback {p : Program} {l : Launch} {e : Env} {R : Room} {s : State} {m : MethodId} {args : Array Value} {below : List Frame} {meth : Method} {c : Code} {dC : Nat → ClassId} {dI : Nat → Nat → Nat} {A : Nat → Prop} {Q : State → Prop} {cells slots : Nat} {H0 : Heap} {e0 : Nat} {e1 : Nat} {e2 : Nat} {e3 : Nat} {e4 : Nat} {e5 : Nat} {e6 : Nat} {e7 : Nat} {e8 : Nat} {c1 : ClassId} {c2 : ClassId} {c4 : ClassId} {c5 : ClassId} {c6 : ClassId} {c7 : ClassId} {c8 : ClassId} {o : Dx} {n1 : Nat} {w1 : Nat → Int32} {t1 : Nat → Int32} {ch : Nat → Int32} {mk : Nat → Int32} {dp : Nat} (hx : p.tables.exec = Jvm.exec) (hb : c.code = prog_9_method_12_code) (hml : c.maxLocals = 4) (hw : ∀ w ∈ bg_W, w.before args s = true) (hown : s.vm.findClass R_Md = some m.cls) (hK : va_K (dC, dI) vwCl [(c1, .int), (c2, .int), (c4, .int), (c5, .int), (c6, .int), (c7, .int), (c8, .int)] s) (hA : ∀ q : Nat, H0.size ≤ q → A q) (hR1 : 1 ≤ R.frames) (hR2 : 1 ≤ R.locals) (hR3 : cells ≤ R.cells) (hR4 : slots ≤ R.slots) (hdp : dp ≤ 400)
    (kk177 : ∀ (ep : Nat) (H : Heap) (locs : List Loc) (ls : Array Slot), (ep ≤ dp) → (ep = 0 ∨ ¬ ch (ep - 1) < 0) → va_P (dC, dI) vwCl [(e0, .inr (7, [.ref e1, .ref e2, .ref e3, .ref e4, .ref e5, .int (nI o.vc), .int (nI o.cl), .int (nI o.gv), .int (nI o.na), .int o.sd, .int o.cd, .ref e6, .int (nI n1), .ref e7, .ref e8])), (e1, .inl (c1, 80000, .inl o.lt)), (e2, .inl (c2, 4001, .inl o.fs)), (e4, .inl (c4, 20, .inl o.am)), (e5, .inl (c5, 401, .inl w1)), (e6, .inl (c6, 401, .inl t1)), (e7, .inl (c7, 401, .inl ch)), (e8, .inl (c8, 401, .inl mk))] H → va_D A [(e0, .inr (7, [.ref e1, .ref e2, .ref e3, .ref e4, .ref e5, .int (nI o.vc), .int (nI o.cl), .int (nI o.gv), .int (nI o.na), .int o.sd, .int o.cd, .ref e6, .int (nI n1), .ref e7, .ref e8])), (e1, .inl (c1, 80000, .inl o.lt)), (e2, .inl (c2, 4001, .inl o.fs)), (e4, .inl (c4, 20, .inl o.am)), (e5, .inl (c5, 401, .inl w1)), (e6, .inl (c6, 401, .inl t1)), (e7, .inl (c7, 401, .inl ch)), (e8, .inl (c8, 401, .inl mk))] → va_S A H0 H locs → lv_has ls 4 [(0, .ref e0), (2, .int (jm ep))] → W p l e R s m args below meth c H locs cells slots Q (F0 m 177 ls []))
    : ∀ (f : Nat) (ep : Nat) (H : Heap) (locs : List Loc) (ls : Array Slot), ep < f → (ep ≤ dp) → va_P (dC, dI) vwCl [(e0, .inr (7, [.ref e1, .ref e2, .ref e3, .ref e4, .ref e5, .int (nI o.vc), .int (nI o.cl), .int (nI o.gv), .int (nI o.na), .int o.sd, .int o.cd, .ref e6, .int (nI n1), .ref e7, .ref e8])), (e1, .inl (c1, 80000, .inl o.lt)), (e2, .inl (c2, 4001, .inl o.fs)), (e4, .inl (c4, 20, .inl o.am)), (e5, .inl (c5, 401, .inl w1)), (e6, .inl (c6, 401, .inl t1)), (e7, .inl (c7, 401, .inl ch)), (e8, .inl (c8, 401, .inl mk))] H → va_D A [(e0, .inr (7, [.ref e1, .ref e2, .ref e3, .ref e4, .ref e5, .int (nI o.vc), .int (nI o.cl), .int (nI o.gv), .int (nI o.na), .int o.sd, .int o.cd, .ref e6, .int (nI n1), .ref e7, .ref e8])), (e1, .inl (c1, 80000, .inl o.lt)), (e2, .inl (c2, 4001, .inl o.fs)), (e4, .inl (c4, 20, .inl o.am)), (e5, .inl (c5, 401, .inl w1)), (e6, .inl (c6, 401, .inl t1)), (e7, .inl (c7, 401, .inl ch)), (e8, .inl (c8, 401, .inl mk))] → va_S A H0 H locs → lv_has ls 4 [(0, .ref e0), (2, .int (jm ep))] → W p l e R s m args below meth c H locs cells slots Q (F0 m 158 ls []) := by
  intro f
  induction f with
  | zero => intro ep H locs ls q0 q2 hP hD hS hl; exact absurd q0 (Nat.not_lt_zero _)
  | succ f ih =>
    intro ep H locs ls q0 q2 hP hD hS hl
    rcases Nat.eq_zero_or_pos ep with he | he
    · subst he
      have hl : lv_has ls 4 [(0, .ref e0), (2, .int (-1))] := hl
      refine lv_iload_n hx hb d_Md_search_158 rfl (lv_at hl 1 rfl) ?_
      refine lv_if_lt (tgt := 177) hx hb d_Md_search_159 (by decide) (fun c_159 => ?_) (fun c_159 => absurd c_159 (by decide))
      exact kk177 0 _ _ ls (Nat.zero_le _) (Or.inl rfl) hP hD hS (lv_sub hl [0, 1] rfl)
    · obtain ⟨i, rfl⟩ : ∃ q, ep = q + 1 := ⟨ep - 1, by omega⟩
      rw [jm_s] at hl
      refine lv_iload_n hx hb d_Md_search_158 rfl (lv_at hl 1 rfl) ?_
      refine lv_if_lt (tgt := 177) hx hb d_Md_search_159 (by decide) (fun c_159 => by exfalso; have c_159 : i < 0 := (nI_ltI (a := i) (b := 0) (by omega) (by omega)).mp c_159; omega) (fun c_159 => ?_)
      have c_159 : ¬ (i < 0) := fun qq9 => c_159 ((nI_ltI (a := i) (b := 0) (by omega) (by omega)).mpr qq9)
      refine lv_aload_n hx hb d_Md_search_162 rfl (lv_at hl 0 rfl) ?_
      refine va_get (D := (dC, dI)) (ci := 7) (v := .ref e7) (C := R_Md) (T := F_Md) (N := 15) hx hb hw in_Md hown hK hP 0 rfl rfl 13 (by decide) (hw (Cond.fieldLink "ClauseSearchModel" 29 "ClauseSearchModel" "chosen" "[I") k_617) (fun _ h9 => h9) rfl d_Md_search_163 ?_
      refine lv_iload_n hx hb d_Md_search_166 rfl (lv_at hl 1 rfl) ?_
      refine va_iald hx hb hK hP 6 5 rfl rfl (vp_in_nI (by omega) (by omega)) d_Md_search_167 ?_
      refine lv_topi (fun y_1 ey_1 => ?_)
      rw [nI_clamp (by omega)] at ey_1
      subst ey_1
      refine lv_if_ge (tgt := 177) hx hb d_Md_search_168 (by decide) (fun c_168 => ?_) (fun c_168 => ?_)
      · rw [← jm_s i] at hl
        exact kk177 (i + 1) _ _ ls q2 (Or.inr (Int32.not_lt.mpr c_168)) hP hD hS (lv_sub hl [0, 1] rfl)
      · refine lv_iinc (v := jm i) (lv' := [(2, .int (jm i)), (0, .ref e0)]) hx hb d_Md_search_171 hl (k := 1) rfl (jm_dec i) (by decide) rfl (fun ls hl => ?_)
        refine lv_goto (tgt := 158) hx hb d_Md_search_174 (by decide) ?_
        exact ih i _ _ ls (by omega) (by omega) hP hD hS (lv_sub hl [1, 0] rfl)
