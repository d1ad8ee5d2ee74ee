abbrev y_Md_follow : MethodName := ⟨"ClauseSearchModel", "follow", "()Z"⟩
theorem k_24 : (Cond.selects "ClauseSearchModel" ⟨"ClauseSearchModel", "set", "(I)V"⟩ ⟨"ClauseSearchModel", "set", "(I)V"⟩) ∈ bg_W := bg_in 24 (by decide +kernel) (by decide +kernel)
theorem k_26 : (Cond.selects "ClauseSearchModel" ⟨"ClauseSearchModel", "left", "(I)I"⟩ ⟨"ClauseSearchModel", "left", "(I)I"⟩) ∈ bg_W := bg_in 26 (by decide +kernel) (by decide +kernel)
theorem k_610 : (Cond.fieldLink "ClauseSearchModel" 53 "ClauseSearchModel" "clauses" "I") ∈ bg_W := bg_in 610 (by decide +kernel) (by decide +kernel)
theorem k_682 : (Cond.methodLink "ClauseSearchModel" 66 ⟨"ClauseSearchModel", "set", "(I)V"⟩) ∈ bg_W := bg_in 682 (by decide +kernel) (by decide +kernel)
theorem k_684 : (Cond.instanceMethod ⟨"ClauseSearchModel", "set", "(I)V"⟩) ∈ bg_W := bg_in 684 (by decide +kernel) (by decide +kernel)
theorem k_685 : (Cond.code ⟨"ClauseSearchModel", "set", "(I)V"⟩ prog_9_method_9_code 3 none) ∈ bg_W := bg_in 685 (by decide +kernel) (by decide +kernel)
theorem k_690 : (Cond.methodLink "ClauseSearchModel" 63 ⟨"ClauseSearchModel", "left", "(I)I"⟩) ∈ bg_W := bg_in 690 (by decide +kernel) (by decide +kernel)
theorem k_692 : (Cond.instanceMethod ⟨"ClauseSearchModel", "left", "(I)I"⟩) ∈ bg_W := bg_in 692 (by decide +kernel) (by decide +kernel)
theorem k_693 : (Cond.code ⟨"ClauseSearchModel", "left", "(I)I"⟩ prog_9_method_8_code 6 (some .int)) ∈ bg_W := bg_in 693 (by decide +kernel) (by decide +kernel)
theorem d_Md_follow_10 : decode prog_9_method_10_code 10 = .ok (.iload_n 2, 1) := by decide +kernel
theorem d_Md_follow_11 : decode prog_9_method_10_code 11 = .ok (.aload_n 0, 1) := by decide +kernel
theorem d_Md_follow_12 : decode prog_9_method_10_code 12 = .ok (.getfield 53, 3) := by decide +kernel
theorem d_Md_follow_15 : decode prog_9_method_10_code 15 = .ok (.if_icmp .ge 45, 3) := by decide +kernel
theorem d_Md_follow_18 : decode prog_9_method_10_code 18 = .ok (.aload_n 0, 1) := by decide +kernel
theorem d_Md_follow_19 : decode prog_9_method_10_code 19 = .ok (.iload_n 2, 1) := by decide +kernel
theorem d_Md_follow_20 : decode prog_9_method_10_code 20 = .ok (.invokevirtual 63, 3) := by decide +kernel
theorem d_Md_follow_23 : decode prog_9_method_10_code 23 = .ok (.istore_n 3, 1) := by decide +kernel
theorem d_Md_follow_24 : decode prog_9_method_10_code 24 = .ok (.iload_n 3, 1) := by decide +kernel
theorem d_Md_follow_25 : decode prog_9_method_10_code 25 = .ok (.sipush (-2000), 3) := by decide +kernel
theorem d_Md_follow_28 : decode prog_9_method_10_code 28 = .ok (.if_icmp .ne 5, 3) := by decide +kernel
theorem d_Md_follow_33 : decode prog_9_method_10_code 33 = .ok (.iload_n 3, 1) := by decide +kernel
theorem d_Md_follow_34 : decode prog_9_method_10_code 34 = .ok (.ifCond .eq 20, 3) := by decide +kernel
theorem d_Md_follow_54 : decode prog_9_method_10_code 54 = .ok (.iinc 2 1, 3) := by decide +kernel
theorem d_Md_follow_57 : decode prog_9_method_10_code 57 = .ok (.goto (-47), 3) := by decide +kernel
theorem d_Md_follow_37 : decode prog_9_method_10_code 37 = .ok (.iload_n 3, 1) := by decide +kernel
theorem d_Md_follow_38 : decode prog_9_method_10_code 38 = .ok (.sipush (-1000), 3) := by decide +kernel
theorem d_Md_follow_41 : decode prog_9_method_10_code 41 = .ok (.if_icmp .ne 6, 3) := by decide +kernel
theorem d_Md_follow_47 : decode prog_9_method_10_code 47 = .ok (.aload_n 0, 1) := by decide +kernel
theorem d_Md_follow_48 : decode prog_9_method_10_code 48 = .ok (.iload_n 3, 1) := by decide +kernel
theorem d_Md_follow_49 : decode prog_9_method_10_code 49 = .ok (.invokevirtual 66, 3) := by decide +kernel
theorem d_Md_follow_52 : decode prog_9_method_10_code 52 = .ok (.iconst 1, 1) := by decide +kernel
theorem d_Md_follow_53 : decode prog_9_method_10_code 53 = .ok (.istore_n 1, 1) := by decide +kernel
theorem d_Md_follow_44 : decode prog_9_method_10_code 44 = .ok (.goto 10, 3) := by decide +kernel
theorem d_Md_follow_2 : decode prog_9_method_10_code 2 = .ok (.iload_n 1, 1) := by decide +kernel
theorem d_Md_follow_3 : decode prog_9_method_10_code 3 = .ok (.ifCond .eq 60, 3) := by decide +kernel
theorem d_Md_follow_6 : decode prog_9_method_10_code 6 = .ok (.iconst 0, 1) := by decide +kernel
theorem d_Md_follow_7 : decode prog_9_method_10_code 7 = .ok (.istore_n 1, 1) := by decide +kernel
theorem d_Md_follow_8 : decode prog_9_method_10_code 8 = .ok (.iconst 0, 1) := by decide +kernel
theorem d_Md_follow_9 : decode prog_9_method_10_code 9 = .ok (.istore_n 2, 1) := by decide +kernel
theorem d_Md_follow_60 : decode prog_9_method_10_code 60 = .ok (.goto (-58), 3) := by decide +kernel
theorem d_Md_follow_0 : decode prog_9_method_10_code 0 = .ok (.iconst 1, 1) := by decide +kernel
theorem d_Md_follow_1 : decode prog_9_method_10_code 1 = .ok (.istore_n 1, 1) := by decide +kernel
theorem d_Md_follow_31 : decode prog_9_method_10_code 31 = .ok (.iconst 0, 1) := by decide +kernel
theorem d_Md_follow_32 : decode prog_9_method_10_code 32 = .ok (.ireturn, 1) := by decide +kernel
theorem d_Md_follow_63 : decode prog_9_method_10_code 63 = .ok (.iconst 1, 1) := by decide +kernel
theorem d_Md_follow_64 : decode prog_9_method_10_code 64 = .ok (.ireturn, 1) := by decide +kernel
set_option maxHeartbeats 4000000 in
set_option maxRecDepth 100000 in
/-- the clauses once -/
theorem l_mfol1 {p : Program} {l : Launch} {e : Env} {R : Room} {s : State} {m : MethodId} {args : Array Value} {below : List Frame} {meth : Method} {c : Code} {dC : Nat → ClassId} {dI : Nat → Nat → Nat} {A : Nat → Prop} {Q : State → Prop} {cells slots : Nat} {H0 : Heap} {e0 : Nat} {e1 : Nat} {e2 : Nat} {e3 : Nat} {e4 : Nat} {e5 : Nat} {e6 : Nat} {e7 : Nat} {e8 : Nat} {c1 : ClassId} {c2 : ClassId} {c5 : ClassId} {c6 : ClassId} {o : Dx} {Bf : Nat → Nat} {Pf : Nat → Nat} {n0 : Nat} {X0 : Nat → Nat} (hx : p.tables.exec = Jvm.exec) (hb : c.code = prog_9_method_10_code) (hml : c.maxLocals = 4) (hw : ∀ w ∈ bg_W, w.before args s = true) (hown : s.vm.findClass R_Md = some m.cls) (hK : va_K (dC, dI) vwCl [(c1, .int), (c2, .int), (c5, .int), (c6, .int)] s) (hA : ∀ q : Nat, H0.size ≤ q → A q) (hR1 : 2 ≤ R.frames) (hR2 : 47 ≤ R.locals) (hR3 : cells ≤ R.cells) (hR4 : slots ≤ R.slots) (hPk : Pok o Bf Pf)
    (kk31 : ∀ (w1 : Nat → Int32) (t1 : Nat → Int32) (n1 : Nat) (X1 : Nat → Nat) (H : Heap) (locs : List Loc) (ls : Array Slot), (Mok (Dst o w1 t1 n1 X1)) → (n0 ≤ n1) → (∀ p, p < n0 → X1 p = X0 p) → va_P (dC, dI) vwCl [(e0, .inr (7, [.ref e1, .ref e2, .ref e3, .ref e4, .ref e5, .int (nI o.vc), .int (nI o.cl), .int (nI o.gv), .int (nI o.na), .int o.sd, .int o.cd, .ref e6, .int (nI n1), .ref e7, .ref e8])), (e1, .inl (c1, 80000, .inl o.lt)), (e2, .inl (c2, 4001, .inl o.fs)), (e5, .inl (c5, 401, .inl w1)), (e6, .inl (c6, 401, .inl t1))] H → va_D A [(e0, .inr (7, [.ref e1, .ref e2, .ref e3, .ref e4, .ref e5, .int (nI o.vc), .int (nI o.cl), .int (nI o.gv), .int (nI o.na), .int o.sd, .int o.cd, .ref e6, .int (nI n1), .ref e7, .ref e8])), (e1, .inl (c1, 80000, .inl o.lt)), (e2, .inl (c2, 4001, .inl o.fs)), (e5, .inl (c5, 401, .inl w1)), (e6, .inl (c6, 401, .inl t1))] → va_S A H0 H locs → lv_has ls 4 [(0, .ref e0)] → W p l e R s m args below meth c H locs cells slots Q (F0 m 31 ls []))
    (kk60 : ∀ (w1 : Nat → Int32) (t1 : Nat → Int32) (n1 : Nat) (X1 : Nat → Nat) (mo : Nat) (H : Heap) (locs : List Loc) (ls : Array Slot), (Mok (Dst o w1 t1 n1 X1)) → (n0 ≤ n1) → (∀ p, p < n0 → X1 p = X0 p) → (mo = 0 ∨ (mo = 1 ∧ n0 < n1)) → va_P (dC, dI) vwCl [(e0, .inr (7, [.ref e1, .ref e2, .ref e3, .ref e4, .ref e5, .int (nI o.vc), .int (nI o.cl), .int (nI o.gv), .int (nI o.na), .int o.sd, .int o.cd, .ref e6, .int (nI n1), .ref e7, .ref e8])), (e1, .inl (c1, 80000, .inl o.lt)), (e2, .inl (c2, 4001, .inl o.fs)), (e5, .inl (c5, 401, .inl w1)), (e6, .inl (c6, 401, .inl t1))] H → va_D A [(e0, .inr (7, [.ref e1, .ref e2, .ref e3, .ref e4, .ref e5, .int (nI o.vc), .int (nI o.cl), .int (nI o.gv), .int (nI o.na), .int o.sd, .int o.cd, .ref e6, .int (nI n1), .ref e7, .ref e8])), (e1, .inl (c1, 80000, .inl o.lt)), (e2, .inl (c2, 4001, .inl o.fs)), (e5, .inl (c5, 401, .inl w1)), (e6, .inl (c6, 401, .inl t1))] → va_S A H0 H locs → lv_has ls 4 [(0, .ref e0), (1, .int (nI mo))] → W p l e R s m args below meth c H locs cells slots Q (F0 m 60 ls []))
    : ∀ (f : Nat) (ix : Nat) (mo : Nat) (w1 : Nat → Int32) (t1 : Nat → Int32) (n1 : Nat) (X1 : Nat → Nat) (H : Heap) (locs : List Loc) (ls : Array Slot), o.cl - ix < f → (ix ≤ o.cl) → (Mok (Dst o w1 t1 n1 X1)) → (n0 ≤ n1) → (∀ p, p < n0 → X1 p = X0 p) → (mo = 0 ∨ (mo = 1 ∧ n0 < n1)) → va_P (dC, dI) vwCl [(e0, .inr (7, [.ref e1, .ref e2, .ref e3, .ref e4, .ref e5, .int (nI o.vc), .int (nI o.cl), .int (nI o.gv), .int (nI o.na), .int o.sd, .int o.cd, .ref e6, .int (nI n1), .ref e7, .ref e8])), (e1, .inl (c1, 80000, .inl o.lt)), (e2, .inl (c2, 4001, .inl o.fs)), (e5, .inl (c5, 401, .inl w1)), (e6, .inl (c6, 401, .inl t1))] H → va_D A [(e0, .inr (7, [.ref e1, .ref e2, .ref e3, .ref e4, .ref e5, .int (nI o.vc), .int (nI o.cl), .int (nI o.gv), .int (nI o.na), .int o.sd, .int o.cd, .ref e6, .int (nI n1), .ref e7, .ref e8])), (e1, .inl (c1, 80000, .inl o.lt)), (e2, .inl (c2, 4001, .inl o.fs)), (e5, .inl (c5, 401, .inl w1)), (e6, .inl (c6, 401, .inl t1))] → va_S A H0 H locs → lv_has ls 4 [(0, .ref e0), (1, .int (nI mo)), (2, .int (nI ix))] → W p l e R s m args below meth c H locs cells slots Q (F0 m 10 ls []) := by
  intro f
  induction f with
  | zero => intro ix mo w1 t1 n1 X1 H locs ls q0 q2 hM q3 q5 q4 hP hD hS hl; exact absurd q0 (Nat.not_lt_zero _)
  | succ f ih =>
    intro ix mo w1 t1 n1 X1 H locs ls q0 q2 hM q3 q5 q4 hP hD hS hl
    have hn4 : n1 ≤ 400 := hM.ln
    have hcl := hPk.cl
    refine lv_iload_n hx hb d_Md_follow_10 rfl (lv_at hl 2 rfl) ?_
    refine lv_aload_n hx hb d_Md_follow_11 rfl (lv_at hl 0 rfl) ?_
    refine va_get (D := (dC, dI)) (ci := 7) (v := .int (nI o.cl)) (C := R_Md) (T := F_Md) (N := 15) hx hb hw in_Md hown hK hP 0 rfl rfl 6 (by decide) (hw (Cond.fieldLink "ClauseSearchModel" 53 "ClauseSearchModel" "clauses" "I") k_610) (fun _ h9 => h9) rfl d_Md_follow_12 ?_
    refine lv_icmp_ge (tgt := 60) hx hb d_Md_follow_15 (by decide) (fun c_15 => ?_) (fun c_15 => ?_)
    · have c_15 : o.cl ≤ ix := (nI_leI (a := o.cl) (b := ix) (by omega) (by omega)).mp c_15
      exact kk60 w1 t1 n1 X1 mo _ _ ls hM q3 q5 q4 hP hD hS (lv_sub hl [0, 1] rfl)
    · have c_15 : ¬ (o.cl ≤ ix) := fun qq9 => c_15 ((nI_leI (a := o.cl) (b := ix) (by omega) (by omega)).mpr qq9)
      refine lv_aload_n hx hb d_Md_follow_18 rfl (lv_at hl 0 rfl) ?_
      refine lv_iload_n hx hb d_Md_follow_19 rfl (lv_at hl 2 rfl) ?_
      have hPc := hP.sub (ws' := [(e0, .inr (7, [.ref e1, .ref e2, .ref e3, .ref e4, .ref e5, .int (nI (Dst o w1 t1 n1 X1).vc), .int (nI (Dst o w1 t1 n1 X1).cl), .int (nI (Dst o w1 t1 n1 X1).gv), .int (nI (Dst o w1 t1 n1 X1).na), .int (Dst o w1 t1 n1 X1).sd, .int (Dst o w1 t1 n1 X1).cd, .ref e6, .int (nI (Dst o w1 t1 n1 X1).ln), .ref e7, .ref e8])), (e1, .inl (c1, 80000, .inl (Dst o w1 t1 n1 X1).lt)), (e2, .inl (c2, 4001, .inl (Dst o w1 t1 n1 X1).fs)), (e5, .inl (c5, 401, .inl (Dst o w1 t1 n1 X1).wv))]) [0, 1, 2, 3] rfl
      have hDc := hD.sub (ws' := [(e0, .inr (7, [.ref e1, .ref e2, .ref e3, .ref e4, .ref e5, .int (nI (Dst o w1 t1 n1 X1).vc), .int (nI (Dst o w1 t1 n1 X1).cl), .int (nI (Dst o w1 t1 n1 X1).gv), .int (nI (Dst o w1 t1 n1 X1).na), .int (Dst o w1 t1 n1 X1).sd, .int (Dst o w1 t1 n1 X1).cd, .ref e6, .int (nI (Dst o w1 t1 n1 X1).ln), .ref e7, .ref e8])), (e1, .inl (c1, 80000, .inl (Dst o w1 t1 n1 X1).lt)), (e2, .inl (c2, 4001, .inl (Dst o w1 t1 n1 X1).fs)), (e5, .inl (c5, 401, .inl (Dst o w1 t1 n1 X1).wv))]) [0, 1, 2, 3] (by decide) rfl
      have hKc := hK.sub (tys' := [(c1, .int), (c2, .int), (c5, .int)]) [0, 1, 2] rfl
      have hFc := va_free (wc := [(e0, .inr (7, [.ref e1, .ref e2, .ref e3, .ref e4, .ref e5, .int (nI (Dst o w1 t1 n1 X1).vc), .int (nI (Dst o w1 t1 n1 X1).cl), .int (nI (Dst o w1 t1 n1 X1).gv), .int (nI (Dst o w1 t1 n1 X1).na), .int (Dst o w1 t1 n1 X1).sd, .int (Dst o w1 t1 n1 X1).cd, .ref e6, .int (nI (Dst o w1 t1 n1 X1).ln), .ref e7, .ref e8])), (e1, .inl (c1, 80000, .inl (Dst o w1 t1 n1 X1).lt)), (e2, .inl (c2, 4001, .inl (Dst o w1 t1 n1 X1).fs)), (e5, .inl (c5, 401, .inl (Dst o w1 t1 n1 X1).wv))]) hD hS hA [0, 1, 2, 3] rfl
      refine va_calli (va_runV (As := [.int (nI ix)]) (rest := []) ⟨hx, hb, hml, hown, hw⟩ (c_Md_left l dC dI e0 e1 e2 e3 e4 e5 e6 e7 e8 c1 c2 c5 H.size (Dst o w1 t1 n1 X1) Bf Pf ix hM hPk (show ix < o.cl by omega)) (cb_V (C := R_Md) 1 hw k_693 k_37 k_690 k_692 k_26 rfl rfl (by decide +kernel) ⟨Nat.le_trans (Nat.le_of_ble_eq_true rfl) hR1, Nat.le_trans (Nat.le_of_ble_eq_true rfl) hR2⟩) ⟨fun a U g mk q => by obtain ⟨q0, q1, qP, qK, qD⟩ := q; exact ⟨q0, q1, qP, va_K.moved (u := U) (U := U.calling g mk a) (Vm.Alike.refl U.vm) qK, qD⟩, va_recv hKc hPc (ci := 7) (q0 := 0) rfl rfl, fun U hU hW => ⟨rfl, by rw [hU], by rw [hU]; exact hPc, va_K.moved hW.alike hKc, hDc.weaken (fun _ _ _ _ => trivial)⟩⟩ rfl rfl hl.1 rfl (lv_room (Nat.le_of_ble_eq_true rfl)) d_Md_follow_20 ⟨hR3, hR4⟩) hS (fun q _ h => hFc q h) hFc (fun r_1 u t H1 locs ht hvm hw9 hB hz1 hk1 hS => ?_)
      obtain ⟨f_2, hP1, hK1, hD1⟩ := hB
      rw [ht] at hP1
      have hK1 := va_K.moved hvm.symm hK1
      obtain ⟨hP, hD⟩ := va_join (wr := [(e6, .inl (c6, 401, .inl t1))]) (w1 := [(e0, .inr (7, [.ref e1, .ref e2, .ref e3, .ref e4, .ref e5, .int (nI (Dst o w1 t1 n1 X1).vc), .int (nI (Dst o w1 t1 n1 X1).cl), .int (nI (Dst o w1 t1 n1 X1).gv), .int (nI (Dst o w1 t1 n1 X1).na), .int (Dst o w1 t1 n1 X1).sd, .int (Dst o w1 t1 n1 X1).cd, .ref e6, .int (nI (Dst o w1 t1 n1 X1).ln), .ref e7, .ref e8])), (e1, .inl (c1, 80000, .inl (Dst o w1 t1 n1 X1).lt)), (e2, .inl (c2, 4001, .inl (Dst o w1 t1 n1 X1).fs)), (e5, .inl (c5, 401, .inl (Dst o w1 t1 n1 X1).wv))]) hP hD [0, 1, 2, 3] [4] rfl rfl (by decide) (by decide) hk1 hFc hP1 hD1
      generalize H1 = H at hP hS ⊢
      have hP : va_P (dC, dI) vwCl [(e6, .inl (c6, 401, .inl t1)), (e0, .inr (7, [.ref e1, .ref e2, .ref e3, .ref e4, .ref e5, .int (nI (Dst o w1 t1 n1 X1).vc), .int (nI (Dst o w1 t1 n1 X1).cl), .int (nI (Dst o w1 t1 n1 X1).gv), .int (nI (Dst o w1 t1 n1 X1).na), .int (Dst o w1 t1 n1 X1).sd, .int (Dst o w1 t1 n1 X1).cd, .ref e6, .int (nI (Dst o w1 t1 n1 X1).ln), .ref e7, .ref e8])), (e1, .inl (c1, 80000, .inl (Dst o w1 t1 n1 X1).lt)), (e2, .inl (c2, 4001, .inl (Dst o w1 t1 n1 X1).fs)), (e5, .inl (c5, 401, .inl (Dst o w1 t1 n1 X1).wv))] H := hP
      have hD : va_D A [(e6, .inl (c6, 401, .inl t1)), (e0, .inr (7, [.ref e1, .ref e2, .ref e3, .ref e4, .ref e5, .int (nI (Dst o w1 t1 n1 X1).vc), .int (nI (Dst o w1 t1 n1 X1).cl), .int (nI (Dst o w1 t1 n1 X1).gv), .int (nI (Dst o w1 t1 n1 X1).na), .int (Dst o w1 t1 n1 X1).sd, .int (Dst o w1 t1 n1 X1).cd, .ref e6, .int (nI (Dst o w1 t1 n1 X1).ln), .ref e7, .ref e8])), (e1, .inl (c1, 80000, .inl (Dst o w1 t1 n1 X1).lt)), (e2, .inl (c2, 4001, .inl (Dst o w1 t1 n1 X1).fs)), (e5, .inl (c5, 401, .inl (Dst o w1 t1 n1 X1).wv))] := hD
      refine W.widen (k := cells) (n := slots) (Nat.le_refl _) (Nat.le_refl _) ?_
      have hw9 : r_1 = u := hw9
      subst hw9
      refine lv_istore_n (lv' := [(3, .int r_1), (0, .ref e0), (1, .int (nI mo)), (2, .int (nI ix))]) hx hb d_Md_follow_23 rfl hl (by decide) rfl (fun ls hl => ?_)
      refine lv_iload_n hx hb d_Md_follow_24 rfl (lv_at hl 0 rfl) ?_
      refine lv_sipush (v := (-2000)) hx hb d_Md_follow_25 (by decide) ?_
      refine lv_icmp_ne (tgt := 33) hx hb d_Md_follow_28 (by decide) (fun c_28 => ?_) (fun c_28 => ?_)
      · refine lv_iload_n hx hb d_Md_follow_33 rfl (lv_at hl 0 rfl) ?_
        refine lv_if_eq (tgt := 54) hx hb d_Md_follow_34 (by decide) (fun c_34 => ?_) (fun c_34 => ?_)
        · refine lv_iinc (v := nI (ix + 1)) (lv' := [(2, .int (nI (ix + 1))), (3, .int r_1), (0, .ref e0), (1, .int (nI mo))]) hx hb d_Md_follow_54 hl (k := 3) rfl (nI_1 ix) (by decide) rfl (fun ls hl => ?_)
          refine lv_goto (tgt := 10) hx hb d_Md_follow_57 (by decide) ?_
          have hP := hP.sub (ws' := [(e0, .inr (7, [.ref e1, .ref e2, .ref e3, .ref e4, .ref e5, .int (nI o.vc), .int (nI o.cl), .int (nI o.gv), .int (nI o.na), .int o.sd, .int o.cd, .ref e6, .int (nI n1), .ref e7, .ref e8])), (e1, .inl (c1, 80000, .inl o.lt)), (e2, .inl (c2, 4001, .inl o.fs)), (e5, .inl (c5, 401, .inl w1)), (e6, .inl (c6, 401, .inl t1))]) [1, 2, 3, 4, 0] rfl
          have hD := hD.sub (ws' := [(e0, .inr (7, [.ref e1, .ref e2, .ref e3, .ref e4, .ref e5, .int (nI o.vc), .int (nI o.cl), .int (nI o.gv), .int (nI o.na), .int o.sd, .int o.cd, .ref e6, .int (nI n1), .ref e7, .ref e8])), (e1, .inl (c1, 80000, .inl o.lt)), (e2, .inl (c2, 4001, .inl o.fs)), (e5, .inl (c5, 401, .inl w1)), (e6, .inl (c6, 401, .inl t1))]) [1, 2, 3, 4, 0] (by decide) rfl
          exact ih (ix + 1) mo w1 t1 n1 X1 _ _ ls (by omega) (by omega) hM q3 q5 q4 hP hD hS (lv_sub hl [2, 3, 0] rfl)
        · refine lv_iload_n hx hb d_Md_follow_37 rfl (lv_at hl 0 rfl) ?_
          refine lv_sipush (v := (-1000)) hx hb d_Md_follow_38 (by decide) ?_
          refine lv_icmp_ne (tgt := 47) hx hb d_Md_follow_41 (by decide) (fun c_41 => ?_) (fun c_41 => ?_)
          · obtain ⟨c9, hc9, k1, k2, k3⟩ := ((f_2.resolve_left c_41).resolve_left c_28).resolve_left c_34
            subst hc9
            refine lv_aload_n hx hb d_Md_follow_47 rfl (lv_at hl 1 rfl) ?_
            refine lv_iload_n hx hb d_Md_follow_48 rfl (lv_at hl 0 rfl) ?_
            have hPc := hP.sub (ws' := [(e0, .inr (7, [.ref e1, .ref e2, .ref e3, .ref e4, .ref e5, .int (nI (Dst o w1 t1 n1 X1).vc), .int (nI (Dst o w1 t1 n1 X1).cl), .int (nI (Dst o w1 t1 n1 X1).gv), .int (nI (Dst o w1 t1 n1 X1).na), .int (Dst o w1 t1 n1 X1).sd, .int (Dst o w1 t1 n1 X1).cd, .ref e6, .int (nI (Dst o w1 t1 n1 X1).ln), .ref e7, .ref e8])), (e5, .inl (c5, 401, .inl (Dst o w1 t1 n1 X1).wv)), (e6, .inl (c6, 401, .inl (Dst o w1 t1 n1 X1).tl))]) [1, 4, 0] rfl
            have hDc := hD.sub (ws' := [(e0, .inr (7, [.ref e1, .ref e2, .ref e3, .ref e4, .ref e5, .int (nI (Dst o w1 t1 n1 X1).vc), .int (nI (Dst o w1 t1 n1 X1).cl), .int (nI (Dst o w1 t1 n1 X1).gv), .int (nI (Dst o w1 t1 n1 X1).na), .int (Dst o w1 t1 n1 X1).sd, .int (Dst o w1 t1 n1 X1).cd, .ref e6, .int (nI (Dst o w1 t1 n1 X1).ln), .ref e7, .ref e8])), (e5, .inl (c5, 401, .inl (Dst o w1 t1 n1 X1).wv)), (e6, .inl (c6, 401, .inl (Dst o w1 t1 n1 X1).tl))]) [1, 4, 0] (by decide) rfl
            have hKc := hK.sub (tys' := [(c5, .int), (c6, .int)]) [2, 3] rfl
            have hFc := va_free (wc := [(e0, .inr (7, [.ref e1, .ref e2, .ref e3, .ref e4, .ref e5, .int (nI (Dst o w1 t1 n1 X1).vc), .int (nI (Dst o w1 t1 n1 X1).cl), .int (nI (Dst o w1 t1 n1 X1).gv), .int (nI (Dst o w1 t1 n1 X1).na), .int (Dst o w1 t1 n1 X1).sd, .int (Dst o w1 t1 n1 X1).cd, .ref e6, .int (nI (Dst o w1 t1 n1 X1).ln), .ref e7, .ref e8])), (e5, .inl (c5, 401, .inl (Dst o w1 t1 n1 X1).wv)), (e6, .inl (c6, 401, .inl (Dst o w1 t1 n1 X1).tl))]) hD hS hA [1, 4, 0] rfl
            refine va_callv (va_runV (As := [.int (li c9)]) (rest := []) ⟨hx, hb, hml, hown, hw⟩ (c_Md_set l dC dI e0 e1 e2 e3 e4 e5 e6 e7 e8 c5 c6 H.size (Dst o w1 t1 n1 X1) c9 k1 k2 (show n1 < 401 by omega)) (cb_V (C := R_Md) 1 hw k_685 k_37 k_682 k_684 k_24 rfl rfl (by decide +kernel) ⟨Nat.le_trans (Nat.le_of_ble_eq_true rfl) hR1, Nat.le_trans (Nat.le_of_ble_eq_true rfl) hR2⟩) ⟨fun a U g mk q => by obtain ⟨q0, q1, qP, qK, qD⟩ := q; exact ⟨q0, q1, qP, va_K.moved (u := U) (U := U.calling g mk a) (Vm.Alike.refl U.vm) qK, qD⟩, va_recv hKc hPc (ci := 7) (q0 := 0) rfl rfl, fun U hU hW => ⟨rfl, by rw [hU], by rw [hU]; exact hPc, va_K.moved hW.alike hKc, hDc.weaken (fun _ _ _ _ => trivial)⟩⟩ rfl rfl hl.1 rfl (lv_room (Nat.le_of_ble_eq_true rfl)) d_Md_follow_49 ⟨hR3, hR4⟩) hS (fun q _ h => hFc q h) hFc (fun u t H1 locs ht hvm hw9 hB hz1 hk1 hS => ?_)
            obtain ⟨hP1, hK1, hD1⟩ := hB
            rw [ht] at hP1
            have hK1 := va_K.moved hvm.symm hK1
            obtain ⟨hP, hD⟩ := va_join (wr := [(e1, .inl (c1, 80000, .inl (Dst o w1 t1 n1 X1).lt)), (e2, .inl (c2, 4001, .inl (Dst o w1 t1 n1 X1).fs))]) (w1 := [(e0, .inr (7, [.ref e1, .ref e2, .ref e3, .ref e4, .ref e5, .int (nI (Dst o w1 t1 n1 X1).vc), .int (nI (Dst o w1 t1 n1 X1).cl), .int (nI (Dst o w1 t1 n1 X1).gv), .int (nI (Dst o w1 t1 n1 X1).na), .int (Dst o w1 t1 n1 X1).sd, .int (Dst o w1 t1 n1 X1).cd, .ref e6, .int (nI ((Dst o w1 t1 n1 X1).ln + 1)), .ref e7, .ref e8])), (e5, .inl (c5, 401, .inl (upd (Dst o w1 t1 n1 X1).wv (c9 / 2) (sg c9)))), (e6, .inl (c6, 401, .inl (upd (Dst o w1 t1 n1 X1).tl (Dst o w1 t1 n1 X1).ln (nI (c9 / 2)))))]) hP hD [1, 4, 0] [2, 3] rfl rfl (by decide) (by decide) hk1 hFc hP1 hD1
            generalize H1 = H at hP hS ⊢
            have hP : va_P (dC, dI) vwCl [(e1, .inl (c1, 80000, .inl (Dst o w1 t1 n1 X1).lt)), (e2, .inl (c2, 4001, .inl (Dst o w1 t1 n1 X1).fs)), (e0, .inr (7, [.ref e1, .ref e2, .ref e3, .ref e4, .ref e5, .int (nI (Dst o w1 t1 n1 X1).vc), .int (nI (Dst o w1 t1 n1 X1).cl), .int (nI (Dst o w1 t1 n1 X1).gv), .int (nI (Dst o w1 t1 n1 X1).na), .int (Dst o w1 t1 n1 X1).sd, .int (Dst o w1 t1 n1 X1).cd, .ref e6, .int (nI ((Dst o w1 t1 n1 X1).ln + 1)), .ref e7, .ref e8])), (e5, .inl (c5, 401, .inl (upd (Dst o w1 t1 n1 X1).wv (c9 / 2) (sg c9)))), (e6, .inl (c6, 401, .inl (upd (Dst o w1 t1 n1 X1).tl (Dst o w1 t1 n1 X1).ln (nI (c9 / 2)))))] H := hP
            have hD : va_D A [(e1, .inl (c1, 80000, .inl (Dst o w1 t1 n1 X1).lt)), (e2, .inl (c2, 4001, .inl (Dst o w1 t1 n1 X1).fs)), (e0, .inr (7, [.ref e1, .ref e2, .ref e3, .ref e4, .ref e5, .int (nI (Dst o w1 t1 n1 X1).vc), .int (nI (Dst o w1 t1 n1 X1).cl), .int (nI (Dst o w1 t1 n1 X1).gv), .int (nI (Dst o w1 t1 n1 X1).na), .int (Dst o w1 t1 n1 X1).sd, .int (Dst o w1 t1 n1 X1).cd, .ref e6, .int (nI ((Dst o w1 t1 n1 X1).ln + 1)), .ref e7, .ref e8])), (e5, .inl (c5, 401, .inl (upd (Dst o w1 t1 n1 X1).wv (c9 / 2) (sg c9)))), (e6, .inl (c6, 401, .inl (upd (Dst o w1 t1 n1 X1).tl (Dst o w1 t1 n1 X1).ln (nI (c9 / 2)))))] := hD
            refine W.widen (k := cells) (n := slots) (Nat.le_refl _) (Nat.le_refl _) ?_
            refine lv_iconst (v := nI 1) hx hb d_Md_follow_52 (by decide) ?_
            refine lv_istore_n (lv' := [(1, .int (nI 1)), (3, .int (li c9)), (0, .ref e0), (2, .int (nI ix))]) hx hb d_Md_follow_53 rfl hl (by decide) rfl (fun ls hl => ?_)
            refine lv_iinc (v := nI (ix + 1)) (lv' := [(2, .int (nI (ix + 1))), (1, .int (nI 1)), (3, .int (li c9)), (0, .ref e0)]) hx hb d_Md_follow_54 hl (k := 3) rfl (nI_1 ix) (by decide) rfl (fun ls hl => ?_)
            refine lv_goto (tgt := 10) hx hb d_Md_follow_57 (by decide) ?_
            have hP := hP.sub (ws' := [(e0, .inr (7, [.ref e1, .ref e2, .ref e3, .ref e4, .ref e5, .int (nI o.vc), .int (nI o.cl), .int (nI o.gv), .int (nI o.na), .int o.sd, .int o.cd, .ref e6, .int (nI (n1 + 1)), .ref e7, .ref e8])), (e1, .inl (c1, 80000, .inl o.lt)), (e2, .inl (c2, 4001, .inl o.fs)), (e5, .inl (c5, 401, .inl (upd w1 (c9 / 2) (sg c9)))), (e6, .inl (c6, 401, .inl (upd t1 n1 (nI (c9 / 2)))))]) [2, 0, 1, 3, 4] rfl
            have hD := hD.sub (ws' := [(e0, .inr (7, [.ref e1, .ref e2, .ref e3, .ref e4, .ref e5, .int (nI o.vc), .int (nI o.cl), .int (nI o.gv), .int (nI o.na), .int o.sd, .int o.cd, .ref e6, .int (nI (n1 + 1)), .ref e7, .ref e8])), (e1, .inl (c1, 80000, .inl o.lt)), (e2, .inl (c2, 4001, .inl o.fs)), (e5, .inl (c5, 401, .inl (upd w1 (c9 / 2) (sg c9)))), (e6, .inl (c6, 401, .inl (upd t1 n1 (nI (c9 / 2)))))]) [2, 0, 1, 3, 4] (by decide) rfl
            exact ih (ix + 1) 1 (upd w1 (c9 / 2) (sg c9)) (upd t1 n1 (nI (c9 / 2))) (n1 + 1) (upN X1 n1 (c9 / 2)) _ _ ls (by omega) (by omega) (hM.set (v := c9 / 2) (by omega) (by omega) k3 (sg_01 c9)) (by omega) (fun p hp => (upN_n (by omega)).trans (q5 p hp)) (Or.inr ⟨rfl, by omega⟩) hP hD hS (lv_sub hl [3, 1, 0] rfl)
          · refine lv_goto (tgt := 54) hx hb d_Md_follow_44 (by decide) ?_
            refine lv_iinc (v := nI (ix + 1)) (lv' := [(2, .int (nI (ix + 1))), (3, .int r_1), (0, .ref e0), (1, .int (nI mo))]) hx hb d_Md_follow_54 hl (k := 3) rfl (nI_1 ix) (by decide) rfl (fun ls hl => ?_)
            refine lv_goto (tgt := 10) hx hb d_Md_follow_57 (by decide) ?_
            have hP := hP.sub (ws' := [(e0, .inr (7, [.ref e1, .ref e2, .ref e3, .ref e4, .ref e5, .int (nI o.vc), .int (nI o.cl), .int (nI o.gv), .int (nI o.na), .int o.sd, .int o.cd, .ref e6, .int (nI n1), .ref e7, .ref e8])), (e1, .inl (c1, 80000, .inl o.lt)), (e2, .inl (c2, 4001, .inl o.fs)), (e5, .inl (c5, 401, .inl w1)), (e6, .inl (c6, 401, .inl t1))]) [1, 2, 3, 4, 0] rfl
            have hD := hD.sub (ws' := [(e0, .inr (7, [.ref e1, .ref e2, .ref e3, .ref e4, .ref e5, .int (nI o.vc), .int (nI o.cl), .int (nI o.gv), .int (nI o.na), .int o.sd, .int o.cd, .ref e6, .int (nI n1), .ref e7, .ref e8])), (e1, .inl (c1, 80000, .inl o.lt)), (e2, .inl (c2, 4001, .inl o.fs)), (e5, .inl (c5, 401, .inl w1)), (e6, .inl (c6, 401, .inl t1))]) [1, 2, 3, 4, 0] (by decide) rfl
            exact ih (ix + 1) mo w1 t1 n1 X1 _ _ ls (by omega) (by omega) hM q3 q5 q4 hP hD hS (lv_sub hl [2, 3, 0] rfl)
      · have hP := hP.sub (ws' := [(e0, .inr (7, [.ref e1, .ref e2, .ref e3, .ref e4, .ref e5, .int (nI o.vc), .int (nI o.cl), .int (nI o.gv), .int (nI o.na), .int o.sd, .int o.cd, .ref e6, .int (nI n1), .ref e7, .ref e8])), (e1, .inl (c1, 80000, .inl o.lt)), (e2, .inl (c2, 4001, .inl o.fs)), (e5, .inl (c5, 401, .inl w1)), (e6, .inl (c6, 401, .inl t1))]) [1, 2, 3, 4, 0] rfl
        have hD := hD.sub (ws' := [(e0, .inr (7, [.ref e1, .ref e2, .ref e3, .ref e4, .ref e5, .int (nI o.vc), .int (nI o.cl), .int (nI o.gv), .int (nI o.na), .int o.sd, .int o.cd, .ref e6, .int (nI n1), .ref e7, .ref e8])), (e1, .inl (c1, 80000, .inl o.lt)), (e2, .inl (c2, 4001, .inl o.fs)), (e5, .inl (c5, 401, .inl w1)), (e6, .inl (c6, 401, .inl t1))]) [1, 2, 3, 4, 0] (by decide) rfl
        exact kk31 w1 t1 n1 X1 _ _ ls hM q3 q5 hP hD hS (lv_sub hl [1] rfl)

set_option maxHeartbeats 4000000 in
set_option maxRecDepth 100000 in
/-- as long as something comes -/
theorem l_mfol2 {p : Program} {l : Launch} {e : Env} {R : Room} {s : State} {m : MethodId} {args : Array Value} {below : List Frame} {meth : Method} {c : Code} {dC : Nat → ClassId} {dI : Nat → Nat → Nat} {A : Nat → Prop} {Q : State → Prop} {cells slots : Nat} {H0 : Heap} {e0 : Nat} {e1 : Nat} {e2 : Nat} {e3 : Nat} {e4 : Nat} {e5 : Nat} {e6 : Nat} {e7 : Nat} {e8 : Nat} {c1 : ClassId} {c2 : ClassId} {c5 : ClassId} {c6 : ClassId} {o : Dx} {Bf : Nat → Nat} {Pf : Nat → Nat} {n0 : Nat} {X0 : Nat → Nat} (hx : p.tables.exec = Jvm.exec) (hb : c.code = prog_9_method_10_code) (hml : c.maxLocals = 4) (hw : ∀ w ∈ bg_W, w.before args s = true) (hown : s.vm.findClass R_Md = some m.cls) (hK : va_K (dC, dI) vwCl [(c1, .int), (c2, .int), (c5, .int), (c6, .int)] s) (hA : ∀ q : Nat, H0.size ≤ q → A q) (hR1 : 2 ≤ R.frames) (hR2 : 47 ≤ R.locals) (hR3 : cells ≤ R.cells) (hR4 : slots ≤ R.slots) (hPk : Pok o Bf Pf)
    (kk31 : ∀ (w1 : Nat → Int32) (t1 : Nat → Int32) (n1 : Nat) (X1 : Nat → Nat) (H : Heap) (locs : List Loc) (ls : Array Slot), (Mok (Dst o w1 t1 n1 X1)) → (n0 ≤ n1) → (∀ p, p < n0 → X1 p = X0 p) → va_P (dC, dI) vwCl [(e0, .inr (7, [.ref e1, .ref e2, .ref e3, .ref e4, .ref e5, .int (nI o.vc), .int (nI o.cl), .int (nI o.gv), .int (nI o.na), .int o.sd, .int o.cd, .ref e6, .int (nI n1), .ref e7, .ref e8])), (e1, .inl (c1, 80000, .inl o.lt)), (e2, .inl (c2, 4001, .inl o.fs)), (e5, .inl (c5, 401, .inl w1)), (e6, .inl (c6, 401, .inl t1))] H → va_D A [(e0, .inr (7, [.ref e1, .ref e2, .ref e3, .ref e4, .ref e5, .int (nI o.vc), .int (nI o.cl), .int (nI o.gv), .int (nI o.na), .int o.sd, .int o.cd, .ref e6, .int (nI n1), .ref e7, .ref e8])), (e1, .inl (c1, 80000, .inl o.lt)), (e2, .inl (c2, 4001, .inl o.fs)), (e5, .inl (c5, 401, .inl w1)), (e6, .inl (c6, 401, .inl t1))] → va_S A H0 H locs → lv_has ls 4 [(0, .ref e0)] → W p l e R s m args below meth c H locs cells slots Q (F0 m 31 ls []))
    (kk63 : ∀ (w1 : Nat → Int32) (t1 : Nat → Int32) (n1 : Nat) (X1 : Nat → Nat) (H : Heap) (locs : List Loc) (ls : Array Slot), (Mok (Dst o w1 t1 n1 X1)) → (n0 ≤ n1) → (∀ p, p < n0 → X1 p = X0 p) → va_P (dC, dI) vwCl [(e0, .inr (7, [.ref e1, .ref e2, .ref e3, .ref e4, .ref e5, .int (nI o.vc), .int (nI o.cl), .int (nI o.gv), .int (nI o.na), .int o.sd, .int o.cd, .ref e6, .int (nI n1), .ref e7, .ref e8])), (e1, .inl (c1, 80000, .inl o.lt)), (e2, .inl (c2, 4001, .inl o.fs)), (e5, .inl (c5, 401, .inl w1)), (e6, .inl (c6, 401, .inl t1))] H → va_D A [(e0, .inr (7, [.ref e1, .ref e2, .ref e3, .ref e4, .ref e5, .int (nI o.vc), .int (nI o.cl), .int (nI o.gv), .int (nI o.na), .int o.sd, .int o.cd, .ref e6, .int (nI n1), .ref e7, .ref e8])), (e1, .inl (c1, 80000, .inl o.lt)), (e2, .inl (c2, 4001, .inl o.fs)), (e5, .inl (c5, 401, .inl w1)), (e6, .inl (c6, 401, .inl t1))] → va_S A H0 H locs → lv_has ls 4 [(0, .ref e0)] → W p l e R s m args below meth c H locs cells slots Q (F0 m 63 ls []))
    : ∀ (f : Nat) (mo : Nat) (w1 : Nat → Int32) (t1 : Nat → Int32) (n1 : Nat) (X1 : Nat → Nat) (H : Heap) (locs : List Loc) (ls : Array Slot), 2 * (400 - n1) + mo < f → (Mok (Dst o w1 t1 n1 X1)) → (n0 ≤ n1) → (∀ p, p < n0 → X1 p = X0 p) → (mo ≤ 1) → va_P (dC, dI) vwCl [(e0, .inr (7, [.ref e1, .ref e2, .ref e3, .ref e4, .ref e5, .int (nI o.vc), .int (nI o.cl), .int (nI o.gv), .int (nI o.na), .int o.sd, .int o.cd, .ref e6, .int (nI n1), .ref e7, .ref e8])), (e1, .inl (c1, 80000, .inl o.lt)), (e2, .inl (c2, 4001, .inl o.fs)), (e5, .inl (c5, 401, .inl w1)), (e6, .inl (c6, 401, .inl t1))] H → va_D A [(e0, .inr (7, [.ref e1, .ref e2, .ref e3, .ref e4, .ref e5, .int (nI o.vc), .int (nI o.cl), .int (nI o.gv), .int (nI o.na), .int o.sd, .int o.cd, .ref e6, .int (nI n1), .ref e7, .ref e8])), (e1, .inl (c1, 80000, .inl o.lt)), (e2, .inl (c2, 4001, .inl o.fs)), (e5, .inl (c5, 401, .inl w1)), (e6, .inl (c6, 401, .inl t1))] → va_S A H0 H locs → lv_has ls 4 [(0, .ref e0), (1, .int (nI mo))] → W p l e R s m args below meth c H locs cells slots Q (F0 m 2 ls []) := by
  intro f
  induction f with
  | zero => intro mo w1 t1 n1 X1 H locs ls q0 hM q3 q5 q6 hP hD hS hl; exact absurd q0 (Nat.not_lt_zero _)
  | succ f ih =>
    intro mo w1 t1 n1 X1 H locs ls q0 hM q3 q5 q6 hP hD hS hl
    have hn4 : n1 ≤ 400 := hM.ln
    refine lv_iload_n hx hb d_Md_follow_2 rfl (lv_at hl 1 rfl) ?_
    refine lv_if_eq (tgt := 63) hx hb d_Md_follow_3 (by decide) (fun c_3 => ?_) (fun c_3 => ?_)
    · have c_3 : mo = 0 := (nI_eq (a := mo) (b := 0) (by omega) (by omega)).mp c_3
      exact kk63 w1 t1 n1 X1 _ _ ls hM q3 q5 hP hD hS (lv_sub hl [0] rfl)
    · have c_3 : ¬ (mo = 0) := fun qq9 => c_3 ((nI_eq (a := mo) (b := 0) (by omega) (by omega)).mpr qq9)
      refine lv_iconst (v := nI 0) hx hb d_Md_follow_6 (by decide) ?_
      refine lv_istore_n (lv' := [(1, .int (nI 0)), (0, .ref e0)]) hx hb d_Md_follow_7 rfl hl (by decide) rfl (fun ls hl => ?_)
      refine lv_iconst (v := nI 0) hx hb d_Md_follow_8 (by decide) ?_
      refine lv_istore_n (lv' := [(2, .int (nI 0)), (1, .int (nI 0)), (0, .ref e0)]) hx hb d_Md_follow_9 rfl hl (by decide) rfl (fun ls hl => ?_)
      refine l_mfol1 (o := o) (Bf := Bf) (Pf := Pf) (n0 := n1) (X0 := X1) hx hb hml hw hown (hK.sub (tys' := [(c1, .int), (c2, .int), (c5, .int), (c6, .int)]) [0, 1, 2, 3] rfl) hA (Nat.le_trans (Nat.le_of_ble_eq_true rfl) hR1) (Nat.le_trans (Nat.le_of_ble_eq_true rfl) hR2) (hR3) (hR4) hPk (fun g_1 g_2 n_3 g_4 H1 locs ls f_5 f_6 f_7 hP1 hD1 hS hl => ?_) (fun g_8 g_9 n_10 g_11 n_12 H1 locs ls f_13 f_14 f_15 f_16 hP1 hD1 hS hl => ?_) (_) 0 0 w1 t1 n1 X1 _ _ ls (Nat.lt_succ_self _) (Nat.zero_le _) hM (Nat.le_refl _) (fun p hp => rfl) (Or.inl rfl) (hP.sub (ws' := [(e0, .inr (7, [.ref e1, .ref e2, .ref e3, .ref e4, .ref e5, .int (nI o.vc), .int (nI o.cl), .int (nI o.gv), .int (nI o.na), .int o.sd, .int o.cd, .ref e6, .int (nI n1), .ref e7, .ref e8])), (e1, .inl (c1, 80000, .inl o.lt)), (e2, .inl (c2, 4001, .inl o.fs)), (e5, .inl (c5, 401, .inl w1)), (e6, .inl (c6, 401, .inl t1))]) [0, 1, 2, 3, 4] rfl) (hD.sub (ws' := [(e0, .inr (7, [.ref e1, .ref e2, .ref e3, .ref e4, .ref e5, .int (nI o.vc), .int (nI o.cl), .int (nI o.gv), .int (nI o.na), .int o.sd, .int o.cd, .ref e6, .int (nI n1), .ref e7, .ref e8])), (e1, .inl (c1, 80000, .inl o.lt)), (e2, .inl (c2, 4001, .inl o.fs)), (e5, .inl (c5, 401, .inl w1)), (e6, .inl (c6, 401, .inl t1))]) [0, 1, 2, 3, 4] (by decide) rfl) hS (lv_sub hl [2, 1, 0] rfl)
      · have hP := hP1
        have hD := hD1
        generalize H1 = H at hP hS ⊢
        have hP : va_P (dC, dI) vwCl [(e0, .inr (7, [.ref e1, .ref e2, .ref e3, .ref e4, .ref e5, .int (nI o.vc), .int (nI o.cl), .int (nI o.gv), .int (nI o.na), .int o.sd, .int o.cd, .ref e6, .int (nI n_3), .ref e7, .ref e8])), (e1, .inl (c1, 80000, .inl o.lt)), (e2, .inl (c2, 4001, .inl o.fs)), (e5, .inl (c5, 401, .inl g_1)), (e6, .inl (c6, 401, .inl g_2))] H := hP
        have hD : va_D A [(e0, .inr (7, [.ref e1, .ref e2, .ref e3, .ref e4, .ref e5, .int (nI o.vc), .int (nI o.cl), .int (nI o.gv), .int (nI o.na), .int o.sd, .int o.cd, .ref e6, .int (nI n_3), .ref e7, .ref e8])), (e1, .inl (c1, 80000, .inl o.lt)), (e2, .inl (c2, 4001, .inl o.fs)), (e5, .inl (c5, 401, .inl g_1)), (e6, .inl (c6, 401, .inl g_2))] := hD
        have hx4 := f_6
        exact kk31 g_1 g_2 n_3 g_4 _ _ ls f_5 (by omega) (fun p hp => (f_7 p (by omega)).trans (q5 p hp)) hP hD hS (lv_sub hl [0] rfl)
      · have hP := hP1
        have hD := hD1
        generalize H1 = H at hP hS ⊢
        have hP : va_P (dC, dI) vwCl [(e0, .inr (7, [.ref e1, .ref e2, .ref e3, .ref e4, .ref e5, .int (nI o.vc), .int (nI o.cl), .int (nI o.gv), .int (nI o.na), .int o.sd, .int o.cd, .ref e6, .int (nI n_10), .ref e7, .ref e8])), (e1, .inl (c1, 80000, .inl o.lt)), (e2, .inl (c2, 4001, .inl o.fs)), (e5, .inl (c5, 401, .inl g_8)), (e6, .inl (c6, 401, .inl g_9))] H := hP
        have hD : va_D A [(e0, .inr (7, [.ref e1, .ref e2, .ref e3, .ref e4, .ref e5, .int (nI o.vc), .int (nI o.cl), .int (nI o.gv), .int (nI o.na), .int o.sd, .int o.cd, .ref e6, .int (nI n_10), .ref e7, .ref e8])), (e1, .inl (c1, 80000, .inl o.lt)), (e2, .inl (c2, 4001, .inl o.fs)), (e5, .inl (c5, 401, .inl g_8)), (e6, .inl (c6, 401, .inl g_9))] := hD
        have hn5 : n_10 ≤ 400 := f_13.ln
        have hx4 := f_14
        have hx5 := f_16
        refine lv_goto (tgt := 2) hx hb d_Md_follow_60 (by decide) ?_
        exact ih n_12 g_8 g_9 n_10 g_11 _ _ ls (by omega) f_13 (by omega) (fun p hp => (f_15 p (by omega)).trans (q5 p hp)) (by omega) hP hD hS (lv_sub hl [0, 1] rfl)

set_option maxHeartbeats 4000000 in
set_option maxRecDepth 100000 in
/-- follow() -/
theorem c_Md_follow (l : Launch) (dC : Nat → ClassId) (dI : Nat → Nat → Nat) (e0 : Nat) (e1 : Nat) (e2 : Nat) (e3 : Nat) (e4 : Nat) (e5 : Nat) (e6 : Nat) (e7 : Nat) (e8 : Nat) (c1 : ClassId) (c2 : ClassId) (c5 : ClassId) (c6 : ClassId) (sz : Nat) (o : Dx) (Bf : Nat → Nat) (Pf : Nat → Nat) (hM : Mok o) (hPk : Pok o Bf Pf) : Met l y_Md_follow (wq y_Md_follow prog_9_method_10_code 4 (some .boolean)) ({ frames := 2, cells := 0, slots := 0, locals := 47 }) (va_Pc [.ref e0] (fun U => U.heap.size = sz ∧ va_P (dC, dI) vwCl [(e0, .inr (7, [.ref e1, .ref e2, .ref e3, .ref e4, .ref e5, .int (nI o.vc), .int (nI o.cl), .int (nI o.gv), .int (nI o.na), .int o.sd, .int o.cd, .ref e6, .int (nI o.ln), .ref e7, .ref e8])), (e1, .inl (c1, 80000, .inl o.lt)), (e2, .inl (c2, 4001, .inl o.fs)), (e5, .inl (c5, 401, .inl o.wv)), (e6, .inl (c6, 401, .inl o.tl))] U.heap ∧ va_K (dC, dI) vwCl [(c1, .int), (c2, .int), (c5, .int), (c6, .int)] U ∧ va_D (fun _ => True) [(e0, .inr (7, [.ref e1, .ref e2, .ref e3, .ref e4, .ref e5, .int (nI o.vc), .int (nI o.cl), .int (nI o.gv), .int (nI o.na), .int o.sd, .int o.cd, .ref e6, .int (nI o.ln), .ref e7, .ref e8])), (e1, .inl (c1, 80000, .inl o.lt)), (e2, .inl (c2, 4001, .inl o.fs)), (e5, .inl (c5, 401, .inl o.wv)), (e6, .inl (c6, 401, .inl o.tl))])) (va_Qi (fun (r : Int32) (r9 : Int32) => r = r9) (fun (r9 : Int32) t => ∃ (w2 : Nat → Int32) (t2 : Nat → Int32) (n2 : Nat) (X2 : Nat → Nat), (Mok (Dst o w2 t2 n2 X2)) ∧ (o.ln ≤ n2) ∧ (∀ p, p < o.ln → X2 p = o.X p) ∧ (r9 = 0 ∨ r9 = 1) ∧ va_P (dC, dI) vwCl [(e0, .inr (7, [.ref e1, .ref e2, .ref e3, .ref e4, .ref e5, .int (nI o.vc), .int (nI o.cl), .int (nI o.gv), .int (nI o.na), .int o.sd, .int o.cd, .ref e6, .int (nI n2), .ref e7, .ref e8])), (e1, .inl (c1, 80000, .inl o.lt)), (e2, .inl (c2, 4001, .inl o.fs)), (e5, .inl (c5, 401, .inl w2)), (e6, .inl (c6, 401, .inl t2))] t.heap ∧ va_K (dC, dI) vwCl [(c1, .int), (c2, .int), (c5, .int), (c6, .int)] t ∧ va_D (va_A [(e0, .inr (7, [.ref e1, .ref e2, .ref e3, .ref e4, .ref e5, .int (nI o.vc), .int (nI o.cl), .int (nI o.gv), .int (nI o.na), .int o.sd, .int o.cd, .ref e6, .int (nI o.ln), .ref e7, .ref e8])), (e1, .inl (c1, 80000, .inl o.lt)), (e2, .inl (c2, 4001, .inl o.fs)), (e5, .inl (c5, 401, .inl o.wv)), (e6, .inl (c6, 401, .inl o.tl))] sz) [(e0, .inr (7, [.ref e1, .ref e2, .ref e3, .ref e4, .ref e5, .int (nI o.vc), .int (nI o.cl), .int (nI o.gv), .int (nI o.na), .int o.sd, .int o.cd, .ref e6, .int (nI n2), .ref e7, .ref e8])), (e1, .inl (c1, 80000, .inl o.lt)), (e2, .inl (c2, 4001, .inl o.fs)), (e5, .inl (c5, 401, .inl w2)), (e6, .inl (c6, 401, .inl t2))]) (va_A [(e0, .inr (7, [.ref e1, .ref e2, .ref e3, .ref e4, .ref e5, .int (nI o.vc), .int (nI o.cl), .int (nI o.gv), .int (nI o.na), .int o.sd, .int o.cd, .ref e6, .int (nI o.ln), .ref e7, .ref e8])), (e1, .inl (c1, 80000, .inl o.lt)), (e2, .inl (c2, 4001, .inl o.fs)), (e5, .inl (c5, 401, .inl o.wv)), (e6, .inl (c6, 401, .inl o.tl))] sz)) (0) (0) (va_A [(e0, .inr (7, [.ref e1, .ref e2, .ref e3, .ref e4, .ref e5, .int (nI o.vc), .int (nI o.cl), .int (nI o.gv), .int (nI o.na), .int o.sd, .int o.cd, .ref e6, .int (nI o.ln), .ref e7, .ref e8])), (e1, .inl (c1, 80000, .inl o.lt)), (e2, .inl (c2, 4001, .inl o.fs)), (e5, .inl (c5, 401, .inl o.wv)), (e6, .inl (c6, 401, .inl o.tl))] sz) := by
  refine Met.ofW (cc := prog_9_method_10_code) (maxL := 4) (ret := (some .boolean)) (by decide) rfl ?_
  intro p e s m args below meth c s₁ B hml hv
  obtain ⟨rfl, hsz, hP, hK, hD0⟩ := hv
  have hx := B.exec
  have hb := B.bytes
  have hr := B.returns
  have hw : ∀ w ∈ bg_W, w.before #[Value.ref e0] s = true := fun w h => atoms_spec (ws := (wq y_Md_follow prog_9_method_10_code 4 (some .boolean))) B.pre w (List.mem_cons_of_mem _ h)
  have hown : s.vm.findClass R_Md = some m.cls := findClass_of_methodNamed B.named
  have hlocks := B.notSynchronized
  subst hsz
  have hD := hD0.self (sz := s.heap.size)
  generalize hAe : va_A [(e0, .inr (7, [.ref e1, .ref e2, .ref e3, .ref e4, .ref e5, .int (nI o.vc), .int (nI o.cl), .int (nI o.gv), .int (nI o.na), .int o.sd, .int o.cd, .ref e6, .int (nI o.ln), .ref e7, .ref e8])), (e1, .inl (c1, 80000, .inl o.lt)), (e2, .inl (c2, 4001, .inl o.fs)), (e5, .inl (c5, 401, .inl o.wv)), (e6, .inl (c6, 401, .inl o.tl))] s.heap.size = A at hD ⊢
  have hA : ∀ q : Nat, s.heap.size ≤ q → A q := fun q h => by rw [← hAe]; exact Or.inr h
  have hS : va_S A s.heap s.heap [] := va_S.rf
  have hP : va_P (dC, dI) vwCl [(e0, .inr (7, [.ref e1, .ref e2, .ref e3, .ref e4, .ref e5, .int (nI o.vc), .int (nI o.cl), .int (nI o.gv), .int (nI o.na), .int o.sd, .int o.cd, .ref e6, .int (nI o.ln), .ref e7, .ref e8])), (e1, .inl (c1, 80000, .inl o.lt)), (e2, .inl (c2, 4001, .inl o.fs)), (e5, .inl (c5, 401, .inl o.wv)), (e6, .inl (c6, 401, .inl o.tl))] s.heap := hP
  have hl := lv_entry ([.ref e0]) (n := 4) (Nat.le_of_ble_eq_true rfl)
  rw [lg_entry_eq]
  generalize (lg_sl ([.ref e0]) ++ List.replicate (4 - (lg_sl ([.ref e0])).length) Slot.unset).toArray = ls at hl ⊢
  have hl : lv_has ls 4 [(0, .ref e0)] := hl
  obtain ⟨H, hH⟩ : ∃ H : Heap, H = s.heap := ⟨_, rfl⟩
  rw [← hH] at hP
  have hS : va_S A s.heap H [] := by rw [hH]; exact va_S.rf
  show W p l e _ s m _ below meth c s.heap [] 0 0 _ _
  rw [← hH]
  refine lv_iconst (v := nI 1) hx hb d_Md_follow_0 (by decide) ?_
  refine lv_istore_n (lv' := [(1, .int (nI 1)), (0, .ref e0)]) hx hb d_Md_follow_1 rfl hl (by decide) rfl (fun ls hl => ?_)
  refine l_mfol2 (o := o) (Bf := Bf) (Pf := Pf) (n0 := o.ln) (X0 := o.X) hx hb hml hw hown (hK.sub (tys' := [(c1, .int), (c2, .int), (c5, .int), (c6, .int)]) [0, 1, 2, 3] rfl) hA (Nat.le_of_ble_eq_true rfl) (Nat.le_of_ble_eq_true rfl) (Nat.le_of_ble_eq_true rfl) (Nat.le_of_ble_eq_true rfl) hPk (fun g_1 g_2 n_3 g_4 H1 locs ls f_5 f_6 f_7 hP1 hD1 hS hl => ?_) (fun g_8 g_9 n_10 g_11 H1 locs ls f_12 f_13 f_14 hP1 hD1 hS hl => ?_) (_) 1 o.wv o.tl o.ln o.X _ _ ls (Nat.lt_succ_self _) hM (Nat.le_refl _) (fun p hp => rfl) (Nat.le_refl _) (hP.sub (ws' := [(e0, .inr (7, [.ref e1, .ref e2, .ref e3, .ref e4, .ref e5, .int (nI o.vc), .int (nI o.cl), .int (nI o.gv), .int (nI o.na), .int o.sd, .int o.cd, .ref e6, .int (nI o.ln), .ref e7, .ref e8])), (e1, .inl (c1, 80000, .inl o.lt)), (e2, .inl (c2, 4001, .inl o.fs)), (e5, .inl (c5, 401, .inl o.wv)), (e6, .inl (c6, 401, .inl o.tl))]) [0, 1, 2, 3, 4] rfl) (hD.sub (ws' := [(e0, .inr (7, [.ref e1, .ref e2, .ref e3, .ref e4, .ref e5, .int (nI o.vc), .int (nI o.cl), .int (nI o.gv), .int (nI o.na), .int o.sd, .int o.cd, .ref e6, .int (nI o.ln), .ref e7, .ref e8])), (e1, .inl (c1, 80000, .inl o.lt)), (e2, .inl (c2, 4001, .inl o.fs)), (e5, .inl (c5, 401, .inl o.wv)), (e6, .inl (c6, 401, .inl o.tl))]) [0, 1, 2, 3, 4] (by decide) rfl) hS (lv_sub hl [1, 0] rfl)
  · have hP := hP1
    have hD := hD1
    generalize H1 = H at hP hS ⊢
    have hP : va_P (dC, dI) vwCl [(e0, .inr (7, [.ref e1, .ref e2, .ref e3, .ref e4, .ref e5, .int (nI o.vc), .int (nI o.cl), .int (nI o.gv), .int (nI o.na), .int o.sd, .int o.cd, .ref e6, .int (nI n_3), .ref e7, .ref e8])), (e1, .inl (c1, 80000, .inl o.lt)), (e2, .inl (c2, 4001, .inl o.fs)), (e5, .inl (c5, 401, .inl g_1)), (e6, .inl (c6, 401, .inl g_2))] H := hP
    have hD : va_D A [(e0, .inr (7, [.ref e1, .ref e2, .ref e3, .ref e4, .ref e5, .int (nI o.vc), .int (nI o.cl), .int (nI o.gv), .int (nI o.na), .int o.sd, .int o.cd, .ref e6, .int (nI n_3), .ref e7, .ref e8])), (e1, .inl (c1, 80000, .inl o.lt)), (e2, .inl (c2, 4001, .inl o.fs)), (e5, .inl (c5, 401, .inl g_1)), (e6, .inl (c6, 401, .inl g_2))] := hD
    refine lv_iconst (v := 0) hx hb d_Md_follow_31 (by decide) ?_
    have hK := hK.sub (tys' := [(c1, .int), (c2, .int), (c5, .int), (c6, .int)]) [0, 1, 2, 3] rfl
    refine W.widen (k := 0) (n := 0) (by decide) (by decide) ?_
    exact W.zret (v := 0) hx hb hr rfl (fun t ht hW => ⟨⟨0, 0, rfl, rfl, g_1, g_2, n_3, g_4, f_5, f_6, f_7, (Or.inl rfl), by rw [ht]; exact hP, va_K.moved hW.alike hK, hD⟩, hS.F ht⟩) hS.2.2 d_Md_follow_32
  · have hP := hP1
    have hD := hD1
    generalize H1 = H at hP hS ⊢
    have hP : va_P (dC, dI) vwCl [(e0, .inr (7, [.ref e1, .ref e2, .ref e3, .ref e4, .ref e5, .int (nI o.vc), .int (nI o.cl), .int (nI o.gv), .int (nI o.na), .int o.sd, .int o.cd, .ref e6, .int (nI n_10), .ref e7, .ref e8])), (e1, .inl (c1, 80000, .inl o.lt)), (e2, .inl (c2, 4001, .inl o.fs)), (e5, .inl (c5, 401, .inl g_8)), (e6, .inl (c6, 401, .inl g_9))] H := hP
    have hD : va_D A [(e0, .inr (7, [.ref e1, .ref e2, .ref e3, .ref e4, .ref e5, .int (nI o.vc), .int (nI o.cl), .int (nI o.gv), .int (nI o.na), .int o.sd, .int o.cd, .ref e6, .int (nI n_10), .ref e7, .ref e8])), (e1, .inl (c1, 80000, .inl o.lt)), (e2, .inl (c2, 4001, .inl o.fs)), (e5, .inl (c5, 401, .inl g_8)), (e6, .inl (c6, 401, .inl g_9))] := hD
    refine lv_iconst (v := 1) hx hb d_Md_follow_63 (by decide) ?_
    have hK := hK.sub (tys' := [(c1, .int), (c2, .int), (c5, .int), (c6, .int)]) [0, 1, 2, 3] rfl
    refine W.widen (k := 0) (n := 0) (by decide) (by decide) ?_
    exact W.zret (v := 1) hx hb hr rfl (fun t ht hW => ⟨⟨1, 1, rfl, rfl, g_8, g_9, n_10, g_11, f_12, f_13, f_14, (Or.inr rfl), by rw [ht]; exact hP, va_K.moved hW.alike hK, hD⟩, hS.F ht⟩) hS.2.2 d_Md_follow_64
