abbrev y_Md_back : MethodName := ⟨"ClauseSearchModel", "back", "(I)V"⟩
theorem d_Md_back_0 : decode prog_9_method_11_code 0 = .ok (.aload_n 0, 1) := by decide +kernel
theorem d_Md_back_1 : decode prog_9_method_11_code 1 = .ok (.getfield 60, 3) := by decide +kernel
theorem d_Md_back_4 : decode prog_9_method_11_code 4 = .ok (.iload_n 1, 1) := by decide +kernel
theorem d_Md_back_5 : decode prog_9_method_11_code 5 = .ok (.if_icmp .le 31, 3) := by decide +kernel
theorem d_Md_back_8 : decode prog_9_method_11_code 8 = .ok (.aload_n 0, 1) := by decide +kernel
theorem d_Md_back_9 : decode prog_9_method_11_code 9 = .ok (.dup, 1) := by decide +kernel
theorem d_Md_back_10 : decode prog_9_method_11_code 10 = .ok (.getfield 60, 3) := by decide +kernel
theorem d_Md_back_13 : decode prog_9_method_11_code 13 = .ok (.iconst 1, 1) := by decide +kernel
theorem d_Md_back_14 : decode prog_9_method_11_code 14 = .ok (.isub, 1) := by decide +kernel
theorem d_Md_back_15 : decode prog_9_method_11_code 15 = .ok (.putfield 60, 3) := by decide +kernel
theorem d_Md_back_18 : decode prog_9_method_11_code 18 = .ok (.aload_n 0, 1) := by decide +kernel
theorem d_Md_back_19 : decode prog_9_method_11_code 19 = .ok (.getfield 23, 3) := by decide +kernel
theorem d_Md_back_22 : decode prog_9_method_11_code 22 = .ok (.aload_n 0, 1) := by decide +kernel
theorem d_Md_back_23 : decode prog_9_method_11_code 23 = .ok (.getfield 26, 3) := by decide +kernel
theorem d_Md_back_26 : decode prog_9_method_11_code 26 = .ok (.aload_n 0, 1) := by decide +kernel
theorem d_Md_back_27 : decode prog_9_method_11_code 27 = .ok (.getfield 60, 3) := by decide +kernel
theorem d_Md_back_30 : decode prog_9_method_11_code 30 = .ok (.iaload, 1) := by decide +kernel
theorem d_Md_back_31 : decode prog_9_method_11_code 31 = .ok (.iconst (-1), 1) := by decide +kernel
theorem d_Md_back_32 : decode prog_9_method_11_code 32 = .ok (.iastore, 1) := by decide +kernel
theorem d_Md_back_33 : decode prog_9_method_11_code 33 = .ok (.goto (-33), 3) := by decide +kernel
theorem d_Md_back_36 : decode prog_9_method_11_code 36 = .ok (.return_, 1) := by decide +kernel
set_option maxHeartbeats 4000000 in
set_option maxRecDepth 100000 in
/-- the loop of back -/
theorem l_back {p : Program} {l : Launch} {e : Env} {R : Room} {s : State} {m : MethodId} {args : Array Value} {below : List Frame} {meth : Method} {c : Code} {dC : Nat → ClassId} {dI : Nat → Nat → Nat} {A : Nat → Prop} {Q : State → Prop} {cells slots : Nat} {H0 : Heap} {e0 : Nat} {e1 : Nat} {e2 : Nat} {e3 : Nat} {e4 : Nat} {e5 : Nat} {e6 : Nat} {e7 : Nat} {e8 : Nat} {c5 : ClassId} {c6 : ClassId} {o : Dx} {j : Nat} (hx : p.tables.exec = Jvm.exec) (hb : c.code = prog_9_method_11_code) (hml : c.maxLocals = 2) (hw : ∀ w ∈ bg_W, w.before args s = true) (hown : s.vm.findClass R_Md = some m.cls) (hK : va_K (dC, dI) vwCl [(c5, .int), (c6, .int)] s) (hA : ∀ q : Nat, H0.size ≤ q → A q) (hR1 : 1 ≤ R.frames) (hR2 : 1 ≤ R.locals) (hR3 : cells ≤ R.cells) (hR4 : slots ≤ R.slots)
    (kk36 : ∀ (g : Nat → Int32) (H : Heap) (locs : List Loc) (ls : Array Slot), (Mok (Dx.of o.lt o.fs o.rw o.am g o.tl o.ch o.mk o.vc o.cl o.gv o.na j o.sd o.cd o.X)) → va_P (dC, dI) vwCl [(e0, .inr (7, [.ref e1, .ref e2, .ref e3, .ref e4, .ref e5, .int (nI o.vc), .int (nI o.cl), .int (nI o.gv), .int (nI o.na), .int o.sd, .int o.cd, .ref e6, .int (nI j), .ref e7, .ref e8])), (e5, .inl (c5, 401, .inl g)), (e6, .inl (c6, 401, .inl o.tl))] H → va_D A [(e0, .inr (7, [.ref e1, .ref e2, .ref e3, .ref e4, .ref e5, .int (nI o.vc), .int (nI o.cl), .int (nI o.gv), .int (nI o.na), .int o.sd, .int o.cd, .ref e6, .int (nI j), .ref e7, .ref e8])), (e5, .inl (c5, 401, .inl g)), (e6, .inl (c6, 401, .inl o.tl))] → va_S A H0 H locs → lv_has ls 2 [(0, .ref e0)] → W p l e R s m args below meth c H locs cells slots Q (F0 m 36 ls []))
    : ∀ (f : Nat) (n0 : Nat) (g : Nat → Int32) (H : Heap) (locs : List Loc) (ls : Array Slot), n0 < f → (j ≤ n0) → (Mok (Dx.of o.lt o.fs o.rw o.am g o.tl o.ch o.mk o.vc o.cl o.gv o.na n0 o.sd o.cd o.X)) → va_P (dC, dI) vwCl [(e0, .inr (7, [.ref e1, .ref e2, .ref e3, .ref e4, .ref e5, .int (nI o.vc), .int (nI o.cl), .int (nI o.gv), .int (nI o.na), .int o.sd, .int o.cd, .ref e6, .int (nI n0), .ref e7, .ref e8])), (e5, .inl (c5, 401, .inl g)), (e6, .inl (c6, 401, .inl o.tl))] H → va_D A [(e0, .inr (7, [.ref e1, .ref e2, .ref e3, .ref e4, .ref e5, .int (nI o.vc), .int (nI o.cl), .int (nI o.gv), .int (nI o.na), .int o.sd, .int o.cd, .ref e6, .int (nI n0), .ref e7, .ref e8])), (e5, .inl (c5, 401, .inl g)), (e6, .inl (c6, 401, .inl o.tl))] → va_S A H0 H locs → lv_has ls 2 [(0, .ref e0), (1, .int (nI j))] → W p l e R s m args below meth c H locs cells slots Q (F0 m 0 ls []) := by
  intro f
  induction f with
  | zero => intro n0 g H locs ls q0 q2 hM hP hD hS hl; exact absurd q0 (Nat.not_lt_zero _)
  | succ f ih =>
    intro n0 g H locs ls q0 q2 hM hP hD hS hl
    have hln : n0 ≤ 400 := hM.ln
    refine lv_aload_n hx hb d_Md_back_0 rfl (lv_at hl 0 rfl) ?_
    refine va_get (D := (dC, dI)) (ci := 7) (v := .int (nI n0)) (C := R_Md) (T := F_Md) (N := 15) hx hb hw in_Md hown hK hP 0 rfl rfl 12 (by decide) (hw (Cond.fieldLink "ClauseSearchModel" 60 "ClauseSearchModel" "length" "I") k_616) (fun _ h9 => h9) rfl d_Md_back_1 ?_
    refine lv_iload_n hx hb d_Md_back_4 rfl (lv_at hl 1 rfl) ?_
    refine lv_icmp_le (tgt := 36) hx hb d_Md_back_5 (by decide) (fun c_5 => ?_) (fun c_5 => ?_)
    · have c_5 : n0 ≤ j := (nI_leI (a := n0) (b := j) (by omega) (by omega)).mp c_5
      have hnj : j = n0 := by omega
      subst hnj
      exact kk36 g _ _ ls hM hP hD hS (lv_sub hl [0] rfl)
    · have c_5 : ¬ (n0 ≤ j) := fun qq9 => c_5 ((nI_leI (a := n0) (b := j) (by omega) (by omega)).mpr qq9)
      obtain ⟨n0, rfl⟩ : ∃ q, n0 = q + 1 := ⟨n0 - 1, by omega⟩
      have hj1 : o.tl n0 = nI (o.X n0) ∧ 1 ≤ o.X n0 ∧ o.X n0 ≤ 400 := hM.tl n0 (Nat.lt_succ_self _)
      refine lv_aload_n hx hb d_Md_back_8 rfl (lv_at hl 0 rfl) ?_
      refine lv_dup hx hb d_Md_back_9 rfl ?_
      refine va_get (D := (dC, dI)) (ci := 7) (v := .int (nI (n0 + 1))) (C := R_Md) (T := F_Md) (N := 15) hx hb hw in_Md hown hK hP 0 rfl rfl 12 (by decide) (hw (Cond.fieldLink "ClauseSearchModel" 60 "ClauseSearchModel" "length" "I") k_616) (fun _ h9 => h9) rfl d_Md_back_10 ?_
      refine lv_iconst (v := nI 1) hx hb d_Md_back_13 (by decide) ?_
      refine lv_isub hx hb d_Md_back_14 ?_
      refine lv_topi (fun y_1 ey_1 => ?_)
      obtain rfl : y_1 = nI n0 := ey_1.trans (pk_sub (by omega))
      refine va_put (D := (dC, dI)) (ci := 7) (v := .int (nI n0)) (ty := .int) (C := R_Md) (T := F_Md) (N := 15) hx hb hw in_Md t_Md t_Md_ok n_Md hown hK hP hD hS 0 rfl rfl 12 (by decide) (hw (Cond.fieldLink "ClauseSearchModel" 60 "ClauseSearchModel" "length" "I") k_616) (fun _ h9 => h9) rfl (by decide +kernel) rfl rfl (Nat.le_of_ble_eq_true rfl) d_Md_back_15 (fun H locs hP hD hS => ?_)
      have hP : va_P (dC, dI) vwCl [(e0, .inr (7, [.ref e1, .ref e2, .ref e3, .ref e4, .ref e5, .int (nI o.vc), .int (nI o.cl), .int (nI o.gv), .int (nI o.na), .int o.sd, .int o.cd, .ref e6, .int (nI n0), .ref e7, .ref e8])), (e5, .inl (c5, 401, .inl g)), (e6, .inl (c6, 401, .inl o.tl))] H := hP
      have hD : va_D A [(e0, .inr (7, [.ref e1, .ref e2, .ref e3, .ref e4, .ref e5, .int (nI o.vc), .int (nI o.cl), .int (nI o.gv), .int (nI o.na), .int o.sd, .int o.cd, .ref e6, .int (nI n0), .ref e7, .ref e8])), (e5, .inl (c5, 401, .inl g)), (e6, .inl (c6, 401, .inl o.tl))] := hD
      refine lv_aload_n hx hb d_Md_back_18 rfl (lv_at hl 0 rfl) ?_
      refine va_get (D := (dC, dI)) (ci := 7) (v := .ref e5) (C := R_Md) (T := F_Md) (N := 15) hx hb hw in_Md hown hK hP 0 rfl rfl 4 (by decide) (hw (Cond.fieldLink "ClauseSearchModel" 23 "ClauseSearchModel" "way" "[I") k_608) (fun _ h9 => h9) rfl d_Md_back_19 ?_
      refine lv_aload_n hx hb d_Md_back_22 rfl (lv_at hl 0 rfl) ?_
      refine va_get (D := (dC, dI)) (ci := 7) (v := .ref e6) (C := R_Md) (T := F_Md) (N := 15) hx hb hw in_Md hown hK hP 0 rfl rfl 11 (by decide) (hw (Cond.fieldLink "ClauseSearchModel" 26 "ClauseSearchModel" "trail" "[I") k_615) (fun _ h9 => h9) rfl d_Md_back_23 ?_
      refine lv_aload_n hx hb d_Md_back_26 rfl (lv_at hl 0 rfl) ?_
      refine va_get (D := (dC, dI)) (ci := 7) (v := .int (nI n0)) (C := R_Md) (T := F_Md) (N := 15) hx hb hw in_Md hown hK hP 0 rfl rfl 12 (by decide) (hw (Cond.fieldLink "ClauseSearchModel" 60 "ClauseSearchModel" "length" "I") k_616) (fun _ h9 => h9) rfl d_Md_back_27 ?_
      refine va_iald hx hb hK hP 2 1 rfl rfl (vp_in_nI (by omega) (by omega)) d_Md_back_30 ?_
      refine lv_topi (fun y_2 ey_2 => ?_)
      rw [nI_clamp (by omega)] at ey_2
      rw [hj1.1] at ey_2
      subst ey_2
      refine lv_iconst (v := (-1)) hx hb d_Md_back_31 (by decide) ?_
      refine va_iast hx hb hK hP hD hS 1 0 rfl rfl (vp_in_nI (by omega) (by omega)) d_Md_back_32 (fun H locs hP hD hS => ?_)
      rw [nI_clamp (n := o.X n0) (by omega)] at hP hD
      have hP : va_P (dC, dI) vwCl [(e0, .inr (7, [.ref e1, .ref e2, .ref e3, .ref e4, .ref e5, .int (nI o.vc), .int (nI o.cl), .int (nI o.gv), .int (nI o.na), .int o.sd, .int o.cd, .ref e6, .int (nI n0), .ref e7, .ref e8])), (e5, .inl (c5, 401, .inl (upd g (o.X n0) (-1)))), (e6, .inl (c6, 401, .inl o.tl))] H := hP
      have hD : va_D A [(e0, .inr (7, [.ref e1, .ref e2, .ref e3, .ref e4, .ref e5, .int (nI o.vc), .int (nI o.cl), .int (nI o.gv), .int (nI o.na), .int o.sd, .int o.cd, .ref e6, .int (nI n0), .ref e7, .ref e8])), (e5, .inl (c5, 401, .inl (upd g (o.X n0) (-1)))), (e6, .inl (c6, 401, .inl o.tl))] := hD
      refine lv_goto (tgt := 0) hx hb d_Md_back_33 (by decide) ?_
      exact ih n0 (upd g (o.X n0) (-1)) _ _ ls (by omega) (by omega) hM.pop hP hD hS (lv_sub hl [0, 1] rfl)

set_option maxHeartbeats 4000000 in
set_option maxRecDepth 100000 in
/-- back(to) -/
theorem c_Md_back (l : Launch) (dC : Nat → ClassId) (dI : Nat → Nat → Nat) (e0 : Nat) (e1 : Nat) (e2 : Nat) (e3 : Nat) (e4 : Nat) (e5 : Nat) (e6 : Nat) (e7 : Nat) (e8 : Nat) (c5 : ClassId) (c6 : ClassId) (sz : Nat) (o : Dx) (j : Nat) (hM : Mok o) (hj : j ≤ o.ln) : Met l y_Md_back (wq y_Md_back prog_9_method_11_code 2 none) ({ frames := 1, cells := 0, slots := 0, locals := 1 }) (va_Pc [.ref e0, .int (nI j)] (fun U => U.heap.size = sz ∧ va_P (dC, dI) vwCl [(e0, .inr (7, [.ref e1, .ref e2, .ref e3, .ref e4, .ref e5, .int (nI o.vc), .int (nI o.cl), .int (nI o.gv), .int (nI o.na), .int o.sd, .int o.cd, .ref e6, .int (nI o.ln), .ref e7, .ref e8])), (e5, .inl (c5, 401, .inl o.wv)), (e6, .inl (c6, 401, .inl o.tl))] U.heap ∧ va_K (dC, dI) vwCl [(c5, .int), (c6, .int)] U ∧ va_D (fun _ => True) [(e0, .inr (7, [.ref e1, .ref e2, .ref e3, .ref e4, .ref e5, .int (nI o.vc), .int (nI o.cl), .int (nI o.gv), .int (nI o.na), .int o.sd, .int o.cd, .ref e6, .int (nI o.ln), .ref e7, .ref e8])), (e5, .inl (c5, 401, .inl o.wv)), (e6, .inl (c6, 401, .inl o.tl))])) (va_Qv (fun _ : Unit => True) (fun (_ : Unit) t => ∃ (g : Nat → Int32), (Mok (Dx.of o.lt o.fs o.rw o.am g o.tl o.ch o.mk o.vc o.cl o.gv o.na j o.sd o.cd o.X)) ∧ va_P (dC, dI) vwCl [(e0, .inr (7, [.ref e1, .ref e2, .ref e3, .ref e4, .ref e5, .int (nI o.vc), .int (nI o.cl), .int (nI o.gv), .int (nI o.na), .int o.sd, .int o.cd, .ref e6, .int (nI j), .ref e7, .ref e8])), (e5, .inl (c5, 401, .inl g)), (e6, .inl (c6, 401, .inl o.tl))] t.heap ∧ va_K (dC, dI) vwCl [(c5, .int), (c6, .int)] t ∧ va_D (va_A [(e0, .inr (7, [.ref e1, .ref e2, .ref e3, .ref e4, .ref e5, .int (nI o.vc), .int (nI o.cl), .int (nI o.gv), .int (nI o.na), .int o.sd, .int o.cd, .ref e6, .int (nI o.ln), .ref e7, .ref e8])), (e5, .inl (c5, 401, .inl o.wv)), (e6, .inl (c6, 401, .inl o.tl))] sz) [(e0, .inr (7, [.ref e1, .ref e2, .ref e3, .ref e4, .ref e5, .int (nI o.vc), .int (nI o.cl), .int (nI o.gv), .int (nI o.na), .int o.sd, .int o.cd, .ref e6, .int (nI j), .ref e7, .ref e8])), (e5, .inl (c5, 401, .inl g)), (e6, .inl (c6, 401, .inl o.tl))]) (va_A [(e0, .inr (7, [.ref e1, .ref e2, .ref e3, .ref e4, .ref e5, .int (nI o.vc), .int (nI o.cl), .int (nI o.gv), .int (nI o.na), .int o.sd, .int o.cd, .ref e6, .int (nI o.ln), .ref e7, .ref e8])), (e5, .inl (c5, 401, .inl o.wv)), (e6, .inl (c6, 401, .inl o.tl))] sz)) (0) (0) (va_A [(e0, .inr (7, [.ref e1, .ref e2, .ref e3, .ref e4, .ref e5, .int (nI o.vc), .int (nI o.cl), .int (nI o.gv), .int (nI o.na), .int o.sd, .int o.cd, .ref e6, .int (nI o.ln), .ref e7, .ref e8])), (e5, .inl (c5, 401, .inl o.wv)), (e6, .inl (c6, 401, .inl o.tl))] sz) := by
  refine Met.ofW (cc := prog_9_method_11_code) (maxL := 2) (ret := none) (by decide) rfl ?_
  intro p e s m args below meth c s₁ B hml hv
  obtain ⟨rfl, hsz, hP, hK, hD0⟩ := hv
  have hx := B.exec
  have hb := B.bytes
  have hr := B.returns
  have hw : ∀ w ∈ bg_W, w.before #[Value.ref e0, Value.int (nI j)] s = true := fun w h => atoms_spec (ws := (wq y_Md_back prog_9_method_11_code 2 none)) B.pre w (List.mem_cons_of_mem _ h)
  have hown : s.vm.findClass R_Md = some m.cls := findClass_of_methodNamed B.named
  have hlocks := B.notSynchronized
  subst hsz
  have hD := hD0.self (sz := s.heap.size)
  generalize hAe : va_A [(e0, .inr (7, [.ref e1, .ref e2, .ref e3, .ref e4, .ref e5, .int (nI o.vc), .int (nI o.cl), .int (nI o.gv), .int (nI o.na), .int o.sd, .int o.cd, .ref e6, .int (nI o.ln), .ref e7, .ref e8])), (e5, .inl (c5, 401, .inl o.wv)), (e6, .inl (c6, 401, .inl o.tl))] s.heap.size = A at hD ⊢
  have hA : ∀ q : Nat, s.heap.size ≤ q → A q := fun q h => by rw [← hAe]; exact Or.inr h
  have hS : va_S A s.heap s.heap [] := va_S.rf
  have hP : va_P (dC, dI) vwCl [(e0, .inr (7, [.ref e1, .ref e2, .ref e3, .ref e4, .ref e5, .int (nI o.vc), .int (nI o.cl), .int (nI o.gv), .int (nI o.na), .int o.sd, .int o.cd, .ref e6, .int (nI o.ln), .ref e7, .ref e8])), (e5, .inl (c5, 401, .inl o.wv)), (e6, .inl (c6, 401, .inl o.tl))] s.heap := hP
  have hl := lv_entry ([.ref e0, .int (nI j)]) (n := 2) (Nat.le_of_ble_eq_true rfl)
  rw [lg_entry_eq]
  generalize (lg_sl ([.ref e0, .int (nI j)]) ++ List.replicate (2 - (lg_sl ([.ref e0, .int (nI j)])).length) Slot.unset).toArray = ls at hl ⊢
  have hl : lv_has ls 2 [(0, .ref e0), (1, .int (nI j))] := hl
  obtain ⟨H, hH⟩ : ∃ H : Heap, H = s.heap := ⟨_, rfl⟩
  rw [← hH] at hP
  have hS : va_S A s.heap H [] := by rw [hH]; exact va_S.rf
  show W p l e _ s m _ below meth c s.heap [] 0 0 _ _
  rw [← hH]
  refine l_back (o := o) (j := j) hx hb hml hw hown (hK.sub (tys' := [(c5, .int), (c6, .int)]) [0, 1] rfl) hA (Nat.le_of_ble_eq_true rfl) (Nat.le_of_ble_eq_true rfl) (Nat.le_of_ble_eq_true rfl) (Nat.le_of_ble_eq_true rfl)  (fun g_1 H1 locs ls f_2 hP1 hD1 hS hl => ?_) (_) o.ln o.wv _ _ ls (Nat.lt_succ_self _) hj hM (hP.sub (ws' := [(e0, .inr (7, [.ref e1, .ref e2, .ref e3, .ref e4, .ref e5, .int (nI o.vc), .int (nI o.cl), .int (nI o.gv), .int (nI o.na), .int o.sd, .int o.cd, .ref e6, .int (nI o.ln), .ref e7, .ref e8])), (e5, .inl (c5, 401, .inl o.wv)), (e6, .inl (c6, 401, .inl o.tl))]) [0, 1, 2] rfl) (hD.sub (ws' := [(e0, .inr (7, [.ref e1, .ref e2, .ref e3, .ref e4, .ref e5, .int (nI o.vc), .int (nI o.cl), .int (nI o.gv), .int (nI o.na), .int o.sd, .int o.cd, .ref e6, .int (nI o.ln), .ref e7, .ref e8])), (e5, .inl (c5, 401, .inl o.wv)), (e6, .inl (c6, 401, .inl o.tl))]) [0, 1, 2] (by decide) rfl) hS (lv_sub hl [0, 1] rfl)
  have hP := hP1
  have hD := hD1
  generalize H1 = H at hP hS ⊢
  have hP : va_P (dC, dI) vwCl [(e0, .inr (7, [.ref e1, .ref e2, .ref e3, .ref e4, .ref e5, .int (nI o.vc), .int (nI o.cl), .int (nI o.gv), .int (nI o.na), .int o.sd, .int o.cd, .ref e6, .int (nI j), .ref e7, .ref e8])), (e5, .inl (c5, 401, .inl g_1)), (e6, .inl (c6, 401, .inl o.tl))] H := hP
  have hD : va_D A [(e0, .inr (7, [.ref e1, .ref e2, .ref e3, .ref e4, .ref e5, .int (nI o.vc), .int (nI o.cl), .int (nI o.gv), .int (nI o.na), .int o.sd, .int o.cd, .ref e6, .int (nI j), .ref e7, .ref e8])), (e5, .inl (c5, 401, .inl g_1)), (e6, .inl (c6, 401, .inl o.tl))] := hD
  have hK := hK.sub (tys' := [(c5, .int), (c6, .int)]) [0, 1] rfl
  refine W.widen (k := 0) (n := 0) (by decide) (by decide) ?_
  exact W.vret hx hb hr (fun t ht hW => ⟨⟨(), rfl, trivial, g_1, f_2, by rw [ht]; exact hP, va_K.moved hW.alike hK, hD⟩, hS.F ht⟩) hS.2.2 d_Md_back_36
