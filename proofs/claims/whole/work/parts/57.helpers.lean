theorem d_Lw_variables_7 : decode method_3_code 7 = .ok (.i2l, 1) := by decide +kernel
theorem d_Lw_variables_8 : decode method_3_code 8 = .ok (.lastore, 1) := by decide +kernel
theorem d_Lw_variables_9 : decode method_3_code 9 = .ok (.goto 9, 3) := by decide +kernel
theorem d_Lw_variables_18 : decode method_3_code 18 = .ok (.iconst 0, 1) := by decide +kernel
theorem d_Lw_variables_19 : decode method_3_code 19 = .ok (.ireturn, 1) := by decide +kernel
theorem d_Lw_give_7 : decode method_4_code 7 = .ok (.i2l, 1) := by decide +kernel
theorem d_Lw_give_8 : decode method_4_code 8 = .ok (.lastore, 1) := by decide +kernel
theorem d_Lw_give_9 : decode method_4_code 9 = .ok (.goto 9, 3) := by decide +kernel
theorem d_Lw_give_18 : decode method_4_code 18 = .ok (.iconst 0, 1) := by decide +kernel
theorem d_Lw_give_19 : decode method_4_code 19 = .ok (.ireturn, 1) := by decide +kernel
theorem d_Lw_clause_6 : decode method_5_code 6 = .ok (.i2l, 1) := by decide +kernel
theorem d_Lw_clause_7 : decode method_5_code 7 = .ok (.lastore, 1) := by decide +kernel
theorem d_Lw_clause_8 : decode method_5_code 8 = .ok (.goto 9, 3) := by decide +kernel
theorem d_Lw_clause_17 : decode method_5_code 17 = .ok (.iconst 0, 1) := by decide +kernel
theorem d_Lw_clause_18 : decode method_5_code 18 = .ok (.ireturn, 1) := by decide +kernel
set_option maxHeartbeats 4000000 in
set_option maxRecDepth 100000 in
/-- the helper of variables, answered -/
theorem c_Lw_variables (l : Launch) (dC : Nat → ClassId) (dI : Nat → Nat → Nat) (b0 : Nat) (r0 : Nat) (h1 : Nat) (o0 : Nat) (m1 : Nat) (o9 : Nat) (cl : ClassId) (sz : Nat) (q : Mx) (fo : Nat → Int64) (n0 : Nat) (hn1 : 1 ≤ n0) (hn2 : n0 ≤ 400) (h3 : q.vc + n0 ≤ 400) : Met l y_Lw_variables (wh y_Lw_variables method_3_code 4 (some .int) [(0, 9, 12, 13), (0, 9, 15, 15)]) ({ frames := 1, cells := 0, slots := 0, locals := 21 }) (va_Pc [.ref b0, .int (nI n0), .ref o9] (fun U => U.heap.size = sz ∧ va_P (dC, dI) vwCl [(b0, .inr (6, [.ref r0, .ref h1, .ref o0, .ref m1, .int (nI q.rs), .int (nI q.vc), .int q.ws, .int q.bw])), (o9, .inl (cl, 1, .inr (.inl fo)))] U.heap ∧ va_K (dC, dI) vwCl [(cl, .long)] U ∧ va_D (fun _ => True) [(b0, .inr (6, [.ref r0, .ref h1, .ref o0, .ref m1, .int (nI q.rs), .int (nI q.vc), .int q.ws, .int q.bw])), (o9, .inl (cl, 1, .inr (.inl fo)))])) (va_Qi (fun (r : Int32) (r9 : Int32) => r = r9) (fun (r9 : Int32) t => r9 = 0 ∧ va_P (dC, dI) vwCl [(b0, .inr (6, [.ref r0, .ref h1, .ref o0, .ref m1, .int (nI q.rs), .int (nI (q.vc + n0)), .int 0, .int q.bw])), (o9, .inl (cl, 1, .inr (.inl (vp_updL fo (0 : Int32).toNatClampNeg (nI (q.vc + n0) : Int32).toInt64))))] t.heap ∧ va_K (dC, dI) vwCl [(cl, .long)] t ∧ va_D (va_A [(b0, .inr (6, [.ref r0, .ref h1, .ref o0, .ref m1, .int (nI q.rs), .int (nI q.vc), .int q.ws, .int q.bw])), (o9, .inl (cl, 1, .inr (.inl fo)))] sz) [(b0, .inr (6, [.ref r0, .ref h1, .ref o0, .ref m1, .int (nI q.rs), .int (nI (q.vc + n0)), .int 0, .int q.bw])), (o9, .inl (cl, 1, .inr (.inl (vp_updL fo (0 : Int32).toNatClampNeg (nI (q.vc + n0) : Int32).toInt64))))]) (va_A [(b0, .inr (6, [.ref r0, .ref h1, .ref o0, .ref m1, .int (nI q.rs), .int (nI q.vc), .int q.ws, .int q.bw])), (o9, .inl (cl, 1, .inr (.inl fo)))] sz)) (0) (0) (va_A [(b0, .inr (6, [.ref r0, .ref h1, .ref o0, .ref m1, .int (nI q.rs), .int (nI q.vc), .int q.ws, .int q.bw])), (o9, .inl (cl, 1, .inr (.inl fo)))] sz) := by
  refine va_MetW (hh := [(0, 9, 12, 13), (0, 9, 15, 15)]) (cc := method_3_code) (maxL := 4) (ret := (some .int)) (by decide) rfl ?_
  intro p e s m args below meth c s₁ B hml hv
  obtain ⟨rfl, hsz, hP, hK, hD0⟩ := hv
  have hx := B.exec
  have hb := B.bytes
  have hr := B.returns
  have hw : ∀ w ∈ bg_W, w.before #[Value.ref b0, Value.int (nI n0), Value.ref o9] s = true := fun w h => atoms_spec (ws := (wh y_Lw_variables method_3_code 4 (some .int) [(0, 9, 12, 13), (0, 9, 15, 15)])) B.pre w (List.mem_cons_of_mem _ h)
  have hown : s.vm.findClass R_Lw = some m.cls := findClass_of_methodNamed B.named
  have hlocks := B.notSynchronized
  subst hsz
  have hD := hD0.self (sz := s.heap.size)
  generalize hAe : va_A [(b0, .inr (6, [.ref r0, .ref h1, .ref o0, .ref m1, .int (nI q.rs), .int (nI q.vc), .int q.ws, .int q.bw])), (o9, .inl (cl, 1, .inr (.inl fo)))] s.heap.size = A at hD ⊢
  have hA : ∀ q : Nat, s.heap.size ≤ q → A q := fun q h => by rw [← hAe]; exact Or.inr h
  have hS : va_S A s.heap s.heap [] := va_S.rf
  have hP : va_P (dC, dI) vwCl [(b0, .inr (6, [.ref r0, .ref h1, .ref o0, .ref m1, .int (nI q.rs), .int (nI q.vc), .int q.ws, .int q.bw])), (o9, .inl (cl, 1, .inr (.inl fo)))] s.heap := hP
  have hl := lv_entry ([.ref b0, .int (nI n0), .ref o9]) (n := 4) (Nat.le_of_ble_eq_true rfl)
  rw [lg_entry_eq]
  generalize (lg_sl ([.ref b0, .int (nI n0), .ref o9]) ++ List.replicate (4 - (lg_sl ([.ref b0, .int (nI n0), .ref o9])).length) Slot.unset).toArray = ls at hl ⊢
  have hl : lv_has ls 4 [(0, .ref b0), (1, .int (nI n0)), (2, .ref o9)] := hl
  obtain ⟨H, hH⟩ : ∃ H : Heap, H = s.heap := ⟨_, rfl⟩
  rw [← hH] at hP
  have hS : va_S A s.heap H [] := by rw [hH]; exact va_S.rf
  show W p l e _ s m _ below meth c s.heap [] 0 0 _ _
  rw [← hH]
  refine lv_aload_n hx hb d_Lw_variables_0 rfl (lv_at hl 2 rfl) ?_
  refine lv_iconst (v := 0) hx hb d_Lw_variables_1 (by decide) ?_
  refine lv_aload_n hx hb d_Lw_variables_2 rfl (lv_at hl 0 rfl) ?_
  refine lv_iload_n hx hb d_Lw_variables_3 rfl (lv_at hl 1 rfl) ?_
  have hPc := hP.sub (ws' := [(b0, .inr (6, [.ref r0, .ref h1, .ref o0, .ref m1, .int (nI q.rs), .int (nI q.vc), .int q.ws, .int q.bw]))]) [0] rfl
  have hDc := hD.sub (ws' := [(b0, .inr (6, [.ref r0, .ref h1, .ref o0, .ref m1, .int (nI q.rs), .int (nI q.vc), .int q.ws, .int q.bw]))]) [0] (by decide) rfl
  have hKc := hK.sub (tys' := []) [] rfl
  have hFc := va_free (wc := [(b0, .inr (6, [.ref r0, .ref h1, .ref o0, .ref m1, .int (nI q.rs), .int (nI q.vc), .int q.ws, .int q.bw]))]) hD hS hA [0] rfl
  refine va_calli (va_runV (As := [.int (nI n0)]) (rest := [.int 0, .ref o9]) ⟨hx, hb, hml, hown, hw⟩ (c_Cs_variables l dC dI b0 r0 h1 o0 m1 H.size q n0 hn1 hn2 h3) (cb_V (C := R_Cs) 1 hw k_453 k_29 k_450 k_451 k_452 rfl rfl (by decide +kernel) ⟨Nat.le_of_ble_eq_true rfl, Nat.le_of_ble_eq_true rfl⟩) ⟨fun a U g mk q => by obtain ⟨q0, q1, qP, qK, qD⟩ := q; exact ⟨q0, q1, qP, va_K.moved (u := U) (U := U.calling g mk a) (Vm.Alike.refl U.vm) qK, qD⟩, va_recv hKc hPc (ci := 6) (q0 := 0) rfl rfl, fun U hU hW => ⟨rfl, by rw [hU], by rw [hU]; exact hPc, va_K.moved hW.alike hKc, hDc.weaken (fun _ _ _ _ => trivial)⟩⟩ rfl rfl hl.1 rfl (lv_room (Nat.le_of_ble_eq_true rfl)) d_Lw_variables_4 ⟨Nat.le_of_ble_eq_true rfl, Nat.le_of_ble_eq_true rfl⟩) hS (fun q _ h => hFc q h) hFc (fun r_1 u t H1 locs ht hvm hw9 hB hz1 hk1 hS => ?_)
  obtain ⟨er9, hP1, hK1, hD1⟩ := hB
  rw [ht] at hP1
  have hK1 := va_K.moved hvm.symm hK1
  obtain ⟨hP, hD⟩ := va_join (wr := [(o9, .inl (cl, 1, .inr (.inl fo)))]) (w1 := [(b0, .inr (6, [.ref r0, .ref h1, .ref o0, .ref m1, .int (nI q.rs), .int (nI (q.vc + n0)), .int 0, .int q.bw]))]) hP hD [0] [1] rfl rfl (by decide) (by decide) hk1 hFc hP1 hD1
  generalize H1 = H at hP hS ⊢
  have hP : va_P (dC, dI) vwCl [(o9, .inl (cl, 1, .inr (.inl fo))), (b0, .inr (6, [.ref r0, .ref h1, .ref o0, .ref m1, .int (nI q.rs), .int (nI (q.vc + n0)), .int 0, .int q.bw]))] H := hP
  have hD : va_D A [(o9, .inl (cl, 1, .inr (.inl fo))), (b0, .inr (6, [.ref r0, .ref h1, .ref o0, .ref m1, .int (nI q.rs), .int (nI (q.vc + n0)), .int 0, .int q.bw]))] := hD
  refine W.widen (k := 0) (n := 0) (by decide) (by decide) ?_
  have hw9 : r_1 = nI (q.vc + n0) := hw9.trans er9
  subst hw9
  refine lv_i2l (v := (nI (q.vc + n0) : Int32).toInt64) hx hb d_Lw_variables_7 rfl ?_
  refine va_last hx hb hK hP hD hS 0 0 rfl rfl (by unfold vp_in; decide) d_Lw_variables_8 (fun H locs hP hD hS => ?_)
  have hP : va_P (dC, dI) vwCl [(o9, .inl (cl, 1, .inr (.inl (vp_updL fo ((0 : Int32).toNatClampNeg) (nI (q.vc + n0) : Int32).toInt64)))), (b0, .inr (6, [.ref r0, .ref h1, .ref o0, .ref m1, .int (nI q.rs), .int (nI (q.vc + n0)), .int 0, .int q.bw]))] H := hP
  have hD : va_D A [(o9, .inl (cl, 1, .inr (.inl (vp_updL fo ((0 : Int32).toNatClampNeg) (nI (q.vc + n0) : Int32).toInt64)))), (b0, .inr (6, [.ref r0, .ref h1, .ref o0, .ref m1, .int (nI q.rs), .int (nI (q.vc + n0)), .int 0, .int q.bw]))] := hD
  refine lv_goto (tgt := 18) hx hb d_Lw_variables_9 (by decide) ?_
  refine lv_iconst (v := 0) hx hb d_Lw_variables_18 (by decide) ?_
  have hP := hP.sub (ws' := [(b0, .inr (6, [.ref r0, .ref h1, .ref o0, .ref m1, .int (nI q.rs), .int (nI (q.vc + n0)), .int 0, .int q.bw])), (o9, .inl (cl, 1, .inr (.inl (vp_updL fo (0 : Int32).toNatClampNeg (nI (q.vc + n0) : Int32).toInt64))))]) [1, 0] rfl
  have hD := hD.sub (ws' := [(b0, .inr (6, [.ref r0, .ref h1, .ref o0, .ref m1, .int (nI q.rs), .int (nI (q.vc + n0)), .int 0, .int q.bw])), (o9, .inl (cl, 1, .inr (.inl (vp_updL fo (0 : Int32).toNatClampNeg (nI (q.vc + n0) : Int32).toInt64))))]) [1, 0] (by decide) rfl
  have hK := hK.sub (tys' := [(cl, .long)]) [0] rfl
  refine W.widen (k := 0) (n := 0) (by decide) (by decide) ?_
  exact W.iret (v := 0) hx hb hr (fun t ht hW => ⟨⟨0, 0, rfl, rfl, rfl, by rw [ht]; exact hP, va_K.moved hW.alike hK, hD⟩, hS.F ht⟩) hS.2.2 d_Lw_variables_19

set_option maxHeartbeats 4000000 in
set_option maxRecDepth 100000 in
/-- the helper of give, answered -/
theorem c_Lw_give_p (l : Launch) (dC : Nat → ClassId) (dI : Nat → Nat → Nat) (b0 : Nat) (r0 : Nat) (h1 : Nat) (o0 : Nat) (m1 : Nat) (o9 : Nat) (cl : ClassId) (x8 : ClassId) (sz : Nat) (q : Mx) (fo : Nat → Int64) (v0 : Nat) (gi1 : ¬ nI v0 = 0) (gi2 : ¬ nI q.vc < nI v0) (gi3 : -nI q.vc ≤ nI v0) (gi4 : q.rs < 20) (hv : 1 ≤ v0 ∧ v0 ≤ 400) : Met l y_Lw_give (wh y_Lw_give method_4_code 4 (some .int) [(0, 9, 12, 13), (0, 9, 15, 15)]) ({ frames := 1, cells := 0, slots := 0, locals := 21 }) (va_Pc [.ref b0, .int (nI v0), .ref o9] (fun U => U.heap.size = sz ∧ va_P (dC, dI) vwCl [(b0, .inr (6, [.ref r0, .ref h1, .ref o0, .ref m1, .int (nI q.rs), .int (nI q.vc), .int q.ws, .int q.bw])), (r0, .inl (x8, 20, .inl q.rw)), (o9, .inl (cl, 1, .inr (.inl fo)))] U.heap ∧ va_K (dC, dI) vwCl [(x8, .int), (cl, .long)] U ∧ va_D (fun _ => True) [(b0, .inr (6, [.ref r0, .ref h1, .ref o0, .ref m1, .int (nI q.rs), .int (nI q.vc), .int q.ws, .int q.bw])), (r0, .inl (x8, 20, .inl q.rw)), (o9, .inl (cl, 1, .inr (.inl fo)))])) (va_Qi (fun (r : Int32) (r9 : Int32) => r = r9) (fun (r9 : Int32) t => r9 = 0 ∧ va_P (dC, dI) vwCl [(b0, .inr (6, [.ref r0, .ref h1, .ref o0, .ref m1, .int (nI (q.rs + 1)), .int (nI q.vc), .int q.ws, .int q.bw])), (r0, .inl (x8, 20, .inl (upd q.rw q.rs (nI (2 * v0))))), (o9, .inl (cl, 1, .inr (.inl (vp_updL fo (0 : Int32).toNatClampNeg (nI (q.rs + 1) : Int32).toInt64))))] t.heap ∧ va_K (dC, dI) vwCl [(x8, .int), (cl, .long)] t ∧ va_D (va_A [(b0, .inr (6, [.ref r0, .ref h1, .ref o0, .ref m1, .int (nI q.rs), .int (nI q.vc), .int q.ws, .int q.bw])), (r0, .inl (x8, 20, .inl q.rw)), (o9, .inl (cl, 1, .inr (.inl fo)))] sz) [(b0, .inr (6, [.ref r0, .ref h1, .ref o0, .ref m1, .int (nI (q.rs + 1)), .int (nI q.vc), .int q.ws, .int q.bw])), (r0, .inl (x8, 20, .inl (upd q.rw q.rs (nI (2 * v0))))), (o9, .inl (cl, 1, .inr (.inl (vp_updL fo (0 : Int32).toNatClampNeg (nI (q.rs + 1) : Int32).toInt64))))]) (va_A [(b0, .inr (6, [.ref r0, .ref h1, .ref o0, .ref m1, .int (nI q.rs), .int (nI q.vc), .int q.ws, .int q.bw])), (r0, .inl (x8, 20, .inl q.rw)), (o9, .inl (cl, 1, .inr (.inl fo)))] sz)) (0) (0) (va_A [(b0, .inr (6, [.ref r0, .ref h1, .ref o0, .ref m1, .int (nI q.rs), .int (nI q.vc), .int q.ws, .int q.bw])), (r0, .inl (x8, 20, .inl q.rw)), (o9, .inl (cl, 1, .inr (.inl fo)))] sz) := by
  refine va_MetW (hh := [(0, 9, 12, 13), (0, 9, 15, 15)]) (cc := method_4_code) (maxL := 4) (ret := (some .int)) (by decide) rfl ?_
  intro p e s m args below meth c s₁ B hml hv
  obtain ⟨rfl, hsz, hP, hK, hD0⟩ := hv
  have hx := B.exec
  have hb := B.bytes
  have hr := B.returns
  have hw : ∀ w ∈ bg_W, w.before #[Value.ref b0, Value.int (nI v0), Value.ref o9] s = true := fun w h => atoms_spec (ws := (wh y_Lw_give method_4_code 4 (some .int) [(0, 9, 12, 13), (0, 9, 15, 15)])) B.pre w (List.mem_cons_of_mem _ h)
  have hown : s.vm.findClass R_Lw = some m.cls := findClass_of_methodNamed B.named
  have hlocks := B.notSynchronized
  subst hsz
  have hD := hD0.self (sz := s.heap.size)
  generalize hAe : va_A [(b0, .inr (6, [.ref r0, .ref h1, .ref o0, .ref m1, .int (nI q.rs), .int (nI q.vc), .int q.ws, .int q.bw])), (r0, .inl (x8, 20, .inl q.rw)), (o9, .inl (cl, 1, .inr (.inl fo)))] s.heap.size = A at hD ⊢
  have hA : ∀ q : Nat, s.heap.size ≤ q → A q := fun q h => by rw [← hAe]; exact Or.inr h
  have hS : va_S A s.heap s.heap [] := va_S.rf
  have hP : va_P (dC, dI) vwCl [(b0, .inr (6, [.ref r0, .ref h1, .ref o0, .ref m1, .int (nI q.rs), .int (nI q.vc), .int q.ws, .int q.bw])), (r0, .inl (x8, 20, .inl q.rw)), (o9, .inl (cl, 1, .inr (.inl fo)))] s.heap := hP
  have hl := lv_entry ([.ref b0, .int (nI v0), .ref o9]) (n := 4) (Nat.le_of_ble_eq_true rfl)
  rw [lg_entry_eq]
  generalize (lg_sl ([.ref b0, .int (nI v0), .ref o9]) ++ List.replicate (4 - (lg_sl ([.ref b0, .int (nI v0), .ref o9])).length) Slot.unset).toArray = ls at hl ⊢
  have hl : lv_has ls 4 [(0, .ref b0), (1, .int (nI v0)), (2, .ref o9)] := hl
  obtain ⟨H, hH⟩ : ∃ H : Heap, H = s.heap := ⟨_, rfl⟩
  rw [← hH] at hP
  have hS : va_S A s.heap H [] := by rw [hH]; exact va_S.rf
  show W p l e _ s m _ below meth c s.heap [] 0 0 _ _
  rw [← hH]
  refine lv_aload_n hx hb d_Lw_give_0 rfl (lv_at hl 2 rfl) ?_
  refine lv_iconst (v := 0) hx hb d_Lw_give_1 (by decide) ?_
  refine lv_aload_n hx hb d_Lw_give_2 rfl (lv_at hl 0 rfl) ?_
  refine lv_iload_n hx hb d_Lw_give_3 rfl (lv_at hl 1 rfl) ?_
  have hPc := hP.sub (ws' := [(b0, .inr (6, [.ref r0, .ref h1, .ref o0, .ref m1, .int (nI q.rs), .int (nI q.vc), .int q.ws, .int q.bw])), (r0, .inl (x8, 20, .inl q.rw))]) [0, 1] rfl
  have hDc := hD.sub (ws' := [(b0, .inr (6, [.ref r0, .ref h1, .ref o0, .ref m1, .int (nI q.rs), .int (nI q.vc), .int q.ws, .int q.bw])), (r0, .inl (x8, 20, .inl q.rw))]) [0, 1] (by decide) rfl
  have hKc := hK.sub (tys' := [(x8, .int)]) [0] rfl
  have hFc := va_free (wc := [(b0, .inr (6, [.ref r0, .ref h1, .ref o0, .ref m1, .int (nI q.rs), .int (nI q.vc), .int q.ws, .int q.bw])), (r0, .inl (x8, 20, .inl q.rw))]) hD hS hA [0, 1] rfl
  refine va_calli (va_runV (As := [.int (nI v0)]) (rest := [.int 0, .ref o9]) ⟨hx, hb, hml, hown, hw⟩ (c_Cs_give_p l dC dI b0 r0 h1 o0 m1 x8 H.size q v0 gi1 gi2 gi3 gi4 hv) (cb_V (C := R_Cs) 1 hw k_543 k_29 k_540 k_541 k_542 rfl rfl (by decide +kernel) ⟨Nat.le_of_ble_eq_true rfl, Nat.le_of_ble_eq_true rfl⟩) ⟨fun a U g mk q => by obtain ⟨q0, q1, qP, qK, qD⟩ := q; exact ⟨q0, q1, qP, va_K.moved (u := U) (U := U.calling g mk a) (Vm.Alike.refl U.vm) qK, qD⟩, va_recv hKc hPc (ci := 6) (q0 := 0) rfl rfl, fun U hU hW => ⟨rfl, by rw [hU], by rw [hU]; exact hPc, va_K.moved hW.alike hKc, hDc.weaken (fun _ _ _ _ => trivial)⟩⟩ rfl rfl hl.1 rfl (lv_room (Nat.le_of_ble_eq_true rfl)) d_Lw_give_4 ⟨Nat.le_of_ble_eq_true rfl, Nat.le_of_ble_eq_true rfl⟩) hS (fun q _ h => hFc q h) hFc (fun r_1 u t H1 locs ht hvm hw9 hB hz1 hk1 hS => ?_)
  obtain ⟨er9, hP1, hK1, hD1⟩ := hB
  rw [ht] at hP1
  have hK1 := va_K.moved hvm.symm hK1
  obtain ⟨hP, hD⟩ := va_join (wr := [(o9, .inl (cl, 1, .inr (.inl fo)))]) (w1 := [(b0, .inr (6, [.ref r0, .ref h1, .ref o0, .ref m1, .int (nI (q.rs + 1)), .int (nI q.vc), .int q.ws, .int q.bw])), (r0, .inl (x8, 20, .inl (upd q.rw q.rs (nI (2 * v0)))))]) hP hD [0, 1] [2] rfl rfl (by decide) (by decide) hk1 hFc hP1 hD1
  generalize H1 = H at hP hS ⊢
  have hP : va_P (dC, dI) vwCl [(o9, .inl (cl, 1, .inr (.inl fo))), (b0, .inr (6, [.ref r0, .ref h1, .ref o0, .ref m1, .int (nI (q.rs + 1)), .int (nI q.vc), .int q.ws, .int q.bw])), (r0, .inl (x8, 20, .inl (upd q.rw q.rs (nI (2 * v0)))))] H := hP
  have hD : va_D A [(o9, .inl (cl, 1, .inr (.inl fo))), (b0, .inr (6, [.ref r0, .ref h1, .ref o0, .ref m1, .int (nI (q.rs + 1)), .int (nI q.vc), .int q.ws, .int q.bw])), (r0, .inl (x8, 20, .inl (upd q.rw q.rs (nI (2 * v0)))))] := hD
  refine W.widen (k := 0) (n := 0) (by decide) (by decide) ?_
  have hw9 : r_1 = nI (q.rs + 1) := hw9.trans er9
  subst hw9
  refine lv_i2l (v := (nI (q.rs + 1) : Int32).toInt64) hx hb d_Lw_give_7 rfl ?_
  refine va_last hx hb hK hP hD hS 0 1 rfl rfl (by unfold vp_in; decide) d_Lw_give_8 (fun H locs hP hD hS => ?_)
  have hP : va_P (dC, dI) vwCl [(o9, .inl (cl, 1, .inr (.inl (vp_updL fo ((0 : Int32).toNatClampNeg) (nI (q.rs + 1) : Int32).toInt64)))), (b0, .inr (6, [.ref r0, .ref h1, .ref o0, .ref m1, .int (nI (q.rs + 1)), .int (nI q.vc), .int q.ws, .int q.bw])), (r0, .inl (x8, 20, .inl (upd q.rw q.rs (nI (2 * v0)))))] H := hP
  have hD : va_D A [(o9, .inl (cl, 1, .inr (.inl (vp_updL fo ((0 : Int32).toNatClampNeg) (nI (q.rs + 1) : Int32).toInt64)))), (b0, .inr (6, [.ref r0, .ref h1, .ref o0, .ref m1, .int (nI (q.rs + 1)), .int (nI q.vc), .int q.ws, .int q.bw])), (r0, .inl (x8, 20, .inl (upd q.rw q.rs (nI (2 * v0)))))] := hD
  refine lv_goto (tgt := 18) hx hb d_Lw_give_9 (by decide) ?_
  refine lv_iconst (v := 0) hx hb d_Lw_give_18 (by decide) ?_
  have hP := hP.sub (ws' := [(b0, .inr (6, [.ref r0, .ref h1, .ref o0, .ref m1, .int (nI (q.rs + 1)), .int (nI q.vc), .int q.ws, .int q.bw])), (r0, .inl (x8, 20, .inl (upd q.rw q.rs (nI (2 * v0))))), (o9, .inl (cl, 1, .inr (.inl (vp_updL fo (0 : Int32).toNatClampNeg (nI (q.rs + 1) : Int32).toInt64))))]) [1, 2, 0] rfl
  have hD := hD.sub (ws' := [(b0, .inr (6, [.ref r0, .ref h1, .ref o0, .ref m1, .int (nI (q.rs + 1)), .int (nI q.vc), .int q.ws, .int q.bw])), (r0, .inl (x8, 20, .inl (upd q.rw q.rs (nI (2 * v0))))), (o9, .inl (cl, 1, .inr (.inl (vp_updL fo (0 : Int32).toNatClampNeg (nI (q.rs + 1) : Int32).toInt64))))]) [1, 2, 0] (by decide) rfl
  have hK := hK.sub (tys' := [(x8, .int), (cl, .long)]) [0, 1] rfl
  refine W.widen (k := 0) (n := 0) (by decide) (by decide) ?_
  exact W.iret (v := 0) hx hb hr (fun t ht hW => ⟨⟨0, 0, rfl, rfl, rfl, by rw [ht]; exact hP, va_K.moved hW.alike hK, hD⟩, hS.F ht⟩) hS.2.2 d_Lw_give_19

set_option maxHeartbeats 4000000 in
set_option maxRecDepth 100000 in
/-- the helper of give, answered -/
theorem c_Lw_give_n (l : Launch) (dC : Nat → ClassId) (dI : Nat → Nat → Nat) (b0 : Nat) (r0 : Nat) (h1 : Nat) (o0 : Nat) (m1 : Nat) (o9 : Nat) (cl : ClassId) (x8 : ClassId) (sz : Nat) (q : Mx) (fo : Nat → Int64) (v0 : Nat) (gi1 : ¬ ng v0 = 0) (gi2 : ¬ nI q.vc < ng v0) (gi3 : -nI q.vc ≤ ng v0) (gi4 : q.rs < 20) (hv : 1 ≤ v0 ∧ v0 ≤ 400) : Met l y_Lw_give (wh y_Lw_give method_4_code 4 (some .int) [(0, 9, 12, 13), (0, 9, 15, 15)]) ({ frames := 1, cells := 0, slots := 0, locals := 21 }) (va_Pc [.ref b0, .int (ng v0), .ref o9] (fun U => U.heap.size = sz ∧ va_P (dC, dI) vwCl [(b0, .inr (6, [.ref r0, .ref h1, .ref o0, .ref m1, .int (nI q.rs), .int (nI q.vc), .int q.ws, .int q.bw])), (r0, .inl (x8, 20, .inl q.rw)), (o9, .inl (cl, 1, .inr (.inl fo)))] U.heap ∧ va_K (dC, dI) vwCl [(x8, .int), (cl, .long)] U ∧ va_D (fun _ => True) [(b0, .inr (6, [.ref r0, .ref h1, .ref o0, .ref m1, .int (nI q.rs), .int (nI q.vc), .int q.ws, .int q.bw])), (r0, .inl (x8, 20, .inl q.rw)), (o9, .inl (cl, 1, .inr (.inl fo)))])) (va_Qi (fun (r : Int32) (r9 : Int32) => r = r9) (fun (r9 : Int32) t => r9 = 0 ∧ va_P (dC, dI) vwCl [(b0, .inr (6, [.ref r0, .ref h1, .ref o0, .ref m1, .int (nI (q.rs + 1)), .int (nI q.vc), .int q.ws, .int q.bw])), (r0, .inl (x8, 20, .inl (upd q.rw q.rs (nI (2 * v0 + 1))))), (o9, .inl (cl, 1, .inr (.inl (vp_updL fo (0 : Int32).toNatClampNeg (nI (q.rs + 1) : Int32).toInt64))))] t.heap ∧ va_K (dC, dI) vwCl [(x8, .int), (cl, .long)] t ∧ va_D (va_A [(b0, .inr (6, [.ref r0, .ref h1, .ref o0, .ref m1, .int (nI q.rs), .int (nI q.vc), .int q.ws, .int q.bw])), (r0, .inl (x8, 20, .inl q.rw)), (o9, .inl (cl, 1, .inr (.inl fo)))] sz) [(b0, .inr (6, [.ref r0, .ref h1, .ref o0, .ref m1, .int (nI (q.rs + 1)), .int (nI q.vc), .int q.ws, .int q.bw])), (r0, .inl (x8, 20, .inl (upd q.rw q.rs (nI (2 * v0 + 1))))), (o9, .inl (cl, 1, .inr (.inl (vp_updL fo (0 : Int32).toNatClampNeg (nI (q.rs + 1) : Int32).toInt64))))]) (va_A [(b0, .inr (6, [.ref r0, .ref h1, .ref o0, .ref m1, .int (nI q.rs), .int (nI q.vc), .int q.ws, .int q.bw])), (r0, .inl (x8, 20, .inl q.rw)), (o9, .inl (cl, 1, .inr (.inl fo)))] sz)) (0) (0) (va_A [(b0, .inr (6, [.ref r0, .ref h1, .ref o0, .ref m1, .int (nI q.rs), .int (nI q.vc), .int q.ws, .int q.bw])), (r0, .inl (x8, 20, .inl q.rw)), (o9, .inl (cl, 1, .inr (.inl fo)))] sz) := by
  refine va_MetW (hh := [(0, 9, 12, 13), (0, 9, 15, 15)]) (cc := method_4_code) (maxL := 4) (ret := (some .int)) (by decide) rfl ?_
  intro p e s m args below meth c s₁ B hml hv
  obtain ⟨rfl, hsz, hP, hK, hD0⟩ := hv
  have hx := B.exec
  have hb := B.bytes
  have hr := B.returns
  have hw : ∀ w ∈ bg_W, w.before #[Value.ref b0, Value.int (ng v0), Value.ref o9] s = true := fun w h => atoms_spec (ws := (wh y_Lw_give method_4_code 4 (some .int) [(0, 9, 12, 13), (0, 9, 15, 15)])) B.pre w (List.mem_cons_of_mem _ h)
  have hown : s.vm.findClass R_Lw = some m.cls := findClass_of_methodNamed B.named
  have hlocks := B.notSynchronized
  subst hsz
  have hD := hD0.self (sz := s.heap.size)
  generalize hAe : va_A [(b0, .inr (6, [.ref r0, .ref h1, .ref o0, .ref m1, .int (nI q.rs), .int (nI q.vc), .int q.ws, .int q.bw])), (r0, .inl (x8, 20, .inl q.rw)), (o9, .inl (cl, 1, .inr (.inl fo)))] s.heap.size = A at hD ⊢
  have hA : ∀ q : Nat, s.heap.size ≤ q → A q := fun q h => by rw [← hAe]; exact Or.inr h
  have hS : va_S A s.heap s.heap [] := va_S.rf
  have hP : va_P (dC, dI) vwCl [(b0, .inr (6, [.ref r0, .ref h1, .ref o0, .ref m1, .int (nI q.rs), .int (nI q.vc), .int q.ws, .int q.bw])), (r0, .inl (x8, 20, .inl q.rw)), (o9, .inl (cl, 1, .inr (.inl fo)))] s.heap := hP
  have hl := lv_entry ([.ref b0, .int (ng v0), .ref o9]) (n := 4) (Nat.le_of_ble_eq_true rfl)
  rw [lg_entry_eq]
  generalize (lg_sl ([.ref b0, .int (ng v0), .ref o9]) ++ List.replicate (4 - (lg_sl ([.ref b0, .int (ng v0), .ref o9])).length) Slot.unset).toArray = ls at hl ⊢
  have hl : lv_has ls 4 [(0, .ref b0), (1, .int (ng v0)), (2, .ref o9)] := hl
  obtain ⟨H, hH⟩ : ∃ H : Heap, H = s.heap := ⟨_, rfl⟩
  rw [← hH] at hP
  have hS : va_S A s.heap H [] := by rw [hH]; exact va_S.rf
  show W p l e _ s m _ below meth c s.heap [] 0 0 _ _
  rw [← hH]
  refine lv_aload_n hx hb d_Lw_give_0 rfl (lv_at hl 2 rfl) ?_
  refine lv_iconst (v := 0) hx hb d_Lw_give_1 (by decide) ?_
  refine lv_aload_n hx hb d_Lw_give_2 rfl (lv_at hl 0 rfl) ?_
  refine lv_iload_n hx hb d_Lw_give_3 rfl (lv_at hl 1 rfl) ?_
  have hPc := hP.sub (ws' := [(b0, .inr (6, [.ref r0, .ref h1, .ref o0, .ref m1, .int (nI q.rs), .int (nI q.vc), .int q.ws, .int q.bw])), (r0, .inl (x8, 20, .inl q.rw))]) [0, 1] rfl
  have hDc := hD.sub (ws' := [(b0, .inr (6, [.ref r0, .ref h1, .ref o0, .ref m1, .int (nI q.rs), .int (nI q.vc), .int q.ws, .int q.bw])), (r0, .inl (x8, 20, .inl q.rw))]) [0, 1] (by decide) rfl
  have hKc := hK.sub (tys' := [(x8, .int)]) [0] rfl
  have hFc := va_free (wc := [(b0, .inr (6, [.ref r0, .ref h1, .ref o0, .ref m1, .int (nI q.rs), .int (nI q.vc), .int q.ws, .int q.bw])), (r0, .inl (x8, 20, .inl q.rw))]) hD hS hA [0, 1] rfl
  refine va_calli (va_runV (As := [.int (ng v0)]) (rest := [.int 0, .ref o9]) ⟨hx, hb, hml, hown, hw⟩ (c_Cs_give_n l dC dI b0 r0 h1 o0 m1 x8 H.size q v0 gi1 gi2 gi3 gi4 hv) (cb_V (C := R_Cs) 1 hw k_543 k_29 k_540 k_541 k_542 rfl rfl (by decide +kernel) ⟨Nat.le_of_ble_eq_true rfl, Nat.le_of_ble_eq_true rfl⟩) ⟨fun a U g mk q => by obtain ⟨q0, q1, qP, qK, qD⟩ := q; exact ⟨q0, q1, qP, va_K.moved (u := U) (U := U.calling g mk a) (Vm.Alike.refl U.vm) qK, qD⟩, va_recv hKc hPc (ci := 6) (q0 := 0) rfl rfl, fun U hU hW => ⟨rfl, by rw [hU], by rw [hU]; exact hPc, va_K.moved hW.alike hKc, hDc.weaken (fun _ _ _ _ => trivial)⟩⟩ rfl rfl hl.1 rfl (lv_room (Nat.le_of_ble_eq_true rfl)) d_Lw_give_4 ⟨Nat.le_of_ble_eq_true rfl, Nat.le_of_ble_eq_true rfl⟩) hS (fun q _ h => hFc q h) hFc (fun r_1 u t H1 locs ht hvm hw9 hB hz1 hk1 hS => ?_)
  obtain ⟨er9, hP1, hK1, hD1⟩ := hB
  rw [ht] at hP1
  have hK1 := va_K.moved hvm.symm hK1
  obtain ⟨hP, hD⟩ := va_join (wr := [(o9, .inl (cl, 1, .inr (.inl fo)))]) (w1 := [(b0, .inr (6, [.ref r0, .ref h1, .ref o0, .ref m1, .int (nI (q.rs + 1)), .int (nI q.vc), .int q.ws, .int q.bw])), (r0, .inl (x8, 20, .inl (upd q.rw q.rs (nI (2 * v0 + 1)))))]) hP hD [0, 1] [2] rfl rfl (by decide) (by decide) hk1 hFc hP1 hD1
  generalize H1 = H at hP hS ⊢
  have hP : va_P (dC, dI) vwCl [(o9, .inl (cl, 1, .inr (.inl fo))), (b0, .inr (6, [.ref r0, .ref h1, .ref o0, .ref m1, .int (nI (q.rs + 1)), .int (nI q.vc), .int q.ws, .int q.bw])), (r0, .inl (x8, 20, .inl (upd q.rw q.rs (nI (2 * v0 + 1)))))] H := hP
  have hD : va_D A [(o9, .inl (cl, 1, .inr (.inl fo))), (b0, .inr (6, [.ref r0, .ref h1, .ref o0, .ref m1, .int (nI (q.rs + 1)), .int (nI q.vc), .int q.ws, .int q.bw])), (r0, .inl (x8, 20, .inl (upd q.rw q.rs (nI (2 * v0 + 1)))))] := hD
  refine W.widen (k := 0) (n := 0) (by decide) (by decide) ?_
  have hw9 : r_1 = nI (q.rs + 1) := hw9.trans er9
  subst hw9
  refine lv_i2l (v := (nI (q.rs + 1) : Int32).toInt64) hx hb d_Lw_give_7 rfl ?_
  refine va_last hx hb hK hP hD hS 0 1 rfl rfl (by unfold vp_in; decide) d_Lw_give_8 (fun H locs hP hD hS => ?_)
  have hP : va_P (dC, dI) vwCl [(o9, .inl (cl, 1, .inr (.inl (vp_updL fo ((0 : Int32).toNatClampNeg) (nI (q.rs + 1) : Int32).toInt64)))), (b0, .inr (6, [.ref r0, .ref h1, .ref o0, .ref m1, .int (nI (q.rs + 1)), .int (nI q.vc), .int q.ws, .int q.bw])), (r0, .inl (x8, 20, .inl (upd q.rw q.rs (nI (2 * v0 + 1)))))] H := hP
  have hD : va_D A [(o9, .inl (cl, 1, .inr (.inl (vp_updL fo ((0 : Int32).toNatClampNeg) (nI (q.rs + 1) : Int32).toInt64)))), (b0, .inr (6, [.ref r0, .ref h1, .ref o0, .ref m1, .int (nI (q.rs + 1)), .int (nI q.vc), .int q.ws, .int q.bw])), (r0, .inl (x8, 20, .inl (upd q.rw q.rs (nI (2 * v0 + 1)))))] := hD
  refine lv_goto (tgt := 18) hx hb d_Lw_give_9 (by decide) ?_
  refine lv_iconst (v := 0) hx hb d_Lw_give_18 (by decide) ?_
  have hP := hP.sub (ws' := [(b0, .inr (6, [.ref r0, .ref h1, .ref o0, .ref m1, .int (nI (q.rs + 1)), .int (nI q.vc), .int q.ws, .int q.bw])), (r0, .inl (x8, 20, .inl (upd q.rw q.rs (nI (2 * v0 + 1))))), (o9, .inl (cl, 1, .inr (.inl (vp_updL fo (0 : Int32).toNatClampNeg (nI (q.rs + 1) : Int32).toInt64))))]) [1, 2, 0] rfl
  have hD := hD.sub (ws' := [(b0, .inr (6, [.ref r0, .ref h1, .ref o0, .ref m1, .int (nI (q.rs + 1)), .int (nI q.vc), .int q.ws, .int q.bw])), (r0, .inl (x8, 20, .inl (upd q.rw q.rs (nI (2 * v0 + 1))))), (o9, .inl (cl, 1, .inr (.inl (vp_updL fo (0 : Int32).toNatClampNeg (nI (q.rs + 1) : Int32).toInt64))))]) [1, 2, 0] (by decide) rfl
  have hK := hK.sub (tys' := [(x8, .int), (cl, .long)]) [0, 1] rfl
  refine W.widen (k := 0) (n := 0) (by decide) (by decide) ?_
  exact W.iret (v := 0) hx hb hr (fun t ht hW => ⟨⟨0, 0, rfl, rfl, rfl, by rw [ht]; exact hP, va_K.moved hW.alike hK, hD⟩, hS.F ht⟩) hS.2.2 d_Lw_give_19

set_option maxHeartbeats 4000000 in
set_option maxRecDepth 100000 in
/-- the helper of clause, answered -/
theorem c_Lw_clause (l : Launch) (dC : Nat → ClassId) (dI : Nat → Nat → Nat) (b0 : Nat) (r0 : Nat) (h1 : Nat) (o0 : Nat) (m1 : Nat) (g3 : Nat) (g4 : Nat) (g5 : Nat) (p0 : Nat) (f0 : Nat) (f1 : Nat) (h0 : Nat) (t0 : Nat) (w0 : Nat) (s0 : Nat) (k0 : Nat) (g0 : Nat) (g1 : Nat) (g2 : Nat) (v0 : Nat) (v1 : Nat) (o9 : Nat) (cl : ClassId) (x0 : ClassId) (x1 : ClassId) (x5 : ClassId) (x6 : ClassId) (x7 : ClassId) (x8 : ClassId) (y0 : ClassId) (y1 : ClassId) (y2 : ClassId) (y3 : ClassId) (y4 : ClassId) (y5 : ClassId) (sz sm : Nat) (q : Mx) (b : Rx) (pv : Nat → Int32) (x : Sx) (a : Rx) (d : Tx) (e9 : Tx) (w : Wx) (z : Lx) (gc : Nat) (fo : Nat → Int64) (hQ : Cx q b) (hX : Gx a d e9 w z x gc) (hX0 : x.hp = 0 ∨ x.hp = 1) (hr1 : 1 ≤ q.rs) (hn9 : b.n < 512) (hgc : gc < 512) : Met l y_Lw_clause (wh y_Lw_clause method_5_code 3 (some .int) [(0, 8, 11, 24), (0, 8, 14, 15)]) ({ frames := 6, cells := 8, slots := 1200000, locals := 173 }) (va_Pc [.ref b0, .ref o9] (fun U => U.heap.size = sz ∧ hsum U.heap = sm ∧ va_P (dC, dI) vwCl [(b0, .inr (6, [.ref r0, .ref h1, .ref o0, .ref m1, .int (nI q.rs), .int (nI q.vc), .int q.ws, .int q.bw])), (r0, .inl (x8, 20, .inl q.rw)), (h1, .inr (2, [.ref g3, .ref g4, .ref g5, .int (nI b.n)])), (g3, .inl (y3, b.la, .inl b.sf)), (g4, .inl (y4, b.la, .inl b.kf)), (g5, .inl (y5, b.lc, .inl b.cf)), (p0, .inl (x5, 20, .inl pv)), (o0, .inr (3, [.ref h0, .ref t0, .ref w0, .ref s0, .ref k0, .ref p0, .ref f0, .ref f1, .int (nI x.fc), .int (nI x.lc), .int x.bl, .int x.hp])), (f0, .inl (x6, 802, .inl x.fv)), (f1, .inl (x7, 802, .inl x.fi)), (h0, .inr (2, [.ref g0, .ref g1, .ref g2, .int (nI a.n)])), (g0, .inl (y0, a.la, .inl a.sf)), (g1, .inl (y1, a.la, .inl a.kf)), (g2, .inl (y2, a.lc, .inl a.cf)), (w0, .inr (5, [.ref h0, .ref t0, .ref v0, .ref v1])), (v0, .inl (x0, 802, .inl w.hd)), (v1, .inl (x1, w.nn, .inl w.nx)), (o9, .inl (cl, 1, .inr (.inl fo)))] U.heap ∧ va_K (dC, dI) vwCl [(x8, .int), (y3, .int), (y4, .int), (y5, .int), (x5, .int), (x6, .int), (x7, .boolean), (y0, .int), (y1, .int), (y2, .int), (x0, .int), (x1, .int), (cl, .long)] U ∧ va_D (fun _ => True) [(b0, .inr (6, [.ref r0, .ref h1, .ref o0, .ref m1, .int (nI q.rs), .int (nI q.vc), .int q.ws, .int q.bw])), (r0, .inl (x8, 20, .inl q.rw)), (h1, .inr (2, [.ref g3, .ref g4, .ref g5, .int (nI b.n)])), (g3, .inl (y3, b.la, .inl b.sf)), (g4, .inl (y4, b.la, .inl b.kf)), (g5, .inl (y5, b.lc, .inl b.cf)), (p0, .inl (x5, 20, .inl pv)), (o0, .inr (3, [.ref h0, .ref t0, .ref w0, .ref s0, .ref k0, .ref p0, .ref f0, .ref f1, .int (nI x.fc), .int (nI x.lc), .int x.bl, .int x.hp])), (f0, .inl (x6, 802, .inl x.fv)), (f1, .inl (x7, 802, .inl x.fi)), (h0, .inr (2, [.ref g0, .ref g1, .ref g2, .int (nI a.n)])), (g0, .inl (y0, a.la, .inl a.sf)), (g1, .inl (y1, a.la, .inl a.kf)), (g2, .inl (y2, a.lc, .inl a.cf)), (w0, .inr (5, [.ref h0, .ref t0, .ref v0, .ref v1])), (v0, .inl (x0, 802, .inl w.hd)), (v1, .inl (x1, w.nn, .inl w.nx)), (o9, .inl (cl, 1, .inr (.inl fo)))])) (va_Qi (fun (r : Int32) (r9 : Int32) => r = r9) (fun (r9 : Int32) t => ∃ (k1 : Nat) (k2 : Nat) (k3 : Nat) (e1 : Nat) (e2 : Nat) (e3 : Nat) (v9 : Nat) (aa : Rx) (vv : Wx) (xx : Sx) (pv2 : Nat → Int32) (gd : Nat) (bb : Rx) (qq : Mx), r9 = 0 ∧ (Cx qq bb) ∧ (qq.rs = 0 ∧ qq.vc = q.vc ∧ bb.n = b.n + 1 ∧ qq.wy = q.wy) ∧ (Gx aa d e9 vv z xx gd) ∧ (xx.hp = 0 ∨ xx.hp = 1) ∧ (gd ≤ gc + 1) ∧ (GC b a w ≤ GC bb aa vv ∧ GS b a w ≤ GS bb aa vv) ∧ (t.heap.size + GC b a w ≤ sz + GC bb aa vv) ∧ (hsum t.heap + GS b a w ≤ sm + GS bb aa vv) ∧ va_P (dC, dI) vwCl [(b0, .inr (6, [.ref r0, .ref h1, .ref o0, .ref m1, .int (nI qq.rs), .int (nI qq.vc), .int qq.ws, .int qq.bw])), (r0, .inl (x8, 20, .inl qq.rw)), (h1, .inr (2, [.ref k1, .ref k2, .ref k3, .int (nI bb.n)])), (k1, .inl (y3, bb.la, .inl bb.sf)), (k2, .inl (y4, bb.la, .inl bb.kf)), (k3, .inl (y5, bb.lc, .inl bb.cf)), (p0, .inl (x5, 20, .inl pv2)), (o0, .inr (3, [.ref h0, .ref t0, .ref w0, .ref s0, .ref k0, .ref p0, .ref f0, .ref f1, .int (nI xx.fc), .int (nI xx.lc), .int xx.bl, .int xx.hp])), (f0, .inl (x6, 802, .inl xx.fv)), (f1, .inl (x7, 802, .inl xx.fi)), (h0, .inr (2, [.ref e1, .ref e2, .ref e3, .int (nI aa.n)])), (e1, .inl (y0, aa.la, .inl aa.sf)), (e2, .inl (y1, aa.la, .inl aa.kf)), (e3, .inl (y2, aa.lc, .inl aa.cf)), (w0, .inr (5, [.ref h0, .ref t0, .ref v0, .ref v9])), (v0, .inl (x0, 802, .inl vv.hd)), (v9, .inl (x1, vv.nn, .inl vv.nx)), (o9, .inl (cl, 1, .inr (.inl (vp_updL fo (0 : Int32).toNatClampNeg (nI (b.n + 1) : Int32).toInt64))))] t.heap ∧ va_K (dC, dI) vwCl [(x8, .int), (y3, .int), (y4, .int), (y5, .int), (x5, .int), (x6, .int), (x7, .boolean), (y0, .int), (y1, .int), (y2, .int), (x0, .int), (x1, .int), (cl, .long)] t ∧ va_D (va_A [(b0, .inr (6, [.ref r0, .ref h1, .ref o0, .ref m1, .int (nI q.rs), .int (nI q.vc), .int q.ws, .int q.bw])), (r0, .inl (x8, 20, .inl q.rw)), (h1, .inr (2, [.ref g3, .ref g4, .ref g5, .int (nI b.n)])), (g3, .inl (y3, b.la, .inl b.sf)), (g4, .inl (y4, b.la, .inl b.kf)), (g5, .inl (y5, b.lc, .inl b.cf)), (p0, .inl (x5, 20, .inl pv)), (o0, .inr (3, [.ref h0, .ref t0, .ref w0, .ref s0, .ref k0, .ref p0, .ref f0, .ref f1, .int (nI x.fc), .int (nI x.lc), .int x.bl, .int x.hp])), (f0, .inl (x6, 802, .inl x.fv)), (f1, .inl (x7, 802, .inl x.fi)), (h0, .inr (2, [.ref g0, .ref g1, .ref g2, .int (nI a.n)])), (g0, .inl (y0, a.la, .inl a.sf)), (g1, .inl (y1, a.la, .inl a.kf)), (g2, .inl (y2, a.lc, .inl a.cf)), (w0, .inr (5, [.ref h0, .ref t0, .ref v0, .ref v1])), (v0, .inl (x0, 802, .inl w.hd)), (v1, .inl (x1, w.nn, .inl w.nx)), (o9, .inl (cl, 1, .inr (.inl fo)))] sz) [(b0, .inr (6, [.ref r0, .ref h1, .ref o0, .ref m1, .int (nI qq.rs), .int (nI qq.vc), .int qq.ws, .int qq.bw])), (r0, .inl (x8, 20, .inl qq.rw)), (h1, .inr (2, [.ref k1, .ref k2, .ref k3, .int (nI bb.n)])), (k1, .inl (y3, bb.la, .inl bb.sf)), (k2, .inl (y4, bb.la, .inl bb.kf)), (k3, .inl (y5, bb.lc, .inl bb.cf)), (p0, .inl (x5, 20, .inl pv2)), (o0, .inr (3, [.ref h0, .ref t0, .ref w0, .ref s0, .ref k0, .ref p0, .ref f0, .ref f1, .int (nI xx.fc), .int (nI xx.lc), .int xx.bl, .int xx.hp])), (f0, .inl (x6, 802, .inl xx.fv)), (f1, .inl (x7, 802, .inl xx.fi)), (h0, .inr (2, [.ref e1, .ref e2, .ref e3, .int (nI aa.n)])), (e1, .inl (y0, aa.la, .inl aa.sf)), (e2, .inl (y1, aa.la, .inl aa.kf)), (e3, .inl (y2, aa.lc, .inl aa.cf)), (w0, .inr (5, [.ref h0, .ref t0, .ref v0, .ref v9])), (v0, .inl (x0, 802, .inl vv.hd)), (v9, .inl (x1, vv.nn, .inl vv.nx)), (o9, .inl (cl, 1, .inr (.inl (vp_updL fo (0 : Int32).toNatClampNeg (nI (b.n + 1) : Int32).toInt64))))]) (va_A [(b0, .inr (6, [.ref r0, .ref h1, .ref o0, .ref m1, .int (nI q.rs), .int (nI q.vc), .int q.ws, .int q.bw])), (r0, .inl (x8, 20, .inl q.rw)), (h1, .inr (2, [.ref g3, .ref g4, .ref g5, .int (nI b.n)])), (g3, .inl (y3, b.la, .inl b.sf)), (g4, .inl (y4, b.la, .inl b.kf)), (g5, .inl (y5, b.lc, .inl b.cf)), (p0, .inl (x5, 20, .inl pv)), (o0, .inr (3, [.ref h0, .ref t0, .ref w0, .ref s0, .ref k0, .ref p0, .ref f0, .ref f1, .int (nI x.fc), .int (nI x.lc), .int x.bl, .int x.hp])), (f0, .inl (x6, 802, .inl x.fv)), (f1, .inl (x7, 802, .inl x.fi)), (h0, .inr (2, [.ref g0, .ref g1, .ref g2, .int (nI a.n)])), (g0, .inl (y0, a.la, .inl a.sf)), (g1, .inl (y1, a.la, .inl a.kf)), (g2, .inl (y2, a.lc, .inl a.cf)), (w0, .inr (5, [.ref h0, .ref t0, .ref v0, .ref v1])), (v0, .inl (x0, 802, .inl w.hd)), (v1, .inl (x1, w.nn, .inl w.nx)), (o9, .inl (cl, 1, .inr (.inl fo)))] sz)) (8) (1200000) (va_A [(b0, .inr (6, [.ref r0, .ref h1, .ref o0, .ref m1, .int (nI q.rs), .int (nI q.vc), .int q.ws, .int q.bw])), (r0, .inl (x8, 20, .inl q.rw)), (h1, .inr (2, [.ref g3, .ref g4, .ref g5, .int (nI b.n)])), (g3, .inl (y3, b.la, .inl b.sf)), (g4, .inl (y4, b.la, .inl b.kf)), (g5, .inl (y5, b.lc, .inl b.cf)), (p0, .inl (x5, 20, .inl pv)), (o0, .inr (3, [.ref h0, .ref t0, .ref w0, .ref s0, .ref k0, .ref p0, .ref f0, .ref f1, .int (nI x.fc), .int (nI x.lc), .int x.bl, .int x.hp])), (f0, .inl (x6, 802, .inl x.fv)), (f1, .inl (x7, 802, .inl x.fi)), (h0, .inr (2, [.ref g0, .ref g1, .ref g2, .int (nI a.n)])), (g0, .inl (y0, a.la, .inl a.sf)), (g1, .inl (y1, a.la, .inl a.kf)), (g2, .inl (y2, a.lc, .inl a.cf)), (w0, .inr (5, [.ref h0, .ref t0, .ref v0, .ref v1])), (v0, .inl (x0, 802, .inl w.hd)), (v1, .inl (x1, w.nn, .inl w.nx)), (o9, .inl (cl, 1, .inr (.inl fo)))] sz) := by
  refine va_MetW (hh := [(0, 8, 11, 24), (0, 8, 14, 15)]) (cc := method_5_code) (maxL := 3) (ret := (some .int)) (by decide) rfl ?_
  intro p e s m args below meth c s₁ B hml hv
  obtain ⟨rfl, hsz, hsm, hP, hK, hD0⟩ := hv
  have hx := B.exec
  have hb := B.bytes
  have hr := B.returns
  have hw : ∀ w ∈ bg_W, w.before #[Value.ref b0, Value.ref o9] s = true := fun w h => atoms_spec (ws := (wh y_Lw_clause method_5_code 3 (some .int) [(0, 8, 11, 24), (0, 8, 14, 15)])) B.pre w (List.mem_cons_of_mem _ h)
  have hown : s.vm.findClass R_Lw = some m.cls := findClass_of_methodNamed B.named
  have hlocks := B.notSynchronized
  subst hsz; subst hsm
  have hD := hD0.self (sz := s.heap.size)
  generalize hAe : va_A [(b0, .inr (6, [.ref r0, .ref h1, .ref o0, .ref m1, .int (nI q.rs), .int (nI q.vc), .int q.ws, .int q.bw])), (r0, .inl (x8, 20, .inl q.rw)), (h1, .inr (2, [.ref g3, .ref g4, .ref g5, .int (nI b.n)])), (g3, .inl (y3, b.la, .inl b.sf)), (g4, .inl (y4, b.la, .inl b.kf)), (g5, .inl (y5, b.lc, .inl b.cf)), (p0, .inl (x5, 20, .inl pv)), (o0, .inr (3, [.ref h0, .ref t0, .ref w0, .ref s0, .ref k0, .ref p0, .ref f0, .ref f1, .int (nI x.fc), .int (nI x.lc), .int x.bl, .int x.hp])), (f0, .inl (x6, 802, .inl x.fv)), (f1, .inl (x7, 802, .inl x.fi)), (h0, .inr (2, [.ref g0, .ref g1, .ref g2, .int (nI a.n)])), (g0, .inl (y0, a.la, .inl a.sf)), (g1, .inl (y1, a.la, .inl a.kf)), (g2, .inl (y2, a.lc, .inl a.cf)), (w0, .inr (5, [.ref h0, .ref t0, .ref v0, .ref v1])), (v0, .inl (x0, 802, .inl w.hd)), (v1, .inl (x1, w.nn, .inl w.nx)), (o9, .inl (cl, 1, .inr (.inl fo)))] s.heap.size = A at hD ⊢
  have hA : ∀ q : Nat, s.heap.size ≤ q → A q := fun q h => by rw [← hAe]; exact Or.inr h
  have hS : va_S A s.heap s.heap [] := va_S.rf
  have hP : va_P (dC, dI) vwCl [(b0, .inr (6, [.ref r0, .ref h1, .ref o0, .ref m1, .int (nI q.rs), .int (nI q.vc), .int q.ws, .int q.bw])), (r0, .inl (x8, 20, .inl q.rw)), (h1, .inr (2, [.ref g3, .ref g4, .ref g5, .int (nI b.n)])), (g3, .inl (y3, b.la, .inl b.sf)), (g4, .inl (y4, b.la, .inl b.kf)), (g5, .inl (y5, b.lc, .inl b.cf)), (p0, .inl (x5, 20, .inl pv)), (o0, .inr (3, [.ref h0, .ref t0, .ref w0, .ref s0, .ref k0, .ref p0, .ref f0, .ref f1, .int (nI x.fc), .int (nI x.lc), .int x.bl, .int x.hp])), (f0, .inl (x6, 802, .inl x.fv)), (f1, .inl (x7, 802, .inl x.fi)), (h0, .inr (2, [.ref g0, .ref g1, .ref g2, .int (nI a.n)])), (g0, .inl (y0, a.la, .inl a.sf)), (g1, .inl (y1, a.la, .inl a.kf)), (g2, .inl (y2, a.lc, .inl a.cf)), (w0, .inr (5, [.ref h0, .ref t0, .ref v0, .ref v1])), (v0, .inl (x0, 802, .inl w.hd)), (v1, .inl (x1, w.nn, .inl w.nx)), (o9, .inl (cl, 1, .inr (.inl fo)))] s.heap := hP
  have hl := lv_entry ([.ref b0, .ref o9]) (n := 3) (Nat.le_of_ble_eq_true rfl)
  rw [lg_entry_eq]
  generalize (lg_sl ([.ref b0, .ref o9]) ++ List.replicate (3 - (lg_sl ([.ref b0, .ref o9])).length) Slot.unset).toArray = ls at hl ⊢
  have hl : lv_has ls 3 [(0, .ref b0), (1, .ref o9)] := hl
  obtain ⟨H, hH⟩ : ∃ H : Heap, H = s.heap := ⟨_, rfl⟩
  rw [← hH] at hP
  have hS : va_S A s.heap H [] := by rw [hH]; exact va_S.rf
  show W p l e _ s m _ below meth c s.heap [] 0 0 _ _
  rw [← hH]
  refine lv_aload_n hx hb d_Lw_clause_0 rfl (lv_at hl 1 rfl) ?_
  refine lv_iconst (v := 0) hx hb d_Lw_clause_1 (by decide) ?_
  refine lv_aload_n hx hb d_Lw_clause_2 rfl (lv_at hl 0 rfl) ?_
  refine ct_know (fun hN1 hN2 => ?_)
  have hPc := hP.sub (ws' := [(b0, .inr (6, [.ref r0, .ref h1, .ref o0, .ref m1, .int (nI q.rs), .int (nI q.vc), .int q.ws, .int q.bw])), (r0, .inl (x8, 20, .inl q.rw)), (h1, .inr (2, [.ref g3, .ref g4, .ref g5, .int (nI b.n)])), (g3, .inl (y3, b.la, .inl b.sf)), (g4, .inl (y4, b.la, .inl b.kf)), (g5, .inl (y5, b.lc, .inl b.cf)), (p0, .inl (x5, 20, .inl pv)), (o0, .inr (3, [.ref h0, .ref t0, .ref w0, .ref s0, .ref k0, .ref p0, .ref f0, .ref f1, .int (nI x.fc), .int (nI x.lc), .int x.bl, .int x.hp])), (f0, .inl (x6, 802, .inl x.fv)), (f1, .inl (x7, 802, .inl x.fi)), (h0, .inr (2, [.ref g0, .ref g1, .ref g2, .int (nI a.n)])), (g0, .inl (y0, a.la, .inl a.sf)), (g1, .inl (y1, a.la, .inl a.kf)), (g2, .inl (y2, a.lc, .inl a.cf)), (w0, .inr (5, [.ref h0, .ref t0, .ref v0, .ref v1])), (v0, .inl (x0, 802, .inl w.hd)), (v1, .inl (x1, w.nn, .inl w.nx))]) [0, 1, 2, 3, 4, 5, 6, 7, 8, 9, 10, 11, 12, 13, 14, 15, 16] rfl
  have hDc := hD.sub (ws' := [(b0, .inr (6, [.ref r0, .ref h1, .ref o0, .ref m1, .int (nI q.rs), .int (nI q.vc), .int q.ws, .int q.bw])), (r0, .inl (x8, 20, .inl q.rw)), (h1, .inr (2, [.ref g3, .ref g4, .ref g5, .int (nI b.n)])), (g3, .inl (y3, b.la, .inl b.sf)), (g4, .inl (y4, b.la, .inl b.kf)), (g5, .inl (y5, b.lc, .inl b.cf)), (p0, .inl (x5, 20, .inl pv)), (o0, .inr (3, [.ref h0, .ref t0, .ref w0, .ref s0, .ref k0, .ref p0, .ref f0, .ref f1, .int (nI x.fc), .int (nI x.lc), .int x.bl, .int x.hp])), (f0, .inl (x6, 802, .inl x.fv)), (f1, .inl (x7, 802, .inl x.fi)), (h0, .inr (2, [.ref g0, .ref g1, .ref g2, .int (nI a.n)])), (g0, .inl (y0, a.la, .inl a.sf)), (g1, .inl (y1, a.la, .inl a.kf)), (g2, .inl (y2, a.lc, .inl a.cf)), (w0, .inr (5, [.ref h0, .ref t0, .ref v0, .ref v1])), (v0, .inl (x0, 802, .inl w.hd)), (v1, .inl (x1, w.nn, .inl w.nx))]) [0, 1, 2, 3, 4, 5, 6, 7, 8, 9, 10, 11, 12, 13, 14, 15, 16] (by decide) rfl
  have hKc := hK.sub (tys' := [(x8, .int), (y3, .int), (y4, .int), (y5, .int), (x5, .int), (x6, .int), (x7, .boolean), (y0, .int), (y1, .int), (y2, .int), (x0, .int), (x1, .int)]) [0, 1, 2, 3, 4, 5, 6, 7, 8, 9, 10, 11] rfl
  have hFc := va_free (wc := [(b0, .inr (6, [.ref r0, .ref h1, .ref o0, .ref m1, .int (nI q.rs), .int (nI q.vc), .int q.ws, .int q.bw])), (r0, .inl (x8, 20, .inl q.rw)), (h1, .inr (2, [.ref g3, .ref g4, .ref g5, .int (nI b.n)])), (g3, .inl (y3, b.la, .inl b.sf)), (g4, .inl (y4, b.la, .inl b.kf)), (g5, .inl (y5, b.lc, .inl b.cf)), (p0, .inl (x5, 20, .inl pv)), (o0, .inr (3, [.ref h0, .ref t0, .ref w0, .ref s0, .ref k0, .ref p0, .ref f0, .ref f1, .int (nI x.fc), .int (nI x.lc), .int x.bl, .int x.hp])), (f0, .inl (x6, 802, .inl x.fv)), (f1, .inl (x7, 802, .inl x.fi)), (h0, .inr (2, [.ref g0, .ref g1, .ref g2, .int (nI a.n)])), (g0, .inl (y0, a.la, .inl a.sf)), (g1, .inl (y1, a.la, .inl a.kf)), (g2, .inl (y2, a.lc, .inl a.cf)), (w0, .inr (5, [.ref h0, .ref t0, .ref v0, .ref v1])), (v0, .inl (x0, 802, .inl w.hd)), (v1, .inl (x1, w.nn, .inl w.nx))]) hD hS hA [0, 1, 2, 3, 4, 5, 6, 7, 8, 9, 10, 11, 12, 13, 14, 15, 16] rfl
  refine va_calli (va_runV (As := []) (rest := [.int 0, .ref o9]) ⟨hx, hb, hml, hown, hw⟩ (c_Cs_clause l dC dI b0 r0 h1 o0 m1 g3 g4 g5 p0 f0 f1 h0 t0 w0 s0 k0 g0 g1 g2 v0 v1 x0 x1 x5 x6 x7 x8 y0 y1 y2 y3 y4 y5 H.size (hsum H) q b pv x a d e9 w z gc hQ hX hX0 hr1 hn9 hgc) (cb_V (C := R_Cs) 0 hw k_553 k_29 k_550 k_551 k_552 rfl rfl (by decide +kernel) ⟨Nat.le_of_ble_eq_true rfl, Nat.le_of_ble_eq_true rfl⟩) ⟨fun a U g mk q => by obtain ⟨q0, q1, q2, qP, qK, qD⟩ := q; exact ⟨q0, q1, q2, qP, va_K.moved (u := U) (U := U.calling g mk a) (Vm.Alike.refl U.vm) qK, qD⟩, va_recv hKc hPc (ci := 6) (q0 := 0) rfl rfl, fun U hU hW => ⟨rfl, by rw [hU], by rw [hU], by rw [hU]; exact hPc, va_K.moved hW.alike hKc, hDc.weaken (fun _ _ _ _ => trivial)⟩⟩ rfl rfl hl.1 rfl (lv_room (Nat.le_of_ble_eq_true rfl)) d_Lw_clause_3 ⟨by show 0 + 8 ≤ 8; omega, by show 0 + 1200000 ≤ 1200000; omega⟩) hS (fun q _ h => hFc q h) hFc (fun r_1 u t H1 locs ht hvm hw9 hB hz1 hk1 hS => ?_)
  obtain ⟨n_2, n_3, n_4, n_5, n_6, n_7, n_8, b_9, b_10, b_11, g_12, n_13, b_14, b_15, er9, f_16, f_17, f_18, f_19, f_20, f_21, f_22, f_23, hP1, hK1, hD1⟩ := hB
  rw [ht] at hP1
  have hK1 := va_K.moved hvm.symm hK1
  obtain ⟨hP, hD⟩ := va_join (wr := [(o9, .inl (cl, 1, .inr (.inl fo)))]) (w1 := [(b0, .inr (6, [.ref r0, .ref h1, .ref o0, .ref m1, .int (nI b_15.rs), .int (nI b_15.vc), .int b_15.ws, .int b_15.bw])), (r0, .inl (x8, 20, .inl b_15.rw)), (h1, .inr (2, [.ref n_2, .ref n_3, .ref n_4, .int (nI b_14.n)])), (n_2, .inl (y3, b_14.la, .inl b_14.sf)), (n_3, .inl (y4, b_14.la, .inl b_14.kf)), (n_4, .inl (y5, b_14.lc, .inl b_14.cf)), (p0, .inl (x5, 20, .inl g_12)), (o0, .inr (3, [.ref h0, .ref t0, .ref w0, .ref s0, .ref k0, .ref p0, .ref f0, .ref f1, .int (nI b_11.fc), .int (nI b_11.lc), .int b_11.bl, .int b_11.hp])), (f0, .inl (x6, 802, .inl b_11.fv)), (f1, .inl (x7, 802, .inl b_11.fi)), (h0, .inr (2, [.ref n_5, .ref n_6, .ref n_7, .int (nI b_9.n)])), (n_5, .inl (y0, b_9.la, .inl b_9.sf)), (n_6, .inl (y1, b_9.la, .inl b_9.kf)), (n_7, .inl (y2, b_9.lc, .inl b_9.cf)), (w0, .inr (5, [.ref h0, .ref t0, .ref v0, .ref n_8])), (v0, .inl (x0, 802, .inl b_10.hd)), (n_8, .inl (x1, b_10.nn, .inl b_10.nx))]) hP hD [0, 1, 2, 3, 4, 5, 6, 7, 8, 9, 10, 11, 12, 13, 14, 15, 16] [17] rfl rfl (by decide) (by decide) hk1 hFc hP1 hD1
  rw [ht] at f_22 f_23
  generalize H1 = H at f_22 f_23 hP hS ⊢
  have hP : va_P (dC, dI) vwCl [(o9, .inl (cl, 1, .inr (.inl fo))), (b0, .inr (6, [.ref r0, .ref h1, .ref o0, .ref m1, .int (nI b_15.rs), .int (nI b_15.vc), .int b_15.ws, .int b_15.bw])), (r0, .inl (x8, 20, .inl b_15.rw)), (h1, .inr (2, [.ref n_2, .ref n_3, .ref n_4, .int (nI b_14.n)])), (n_2, .inl (y3, b_14.la, .inl b_14.sf)), (n_3, .inl (y4, b_14.la, .inl b_14.kf)), (n_4, .inl (y5, b_14.lc, .inl b_14.cf)), (p0, .inl (x5, 20, .inl g_12)), (o0, .inr (3, [.ref h0, .ref t0, .ref w0, .ref s0, .ref k0, .ref p0, .ref f0, .ref f1, .int (nI b_11.fc), .int (nI b_11.lc), .int b_11.bl, .int b_11.hp])), (f0, .inl (x6, 802, .inl b_11.fv)), (f1, .inl (x7, 802, .inl b_11.fi)), (h0, .inr (2, [.ref n_5, .ref n_6, .ref n_7, .int (nI b_9.n)])), (n_5, .inl (y0, b_9.la, .inl b_9.sf)), (n_6, .inl (y1, b_9.la, .inl b_9.kf)), (n_7, .inl (y2, b_9.lc, .inl b_9.cf)), (w0, .inr (5, [.ref h0, .ref t0, .ref v0, .ref n_8])), (v0, .inl (x0, 802, .inl b_10.hd)), (n_8, .inl (x1, b_10.nn, .inl b_10.nx))] H := hP
  have hD : va_D A [(o9, .inl (cl, 1, .inr (.inl fo))), (b0, .inr (6, [.ref r0, .ref h1, .ref o0, .ref m1, .int (nI b_15.rs), .int (nI b_15.vc), .int b_15.ws, .int b_15.bw])), (r0, .inl (x8, 20, .inl b_15.rw)), (h1, .inr (2, [.ref n_2, .ref n_3, .ref n_4, .int (nI b_14.n)])), (n_2, .inl (y3, b_14.la, .inl b_14.sf)), (n_3, .inl (y4, b_14.la, .inl b_14.kf)), (n_4, .inl (y5, b_14.lc, .inl b_14.cf)), (p0, .inl (x5, 20, .inl g_12)), (o0, .inr (3, [.ref h0, .ref t0, .ref w0, .ref s0, .ref k0, .ref p0, .ref f0, .ref f1, .int (nI b_11.fc), .int (nI b_11.lc), .int b_11.bl, .int b_11.hp])), (f0, .inl (x6, 802, .inl b_11.fv)), (f1, .inl (x7, 802, .inl b_11.fi)), (h0, .inr (2, [.ref n_5, .ref n_6, .ref n_7, .int (nI b_9.n)])), (n_5, .inl (y0, b_9.la, .inl b_9.sf)), (n_6, .inl (y1, b_9.la, .inl b_9.kf)), (n_7, .inl (y2, b_9.lc, .inl b_9.cf)), (w0, .inr (5, [.ref h0, .ref t0, .ref v0, .ref n_8])), (v0, .inl (x0, 802, .inl b_10.hd)), (n_8, .inl (x1, b_10.nn, .inl b_10.nx))] := hD
  refine ct_know (fun hN3 hN4 => ?_)
  obtain ⟨kc_24, ha_kc_24, hb_kc_24, hc_kc_24⟩ : ∃ k, k ≤ (0 + 8) ∧ k ≤ (GC b_14 b_9 b_10 - GC b a w) ∧ H.size ≤ s.heap.size + k := by
    have h2 : H.size ≤ s.heap.size + (GC b_14 b_9 b_10 - GC b a w) := by exact nw f_22 hN1
    refine ⟨min (0 + 8) (GC b_14 b_9 b_10 - GC b a w), Nat.min_le_left _ _, Nat.min_le_right _ _, ?_⟩
    rcases Nat.le_total (0 + 8) (GC b_14 b_9 b_10 - GC b a w) with q | q
    · rw [Nat.min_eq_left q]; exact hN3
    · rw [Nat.min_eq_right q]; exact h2
  obtain ⟨ks_25, ha_ks_25, hb_ks_25, hc_ks_25⟩ : ∃ k, k ≤ (0 + 1200000) ∧ k ≤ (GS b_14 b_9 b_10 - GS b a w) ∧ hsum H ≤ hsum s.heap + k := by
    have h2 : hsum H ≤ hsum s.heap + (GS b_14 b_9 b_10 - GS b a w) := by exact nw f_23 hN2
    refine ⟨min (0 + 1200000) (GS b_14 b_9 b_10 - GS b a w), Nat.min_le_left _ _, Nat.min_le_right _ _, ?_⟩
    rcases Nat.le_total (0 + 1200000) (GS b_14 b_9 b_10 - GS b a w) with q | q
    · rw [Nat.min_eq_left q]; exact hN4
    · rw [Nat.min_eq_right q]; exact h2
  refine ct_narrow (k := kc_24) (n := ks_25) hc_kc_24 hc_ks_25 ?_
  have hw9 : r_1 = nI (b.n + 1) := hw9.trans er9
  subst hw9
  refine lv_i2l (v := (nI (b.n + 1) : Int32).toInt64) hx hb d_Lw_clause_6 rfl ?_
  refine va_last hx hb hK hP hD hS 0 12 rfl rfl (by unfold vp_in; decide) d_Lw_clause_7 (fun H locs hP hD hS => ?_)
  have hP : va_P (dC, dI) vwCl [(o9, .inl (cl, 1, .inr (.inl (vp_updL fo ((0 : Int32).toNatClampNeg) (nI (b.n + 1) : Int32).toInt64)))), (b0, .inr (6, [.ref r0, .ref h1, .ref o0, .ref m1, .int (nI b_15.rs), .int (nI b_15.vc), .int b_15.ws, .int b_15.bw])), (r0, .inl (x8, 20, .inl b_15.rw)), (h1, .inr (2, [.ref n_2, .ref n_3, .ref n_4, .int (nI b_14.n)])), (n_2, .inl (y3, b_14.la, .inl b_14.sf)), (n_3, .inl (y4, b_14.la, .inl b_14.kf)), (n_4, .inl (y5, b_14.lc, .inl b_14.cf)), (p0, .inl (x5, 20, .inl g_12)), (o0, .inr (3, [.ref h0, .ref t0, .ref w0, .ref s0, .ref k0, .ref p0, .ref f0, .ref f1, .int (nI b_11.fc), .int (nI b_11.lc), .int b_11.bl, .int b_11.hp])), (f0, .inl (x6, 802, .inl b_11.fv)), (f1, .inl (x7, 802, .inl b_11.fi)), (h0, .inr (2, [.ref n_5, .ref n_6, .ref n_7, .int (nI b_9.n)])), (n_5, .inl (y0, b_9.la, .inl b_9.sf)), (n_6, .inl (y1, b_9.la, .inl b_9.kf)), (n_7, .inl (y2, b_9.lc, .inl b_9.cf)), (w0, .inr (5, [.ref h0, .ref t0, .ref v0, .ref n_8])), (v0, .inl (x0, 802, .inl b_10.hd)), (n_8, .inl (x1, b_10.nn, .inl b_10.nx))] H := hP
  have hD : va_D A [(o9, .inl (cl, 1, .inr (.inl (vp_updL fo ((0 : Int32).toNatClampNeg) (nI (b.n + 1) : Int32).toInt64)))), (b0, .inr (6, [.ref r0, .ref h1, .ref o0, .ref m1, .int (nI b_15.rs), .int (nI b_15.vc), .int b_15.ws, .int b_15.bw])), (r0, .inl (x8, 20, .inl b_15.rw)), (h1, .inr (2, [.ref n_2, .ref n_3, .ref n_4, .int (nI b_14.n)])), (n_2, .inl (y3, b_14.la, .inl b_14.sf)), (n_3, .inl (y4, b_14.la, .inl b_14.kf)), (n_4, .inl (y5, b_14.lc, .inl b_14.cf)), (p0, .inl (x5, 20, .inl g_12)), (o0, .inr (3, [.ref h0, .ref t0, .ref w0, .ref s0, .ref k0, .ref p0, .ref f0, .ref f1, .int (nI b_11.fc), .int (nI b_11.lc), .int b_11.bl, .int b_11.hp])), (f0, .inl (x6, 802, .inl b_11.fv)), (f1, .inl (x7, 802, .inl b_11.fi)), (h0, .inr (2, [.ref n_5, .ref n_6, .ref n_7, .int (nI b_9.n)])), (n_5, .inl (y0, b_9.la, .inl b_9.sf)), (n_6, .inl (y1, b_9.la, .inl b_9.kf)), (n_7, .inl (y2, b_9.lc, .inl b_9.cf)), (w0, .inr (5, [.ref h0, .ref t0, .ref v0, .ref n_8])), (v0, .inl (x0, 802, .inl b_10.hd)), (n_8, .inl (x1, b_10.nn, .inl b_10.nx))] := hD
  refine lv_goto (tgt := 17) hx hb d_Lw_clause_8 (by decide) ?_
  refine lv_iconst (v := 0) hx hb d_Lw_clause_17 (by decide) ?_
  refine ct_know (fun hN1 hN2 => ?_)
  have hP := hP.sub (ws' := [(b0, .inr (6, [.ref r0, .ref h1, .ref o0, .ref m1, .int (nI b_15.rs), .int (nI b_15.vc), .int b_15.ws, .int b_15.bw])), (r0, .inl (x8, 20, .inl b_15.rw)), (h1, .inr (2, [.ref n_2, .ref n_3, .ref n_4, .int (nI b_14.n)])), (n_2, .inl (y3, b_14.la, .inl b_14.sf)), (n_3, .inl (y4, b_14.la, .inl b_14.kf)), (n_4, .inl (y5, b_14.lc, .inl b_14.cf)), (p0, .inl (x5, 20, .inl g_12)), (o0, .inr (3, [.ref h0, .ref t0, .ref w0, .ref s0, .ref k0, .ref p0, .ref f0, .ref f1, .int (nI b_11.fc), .int (nI b_11.lc), .int b_11.bl, .int b_11.hp])), (f0, .inl (x6, 802, .inl b_11.fv)), (f1, .inl (x7, 802, .inl b_11.fi)), (h0, .inr (2, [.ref n_5, .ref n_6, .ref n_7, .int (nI b_9.n)])), (n_5, .inl (y0, b_9.la, .inl b_9.sf)), (n_6, .inl (y1, b_9.la, .inl b_9.kf)), (n_7, .inl (y2, b_9.lc, .inl b_9.cf)), (w0, .inr (5, [.ref h0, .ref t0, .ref v0, .ref n_8])), (v0, .inl (x0, 802, .inl b_10.hd)), (n_8, .inl (x1, b_10.nn, .inl b_10.nx)), (o9, .inl (cl, 1, .inr (.inl (vp_updL fo (0 : Int32).toNatClampNeg (nI (b.n + 1) : Int32).toInt64))))]) [1, 2, 3, 4, 5, 6, 7, 8, 9, 10, 11, 12, 13, 14, 15, 16, 17, 0] rfl
  have hD := hD.sub (ws' := [(b0, .inr (6, [.ref r0, .ref h1, .ref o0, .ref m1, .int (nI b_15.rs), .int (nI b_15.vc), .int b_15.ws, .int b_15.bw])), (r0, .inl (x8, 20, .inl b_15.rw)), (h1, .inr (2, [.ref n_2, .ref n_3, .ref n_4, .int (nI b_14.n)])), (n_2, .inl (y3, b_14.la, .inl b_14.sf)), (n_3, .inl (y4, b_14.la, .inl b_14.kf)), (n_4, .inl (y5, b_14.lc, .inl b_14.cf)), (p0, .inl (x5, 20, .inl g_12)), (o0, .inr (3, [.ref h0, .ref t0, .ref w0, .ref s0, .ref k0, .ref p0, .ref f0, .ref f1, .int (nI b_11.fc), .int (nI b_11.lc), .int b_11.bl, .int b_11.hp])), (f0, .inl (x6, 802, .inl b_11.fv)), (f1, .inl (x7, 802, .inl b_11.fi)), (h0, .inr (2, [.ref n_5, .ref n_6, .ref n_7, .int (nI b_9.n)])), (n_5, .inl (y0, b_9.la, .inl b_9.sf)), (n_6, .inl (y1, b_9.la, .inl b_9.kf)), (n_7, .inl (y2, b_9.lc, .inl b_9.cf)), (w0, .inr (5, [.ref h0, .ref t0, .ref v0, .ref n_8])), (v0, .inl (x0, 802, .inl b_10.hd)), (n_8, .inl (x1, b_10.nn, .inl b_10.nx)), (o9, .inl (cl, 1, .inr (.inl (vp_updL fo (0 : Int32).toNatClampNeg (nI (b.n + 1) : Int32).toInt64))))]) [1, 2, 3, 4, 5, 6, 7, 8, 9, 10, 11, 12, 13, 14, 15, 16, 17, 0] (by decide) rfl
  have hK := hK.sub (tys' := [(x8, .int), (y3, .int), (y4, .int), (y5, .int), (x5, .int), (x6, .int), (x7, .boolean), (y0, .int), (y1, .int), (y2, .int), (x0, .int), (x1, .int), (cl, .long)]) [0, 1, 2, 3, 4, 5, 6, 7, 8, 9, 10, 11, 12] rfl
  refine W.widen (k := 8) (n := 1200000) (Nat.le_trans ha_kc_24 (by decide)) (Nat.le_trans ha_ks_25 (by decide)) ?_
  exact W.iret (v := 0) hx hb hr (fun t ht hW => ⟨⟨0, 0, rfl, rfl, n_2, n_3, n_4, n_5, n_6, n_7, n_8, b_9, b_10, b_11, g_12, n_13, b_14, b_15, rfl, f_16, f_17, f_18, f_19, f_20, f_21, (by rw [ht, hH]; exact gw hN1 hb_kc_24 f_21.1), (by rw [ht, hH]; exact gw hN2 hb_ks_25 f_21.2), by rw [ht]; exact hP, va_K.moved hW.alike hK, hD⟩, hS.F ht⟩) hS.2.2 d_Lw_clause_18
