theorem k_227 : (Cond.fieldLinkNest "ClauseSearch" 93 "ClauseSearch$Search" "badLessons" "I" "ClauseSearch") ∈ bg_W := bg_in 227 (by decide +kernel) (by decide +kernel)
theorem d_Lw_value_7 : decode method_6_code 7 = .ok (.ifCond .eq 7, 3) := by decide +kernel
theorem d_Lw_value_14 : decode method_6_code 14 = .ok (.lconst 0, 1) := by decide +kernel
theorem d_Lw_value_15 : decode method_6_code 15 = .ok (.lastore, 1) := by decide +kernel
theorem d_Lw_value_16 : decode method_6_code 16 = .ok (.goto 9, 3) := by decide +kernel
theorem d_Lw_value_25 : decode method_6_code 25 = .ok (.iconst 0, 1) := by decide +kernel
theorem d_Lw_value_26 : decode method_6_code 26 = .ok (.ireturn, 1) := by decide +kernel
theorem d_Lw_value_10 : decode method_6_code 10 = .ok (.lconst 1, 1) := by decide +kernel
theorem d_Lw_value_11 : decode method_6_code 11 = .ok (.goto 4, 3) := by decide +kernel
theorem d_Cs_count_40 : decode prog_1_method_7_code 40 = .ok (.aload_n 0, 1) := by decide +kernel
theorem d_Cs_count_41 : decode prog_1_method_7_code 41 = .ok (.getfield 43, 3) := by decide +kernel
theorem d_Cs_count_44 : decode prog_1_method_7_code 44 = .ok (.ireturn, 1) := by decide +kernel
theorem d_Cs_count_45 : decode prog_1_method_7_code 45 = .ok (.aload_n 0, 1) := by decide +kernel
theorem d_Cs_count_46 : decode prog_1_method_7_code 46 = .ok (.getfield 16, 3) := by decide +kernel
theorem d_Cs_count_49 : decode prog_1_method_7_code 49 = .ok (.getfield 68, 3) := by decide +kernel
theorem d_Cs_count_52 : decode prog_1_method_7_code 52 = .ok (.ireturn, 1) := by decide +kernel
theorem d_Cs_count_53 : decode prog_1_method_7_code 53 = .ok (.aload_n 0, 1) := by decide +kernel
theorem d_Cs_count_54 : decode prog_1_method_7_code 54 = .ok (.getfield 58, 3) := by decide +kernel
theorem d_Cs_count_57 : decode prog_1_method_7_code 57 = .ok (.ireturn, 1) := by decide +kernel
theorem d_Cs_count_58 : decode prog_1_method_7_code 58 = .ok (.aload_n 0, 1) := by decide +kernel
theorem d_Cs_count_59 : decode prog_1_method_7_code 59 = .ok (.getfield 52, 3) := by decide +kernel
theorem d_Cs_count_62 : decode prog_1_method_7_code 62 = .ok (.ifCond .eq 7, 3) := by decide +kernel
theorem d_Cs_count_69 : decode prog_1_method_7_code 69 = .ok (.iconst 0, 1) := by decide +kernel
theorem d_Cs_count_70 : decode prog_1_method_7_code 70 = .ok (.ireturn, 1) := by decide +kernel
theorem d_Cs_count_65 : decode prog_1_method_7_code 65 = .ok (.iconst 1, 1) := by decide +kernel
theorem d_Cs_count_66 : decode prog_1_method_7_code 66 = .ok (.goto 4, 3) := by decide +kernel
theorem d_Cs_count_71 : decode prog_1_method_7_code 71 = .ok (.aload_n 0, 1) := by decide +kernel
theorem d_Cs_count_72 : decode prog_1_method_7_code 72 = .ok (.getfield 28, 3) := by decide +kernel
theorem d_Cs_count_75 : decode prog_1_method_7_code 75 = .ok (.getfield 93, 3) := by decide +kernel
theorem d_Cs_count_78 : decode prog_1_method_7_code 78 = .ok (.ireturn, 1) := by decide +kernel
theorem d_Cs_count_79 : decode prog_1_method_7_code 79 = .ok (.aload_n 0, 1) := by decide +kernel
theorem d_Cs_count_80 : decode prog_1_method_7_code 80 = .ok (.getfield 96, 3) := by decide +kernel
theorem d_Cs_count_83 : decode prog_1_method_7_code 83 = .ok (.ireturn, 1) := by decide +kernel
theorem d_Lw_count_7 : decode method_7_code 7 = .ok (.i2l, 1) := by decide +kernel
theorem d_Lw_count_8 : decode method_7_code 8 = .ok (.lastore, 1) := by decide +kernel
theorem d_Lw_count_9 : decode method_7_code 9 = .ok (.goto 6, 3) := by decide +kernel
theorem d_Lw_count_15 : decode method_7_code 15 = .ok (.iconst 0, 1) := by decide +kernel
theorem d_Lw_count_16 : decode method_7_code 16 = .ok (.ireturn, 1) := by decide +kernel
theorem sw_6 {x : Int32} (h1 : ¬ x.toInt < 0) (h2 : ¬ 5 < x.toInt) : x = 0 ∨ x = 1 ∨ x = 2 ∨ x = 3 ∨ x = 4 ∨ x = 5 := by
  have h : x.toInt = 0 ∨ x.toInt = 1 ∨ x.toInt = 2 ∨ x.toInt = 3 ∨ x.toInt = 4 ∨ x.toInt = 5 := by omega
  rcases h with h | h | h | h | h | h
  · exact Or.inl (Int32.toInt_inj.mp (h.trans rfl))
  · exact Or.inr (Or.inl (Int32.toInt_inj.mp (h.trans rfl)))
  · exact Or.inr (Or.inr (Or.inl (Int32.toInt_inj.mp (h.trans rfl))))
  · exact Or.inr (Or.inr (Or.inr (Or.inl (Int32.toInt_inj.mp (h.trans rfl)))))
  · exact Or.inr (Or.inr (Or.inr (Or.inr (Or.inl (Int32.toInt_inj.mp (h.trans rfl))))))
  · exact Or.inr (Or.inr (Or.inr (Or.inr (Or.inr (Int32.toInt_inj.mp (h.trans rfl))))))
set_option maxHeartbeats 4000000 in
set_option maxRecDepth 100000 in
/-- the helper of value, answered -/
theorem c_Lw_value (l : Launch) (dC : Nat → ClassId) (dI : Nat → Nat → Nat) (b0 : Nat) (r0 : Nat) (h1 : Nat) (o0 : Nat) (m1 : Nat) (o9 : Nat) (cl : ClassId) (x9 : ClassId) (sz : Nat) (q : Mx) (fo : Nat → Int64) (n0 : Nat) (hn1 : 1 ≤ n0) (hn2 : n0 ≤ q.vc) (hvc : q.vc ≤ 400) (hws : q.ws = 1) (hwy : ∀ j, j < 401 → q.wy j = 0 ∨ q.wy j = 1) : Met l y_Lw_value (wh y_Lw_value method_6_code 4 (some .int) [(0, 16, 19, 13), (0, 16, 22, 24)]) ({ frames := 1, cells := 0, slots := 0, locals := 21 }) (va_Pc [.ref b0, .int (nI n0), .ref o9] (fun U => U.heap.size = sz ∧ va_P (dC, dI) vwCl [(b0, .inr (6, [.ref r0, .ref h1, .ref o0, .ref m1, .int (nI q.rs), .int (nI q.vc), .int 1, .int q.bw])), (m1, .inl (x9, 401, .inl q.wy)), (o9, .inl (cl, 1, .inr (.inl fo)))] U.heap ∧ va_K (dC, dI) vwCl [(x9, .boolean), (cl, .long)] U ∧ va_D (fun _ => True) [(b0, .inr (6, [.ref r0, .ref h1, .ref o0, .ref m1, .int (nI q.rs), .int (nI q.vc), .int 1, .int q.bw])), (m1, .inl (x9, 401, .inl q.wy)), (o9, .inl (cl, 1, .inr (.inl fo)))])) (va_Qi (fun (r : Int32) (r9 : Int32) => r = r9) (fun (r9 : Int32) t => ∃ (f8 : Nat → Int64), r9 = 0 ∧ va_P (dC, dI) vwCl [(b0, .inr (6, [.ref r0, .ref h1, .ref o0, .ref m1, .int (nI q.rs), .int (nI q.vc), .int 1, .int q.bw])), (m1, .inl (x9, 401, .inl q.wy)), (o9, .inl (cl, 1, .inr (.inl f8)))] t.heap ∧ va_K (dC, dI) vwCl [(x9, .boolean), (cl, .long)] t ∧ va_D (va_A [(b0, .inr (6, [.ref r0, .ref h1, .ref o0, .ref m1, .int (nI q.rs), .int (nI q.vc), .int 1, .int q.bw])), (m1, .inl (x9, 401, .inl q.wy)), (o9, .inl (cl, 1, .inr (.inl fo)))] sz) [(b0, .inr (6, [.ref r0, .ref h1, .ref o0, .ref m1, .int (nI q.rs), .int (nI q.vc), .int 1, .int q.bw])), (m1, .inl (x9, 401, .inl q.wy)), (o9, .inl (cl, 1, .inr (.inl f8)))]) (va_A [(b0, .inr (6, [.ref r0, .ref h1, .ref o0, .ref m1, .int (nI q.rs), .int (nI q.vc), .int 1, .int q.bw])), (m1, .inl (x9, 401, .inl q.wy)), (o9, .inl (cl, 1, .inr (.inl fo)))] sz)) (0) (0) (va_A [(b0, .inr (6, [.ref r0, .ref h1, .ref o0, .ref m1, .int (nI q.rs), .int (nI q.vc), .int 1, .int q.bw])), (m1, .inl (x9, 401, .inl q.wy)), (o9, .inl (cl, 1, .inr (.inl fo)))] sz) := by
  refine va_MetW (hh := [(0, 16, 19, 13), (0, 16, 22, 24)]) (cc := method_6_code) (maxL := 4) (ret := (some .int)) (by decide) rfl ?_
  intro p e s m args below meth c s₁ B hml hv
  obtain ⟨rfl, hsz, hP, hK, hD0⟩ := hv
  have hx := B.exec
  have hb := B.bytes
  have hr := B.returns
  have hw : ∀ w ∈ bg_W, w.before #[Value.ref b0, Value.int (nI n0), Value.ref o9] s = true := fun w h => atoms_spec (ws := (wh y_Lw_value method_6_code 4 (some .int) [(0, 16, 19, 13), (0, 16, 22, 24)])) B.pre w (List.mem_cons_of_mem _ h)
  have hown : s.vm.findClass R_Lw = some m.cls := findClass_of_methodNamed B.named
  have hlocks := B.notSynchronized
  subst hsz
  have hD := hD0.self (sz := s.heap.size)
  generalize hAe : va_A [(b0, .inr (6, [.ref r0, .ref h1, .ref o0, .ref m1, .int (nI q.rs), .int (nI q.vc), .int 1, .int q.bw])), (m1, .inl (x9, 401, .inl q.wy)), (o9, .inl (cl, 1, .inr (.inl fo)))] s.heap.size = A at hD ⊢
  have hA : ∀ q : Nat, s.heap.size ≤ q → A q := fun q h => by rw [← hAe]; exact Or.inr h
  have hS : va_S A s.heap s.heap [] := va_S.rf
  have hP : va_P (dC, dI) vwCl [(b0, .inr (6, [.ref r0, .ref h1, .ref o0, .ref m1, .int (nI q.rs), .int (nI q.vc), .int 1, .int q.bw])), (m1, .inl (x9, 401, .inl q.wy)), (o9, .inl (cl, 1, .inr (.inl fo)))] s.heap := hP
  have hl := lv_entry ([.ref b0, .int (nI n0), .ref o9]) (n := 4) (Nat.le_of_ble_eq_true rfl)
  rw [lg_entry_eq]
  generalize (lg_sl ([.ref b0, .int (nI n0), .ref o9]) ++ List.replicate (4 - (lg_sl ([.ref b0, .int (nI n0), .ref o9])).length) Slot.unset).toArray = ls at hl ⊢
  have hl : lv_has ls 4 [(0, .ref b0), (1, .int (nI n0)), (2, .ref o9)] := hl
  obtain ⟨H, hH⟩ : ∃ H : Heap, H = s.heap := ⟨_, rfl⟩
  rw [← hH] at hP
  have hS : va_S A s.heap H [] := by rw [hH]; exact va_S.rf
  show W p l e _ s m _ below meth c s.heap [] 0 0 _ _
  rw [← hH]
  rcases hwy n0 (by omega) with hwv | hwv
  · refine lv_aload_n hx hb d_Lw_value_0 rfl (lv_at hl 2 rfl) ?_
    refine lv_iconst (v := 0) hx hb d_Lw_value_1 (by decide) ?_
    refine lv_aload_n hx hb d_Lw_value_2 rfl (lv_at hl 0 rfl) ?_
    refine lv_iload_n hx hb d_Lw_value_3 rfl (lv_at hl 1 rfl) ?_
    have hPc := hP.sub (ws' := [(b0, .inr (6, [.ref r0, .ref h1, .ref o0, .ref m1, .int (nI q.rs), .int (nI q.vc), .int 1, .int q.bw])), (m1, .inl (x9, 401, .inl q.wy))]) [0, 1] rfl
    have hDc := hD.sub (ws' := [(b0, .inr (6, [.ref r0, .ref h1, .ref o0, .ref m1, .int (nI q.rs), .int (nI q.vc), .int 1, .int q.bw])), (m1, .inl (x9, 401, .inl q.wy))]) [0, 1] (by decide) rfl
    have hKc := hK.sub (tys' := [(x9, .boolean)]) [0] rfl
    have hFc := va_free (wc := [(b0, .inr (6, [.ref r0, .ref h1, .ref o0, .ref m1, .int (nI q.rs), .int (nI q.vc), .int 1, .int q.bw])), (m1, .inl (x9, 401, .inl q.wy))]) hD hS hA [0, 1] rfl
    refine va_calli (va_runV (As := [.int (nI n0)]) (rest := [.int 0, .ref o9]) ⟨hx, hb, hml, hown, hw⟩ (c_Cs_value_0 l dC dI b0 r0 h1 o0 m1 x9 H.size q n0 hn1 hn2 hvc hws hwv) (cb_V (C := R_Cs) 1 hw k_586 k_29 k_583 k_584 k_585 rfl rfl (by decide +kernel) ⟨Nat.le_of_ble_eq_true rfl, Nat.le_of_ble_eq_true rfl⟩) ⟨fun a U g mk q => by obtain ⟨q0, q1, qP, qK, qD⟩ := q; exact ⟨q0, q1, qP, va_K.moved (u := U) (U := U.calling g mk a) (Vm.Alike.refl U.vm) qK, qD⟩, va_recv hKc hPc (ci := 6) (q0 := 0) rfl rfl, fun U hU hW => ⟨rfl, by rw [hU], by rw [hU]; exact hPc, va_K.moved hW.alike hKc, hDc.weaken (fun _ _ _ _ => trivial)⟩⟩ rfl rfl hl.1 rfl (lv_room (Nat.le_of_ble_eq_true rfl)) d_Lw_value_4 ⟨Nat.le_of_ble_eq_true rfl, Nat.le_of_ble_eq_true rfl⟩) hS (fun q _ h => hFc q h) hFc (fun r_1 u t H1 locs ht hvm hw9 hB hz1 hk1 hS => ?_)
    obtain ⟨er9, hP1, hK1, hD1⟩ := hB
    rw [ht] at hP1
    have hK1 := va_K.moved hvm.symm hK1
    obtain ⟨hP, hD⟩ := va_join (wr := [(o9, .inl (cl, 1, .inr (.inl fo)))]) (w1 := [(b0, .inr (6, [.ref r0, .ref h1, .ref o0, .ref m1, .int (nI q.rs), .int (nI q.vc), .int 1, .int q.bw])), (m1, .inl (x9, 401, .inl q.wy))]) hP hD [0, 1] [2] rfl rfl (by decide) (by decide) hk1 hFc hP1 hD1
    generalize H1 = H at hP hS ⊢
    have hP : va_P (dC, dI) vwCl [(o9, .inl (cl, 1, .inr (.inl fo))), (b0, .inr (6, [.ref r0, .ref h1, .ref o0, .ref m1, .int (nI q.rs), .int (nI q.vc), .int 1, .int q.bw])), (m1, .inl (x9, 401, .inl q.wy))] H := hP
    have hD : va_D A [(o9, .inl (cl, 1, .inr (.inl fo))), (b0, .inr (6, [.ref r0, .ref h1, .ref o0, .ref m1, .int (nI q.rs), .int (nI q.vc), .int 1, .int q.bw])), (m1, .inl (x9, 401, .inl q.wy))] := hD
    refine W.widen (k := 0) (n := 0) (by decide) (by decide) ?_
    have hw9 : r_1 = 0 := hw9.trans er9
    subst hw9
    refine lv_if_eq (tgt := 14) hx hb d_Lw_value_7 (by decide) (fun c_7 => ?_) (fun c_7 => absurd c_7 (by decide))
    refine lv_lconst (v := 0) hx hb d_Lw_value_14 (by decide) ?_
    refine va_last hx hb hK hP hD hS 0 1 rfl rfl (by unfold vp_in; decide) d_Lw_value_15 (fun H locs hP hD hS => ?_)
    have hP : va_P (dC, dI) vwCl [(o9, .inl (cl, 1, .inr (.inl (vp_updL fo ((0 : Int32).toNatClampNeg) 0)))), (b0, .inr (6, [.ref r0, .ref h1, .ref o0, .ref m1, .int (nI q.rs), .int (nI q.vc), .int 1, .int q.bw])), (m1, .inl (x9, 401, .inl q.wy))] H := hP
    have hD : va_D A [(o9, .inl (cl, 1, .inr (.inl (vp_updL fo ((0 : Int32).toNatClampNeg) 0)))), (b0, .inr (6, [.ref r0, .ref h1, .ref o0, .ref m1, .int (nI q.rs), .int (nI q.vc), .int 1, .int q.bw])), (m1, .inl (x9, 401, .inl q.wy))] := hD
    refine lv_goto (tgt := 25) hx hb d_Lw_value_16 (by decide) ?_
    refine lv_iconst (v := 0) hx hb d_Lw_value_25 (by decide) ?_
    have hP := hP.sub (ws' := [(b0, .inr (6, [.ref r0, .ref h1, .ref o0, .ref m1, .int (nI q.rs), .int (nI q.vc), .int 1, .int q.bw])), (m1, .inl (x9, 401, .inl q.wy)), (o9, .inl (cl, 1, .inr (.inl (vp_updL fo ((0 : Int32).toNatClampNeg) 0))))]) [1, 2, 0] rfl
    have hD := hD.sub (ws' := [(b0, .inr (6, [.ref r0, .ref h1, .ref o0, .ref m1, .int (nI q.rs), .int (nI q.vc), .int 1, .int q.bw])), (m1, .inl (x9, 401, .inl q.wy)), (o9, .inl (cl, 1, .inr (.inl (vp_updL fo ((0 : Int32).toNatClampNeg) 0))))]) [1, 2, 0] (by decide) rfl
    have hK := hK.sub (tys' := [(x9, .boolean), (cl, .long)]) [0, 1] rfl
    refine W.widen (k := 0) (n := 0) (by decide) (by decide) ?_
    exact W.iret (v := 0) hx hb hr (fun t ht hW => ⟨⟨0, 0, rfl, rfl, (vp_updL fo ((0 : Int32).toNatClampNeg) 0), rfl, by rw [ht]; exact hP, va_K.moved hW.alike hK, hD⟩, hS.F ht⟩) hS.2.2 d_Lw_value_26
  · refine lv_aload_n hx hb d_Lw_value_0 rfl (lv_at hl 2 rfl) ?_
    refine lv_iconst (v := 0) hx hb d_Lw_value_1 (by decide) ?_
    refine lv_aload_n hx hb d_Lw_value_2 rfl (lv_at hl 0 rfl) ?_
    refine lv_iload_n hx hb d_Lw_value_3 rfl (lv_at hl 1 rfl) ?_
    have hPc := hP.sub (ws' := [(b0, .inr (6, [.ref r0, .ref h1, .ref o0, .ref m1, .int (nI q.rs), .int (nI q.vc), .int 1, .int q.bw])), (m1, .inl (x9, 401, .inl q.wy))]) [0, 1] rfl
    have hDc := hD.sub (ws' := [(b0, .inr (6, [.ref r0, .ref h1, .ref o0, .ref m1, .int (nI q.rs), .int (nI q.vc), .int 1, .int q.bw])), (m1, .inl (x9, 401, .inl q.wy))]) [0, 1] (by decide) rfl
    have hKc := hK.sub (tys' := [(x9, .boolean)]) [0] rfl
    have hFc := va_free (wc := [(b0, .inr (6, [.ref r0, .ref h1, .ref o0, .ref m1, .int (nI q.rs), .int (nI q.vc), .int 1, .int q.bw])), (m1, .inl (x9, 401, .inl q.wy))]) hD hS hA [0, 1] rfl
    refine va_calli (va_runV (As := [.int (nI n0)]) (rest := [.int 0, .ref o9]) ⟨hx, hb, hml, hown, hw⟩ (c_Cs_value_1 l dC dI b0 r0 h1 o0 m1 x9 H.size q n0 hn1 hn2 hvc hws hwv) (cb_V (C := R_Cs) 1 hw k_586 k_29 k_583 k_584 k_585 rfl rfl (by decide +kernel) ⟨Nat.le_of_ble_eq_true rfl, Nat.le_of_ble_eq_true rfl⟩) ⟨fun a U g mk q => by obtain ⟨q0, q1, qP, qK, qD⟩ := q; exact ⟨q0, q1, qP, va_K.moved (u := U) (U := U.calling g mk a) (Vm.Alike.refl U.vm) qK, qD⟩, va_recv hKc hPc (ci := 6) (q0 := 0) rfl rfl, fun U hU hW => ⟨rfl, by rw [hU], by rw [hU]; exact hPc, va_K.moved hW.alike hKc, hDc.weaken (fun _ _ _ _ => trivial)⟩⟩ rfl rfl hl.1 rfl (lv_room (Nat.le_of_ble_eq_true rfl)) d_Lw_value_4 ⟨Nat.le_of_ble_eq_true rfl, Nat.le_of_ble_eq_true rfl⟩) hS (fun q _ h => hFc q h) hFc (fun r_2 u t H1 locs ht hvm hw9 hB hz1 hk1 hS => ?_)
    obtain ⟨er9, hP1, hK1, hD1⟩ := hB
    rw [ht] at hP1
    have hK1 := va_K.moved hvm.symm hK1
    obtain ⟨hP, hD⟩ := va_join (wr := [(o9, .inl (cl, 1, .inr (.inl fo)))]) (w1 := [(b0, .inr (6, [.ref r0, .ref h1, .ref o0, .ref m1, .int (nI q.rs), .int (nI q.vc), .int 1, .int q.bw])), (m1, .inl (x9, 401, .inl q.wy))]) hP hD [0, 1] [2] rfl rfl (by decide) (by decide) hk1 hFc hP1 hD1
    generalize H1 = H at hP hS ⊢
    have hP : va_P (dC, dI) vwCl [(o9, .inl (cl, 1, .inr (.inl fo))), (b0, .inr (6, [.ref r0, .ref h1, .ref o0, .ref m1, .int (nI q.rs), .int (nI q.vc), .int 1, .int q.bw])), (m1, .inl (x9, 401, .inl q.wy))] H := hP
    have hD : va_D A [(o9, .inl (cl, 1, .inr (.inl fo))), (b0, .inr (6, [.ref r0, .ref h1, .ref o0, .ref m1, .int (nI q.rs), .int (nI q.vc), .int 1, .int q.bw])), (m1, .inl (x9, 401, .inl q.wy))] := hD
    refine W.widen (k := 0) (n := 0) (by decide) (by decide) ?_
    have hw9 : r_2 = 1 := hw9.trans er9
    subst hw9
    refine lv_if_eq (tgt := 14) hx hb d_Lw_value_7 (by decide) (fun c_7 => absurd c_7 (by decide)) (fun c_7 => ?_)
    refine lv_lconst (v := 1) hx hb d_Lw_value_10 (by decide) ?_
    refine lv_goto (tgt := 15) hx hb d_Lw_value_11 (by decide) ?_
    refine va_last hx hb hK hP hD hS 0 1 rfl rfl (by unfold vp_in; decide) d_Lw_value_15 (fun H locs hP hD hS => ?_)
    have hP : va_P (dC, dI) vwCl [(o9, .inl (cl, 1, .inr (.inl (vp_updL fo ((0 : Int32).toNatClampNeg) 1)))), (b0, .inr (6, [.ref r0, .ref h1, .ref o0, .ref m1, .int (nI q.rs), .int (nI q.vc), .int 1, .int q.bw])), (m1, .inl (x9, 401, .inl q.wy))] H := hP
    have hD : va_D A [(o9, .inl (cl, 1, .inr (.inl (vp_updL fo ((0 : Int32).toNatClampNeg) 1)))), (b0, .inr (6, [.ref r0, .ref h1, .ref o0, .ref m1, .int (nI q.rs), .int (nI q.vc), .int 1, .int q.bw])), (m1, .inl (x9, 401, .inl q.wy))] := hD
    refine lv_goto (tgt := 25) hx hb d_Lw_value_16 (by decide) ?_
    refine lv_iconst (v := 0) hx hb d_Lw_value_25 (by decide) ?_
    have hP := hP.sub (ws' := [(b0, .inr (6, [.ref r0, .ref h1, .ref o0, .ref m1, .int (nI q.rs), .int (nI q.vc), .int 1, .int q.bw])), (m1, .inl (x9, 401, .inl q.wy)), (o9, .inl (cl, 1, .inr (.inl (vp_updL fo ((0 : Int32).toNatClampNeg) 1))))]) [1, 2, 0] rfl
    have hD := hD.sub (ws' := [(b0, .inr (6, [.ref r0, .ref h1, .ref o0, .ref m1, .int (nI q.rs), .int (nI q.vc), .int 1, .int q.bw])), (m1, .inl (x9, 401, .inl q.wy)), (o9, .inl (cl, 1, .inr (.inl (vp_updL fo ((0 : Int32).toNatClampNeg) 1))))]) [1, 2, 0] (by decide) rfl
    have hK := hK.sub (tys' := [(x9, .boolean), (cl, .long)]) [0, 1] rfl
    refine W.widen (k := 0) (n := 0) (by decide) (by decide) ?_
    exact W.iret (v := 0) hx hb hr (fun t ht hW => ⟨⟨0, 0, rfl, rfl, (vp_updL fo ((0 : Int32).toNatClampNeg) 1), rfl, by rw [ht]; exact hP, va_K.moved hW.alike hK, hD⟩, hS.F ht⟩) hS.2.2 d_Lw_value_26

set_option maxHeartbeats 4000000 in
set_option maxRecDepth 100000 in
/-- count(what) -/
theorem c_Cs_count (l : Launch) (dC : Nat → ClassId) (dI : Nat → Nat → Nat) (b0 : Nat) (r0 : Nat) (h1 : Nat) (o0 : Nat) (m1 : Nat) (h0 : Nat) (t0 : Nat) (w0 : Nat) (s0 : Nat) (k0 : Nat) (p0 : Nat) (f0 : Nat) (f1 : Nat) (g3 : Nat) (g4 : Nat) (g5 : Nat) (sz : Nat) (q : Mx) (b : Rx) (x : Sx) (pw : Int32) (hc1 : ¬ pw.toInt < 0) (hc2 : ¬ 5 < pw.toInt) : Met l y_Cs_count (wq y_Cs_count prog_1_method_7_code 2 (some .int)) ({ frames := 0, cells := 0, slots := 0, locals := 0 }) (va_Pc [.ref b0, .int pw] (fun U => U.heap.size = sz ∧ va_P (dC, dI) vwCl [(b0, .inr (6, [.ref r0, .ref h1, .ref o0, .ref m1, .int (nI q.rs), .int (nI q.vc), .int q.ws, .int q.bw])), (h1, .inr (2, [.ref g3, .ref g4, .ref g5, .int (nI b.n)])), (o0, .inr (3, [.ref h0, .ref t0, .ref w0, .ref s0, .ref k0, .ref p0, .ref f0, .ref f1, .int (nI x.fc), .int (nI x.lc), .int x.bl, .int x.hp]))] U.heap ∧ va_K (dC, dI) vwCl [] U ∧ va_D (fun _ => True) [(b0, .inr (6, [.ref r0, .ref h1, .ref o0, .ref m1, .int (nI q.rs), .int (nI q.vc), .int q.ws, .int q.bw])), (h1, .inr (2, [.ref g3, .ref g4, .ref g5, .int (nI b.n)])), (o0, .inr (3, [.ref h0, .ref t0, .ref w0, .ref s0, .ref k0, .ref p0, .ref f0, .ref f1, .int (nI x.fc), .int (nI x.lc), .int x.bl, .int x.hp]))])) (va_Qi (fun (r : Int32) (r9 : Int32) => r = r9) (fun (r9 : Int32) t => va_P (dC, dI) vwCl [(b0, .inr (6, [.ref r0, .ref h1, .ref o0, .ref m1, .int (nI q.rs), .int (nI q.vc), .int q.ws, .int q.bw])), (h1, .inr (2, [.ref g3, .ref g4, .ref g5, .int (nI b.n)])), (o0, .inr (3, [.ref h0, .ref t0, .ref w0, .ref s0, .ref k0, .ref p0, .ref f0, .ref f1, .int (nI x.fc), .int (nI x.lc), .int x.bl, .int x.hp]))] t.heap ∧ va_K (dC, dI) vwCl [] t ∧ va_D (va_A [(b0, .inr (6, [.ref r0, .ref h1, .ref o0, .ref m1, .int (nI q.rs), .int (nI q.vc), .int q.ws, .int q.bw])), (h1, .inr (2, [.ref g3, .ref g4, .ref g5, .int (nI b.n)])), (o0, .inr (3, [.ref h0, .ref t0, .ref w0, .ref s0, .ref k0, .ref p0, .ref f0, .ref f1, .int (nI x.fc), .int (nI x.lc), .int x.bl, .int x.hp]))] sz) [(b0, .inr (6, [.ref r0, .ref h1, .ref o0, .ref m1, .int (nI q.rs), .int (nI q.vc), .int q.ws, .int q.bw])), (h1, .inr (2, [.ref g3, .ref g4, .ref g5, .int (nI b.n)])), (o0, .inr (3, [.ref h0, .ref t0, .ref w0, .ref s0, .ref k0, .ref p0, .ref f0, .ref f1, .int (nI x.fc), .int (nI x.lc), .int x.bl, .int x.hp]))]) (va_A [(b0, .inr (6, [.ref r0, .ref h1, .ref o0, .ref m1, .int (nI q.rs), .int (nI q.vc), .int q.ws, .int q.bw])), (h1, .inr (2, [.ref g3, .ref g4, .ref g5, .int (nI b.n)])), (o0, .inr (3, [.ref h0, .ref t0, .ref w0, .ref s0, .ref k0, .ref p0, .ref f0, .ref f1, .int (nI x.fc), .int (nI x.lc), .int x.bl, .int x.hp]))] sz)) (0) (0) (va_A [(b0, .inr (6, [.ref r0, .ref h1, .ref o0, .ref m1, .int (nI q.rs), .int (nI q.vc), .int q.ws, .int q.bw])), (h1, .inr (2, [.ref g3, .ref g4, .ref g5, .int (nI b.n)])), (o0, .inr (3, [.ref h0, .ref t0, .ref w0, .ref s0, .ref k0, .ref p0, .ref f0, .ref f1, .int (nI x.fc), .int (nI x.lc), .int x.bl, .int x.hp]))] sz) := by
  refine Met.ofW (cc := prog_1_method_7_code) (maxL := 2) (ret := (some .int)) (by decide) rfl ?_
  intro p e s m args below meth c s₁ B hml hv
  obtain ⟨rfl, hsz, hP, hK, hD0⟩ := hv
  have hx := B.exec
  have hb := B.bytes
  have hr := B.returns
  have hw : ∀ w ∈ bg_W, w.before #[Value.ref b0, Value.int pw] s = true := fun w h => atoms_spec (ws := (wq y_Cs_count prog_1_method_7_code 2 (some .int))) B.pre w (List.mem_cons_of_mem _ h)
  have hown : s.vm.findClass R_Cs = some m.cls := findClass_of_methodNamed B.named
  have hlocks := B.notSynchronized
  subst hsz
  have hD := hD0.self (sz := s.heap.size)
  generalize hAe : va_A [(b0, .inr (6, [.ref r0, .ref h1, .ref o0, .ref m1, .int (nI q.rs), .int (nI q.vc), .int q.ws, .int q.bw])), (h1, .inr (2, [.ref g3, .ref g4, .ref g5, .int (nI b.n)])), (o0, .inr (3, [.ref h0, .ref t0, .ref w0, .ref s0, .ref k0, .ref p0, .ref f0, .ref f1, .int (nI x.fc), .int (nI x.lc), .int x.bl, .int x.hp]))] s.heap.size = A at hD ⊢
  have hA : ∀ q : Nat, s.heap.size ≤ q → A q := fun q h => by rw [← hAe]; exact Or.inr h
  have hS : va_S A s.heap s.heap [] := va_S.rf
  have hP : va_P (dC, dI) vwCl [(b0, .inr (6, [.ref r0, .ref h1, .ref o0, .ref m1, .int (nI q.rs), .int (nI q.vc), .int q.ws, .int q.bw])), (h1, .inr (2, [.ref g3, .ref g4, .ref g5, .int (nI b.n)])), (o0, .inr (3, [.ref h0, .ref t0, .ref w0, .ref s0, .ref k0, .ref p0, .ref f0, .ref f1, .int (nI x.fc), .int (nI x.lc), .int x.bl, .int x.hp]))] s.heap := hP
  have hl := lv_entry ([.ref b0, .int pw]) (n := 2) (Nat.le_of_ble_eq_true rfl)
  rw [lg_entry_eq]
  generalize (lg_sl ([.ref b0, .int pw]) ++ List.replicate (2 - (lg_sl ([.ref b0, .int pw])).length) Slot.unset).toArray = ls at hl ⊢
  have hl : lv_has ls 2 [(0, .ref b0), (1, .int pw)] := hl
  obtain ⟨H, hH⟩ : ∃ H : Heap, H = s.heap := ⟨_, rfl⟩
  rw [← hH] at hP
  have hS : va_S A s.heap H [] := by rw [hH]; exact va_S.rf
  show W p l e _ s m _ below meth c s.heap [] 0 0 _ _
  rw [← hH]
  refine lv_iload_n hx hb d_Cs_count_0 rfl (lv_at hl 1 rfl) ?_
  obtain rfl | rfl | rfl | rfl | rfl | rfl := sw_6 hc1 hc2
  · refine lv_tableIn (tgt := 40) hx hb d_Cs_count_1 (by decide) (by decide) (off := 39) (by decide) (by decide) ?_
    refine lv_aload_n hx hb d_Cs_count_40 rfl (lv_at hl 0 rfl) ?_
    refine va_get (D := (dC, dI)) (ci := 6) (v := .int (nI q.vc)) (C := R_Cs) (T := F_Cs) (N := 8) hx hb hw in_Cs hown hK hP 0 rfl rfl 5 (by decide) (hw (Cond.fieldLink "ClauseSearch" 43 "ClauseSearch" "variableCount" "I") k_260) (fun _ h9 => h9) rfl d_Cs_count_41 ?_
    have hK := hK.sub (tys' := []) [] rfl
    refine W.widen (k := 0) (n := 0) (by decide) (by decide) ?_
    exact W.iret (v := nI q.vc) hx hb hr (fun t ht hW => ⟨⟨nI q.vc, nI q.vc, rfl, rfl, by rw [ht]; exact hP, va_K.moved hW.alike hK, hD⟩, hS.F ht⟩) hS.2.2 d_Cs_count_44
  · refine lv_tableIn (tgt := 45) hx hb d_Cs_count_1 (by decide) (by decide) (off := 44) (by decide) (by decide) ?_
    refine lv_aload_n hx hb d_Cs_count_45 rfl (lv_at hl 0 rfl) ?_
    refine va_get (D := (dC, dI)) (ci := 6) (v := .ref h1) (C := R_Cs) (T := F_Cs) (N := 8) hx hb hw in_Cs hown hK hP 0 rfl rfl 1 (by decide) (hw (Cond.fieldLink "ClauseSearch" 16 "ClauseSearch" "clauses" "LClauseSearch$Rows;") k_256) (fun _ h9 => h9) rfl d_Cs_count_46 ?_
    refine va_getN (D := (dC, dI)) (ci := 2) (v := .int (nI b.n)) (C := R_Rw) (T := F_Rw) (N := 4) hx hb hw in_Rw hown hK hP 1 rfl rfl 3 (by decide) (hw (Cond.fieldLinkNest "ClauseSearch" 68 "ClauseSearch$Rows" "size" "I" "ClauseSearch") k_76) (fun _ h9 => h9) rfl d_Cs_count_49 ?_
    have hK := hK.sub (tys' := []) [] rfl
    refine W.widen (k := 0) (n := 0) (by decide) (by decide) ?_
    exact W.iret (v := nI b.n) hx hb hr (fun t ht hW => ⟨⟨nI b.n, nI b.n, rfl, rfl, by rw [ht]; exact hP, va_K.moved hW.alike hK, hD⟩, hS.F ht⟩) hS.2.2 d_Cs_count_52
  · refine lv_tableIn (tgt := 53) hx hb d_Cs_count_1 (by decide) (by decide) (off := 52) (by decide) (by decide) ?_
    refine lv_aload_n hx hb d_Cs_count_53 rfl (lv_at hl 0 rfl) ?_
    refine va_get (D := (dC, dI)) (ci := 6) (v := .int (nI q.rs)) (C := R_Cs) (T := F_Cs) (N := 8) hx hb hw in_Cs hown hK hP 0 rfl rfl 4 (by decide) (hw (Cond.fieldLink "ClauseSearch" 58 "ClauseSearch" "rowSize" "I") k_259) (fun _ h9 => h9) rfl d_Cs_count_54 ?_
    have hK := hK.sub (tys' := []) [] rfl
    refine W.widen (k := 0) (n := 0) (by decide) (by decide) ?_
    exact W.iret (v := nI q.rs) hx hb hr (fun t ht hW => ⟨⟨nI q.rs, nI q.rs, rfl, rfl, by rw [ht]; exact hP, va_K.moved hW.alike hK, hD⟩, hS.F ht⟩) hS.2.2 d_Cs_count_57
  · refine lv_tableIn (tgt := 58) hx hb d_Cs_count_1 (by decide) (by decide) (off := 57) (by decide) (by decide) ?_
    refine lv_aload_n hx hb d_Cs_count_58 rfl (lv_at hl 0 rfl) ?_
    refine va_get (D := (dC, dI)) (ci := 6) (v := .int q.ws) (C := R_Cs) (T := F_Cs) (N := 8) hx hb hw in_Cs hown hK hP 0 rfl rfl 6 (by decide) (hw (Cond.fieldLink "ClauseSearch" 52 "ClauseSearch" "wayStands" "Z") k_261) (fun _ h9 => h9) rfl d_Cs_count_59 ?_
    refine lv_if_eq (tgt := 69) hx hb d_Cs_count_62 (by decide) (fun c_62 => ?_) (fun c_62 => ?_)
    · refine lv_iconst (v := nI 0) hx hb d_Cs_count_69 (by decide) ?_
      have hK := hK.sub (tys' := []) [] rfl
      refine W.widen (k := 0) (n := 0) (by decide) (by decide) ?_
      exact W.iret (v := nI 0) hx hb hr (fun t ht hW => ⟨⟨nI 0, nI 0, rfl, rfl, by rw [ht]; exact hP, va_K.moved hW.alike hK, hD⟩, hS.F ht⟩) hS.2.2 d_Cs_count_70
    · refine lv_iconst (v := nI 1) hx hb d_Cs_count_65 (by decide) ?_
      refine lv_goto (tgt := 70) hx hb d_Cs_count_66 (by decide) ?_
      have hK := hK.sub (tys' := []) [] rfl
      refine W.widen (k := 0) (n := 0) (by decide) (by decide) ?_
      exact W.iret (v := nI 1) hx hb hr (fun t ht hW => ⟨⟨nI 1, nI 1, rfl, rfl, by rw [ht]; exact hP, va_K.moved hW.alike hK, hD⟩, hS.F ht⟩) hS.2.2 d_Cs_count_70
  · refine lv_tableIn (tgt := 71) hx hb d_Cs_count_1 (by decide) (by decide) (off := 70) (by decide) (by decide) ?_
    refine lv_aload_n hx hb d_Cs_count_71 rfl (lv_at hl 0 rfl) ?_
    refine va_get (D := (dC, dI)) (ci := 6) (v := .ref o0) (C := R_Cs) (T := F_Cs) (N := 8) hx hb hw in_Cs hown hK hP 0 rfl rfl 2 (by decide) (hw (Cond.fieldLink "ClauseSearch" 28 "ClauseSearch" "search" "LClauseSearch$Search;") k_257) (fun _ h9 => h9) rfl d_Cs_count_72 ?_
    refine va_getN (D := (dC, dI)) (ci := 3) (v := .int x.bl) (C := R_Sr) (T := F_Sr) (N := 12) hx hb hw in_Sr hown hK hP 2 rfl rfl 10 (by decide) (hw (Cond.fieldLinkNest "ClauseSearch" 93 "ClauseSearch$Search" "badLessons" "I" "ClauseSearch") k_227) (fun _ h9 => h9) rfl d_Cs_count_75 ?_
    have hK := hK.sub (tys' := []) [] rfl
    refine W.widen (k := 0) (n := 0) (by decide) (by decide) ?_
    exact W.iret (v := x.bl) hx hb hr (fun t ht hW => ⟨⟨x.bl, x.bl, rfl, rfl, by rw [ht]; exact hP, va_K.moved hW.alike hK, hD⟩, hS.F ht⟩) hS.2.2 d_Cs_count_78
  · refine lv_tableIn (tgt := 79) hx hb d_Cs_count_1 (by decide) (by decide) (off := 78) (by decide) (by decide) ?_
    refine lv_aload_n hx hb d_Cs_count_79 rfl (lv_at hl 0 rfl) ?_
    refine va_get (D := (dC, dI)) (ci := 6) (v := .int q.bw) (C := R_Cs) (T := F_Cs) (N := 8) hx hb hw in_Cs hown hK hP 0 rfl rfl 7 (by decide) (hw (Cond.fieldLink "ClauseSearch" 96 "ClauseSearch" "badWays" "I") k_262) (fun _ h9 => h9) rfl d_Cs_count_80 ?_
    have hK := hK.sub (tys' := []) [] rfl
    refine W.widen (k := 0) (n := 0) (by decide) (by decide) ?_
    exact W.iret (v := q.bw) hx hb hr (fun t ht hW => ⟨⟨q.bw, q.bw, rfl, rfl, by rw [ht]; exact hP, va_K.moved hW.alike hK, hD⟩, hS.F ht⟩) hS.2.2 d_Cs_count_83

set_option maxHeartbeats 4000000 in
set_option maxRecDepth 100000 in
/-- the helper of count, answered -/
theorem c_Lw_count (l : Launch) (dC : Nat → ClassId) (dI : Nat → Nat → Nat) (b0 : Nat) (r0 : Nat) (h1 : Nat) (o0 : Nat) (m1 : Nat) (h0 : Nat) (t0 : Nat) (w0 : Nat) (s0 : Nat) (k0 : Nat) (p0 : Nat) (f0 : Nat) (f1 : Nat) (g3 : Nat) (g4 : Nat) (g5 : Nat) (o9 : Nat) (cl : ClassId) (sz : Nat) (q : Mx) (fo : Nat → Int64) (b : Rx) (x : Sx) (pw : Int32) (hc1 : ¬ pw.toInt < 0) (hc2 : ¬ 5 < pw.toInt) : Met l y_Lw_count (wh y_Lw_count method_7_code 4 (some .int) [(0, 9, 12, 13)]) ({ frames := 1, cells := 0, slots := 0, locals := 21 }) (va_Pc [.ref b0, .int pw, .ref o9] (fun U => U.heap.size = sz ∧ va_P (dC, dI) vwCl [(b0, .inr (6, [.ref r0, .ref h1, .ref o0, .ref m1, .int (nI q.rs), .int (nI q.vc), .int q.ws, .int q.bw])), (h1, .inr (2, [.ref g3, .ref g4, .ref g5, .int (nI b.n)])), (o0, .inr (3, [.ref h0, .ref t0, .ref w0, .ref s0, .ref k0, .ref p0, .ref f0, .ref f1, .int (nI x.fc), .int (nI x.lc), .int x.bl, .int x.hp])), (o9, .inl (cl, 1, .inr (.inl fo)))] U.heap ∧ va_K (dC, dI) vwCl [(cl, .long)] U ∧ va_D (fun _ => True) [(b0, .inr (6, [.ref r0, .ref h1, .ref o0, .ref m1, .int (nI q.rs), .int (nI q.vc), .int q.ws, .int q.bw])), (h1, .inr (2, [.ref g3, .ref g4, .ref g5, .int (nI b.n)])), (o0, .inr (3, [.ref h0, .ref t0, .ref w0, .ref s0, .ref k0, .ref p0, .ref f0, .ref f1, .int (nI x.fc), .int (nI x.lc), .int x.bl, .int x.hp])), (o9, .inl (cl, 1, .inr (.inl fo)))])) (va_Qi (fun (r : Int32) (r9 : Int32) => r = r9) (fun (r9 : Int32) t => ∃ (f8 : Nat → Int64), r9 = 0 ∧ va_P (dC, dI) vwCl [(b0, .inr (6, [.ref r0, .ref h1, .ref o0, .ref m1, .int (nI q.rs), .int (nI q.vc), .int q.ws, .int q.bw])), (h1, .inr (2, [.ref g3, .ref g4, .ref g5, .int (nI b.n)])), (o0, .inr (3, [.ref h0, .ref t0, .ref w0, .ref s0, .ref k0, .ref p0, .ref f0, .ref f1, .int (nI x.fc), .int (nI x.lc), .int x.bl, .int x.hp])), (o9, .inl (cl, 1, .inr (.inl f8)))] t.heap ∧ va_K (dC, dI) vwCl [(cl, .long)] t ∧ va_D (va_A [(b0, .inr (6, [.ref r0, .ref h1, .ref o0, .ref m1, .int (nI q.rs), .int (nI q.vc), .int q.ws, .int q.bw])), (h1, .inr (2, [.ref g3, .ref g4, .ref g5, .int (nI b.n)])), (o0, .inr (3, [.ref h0, .ref t0, .ref w0, .ref s0, .ref k0, .ref p0, .ref f0, .ref f1, .int (nI x.fc), .int (nI x.lc), .int x.bl, .int x.hp])), (o9, .inl (cl, 1, .inr (.inl fo)))] sz) [(b0, .inr (6, [.ref r0, .ref h1, .ref o0, .ref m1, .int (nI q.rs), .int (nI q.vc), .int q.ws, .int q.bw])), (h1, .inr (2, [.ref g3, .ref g4, .ref g5, .int (nI b.n)])), (o0, .inr (3, [.ref h0, .ref t0, .ref w0, .ref s0, .ref k0, .ref p0, .ref f0, .ref f1, .int (nI x.fc), .int (nI x.lc), .int x.bl, .int x.hp])), (o9, .inl (cl, 1, .inr (.inl f8)))]) (va_A [(b0, .inr (6, [.ref r0, .ref h1, .ref o0, .ref m1, .int (nI q.rs), .int (nI q.vc), .int q.ws, .int q.bw])), (h1, .inr (2, [.ref g3, .ref g4, .ref g5, .int (nI b.n)])), (o0, .inr (3, [.ref h0, .ref t0, .ref w0, .ref s0, .ref k0, .ref p0, .ref f0, .ref f1, .int (nI x.fc), .int (nI x.lc), .int x.bl, .int x.hp])), (o9, .inl (cl, 1, .inr (.inl fo)))] sz)) (0) (0) (va_A [(b0, .inr (6, [.ref r0, .ref h1, .ref o0, .ref m1, .int (nI q.rs), .int (nI q.vc), .int q.ws, .int q.bw])), (h1, .inr (2, [.ref g3, .ref g4, .ref g5, .int (nI b.n)])), (o0, .inr (3, [.ref h0, .ref t0, .ref w0, .ref s0, .ref k0, .ref p0, .ref f0, .ref f1, .int (nI x.fc), .int (nI x.lc), .int x.bl, .int x.hp])), (o9, .inl (cl, 1, .inr (.inl fo)))] sz) := by
  refine va_MetW (hh := [(0, 9, 12, 13)]) (cc := method_7_code) (maxL := 4) (ret := (some .int)) (by decide) rfl ?_
  intro p e s m args below meth c s₁ B hml hv
  obtain ⟨rfl, hsz, hP, hK, hD0⟩ := hv
  have hx := B.exec
  have hb := B.bytes
  have hr := B.returns
  have hw : ∀ w ∈ bg_W, w.before #[Value.ref b0, Value.int pw, Value.ref o9] s = true := fun w h => atoms_spec (ws := (wh y_Lw_count method_7_code 4 (some .int) [(0, 9, 12, 13)])) B.pre w (List.mem_cons_of_mem _ h)
  have hown : s.vm.findClass R_Lw = some m.cls := findClass_of_methodNamed B.named
  have hlocks := B.notSynchronized
  subst hsz
  have hD := hD0.self (sz := s.heap.size)
  generalize hAe : va_A [(b0, .inr (6, [.ref r0, .ref h1, .ref o0, .ref m1, .int (nI q.rs), .int (nI q.vc), .int q.ws, .int q.bw])), (h1, .inr (2, [.ref g3, .ref g4, .ref g5, .int (nI b.n)])), (o0, .inr (3, [.ref h0, .ref t0, .ref w0, .ref s0, .ref k0, .ref p0, .ref f0, .ref f1, .int (nI x.fc), .int (nI x.lc), .int x.bl, .int x.hp])), (o9, .inl (cl, 1, .inr (.inl fo)))] s.heap.size = A at hD ⊢
  have hA : ∀ q : Nat, s.heap.size ≤ q → A q := fun q h => by rw [← hAe]; exact Or.inr h
  have hS : va_S A s.heap s.heap [] := va_S.rf
  have hP : va_P (dC, dI) vwCl [(b0, .inr (6, [.ref r0, .ref h1, .ref o0, .ref m1, .int (nI q.rs), .int (nI q.vc), .int q.ws, .int q.bw])), (h1, .inr (2, [.ref g3, .ref g4, .ref g5, .int (nI b.n)])), (o0, .inr (3, [.ref h0, .ref t0, .ref w0, .ref s0, .ref k0, .ref p0, .ref f0, .ref f1, .int (nI x.fc), .int (nI x.lc), .int x.bl, .int x.hp])), (o9, .inl (cl, 1, .inr (.inl fo)))] s.heap := hP
  have hl := lv_entry ([.ref b0, .int pw, .ref o9]) (n := 4) (Nat.le_of_ble_eq_true rfl)
  rw [lg_entry_eq]
  generalize (lg_sl ([.ref b0, .int pw, .ref o9]) ++ List.replicate (4 - (lg_sl ([.ref b0, .int pw, .ref o9])).length) Slot.unset).toArray = ls at hl ⊢
  have hl : lv_has ls 4 [(0, .ref b0), (1, .int pw), (2, .ref o9)] := hl
  obtain ⟨H, hH⟩ : ∃ H : Heap, H = s.heap := ⟨_, rfl⟩
  rw [← hH] at hP
  have hS : va_S A s.heap H [] := by rw [hH]; exact va_S.rf
  show W p l e _ s m _ below meth c s.heap [] 0 0 _ _
  rw [← hH]
  refine lv_aload_n hx hb d_Lw_count_0 rfl (lv_at hl 2 rfl) ?_
  refine lv_iconst (v := 0) hx hb d_Lw_count_1 (by decide) ?_
  refine lv_aload_n hx hb d_Lw_count_2 rfl (lv_at hl 0 rfl) ?_
  refine lv_iload_n hx hb d_Lw_count_3 rfl (lv_at hl 1 rfl) ?_
  have hPc := hP.sub (ws' := [(b0, .inr (6, [.ref r0, .ref h1, .ref o0, .ref m1, .int (nI q.rs), .int (nI q.vc), .int q.ws, .int q.bw])), (h1, .inr (2, [.ref g3, .ref g4, .ref g5, .int (nI b.n)])), (o0, .inr (3, [.ref h0, .ref t0, .ref w0, .ref s0, .ref k0, .ref p0, .ref f0, .ref f1, .int (nI x.fc), .int (nI x.lc), .int x.bl, .int x.hp]))]) [0, 1, 2] rfl
  have hDc := hD.sub (ws' := [(b0, .inr (6, [.ref r0, .ref h1, .ref o0, .ref m1, .int (nI q.rs), .int (nI q.vc), .int q.ws, .int q.bw])), (h1, .inr (2, [.ref g3, .ref g4, .ref g5, .int (nI b.n)])), (o0, .inr (3, [.ref h0, .ref t0, .ref w0, .ref s0, .ref k0, .ref p0, .ref f0, .ref f1, .int (nI x.fc), .int (nI x.lc), .int x.bl, .int x.hp]))]) [0, 1, 2] (by decide) rfl
  have hKc := hK.sub (tys' := []) [] rfl
  have hFc := va_free (wc := [(b0, .inr (6, [.ref r0, .ref h1, .ref o0, .ref m1, .int (nI q.rs), .int (nI q.vc), .int q.ws, .int q.bw])), (h1, .inr (2, [.ref g3, .ref g4, .ref g5, .int (nI b.n)])), (o0, .inr (3, [.ref h0, .ref t0, .ref w0, .ref s0, .ref k0, .ref p0, .ref f0, .ref f1, .int (nI x.fc), .int (nI x.lc), .int x.bl, .int x.hp]))]) hD hS hA [0, 1, 2] rfl
  refine va_calli (va_runV (As := [.int pw]) (rest := [.int 0, .ref o9]) ⟨hx, hb, hml, hown, hw⟩ (c_Cs_count l dC dI b0 r0 h1 o0 m1 h0 t0 w0 s0 k0 p0 f0 f1 g3 g4 g5 H.size q b x pw hc1 hc2) (cb_V (C := R_Cs) 1 hw k_595 k_29 k_592 k_593 k_594 rfl rfl (by decide +kernel) ⟨Nat.le_of_ble_eq_true rfl, Nat.le_of_ble_eq_true rfl⟩) ⟨fun a U g mk q => by obtain ⟨q0, q1, qP, qK, qD⟩ := q; exact ⟨q0, q1, qP, va_K.moved (u := U) (U := U.calling g mk a) (Vm.Alike.refl U.vm) qK, qD⟩, va_recv hKc hPc (ci := 6) (q0 := 0) rfl rfl, fun U hU hW => ⟨rfl, by rw [hU], by rw [hU]; exact hPc, va_K.moved hW.alike hKc, hDc.weaken (fun _ _ _ _ => trivial)⟩⟩ rfl rfl hl.1 rfl (lv_room (Nat.le_of_ble_eq_true rfl)) d_Lw_count_4 ⟨Nat.le_of_ble_eq_true rfl, Nat.le_of_ble_eq_true rfl⟩) hS (fun q _ h => hFc q h) hFc (fun r_1 u t H1 locs ht hvm hw9 hB hz1 hk1 hS => ?_)
  obtain ⟨hP1, hK1, hD1⟩ := hB
  rw [ht] at hP1
  have hK1 := va_K.moved hvm.symm hK1
  obtain ⟨hP, hD⟩ := va_join (wr := [(o9, .inl (cl, 1, .inr (.inl fo)))]) (w1 := [(b0, .inr (6, [.ref r0, .ref h1, .ref o0, .ref m1, .int (nI q.rs), .int (nI q.vc), .int q.ws, .int q.bw])), (h1, .inr (2, [.ref g3, .ref g4, .ref g5, .int (nI b.n)])), (o0, .inr (3, [.ref h0, .ref t0, .ref w0, .ref s0, .ref k0, .ref p0, .ref f0, .ref f1, .int (nI x.fc), .int (nI x.lc), .int x.bl, .int x.hp]))]) hP hD [0, 1, 2] [3] rfl rfl (by decide) (by decide) hk1 hFc hP1 hD1
  generalize H1 = H at hP hS ⊢
  have hP : va_P (dC, dI) vwCl [(o9, .inl (cl, 1, .inr (.inl fo))), (b0, .inr (6, [.ref r0, .ref h1, .ref o0, .ref m1, .int (nI q.rs), .int (nI q.vc), .int q.ws, .int q.bw])), (h1, .inr (2, [.ref g3, .ref g4, .ref g5, .int (nI b.n)])), (o0, .inr (3, [.ref h0, .ref t0, .ref w0, .ref s0, .ref k0, .ref p0, .ref f0, .ref f1, .int (nI x.fc), .int (nI x.lc), .int x.bl, .int x.hp]))] H := hP
  have hD : va_D A [(o9, .inl (cl, 1, .inr (.inl fo))), (b0, .inr (6, [.ref r0, .ref h1, .ref o0, .ref m1, .int (nI q.rs), .int (nI q.vc), .int q.ws, .int q.bw])), (h1, .inr (2, [.ref g3, .ref g4, .ref g5, .int (nI b.n)])), (o0, .inr (3, [.ref h0, .ref t0, .ref w0, .ref s0, .ref k0, .ref p0, .ref f0, .ref f1, .int (nI x.fc), .int (nI x.lc), .int x.bl, .int x.hp]))] := hD
  refine W.widen (k := 0) (n := 0) (by decide) (by decide) ?_
  have hw9 : r_1 = u := hw9
  subst hw9
  refine lv_i2l (v := (r_1 : Int32).toInt64) hx hb d_Lw_count_7 rfl ?_
  refine va_last hx hb hK hP hD hS 0 0 rfl rfl (by unfold vp_in; decide) d_Lw_count_8 (fun H locs hP hD hS => ?_)
  have hP : va_P (dC, dI) vwCl [(o9, .inl (cl, 1, .inr (.inl (vp_updL fo ((0 : Int32).toNatClampNeg) (r_1 : Int32).toInt64)))), (b0, .inr (6, [.ref r0, .ref h1, .ref o0, .ref m1, .int (nI q.rs), .int (nI q.vc), .int q.ws, .int q.bw])), (h1, .inr (2, [.ref g3, .ref g4, .ref g5, .int (nI b.n)])), (o0, .inr (3, [.ref h0, .ref t0, .ref w0, .ref s0, .ref k0, .ref p0, .ref f0, .ref f1, .int (nI x.fc), .int (nI x.lc), .int x.bl, .int x.hp]))] H := hP
  have hD : va_D A [(o9, .inl (cl, 1, .inr (.inl (vp_updL fo ((0 : Int32).toNatClampNeg) (r_1 : Int32).toInt64)))), (b0, .inr (6, [.ref r0, .ref h1, .ref o0, .ref m1, .int (nI q.rs), .int (nI q.vc), .int q.ws, .int q.bw])), (h1, .inr (2, [.ref g3, .ref g4, .ref g5, .int (nI b.n)])), (o0, .inr (3, [.ref h0, .ref t0, .ref w0, .ref s0, .ref k0, .ref p0, .ref f0, .ref f1, .int (nI x.fc), .int (nI x.lc), .int x.bl, .int x.hp]))] := hD
  refine lv_goto (tgt := 15) hx hb d_Lw_count_9 (by decide) ?_
  refine lv_iconst (v := 0) hx hb d_Lw_count_15 (by decide) ?_
  have hP := hP.sub (ws' := [(b0, .inr (6, [.ref r0, .ref h1, .ref o0, .ref m1, .int (nI q.rs), .int (nI q.vc), .int q.ws, .int q.bw])), (h1, .inr (2, [.ref g3, .ref g4, .ref g5, .int (nI b.n)])), (o0, .inr (3, [.ref h0, .ref t0, .ref w0, .ref s0, .ref k0, .ref p0, .ref f0, .ref f1, .int (nI x.fc), .int (nI x.lc), .int x.bl, .int x.hp])), (o9, .inl (cl, 1, .inr (.inl (vp_updL fo ((0 : Int32).toNatClampNeg) (r_1 : Int32).toInt64))))]) [1, 2, 3, 0] rfl
  have hD := hD.sub (ws' := [(b0, .inr (6, [.ref r0, .ref h1, .ref o0, .ref m1, .int (nI q.rs), .int (nI q.vc), .int q.ws, .int q.bw])), (h1, .inr (2, [.ref g3, .ref g4, .ref g5, .int (nI b.n)])), (o0, .inr (3, [.ref h0, .ref t0, .ref w0, .ref s0, .ref k0, .ref p0, .ref f0, .ref f1, .int (nI x.fc), .int (nI x.lc), .int x.bl, .int x.hp])), (o9, .inl (cl, 1, .inr (.inl (vp_updL fo ((0 : Int32).toNatClampNeg) (r_1 : Int32).toInt64))))]) [1, 2, 3, 0] (by decide) rfl
  have hK := hK.sub (tys' := [(cl, .long)]) [0] rfl
  refine W.widen (k := 0) (n := 0) (by decide) (by decide) ?_
  exact W.iret (v := 0) hx hb hr (fun t ht hW => ⟨⟨0, 0, rfl, rfl, (vp_updL fo ((0 : Int32).toNatClampNeg) (r_1 : Int32).toInt64), rfl, by rw [ht]; exact hP, va_K.moved hW.alike hK, hD⟩, hS.F ht⟩) hS.2.2 d_Lw_count_16

set_option maxHeartbeats 4000000 in
set_option maxRecDepth 100000 in
/-- value(v), v a variable -/
theorem c_Md_value_v (l : Launch) (dC : Nat → ClassId) (dI : Nat → Nat → Nat) (e0 : Nat) (e1 : Nat) (e2 : Nat) (e3 : Nat) (e4 : Nat) (e5 : Nat) (e6 : Nat) (e7 : Nat) (e8 : Nat) (c5 : ClassId) (sz : Nat) (o : Dx) (n0 : Nat) (hn1 : 1 ≤ n0) (hn2 : n0 ≤ o.vc) (hvc : o.vc ≤ 400) (hsd : o.sd = 0 ∨ o.sd = 1) : Met l y_Md_value (wq y_Md_value prog_9_method_14_code 2 (some .boolean)) ({ frames := 1, cells := 0, slots := 0, locals := 22 }) (va_Pc [.ref e0, .int (nI n0)] (fun U => U.heap.size = sz ∧ va_P (dC, dI) vwCl [(e0, .inr (7, [.ref e1, .ref e2, .ref e3, .ref e4, .ref e5, .int (nI o.vc), .int (nI o.cl), .int (nI o.gv), .int (nI o.na), .int o.sd, .int o.cd, .ref e6, .int (nI o.ln), .ref e7, .ref e8])), (e5, .inl (c5, 401, .inl o.wv))] U.heap ∧ va_K (dC, dI) vwCl [(c5, .int)] U ∧ va_D (fun _ => True) [(e0, .inr (7, [.ref e1, .ref e2, .ref e3, .ref e4, .ref e5, .int (nI o.vc), .int (nI o.cl), .int (nI o.gv), .int (nI o.na), .int o.sd, .int o.cd, .ref e6, .int (nI o.ln), .ref e7, .ref e8])), (e5, .inl (c5, 401, .inl o.wv))])) (va_Qi (fun (r : Int32) (r9 : Int32) => r = r9) (fun (r9 : Int32) t => ∃ (cx : Int32), va_P (dC, dI) vwCl [(e0, .inr (7, [.ref e1, .ref e2, .ref e3, .ref e4, .ref e5, .int (nI o.vc), .int (nI o.cl), .int (nI o.gv), .int (nI o.na), .int o.sd, .int cx, .ref e6, .int (nI o.ln), .ref e7, .ref e8])), (e5, .inl (c5, 401, .inl o.wv))] t.heap ∧ va_K (dC, dI) vwCl [(c5, .int)] t ∧ va_D (va_A [(e0, .inr (7, [.ref e1, .ref e2, .ref e3, .ref e4, .ref e5, .int (nI o.vc), .int (nI o.cl), .int (nI o.gv), .int (nI o.na), .int o.sd, .int o.cd, .ref e6, .int (nI o.ln), .ref e7, .ref e8])), (e5, .inl (c5, 401, .inl o.wv))] sz) [(e0, .inr (7, [.ref e1, .ref e2, .ref e3, .ref e4, .ref e5, .int (nI o.vc), .int (nI o.cl), .int (nI o.gv), .int (nI o.na), .int o.sd, .int cx, .ref e6, .int (nI o.ln), .ref e7, .ref e8])), (e5, .inl (c5, 401, .inl o.wv))]) (va_A [(e0, .inr (7, [.ref e1, .ref e2, .ref e3, .ref e4, .ref e5, .int (nI o.vc), .int (nI o.cl), .int (nI o.gv), .int (nI o.na), .int o.sd, .int o.cd, .ref e6, .int (nI o.ln), .ref e7, .ref e8])), (e5, .inl (c5, 401, .inl o.wv))] sz)) (0) (0) (va_A [(e0, .inr (7, [.ref e1, .ref e2, .ref e3, .ref e4, .ref e5, .int (nI o.vc), .int (nI o.cl), .int (nI o.gv), .int (nI o.na), .int o.sd, .int o.cd, .ref e6, .int (nI o.ln), .ref e7, .ref e8])), (e5, .inl (c5, 401, .inl o.wv))] sz) := by
  refine Met.ofW (cc := prog_9_method_14_code) (maxL := 2) (ret := (some .boolean)) (by decide) rfl ?_
  intro p e s m args below meth c s₁ B hml hv
  obtain ⟨rfl, hsz, hP, hK, hD0⟩ := hv
  have hx := B.exec
  have hb := B.bytes
  have hr := B.returns
  have hw : ∀ w ∈ bg_W, w.before #[Value.ref e0, Value.int (nI n0)] s = true := fun w h => atoms_spec (ws := (wq y_Md_value prog_9_method_14_code 2 (some .boolean))) B.pre w (List.mem_cons_of_mem _ h)
  have hown : s.vm.findClass R_Md = some m.cls := findClass_of_methodNamed B.named
  have hlocks := B.notSynchronized
  subst hsz
  have hD := hD0.self (sz := s.heap.size)
  generalize hAe : va_A [(e0, .inr (7, [.ref e1, .ref e2, .ref e3, .ref e4, .ref e5, .int (nI o.vc), .int (nI o.cl), .int (nI o.gv), .int (nI o.na), .int o.sd, .int o.cd, .ref e6, .int (nI o.ln), .ref e7, .ref e8])), (e5, .inl (c5, 401, .inl o.wv))] s.heap.size = A at hD ⊢
  have hA : ∀ q : Nat, s.heap.size ≤ q → A q := fun q h => by rw [← hAe]; exact Or.inr h
  have hS : va_S A s.heap s.heap [] := va_S.rf
  have hP : va_P (dC, dI) vwCl [(e0, .inr (7, [.ref e1, .ref e2, .ref e3, .ref e4, .ref e5, .int (nI o.vc), .int (nI o.cl), .int (nI o.gv), .int (nI o.na), .int o.sd, .int o.cd, .ref e6, .int (nI o.ln), .ref e7, .ref e8])), (e5, .inl (c5, 401, .inl o.wv))] s.heap := hP
  have hl := lv_entry ([.ref e0, .int (nI n0)]) (n := 2) (Nat.le_of_ble_eq_true rfl)
  rw [lg_entry_eq]
  generalize (lg_sl ([.ref e0, .int (nI n0)]) ++ List.replicate (2 - (lg_sl ([.ref e0, .int (nI n0)])).length) Slot.unset).toArray = ls at hl ⊢
  have hl : lv_has ls 2 [(0, .ref e0), (1, .int (nI n0))] := hl
  obtain ⟨H, hH⟩ : ∃ H : Heap, H = s.heap := ⟨_, rfl⟩
  rw [← hH] at hP
  have hS : va_S A s.heap H [] := by rw [hH]; exact va_S.rf
  show W p l e _ s m _ below meth c s.heap [] 0 0 _ _
  rw [← hH]
  rcases hsd with hsd | hsd
  · rw [hsd] at hP hD
    have hP : va_P (dC, dI) vwCl [(e0, .inr (7, [.ref e1, .ref e2, .ref e3, .ref e4, .ref e5, .int (nI o.vc), .int (nI o.cl), .int (nI o.gv), .int (nI o.na), .int 0, .int o.cd, .ref e6, .int (nI o.ln), .ref e7, .ref e8])), (e5, .inl (c5, 401, .inl o.wv))] H := hP
    have hD : va_D A [(e0, .inr (7, [.ref e1, .ref e2, .ref e3, .ref e4, .ref e5, .int (nI o.vc), .int (nI o.cl), .int (nI o.gv), .int (nI o.na), .int 0, .int o.cd, .ref e6, .int (nI o.ln), .ref e7, .ref e8])), (e5, .inl (c5, 401, .inl o.wv))] := hD
    refine lv_aload_n hx hb d_Md_value_0 rfl (lv_at hl 0 rfl) ?_
    refine lv_iload_n hx hb d_Md_value_1 rfl (lv_at hl 1 rfl) ?_
    refine lv_iconst (v := nI 1) hx hb d_Md_value_2 (by decide) ?_
    refine lv_icmp_lt (tgt := 18) hx hb d_Md_value_3 (by decide) (fun c_3 => by exfalso; have c_3 : n0 < 1 := (nI_ltI (a := n0) (b := 1) (by omega) (by omega)).mp c_3; omega) (fun c_3 => ?_)
    have c_3 : ¬ (n0 < 1) := fun qq9 => c_3 ((nI_ltI (a := n0) (b := 1) (by omega) (by omega)).mpr qq9)
    refine lv_iload_n hx hb d_Md_value_6 rfl (lv_at hl 1 rfl) ?_
    refine lv_aload_n hx hb d_Md_value_7 rfl (lv_at hl 0 rfl) ?_
    refine va_get (D := (dC, dI)) (ci := 7) (v := .int (nI o.vc)) (C := R_Md) (T := F_Md) (N := 15) hx hb hw in_Md hown hK hP 0 rfl rfl 5 (by decide) (hw (Cond.fieldLink "ClauseSearchModel" 43 "ClauseSearchModel" "variables" "I") k_609) (fun _ h9 => h9) rfl d_Md_value_8 ?_
    refine lv_icmp_gt (tgt := 18) hx hb d_Md_value_11 (by decide) (fun c_11 => by exfalso; have c_11 : o.vc < n0 := (nI_ltI (a := o.vc) (b := n0) (by omega) (by omega)).mp c_11; omega) (fun c_11 => ?_)
    have c_11 : ¬ (o.vc < n0) := fun qq9 => c_11 ((nI_ltI (a := o.vc) (b := n0) (by omega) (by omega)).mpr qq9)
    refine lv_iconst (v := 1) hx hb d_Md_value_14 (by decide) ?_
    refine lv_goto (tgt := 19) hx hb d_Md_value_15 (by decide) ?_
    refine lv_iconst (v := 1) hx hb d_Md_value_19 (by decide) ?_
    have hPc := hP.sub (ws' := [(e0, .inr (7, [.ref e1, .ref e2, .ref e3, .ref e4, .ref e5, .int (nI (Dx.of o.lt o.fs o.rw o.am o.wv o.tl o.ch o.mk o.vc o.cl o.gv o.na o.ln 0 o.cd o.X).vc), .int (nI (Dx.of o.lt o.fs o.rw o.am o.wv o.tl o.ch o.mk o.vc o.cl o.gv o.na o.ln 0 o.cd o.X).cl), .int (nI (Dx.of o.lt o.fs o.rw o.am o.wv o.tl o.ch o.mk o.vc o.cl o.gv o.na o.ln 0 o.cd o.X).gv), .int (nI (Dx.of o.lt o.fs o.rw o.am o.wv o.tl o.ch o.mk o.vc o.cl o.gv o.na o.ln 0 o.cd o.X).na), .int (Dx.of o.lt o.fs o.rw o.am o.wv o.tl o.ch o.mk o.vc o.cl o.gv o.na o.ln 0 o.cd o.X).sd, .int (Dx.of o.lt o.fs o.rw o.am o.wv o.tl o.ch o.mk o.vc o.cl o.gv o.na o.ln 0 o.cd o.X).cd, .ref e6, .int (nI (Dx.of o.lt o.fs o.rw o.am o.wv o.tl o.ch o.mk o.vc o.cl o.gv o.na o.ln 0 o.cd o.X).ln), .ref e7, .ref e8]))]) [0] rfl
    have hDc := hD.sub (ws' := [(e0, .inr (7, [.ref e1, .ref e2, .ref e3, .ref e4, .ref e5, .int (nI (Dx.of o.lt o.fs o.rw o.am o.wv o.tl o.ch o.mk o.vc o.cl o.gv o.na o.ln 0 o.cd o.X).vc), .int (nI (Dx.of o.lt o.fs o.rw o.am o.wv o.tl o.ch o.mk o.vc o.cl o.gv o.na o.ln 0 o.cd o.X).cl), .int (nI (Dx.of o.lt o.fs o.rw o.am o.wv o.tl o.ch o.mk o.vc o.cl o.gv o.na o.ln 0 o.cd o.X).gv), .int (nI (Dx.of o.lt o.fs o.rw o.am o.wv o.tl o.ch o.mk o.vc o.cl o.gv o.na o.ln 0 o.cd o.X).na), .int (Dx.of o.lt o.fs o.rw o.am o.wv o.tl o.ch o.mk o.vc o.cl o.gv o.na o.ln 0 o.cd o.X).sd, .int (Dx.of o.lt o.fs o.rw o.am o.wv o.tl o.ch o.mk o.vc o.cl o.gv o.na o.ln 0 o.cd o.X).cd, .ref e6, .int (nI (Dx.of o.lt o.fs o.rw o.am o.wv o.tl o.ch o.mk o.vc o.cl o.gv o.na o.ln 0 o.cd o.X).ln), .ref e7, .ref e8]))]) [0] (by decide) rfl
    have hKc := hK.sub (tys' := []) [] rfl
    have hFc := va_free (wc := [(e0, .inr (7, [.ref e1, .ref e2, .ref e3, .ref e4, .ref e5, .int (nI (Dx.of o.lt o.fs o.rw o.am o.wv o.tl o.ch o.mk o.vc o.cl o.gv o.na o.ln 0 o.cd o.X).vc), .int (nI (Dx.of o.lt o.fs o.rw o.am o.wv o.tl o.ch o.mk o.vc o.cl o.gv o.na o.ln 0 o.cd o.X).cl), .int (nI (Dx.of o.lt o.fs o.rw o.am o.wv o.tl o.ch o.mk o.vc o.cl o.gv o.na o.ln 0 o.cd o.X).gv), .int (nI (Dx.of o.lt o.fs o.rw o.am o.wv o.tl o.ch o.mk o.vc o.cl o.gv o.na o.ln 0 o.cd o.X).na), .int (Dx.of o.lt o.fs o.rw o.am o.wv o.tl o.ch o.mk o.vc o.cl o.gv o.na o.ln 0 o.cd o.X).sd, .int (Dx.of o.lt o.fs o.rw o.am o.wv o.tl o.ch o.mk o.vc o.cl o.gv o.na o.ln 0 o.cd o.X).cd, .ref e6, .int (nI (Dx.of o.lt o.fs o.rw o.am o.wv o.tl o.ch o.mk o.vc o.cl o.gv o.na o.ln 0 o.cd o.X).ln), .ref e7, .ref e8]))]) hD hS hA [0] rfl
    refine va_calli (va_runV (As := [.int 1, .int 1]) (rest := []) ⟨hx, hb, hml, hown, hw⟩ (c_Md_good_1 l dC dI e0 e1 e2 e3 e4 e5 e6 e7 e8 H.size (Dx.of o.lt o.fs o.rw o.am o.wv o.tl o.ch o.mk o.vc o.cl o.gv o.na o.ln 0 o.cd o.X) 1) (cb_V (C := R_Md) 2 hw k_661 k_37 k_658 k_660 k_21 rfl rfl (by decide +kernel) ⟨Nat.le_of_ble_eq_true rfl, Nat.le_of_ble_eq_true rfl⟩) ⟨fun a U g mk q => by obtain ⟨q0, q1, qP, qK, qD⟩ := q; exact ⟨q0, q1, qP, va_K.moved (u := U) (U := U.calling g mk a) (Vm.Alike.refl U.vm) qK, qD⟩, va_recv hKc hPc (ci := 7) (q0 := 0) rfl rfl, fun U hU hW => ⟨rfl, by rw [hU], by rw [hU]; exact hPc, va_K.moved hW.alike hKc, hDc.weaken (fun _ _ _ _ => trivial)⟩⟩ rfl rfl hl.1 rfl (lv_room (Nat.le_of_ble_eq_true rfl)) d_Md_value_20 ⟨Nat.le_of_ble_eq_true rfl, Nat.le_of_ble_eq_true rfl⟩) hS (fun q _ h => hFc q h) hFc (fun r_1 u t H1 locs ht hvm hw9 hB hz1 hk1 hS => ?_)
    obtain ⟨er9, hP1, hK1, hD1⟩ := hB
    rw [ht] at hP1
    have hK1 := va_K.moved hvm.symm hK1
    obtain ⟨hP, hD⟩ := va_join (wr := [(e5, .inl (c5, 401, .inl o.wv))]) (w1 := [(e0, .inr (7, [.ref e1, .ref e2, .ref e3, .ref e4, .ref e5, .int (nI (Dx.of o.lt o.fs o.rw o.am o.wv o.tl o.ch o.mk o.vc o.cl o.gv o.na o.ln 0 o.cd o.X).vc), .int (nI (Dx.of o.lt o.fs o.rw o.am o.wv o.tl o.ch o.mk o.vc o.cl o.gv o.na o.ln 0 o.cd o.X).cl), .int (nI (Dx.of o.lt o.fs o.rw o.am o.wv o.tl o.ch o.mk o.vc o.cl o.gv o.na o.ln 0 o.cd o.X).gv), .int (nI (Dx.of o.lt o.fs o.rw o.am o.wv o.tl o.ch o.mk o.vc o.cl o.gv o.na o.ln 0 o.cd o.X).na), .int (Dx.of o.lt o.fs o.rw o.am o.wv o.tl o.ch o.mk o.vc o.cl o.gv o.na o.ln 0 o.cd o.X).sd, .int 0, .ref e6, .int (nI (Dx.of o.lt o.fs o.rw o.am o.wv o.tl o.ch o.mk o.vc o.cl o.gv o.na o.ln 0 o.cd o.X).ln), .ref e7, .ref e8]))]) hP hD [0] [1] rfl rfl (by decide) (by decide) hk1 hFc hP1 hD1
    generalize H1 = H at hP hS ⊢
    have hP : va_P (dC, dI) vwCl [(e5, .inl (c5, 401, .inl o.wv)), (e0, .inr (7, [.ref e1, .ref e2, .ref e3, .ref e4, .ref e5, .int (nI (Dx.of o.lt o.fs o.rw o.am o.wv o.tl o.ch o.mk o.vc o.cl o.gv o.na o.ln 0 o.cd o.X).vc), .int (nI (Dx.of o.lt o.fs o.rw o.am o.wv o.tl o.ch o.mk o.vc o.cl o.gv o.na o.ln 0 o.cd o.X).cl), .int (nI (Dx.of o.lt o.fs o.rw o.am o.wv o.tl o.ch o.mk o.vc o.cl o.gv o.na o.ln 0 o.cd o.X).gv), .int (nI (Dx.of o.lt o.fs o.rw o.am o.wv o.tl o.ch o.mk o.vc o.cl o.gv o.na o.ln 0 o.cd o.X).na), .int (Dx.of o.lt o.fs o.rw o.am o.wv o.tl o.ch o.mk o.vc o.cl o.gv o.na o.ln 0 o.cd o.X).sd, .int 0, .ref e6, .int (nI (Dx.of o.lt o.fs o.rw o.am o.wv o.tl o.ch o.mk o.vc o.cl o.gv o.na o.ln 0 o.cd o.X).ln), .ref e7, .ref e8]))] H := hP
    have hD : va_D A [(e5, .inl (c5, 401, .inl o.wv)), (e0, .inr (7, [.ref e1, .ref e2, .ref e3, .ref e4, .ref e5, .int (nI (Dx.of o.lt o.fs o.rw o.am o.wv o.tl o.ch o.mk o.vc o.cl o.gv o.na o.ln 0 o.cd o.X).vc), .int (nI (Dx.of o.lt o.fs o.rw o.am o.wv o.tl o.ch o.mk o.vc o.cl o.gv o.na o.ln 0 o.cd o.X).cl), .int (nI (Dx.of o.lt o.fs o.rw o.am o.wv o.tl o.ch o.mk o.vc o.cl o.gv o.na o.ln 0 o.cd o.X).gv), .int (nI (Dx.of o.lt o.fs o.rw o.am o.wv o.tl o.ch o.mk o.vc o.cl o.gv o.na o.ln 0 o.cd o.X).na), .int (Dx.of o.lt o.fs o.rw o.am o.wv o.tl o.ch o.mk o.vc o.cl o.gv o.na o.ln 0 o.cd o.X).sd, .int 0, .ref e6, .int (nI (Dx.of o.lt o.fs o.rw o.am o.wv o.tl o.ch o.mk o.vc o.cl o.gv o.na o.ln 0 o.cd o.X).ln), .ref e7, .ref e8]))] := hD
    refine W.widen (k := 0) (n := 0) (by decide) (by decide) ?_
    have hw9 : r_1 = 1 := hw9.trans er9
    subst hw9
    have hP : va_P (dC, dI) vwCl [(e5, .inl (c5, 401, .inl o.wv)), (e0, .inr (7, [.ref e1, .ref e2, .ref e3, .ref e4, .ref e5, .int (nI o.vc), .int (nI o.cl), .int (nI o.gv), .int (nI o.na), .int 0, .int 0, .ref e6, .int (nI o.ln), .ref e7, .ref e8]))] H := hP
    have hD : va_D A [(e5, .inl (c5, 401, .inl o.wv)), (e0, .inr (7, [.ref e1, .ref e2, .ref e3, .ref e4, .ref e5, .int (nI o.vc), .int (nI o.cl), .int (nI o.gv), .int (nI o.na), .int 0, .int 0, .ref e6, .int (nI o.ln), .ref e7, .ref e8]))] := hD
    refine lv_if_eq (tgt := 38) hx hb d_Md_value_23 (by decide) (fun c_23 => absurd c_23 (by decide)) (fun c_23 => ?_)
    refine lv_aload_n hx hb d_Md_value_26 rfl (lv_at hl 0 rfl) ?_
    refine lv_aload_n hx hb d_Md_value_27 rfl (lv_at hl 0 rfl) ?_
    refine va_get (D := (dC, dI)) (ci := 7) (v := .int 0) (C := R_Md) (T := F_Md) (N := 15) hx hb hw in_Md hown hK hP 1 rfl rfl 9 (by decide) (hw (Cond.fieldLink "ClauseSearchModel" 46 "ClauseSearchModel" "stands" "Z") k_613) (fun _ h9 => h9) rfl d_Md_value_28 ?_
    refine lv_iconst (v := 2) hx hb d_Md_value_31 (by decide) ?_
    have hPc := hP.sub (ws' := [(e0, .inr (7, [.ref e1, .ref e2, .ref e3, .ref e4, .ref e5, .int (nI (Dx.of o.lt o.fs o.rw o.am o.wv o.tl o.ch o.mk o.vc o.cl o.gv o.na o.ln 0 0 o.X).vc), .int (nI (Dx.of o.lt o.fs o.rw o.am o.wv o.tl o.ch o.mk o.vc o.cl o.gv o.na o.ln 0 0 o.X).cl), .int (nI (Dx.of o.lt o.fs o.rw o.am o.wv o.tl o.ch o.mk o.vc o.cl o.gv o.na o.ln 0 0 o.X).gv), .int (nI (Dx.of o.lt o.fs o.rw o.am o.wv o.tl o.ch o.mk o.vc o.cl o.gv o.na o.ln 0 0 o.X).na), .int (Dx.of o.lt o.fs o.rw o.am o.wv o.tl o.ch o.mk o.vc o.cl o.gv o.na o.ln 0 0 o.X).sd, .int (Dx.of o.lt o.fs o.rw o.am o.wv o.tl o.ch o.mk o.vc o.cl o.gv o.na o.ln 0 0 o.X).cd, .ref e6, .int (nI (Dx.of o.lt o.fs o.rw o.am o.wv o.tl o.ch o.mk o.vc o.cl o.gv o.na o.ln 0 0 o.X).ln), .ref e7, .ref e8]))]) [1] rfl
    have hDc := hD.sub (ws' := [(e0, .inr (7, [.ref e1, .ref e2, .ref e3, .ref e4, .ref e5, .int (nI (Dx.of o.lt o.fs o.rw o.am o.wv o.tl o.ch o.mk o.vc o.cl o.gv o.na o.ln 0 0 o.X).vc), .int (nI (Dx.of o.lt o.fs o.rw o.am o.wv o.tl o.ch o.mk o.vc o.cl o.gv o.na o.ln 0 0 o.X).cl), .int (nI (Dx.of o.lt o.fs o.rw o.am o.wv o.tl o.ch o.mk o.vc o.cl o.gv o.na o.ln 0 0 o.X).gv), .int (nI (Dx.of o.lt o.fs o.rw o.am o.wv o.tl o.ch o.mk o.vc o.cl o.gv o.na o.ln 0 0 o.X).na), .int (Dx.of o.lt o.fs o.rw o.am o.wv o.tl o.ch o.mk o.vc o.cl o.gv o.na o.ln 0 0 o.X).sd, .int (Dx.of o.lt o.fs o.rw o.am o.wv o.tl o.ch o.mk o.vc o.cl o.gv o.na o.ln 0 0 o.X).cd, .ref e6, .int (nI (Dx.of o.lt o.fs o.rw o.am o.wv o.tl o.ch o.mk o.vc o.cl o.gv o.na o.ln 0 0 o.X).ln), .ref e7, .ref e8]))]) [1] (by decide) rfl
    have hKc := hK.sub (tys' := []) [] rfl
    have hFc := va_free (wc := [(e0, .inr (7, [.ref e1, .ref e2, .ref e3, .ref e4, .ref e5, .int (nI (Dx.of o.lt o.fs o.rw o.am o.wv o.tl o.ch o.mk o.vc o.cl o.gv o.na o.ln 0 0 o.X).vc), .int (nI (Dx.of o.lt o.fs o.rw o.am o.wv o.tl o.ch o.mk o.vc o.cl o.gv o.na o.ln 0 0 o.X).cl), .int (nI (Dx.of o.lt o.fs o.rw o.am o.wv o.tl o.ch o.mk o.vc o.cl o.gv o.na o.ln 0 0 o.X).gv), .int (nI (Dx.of o.lt o.fs o.rw o.am o.wv o.tl o.ch o.mk o.vc o.cl o.gv o.na o.ln 0 0 o.X).na), .int (Dx.of o.lt o.fs o.rw o.am o.wv o.tl o.ch o.mk o.vc o.cl o.gv o.na o.ln 0 0 o.X).sd, .int (Dx.of o.lt o.fs o.rw o.am o.wv o.tl o.ch o.mk o.vc o.cl o.gv o.na o.ln 0 0 o.X).cd, .ref e6, .int (nI (Dx.of o.lt o.fs o.rw o.am o.wv o.tl o.ch o.mk o.vc o.cl o.gv o.na o.ln 0 0 o.X).ln), .ref e7, .ref e8]))]) hD hS hA [1] rfl
    refine va_calli (va_runV (As := [.int 0, .int 2]) (rest := []) ⟨hx, hb, hml, hown, hw⟩ (c_Md_good_0 l dC dI e0 e1 e2 e3 e4 e5 e6 e7 e8 H.size (Dx.of o.lt o.fs o.rw o.am o.wv o.tl o.ch o.mk o.vc o.cl o.gv o.na o.ln 0 0 o.X) 2) (cb_V (C := R_Md) 2 hw k_661 k_37 k_658 k_660 k_21 rfl rfl (by decide +kernel) ⟨Nat.le_of_ble_eq_true rfl, Nat.le_of_ble_eq_true rfl⟩) ⟨fun a U g mk q => by obtain ⟨q0, q1, qP, qK, qD⟩ := q; exact ⟨q0, q1, qP, va_K.moved (u := U) (U := U.calling g mk a) (Vm.Alike.refl U.vm) qK, qD⟩, va_recv hKc hPc (ci := 7) (q0 := 0) rfl rfl, fun U hU hW => ⟨rfl, by rw [hU], by rw [hU]; exact hPc, va_K.moved hW.alike hKc, hDc.weaken (fun _ _ _ _ => trivial)⟩⟩ rfl rfl hl.1 rfl (lv_room (Nat.le_of_ble_eq_true rfl)) d_Md_value_32 ⟨Nat.le_of_ble_eq_true rfl, Nat.le_of_ble_eq_true rfl⟩) hS (fun q _ h => hFc q h) hFc (fun r_2 u t H1 locs ht hvm hw9 hB hz1 hk1 hS => ?_)
    obtain ⟨er9, hP1, hK1, hD1⟩ := hB
    rw [ht] at hP1
    have hK1 := va_K.moved hvm.symm hK1
    obtain ⟨hP, hD⟩ := va_join (wr := [(e5, .inl (c5, 401, .inl o.wv))]) (w1 := [(e0, .inr (7, [.ref e1, .ref e2, .ref e3, .ref e4, .ref e5, .int (nI (Dx.of o.lt o.fs o.rw o.am o.wv o.tl o.ch o.mk o.vc o.cl o.gv o.na o.ln 0 0 o.X).vc), .int (nI (Dx.of o.lt o.fs o.rw o.am o.wv o.tl o.ch o.mk o.vc o.cl o.gv o.na o.ln 0 0 o.X).cl), .int (nI (Dx.of o.lt o.fs o.rw o.am o.wv o.tl o.ch o.mk o.vc o.cl o.gv o.na o.ln 0 0 o.X).gv), .int (nI (Dx.of o.lt o.fs o.rw o.am o.wv o.tl o.ch o.mk o.vc o.cl o.gv o.na o.ln 0 0 o.X).na), .int (Dx.of o.lt o.fs o.rw o.am o.wv o.tl o.ch o.mk o.vc o.cl o.gv o.na o.ln 0 0 o.X).sd, .int 2, .ref e6, .int (nI (Dx.of o.lt o.fs o.rw o.am o.wv o.tl o.ch o.mk o.vc o.cl o.gv o.na o.ln 0 0 o.X).ln), .ref e7, .ref e8]))]) hP hD [1] [0] rfl rfl (by decide) (by decide) hk1 hFc hP1 hD1
    generalize H1 = H at hP hS ⊢
    have hP : va_P (dC, dI) vwCl [(e5, .inl (c5, 401, .inl o.wv)), (e0, .inr (7, [.ref e1, .ref e2, .ref e3, .ref e4, .ref e5, .int (nI (Dx.of o.lt o.fs o.rw o.am o.wv o.tl o.ch o.mk o.vc o.cl o.gv o.na o.ln 0 0 o.X).vc), .int (nI (Dx.of o.lt o.fs o.rw o.am o.wv o.tl o.ch o.mk o.vc o.cl o.gv o.na o.ln 0 0 o.X).cl), .int (nI (Dx.of o.lt o.fs o.rw o.am o.wv o.tl o.ch o.mk o.vc o.cl o.gv o.na o.ln 0 0 o.X).gv), .int (nI (Dx.of o.lt o.fs o.rw o.am o.wv o.tl o.ch o.mk o.vc o.cl o.gv o.na o.ln 0 0 o.X).na), .int (Dx.of o.lt o.fs o.rw o.am o.wv o.tl o.ch o.mk o.vc o.cl o.gv o.na o.ln 0 0 o.X).sd, .int 2, .ref e6, .int (nI (Dx.of o.lt o.fs o.rw o.am o.wv o.tl o.ch o.mk o.vc o.cl o.gv o.na o.ln 0 0 o.X).ln), .ref e7, .ref e8]))] H := hP
    have hD : va_D A [(e5, .inl (c5, 401, .inl o.wv)), (e0, .inr (7, [.ref e1, .ref e2, .ref e3, .ref e4, .ref e5, .int (nI (Dx.of o.lt o.fs o.rw o.am o.wv o.tl o.ch o.mk o.vc o.cl o.gv o.na o.ln 0 0 o.X).vc), .int (nI (Dx.of o.lt o.fs o.rw o.am o.wv o.tl o.ch o.mk o.vc o.cl o.gv o.na o.ln 0 0 o.X).cl), .int (nI (Dx.of o.lt o.fs o.rw o.am o.wv o.tl o.ch o.mk o.vc o.cl o.gv o.na o.ln 0 0 o.X).gv), .int (nI (Dx.of o.lt o.fs o.rw o.am o.wv o.tl o.ch o.mk o.vc o.cl o.gv o.na o.ln 0 0 o.X).na), .int (Dx.of o.lt o.fs o.rw o.am o.wv o.tl o.ch o.mk o.vc o.cl o.gv o.na o.ln 0 0 o.X).sd, .int 2, .ref e6, .int (nI (Dx.of o.lt o.fs o.rw o.am o.wv o.tl o.ch o.mk o.vc o.cl o.gv o.na o.ln 0 0 o.X).ln), .ref e7, .ref e8]))] := hD
    refine W.widen (k := 0) (n := 0) (by decide) (by decide) ?_
    have hw9 : r_2 = 0 := hw9.trans er9
    subst hw9
    have hP : va_P (dC, dI) vwCl [(e5, .inl (c5, 401, .inl o.wv)), (e0, .inr (7, [.ref e1, .ref e2, .ref e3, .ref e4, .ref e5, .int (nI o.vc), .int (nI o.cl), .int (nI o.gv), .int (nI o.na), .int 0, .int 2, .ref e6, .int (nI o.ln), .ref e7, .ref e8]))] H := hP
    have hD : va_D A [(e5, .inl (c5, 401, .inl o.wv)), (e0, .inr (7, [.ref e1, .ref e2, .ref e3, .ref e4, .ref e5, .int (nI o.vc), .int (nI o.cl), .int (nI o.gv), .int (nI o.na), .int 0, .int 2, .ref e6, .int (nI o.ln), .ref e7, .ref e8]))] := hD
    refine lv_if_ne (tgt := 40) hx hb d_Md_value_35 (by decide) (fun c_35 => absurd c_35 (by decide)) (fun c_35 => ?_)
    refine lv_iconst (v := 0) hx hb d_Md_value_38 (by decide) ?_
    have hP : va_P (dC, dI) vwCl [(e5, .inl (c5, 401, .inl o.wv)), (e0, .inr (7, [.ref e1, .ref e2, .ref e3, .ref e4, .ref e5, .int (nI o.vc), .int (nI o.cl), .int (nI o.gv), .int (nI o.na), .int o.sd, .int 2, .ref e6, .int (nI o.ln), .ref e7, .ref e8]))] H := by rw [hsd]; exact hP
    have hD : va_D A [(e5, .inl (c5, 401, .inl o.wv)), (e0, .inr (7, [.ref e1, .ref e2, .ref e3, .ref e4, .ref e5, .int (nI o.vc), .int (nI o.cl), .int (nI o.gv), .int (nI o.na), .int o.sd, .int 2, .ref e6, .int (nI o.ln), .ref e7, .ref e8]))] := by rw [hsd]; exact hD
    have hP := hP.sub (ws' := [(e0, .inr (7, [.ref e1, .ref e2, .ref e3, .ref e4, .ref e5, .int (nI o.vc), .int (nI o.cl), .int (nI o.gv), .int (nI o.na), .int o.sd, .int 2, .ref e6, .int (nI o.ln), .ref e7, .ref e8])), (e5, .inl (c5, 401, .inl o.wv))]) [1, 0] rfl
    have hD := hD.sub (ws' := [(e0, .inr (7, [.ref e1, .ref e2, .ref e3, .ref e4, .ref e5, .int (nI o.vc), .int (nI o.cl), .int (nI o.gv), .int (nI o.na), .int o.sd, .int 2, .ref e6, .int (nI o.ln), .ref e7, .ref e8])), (e5, .inl (c5, 401, .inl o.wv))]) [1, 0] (by decide) rfl
    have hK := hK.sub (tys' := [(c5, .int)]) [0] rfl
    refine W.widen (k := 0) (n := 0) (by decide) (by decide) ?_
    exact W.zret (v := 0) hx hb hr rfl (fun t ht hW => ⟨⟨0, 0, rfl, rfl, 2, by rw [ht]; exact hP, va_K.moved hW.alike hK, hD⟩, hS.F ht⟩) hS.2.2 d_Md_value_39
  · rw [hsd] at hP hD
    have hP : va_P (dC, dI) vwCl [(e0, .inr (7, [.ref e1, .ref e2, .ref e3, .ref e4, .ref e5, .int (nI o.vc), .int (nI o.cl), .int (nI o.gv), .int (nI o.na), .int 1, .int o.cd, .ref e6, .int (nI o.ln), .ref e7, .ref e8])), (e5, .inl (c5, 401, .inl o.wv))] H := hP
    have hD : va_D A [(e0, .inr (7, [.ref e1, .ref e2, .ref e3, .ref e4, .ref e5, .int (nI o.vc), .int (nI o.cl), .int (nI o.gv), .int (nI o.na), .int 1, .int o.cd, .ref e6, .int (nI o.ln), .ref e7, .ref e8])), (e5, .inl (c5, 401, .inl o.wv))] := hD
    refine lv_aload_n hx hb d_Md_value_0 rfl (lv_at hl 0 rfl) ?_
    refine lv_iload_n hx hb d_Md_value_1 rfl (lv_at hl 1 rfl) ?_
    refine lv_iconst (v := nI 1) hx hb d_Md_value_2 (by decide) ?_
    refine lv_icmp_lt (tgt := 18) hx hb d_Md_value_3 (by decide) (fun c_3 => by exfalso; have c_3 : n0 < 1 := (nI_ltI (a := n0) (b := 1) (by omega) (by omega)).mp c_3; omega) (fun c_3 => ?_)
    have c_3 : ¬ (n0 < 1) := fun qq9 => c_3 ((nI_ltI (a := n0) (b := 1) (by omega) (by omega)).mpr qq9)
    refine lv_iload_n hx hb d_Md_value_6 rfl (lv_at hl 1 rfl) ?_
    refine lv_aload_n hx hb d_Md_value_7 rfl (lv_at hl 0 rfl) ?_
    refine va_get (D := (dC, dI)) (ci := 7) (v := .int (nI o.vc)) (C := R_Md) (T := F_Md) (N := 15) hx hb hw in_Md hown hK hP 0 rfl rfl 5 (by decide) (hw (Cond.fieldLink "ClauseSearchModel" 43 "ClauseSearchModel" "variables" "I") k_609) (fun _ h9 => h9) rfl d_Md_value_8 ?_
    refine lv_icmp_gt (tgt := 18) hx hb d_Md_value_11 (by decide) (fun c_11 => by exfalso; have c_11 : o.vc < n0 := (nI_ltI (a := o.vc) (b := n0) (by omega) (by omega)).mp c_11; omega) (fun c_11 => ?_)
    have c_11 : ¬ (o.vc < n0) := fun qq9 => c_11 ((nI_ltI (a := o.vc) (b := n0) (by omega) (by omega)).mpr qq9)
    refine lv_iconst (v := 1) hx hb d_Md_value_14 (by decide) ?_
    refine lv_goto (tgt := 19) hx hb d_Md_value_15 (by decide) ?_
    refine lv_iconst (v := 1) hx hb d_Md_value_19 (by decide) ?_
    have hPc := hP.sub (ws' := [(e0, .inr (7, [.ref e1, .ref e2, .ref e3, .ref e4, .ref e5, .int (nI (Dx.of o.lt o.fs o.rw o.am o.wv o.tl o.ch o.mk o.vc o.cl o.gv o.na o.ln 1 o.cd o.X).vc), .int (nI (Dx.of o.lt o.fs o.rw o.am o.wv o.tl o.ch o.mk o.vc o.cl o.gv o.na o.ln 1 o.cd o.X).cl), .int (nI (Dx.of o.lt o.fs o.rw o.am o.wv o.tl o.ch o.mk o.vc o.cl o.gv o.na o.ln 1 o.cd o.X).gv), .int (nI (Dx.of o.lt o.fs o.rw o.am o.wv o.tl o.ch o.mk o.vc o.cl o.gv o.na o.ln 1 o.cd o.X).na), .int (Dx.of o.lt o.fs o.rw o.am o.wv o.tl o.ch o.mk o.vc o.cl o.gv o.na o.ln 1 o.cd o.X).sd, .int (Dx.of o.lt o.fs o.rw o.am o.wv o.tl o.ch o.mk o.vc o.cl o.gv o.na o.ln 1 o.cd o.X).cd, .ref e6, .int (nI (Dx.of o.lt o.fs o.rw o.am o.wv o.tl o.ch o.mk o.vc o.cl o.gv o.na o.ln 1 o.cd o.X).ln), .ref e7, .ref e8]))]) [0] rfl
    have hDc := hD.sub (ws' := [(e0, .inr (7, [.ref e1, .ref e2, .ref e3, .ref e4, .ref e5, .int (nI (Dx.of o.lt o.fs o.rw o.am o.wv o.tl o.ch o.mk o.vc o.cl o.gv o.na o.ln 1 o.cd o.X).vc), .int (nI (Dx.of o.lt o.fs o.rw o.am o.wv o.tl o.ch o.mk o.vc o.cl o.gv o.na o.ln 1 o.cd o.X).cl), .int (nI (Dx.of o.lt o.fs o.rw o.am o.wv o.tl o.ch o.mk o.vc o.cl o.gv o.na o.ln 1 o.cd o.X).gv), .int (nI (Dx.of o.lt o.fs o.rw o.am o.wv o.tl o.ch o.mk o.vc o.cl o.gv o.na o.ln 1 o.cd o.X).na), .int (Dx.of o.lt o.fs o.rw o.am o.wv o.tl o.ch o.mk o.vc o.cl o.gv o.na o.ln 1 o.cd o.X).sd, .int (Dx.of o.lt o.fs o.rw o.am o.wv o.tl o.ch o.mk o.vc o.cl o.gv o.na o.ln 1 o.cd o.X).cd, .ref e6, .int (nI (Dx.of o.lt o.fs o.rw o.am o.wv o.tl o.ch o.mk o.vc o.cl o.gv o.na o.ln 1 o.cd o.X).ln), .ref e7, .ref e8]))]) [0] (by decide) rfl
    have hKc := hK.sub (tys' := []) [] rfl
    have hFc := va_free (wc := [(e0, .inr (7, [.ref e1, .ref e2, .ref e3, .ref e4, .ref e5, .int (nI (Dx.of o.lt o.fs o.rw o.am o.wv o.tl o.ch o.mk o.vc o.cl o.gv o.na o.ln 1 o.cd o.X).vc), .int (nI (Dx.of o.lt o.fs o.rw o.am o.wv o.tl o.ch o.mk o.vc o.cl o.gv o.na o.ln 1 o.cd o.X).cl), .int (nI (Dx.of o.lt o.fs o.rw o.am o.wv o.tl o.ch o.mk o.vc o.cl o.gv o.na o.ln 1 o.cd o.X).gv), .int (nI (Dx.of o.lt o.fs o.rw o.am o.wv o.tl o.ch o.mk o.vc o.cl o.gv o.na o.ln 1 o.cd o.X).na), .int (Dx.of o.lt o.fs o.rw o.am o.wv o.tl o.ch o.mk o.vc o.cl o.gv o.na o.ln 1 o.cd o.X).sd, .int (Dx.of o.lt o.fs o.rw o.am o.wv o.tl o.ch o.mk o.vc o.cl o.gv o.na o.ln 1 o.cd o.X).cd, .ref e6, .int (nI (Dx.of o.lt o.fs o.rw o.am o.wv o.tl o.ch o.mk o.vc o.cl o.gv o.na o.ln 1 o.cd o.X).ln), .ref e7, .ref e8]))]) hD hS hA [0] rfl
    refine va_calli (va_runV (As := [.int 1, .int 1]) (rest := []) ⟨hx, hb, hml, hown, hw⟩ (c_Md_good_1 l dC dI e0 e1 e2 e3 e4 e5 e6 e7 e8 H.size (Dx.of o.lt o.fs o.rw o.am o.wv o.tl o.ch o.mk o.vc o.cl o.gv o.na o.ln 1 o.cd o.X) 1) (cb_V (C := R_Md) 2 hw k_661 k_37 k_658 k_660 k_21 rfl rfl (by decide +kernel) ⟨Nat.le_of_ble_eq_true rfl, Nat.le_of_ble_eq_true rfl⟩) ⟨fun a U g mk q => by obtain ⟨q0, q1, qP, qK, qD⟩ := q; exact ⟨q0, q1, qP, va_K.moved (u := U) (U := U.calling g mk a) (Vm.Alike.refl U.vm) qK, qD⟩, va_recv hKc hPc (ci := 7) (q0 := 0) rfl rfl, fun U hU hW => ⟨rfl, by rw [hU], by rw [hU]; exact hPc, va_K.moved hW.alike hKc, hDc.weaken (fun _ _ _ _ => trivial)⟩⟩ rfl rfl hl.1 rfl (lv_room (Nat.le_of_ble_eq_true rfl)) d_Md_value_20 ⟨Nat.le_of_ble_eq_true rfl, Nat.le_of_ble_eq_true rfl⟩) hS (fun q _ h => hFc q h) hFc (fun r_3 u t H1 locs ht hvm hw9 hB hz1 hk1 hS => ?_)
    obtain ⟨er9, hP1, hK1, hD1⟩ := hB
    rw [ht] at hP1
    have hK1 := va_K.moved hvm.symm hK1
    obtain ⟨hP, hD⟩ := va_join (wr := [(e5, .inl (c5, 401, .inl o.wv))]) (w1 := [(e0, .inr (7, [.ref e1, .ref e2, .ref e3, .ref e4, .ref e5, .int (nI (Dx.of o.lt o.fs o.rw o.am o.wv o.tl o.ch o.mk o.vc o.cl o.gv o.na o.ln 1 o.cd o.X).vc), .int (nI (Dx.of o.lt o.fs o.rw o.am o.wv o.tl o.ch o.mk o.vc o.cl o.gv o.na o.ln 1 o.cd o.X).cl), .int (nI (Dx.of o.lt o.fs o.rw o.am o.wv o.tl o.ch o.mk o.vc o.cl o.gv o.na o.ln 1 o.cd o.X).gv), .int (nI (Dx.of o.lt o.fs o.rw o.am o.wv o.tl o.ch o.mk o.vc o.cl o.gv o.na o.ln 1 o.cd o.X).na), .int (Dx.of o.lt o.fs o.rw o.am o.wv o.tl o.ch o.mk o.vc o.cl o.gv o.na o.ln 1 o.cd o.X).sd, .int 0, .ref e6, .int (nI (Dx.of o.lt o.fs o.rw o.am o.wv o.tl o.ch o.mk o.vc o.cl o.gv o.na o.ln 1 o.cd o.X).ln), .ref e7, .ref e8]))]) hP hD [0] [1] rfl rfl (by decide) (by decide) hk1 hFc hP1 hD1
    generalize H1 = H at hP hS ⊢
    have hP : va_P (dC, dI) vwCl [(e5, .inl (c5, 401, .inl o.wv)), (e0, .inr (7, [.ref e1, .ref e2, .ref e3, .ref e4, .ref e5, .int (nI (Dx.of o.lt o.fs o.rw o.am o.wv o.tl o.ch o.mk o.vc o.cl o.gv o.na o.ln 1 o.cd o.X).vc), .int (nI (Dx.of o.lt o.fs o.rw o.am o.wv o.tl o.ch o.mk o.vc o.cl o.gv o.na o.ln 1 o.cd o.X).cl), .int (nI (Dx.of o.lt o.fs o.rw o.am o.wv o.tl o.ch o.mk o.vc o.cl o.gv o.na o.ln 1 o.cd o.X).gv), .int (nI (Dx.of o.lt o.fs o.rw o.am o.wv o.tl o.ch o.mk o.vc o.cl o.gv o.na o.ln 1 o.cd o.X).na), .int (Dx.of o.lt o.fs o.rw o.am o.wv o.tl o.ch o.mk o.vc o.cl o.gv o.na o.ln 1 o.cd o.X).sd, .int 0, .ref e6, .int (nI (Dx.of o.lt o.fs o.rw o.am o.wv o.tl o.ch o.mk o.vc o.cl o.gv o.na o.ln 1 o.cd o.X).ln), .ref e7, .ref e8]))] H := hP
    have hD : va_D A [(e5, .inl (c5, 401, .inl o.wv)), (e0, .inr (7, [.ref e1, .ref e2, .ref e3, .ref e4, .ref e5, .int (nI (Dx.of o.lt o.fs o.rw o.am o.wv o.tl o.ch o.mk o.vc o.cl o.gv o.na o.ln 1 o.cd o.X).vc), .int (nI (Dx.of o.lt o.fs o.rw o.am o.wv o.tl o.ch o.mk o.vc o.cl o.gv o.na o.ln 1 o.cd o.X).cl), .int (nI (Dx.of o.lt o.fs o.rw o.am o.wv o.tl o.ch o.mk o.vc o.cl o.gv o.na o.ln 1 o.cd o.X).gv), .int (nI (Dx.of o.lt o.fs o.rw o.am o.wv o.tl o.ch o.mk o.vc o.cl o.gv o.na o.ln 1 o.cd o.X).na), .int (Dx.of o.lt o.fs o.rw o.am o.wv o.tl o.ch o.mk o.vc o.cl o.gv o.na o.ln 1 o.cd o.X).sd, .int 0, .ref e6, .int (nI (Dx.of o.lt o.fs o.rw o.am o.wv o.tl o.ch o.mk o.vc o.cl o.gv o.na o.ln 1 o.cd o.X).ln), .ref e7, .ref e8]))] := hD
    refine W.widen (k := 0) (n := 0) (by decide) (by decide) ?_
    have hw9 : r_3 = 1 := hw9.trans er9
    subst hw9
    have hP : va_P (dC, dI) vwCl [(e5, .inl (c5, 401, .inl o.wv)), (e0, .inr (7, [.ref e1, .ref e2, .ref e3, .ref e4, .ref e5, .int (nI o.vc), .int (nI o.cl), .int (nI o.gv), .int (nI o.na), .int 1, .int 0, .ref e6, .int (nI o.ln), .ref e7, .ref e8]))] H := hP
    have hD : va_D A [(e5, .inl (c5, 401, .inl o.wv)), (e0, .inr (7, [.ref e1, .ref e2, .ref e3, .ref e4, .ref e5, .int (nI o.vc), .int (nI o.cl), .int (nI o.gv), .int (nI o.na), .int 1, .int 0, .ref e6, .int (nI o.ln), .ref e7, .ref e8]))] := hD
    refine lv_if_eq (tgt := 38) hx hb d_Md_value_23 (by decide) (fun c_23 => absurd c_23 (by decide)) (fun c_23 => ?_)
    refine lv_aload_n hx hb d_Md_value_26 rfl (lv_at hl 0 rfl) ?_
    refine lv_aload_n hx hb d_Md_value_27 rfl (lv_at hl 0 rfl) ?_
    refine va_get (D := (dC, dI)) (ci := 7) (v := .int 1) (C := R_Md) (T := F_Md) (N := 15) hx hb hw in_Md hown hK hP 1 rfl rfl 9 (by decide) (hw (Cond.fieldLink "ClauseSearchModel" 46 "ClauseSearchModel" "stands" "Z") k_613) (fun _ h9 => h9) rfl d_Md_value_28 ?_
    refine lv_iconst (v := 2) hx hb d_Md_value_31 (by decide) ?_
    have hPc := hP.sub (ws' := [(e0, .inr (7, [.ref e1, .ref e2, .ref e3, .ref e4, .ref e5, .int (nI (Dx.of o.lt o.fs o.rw o.am o.wv o.tl o.ch o.mk o.vc o.cl o.gv o.na o.ln 1 0 o.X).vc), .int (nI (Dx.of o.lt o.fs o.rw o.am o.wv o.tl o.ch o.mk o.vc o.cl o.gv o.na o.ln 1 0 o.X).cl), .int (nI (Dx.of o.lt o.fs o.rw o.am o.wv o.tl o.ch o.mk o.vc o.cl o.gv o.na o.ln 1 0 o.X).gv), .int (nI (Dx.of o.lt o.fs o.rw o.am o.wv o.tl o.ch o.mk o.vc o.cl o.gv o.na o.ln 1 0 o.X).na), .int (Dx.of o.lt o.fs o.rw o.am o.wv o.tl o.ch o.mk o.vc o.cl o.gv o.na o.ln 1 0 o.X).sd, .int (Dx.of o.lt o.fs o.rw o.am o.wv o.tl o.ch o.mk o.vc o.cl o.gv o.na o.ln 1 0 o.X).cd, .ref e6, .int (nI (Dx.of o.lt o.fs o.rw o.am o.wv o.tl o.ch o.mk o.vc o.cl o.gv o.na o.ln 1 0 o.X).ln), .ref e7, .ref e8]))]) [1] rfl
    have hDc := hD.sub (ws' := [(e0, .inr (7, [.ref e1, .ref e2, .ref e3, .ref e4, .ref e5, .int (nI (Dx.of o.lt o.fs o.rw o.am o.wv o.tl o.ch o.mk o.vc o.cl o.gv o.na o.ln 1 0 o.X).vc), .int (nI (Dx.of o.lt o.fs o.rw o.am o.wv o.tl o.ch o.mk o.vc o.cl o.gv o.na o.ln 1 0 o.X).cl), .int (nI (Dx.of o.lt o.fs o.rw o.am o.wv o.tl o.ch o.mk o.vc o.cl o.gv o.na o.ln 1 0 o.X).gv), .int (nI (Dx.of o.lt o.fs o.rw o.am o.wv o.tl o.ch o.mk o.vc o.cl o.gv o.na o.ln 1 0 o.X).na), .int (Dx.of o.lt o.fs o.rw o.am o.wv o.tl o.ch o.mk o.vc o.cl o.gv o.na o.ln 1 0 o.X).sd, .int (Dx.of o.lt o.fs o.rw o.am o.wv o.tl o.ch o.mk o.vc o.cl o.gv o.na o.ln 1 0 o.X).cd, .ref e6, .int (nI (Dx.of o.lt o.fs o.rw o.am o.wv o.tl o.ch o.mk o.vc o.cl o.gv o.na o.ln 1 0 o.X).ln), .ref e7, .ref e8]))]) [1] (by decide) rfl
    have hKc := hK.sub (tys' := []) [] rfl
    have hFc := va_free (wc := [(e0, .inr (7, [.ref e1, .ref e2, .ref e3, .ref e4, .ref e5, .int (nI (Dx.of o.lt o.fs o.rw o.am o.wv o.tl o.ch o.mk o.vc o.cl o.gv o.na o.ln 1 0 o.X).vc), .int (nI (Dx.of o.lt o.fs o.rw o.am o.wv o.tl o.ch o.mk o.vc o.cl o.gv o.na o.ln 1 0 o.X).cl), .int (nI (Dx.of o.lt o.fs o.rw o.am o.wv o.tl o.ch o.mk o.vc o.cl o.gv o.na o.ln 1 0 o.X).gv), .int (nI (Dx.of o.lt o.fs o.rw o.am o.wv o.tl o.ch o.mk o.vc o.cl o.gv o.na o.ln 1 0 o.X).na), .int (Dx.of o.lt o.fs o.rw o.am o.wv o.tl o.ch o.mk o.vc o.cl o.gv o.na o.ln 1 0 o.X).sd, .int (Dx.of o.lt o.fs o.rw o.am o.wv o.tl o.ch o.mk o.vc o.cl o.gv o.na o.ln 1 0 o.X).cd, .ref e6, .int (nI (Dx.of o.lt o.fs o.rw o.am o.wv o.tl o.ch o.mk o.vc o.cl o.gv o.na o.ln 1 0 o.X).ln), .ref e7, .ref e8]))]) hD hS hA [1] rfl
    refine va_calli (va_runV (As := [.int 1, .int 2]) (rest := []) ⟨hx, hb, hml, hown, hw⟩ (c_Md_good_1 l dC dI e0 e1 e2 e3 e4 e5 e6 e7 e8 H.size (Dx.of o.lt o.fs o.rw o.am o.wv o.tl o.ch o.mk o.vc o.cl o.gv o.na o.ln 1 0 o.X) 2) (cb_V (C := R_Md) 2 hw k_661 k_37 k_658 k_660 k_21 rfl rfl (by decide +kernel) ⟨Nat.le_of_ble_eq_true rfl, Nat.le_of_ble_eq_true rfl⟩) ⟨fun a U g mk q => by obtain ⟨q0, q1, qP, qK, qD⟩ := q; exact ⟨q0, q1, qP, va_K.moved (u := U) (U := U.calling g mk a) (Vm.Alike.refl U.vm) qK, qD⟩, va_recv hKc hPc (ci := 7) (q0 := 0) rfl rfl, fun U hU hW => ⟨rfl, by rw [hU], by rw [hU]; exact hPc, va_K.moved hW.alike hKc, hDc.weaken (fun _ _ _ _ => trivial)⟩⟩ rfl rfl hl.1 rfl (lv_room (Nat.le_of_ble_eq_true rfl)) d_Md_value_32 ⟨Nat.le_of_ble_eq_true rfl, Nat.le_of_ble_eq_true rfl⟩) hS (fun q _ h => hFc q h) hFc (fun r_4 u t H1 locs ht hvm hw9 hB hz1 hk1 hS => ?_)
    obtain ⟨er9, hP1, hK1, hD1⟩ := hB
    rw [ht] at hP1
    have hK1 := va_K.moved hvm.symm hK1
    obtain ⟨hP, hD⟩ := va_join (wr := [(e5, .inl (c5, 401, .inl o.wv))]) (w1 := [(e0, .inr (7, [.ref e1, .ref e2, .ref e3, .ref e4, .ref e5, .int (nI (Dx.of o.lt o.fs o.rw o.am o.wv o.tl o.ch o.mk o.vc o.cl o.gv o.na o.ln 1 0 o.X).vc), .int (nI (Dx.of o.lt o.fs o.rw o.am o.wv o.tl o.ch o.mk o.vc o.cl o.gv o.na o.ln 1 0 o.X).cl), .int (nI (Dx.of o.lt o.fs o.rw o.am o.wv o.tl o.ch o.mk o.vc o.cl o.gv o.na o.ln 1 0 o.X).gv), .int (nI (Dx.of o.lt o.fs o.rw o.am o.wv o.tl o.ch o.mk o.vc o.cl o.gv o.na o.ln 1 0 o.X).na), .int (Dx.of o.lt o.fs o.rw o.am o.wv o.tl o.ch o.mk o.vc o.cl o.gv o.na o.ln 1 0 o.X).sd, .int 0, .ref e6, .int (nI (Dx.of o.lt o.fs o.rw o.am o.wv o.tl o.ch o.mk o.vc o.cl o.gv o.na o.ln 1 0 o.X).ln), .ref e7, .ref e8]))]) hP hD [1] [0] rfl rfl (by decide) (by decide) hk1 hFc hP1 hD1
    generalize H1 = H at hP hS ⊢
    have hP : va_P (dC, dI) vwCl [(e5, .inl (c5, 401, .inl o.wv)), (e0, .inr (7, [.ref e1, .ref e2, .ref e3, .ref e4, .ref e5, .int (nI (Dx.of o.lt o.fs o.rw o.am o.wv o.tl o.ch o.mk o.vc o.cl o.gv o.na o.ln 1 0 o.X).vc), .int (nI (Dx.of o.lt o.fs o.rw o.am o.wv o.tl o.ch o.mk o.vc o.cl o.gv o.na o.ln 1 0 o.X).cl), .int (nI (Dx.of o.lt o.fs o.rw o.am o.wv o.tl o.ch o.mk o.vc o.cl o.gv o.na o.ln 1 0 o.X).gv), .int (nI (Dx.of o.lt o.fs o.rw o.am o.wv o.tl o.ch o.mk o.vc o.cl o.gv o.na o.ln 1 0 o.X).na), .int (Dx.of o.lt o.fs o.rw o.am o.wv o.tl o.ch o.mk o.vc o.cl o.gv o.na o.ln 1 0 o.X).sd, .int 0, .ref e6, .int (nI (Dx.of o.lt o.fs o.rw o.am o.wv o.tl o.ch o.mk o.vc o.cl o.gv o.na o.ln 1 0 o.X).ln), .ref e7, .ref e8]))] H := hP
    have hD : va_D A [(e5, .inl (c5, 401, .inl o.wv)), (e0, .inr (7, [.ref e1, .ref e2, .ref e3, .ref e4, .ref e5, .int (nI (Dx.of o.lt o.fs o.rw o.am o.wv o.tl o.ch o.mk o.vc o.cl o.gv o.na o.ln 1 0 o.X).vc), .int (nI (Dx.of o.lt o.fs o.rw o.am o.wv o.tl o.ch o.mk o.vc o.cl o.gv o.na o.ln 1 0 o.X).cl), .int (nI (Dx.of o.lt o.fs o.rw o.am o.wv o.tl o.ch o.mk o.vc o.cl o.gv o.na o.ln 1 0 o.X).gv), .int (nI (Dx.of o.lt o.fs o.rw o.am o.wv o.tl o.ch o.mk o.vc o.cl o.gv o.na o.ln 1 0 o.X).na), .int (Dx.of o.lt o.fs o.rw o.am o.wv o.tl o.ch o.mk o.vc o.cl o.gv o.na o.ln 1 0 o.X).sd, .int 0, .ref e6, .int (nI (Dx.of o.lt o.fs o.rw o.am o.wv o.tl o.ch o.mk o.vc o.cl o.gv o.na o.ln 1 0 o.X).ln), .ref e7, .ref e8]))] := hD
    refine W.widen (k := 0) (n := 0) (by decide) (by decide) ?_
    have hw9 : r_4 = 1 := hw9.trans er9
    subst hw9
    have hP : va_P (dC, dI) vwCl [(e5, .inl (c5, 401, .inl o.wv)), (e0, .inr (7, [.ref e1, .ref e2, .ref e3, .ref e4, .ref e5, .int (nI o.vc), .int (nI o.cl), .int (nI o.gv), .int (nI o.na), .int 1, .int 0, .ref e6, .int (nI o.ln), .ref e7, .ref e8]))] H := hP
    have hD : va_D A [(e5, .inl (c5, 401, .inl o.wv)), (e0, .inr (7, [.ref e1, .ref e2, .ref e3, .ref e4, .ref e5, .int (nI o.vc), .int (nI o.cl), .int (nI o.gv), .int (nI o.na), .int 1, .int 0, .ref e6, .int (nI o.ln), .ref e7, .ref e8]))] := hD
    refine lv_if_ne (tgt := 40) hx hb d_Md_value_35 (by decide) (fun c_35 => ?_) (fun c_35 => absurd c_35 (by decide))
    refine lv_aload_n hx hb d_Md_value_40 rfl (lv_at hl 0 rfl) ?_
    refine va_get (D := (dC, dI)) (ci := 7) (v := .ref e5) (C := R_Md) (T := F_Md) (N := 15) hx hb hw in_Md hown hK hP 1 rfl rfl 4 (by decide) (hw (Cond.fieldLink "ClauseSearchModel" 23 "ClauseSearchModel" "way" "[I") k_608) (fun _ h9 => h9) rfl d_Md_value_41 ?_
    refine lv_iload_n hx hb d_Md_value_44 rfl (lv_at hl 1 rfl) ?_
    refine va_iald hx hb hK hP 0 0 rfl rfl (vp_in_nI (by omega) (by omega)) d_Md_value_45 ?_
    refine lv_topi (fun y_5 ey_5 => ?_)
    rw [nI_clamp (by omega)] at ey_5
    subst ey_5
    refine lv_iconst (v := 1) hx hb d_Md_value_46 (by decide) ?_
    refine lv_icmp_ne (tgt := 54) hx hb d_Md_value_47 (by decide) (fun c_47 => ?_) (fun c_47 => ?_)
    · refine lv_iconst (v := 0) hx hb d_Md_value_54 (by decide) ?_
      have hP : va_P (dC, dI) vwCl [(e5, .inl (c5, 401, .inl o.wv)), (e0, .inr (7, [.ref e1, .ref e2, .ref e3, .ref e4, .ref e5, .int (nI o.vc), .int (nI o.cl), .int (nI o.gv), .int (nI o.na), .int o.sd, .int 0, .ref e6, .int (nI o.ln), .ref e7, .ref e8]))] H := by rw [hsd]; exact hP
      have hD : va_D A [(e5, .inl (c5, 401, .inl o.wv)), (e0, .inr (7, [.ref e1, .ref e2, .ref e3, .ref e4, .ref e5, .int (nI o.vc), .int (nI o.cl), .int (nI o.gv), .int (nI o.na), .int o.sd, .int 0, .ref e6, .int (nI o.ln), .ref e7, .ref e8]))] := by rw [hsd]; exact hD
      have hP := hP.sub (ws' := [(e0, .inr (7, [.ref e1, .ref e2, .ref e3, .ref e4, .ref e5, .int (nI o.vc), .int (nI o.cl), .int (nI o.gv), .int (nI o.na), .int o.sd, .int 0, .ref e6, .int (nI o.ln), .ref e7, .ref e8])), (e5, .inl (c5, 401, .inl o.wv))]) [1, 0] rfl
      have hD := hD.sub (ws' := [(e0, .inr (7, [.ref e1, .ref e2, .ref e3, .ref e4, .ref e5, .int (nI o.vc), .int (nI o.cl), .int (nI o.gv), .int (nI o.na), .int o.sd, .int 0, .ref e6, .int (nI o.ln), .ref e7, .ref e8])), (e5, .inl (c5, 401, .inl o.wv))]) [1, 0] (by decide) rfl
      have hK := hK.sub (tys' := [(c5, .int)]) [0] rfl
      refine W.widen (k := 0) (n := 0) (by decide) (by decide) ?_
      exact W.zret (v := 0) hx hb hr rfl (fun t ht hW => ⟨⟨0, 0, rfl, rfl, 0, by rw [ht]; exact hP, va_K.moved hW.alike hK, hD⟩, hS.F ht⟩) hS.2.2 d_Md_value_55
    · refine lv_iconst (v := 1) hx hb d_Md_value_50 (by decide) ?_
      refine lv_goto (tgt := 55) hx hb d_Md_value_51 (by decide) ?_
      have hP : va_P (dC, dI) vwCl [(e5, .inl (c5, 401, .inl o.wv)), (e0, .inr (7, [.ref e1, .ref e2, .ref e3, .ref e4, .ref e5, .int (nI o.vc), .int (nI o.cl), .int (nI o.gv), .int (nI o.na), .int o.sd, .int 0, .ref e6, .int (nI o.ln), .ref e7, .ref e8]))] H := by rw [hsd]; exact hP
      have hD : va_D A [(e5, .inl (c5, 401, .inl o.wv)), (e0, .inr (7, [.ref e1, .ref e2, .ref e3, .ref e4, .ref e5, .int (nI o.vc), .int (nI o.cl), .int (nI o.gv), .int (nI o.na), .int o.sd, .int 0, .ref e6, .int (nI o.ln), .ref e7, .ref e8]))] := by rw [hsd]; exact hD
      have hP := hP.sub (ws' := [(e0, .inr (7, [.ref e1, .ref e2, .ref e3, .ref e4, .ref e5, .int (nI o.vc), .int (nI o.cl), .int (nI o.gv), .int (nI o.na), .int o.sd, .int 0, .ref e6, .int (nI o.ln), .ref e7, .ref e8])), (e5, .inl (c5, 401, .inl o.wv))]) [1, 0] rfl
      have hD := hD.sub (ws' := [(e0, .inr (7, [.ref e1, .ref e2, .ref e3, .ref e4, .ref e5, .int (nI o.vc), .int (nI o.cl), .int (nI o.gv), .int (nI o.na), .int o.sd, .int 0, .ref e6, .int (nI o.ln), .ref e7, .ref e8])), (e5, .inl (c5, 401, .inl o.wv))]) [1, 0] (by decide) rfl
      have hK := hK.sub (tys' := [(c5, .int)]) [0] rfl
      refine W.widen (k := 0) (n := 0) (by decide) (by decide) ?_
      exact W.zret (v := 1) hx hb hr rfl (fun t ht hW => ⟨⟨1, 1, rfl, rfl, 0, by rw [ht]; exact hP, va_K.moved hW.alike hK, hD⟩, hS.F ht⟩) hS.2.2 d_Md_value_55
