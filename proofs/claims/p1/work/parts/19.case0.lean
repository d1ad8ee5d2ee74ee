theorem k_28 : (Cond.initialized "ClauseSearchLaw") ∈ bg_W := bg_in 28 (by decide +kernel) (by decide +kernel)
theorem k_445 : (Cond.methodLink "ClauseSearchLaw" 37 ⟨"ClauseSearchLaw", "variables", "(LClauseSearch;I[J)I"⟩) ∈ bg_W := bg_in 445 (by decide +kernel) (by decide +kernel)
theorem k_446 : (Cond.static ⟨"ClauseSearchLaw", "variables", "(LClauseSearch;I[J)I"⟩) ∈ bg_W := bg_in 446 (by decide +kernel) (by decide +kernel)
theorem k_447 : (Cond.codeWith ⟨"ClauseSearchLaw", "variables", "(LClauseSearch;I[J)I"⟩ method_3_code 4 (some .int) [(0, 9, 12, 13), (0, 9, 15, 15)]) ∈ bg_W := bg_in 447 (by decide +kernel) (by decide +kernel)
theorem k_650 : (Cond.methodLink "ClauseSearchLaw" 43 ⟨"ClauseSearchModel", "thrown", "()I"⟩) ∈ bg_W := bg_in 650 (by decide +kernel) (by decide +kernel)
theorem k_651 : (Cond.instanceMethod ⟨"ClauseSearchModel", "thrown", "()I"⟩) ∈ bg_W := bg_in 651 (by decide +kernel) (by decide +kernel)
theorem k_652 : (Cond.selects "ClauseSearchModel" ⟨"ClauseSearchModel", "thrown", "()I"⟩ ⟨"ClauseSearchModel", "thrown", "()I"⟩) ∈ bg_W := bg_in 652 (by decide +kernel) (by decide +kernel)
theorem k_653 : (Cond.code ⟨"ClauseSearchModel", "thrown", "()I"⟩ prog_9_method_2_code 1 (some .int)) ∈ bg_W := bg_in 653 (by decide +kernel) (by decide +kernel)
theorem k_654 : (Cond.methodLink "ClauseSearchLaw" 42 ⟨"ClauseSearchModel", "variables", "(I)I"⟩) ∈ bg_W := bg_in 654 (by decide +kernel) (by decide +kernel)
theorem k_655 : (Cond.instanceMethod ⟨"ClauseSearchModel", "variables", "(I)I"⟩) ∈ bg_W := bg_in 655 (by decide +kernel) (by decide +kernel)
theorem k_656 : (Cond.selects "ClauseSearchModel" ⟨"ClauseSearchModel", "variables", "(I)I"⟩ ⟨"ClauseSearchModel", "variables", "(I)I"⟩) ∈ bg_W := bg_in 656 (by decide +kernel) (by decide +kernel)
theorem k_657 : (Cond.code ⟨"ClauseSearchModel", "variables", "(I)I"⟩ prog_9_method_4_code 2 (some .int)) ∈ bg_W := bg_in 657 (by decide +kernel) (by decide +kernel)
theorem d_Lw_law_76 : decode code 76 = .ok (.aload_n 1, 1) := by decide +kernel
theorem d_Lw_law_77 : decode code 77 = .ok (.aload_n 0, 1) := by decide +kernel
theorem d_Lw_law_78 : decode code 78 = .ok (.iload 4, 2) := by decide +kernel
theorem d_Lw_law_80 : decode code 80 = .ok (.iconst 1, 1) := by decide +kernel
theorem d_Lw_law_81 : decode code 81 = .ok (.iadd, 1) := by decide +kernel
theorem d_Lw_law_82 : decode code 82 = .ok (.iaload, 1) := by decide +kernel
theorem d_Lw_law_83 : decode code 83 = .ok (.aload_n 3, 1) := by decide +kernel
theorem d_Lw_law_84 : decode code 84 = .ok (.invokestatic 37, 3) := by decide +kernel
theorem d_Lw_law_87 : decode code 87 = .ok (.istore 5, 2) := by decide +kernel
theorem d_Lw_law_89 : decode code 89 = .ok (.aload_n 2, 1) := by decide +kernel
theorem d_Lw_law_90 : decode code 90 = .ok (.aload_n 0, 1) := by decide +kernel
theorem d_Lw_law_91 : decode code 91 = .ok (.iload 4, 2) := by decide +kernel
theorem d_Lw_law_93 : decode code 93 = .ok (.iconst 1, 1) := by decide +kernel
theorem d_Lw_law_94 : decode code 94 = .ok (.iadd, 1) := by decide +kernel
theorem d_Lw_law_95 : decode code 95 = .ok (.iaload, 1) := by decide +kernel
theorem d_Lw_law_96 : decode code 96 = .ok (.invokevirtual 42, 3) := by decide +kernel
theorem d_Lw_law_99 : decode code 99 = .ok (.istore 6, 2) := by decide +kernel
theorem d_Lw_law_101 : decode code 101 = .ok (.aload_n 2, 1) := by decide +kernel
theorem d_Lw_law_102 : decode code 102 = .ok (.invokevirtual 43, 3) := by decide +kernel
theorem d_Lw_law_105 : decode code 105 = .ok (.iload 5, 2) := by decide +kernel
theorem d_Lw_law_107 : decode code 107 = .ok (.if_icmp .eq 5, 3) := by decide +kernel
theorem d_Lw_law_112 : decode code 112 = .ok (.iload 5, 2) := by decide +kernel
theorem d_Lw_law_114 : decode code 114 = .ok (.ifCond .ne 15, 3) := by decide +kernel
theorem d_Lw_law_129 : decode code 129 = .ok (.goto 235, 3) := by decide +kernel
theorem d_Lw_law_364 : decode code 364 = .ok (.iinc 4 2, 3) := by decide +kernel
theorem d_Lw_law_367 : decode code 367 = .ok (.goto (-344), 3) := by decide +kernel
theorem d_Lw_law_117 : decode code 117 = .ok (.aload_n 3, 1) := by decide +kernel
theorem d_Lw_law_118 : decode code 118 = .ok (.iconst 0, 1) := by decide +kernel
theorem d_Lw_law_119 : decode code 119 = .ok (.laload, 1) := by decide +kernel
theorem d_Lw_law_120 : decode code 120 = .ok (.iload 6, 2) := by decide +kernel
theorem d_Lw_law_122 : decode code 122 = .ok (.i2l, 1) := by decide +kernel
theorem d_Lw_law_123 : decode code 123 = .ok (.lcmp, 1) := by decide +kernel
theorem d_Lw_law_124 : decode code 124 = .ok (.ifCond .eq 5, 3) := by decide +kernel
set_option maxHeartbeats 4000000 in
set_option maxRecDepth 100000 in
/-- case 0 -/
theorem lw_c0 {p : Program} {l : Launch} {e : Env} {s : State} {m : MethodId} {below : List Frame} {meth : Method} {c : Code} {dC : Nat → ClassId} {dI : Nat → Nat → Nat} {b : Nat} {xs : Nat → Int32} (hfl : l.flags = pinnedFlags ++ [noTraceFlag]) (C1 : lw_At p s m meth c b 2 xs) (hZ0 : tw_Z s s.heap s.heap.size) (h0 b0 b1 s0 b3 g0 g1 g2 r0 t0 w0 l0 k0 v0 v1 v2 u0 u1 u2 u3 u4 y0 y1 m0 j0 j1 j2 j3 j4 j5 j6 j7 o0 : Nat) (ca cl : ClassId) (fw : Nat → Int32) (fo : Nat → Int64) (H : Heap) (locs : List Loc) (ls : Array Slot) (hK : va_K (dC, dI) vwCl [(ca, .int), (cl, .long)] s) (hP : va_P (dC, dI) vwCl [(h0, .inr (6, [.ref b0, .ref b1, .ref s0, .ref b3, .int 0, .int 0, .int 0, .int 0])), (b1, .inr (2, [.ref g0, .ref g1, .ref g2, .int 0])), (s0, .inr (3, [.ref r0, .ref t0, .ref w0, .ref l0, .ref k0, .ref v0, .ref v1, .ref v2, .int 0, .int 0, .int 0, .int 0])), (t0, .inr (4, [.ref u0, .ref u1, .ref u2, .ref u3, .ref u4, .int 0, .int 0, .int 0, .int 1])), (w0, .inr (5, [.ref r0, .ref t0, .ref y0, .ref y1])), (m0, .inr (7, [.ref j0, .ref j1, .ref j2, .ref j3, .ref j4, .int 0, .int 0, .int 0, .int 0, .int 0, .int 0, .ref j5, .int 0, .ref j6, .ref j7])), (j4, .inl (ca, 401, .inl fw)), (o0, .inl (cl, 1, .inr (.inl fo)))] H) (hD : va_D (fun q : Nat => s.heap.size ≤ q) [(h0, .inr (6, [.ref b0, .ref b1, .ref s0, .ref b3, .int 0, .int 0, .int 0, .int 0])), (b1, .inr (2, [.ref g0, .ref g1, .ref g2, .int 0])), (s0, .inr (3, [.ref r0, .ref t0, .ref w0, .ref l0, .ref k0, .ref v0, .ref v1, .ref v2, .int 0, .int 0, .int 0, .int 0])), (t0, .inr (4, [.ref u0, .ref u1, .ref u2, .ref u3, .ref u4, .int 0, .int 0, .int 0, .int 1])), (w0, .inr (5, [.ref r0, .ref t0, .ref y0, .ref y1])), (m0, .inr (7, [.ref j0, .ref j1, .ref j2, .ref j3, .ref j4, .int 0, .int 0, .int 0, .int 0, .int 0, .int 0, .ref j5, .int 0, .ref j6, .ref j7])), (j4, .inl (ca, 401, .inl fw)), (o0, .inl (cl, 1, .inr (.inl fo)))]) (hS : va_S (fun q : Nat => s.heap.size ≤ q) s.heap H locs) (hl : lv_has ls 7 [(0, .ref b), (1, .ref h0), (2, .ref m0), (3, .ref o0), (4, .int 0)]) : W p l e room_1 s m #[Value.ref b] below meth c H locs 45 95481 (lw_Z below #[Value.ref b] s) (F0 m 76 ls []) := by
  obtain ⟨hx, hb, hr, hml, hown, hts, hX, hbl, hlocks, hgv⟩ := id C1
  have hw : ∀ w ∈ bg_W, w.before #[Value.ref b] s = true := fun w h => hts w (bg_sub w h)
  have hown : s.vm.findClass R_Lw = some m.cls := hown
  have hA : ∀ q : Nat, s.heap.size ≤ q → (fun q : Nat => s.heap.size ≤ q) q := fun _ h => h
  have hbA : ¬ (fun q : Nat => s.heap.size ≤ q) b := Nat.not_le.mpr hbl
  by_cases hc : xs ((0 + 1) : Int32).toNatClampNeg < 1 ∨ 400 < xs ((0 + 1) : Int32).toNatClampNeg
  · refine lv_aload_n hx hb d_Lw_law_76 rfl (lv_at hl 1 rfl) ?_
    refine lv_aload_n hx hb d_Lw_law_77 rfl (lv_at hl 0 rfl) ?_
    refine lv_iload hx hb d_Lw_law_78 (lv_at hl 4 rfl) ?_
    refine lv_iconst (v := 1) hx hb d_Lw_law_80 (by decide) ?_
    refine lv_iadd hx hb d_Lw_law_81 ?_
    refine va_sld hx hb hX hbl hbA hS (by unfold vp_in; decide) d_Lw_law_82 ?_
    refine lv_aload_n hx hb d_Lw_law_83 rfl (lv_at hl 3 rfl) ?_
    have hZ : tw_Z s H s.heap.size := hZ0.kept (fun a ha => hS.2.1 a ha (Nat.not_le.mpr ha))
    have hPc := hP.sub (ws' := [(h0, .inr (6, [.ref b0, .ref b1, .ref s0, .ref b3, .int 0, .int 0, .int 0, .int 0])), (o0, .inl (cl, 1, .inr (.inl fo)))]) [0, 7] rfl
    have hDc := hD.sub (ws' := [(h0, .inr (6, [.ref b0, .ref b1, .ref s0, .ref b3, .int 0, .int 0, .int 0, .int 0])), (o0, .inl (cl, 1, .inr (.inl fo)))]) [0, 7] (by decide) rfl
    have hKc := hK.sub (tys' := [(cl, .long)]) [1] rfl
    have hFc := va_free (wc := [(h0, .inr (6, [.ref b0, .ref b1, .ref s0, .ref b3, .int 0, .int 0, .int 0, .int 0])), (o0, .inl (cl, 1, .inr (.inl fo)))]) hD hS hA [0, 7] rfl
    refine va_calli (th_runS (n := 3) (As := [.ref h0, .int (xs (0 + 1 : Int32).toNatClampNeg), .ref o0]) (rest := []) ⟨hx, hb, hml, hown, hw⟩ (c_Lw_variables_1 l hfl dC dI h0 b0 b1 s0 b3 o0 cl H.size s.heap.size 0 0 0 0 (xs (0 + 1 : Int32).toNatClampNeg) fo hc) k_447 k_28 k_445 k_446 rfl rfl (by decide +kernel) ⟨Nat.le_of_ble_eq_true rfl, Nat.le_of_ble_eq_true rfl⟩ ⟨fun a U g mk q => by obtain ⟨q0, q1, qP, qK, qD, qZ⟩ := q; exact ⟨q0, q1, qP, va_K.moved (u := U) (U := U.calling g mk a) (Vm.Alike.refl U.vm) qK, qD, tw_Z.moved (u := U) (U := U.calling g mk a) (Vm.Alike.refl U.vm) qZ⟩, fun U hU hW => ⟨rfl, by rw [hU], by rw [hU]; exact hPc, va_K.moved hW.alike hKc, hDc.weaken (fun _ _ _ _ => trivial), by rw [hU]; exact hZ.moved hW.alike⟩⟩ rfl rfl hl.1 rfl (lv_room (Nat.le_of_ble_eq_true rfl)) d_Lw_law_84 ⟨Nat.le_of_ble_eq_true rfl, Nat.le_of_ble_eq_true rfl⟩) hS (fun q _ h => hFc q h) hFc (fun r_1 u t H1 locs ht hvm hw9 hB hz1 hk1 hS => ?_)
    obtain ⟨hP1, hK1, hD1⟩ := hB
    rw [ht] at hP1
    have hK1 := va_K.moved hvm.symm hK1
    obtain ⟨hP, hD⟩ := va_join (wr := [(b1, .inr (2, [.ref g0, .ref g1, .ref g2, .int 0])), (s0, .inr (3, [.ref r0, .ref t0, .ref w0, .ref l0, .ref k0, .ref v0, .ref v1, .ref v2, .int 0, .int 0, .int 0, .int 0])), (t0, .inr (4, [.ref u0, .ref u1, .ref u2, .ref u3, .ref u4, .int 0, .int 0, .int 0, .int 1])), (w0, .inr (5, [.ref r0, .ref t0, .ref y0, .ref y1])), (m0, .inr (7, [.ref j0, .ref j1, .ref j2, .ref j3, .ref j4, .int 0, .int 0, .int 0, .int 0, .int 0, .int 0, .ref j5, .int 0, .ref j6, .ref j7])), (j4, .inl (ca, 401, .inl fw))]) (w1 := [(h0, .inr (6, [.ref b0, .ref b1, .ref s0, .ref b3, .int 0, .int 0, .int 0, .int 0])), (o0, .inl (cl, 1, .inr (.inl fo)))]) hP hD [0, 7] [1, 2, 3, 4, 5, 6] rfl rfl (by decide) (by decide) hk1 hFc hP1 hD1
    generalize H1 = H at hP hS ⊢
    have hP : va_P (dC, dI) vwCl [(b1, .inr (2, [.ref g0, .ref g1, .ref g2, .int 0])), (s0, .inr (3, [.ref r0, .ref t0, .ref w0, .ref l0, .ref k0, .ref v0, .ref v1, .ref v2, .int 0, .int 0, .int 0, .int 0])), (t0, .inr (4, [.ref u0, .ref u1, .ref u2, .ref u3, .ref u4, .int 0, .int 0, .int 0, .int 1])), (w0, .inr (5, [.ref r0, .ref t0, .ref y0, .ref y1])), (m0, .inr (7, [.ref j0, .ref j1, .ref j2, .ref j3, .ref j4, .int 0, .int 0, .int 0, .int 0, .int 0, .int 0, .ref j5, .int 0, .ref j6, .ref j7])), (j4, .inl (ca, 401, .inl fw)), (h0, .inr (6, [.ref b0, .ref b1, .ref s0, .ref b3, .int 0, .int 0, .int 0, .int 0])), (o0, .inl (cl, 1, .inr (.inl fo)))] H := hP
    have hD : va_D (fun q : Nat => s.heap.size ≤ q) [(b1, .inr (2, [.ref g0, .ref g1, .ref g2, .int 0])), (s0, .inr (3, [.ref r0, .ref t0, .ref w0, .ref l0, .ref k0, .ref v0, .ref v1, .ref v2, .int 0, .int 0, .int 0, .int 0])), (t0, .inr (4, [.ref u0, .ref u1, .ref u2, .ref u3, .ref u4, .int 0, .int 0, .int 0, .int 1])), (w0, .inr (5, [.ref r0, .ref t0, .ref y0, .ref y1])), (m0, .inr (7, [.ref j0, .ref j1, .ref j2, .ref j3, .ref j4, .int 0, .int 0, .int 0, .int 0, .int 0, .int 0, .ref j5, .int 0, .ref j6, .ref j7])), (j4, .inl (ca, 401, .inl fw)), (h0, .inr (6, [.ref b0, .ref b1, .ref s0, .ref b3, .int 0, .int 0, .int 0, .int 0])), (o0, .inl (cl, 1, .inr (.inl fo)))] := hD
    refine W.widen (k := 46) (n := 95487) (by decide) (by decide) ?_
    have hw9 : r_1 = 1 := hw9
    subst hw9
    refine lv_istore (lv' := [(5, .int 1), (0, .ref b), (1, .ref h0), (2, .ref m0), (3, .ref o0), (4, .int 0)]) hx hb d_Lw_law_87 hl (by decide) rfl (fun ls hl => ?_)
    refine lv_aload_n hx hb d_Lw_law_89 rfl (lv_at hl 3 rfl) ?_
    refine lv_aload_n hx hb d_Lw_law_90 rfl (lv_at hl 1 rfl) ?_
    refine lv_iload hx hb d_Lw_law_91 (lv_at hl 5 rfl) ?_
    refine lv_iconst (v := 1) hx hb d_Lw_law_93 (by decide) ?_
    refine lv_iadd hx hb d_Lw_law_94 ?_
    refine va_sld hx hb hX hbl hbA hS (by unfold vp_in; decide) d_Lw_law_95 ?_
    have hPc := hP.sub (ws' := [(m0, .inr (7, [.ref j0, .ref j1, .ref j2, .ref j3, .ref j4, .int 0, .int 0, .int 0, .int 0, .int 0, .int 0, .ref j5, .int 0, .ref j6, .ref j7]))]) [4] rfl
    have hDc := hD.sub (ws' := [(m0, .inr (7, [.ref j0, .ref j1, .ref j2, .ref j3, .ref j4, .int 0, .int 0, .int 0, .int 0, .int 0, .int 0, .ref j5, .int 0, .ref j6, .ref j7]))]) [4] (by decide) rfl
    have hKc := hK.sub (tys' := []) [] rfl
    have hFc := va_free (wc := [(m0, .inr (7, [.ref j0, .ref j1, .ref j2, .ref j3, .ref j4, .int 0, .int 0, .int 0, .int 0, .int 0, .int 0, .ref j5, .int 0, .ref j6, .ref j7]))]) hD hS hA [4] rfl
    refine va_calli (va_runV (As := [.int (xs (0 + 1 : Int32).toNatClampNeg)]) (rest := []) ⟨hx, hb, hml, hown, hw⟩ (c_Md_variables_1 l dC dI m0 j0 j1 j2 j3 j4 j5 j6 j7 H.size 0 0 0 0 0 0 0 (xs (0 + 1 : Int32).toNatClampNeg) hc) (cb_V (C := R_Md) 1 hw k_657 k_37 k_654 k_655 k_656 rfl rfl (by decide +kernel) ⟨Nat.le_of_ble_eq_true rfl, Nat.le_of_ble_eq_true rfl⟩) ⟨fun a U g mk q => by obtain ⟨q0, q1, qP, qK, qD⟩ := q; exact ⟨q0, q1, qP, va_K.moved (u := U) (U := U.calling g mk a) (Vm.Alike.refl U.vm) qK, qD⟩, va_recv hKc hPc (ci := 7) (q0 := 0) rfl rfl, fun U hU hW => ⟨rfl, by rw [hU], by rw [hU]; exact hPc, va_K.moved hW.alike hKc, hDc.weaken (fun _ _ _ _ => trivial)⟩⟩ rfl rfl hl.1 rfl (lv_room (Nat.le_of_ble_eq_true rfl)) d_Lw_law_96 ⟨Nat.le_of_ble_eq_true rfl, Nat.le_of_ble_eq_true rfl⟩) hS (fun q _ h => hFc q h) hFc (fun r_2 u t H1 locs ht hvm hw9 hB hz1 hk1 hS => ?_)
    obtain ⟨hP1, hK1, hD1⟩ := hB
    rw [ht] at hP1
    have hK1 := va_K.moved hvm.symm hK1
    obtain ⟨hP, hD⟩ := va_join (wr := [(b1, .inr (2, [.ref g0, .ref g1, .ref g2, .int 0])), (s0, .inr (3, [.ref r0, .ref t0, .ref w0, .ref l0, .ref k0, .ref v0, .ref v1, .ref v2, .int 0, .int 0, .int 0, .int 0])), (t0, .inr (4, [.ref u0, .ref u1, .ref u2, .ref u3, .ref u4, .int 0, .int 0, .int 0, .int 1])), (w0, .inr (5, [.ref r0, .ref t0, .ref y0, .ref y1])), (j4, .inl (ca, 401, .inl fw)), (h0, .inr (6, [.ref b0, .ref b1, .ref s0, .ref b3, .int 0, .int 0, .int 0, .int 0])), (o0, .inl (cl, 1, .inr (.inl fo)))]) (w1 := [(m0, .inr (7, [.ref j0, .ref j1, .ref j2, .ref j3, .ref j4, .int 0, .int 0, .int 0, .int 0, .int 0, .int 1, .ref j5, .int 0, .ref j6, .ref j7]))]) hP hD [4] [0, 1, 2, 3, 5, 6, 7] rfl rfl (by decide) (by decide) hk1 hFc hP1 hD1
    generalize H1 = H at hP hS ⊢
    have hP : va_P (dC, dI) vwCl [(b1, .inr (2, [.ref g0, .ref g1, .ref g2, .int 0])), (s0, .inr (3, [.ref r0, .ref t0, .ref w0, .ref l0, .ref k0, .ref v0, .ref v1, .ref v2, .int 0, .int 0, .int 0, .int 0])), (t0, .inr (4, [.ref u0, .ref u1, .ref u2, .ref u3, .ref u4, .int 0, .int 0, .int 0, .int 1])), (w0, .inr (5, [.ref r0, .ref t0, .ref y0, .ref y1])), (j4, .inl (ca, 401, .inl fw)), (h0, .inr (6, [.ref b0, .ref b1, .ref s0, .ref b3, .int 0, .int 0, .int 0, .int 0])), (o0, .inl (cl, 1, .inr (.inl fo))), (m0, .inr (7, [.ref j0, .ref j1, .ref j2, .ref j3, .ref j4, .int 0, .int 0, .int 0, .int 0, .int 0, .int 1, .ref j5, .int 0, .ref j6, .ref j7]))] H := hP
    have hD : va_D (fun q : Nat => s.heap.size ≤ q) [(b1, .inr (2, [.ref g0, .ref g1, .ref g2, .int 0])), (s0, .inr (3, [.ref r0, .ref t0, .ref w0, .ref l0, .ref k0, .ref v0, .ref v1, .ref v2, .int 0, .int 0, .int 0, .int 0])), (t0, .inr (4, [.ref u0, .ref u1, .ref u2, .ref u3, .ref u4, .int 0, .int 0, .int 0, .int 1])), (w0, .inr (5, [.ref r0, .ref t0, .ref y0, .ref y1])), (j4, .inl (ca, 401, .inl fw)), (h0, .inr (6, [.ref b0, .ref b1, .ref s0, .ref b3, .int 0, .int 0, .int 0, .int 0])), (o0, .inl (cl, 1, .inr (.inl fo))), (m0, .inr (7, [.ref j0, .ref j1, .ref j2, .ref j3, .ref j4, .int 0, .int 0, .int 0, .int 0, .int 0, .int 1, .ref j5, .int 0, .ref j6, .ref j7]))] := hD
    refine W.widen (k := 46) (n := 95487) (by decide) (by decide) ?_
    have hw9 : r_2 = 0 := hw9
    subst hw9
    refine lv_istore (lv' := [(6, .int 0), (5, .int 1), (0, .ref b), (1, .ref h0), (2, .ref m0), (3, .ref o0), (4, .int 0)]) hx hb d_Lw_law_99 hl (by decide) rfl (fun ls hl => ?_)
    refine lv_aload_n hx hb d_Lw_law_101 rfl (lv_at hl 4 rfl) ?_
    have hPc := hP.sub (ws' := [(m0, .inr (7, [.ref j0, .ref j1, .ref j2, .ref j3, .ref j4, .int 0, .int 0, .int 0, .int 0, .int 0, .int 1, .ref j5, .int 0, .ref j6, .ref j7]))]) [7] rfl
    have hDc := hD.sub (ws' := [(m0, .inr (7, [.ref j0, .ref j1, .ref j2, .ref j3, .ref j4, .int 0, .int 0, .int 0, .int 0, .int 0, .int 1, .ref j5, .int 0, .ref j6, .ref j7]))]) [7] (by decide) rfl
    have hKc := hK.sub (tys' := []) [] rfl
    have hFc := va_free (wc := [(m0, .inr (7, [.ref j0, .ref j1, .ref j2, .ref j3, .ref j4, .int 0, .int 0, .int 0, .int 0, .int 0, .int 1, .ref j5, .int 0, .ref j6, .ref j7]))]) hD hS hA [7] rfl
    refine va_calli (va_runV (As := []) (rest := []) ⟨hx, hb, hml, hown, hw⟩ (c_Md_thrown l dC dI m0 j0 j1 j2 j3 j4 j5 j6 j7 H.size 0 0 0 0 0 1 0) (cb_V (C := R_Md) 0 hw k_653 k_37 k_650 k_651 k_652 rfl rfl (by decide +kernel) ⟨Nat.le_of_ble_eq_true rfl, Nat.le_of_ble_eq_true rfl⟩) ⟨fun a U g mk q => by obtain ⟨q0, q1, qP, qK, qD⟩ := q; exact ⟨q0, q1, qP, va_K.moved (u := U) (U := U.calling g mk a) (Vm.Alike.refl U.vm) qK, qD⟩, va_recv hKc hPc (ci := 7) (q0 := 0) rfl rfl, fun U hU hW => ⟨rfl, by rw [hU], by rw [hU]; exact hPc, va_K.moved hW.alike hKc, hDc.weaken (fun _ _ _ _ => trivial)⟩⟩ rfl rfl hl.1 rfl (lv_room (Nat.le_of_ble_eq_true rfl)) d_Lw_law_102 ⟨Nat.le_of_ble_eq_true rfl, Nat.le_of_ble_eq_true rfl⟩) hS (fun q _ h => hFc q h) hFc (fun r_3 u t H1 locs ht hvm hw9 hB hz1 hk1 hS => ?_)
    obtain ⟨hP1, hK1, hD1⟩ := hB
    rw [ht] at hP1
    have hK1 := va_K.moved hvm.symm hK1
    obtain ⟨hP, hD⟩ := va_join (wr := [(b1, .inr (2, [.ref g0, .ref g1, .ref g2, .int 0])), (s0, .inr (3, [.ref r0, .ref t0, .ref w0, .ref l0, .ref k0, .ref v0, .ref v1, .ref v2, .int 0, .int 0, .int 0, .int 0])), (t0, .inr (4, [.ref u0, .ref u1, .ref u2, .ref u3, .ref u4, .int 0, .int 0, .int 0, .int 1])), (w0, .inr (5, [.ref r0, .ref t0, .ref y0, .ref y1])), (j4, .inl (ca, 401, .inl fw)), (h0, .inr (6, [.ref b0, .ref b1, .ref s0, .ref b3, .int 0, .int 0, .int 0, .int 0])), (o0, .inl (cl, 1, .inr (.inl fo)))]) (w1 := [(m0, .inr (7, [.ref j0, .ref j1, .ref j2, .ref j3, .ref j4, .int 0, .int 0, .int 0, .int 0, .int 0, .int 1, .ref j5, .int 0, .ref j6, .ref j7]))]) hP hD [7] [0, 1, 2, 3, 4, 5, 6] rfl rfl (by decide) (by decide) hk1 hFc hP1 hD1
    generalize H1 = H at hP hS ⊢
    have hP : va_P (dC, dI) vwCl [(b1, .inr (2, [.ref g0, .ref g1, .ref g2, .int 0])), (s0, .inr (3, [.ref r0, .ref t0, .ref w0, .ref l0, .ref k0, .ref v0, .ref v1, .ref v2, .int 0, .int 0, .int 0, .int 0])), (t0, .inr (4, [.ref u0, .ref u1, .ref u2, .ref u3, .ref u4, .int 0, .int 0, .int 0, .int 1])), (w0, .inr (5, [.ref r0, .ref t0, .ref y0, .ref y1])), (j4, .inl (ca, 401, .inl fw)), (h0, .inr (6, [.ref b0, .ref b1, .ref s0, .ref b3, .int 0, .int 0, .int 0, .int 0])), (o0, .inl (cl, 1, .inr (.inl fo))), (m0, .inr (7, [.ref j0, .ref j1, .ref j2, .ref j3, .ref j4, .int 0, .int 0, .int 0, .int 0, .int 0, .int 1, .ref j5, .int 0, .ref j6, .ref j7]))] H := hP
    have hD : va_D (fun q : Nat => s.heap.size ≤ q) [(b1, .inr (2, [.ref g0, .ref g1, .ref g2, .int 0])), (s0, .inr (3, [.ref r0, .ref t0, .ref w0, .ref l0, .ref k0, .ref v0, .ref v1, .ref v2, .int 0, .int 0, .int 0, .int 0])), (t0, .inr (4, [.ref u0, .ref u1, .ref u2, .ref u3, .ref u4, .int 0, .int 0, .int 0, .int 1])), (w0, .inr (5, [.ref r0, .ref t0, .ref y0, .ref y1])), (j4, .inl (ca, 401, .inl fw)), (h0, .inr (6, [.ref b0, .ref b1, .ref s0, .ref b3, .int 0, .int 0, .int 0, .int 0])), (o0, .inl (cl, 1, .inr (.inl fo))), (m0, .inr (7, [.ref j0, .ref j1, .ref j2, .ref j3, .ref j4, .int 0, .int 0, .int 0, .int 0, .int 0, .int 1, .ref j5, .int 0, .ref j6, .ref j7]))] := hD
    refine W.widen (k := 46) (n := 95487) (by decide) (by decide) ?_
    have hw9 : r_3 = 1 := hw9
    subst hw9
    refine lv_iload hx hb d_Lw_law_105 (lv_at hl 1 rfl) ?_
    refine lv_icmp_eq (tgt := 112) hx hb d_Lw_law_107 (by decide) (fun c_107 => ?_) (fun c_107 => absurd c_107 (by decide))
    refine lv_iload hx hb d_Lw_law_112 (lv_at hl 1 rfl) ?_
    refine lv_if_ne (tgt := 129) hx hb d_Lw_law_114 (by decide) (fun c_114 => ?_) (fun c_114 => absurd c_114 (by decide))
    refine lv_goto (tgt := 364) hx hb d_Lw_law_129 (by decide) ?_
    obtain ⟨v_4, ev_4⟩ : ∃ y : Int32, y = 0 + 2 := ⟨_, rfl⟩
    refine lv_iinc (v := v_4) (lv' := [(4, .int v_4), (6, .int 0), (5, .int 1), (0, .ref b), (1, .ref h0), (2, .ref m0), (3, .ref o0)]) hx hb d_Lw_law_364 hl (k := 6) rfl (by rw [ev_4]; rfl) (by decide) rfl (fun ls hl => ?_)
    refine lv_goto (tgt := 23) hx hb d_Lw_law_367 (by decide) ?_
    exact lw_exit C1 (by decide) (by decide) _ _ ls v_4 (by rw [ev_4]; decide) hS (lv_sub hl [3, 0] rfl)
  · refine lv_aload_n hx hb d_Lw_law_76 rfl (lv_at hl 1 rfl) ?_
    refine lv_aload_n hx hb d_Lw_law_77 rfl (lv_at hl 0 rfl) ?_
    refine lv_iload hx hb d_Lw_law_78 (lv_at hl 4 rfl) ?_
    refine lv_iconst (v := 1) hx hb d_Lw_law_80 (by decide) ?_
    refine lv_iadd hx hb d_Lw_law_81 ?_
    refine va_sld hx hb hX hbl hbA hS (by unfold vp_in; decide) d_Lw_law_82 ?_
    refine lv_aload_n hx hb d_Lw_law_83 rfl (lv_at hl 3 rfl) ?_
    have hPc := hP.sub (ws' := [(h0, .inr (6, [.ref b0, .ref b1, .ref s0, .ref b3, .int 0, .int 0, .int 0, .int 0])), (o0, .inl (cl, 1, .inr (.inl fo)))]) [0, 7] rfl
    have hDc := hD.sub (ws' := [(h0, .inr (6, [.ref b0, .ref b1, .ref s0, .ref b3, .int 0, .int 0, .int 0, .int 0])), (o0, .inl (cl, 1, .inr (.inl fo)))]) [0, 7] (by decide) rfl
    have hKc := hK.sub (tys' := [(cl, .long)]) [1] rfl
    have hFc := va_free (wc := [(h0, .inr (6, [.ref b0, .ref b1, .ref s0, .ref b3, .int 0, .int 0, .int 0, .int 0])), (o0, .inl (cl, 1, .inr (.inl fo)))]) hD hS hA [0, 7] rfl
    refine va_calli (th_runS (n := 3) (As := [.ref h0, .int (xs (0 + 1 : Int32).toNatClampNeg), .ref o0]) (rest := []) ⟨hx, hb, hml, hown, hw⟩ (c_Lw_variables l dC dI h0 b0 b1 s0 b3 o0 cl H.size 0 0 0 0 (xs (0 + 1 : Int32).toNatClampNeg) fo (fun q => hc (Or.inl q)) (Int32.not_lt.mp (fun q => hc (Or.inr q))) (by rw [Int32.zero_add]; exact Int32.not_lt.mp (fun q => hc (Or.inr q)))) k_447 k_28 k_445 k_446 rfl rfl (by decide +kernel) ⟨Nat.le_of_ble_eq_true rfl, Nat.le_of_ble_eq_true rfl⟩ ⟨fun a U g mk q => by obtain ⟨q0, q1, qP, qK, qD⟩ := q; exact ⟨q0, q1, qP, va_K.moved (u := U) (U := U.calling g mk a) (Vm.Alike.refl U.vm) qK, qD⟩, fun U hU hW => ⟨rfl, by rw [hU], by rw [hU]; exact hPc, va_K.moved hW.alike hKc, hDc.weaken (fun _ _ _ _ => trivial)⟩⟩ rfl rfl hl.1 rfl (lv_room (Nat.le_of_ble_eq_true rfl)) d_Lw_law_84 ⟨Nat.le_of_ble_eq_true rfl, Nat.le_of_ble_eq_true rfl⟩) hS (fun q _ h => hFc q h) hFc (fun r_5 u t H1 locs ht hvm hw9 hB hz1 hk1 hS => ?_)
    obtain ⟨hP1, hK1, hD1⟩ := hB
    rw [ht] at hP1
    have hK1 := va_K.moved hvm.symm hK1
    obtain ⟨hP, hD⟩ := va_join (wr := [(b1, .inr (2, [.ref g0, .ref g1, .ref g2, .int 0])), (s0, .inr (3, [.ref r0, .ref t0, .ref w0, .ref l0, .ref k0, .ref v0, .ref v1, .ref v2, .int 0, .int 0, .int 0, .int 0])), (t0, .inr (4, [.ref u0, .ref u1, .ref u2, .ref u3, .ref u4, .int 0, .int 0, .int 0, .int 1])), (w0, .inr (5, [.ref r0, .ref t0, .ref y0, .ref y1])), (m0, .inr (7, [.ref j0, .ref j1, .ref j2, .ref j3, .ref j4, .int 0, .int 0, .int 0, .int 0, .int 0, .int 0, .ref j5, .int 0, .ref j6, .ref j7])), (j4, .inl (ca, 401, .inl fw))]) (w1 := [(o0, .inl (cl, 1, .inr (.inl (vp_updL fo ((0 : Int32).toNatClampNeg) ((0 + xs (0 + 1 : Int32).toNatClampNeg : Int32).toInt64))))), (h0, .inr (6, [.ref b0, .ref b1, .ref s0, .ref b3, .int 0, .int (0 + xs (0 + 1 : Int32).toNatClampNeg), .int 0, .int 0]))]) hP hD [0, 7] [1, 2, 3, 4, 5, 6] rfl rfl (by decide) (by decide) hk1 hFc hP1 hD1
    generalize H1 = H at hP hS ⊢
    have hP : va_P (dC, dI) vwCl [(b1, .inr (2, [.ref g0, .ref g1, .ref g2, .int 0])), (s0, .inr (3, [.ref r0, .ref t0, .ref w0, .ref l0, .ref k0, .ref v0, .ref v1, .ref v2, .int 0, .int 0, .int 0, .int 0])), (t0, .inr (4, [.ref u0, .ref u1, .ref u2, .ref u3, .ref u4, .int 0, .int 0, .int 0, .int 1])), (w0, .inr (5, [.ref r0, .ref t0, .ref y0, .ref y1])), (m0, .inr (7, [.ref j0, .ref j1, .ref j2, .ref j3, .ref j4, .int 0, .int 0, .int 0, .int 0, .int 0, .int 0, .ref j5, .int 0, .ref j6, .ref j7])), (j4, .inl (ca, 401, .inl fw)), (o0, .inl (cl, 1, .inr (.inl (vp_updL fo ((0 : Int32).toNatClampNeg) ((0 + xs (0 + 1 : Int32).toNatClampNeg : Int32).toInt64))))), (h0, .inr (6, [.ref b0, .ref b1, .ref s0, .ref b3, .int 0, .int (0 + xs (0 + 1 : Int32).toNatClampNeg), .int 0, .int 0]))] H := hP
    have hD : va_D (fun q : Nat => s.heap.size ≤ q) [(b1, .inr (2, [.ref g0, .ref g1, .ref g2, .int 0])), (s0, .inr (3, [.ref r0, .ref t0, .ref w0, .ref l0, .ref k0, .ref v0, .ref v1, .ref v2, .int 0, .int 0, .int 0, .int 0])), (t0, .inr (4, [.ref u0, .ref u1, .ref u2, .ref u3, .ref u4, .int 0, .int 0, .int 0, .int 1])), (w0, .inr (5, [.ref r0, .ref t0, .ref y0, .ref y1])), (m0, .inr (7, [.ref j0, .ref j1, .ref j2, .ref j3, .ref j4, .int 0, .int 0, .int 0, .int 0, .int 0, .int 0, .ref j5, .int 0, .ref j6, .ref j7])), (j4, .inl (ca, 401, .inl fw)), (o0, .inl (cl, 1, .inr (.inl (vp_updL fo ((0 : Int32).toNatClampNeg) ((0 + xs (0 + 1 : Int32).toNatClampNeg : Int32).toInt64))))), (h0, .inr (6, [.ref b0, .ref b1, .ref s0, .ref b3, .int 0, .int (0 + xs (0 + 1 : Int32).toNatClampNeg), .int 0, .int 0]))] := hD
    refine W.widen (k := 45) (n := 95481) (by decide) (by decide) ?_
    have hw9 : r_5 = 0 := hw9
    subst hw9
    refine lv_istore (lv' := [(5, .int 0), (0, .ref b), (1, .ref h0), (2, .ref m0), (3, .ref o0), (4, .int 0)]) hx hb d_Lw_law_87 hl (by decide) rfl (fun ls hl => ?_)
    refine lv_aload_n hx hb d_Lw_law_89 rfl (lv_at hl 3 rfl) ?_
    refine lv_aload_n hx hb d_Lw_law_90 rfl (lv_at hl 1 rfl) ?_
    refine lv_iload hx hb d_Lw_law_91 (lv_at hl 5 rfl) ?_
    refine lv_iconst (v := 1) hx hb d_Lw_law_93 (by decide) ?_
    refine lv_iadd hx hb d_Lw_law_94 ?_
    refine va_sld hx hb hX hbl hbA hS (by unfold vp_in; decide) d_Lw_law_95 ?_
    have hPc := hP.sub (ws' := [(m0, .inr (7, [.ref j0, .ref j1, .ref j2, .ref j3, .ref j4, .int 0, .int 0, .int 0, .int 0, .int 0, .int 0, .ref j5, .int 0, .ref j6, .ref j7]))]) [4] rfl
    have hDc := hD.sub (ws' := [(m0, .inr (7, [.ref j0, .ref j1, .ref j2, .ref j3, .ref j4, .int 0, .int 0, .int 0, .int 0, .int 0, .int 0, .ref j5, .int 0, .ref j6, .ref j7]))]) [4] (by decide) rfl
    have hKc := hK.sub (tys' := []) [] rfl
    have hFc := va_free (wc := [(m0, .inr (7, [.ref j0, .ref j1, .ref j2, .ref j3, .ref j4, .int 0, .int 0, .int 0, .int 0, .int 0, .int 0, .ref j5, .int 0, .ref j6, .ref j7]))]) hD hS hA [4] rfl
    refine va_calli (va_runV (As := [.int (xs (0 + 1 : Int32).toNatClampNeg)]) (rest := []) ⟨hx, hb, hml, hown, hw⟩ (c_Md_variables l dC dI m0 j0 j1 j2 j3 j4 j5 j6 j7 H.size 0 0 0 0 0 0 0 (xs (0 + 1 : Int32).toNatClampNeg) (fun q => hc (Or.inl q)) (fun q => hc (Or.inr q)) (by rw [Int32.zero_add]; exact fun q => hc (Or.inr q))) (cb_V (C := R_Md) 1 hw k_657 k_37 k_654 k_655 k_656 rfl rfl (by decide +kernel) ⟨Nat.le_of_ble_eq_true rfl, Nat.le_of_ble_eq_true rfl⟩) ⟨fun a U g mk q => by obtain ⟨q0, q1, qP, qK, qD⟩ := q; exact ⟨q0, q1, qP, va_K.moved (u := U) (U := U.calling g mk a) (Vm.Alike.refl U.vm) qK, qD⟩, va_recv hKc hPc (ci := 7) (q0 := 0) rfl rfl, fun U hU hW => ⟨rfl, by rw [hU], by rw [hU]; exact hPc, va_K.moved hW.alike hKc, hDc.weaken (fun _ _ _ _ => trivial)⟩⟩ rfl rfl hl.1 rfl (lv_room (Nat.le_of_ble_eq_true rfl)) d_Lw_law_96 ⟨Nat.le_of_ble_eq_true rfl, Nat.le_of_ble_eq_true rfl⟩) hS (fun q _ h => hFc q h) hFc (fun r_6 u t H1 locs ht hvm hw9 hB hz1 hk1 hS => ?_)
    obtain ⟨hP1, hK1, hD1⟩ := hB
    rw [ht] at hP1
    have hK1 := va_K.moved hvm.symm hK1
    obtain ⟨hP, hD⟩ := va_join (wr := [(b1, .inr (2, [.ref g0, .ref g1, .ref g2, .int 0])), (s0, .inr (3, [.ref r0, .ref t0, .ref w0, .ref l0, .ref k0, .ref v0, .ref v1, .ref v2, .int 0, .int 0, .int 0, .int 0])), (t0, .inr (4, [.ref u0, .ref u1, .ref u2, .ref u3, .ref u4, .int 0, .int 0, .int 0, .int 1])), (w0, .inr (5, [.ref r0, .ref t0, .ref y0, .ref y1])), (j4, .inl (ca, 401, .inl fw)), (o0, .inl (cl, 1, .inr (.inl (vp_updL fo ((0 : Int32).toNatClampNeg) ((0 + xs (0 + 1 : Int32).toNatClampNeg : Int32).toInt64))))), (h0, .inr (6, [.ref b0, .ref b1, .ref s0, .ref b3, .int 0, .int (0 + xs (0 + 1 : Int32).toNatClampNeg), .int 0, .int 0]))]) (w1 := [(m0, .inr (7, [.ref j0, .ref j1, .ref j2, .ref j3, .ref j4, .int (0 + xs (0 + 1 : Int32).toNatClampNeg), .int 0, .int 0, .int 0, .int 0, .int 0, .ref j5, .int 0, .ref j6, .ref j7]))]) hP hD [4] [0, 1, 2, 3, 5, 6, 7] rfl rfl (by decide) (by decide) hk1 hFc hP1 hD1
    generalize H1 = H at hP hS ⊢
    have hP : va_P (dC, dI) vwCl [(b1, .inr (2, [.ref g0, .ref g1, .ref g2, .int 0])), (s0, .inr (3, [.ref r0, .ref t0, .ref w0, .ref l0, .ref k0, .ref v0, .ref v1, .ref v2, .int 0, .int 0, .int 0, .int 0])), (t0, .inr (4, [.ref u0, .ref u1, .ref u2, .ref u3, .ref u4, .int 0, .int 0, .int 0, .int 1])), (w0, .inr (5, [.ref r0, .ref t0, .ref y0, .ref y1])), (j4, .inl (ca, 401, .inl fw)), (o0, .inl (cl, 1, .inr (.inl (vp_updL fo ((0 : Int32).toNatClampNeg) ((0 + xs (0 + 1 : Int32).toNatClampNeg : Int32).toInt64))))), (h0, .inr (6, [.ref b0, .ref b1, .ref s0, .ref b3, .int 0, .int (0 + xs (0 + 1 : Int32).toNatClampNeg), .int 0, .int 0])), (m0, .inr (7, [.ref j0, .ref j1, .ref j2, .ref j3, .ref j4, .int (0 + xs (0 + 1 : Int32).toNatClampNeg), .int 0, .int 0, .int 0, .int 0, .int 0, .ref j5, .int 0, .ref j6, .ref j7]))] H := hP
    have hD : va_D (fun q : Nat => s.heap.size ≤ q) [(b1, .inr (2, [.ref g0, .ref g1, .ref g2, .int 0])), (s0, .inr (3, [.ref r0, .ref t0, .ref w0, .ref l0, .ref k0, .ref v0, .ref v1, .ref v2, .int 0, .int 0, .int 0, .int 0])), (t0, .inr (4, [.ref u0, .ref u1, .ref u2, .ref u3, .ref u4, .int 0, .int 0, .int 0, .int 1])), (w0, .inr (5, [.ref r0, .ref t0, .ref y0, .ref y1])), (j4, .inl (ca, 401, .inl fw)), (o0, .inl (cl, 1, .inr (.inl (vp_updL fo ((0 : Int32).toNatClampNeg) ((0 + xs (0 + 1 : Int32).toNatClampNeg : Int32).toInt64))))), (h0, .inr (6, [.ref b0, .ref b1, .ref s0, .ref b3, .int 0, .int (0 + xs (0 + 1 : Int32).toNatClampNeg), .int 0, .int 0])), (m0, .inr (7, [.ref j0, .ref j1, .ref j2, .ref j3, .ref j4, .int (0 + xs (0 + 1 : Int32).toNatClampNeg), .int 0, .int 0, .int 0, .int 0, .int 0, .ref j5, .int 0, .ref j6, .ref j7]))] := hD
    refine W.widen (k := 45) (n := 95481) (by decide) (by decide) ?_
    have hw9 : r_6 = 0 + xs (0 + 1 : Int32).toNatClampNeg := hw9
    subst hw9
    refine lv_istore (lv' := [(6, .int (0 + xs (0 + 1 : Int32).toNatClampNeg)), (5, .int 0), (0, .ref b), (1, .ref h0), (2, .ref m0), (3, .ref o0), (4, .int 0)]) hx hb d_Lw_law_99 hl (by decide) rfl (fun ls hl => ?_)
    refine lv_aload_n hx hb d_Lw_law_101 rfl (lv_at hl 4 rfl) ?_
    have hPc := hP.sub (ws' := [(m0, .inr (7, [.ref j0, .ref j1, .ref j2, .ref j3, .ref j4, .int (0 + xs (0 + 1 : Int32).toNatClampNeg), .int 0, .int 0, .int 0, .int 0, .int 0, .ref j5, .int 0, .ref j6, .ref j7]))]) [7] rfl
    have hDc := hD.sub (ws' := [(m0, .inr (7, [.ref j0, .ref j1, .ref j2, .ref j3, .ref j4, .int (0 + xs (0 + 1 : Int32).toNatClampNeg), .int 0, .int 0, .int 0, .int 0, .int 0, .ref j5, .int 0, .ref j6, .ref j7]))]) [7] (by decide) rfl
    have hKc := hK.sub (tys' := []) [] rfl
    have hFc := va_free (wc := [(m0, .inr (7, [.ref j0, .ref j1, .ref j2, .ref j3, .ref j4, .int (0 + xs (0 + 1 : Int32).toNatClampNeg), .int 0, .int 0, .int 0, .int 0, .int 0, .ref j5, .int 0, .ref j6, .ref j7]))]) hD hS hA [7] rfl
    refine va_calli (va_runV (As := []) (rest := []) ⟨hx, hb, hml, hown, hw⟩ (c_Md_thrown l dC dI m0 j0 j1 j2 j3 j4 j5 j6 j7 H.size (0 + xs (0 + 1 : Int32).toNatClampNeg) 0 0 0 0 0 0) (cb_V (C := R_Md) 0 hw k_653 k_37 k_650 k_651 k_652 rfl rfl (by decide +kernel) ⟨Nat.le_of_ble_eq_true rfl, Nat.le_of_ble_eq_true rfl⟩) ⟨fun a U g mk q => by obtain ⟨q0, q1, qP, qK, qD⟩ := q; exact ⟨q0, q1, qP, va_K.moved (u := U) (U := U.calling g mk a) (Vm.Alike.refl U.vm) qK, qD⟩, va_recv hKc hPc (ci := 7) (q0 := 0) rfl rfl, fun U hU hW => ⟨rfl, by rw [hU], by rw [hU]; exact hPc, va_K.moved hW.alike hKc, hDc.weaken (fun _ _ _ _ => trivial)⟩⟩ rfl rfl hl.1 rfl (lv_room (Nat.le_of_ble_eq_true rfl)) d_Lw_law_102 ⟨Nat.le_of_ble_eq_true rfl, Nat.le_of_ble_eq_true rfl⟩) hS (fun q _ h => hFc q h) hFc (fun r_7 u t H1 locs ht hvm hw9 hB hz1 hk1 hS => ?_)
    obtain ⟨hP1, hK1, hD1⟩ := hB
    rw [ht] at hP1
    have hK1 := va_K.moved hvm.symm hK1
    obtain ⟨hP, hD⟩ := va_join (wr := [(b1, .inr (2, [.ref g0, .ref g1, .ref g2, .int 0])), (s0, .inr (3, [.ref r0, .ref t0, .ref w0, .ref l0, .ref k0, .ref v0, .ref v1, .ref v2, .int 0, .int 0, .int 0, .int 0])), (t0, .inr (4, [.ref u0, .ref u1, .ref u2, .ref u3, .ref u4, .int 0, .int 0, .int 0, .int 1])), (w0, .inr (5, [.ref r0, .ref t0, .ref y0, .ref y1])), (j4, .inl (ca, 401, .inl fw)), (o0, .inl (cl, 1, .inr (.inl (vp_updL fo ((0 : Int32).toNatClampNeg) ((0 + xs (0 + 1 : Int32).toNatClampNeg : Int32).toInt64))))), (h0, .inr (6, [.ref b0, .ref b1, .ref s0, .ref b3, .int 0, .int (0 + xs (0 + 1 : Int32).toNatClampNeg), .int 0, .int 0]))]) (w1 := [(m0, .inr (7, [.ref j0, .ref j1, .ref j2, .ref j3, .ref j4, .int (0 + xs (0 + 1 : Int32).toNatClampNeg), .int 0, .int 0, .int 0, .int 0, .int 0, .ref j5, .int 0, .ref j6, .ref j7]))]) hP hD [7] [0, 1, 2, 3, 4, 5, 6] rfl rfl (by decide) (by decide) hk1 hFc hP1 hD1
    generalize H1 = H at hP hS ⊢
    have hP : va_P (dC, dI) vwCl [(b1, .inr (2, [.ref g0, .ref g1, .ref g2, .int 0])), (s0, .inr (3, [.ref r0, .ref t0, .ref w0, .ref l0, .ref k0, .ref v0, .ref v1, .ref v2, .int 0, .int 0, .int 0, .int 0])), (t0, .inr (4, [.ref u0, .ref u1, .ref u2, .ref u3, .ref u4, .int 0, .int 0, .int 0, .int 1])), (w0, .inr (5, [.ref r0, .ref t0, .ref y0, .ref y1])), (j4, .inl (ca, 401, .inl fw)), (o0, .inl (cl, 1, .inr (.inl (vp_updL fo ((0 : Int32).toNatClampNeg) ((0 + xs (0 + 1 : Int32).toNatClampNeg : Int32).toInt64))))), (h0, .inr (6, [.ref b0, .ref b1, .ref s0, .ref b3, .int 0, .int (0 + xs (0 + 1 : Int32).toNatClampNeg), .int 0, .int 0])), (m0, .inr (7, [.ref j0, .ref j1, .ref j2, .ref j3, .ref j4, .int (0 + xs (0 + 1 : Int32).toNatClampNeg), .int 0, .int 0, .int 0, .int 0, .int 0, .ref j5, .int 0, .ref j6, .ref j7]))] H := hP
    have hD : va_D (fun q : Nat => s.heap.size ≤ q) [(b1, .inr (2, [.ref g0, .ref g1, .ref g2, .int 0])), (s0, .inr (3, [.ref r0, .ref t0, .ref w0, .ref l0, .ref k0, .ref v0, .ref v1, .ref v2, .int 0, .int 0, .int 0, .int 0])), (t0, .inr (4, [.ref u0, .ref u1, .ref u2, .ref u3, .ref u4, .int 0, .int 0, .int 0, .int 1])), (w0, .inr (5, [.ref r0, .ref t0, .ref y0, .ref y1])), (j4, .inl (ca, 401, .inl fw)), (o0, .inl (cl, 1, .inr (.inl (vp_updL fo ((0 : Int32).toNatClampNeg) ((0 + xs (0 + 1 : Int32).toNatClampNeg : Int32).toInt64))))), (h0, .inr (6, [.ref b0, .ref b1, .ref s0, .ref b3, .int 0, .int (0 + xs (0 + 1 : Int32).toNatClampNeg), .int 0, .int 0])), (m0, .inr (7, [.ref j0, .ref j1, .ref j2, .ref j3, .ref j4, .int (0 + xs (0 + 1 : Int32).toNatClampNeg), .int 0, .int 0, .int 0, .int 0, .int 0, .ref j5, .int 0, .ref j6, .ref j7]))] := hD
    refine W.widen (k := 45) (n := 95481) (by decide) (by decide) ?_
    have hw9 : r_7 = 0 := hw9
    subst hw9
    refine lv_iload hx hb d_Lw_law_105 (lv_at hl 1 rfl) ?_
    refine lv_icmp_eq (tgt := 112) hx hb d_Lw_law_107 (by decide) (fun c_107 => ?_) (fun c_107 => absurd c_107 (by decide))
    refine lv_iload hx hb d_Lw_law_112 (lv_at hl 1 rfl) ?_
    refine lv_if_ne (tgt := 129) hx hb d_Lw_law_114 (by decide) (fun c_114 => absurd c_114 (by decide)) (fun c_114 => ?_)
    refine lv_aload_n hx hb d_Lw_law_117 rfl (lv_at hl 5 rfl) ?_
    refine lv_iconst (v := 0) hx hb d_Lw_law_118 (by decide) ?_
    refine va_lald hx hb hK hP 5 1 rfl rfl (by unfold vp_in; decide) d_Lw_law_119 ?_
    refine lv_iload hx hb d_Lw_law_120 (lv_at hl 0 rfl) ?_
    refine lv_i2l (v := (0 + xs (0 + 1 : Int32).toNatClampNeg : Int32).toInt64) hx hb d_Lw_law_122 rfl ?_
    refine W.lcmp hx hb d_Lw_law_123 ?_
    refine lv_if_eq (tgt := 129) hx hb d_Lw_law_124 (by decide) (fun c_124 => ?_) (fun c_124 => absurd c_124 (fun q => q (by rw [pk_uLs]; exact lg_self _)))
    refine lv_goto (tgt := 364) hx hb d_Lw_law_129 (by decide) ?_
    obtain ⟨v_8, ev_8⟩ : ∃ y : Int32, y = 0 + 2 := ⟨_, rfl⟩
    refine lv_iinc (v := v_8) (lv' := [(4, .int v_8), (6, .int (0 + xs (0 + 1 : Int32).toNatClampNeg)), (5, .int 0), (0, .ref b), (1, .ref h0), (2, .ref m0), (3, .ref o0)]) hx hb d_Lw_law_364 hl (k := 6) rfl (by rw [ev_8]; rfl) (by decide) rfl (fun ls hl => ?_)
    refine lv_goto (tgt := 23) hx hb d_Lw_law_367 (by decide) ?_
    exact lw_exit C1 (by decide) (by decide) _ _ ls v_8 (by rw [ev_8]; decide) hS (lv_sub hl [3, 0] rfl)
