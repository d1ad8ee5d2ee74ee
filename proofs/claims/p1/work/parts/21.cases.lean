theorem k_589 : (Cond.methodLink "ClauseSearchLaw" 61 ⟨"ClauseSearchLaw", "count", "(LClauseSearch;I[J)I"⟩) ∈ bg_W := bg_in 589 (by decide +kernel) (by decide +kernel)
theorem k_590 : (Cond.static ⟨"ClauseSearchLaw", "count", "(LClauseSearch;I[J)I"⟩) ∈ bg_W := bg_in 590 (by decide +kernel) (by decide +kernel)
theorem k_591 : (Cond.codeWith ⟨"ClauseSearchLaw", "count", "(LClauseSearch;I[J)I"⟩ method_7_code 4 (some .int) [(0, 9, 12, 13)]) ∈ bg_W := bg_in 591 (by decide +kernel) (by decide +kernel)
theorem k_702 : (Cond.methodLink "ClauseSearchLaw" 63 ⟨"ClauseSearchModel", "count", "(I)I"⟩) ∈ bg_W := bg_in 702 (by decide +kernel) (by decide +kernel)
theorem k_703 : (Cond.instanceMethod ⟨"ClauseSearchModel", "count", "(I)I"⟩) ∈ bg_W := bg_in 703 (by decide +kernel) (by decide +kernel)
theorem k_704 : (Cond.selects "ClauseSearchModel" ⟨"ClauseSearchModel", "count", "(I)I"⟩ ⟨"ClauseSearchModel", "count", "(I)I"⟩) ∈ bg_W := bg_in 704 (by decide +kernel) (by decide +kernel)
theorem k_705 : (Cond.code ⟨"ClauseSearchModel", "count", "(I)I"⟩ prog_9_method_15_code 2 (some .int)) ∈ bg_W := bg_in 705 (by decide +kernel) (by decide +kernel)
theorem d_Lw_law_308 : decode code 308 = .ok (.aload_n 1, 1) := by decide +kernel
theorem d_Lw_law_309 : decode code 309 = .ok (.aload_n 0, 1) := by decide +kernel
theorem d_Lw_law_310 : decode code 310 = .ok (.iload 4, 2) := by decide +kernel
theorem d_Lw_law_312 : decode code 312 = .ok (.iconst 1, 1) := by decide +kernel
theorem d_Lw_law_313 : decode code 313 = .ok (.iadd, 1) := by decide +kernel
theorem d_Lw_law_314 : decode code 314 = .ok (.iaload, 1) := by decide +kernel
theorem d_Lw_law_315 : decode code 315 = .ok (.aload_n 3, 1) := by decide +kernel
theorem d_Lw_law_316 : decode code 316 = .ok (.invokestatic 61, 3) := by decide +kernel
theorem d_Lw_law_319 : decode code 319 = .ok (.istore 5, 2) := by decide +kernel
theorem d_Lw_law_321 : decode code 321 = .ok (.aload_n 2, 1) := by decide +kernel
theorem d_Lw_law_322 : decode code 322 = .ok (.aload_n 0, 1) := by decide +kernel
theorem d_Lw_law_323 : decode code 323 = .ok (.iload 4, 2) := by decide +kernel
theorem d_Lw_law_325 : decode code 325 = .ok (.iconst 1, 1) := by decide +kernel
theorem d_Lw_law_326 : decode code 326 = .ok (.iadd, 1) := by decide +kernel
theorem d_Lw_law_327 : decode code 327 = .ok (.iaload, 1) := by decide +kernel
theorem d_Lw_law_328 : decode code 328 = .ok (.invokevirtual 63, 3) := by decide +kernel
theorem d_Lw_law_331 : decode code 331 = .ok (.istore 6, 2) := by decide +kernel
theorem d_Lw_law_333 : decode code 333 = .ok (.aload_n 2, 1) := by decide +kernel
theorem d_Lw_law_334 : decode code 334 = .ok (.invokevirtual 43, 3) := by decide +kernel
theorem d_Lw_law_337 : decode code 337 = .ok (.iload 5, 2) := by decide +kernel
theorem d_Lw_law_339 : decode code 339 = .ok (.if_icmp .eq 5, 3) := by decide +kernel
theorem d_Lw_law_344 : decode code 344 = .ok (.iload 5, 2) := by decide +kernel
theorem d_Lw_law_346 : decode code 346 = .ok (.ifCond .ne 15, 3) := by decide +kernel
theorem d_Lw_law_361 : decode code 361 = .ok (.goto 3, 3) := by decide +kernel
theorem d_Lw_law_349 : decode code 349 = .ok (.aload_n 3, 1) := by decide +kernel
theorem d_Lw_law_350 : decode code 350 = .ok (.iconst 0, 1) := by decide +kernel
theorem d_Lw_law_351 : decode code 351 = .ok (.laload, 1) := by decide +kernel
theorem d_Lw_law_352 : decode code 352 = .ok (.iload 6, 2) := by decide +kernel
theorem d_Lw_law_354 : decode code 354 = .ok (.i2l, 1) := by decide +kernel
theorem d_Lw_law_355 : decode code 355 = .ok (.lcmp, 1) := by decide +kernel
theorem d_Lw_law_356 : decode code 356 = .ok (.ifCond .eq 5, 3) := by decide +kernel
set_option maxHeartbeats 4000000 in
set_option maxRecDepth 100000 in
/-- case 5 -/
theorem lw_c5 {p : Program} {l : Launch} {e : Env} {s : State} {m : MethodId} {below : List Frame} {meth : Method} {c : Code} {dC : Nat → ClassId} {dI : Nat → Nat → Nat} {b : Nat} {xs : Nat → Int32} (hfl : l.flags = pinnedFlags ++ [noTraceFlag]) (C1 : lw_At p s m meth c b 2 xs) (hZ0 : tw_Z s s.heap s.heap.size) (h0 b0 b1 s0 b3 g0 g1 g2 r0 t0 w0 l0 k0 v0 v1 v2 u0 u1 u2 u3 u4 y0 y1 m0 j0 j1 j2 j3 j4 j5 j6 j7 o0 : Nat) (ca cl : ClassId) (fw : Nat → Int32) (fo : Nat → Int64) (H : Heap) (locs : List Loc) (ls : Array Slot) (hK : va_K (dC, dI) vwCl [(ca, .int), (cl, .long)] s) (hP : va_P (dC, dI) vwCl [(h0, .inr (6, [.ref b0, .ref b1, .ref s0, .ref b3, .int 0, .int 0, .int 0, .int 0])), (b1, .inr (2, [.ref g0, .ref g1, .ref g2, .int 0])), (s0, .inr (3, [.ref r0, .ref t0, .ref w0, .ref l0, .ref k0, .ref v0, .ref v1, .ref v2, .int 0, .int 0, .int 0, .int 0])), (t0, .inr (4, [.ref u0, .ref u1, .ref u2, .ref u3, .ref u4, .int 0, .int 0, .int 0, .int 1])), (w0, .inr (5, [.ref r0, .ref t0, .ref y0, .ref y1])), (m0, .inr (7, [.ref j0, .ref j1, .ref j2, .ref j3, .ref j4, .int 0, .int 0, .int 0, .int 0, .int 0, .int 0, .ref j5, .int 0, .ref j6, .ref j7])), (j4, .inl (ca, 401, .inl fw)), (o0, .inl (cl, 1, .inr (.inl fo)))] H) (hD : va_D (fun q : Nat => s.heap.size ≤ q) [(h0, .inr (6, [.ref b0, .ref b1, .ref s0, .ref b3, .int 0, .int 0, .int 0, .int 0])), (b1, .inr (2, [.ref g0, .ref g1, .ref g2, .int 0])), (s0, .inr (3, [.ref r0, .ref t0, .ref w0, .ref l0, .ref k0, .ref v0, .ref v1, .ref v2, .int 0, .int 0, .int 0, .int 0])), (t0, .inr (4, [.ref u0, .ref u1, .ref u2, .ref u3, .ref u4, .int 0, .int 0, .int 0, .int 1])), (w0, .inr (5, [.ref r0, .ref t0, .ref y0, .ref y1])), (m0, .inr (7, [.ref j0, .ref j1, .ref j2, .ref j3, .ref j4, .int 0, .int 0, .int 0, .int 0, .int 0, .int 0, .ref j5, .int 0, .ref j6, .ref j7])), (j4, .inl (ca, 401, .inl fw)), (o0, .inl (cl, 1, .inr (.inl fo)))]) (hS : va_S (fun q : Nat => s.heap.size ≤ q) s.heap H locs) (hl : lv_has ls 7 [(0, .ref b), (1, .ref h0), (2, .ref m0), (3, .ref o0), (4, .int 0)]) : W p l e room_1 s m #[Value.ref b] below meth c H locs 45 95481 (lw_Z below #[Value.ref b] s) (F0 m 308 ls []) := by
  obtain ⟨hx, hb, hr, hml, hown, hts, hX, hbl, hlocks, hgv⟩ := id C1
  have hw : ∀ w ∈ bg_W, w.before #[Value.ref b] s = true := fun w h => hts w (bg_sub w h)
  have hown : s.vm.findClass R_Lw = some m.cls := hown
  have hA : ∀ q : Nat, s.heap.size ≤ q → (fun q : Nat => s.heap.size ≤ q) q := fun _ h => h
  have hbA : ¬ (fun q : Nat => s.heap.size ≤ q) b := Nat.not_le.mpr hbl
  by_cases hc : (xs ((0 + 1) : Int32).toNatClampNeg).toInt < 0 ∨ 5 < (xs ((0 + 1) : Int32).toNatClampNeg).toInt
  · refine lv_aload_n hx hb d_Lw_law_308 rfl (lv_at hl 1 rfl) ?_
    refine lv_aload_n hx hb d_Lw_law_309 rfl (lv_at hl 0 rfl) ?_
    refine lv_iload hx hb d_Lw_law_310 (lv_at hl 4 rfl) ?_
    refine lv_iconst (v := 1) hx hb d_Lw_law_312 (by decide) ?_
    refine lv_iadd hx hb d_Lw_law_313 ?_
    refine va_sld hx hb hX hbl hbA hS (by unfold vp_in; decide) d_Lw_law_314 ?_
    refine lv_aload_n hx hb d_Lw_law_315 rfl (lv_at hl 3 rfl) ?_
    have hZ : tw_Z s H s.heap.size := hZ0.kept (fun a ha => hS.2.1 a ha (Nat.not_le.mpr ha))
    have hPc := hP.sub (ws' := [(h0, .inr (6, [.ref b0, .ref b1, .ref s0, .ref b3, .int 0, .int 0, .int 0, .int 0])), (o0, .inl (cl, 1, .inr (.inl fo)))]) [0, 7] rfl
    have hDc := hD.sub (ws' := [(h0, .inr (6, [.ref b0, .ref b1, .ref s0, .ref b3, .int 0, .int 0, .int 0, .int 0])), (o0, .inl (cl, 1, .inr (.inl fo)))]) [0, 7] (by decide) rfl
    have hKc := hK.sub (tys' := [(cl, .long)]) [1] rfl
    have hFc := va_free (wc := [(h0, .inr (6, [.ref b0, .ref b1, .ref s0, .ref b3, .int 0, .int 0, .int 0, .int 0])), (o0, .inl (cl, 1, .inr (.inl fo)))]) hD hS hA [0, 7] rfl
    refine va_calli (th_runS (n := 3) (As := [.ref h0, .int (xs (0 + 1 : Int32).toNatClampNeg), .ref o0]) (rest := []) ⟨hx, hb, hml, hown, hw⟩ (c_Lw_count_1 l hfl dC dI h0 b0 b1 s0 b3 o0 cl H.size s.heap.size 0 0 0 0 (xs (0 + 1 : Int32).toNatClampNeg) fo hc) k_591 k_28 k_589 k_590 rfl rfl (by decide +kernel) ⟨Nat.le_of_ble_eq_true rfl, Nat.le_of_ble_eq_true rfl⟩ ⟨fun a U g mk q => by obtain ⟨q0, q1, qP, qK, qD, qZ⟩ := q; exact ⟨q0, q1, qP, va_K.moved (u := U) (U := U.calling g mk a) (Vm.Alike.refl U.vm) qK, qD, tw_Z.moved (u := U) (U := U.calling g mk a) (Vm.Alike.refl U.vm) qZ⟩, fun U hU hW => ⟨rfl, by rw [hU], by rw [hU]; exact hPc, va_K.moved hW.alike hKc, hDc.weaken (fun _ _ _ _ => trivial), by rw [hU]; exact hZ.moved hW.alike⟩⟩ rfl rfl hl.1 rfl (lv_room (Nat.le_of_ble_eq_true rfl)) d_Lw_law_316 ⟨Nat.le_of_ble_eq_true rfl, Nat.le_of_ble_eq_true rfl⟩) hS (fun q _ h => hFc q h) hFc (fun r_1 u t H1 locs ht hvm hw9 hB hz1 hk1 hS => ?_)
    obtain ⟨hP1, hK1, hD1⟩ := hB
    rw [ht] at hP1
    have hK1 := va_K.moved hvm.symm hK1
    obtain ⟨hP, hD⟩ := va_join (wr := [(b1, .inr (2, [.ref g0, .ref g1, .ref g2, .int 0])), (s0, .inr (3, [.ref r0, .ref t0, .ref w0, .ref l0, .ref k0, .ref v0, .ref v1, .ref v2, .int 0, .int 0, .int 0, .int 0])), (t0, .inr (4, [.ref u0, .ref u1, .ref u2, .ref u3, .ref u4, .int 0, .int 0, .int 0, .int 1])), (w0, .inr (5, [.ref r0, .ref t0, .ref y0, .ref y1])), (m0, .inr (7, [.ref j0, .ref j1, .ref j2, .ref j3, .ref j4, .int 0, .int 0, .int 0, .int 0, .int 0, .int 0, .ref j5, .int 0, .ref j6, .ref j7])), (j4, .inl (ca, 401, .inl fw))]) (w1 := [(h0, .inr (6, [.ref b0, .ref b1, .ref s0, .ref b3, .int 0, .int 0, .int 0, .int 0])), (o0, .inl (cl, 1, .inr (.inl fo)))]) hP hD [0, 7] [1, 2, 3, 4, 5, 6] rfl rfl (by decide) (by decide) hk1 hFc hP1 hD1
    generalize H1 = H at hP hS ⊢
    have hP : va_P (dC, dI) vwCl [(b1, .inr (2, [.ref g0, .ref g1, .ref g2, .int 0])), (s0, .inr (3, [.ref r0, .ref t0, .ref w0, .ref l0, .ref k0, .ref v0, .ref v1, .ref v2, .int 0, .int 0, .int 0, .int 0])), (t0, .inr (4, [.ref u0, .ref u1, .ref u2, .ref u3, .ref u4, .int 0, .int 0, .int 0, .int 1])), (w0, .inr (5, [.ref r0, .ref t0, .ref y0, .ref y1])), (m0, .inr (7, [.ref j0, .ref j1, .ref j2, .ref j3, .ref j4, .int 0, .int 0, .int 0, .int 0, .int 0, .int 0, .ref j5, .int 0, .ref j6, .ref j7])), (j4, .inl (ca, 401, .inl fw)), (h0, .inr (6, [.ref b0, .ref b1, .ref s0, .ref b3, .int 0, .int 0, .int 0, .int 0])), (o0, .inl (cl, 1, .inr (.inl fo)))] H := hP
    have hD : va_D (fun q : Nat => s.heap.size ≤ q) [(b1, .inr (2, [.ref g0, .ref g1, .ref g2, .int 0])), (s0, .inr (3, [.ref r0, .ref t0, .ref w0, .ref l0, .ref k0, .ref v0, .ref v1, .ref v2, .int 0, .int 0, .int 0, .int 0])), (t0, .inr (4, [.ref u0, .ref u1, .ref u2, .ref u3, .ref u4, .int 0, .int 0, .int 0, .int 1])), (w0, .inr (5, [.ref r0, .ref t0, .ref y0, .ref y1])), (m0, .inr (7, [.ref j0, .ref j1, .ref j2, .ref j3, .ref j4, .int 0, .int 0, .int 0, .int 0, .int 0, .int 0, .ref j5, .int 0, .ref j6, .ref j7])), (j4, .inl (ca, 401, .inl fw)), (h0, .inr (6, [.ref b0, .ref b1, .ref s0, .ref b3, .int 0, .int 0, .int 0, .int 0])), (o0, .inl (cl, 1, .inr (.inl fo)))] := hD
    refine W.widen (k := 46) (n := 95487) (by decide) (by decide) ?_
    have hw9 : r_1 = 1 := hw9
    subst hw9
    refine lv_istore (lv' := [(5, .int 1), (0, .ref b), (1, .ref h0), (2, .ref m0), (3, .ref o0), (4, .int 0)]) hx hb d_Lw_law_319 hl (by decide) rfl (fun ls hl => ?_)
    refine lv_aload_n hx hb d_Lw_law_321 rfl (lv_at hl 3 rfl) ?_
    refine lv_aload_n hx hb d_Lw_law_322 rfl (lv_at hl 1 rfl) ?_
    refine lv_iload hx hb d_Lw_law_323 (lv_at hl 5 rfl) ?_
    refine lv_iconst (v := 1) hx hb d_Lw_law_325 (by decide) ?_
    refine lv_iadd hx hb d_Lw_law_326 ?_
    refine va_sld hx hb hX hbl hbA hS (by unfold vp_in; decide) d_Lw_law_327 ?_
    have hPc := hP.sub (ws' := [(m0, .inr (7, [.ref j0, .ref j1, .ref j2, .ref j3, .ref j4, .int 0, .int 0, .int 0, .int 0, .int 0, .int 0, .ref j5, .int 0, .ref j6, .ref j7]))]) [4] rfl
    have hDc := hD.sub (ws' := [(m0, .inr (7, [.ref j0, .ref j1, .ref j2, .ref j3, .ref j4, .int 0, .int 0, .int 0, .int 0, .int 0, .int 0, .ref j5, .int 0, .ref j6, .ref j7]))]) [4] (by decide) rfl
    have hKc := hK.sub (tys' := []) [] rfl
    have hFc := va_free (wc := [(m0, .inr (7, [.ref j0, .ref j1, .ref j2, .ref j3, .ref j4, .int 0, .int 0, .int 0, .int 0, .int 0, .int 0, .ref j5, .int 0, .ref j6, .ref j7]))]) hD hS hA [4] rfl
    refine va_calli (va_runV (As := [.int (xs (0 + 1 : Int32).toNatClampNeg)]) (rest := []) ⟨hx, hb, hml, hown, hw⟩ (c_Md_count_1 l dC dI m0 j0 j1 j2 j3 j4 j5 j6 j7 H.size 0 0 0 0 0 0 0 (xs (0 + 1 : Int32).toNatClampNeg) (by rcases hc with h | h; exact Or.inl (Int32.lt_iff_toInt_lt.mpr h); exact Or.inr (Int32.lt_iff_toInt_lt.mpr h))) (cb_V (C := R_Md) 1 hw k_705 k_37 k_702 k_703 k_704 rfl rfl (by decide +kernel) ⟨Nat.le_of_ble_eq_true rfl, Nat.le_of_ble_eq_true rfl⟩) ⟨fun a U g mk q => by obtain ⟨q0, q1, qP, qK, qD⟩ := q; exact ⟨q0, q1, qP, va_K.moved (u := U) (U := U.calling g mk a) (Vm.Alike.refl U.vm) qK, qD⟩, va_recv hKc hPc (ci := 7) (q0 := 0) rfl rfl, fun U hU hW => ⟨rfl, by rw [hU], by rw [hU]; exact hPc, va_K.moved hW.alike hKc, hDc.weaken (fun _ _ _ _ => trivial)⟩⟩ rfl rfl hl.1 rfl (lv_room (Nat.le_of_ble_eq_true rfl)) d_Lw_law_328 ⟨Nat.le_of_ble_eq_true rfl, Nat.le_of_ble_eq_true rfl⟩) hS (fun q _ h => hFc q h) hFc (fun r_2 u t H1 locs ht hvm hw9 hB hz1 hk1 hS => ?_)
    obtain ⟨hP1, hK1, hD1⟩ := hB
    rw [ht] at hP1
    have hK1 := va_K.moved hvm.symm hK1
    obtain ⟨hP, hD⟩ := va_join (wr := [(b1, .inr (2, [.ref g0, .ref g1, .ref g2, .int 0])), (s0, .inr (3, [.ref r0, .ref t0, .ref w0, .ref l0, .ref k0, .ref v0, .ref v1, .ref v2, .int 0, .int 0, .int 0, .int 0])), (t0, .inr (4, [.ref u0, .ref u1, .ref u2, .ref u3, .ref u4, .int 0, .int 0, .int 0, .int 1])), (w0, .inr (5, [.ref r0, .ref t0, .ref y0, .ref y1])), (j4, .inl (ca, 401, .inl fw)), (h0, .inr (6, [.ref b0, .ref b1, .ref s0, .ref b3, .int 0, .int 0, .int 0, .int 0])), (o0, .inl (cl, 1, .inr (.inl fo)))]) (w1 := [(m0, .inr (7, [.ref j0, .ref j1, .ref j2, .ref j3, .ref j4, .int 0, .int 0, .int 0, .int 0, .int 0, .int 1, .ref j5, .int 0, .ref j6, .ref j7]))]) hP hD [4] [0, 1, 2, 3, 5, 6, 7] rfl rfl (by decide) (by decide) hk1 hFc hP1 hD1
    generalize H1 = H at hP hS ⊢
    have hP : va_P (dC, dI) vwCl [(b1, .inr (2, [.ref g0, .ref g1, .ref g2, .int 0])), (s0, .inr (3, [.ref r0, .ref t0, .ref w0, .ref l0, .ref k0, .ref v0, .ref v1, .ref v2, .int 0, .int 0, .int 0, .int 0])), (t0, .inr (4, [.ref u0, .ref u1, .ref u2, .ref u3, .ref u4, .int 0, .int 0, .int 0, .int 1])), (w0, .inr (5, [.ref r0, .ref t0, .ref y0, .ref y1])), (j4, .inl (ca, 401, .inl fw)), (h0, .inr (6, [.ref b0, .ref b1, .ref s0, .ref b3, .int 0, .int 0, .int 0, .int 0])), (o0, .inl (cl, 1, .inr (.inl fo))), (m0, .inr (7, [.ref j0, .ref j1, .ref j2, .ref j3, .ref j4, .int 0, .int 0, .int 0, .int 0, .int 0, .int 1, .ref j5, .int 0, .ref j6, .ref j7]))] H := hP
    have hD : va_D (fun q : Nat => s.heap.size ≤ q) [(b1, .inr (2, [.ref g0, .ref g1, .ref g2, .int 0])), (s0, .inr (3, [.ref r0, .ref t0, .ref w0, .ref l0, .ref k0, .ref v0, .ref v1, .ref v2, .int 0, .int 0, .int 0, .int 0])), (t0, .inr (4, [.ref u0, .ref u1, .ref u2, .ref u3, .ref u4, .int 0, .int 0, .int 0, .int 1])), (w0, .inr (5, [.ref r0, .ref t0, .ref y0, .ref y1])), (j4, .inl (ca, 401, .inl fw)), (h0, .inr (6, [.ref b0, .ref b1, .ref s0, .ref b3, .int 0, .int 0, .int 0, .int 0])), (o0, .inl (cl, 1, .inr (.inl fo))), (m0, .inr (7, [.ref j0, .ref j1, .ref j2, .ref j3, .ref j4, .int 0, .int 0, .int 0, .int 0, .int 0, .int 1, .ref j5, .int 0, .ref j6, .ref j7]))] := hD
    refine W.widen (k := 46) (n := 95487) (by decide) (by decide) ?_
    have hw9 : r_2 = 0 := hw9
    subst hw9
    refine lv_istore (lv' := [(6, .int 0), (5, .int 1), (0, .ref b), (1, .ref h0), (2, .ref m0), (3, .ref o0), (4, .int 0)]) hx hb d_Lw_law_331 hl (by decide) rfl (fun ls hl => ?_)
    refine lv_aload_n hx hb d_Lw_law_333 rfl (lv_at hl 4 rfl) ?_
    have hPc := hP.sub (ws' := [(m0, .inr (7, [.ref j0, .ref j1, .ref j2, .ref j3, .ref j4, .int 0, .int 0, .int 0, .int 0, .int 0, .int 1, .ref j5, .int 0, .ref j6, .ref j7]))]) [7] rfl
    have hDc := hD.sub (ws' := [(m0, .inr (7, [.ref j0, .ref j1, .ref j2, .ref j3, .ref j4, .int 0, .int 0, .int 0, .int 0, .int 0, .int 1, .ref j5, .int 0, .ref j6, .ref j7]))]) [7] (by decide) rfl
    have hKc := hK.sub (tys' := []) [] rfl
    have hFc := va_free (wc := [(m0, .inr (7, [.ref j0, .ref j1, .ref j2, .ref j3, .ref j4, .int 0, .int 0, .int 0, .int 0, .int 0, .int 1, .ref j5, .int 0, .ref j6, .ref j7]))]) hD hS hA [7] rfl
    refine va_calli (va_runV (As := []) (rest := []) ⟨hx, hb, hml, hown, hw⟩ (c_Md_thrown l dC dI m0 j0 j1 j2 j3 j4 j5 j6 j7 H.size 0 0 0 0 0 1 0) (cb_V (C := R_Md) 0 hw k_653 k_37 k_650 k_651 k_652 rfl rfl (by decide +kernel) ⟨Nat.le_of_ble_eq_true rfl, Nat.le_of_ble_eq_true rfl⟩) ⟨fun a U g mk q => by obtain ⟨q0, q1, qP, qK, qD⟩ := q; exact ⟨q0, q1, qP, va_K.moved (u := U) (U := U.calling g mk a) (Vm.Alike.refl U.vm) qK, qD⟩, va_recv hKc hPc (ci := 7) (q0 := 0) rfl rfl, fun U hU hW => ⟨rfl, by rw [hU], by rw [hU]; exact hPc, va_K.moved hW.alike hKc, hDc.weaken (fun _ _ _ _ => trivial)⟩⟩ rfl rfl hl.1 rfl (lv_room (Nat.le_of_ble_eq_true rfl)) d_Lw_law_334 ⟨Nat.le_of_ble_eq_true rfl, Nat.le_of_ble_eq_true rfl⟩) hS (fun q _ h => hFc q h) hFc (fun r_3 u t H1 locs ht hvm hw9 hB hz1 hk1 hS => ?_)
    obtain ⟨hP1, hK1, hD1⟩ := hB
    rw [ht] at hP1
    have hK1 := va_K.moved hvm.symm hK1
    obtain ⟨hP, hD⟩ := va_join (wr := [(b1, .inr (2, [.ref g0, .ref g1, .ref g2, .int 0])), (s0, .inr (3, [.ref r0, .ref t0, .ref w0, .ref l0, .ref k0, .ref v0, .ref v1, .ref v2, .int 0, .int 0, .int 0, .int 0])), (t0, .inr (4, [.ref u0, .ref u1, .ref u2, .ref u3, .ref u4, .int 0, .int 0, .int 0, .int 1])), (w0, .inr (5, [.ref r0, .ref t0, .ref y0, .ref y1])), (j4, .inl (ca, 401, .inl fw)), (h0, .inr (6, [.ref b0, .ref b1, .ref s0, .ref b3, .int 0, .int 0, .int 0, .int 0])), (o0, .inl (cl, 1, .inr (.inl fo)))]) (w1 := [(m0, .inr (7, [.ref j0, .ref j1, .ref j2, .ref j3, .ref j4, .int 0, .int 0, .int 0, .int 0, .int 0, .int 1, .ref j5, .int 0, .ref j6, .ref j7]))]) hP hD [7] [0, 1, 2, 3, 4, 5, 6] rfl rfl (by decide) (by decide) hk1 hFc hP1 hD1
    generalize H1 = H at hP hS ⊢
    have hP : va_P (dC, dI) vwCl [(b1, .inr (2, [.ref g0, .ref g1, .ref g2, .int 0])), (s0, .inr (3, [.ref r0, .ref t0, .ref w0, .ref l0, .ref k0, .ref v0, .ref v1, .ref v2, .int 0, .int 0, .int 0, .int 0])), (t0, .inr (4, [.ref u0, .ref u1, .ref u2, .ref u3, .ref u4, .int 0, .int 0, .int 0, .int 1])), (w0, .inr (5, [.ref r0, .ref t0, .ref y0, .ref y1])), (j4, .inl (ca, 401, .inl fw)), (h0, .inr (6, [.ref b0, .ref b1, .ref s0, .ref b3, .int 0, .int 0, .int 0, .int 0])), (o0, .inl (cl, 1, .inr (.inl fo))), (m0, .inr (7, [.ref j0, .ref j1, .ref j2, .ref j3, .ref j4, .int 0, .int 0, .int 0, .int 0, .int 0, .int 1, .ref j5, .int 0, .ref j6, .ref j7]))] H := hP
    have hD : va_D (fun q : Nat => s.heap.size ≤ q) [(b1, .inr (2, [.ref g0, .ref g1, .ref g2, .int 0])), (s0, .inr (3, [.ref r0, .ref t0, .ref w0, .ref l0, .ref k0, .ref v0, .ref v1, .ref v2, .int 0, .int 0, .int 0, .int 0])), (t0, .inr (4, [.ref u0, .ref u1, .ref u2, .ref u3, .ref u4, .int 0, .int 0, .int 0, .int 1])), (w0, .inr (5, [.ref r0, .ref t0, .ref y0, .ref y1])), (j4, .inl (ca, 401, .inl fw)), (h0, .inr (6, [.ref b0, .ref b1, .ref s0, .ref b3, .int 0, .int 0, .int 0, .int 0])), (o0, .inl (cl, 1, .inr (.inl fo))), (m0, .inr (7, [.ref j0, .ref j1, .ref j2, .ref j3, .ref j4, .int 0, .int 0, .int 0, .int 0, .int 0, .int 1, .ref j5, .int 0, .ref j6, .ref j7]))] := hD
    refine W.widen (k := 46) (n := 95487) (by decide) (by decide) ?_
    have hw9 : r_3 = 1 := hw9
    subst hw9
    refine lv_iload hx hb d_Lw_law_337 (lv_at hl 1 rfl) ?_
    refine lv_icmp_eq (tgt := 344) hx hb d_Lw_law_339 (by decide) (fun c_339 => ?_) (fun c_339 => absurd c_339 (by decide))
    refine lv_iload hx hb d_Lw_law_344 (lv_at hl 1 rfl) ?_
    refine lv_if_ne (tgt := 361) hx hb d_Lw_law_346 (by decide) (fun c_346 => ?_) (fun c_346 => absurd c_346 (by decide))
    refine lv_goto (tgt := 364) hx hb d_Lw_law_361 (by decide) ?_
    obtain ⟨v_4, ev_4⟩ : ∃ y : Int32, y = 0 + 2 := ⟨_, rfl⟩
    refine lv_iinc (v := v_4) (lv' := [(4, .int v_4), (6, .int 0), (5, .int 1), (0, .ref b), (1, .ref h0), (2, .ref m0), (3, .ref o0)]) hx hb d_Lw_law_364 hl (k := 6) rfl (by rw [ev_4]; rfl) (by decide) rfl (fun ls hl => ?_)
    refine lv_goto (tgt := 23) hx hb d_Lw_law_367 (by decide) ?_
    exact lw_exit C1 (by decide) (by decide) _ _ ls v_4 (by rw [ev_4]; decide) hS (lv_sub hl [3, 0] rfl)
  · refine lv_aload_n hx hb d_Lw_law_308 rfl (lv_at hl 1 rfl) ?_
    refine lv_aload_n hx hb d_Lw_law_309 rfl (lv_at hl 0 rfl) ?_
    refine lv_iload hx hb d_Lw_law_310 (lv_at hl 4 rfl) ?_
    refine lv_iconst (v := 1) hx hb d_Lw_law_312 (by decide) ?_
    refine lv_iadd hx hb d_Lw_law_313 ?_
    refine va_sld hx hb hX hbl hbA hS (by unfold vp_in; decide) d_Lw_law_314 ?_
    refine lv_aload_n hx hb d_Lw_law_315 rfl (lv_at hl 3 rfl) ?_
    have hPc := hP.sub (ws' := [(h0, .inr (6, [.ref b0, .ref b1, .ref s0, .ref b3, .int 0, .int 0, .int 0, .int 0])), (b1, .inr (2, [.ref g0, .ref g1, .ref g2, .int 0])), (s0, .inr (3, [.ref r0, .ref t0, .ref w0, .ref l0, .ref k0, .ref v0, .ref v1, .ref v2, .int 0, .int 0, .int 0, .int 0])), (o0, .inl (cl, 1, .inr (.inl fo)))]) [0, 1, 2, 7] rfl
    have hDc := hD.sub (ws' := [(h0, .inr (6, [.ref b0, .ref b1, .ref s0, .ref b3, .int 0, .int 0, .int 0, .int 0])), (b1, .inr (2, [.ref g0, .ref g1, .ref g2, .int 0])), (s0, .inr (3, [.ref r0, .ref t0, .ref w0, .ref l0, .ref k0, .ref v0, .ref v1, .ref v2, .int 0, .int 0, .int 0, .int 0])), (o0, .inl (cl, 1, .inr (.inl fo)))]) [0, 1, 2, 7] (by decide) rfl
    have hKc := hK.sub (tys' := [(cl, .long)]) [1] rfl
    have hFc := va_free (wc := [(h0, .inr (6, [.ref b0, .ref b1, .ref s0, .ref b3, .int 0, .int 0, .int 0, .int 0])), (b1, .inr (2, [.ref g0, .ref g1, .ref g2, .int 0])), (s0, .inr (3, [.ref r0, .ref t0, .ref w0, .ref l0, .ref k0, .ref v0, .ref v1, .ref v2, .int 0, .int 0, .int 0, .int 0])), (o0, .inl (cl, 1, .inr (.inl fo)))]) hD hS hA [0, 1, 2, 7] rfl
    refine va_calli (th_runS (n := 3) (As := [.ref h0, .int (xs (0 + 1 : Int32).toNatClampNeg), .ref o0]) (rest := []) ⟨hx, hb, hml, hown, hw⟩ (c_Lw_count_0 l dC dI h0 b0 b1 s0 b3 g0 g1 g2 r0 t0 w0 l0 k0 v0 v1 v2 o0 cl H.size (xs (0 + 1 : Int32).toNatClampNeg) fo (fun q => hc (Or.inl q)) (fun q => hc (Or.inr q))) k_591 k_28 k_589 k_590 rfl rfl (by decide +kernel) ⟨Nat.le_of_ble_eq_true rfl, Nat.le_of_ble_eq_true rfl⟩ ⟨fun a U g mk q => by obtain ⟨q0, q1, qP, qK, qD⟩ := q; exact ⟨q0, q1, qP, va_K.moved (u := U) (U := U.calling g mk a) (Vm.Alike.refl U.vm) qK, qD⟩, fun U hU hW => ⟨rfl, by rw [hU], by rw [hU]; exact hPc, va_K.moved hW.alike hKc, hDc.weaken (fun _ _ _ _ => trivial)⟩⟩ rfl rfl hl.1 rfl (lv_room (Nat.le_of_ble_eq_true rfl)) d_Lw_law_316 ⟨Nat.le_of_ble_eq_true rfl, Nat.le_of_ble_eq_true rfl⟩) hS (fun q _ h => hFc q h) hFc (fun r_5 u t H1 locs ht hvm hw9 hB hz1 hk1 hS => ?_)
    obtain ⟨hP1, hK1, hD1⟩ := hB
    rw [ht] at hP1
    have hK1 := va_K.moved hvm.symm hK1
    obtain ⟨hP, hD⟩ := va_join (wr := [(t0, .inr (4, [.ref u0, .ref u1, .ref u2, .ref u3, .ref u4, .int 0, .int 0, .int 0, .int 1])), (w0, .inr (5, [.ref r0, .ref t0, .ref y0, .ref y1])), (m0, .inr (7, [.ref j0, .ref j1, .ref j2, .ref j3, .ref j4, .int 0, .int 0, .int 0, .int 0, .int 0, .int 0, .ref j5, .int 0, .ref j6, .ref j7])), (j4, .inl (ca, 401, .inl fw))]) (w1 := [(o0, .inl (cl, 1, .inr (.inl (vp_updL fo ((0 : Int32).toNatClampNeg) ((0 : Int32).toInt64))))), (h0, .inr (6, [.ref b0, .ref b1, .ref s0, .ref b3, .int 0, .int 0, .int 0, .int 0])), (b1, .inr (2, [.ref g0, .ref g1, .ref g2, .int 0])), (s0, .inr (3, [.ref r0, .ref t0, .ref w0, .ref l0, .ref k0, .ref v0, .ref v1, .ref v2, .int 0, .int 0, .int 0, .int 0]))]) hP hD [0, 1, 2, 7] [3, 4, 5, 6] rfl rfl (by decide) (by decide) hk1 hFc hP1 hD1
    generalize H1 = H at hP hS ⊢
    have hP : va_P (dC, dI) vwCl [(t0, .inr (4, [.ref u0, .ref u1, .ref u2, .ref u3, .ref u4, .int 0, .int 0, .int 0, .int 1])), (w0, .inr (5, [.ref r0, .ref t0, .ref y0, .ref y1])), (m0, .inr (7, [.ref j0, .ref j1, .ref j2, .ref j3, .ref j4, .int 0, .int 0, .int 0, .int 0, .int 0, .int 0, .ref j5, .int 0, .ref j6, .ref j7])), (j4, .inl (ca, 401, .inl fw)), (o0, .inl (cl, 1, .inr (.inl (vp_updL fo ((0 : Int32).toNatClampNeg) ((0 : Int32).toInt64))))), (h0, .inr (6, [.ref b0, .ref b1, .ref s0, .ref b3, .int 0, .int 0, .int 0, .int 0])), (b1, .inr (2, [.ref g0, .ref g1, .ref g2, .int 0])), (s0, .inr (3, [.ref r0, .ref t0, .ref w0, .ref l0, .ref k0, .ref v0, .ref v1, .ref v2, .int 0, .int 0, .int 0, .int 0]))] H := hP
    have hD : va_D (fun q : Nat => s.heap.size ≤ q) [(t0, .inr (4, [.ref u0, .ref u1, .ref u2, .ref u3, .ref u4, .int 0, .int 0, .int 0, .int 1])), (w0, .inr (5, [.ref r0, .ref t0, .ref y0, .ref y1])), (m0, .inr (7, [.ref j0, .ref j1, .ref j2, .ref j3, .ref j4, .int 0, .int 0, .int 0, .int 0, .int 0, .int 0, .ref j5, .int 0, .ref j6, .ref j7])), (j4, .inl (ca, 401, .inl fw)), (o0, .inl (cl, 1, .inr (.inl (vp_updL fo ((0 : Int32).toNatClampNeg) ((0 : Int32).toInt64))))), (h0, .inr (6, [.ref b0, .ref b1, .ref s0, .ref b3, .int 0, .int 0, .int 0, .int 0])), (b1, .inr (2, [.ref g0, .ref g1, .ref g2, .int 0])), (s0, .inr (3, [.ref r0, .ref t0, .ref w0, .ref l0, .ref k0, .ref v0, .ref v1, .ref v2, .int 0, .int 0, .int 0, .int 0]))] := hD
    refine W.widen (k := 45) (n := 95481) (by decide) (by decide) ?_
    have hw9 : r_5 = 0 := hw9
    subst hw9
    refine lv_istore (lv' := [(5, .int 0), (0, .ref b), (1, .ref h0), (2, .ref m0), (3, .ref o0), (4, .int 0)]) hx hb d_Lw_law_319 hl (by decide) rfl (fun ls hl => ?_)
    refine lv_aload_n hx hb d_Lw_law_321 rfl (lv_at hl 3 rfl) ?_
    refine lv_aload_n hx hb d_Lw_law_322 rfl (lv_at hl 1 rfl) ?_
    refine lv_iload hx hb d_Lw_law_323 (lv_at hl 5 rfl) ?_
    refine lv_iconst (v := 1) hx hb d_Lw_law_325 (by decide) ?_
    refine lv_iadd hx hb d_Lw_law_326 ?_
    refine va_sld hx hb hX hbl hbA hS (by unfold vp_in; decide) d_Lw_law_327 ?_
    have hPc := hP.sub (ws' := [(m0, .inr (7, [.ref j0, .ref j1, .ref j2, .ref j3, .ref j4, .int 0, .int 0, .int 0, .int 0, .int 0, .int 0, .ref j5, .int 0, .ref j6, .ref j7]))]) [2] rfl
    have hDc := hD.sub (ws' := [(m0, .inr (7, [.ref j0, .ref j1, .ref j2, .ref j3, .ref j4, .int 0, .int 0, .int 0, .int 0, .int 0, .int 0, .ref j5, .int 0, .ref j6, .ref j7]))]) [2] (by decide) rfl
    have hKc := hK.sub (tys' := []) [] rfl
    have hFc := va_free (wc := [(m0, .inr (7, [.ref j0, .ref j1, .ref j2, .ref j3, .ref j4, .int 0, .int 0, .int 0, .int 0, .int 0, .int 0, .ref j5, .int 0, .ref j6, .ref j7]))]) hD hS hA [2] rfl
    refine va_calli (va_runV (As := [.int (xs (0 + 1 : Int32).toNatClampNeg)]) (rest := []) ⟨hx, hb, hml, hown, hw⟩ (c_Md_count_0 l dC dI m0 j0 j1 j2 j3 j4 j5 j6 j7 H.size 0 0 0 (xs (0 + 1 : Int32).toNatClampNeg) (fun q => hc (Or.inl (Int32.lt_iff_toInt_lt.mp q))) (fun q => hc (Or.inr (Int32.lt_iff_toInt_lt.mp q)))) (cb_V (C := R_Md) 1 hw k_705 k_37 k_702 k_703 k_704 rfl rfl (by decide +kernel) ⟨Nat.le_of_ble_eq_true rfl, Nat.le_of_ble_eq_true rfl⟩) ⟨fun a U g mk q => by obtain ⟨q0, q1, qP, qK, qD⟩ := q; exact ⟨q0, q1, qP, va_K.moved (u := U) (U := U.calling g mk a) (Vm.Alike.refl U.vm) qK, qD⟩, va_recv hKc hPc (ci := 7) (q0 := 0) rfl rfl, fun U hU hW => ⟨rfl, by rw [hU], by rw [hU]; exact hPc, va_K.moved hW.alike hKc, hDc.weaken (fun _ _ _ _ => trivial)⟩⟩ rfl rfl hl.1 rfl (lv_room (Nat.le_of_ble_eq_true rfl)) d_Lw_law_328 ⟨Nat.le_of_ble_eq_true rfl, Nat.le_of_ble_eq_true rfl⟩) hS (fun q _ h => hFc q h) hFc (fun r_6 u t H1 locs ht hvm hw9 hB hz1 hk1 hS => ?_)
    obtain ⟨hP1, hK1, hD1⟩ := hB
    rw [ht] at hP1
    have hK1 := va_K.moved hvm.symm hK1
    obtain ⟨hP, hD⟩ := va_join (wr := [(t0, .inr (4, [.ref u0, .ref u1, .ref u2, .ref u3, .ref u4, .int 0, .int 0, .int 0, .int 1])), (w0, .inr (5, [.ref r0, .ref t0, .ref y0, .ref y1])), (j4, .inl (ca, 401, .inl fw)), (o0, .inl (cl, 1, .inr (.inl (vp_updL fo ((0 : Int32).toNatClampNeg) ((0 : Int32).toInt64))))), (h0, .inr (6, [.ref b0, .ref b1, .ref s0, .ref b3, .int 0, .int 0, .int 0, .int 0])), (b1, .inr (2, [.ref g0, .ref g1, .ref g2, .int 0])), (s0, .inr (3, [.ref r0, .ref t0, .ref w0, .ref l0, .ref k0, .ref v0, .ref v1, .ref v2, .int 0, .int 0, .int 0, .int 0]))]) (w1 := [(m0, .inr (7, [.ref j0, .ref j1, .ref j2, .ref j3, .ref j4, .int 0, .int 0, .int 0, .int 0, .int 0, .int 0, .ref j5, .int 0, .ref j6, .ref j7]))]) hP hD [2] [0, 1, 3, 4, 5, 6, 7] rfl rfl (by decide) (by decide) hk1 hFc hP1 hD1
    generalize H1 = H at hP hS ⊢
    have hP : va_P (dC, dI) vwCl [(t0, .inr (4, [.ref u0, .ref u1, .ref u2, .ref u3, .ref u4, .int 0, .int 0, .int 0, .int 1])), (w0, .inr (5, [.ref r0, .ref t0, .ref y0, .ref y1])), (j4, .inl (ca, 401, .inl fw)), (o0, .inl (cl, 1, .inr (.inl (vp_updL fo ((0 : Int32).toNatClampNeg) ((0 : Int32).toInt64))))), (h0, .inr (6, [.ref b0, .ref b1, .ref s0, .ref b3, .int 0, .int 0, .int 0, .int 0])), (b1, .inr (2, [.ref g0, .ref g1, .ref g2, .int 0])), (s0, .inr (3, [.ref r0, .ref t0, .ref w0, .ref l0, .ref k0, .ref v0, .ref v1, .ref v2, .int 0, .int 0, .int 0, .int 0])), (m0, .inr (7, [.ref j0, .ref j1, .ref j2, .ref j3, .ref j4, .int 0, .int 0, .int 0, .int 0, .int 0, .int 0, .ref j5, .int 0, .ref j6, .ref j7]))] H := hP
    have hD : va_D (fun q : Nat => s.heap.size ≤ q) [(t0, .inr (4, [.ref u0, .ref u1, .ref u2, .ref u3, .ref u4, .int 0, .int 0, .int 0, .int 1])), (w0, .inr (5, [.ref r0, .ref t0, .ref y0, .ref y1])), (j4, .inl (ca, 401, .inl fw)), (o0, .inl (cl, 1, .inr (.inl (vp_updL fo ((0 : Int32).toNatClampNeg) ((0 : Int32).toInt64))))), (h0, .inr (6, [.ref b0, .ref b1, .ref s0, .ref b3, .int 0, .int 0, .int 0, .int 0])), (b1, .inr (2, [.ref g0, .ref g1, .ref g2, .int 0])), (s0, .inr (3, [.ref r0, .ref t0, .ref w0, .ref l0, .ref k0, .ref v0, .ref v1, .ref v2, .int 0, .int 0, .int 0, .int 0])), (m0, .inr (7, [.ref j0, .ref j1, .ref j2, .ref j3, .ref j4, .int 0, .int 0, .int 0, .int 0, .int 0, .int 0, .ref j5, .int 0, .ref j6, .ref j7]))] := hD
    refine W.widen (k := 45) (n := 95481) (by decide) (by decide) ?_
    have hw9 : r_6 = 0 := hw9
    subst hw9
    refine lv_istore (lv' := [(6, .int 0), (5, .int 0), (0, .ref b), (1, .ref h0), (2, .ref m0), (3, .ref o0), (4, .int 0)]) hx hb d_Lw_law_331 hl (by decide) rfl (fun ls hl => ?_)
    refine lv_aload_n hx hb d_Lw_law_333 rfl (lv_at hl 4 rfl) ?_
    have hPc := hP.sub (ws' := [(m0, .inr (7, [.ref j0, .ref j1, .ref j2, .ref j3, .ref j4, .int 0, .int 0, .int 0, .int 0, .int 0, .int 0, .ref j5, .int 0, .ref j6, .ref j7]))]) [7] rfl
    have hDc := hD.sub (ws' := [(m0, .inr (7, [.ref j0, .ref j1, .ref j2, .ref j3, .ref j4, .int 0, .int 0, .int 0, .int 0, .int 0, .int 0, .ref j5, .int 0, .ref j6, .ref j7]))]) [7] (by decide) rfl
    have hKc := hK.sub (tys' := []) [] rfl
    have hFc := va_free (wc := [(m0, .inr (7, [.ref j0, .ref j1, .ref j2, .ref j3, .ref j4, .int 0, .int 0, .int 0, .int 0, .int 0, .int 0, .ref j5, .int 0, .ref j6, .ref j7]))]) hD hS hA [7] rfl
    refine va_calli (va_runV (As := []) (rest := []) ⟨hx, hb, hml, hown, hw⟩ (c_Md_thrown l dC dI m0 j0 j1 j2 j3 j4 j5 j6 j7 H.size 0 0 0 0 0 0 0) (cb_V (C := R_Md) 0 hw k_653 k_37 k_650 k_651 k_652 rfl rfl (by decide +kernel) ⟨Nat.le_of_ble_eq_true rfl, Nat.le_of_ble_eq_true rfl⟩) ⟨fun a U g mk q => by obtain ⟨q0, q1, qP, qK, qD⟩ := q; exact ⟨q0, q1, qP, va_K.moved (u := U) (U := U.calling g mk a) (Vm.Alike.refl U.vm) qK, qD⟩, va_recv hKc hPc (ci := 7) (q0 := 0) rfl rfl, fun U hU hW => ⟨rfl, by rw [hU], by rw [hU]; exact hPc, va_K.moved hW.alike hKc, hDc.weaken (fun _ _ _ _ => trivial)⟩⟩ rfl rfl hl.1 rfl (lv_room (Nat.le_of_ble_eq_true rfl)) d_Lw_law_334 ⟨Nat.le_of_ble_eq_true rfl, Nat.le_of_ble_eq_true rfl⟩) hS (fun q _ h => hFc q h) hFc (fun r_7 u t H1 locs ht hvm hw9 hB hz1 hk1 hS => ?_)
    obtain ⟨hP1, hK1, hD1⟩ := hB
    rw [ht] at hP1
    have hK1 := va_K.moved hvm.symm hK1
    obtain ⟨hP, hD⟩ := va_join (wr := [(t0, .inr (4, [.ref u0, .ref u1, .ref u2, .ref u3, .ref u4, .int 0, .int 0, .int 0, .int 1])), (w0, .inr (5, [.ref r0, .ref t0, .ref y0, .ref y1])), (j4, .inl (ca, 401, .inl fw)), (o0, .inl (cl, 1, .inr (.inl (vp_updL fo ((0 : Int32).toNatClampNeg) ((0 : Int32).toInt64))))), (h0, .inr (6, [.ref b0, .ref b1, .ref s0, .ref b3, .int 0, .int 0, .int 0, .int 0])), (b1, .inr (2, [.ref g0, .ref g1, .ref g2, .int 0])), (s0, .inr (3, [.ref r0, .ref t0, .ref w0, .ref l0, .ref k0, .ref v0, .ref v1, .ref v2, .int 0, .int 0, .int 0, .int 0]))]) (w1 := [(m0, .inr (7, [.ref j0, .ref j1, .ref j2, .ref j3, .ref j4, .int 0, .int 0, .int 0, .int 0, .int 0, .int 0, .ref j5, .int 0, .ref j6, .ref j7]))]) hP hD [7] [0, 1, 2, 3, 4, 5, 6] rfl rfl (by decide) (by decide) hk1 hFc hP1 hD1
    generalize H1 = H at hP hS ⊢
    have hP : va_P (dC, dI) vwCl [(t0, .inr (4, [.ref u0, .ref u1, .ref u2, .ref u3, .ref u4, .int 0, .int 0, .int 0, .int 1])), (w0, .inr (5, [.ref r0, .ref t0, .ref y0, .ref y1])), (j4, .inl (ca, 401, .inl fw)), (o0, .inl (cl, 1, .inr (.inl (vp_updL fo ((0 : Int32).toNatClampNeg) ((0 : Int32).toInt64))))), (h0, .inr (6, [.ref b0, .ref b1, .ref s0, .ref b3, .int 0, .int 0, .int 0, .int 0])), (b1, .inr (2, [.ref g0, .ref g1, .ref g2, .int 0])), (s0, .inr (3, [.ref r0, .ref t0, .ref w0, .ref l0, .ref k0, .ref v0, .ref v1, .ref v2, .int 0, .int 0, .int 0, .int 0])), (m0, .inr (7, [.ref j0, .ref j1, .ref j2, .ref j3, .ref j4, .int 0, .int 0, .int 0, .int 0, .int 0, .int 0, .ref j5, .int 0, .ref j6, .ref j7]))] H := hP
    have hD : va_D (fun q : Nat => s.heap.size ≤ q) [(t0, .inr (4, [.ref u0, .ref u1, .ref u2, .ref u3, .ref u4, .int 0, .int 0, .int 0, .int 1])), (w0, .inr (5, [.ref r0, .ref t0, .ref y0, .ref y1])), (j4, .inl (ca, 401, .inl fw)), (o0, .inl (cl, 1, .inr (.inl (vp_updL fo ((0 : Int32).toNatClampNeg) ((0 : Int32).toInt64))))), (h0, .inr (6, [.ref b0, .ref b1, .ref s0, .ref b3, .int 0, .int 0, .int 0, .int 0])), (b1, .inr (2, [.ref g0, .ref g1, .ref g2, .int 0])), (s0, .inr (3, [.ref r0, .ref t0, .ref w0, .ref l0, .ref k0, .ref v0, .ref v1, .ref v2, .int 0, .int 0, .int 0, .int 0])), (m0, .inr (7, [.ref j0, .ref j1, .ref j2, .ref j3, .ref j4, .int 0, .int 0, .int 0, .int 0, .int 0, .int 0, .ref j5, .int 0, .ref j6, .ref j7]))] := hD
    refine W.widen (k := 45) (n := 95481) (by decide) (by decide) ?_
    have hw9 : r_7 = 0 := hw9
    subst hw9
    refine lv_iload hx hb d_Lw_law_337 (lv_at hl 1 rfl) ?_
    refine lv_icmp_eq (tgt := 344) hx hb d_Lw_law_339 (by decide) (fun c_339 => ?_) (fun c_339 => absurd c_339 (by decide))
    refine lv_iload hx hb d_Lw_law_344 (lv_at hl 1 rfl) ?_
    refine lv_if_ne (tgt := 361) hx hb d_Lw_law_346 (by decide) (fun c_346 => absurd c_346 (by decide)) (fun c_346 => ?_)
    refine lv_aload_n hx hb d_Lw_law_349 rfl (lv_at hl 5 rfl) ?_
    refine lv_iconst (v := 0) hx hb d_Lw_law_350 (by decide) ?_
    refine va_lald hx hb hK hP 3 1 rfl rfl (by unfold vp_in; decide) d_Lw_law_351 ?_
    refine lv_iload hx hb d_Lw_law_352 (lv_at hl 0 rfl) ?_
    refine lv_i2l (v := (0 : Int32).toInt64) hx hb d_Lw_law_354 rfl ?_
    refine W.lcmp hx hb d_Lw_law_355 ?_
    refine lv_if_eq (tgt := 361) hx hb d_Lw_law_356 (by decide) (fun c_356 => ?_) (fun c_356 => absurd c_356 (fun q => q (by rw [pk_uLs]; exact lg_self _)))
    refine lv_goto (tgt := 364) hx hb d_Lw_law_361 (by decide) ?_
    obtain ⟨v_8, ev_8⟩ : ∃ y : Int32, y = 0 + 2 := ⟨_, rfl⟩
    refine lv_iinc (v := v_8) (lv' := [(4, .int v_8), (6, .int 0), (5, .int 0), (0, .ref b), (1, .ref h0), (2, .ref m0), (3, .ref o0)]) hx hb d_Lw_law_364 hl (k := 6) rfl (by rw [ev_8]; rfl) (by decide) rfl (fun ls hl => ?_)
    refine lv_goto (tgt := 23) hx hb d_Lw_law_367 (by decide) ?_
    exact lw_exit C1 (by decide) (by decide) _ _ ls v_8 (by rw [ev_8]; decide) hS (lv_sub hl [3, 0] rfl)

set_option maxHeartbeats 4000000 in
set_option maxRecDepth 100000 in
/-- case 6 -/
theorem lw_c6 {p : Program} {l : Launch} {e : Env} {s : State} {m : MethodId} {below : List Frame} {meth : Method} {c : Code} {dC : Nat → ClassId} {dI : Nat → Nat → Nat} {b : Nat} {xs : Nat → Int32} (hfl : l.flags = pinnedFlags ++ [noTraceFlag]) (C1 : lw_At p s m meth c b 2 xs) (hZ0 : tw_Z s s.heap s.heap.size) (h0 b0 b1 s0 b3 g0 g1 g2 r0 t0 w0 l0 k0 v0 v1 v2 u0 u1 u2 u3 u4 y0 y1 m0 j0 j1 j2 j3 j4 j5 j6 j7 o0 : Nat) (ca cl : ClassId) (fw : Nat → Int32) (fo : Nat → Int64) (H : Heap) (locs : List Loc) (ls : Array Slot) (hK : va_K (dC, dI) vwCl [(ca, .int), (cl, .long)] s) (hP : va_P (dC, dI) vwCl [(h0, .inr (6, [.ref b0, .ref b1, .ref s0, .ref b3, .int 0, .int 0, .int 0, .int 0])), (b1, .inr (2, [.ref g0, .ref g1, .ref g2, .int 0])), (s0, .inr (3, [.ref r0, .ref t0, .ref w0, .ref l0, .ref k0, .ref v0, .ref v1, .ref v2, .int 0, .int 0, .int 0, .int 0])), (t0, .inr (4, [.ref u0, .ref u1, .ref u2, .ref u3, .ref u4, .int 0, .int 0, .int 0, .int 1])), (w0, .inr (5, [.ref r0, .ref t0, .ref y0, .ref y1])), (m0, .inr (7, [.ref j0, .ref j1, .ref j2, .ref j3, .ref j4, .int 0, .int 0, .int 0, .int 0, .int 0, .int 0, .ref j5, .int 0, .ref j6, .ref j7])), (j4, .inl (ca, 401, .inl fw)), (o0, .inl (cl, 1, .inr (.inl fo)))] H) (hD : va_D (fun q : Nat => s.heap.size ≤ q) [(h0, .inr (6, [.ref b0, .ref b1, .ref s0, .ref b3, .int 0, .int 0, .int 0, .int 0])), (b1, .inr (2, [.ref g0, .ref g1, .ref g2, .int 0])), (s0, .inr (3, [.ref r0, .ref t0, .ref w0, .ref l0, .ref k0, .ref v0, .ref v1, .ref v2, .int 0, .int 0, .int 0, .int 0])), (t0, .inr (4, [.ref u0, .ref u1, .ref u2, .ref u3, .ref u4, .int 0, .int 0, .int 0, .int 1])), (w0, .inr (5, [.ref r0, .ref t0, .ref y0, .ref y1])), (m0, .inr (7, [.ref j0, .ref j1, .ref j2, .ref j3, .ref j4, .int 0, .int 0, .int 0, .int 0, .int 0, .int 0, .ref j5, .int 0, .ref j6, .ref j7])), (j4, .inl (ca, 401, .inl fw)), (o0, .inl (cl, 1, .inr (.inl fo)))]) (hS : va_S (fun q : Nat => s.heap.size ≤ q) s.heap H locs) (hl : lv_has ls 7 [(0, .ref b), (1, .ref h0), (2, .ref m0), (3, .ref o0), (4, .int 0)]) : W p l e room_1 s m #[Value.ref b] below meth c H locs 45 95481 (lw_Z below #[Value.ref b] s) (F0 m 364 ls []) := by
  obtain ⟨hx, hb, hr, hml, hown, hts, hX, hbl, hlocks, hgv⟩ := id C1
  have hw : ∀ w ∈ bg_W, w.before #[Value.ref b] s = true := fun w h => hts w (bg_sub w h)
  have hown : s.vm.findClass R_Lw = some m.cls := hown
  have hA : ∀ q : Nat, s.heap.size ≤ q → (fun q : Nat => s.heap.size ≤ q) q := fun _ h => h
  have hbA : ¬ (fun q : Nat => s.heap.size ≤ q) b := Nat.not_le.mpr hbl
  obtain ⟨v_1, ev_1⟩ : ∃ y : Int32, y = 0 + 2 := ⟨_, rfl⟩
  refine lv_iinc (v := v_1) (lv' := [(4, .int v_1), (0, .ref b), (1, .ref h0), (2, .ref m0), (3, .ref o0)]) hx hb d_Lw_law_364 hl (k := 4) rfl (by rw [ev_1]; rfl) (by decide) rfl (fun ls hl => ?_)
  refine lv_goto (tgt := 23) hx hb d_Lw_law_367 (by decide) ?_
  exact lw_exit C1 (by decide) (by decide) _ _ ls v_1 (by rw [ev_1]; decide) hS (lv_sub hl [1, 0] rfl)
