theorem k_280 : (Cond.methodLink "ClauseSearchLaw" 53 ⟨"ClauseSearch", "solve", "()Z"⟩) ∈ bg_W := bg_in 280 (by decide +kernel) (by decide +kernel)
theorem k_281 : (Cond.instanceMethod ⟨"ClauseSearch", "solve", "()Z"⟩) ∈ bg_W := bg_in 281 (by decide +kernel) (by decide +kernel)
theorem k_282 : (Cond.selects "ClauseSearch" ⟨"ClauseSearch", "solve", "()Z"⟩ ⟨"ClauseSearch", "solve", "()Z"⟩) ∈ bg_W := bg_in 282 (by decide +kernel) (by decide +kernel)
theorem k_283 : (Cond.code ⟨"ClauseSearch", "solve", "()Z"⟩ prog_1_method_5_code 1 (some .boolean)) ∈ bg_W := bg_in 283 (by decide +kernel) (by decide +kernel)
theorem k_537 : (Cond.methodLink "ClauseSearchLaw" 46 ⟨"ClauseSearchLaw", "give", "(LClauseSearch;I[J)I"⟩) ∈ bg_W := bg_in 537 (by decide +kernel) (by decide +kernel)
theorem k_538 : (Cond.static ⟨"ClauseSearchLaw", "give", "(LClauseSearch;I[J)I"⟩) ∈ bg_W := bg_in 538 (by decide +kernel) (by decide +kernel)
theorem k_539 : (Cond.codeWith ⟨"ClauseSearchLaw", "give", "(LClauseSearch;I[J)I"⟩ method_4_code 4 (some .int) [(0, 9, 12, 13), (0, 9, 15, 15)]) ∈ bg_W := bg_in 539 (by decide +kernel) (by decide +kernel)
theorem k_546 : (Cond.methodLink "ClauseSearchLaw" 49 ⟨"ClauseSearchLaw", "clause", "(LClauseSearch;[J)I"⟩) ∈ bg_W := bg_in 546 (by decide +kernel) (by decide +kernel)
theorem k_547 : (Cond.static ⟨"ClauseSearchLaw", "clause", "(LClauseSearch;[J)I"⟩) ∈ bg_W := bg_in 547 (by decide +kernel) (by decide +kernel)
theorem k_548 : (Cond.codeWith ⟨"ClauseSearchLaw", "clause", "(LClauseSearch;[J)I"⟩ method_5_code 3 (some .int) [(0, 8, 11, 24), (0, 8, 14, 15)]) ∈ bg_W := bg_in 548 (by decide +kernel) (by decide +kernel)
theorem k_580 : (Cond.methodLink "ClauseSearchLaw" 58 ⟨"ClauseSearchLaw", "value", "(LClauseSearch;I[J)I"⟩) ∈ bg_W := bg_in 580 (by decide +kernel) (by decide +kernel)
theorem k_581 : (Cond.static ⟨"ClauseSearchLaw", "value", "(LClauseSearch;I[J)I"⟩) ∈ bg_W := bg_in 581 (by decide +kernel) (by decide +kernel)
theorem k_582 : (Cond.codeWith ⟨"ClauseSearchLaw", "value", "(LClauseSearch;I[J)I"⟩ method_6_code 4 (some .int) [(0, 16, 19, 13), (0, 16, 22, 24)]) ∈ bg_W := bg_in 582 (by decide +kernel) (by decide +kernel)
theorem k_662 : (Cond.methodLink "ClauseSearchLaw" 48 ⟨"ClauseSearchModel", "give", "(I)I"⟩) ∈ bg_W := bg_in 662 (by decide +kernel) (by decide +kernel)
theorem k_663 : (Cond.instanceMethod ⟨"ClauseSearchModel", "give", "(I)I"⟩) ∈ bg_W := bg_in 663 (by decide +kernel) (by decide +kernel)
theorem k_664 : (Cond.selects "ClauseSearchModel" ⟨"ClauseSearchModel", "give", "(I)I"⟩ ⟨"ClauseSearchModel", "give", "(I)I"⟩) ∈ bg_W := bg_in 664 (by decide +kernel) (by decide +kernel)
theorem k_665 : (Cond.code ⟨"ClauseSearchModel", "give", "(I)I"⟩ prog_9_method_5_code 3 (some .int)) ∈ bg_W := bg_in 665 (by decide +kernel) (by decide +kernel)
theorem k_666 : (Cond.methodLink "ClauseSearchLaw" 52 ⟨"ClauseSearchModel", "clause", "()I"⟩) ∈ bg_W := bg_in 666 (by decide +kernel) (by decide +kernel)
theorem k_667 : (Cond.instanceMethod ⟨"ClauseSearchModel", "clause", "()I"⟩) ∈ bg_W := bg_in 667 (by decide +kernel) (by decide +kernel)
theorem k_668 : (Cond.selects "ClauseSearchModel" ⟨"ClauseSearchModel", "clause", "()I"⟩ ⟨"ClauseSearchModel", "clause", "()I"⟩) ∈ bg_W := bg_in 668 (by decide +kernel) (by decide +kernel)
theorem k_669 : (Cond.code ⟨"ClauseSearchModel", "clause", "()I"⟩ prog_9_method_6_code 2 (some .int)) ∈ bg_W := bg_in 669 (by decide +kernel) (by decide +kernel)
theorem k_670 : (Cond.methodLink "ClauseSearchLaw" 57 ⟨"ClauseSearchModel", "solve", "()Z"⟩) ∈ bg_W := bg_in 670 (by decide +kernel) (by decide +kernel)
theorem k_671 : (Cond.instanceMethod ⟨"ClauseSearchModel", "solve", "()Z"⟩) ∈ bg_W := bg_in 671 (by decide +kernel) (by decide +kernel)
theorem k_672 : (Cond.selects "ClauseSearchModel" ⟨"ClauseSearchModel", "solve", "()Z"⟩ ⟨"ClauseSearchModel", "solve", "()Z"⟩) ∈ bg_W := bg_in 672 (by decide +kernel) (by decide +kernel)
theorem k_673 : (Cond.code ⟨"ClauseSearchModel", "solve", "()Z"⟩ prog_9_method_13_code 2 (some .boolean)) ∈ bg_W := bg_in 673 (by decide +kernel) (by decide +kernel)
theorem k_698 : (Cond.methodLink "ClauseSearchLaw" 60 ⟨"ClauseSearchModel", "value", "(I)Z"⟩) ∈ bg_W := bg_in 698 (by decide +kernel) (by decide +kernel)
theorem k_699 : (Cond.instanceMethod ⟨"ClauseSearchModel", "value", "(I)Z"⟩) ∈ bg_W := bg_in 699 (by decide +kernel) (by decide +kernel)
theorem k_700 : (Cond.selects "ClauseSearchModel" ⟨"ClauseSearchModel", "value", "(I)Z"⟩ ⟨"ClauseSearchModel", "value", "(I)Z"⟩) ∈ bg_W := bg_in 700 (by decide +kernel) (by decide +kernel)
theorem k_701 : (Cond.code ⟨"ClauseSearchModel", "value", "(I)Z"⟩ prog_9_method_14_code 2 (some .boolean)) ∈ bg_W := bg_in 701 (by decide +kernel) (by decide +kernel)
theorem d_Lw_law_132 : decode code 132 = .ok (.aload_n 1, 1) := by decide +kernel
theorem d_Lw_law_133 : decode code 133 = .ok (.aload_n 0, 1) := by decide +kernel
theorem d_Lw_law_134 : decode code 134 = .ok (.iload 4, 2) := by decide +kernel
theorem d_Lw_law_136 : decode code 136 = .ok (.iconst 1, 1) := by decide +kernel
theorem d_Lw_law_137 : decode code 137 = .ok (.iadd, 1) := by decide +kernel
theorem d_Lw_law_138 : decode code 138 = .ok (.iaload, 1) := by decide +kernel
theorem d_Lw_law_139 : decode code 139 = .ok (.aload_n 3, 1) := by decide +kernel
theorem d_Lw_law_140 : decode code 140 = .ok (.invokestatic 46, 3) := by decide +kernel
theorem d_Lw_law_143 : decode code 143 = .ok (.istore 5, 2) := by decide +kernel
theorem d_Lw_law_145 : decode code 145 = .ok (.aload_n 2, 1) := by decide +kernel
theorem d_Lw_law_146 : decode code 146 = .ok (.aload_n 0, 1) := by decide +kernel
theorem d_Lw_law_147 : decode code 147 = .ok (.iload 4, 2) := by decide +kernel
theorem d_Lw_law_149 : decode code 149 = .ok (.iconst 1, 1) := by decide +kernel
theorem d_Lw_law_150 : decode code 150 = .ok (.iadd, 1) := by decide +kernel
theorem d_Lw_law_151 : decode code 151 = .ok (.iaload, 1) := by decide +kernel
theorem d_Lw_law_152 : decode code 152 = .ok (.invokevirtual 48, 3) := by decide +kernel
theorem d_Lw_law_155 : decode code 155 = .ok (.istore 6, 2) := by decide +kernel
theorem d_Lw_law_157 : decode code 157 = .ok (.aload_n 2, 1) := by decide +kernel
theorem d_Lw_law_158 : decode code 158 = .ok (.invokevirtual 43, 3) := by decide +kernel
theorem d_Lw_law_161 : decode code 161 = .ok (.iload 5, 2) := by decide +kernel
theorem d_Lw_law_163 : decode code 163 = .ok (.if_icmp .eq 5, 3) := by decide +kernel
theorem d_Lw_law_168 : decode code 168 = .ok (.iload 5, 2) := by decide +kernel
theorem d_Lw_law_170 : decode code 170 = .ok (.ifCond .ne 15, 3) := by decide +kernel
theorem d_Lw_law_185 : decode code 185 = .ok (.goto 179, 3) := by decide +kernel
theorem d_Lw_law_188 : decode code 188 = .ok (.aload_n 1, 1) := by decide +kernel
theorem d_Lw_law_189 : decode code 189 = .ok (.aload_n 3, 1) := by decide +kernel
theorem d_Lw_law_190 : decode code 190 = .ok (.invokestatic 49, 3) := by decide +kernel
theorem d_Lw_law_193 : decode code 193 = .ok (.istore 5, 2) := by decide +kernel
theorem d_Lw_law_195 : decode code 195 = .ok (.aload_n 2, 1) := by decide +kernel
theorem d_Lw_law_196 : decode code 196 = .ok (.invokevirtual 52, 3) := by decide +kernel
theorem d_Lw_law_199 : decode code 199 = .ok (.istore 6, 2) := by decide +kernel
theorem d_Lw_law_201 : decode code 201 = .ok (.aload_n 2, 1) := by decide +kernel
theorem d_Lw_law_202 : decode code 202 = .ok (.invokevirtual 43, 3) := by decide +kernel
theorem d_Lw_law_205 : decode code 205 = .ok (.iload 5, 2) := by decide +kernel
theorem d_Lw_law_207 : decode code 207 = .ok (.if_icmp .eq 5, 3) := by decide +kernel
theorem d_Lw_law_212 : decode code 212 = .ok (.iload 5, 2) := by decide +kernel
theorem d_Lw_law_214 : decode code 214 = .ok (.ifCond .ne 15, 3) := by decide +kernel
theorem d_Lw_law_229 : decode code 229 = .ok (.goto 135, 3) := by decide +kernel
theorem d_Lw_law_232 : decode code 232 = .ok (.aload_n 1, 1) := by decide +kernel
theorem d_Lw_law_233 : decode code 233 = .ok (.invokevirtual 53, 3) := by decide +kernel
theorem d_Lw_law_236 : decode code 236 = .ok (.aload_n 2, 1) := by decide +kernel
theorem d_Lw_law_237 : decode code 237 = .ok (.invokevirtual 57, 3) := by decide +kernel
theorem d_Lw_law_240 : decode code 240 = .ok (.if_icmp .eq 124, 3) := by decide +kernel
theorem d_Lw_law_245 : decode code 245 = .ok (.aload_n 1, 1) := by decide +kernel
theorem d_Lw_law_246 : decode code 246 = .ok (.aload_n 0, 1) := by decide +kernel
theorem d_Lw_law_247 : decode code 247 = .ok (.iload 4, 2) := by decide +kernel
theorem d_Lw_law_249 : decode code 249 = .ok (.iconst 1, 1) := by decide +kernel
theorem d_Lw_law_250 : decode code 250 = .ok (.iadd, 1) := by decide +kernel
theorem d_Lw_law_251 : decode code 251 = .ok (.iaload, 1) := by decide +kernel
theorem d_Lw_law_252 : decode code 252 = .ok (.aload_n 3, 1) := by decide +kernel
theorem d_Lw_law_253 : decode code 253 = .ok (.invokestatic 58, 3) := by decide +kernel
theorem d_Lw_law_256 : decode code 256 = .ok (.istore 5, 2) := by decide +kernel
theorem d_Lw_law_258 : decode code 258 = .ok (.aload_n 2, 1) := by decide +kernel
theorem d_Lw_law_259 : decode code 259 = .ok (.aload_n 0, 1) := by decide +kernel
theorem d_Lw_law_260 : decode code 260 = .ok (.iload 4, 2) := by decide +kernel
theorem d_Lw_law_262 : decode code 262 = .ok (.iconst 1, 1) := by decide +kernel
theorem d_Lw_law_263 : decode code 263 = .ok (.iadd, 1) := by decide +kernel
theorem d_Lw_law_264 : decode code 264 = .ok (.iaload, 1) := by decide +kernel
theorem d_Lw_law_265 : decode code 265 = .ok (.invokevirtual 60, 3) := by decide +kernel
theorem d_Lw_law_268 : decode code 268 = .ok (.istore 6, 2) := by decide +kernel
theorem d_Lw_law_270 : decode code 270 = .ok (.aload_n 2, 1) := by decide +kernel
theorem d_Lw_law_271 : decode code 271 = .ok (.invokevirtual 43, 3) := by decide +kernel
theorem d_Lw_law_274 : decode code 274 = .ok (.iload 5, 2) := by decide +kernel
theorem d_Lw_law_276 : decode code 276 = .ok (.if_icmp .eq 5, 3) := by decide +kernel
theorem d_Lw_law_281 : decode code 281 = .ok (.iload 5, 2) := by decide +kernel
theorem d_Lw_law_283 : decode code 283 = .ok (.ifCond .ne 22, 3) := by decide +kernel
theorem d_Lw_law_305 : decode code 305 = .ok (.goto 59, 3) := by decide +kernel
set_option maxHeartbeats 4000000 in
set_option maxRecDepth 100000 in
/-- case 1 -/
theorem lw_c1 {p : Program} {l : Launch} {e : Env} {s : State} {m : MethodId} {below : List Frame} {meth : Method} {c : Code} {dC : Nat → ClassId} {dI : Nat → Nat → Nat} {b : Nat} {xs : Nat → Int32} (hfl : l.flags = pinnedFlags ++ [noTraceFlag]) (C1 : lw_At p s m meth c b 2 xs) (hZ0 : tw_Z s s.heap s.heap.size) (h0 b0 b1 s0 b3 g0 g1 g2 r0 t0 w0 l0 k0 v0 v1 v2 u0 u1 u2 u3 u4 y0 y1 m0 j0 j1 j2 j3 j4 j5 j6 j7 o0 : Nat) (ca cl : ClassId) (fw : Nat → Int32) (fo : Nat → Int64) (H : Heap) (locs : List Loc) (ls : Array Slot) (hK : va_K (dC, dI) vwCl [(ca, .int), (cl, .long)] s) (hP : va_P (dC, dI) vwCl [(h0, .inr (6, [.ref b0, .ref b1, .ref s0, .ref b3, .int 0, .int 0, .int 0, .int 0])), (b1, .inr (2, [.ref g0, .ref g1, .ref g2, .int 0])), (s0, .inr (3, [.ref r0, .ref t0, .ref w0, .ref l0, .ref k0, .ref v0, .ref v1, .ref v2, .int 0, .int 0, .int 0, .int 0])), (t0, .inr (4, [.ref u0, .ref u1, .ref u2, .ref u3, .ref u4, .int 0, .int 0, .int 0, .int 1])), (w0, .inr (5, [.ref r0, .ref t0, .ref y0, .ref y1])), (m0, .inr (7, [.ref j0, .ref j1, .ref j2, .ref j3, .ref j4, .int 0, .int 0, .int 0, .int 0, .int 0, .int 0, .ref j5, .int 0, .ref j6, .ref j7])), (j4, .inl (ca, 401, .inl fw)), (o0, .inl (cl, 1, .inr (.inl fo)))] H) (hD : va_D (fun q : Nat => s.heap.size ≤ q) [(h0, .inr (6, [.ref b0, .ref b1, .ref s0, .ref b3, .int 0, .int 0, .int 0, .int 0])), (b1, .inr (2, [.ref g0, .ref g1, .ref g2, .int 0])), (s0, .inr (3, [.ref r0, .ref t0, .ref w0, .ref l0, .ref k0, .ref v0, .ref v1, .ref v2, .int 0, .int 0, .int 0, .int 0])), (t0, .inr (4, [.ref u0, .ref u1, .ref u2, .ref u3, .ref u4, .int 0, .int 0, .int 0, .int 1])), (w0, .inr (5, [.ref r0, .ref t0, .ref y0, .ref y1])), (m0, .inr (7, [.ref j0, .ref j1, .ref j2, .ref j3, .ref j4, .int 0, .int 0, .int 0, .int 0, .int 0, .int 0, .ref j5, .int 0, .ref j6, .ref j7])), (j4, .inl (ca, 401, .inl fw)), (o0, .inl (cl, 1, .inr (.inl fo)))]) (hS : va_S (fun q : Nat => s.heap.size ≤ q) s.heap H locs) (hl : lv_has ls 7 [(0, .ref b), (1, .ref h0), (2, .ref m0), (3, .ref o0), (4, .int 0)]) : W p l e room_1 s m #[Value.ref b] below meth c H locs 45 95481 (lw_Z below #[Value.ref b] s) (F0 m 132 ls []) := by
  obtain ⟨hx, hb, hr, hml, hown, hts, hX, hbl, hlocks, hgv⟩ := id C1
  have hw : ∀ w ∈ bg_W, w.before #[Value.ref b] s = true := fun w h => hts w (bg_sub w h)
  have hown : s.vm.findClass R_Lw = some m.cls := hown
  have hA : ∀ q : Nat, s.heap.size ≤ q → (fun q : Nat => s.heap.size ≤ q) q := fun _ h => h
  have hbA : ¬ (fun q : Nat => s.heap.size ≤ q) b := Nat.not_le.mpr hbl
  refine lv_aload_n hx hb d_Lw_law_132 rfl (lv_at hl 1 rfl) ?_
  refine lv_aload_n hx hb d_Lw_law_133 rfl (lv_at hl 0 rfl) ?_
  refine lv_iload hx hb d_Lw_law_134 (lv_at hl 4 rfl) ?_
  refine lv_iconst (v := 1) hx hb d_Lw_law_136 (by decide) ?_
  refine lv_iadd hx hb d_Lw_law_137 ?_
  refine va_sld hx hb hX hbl hbA hS (by unfold vp_in; decide) d_Lw_law_138 ?_
  refine lv_aload_n hx hb d_Lw_law_139 rfl (lv_at hl 3 rfl) ?_
  have hZ : tw_Z s H s.heap.size := hZ0.kept (fun a ha => hS.2.1 a ha (Nat.not_le.mpr ha))
  have hPc := hP.sub (ws' := [(h0, .inr (6, [.ref b0, .ref b1, .ref s0, .ref b3, .int 0, .int 0, .int 0, .int 0])), (o0, .inl (cl, 1, .inr (.inl fo)))]) [0, 7] rfl
  have hDc := hD.sub (ws' := [(h0, .inr (6, [.ref b0, .ref b1, .ref s0, .ref b3, .int 0, .int 0, .int 0, .int 0])), (o0, .inl (cl, 1, .inr (.inl fo)))]) [0, 7] (by decide) rfl
  have hKc := hK.sub (tys' := [(cl, .long)]) [1] rfl
  have hFc := va_free (wc := [(h0, .inr (6, [.ref b0, .ref b1, .ref s0, .ref b3, .int 0, .int 0, .int 0, .int 0])), (o0, .inl (cl, 1, .inr (.inl fo)))]) hD hS hA [0, 7] rfl
  refine va_calli (th_runS (n := 3) (As := [.ref h0, .int (xs (0 + 1 : Int32).toNatClampNeg), .ref o0]) (rest := []) ⟨hx, hb, hml, hown, hw⟩ (c_Lw_give_1 l hfl dC dI h0 b0 b1 s0 b3 o0 cl H.size s.heap.size 0 0 0 0 (xs (0 + 1 : Int32).toNatClampNeg) fo (tri_z _)) k_539 k_28 k_537 k_538 rfl rfl (by decide +kernel) ⟨Nat.le_of_ble_eq_true rfl, Nat.le_of_ble_eq_true rfl⟩ ⟨fun a U g mk q => by obtain ⟨q0, q1, qP, qK, qD, qZ⟩ := q; exact ⟨q0, q1, qP, va_K.moved (u := U) (U := U.calling g mk a) (Vm.Alike.refl U.vm) qK, qD, tw_Z.moved (u := U) (U := U.calling g mk a) (Vm.Alike.refl U.vm) qZ⟩, fun U hU hW => ⟨rfl, by rw [hU], by rw [hU]; exact hPc, va_K.moved hW.alike hKc, hDc.weaken (fun _ _ _ _ => trivial), by rw [hU]; exact hZ.moved hW.alike⟩⟩ rfl rfl hl.1 rfl (lv_room (Nat.le_of_ble_eq_true rfl)) d_Lw_law_140 ⟨Nat.le_of_ble_eq_true rfl, Nat.le_of_ble_eq_true rfl⟩) hS (fun q _ h => hFc q h) hFc (fun r_1 u t H1 locs ht hvm hw9 hB hz1 hk1 hS => ?_)
  obtain ⟨hP1, hK1, hD1⟩ := hB
  rw [ht] at hP1
  have hK1 := va_K.moved hvm.symm hK1
  obtain ⟨hP, hD⟩ := va_join (wr := [(b1, .inr (2, [.ref g0, .ref g1, .ref g2, .int 0])), (s0, .inr (3, [.ref r0, .ref t0, .ref w0, .ref l0, .ref k0, .ref v0, .ref v1, .ref v2, .int 0, .int 0, .int 0, .int 0])), (t0, .inr (4, [.ref u0, .ref u1, .ref u2, .ref u3, .ref u4, .int 0, .int 0, .int 0, .int 1])), (w0, .inr (5, [.ref r0, .ref t0, .ref y0, .ref y1])), (m0, .inr (7, [.ref j0, .ref j1, .ref j2, .ref j3, .ref j4, .int 0, .int 0, .int 0, .int 0, .int 0, .int 0, .ref j5, .int 0, .ref j6, .ref j7])), (j4, .inl (ca, 401, .inl fw))]) (w1 := [(h0, .inr (6, [.ref b0, .ref b1, .ref s0, .ref b3, .int 0, .int 0, .int 0, .int 0])), (o0, .inl (cl, 1, .inr (.inl fo)))]) hP hD [0, 7] [1, 2, 3, 4, 5, 6] rfl rfl (by decide) (by decide) hk1 hFc hP1 hD1
  generalize H1 = H at hP hS ⊢
  have hP : va_P (dC, dI) vwCl [(b1, .inr (2, [.ref g0, .ref g1, .ref g2, .int 0])), (s0, .inr (3, [.ref r0, .ref t0, .ref w0, .ref l0, .ref k0, .ref v0, .ref v1, .ref v2, .int 0, .int 0, .int 0, .int 0])), (t0, .inr (4, [.ref u0, .ref u1, .ref u2, .ref u3, .ref u4, .int 0, .int 0, .int 0, .int 1])), (w0, .inr (5, [.ref r0, .ref t0, .ref y0, .ref y1])), (m0, .inr (7, [.ref j0, .ref j1, .ref j2, .ref j3, .ref j4, .int 0, .int 0, .int 0, .int 0, .int 0, .int 0, .ref j5, .int 0, .ref j6, .ref j7])), (j4, .inl (ca, 401, .inl fw)), (h0, .inr (6, [.ref b0, .ref b1, .ref s0, .ref b3, .int 0, .int 0, .int 0, .int 0])), (o0, .inl (cl, 1, .inr (.inl fo)))] H := hP
  have hD : va_D (fun q : Nat => s.heap.size ≤ q) [(b1, .inr (2, [.ref g0, .ref g1, .ref g2, .int 0])), (s0, .inr (3, [.ref r0, .ref t0, .ref w0, .ref l0, .ref k0, .ref v0, .ref v1, .ref v2, .int 0, .int 0, .int 0, .int 0])), (t0, .inr (4, [.ref u0, .ref u1, .ref u2, .ref u3, .ref u4, .int 0, .int 0, .int 0, .int 1])), (w0, .inr (5, [.ref r0, .ref t0, .ref y0, .ref y1])), (m0, .inr (7, [.ref j0, .ref j1, .ref j2, .ref j3, .ref j4, .int 0, .int 0, .int 0, .int 0, .int 0, .int 0, .ref j5, .int 0, .ref j6, .ref j7])), (j4, .inl (ca, 401, .inl fw)), (h0, .inr (6, [.ref b0, .ref b1, .ref s0, .ref b3, .int 0, .int 0, .int 0, .int 0])), (o0, .inl (cl, 1, .inr (.inl fo)))] := hD
  refine W.widen (k := 46) (n := 95487) (by decide) (by decide) ?_
  have hw9 : r_1 = 1 := hw9
  subst hw9
  refine lv_istore (lv' := [(5, .int 1), (0, .ref b), (1, .ref h0), (2, .ref m0), (3, .ref o0), (4, .int 0)]) hx hb d_Lw_law_143 hl (by decide) rfl (fun ls hl => ?_)
  refine lv_aload_n hx hb d_Lw_law_145 rfl (lv_at hl 3 rfl) ?_
  refine lv_aload_n hx hb d_Lw_law_146 rfl (lv_at hl 1 rfl) ?_
  refine lv_iload hx hb d_Lw_law_147 (lv_at hl 5 rfl) ?_
  refine lv_iconst (v := 1) hx hb d_Lw_law_149 (by decide) ?_
  refine lv_iadd hx hb d_Lw_law_150 ?_
  refine va_sld hx hb hX hbl hbA hS (by unfold vp_in; decide) d_Lw_law_151 ?_
  have hPc := hP.sub (ws' := [(m0, .inr (7, [.ref j0, .ref j1, .ref j2, .ref j3, .ref j4, .int 0, .int 0, .int 0, .int 0, .int 0, .int 0, .ref j5, .int 0, .ref j6, .ref j7]))]) [4] rfl
  have hDc := hD.sub (ws' := [(m0, .inr (7, [.ref j0, .ref j1, .ref j2, .ref j3, .ref j4, .int 0, .int 0, .int 0, .int 0, .int 0, .int 0, .ref j5, .int 0, .ref j6, .ref j7]))]) [4] (by decide) rfl
  have hKc := hK.sub (tys' := []) [] rfl
  have hFc := va_free (wc := [(m0, .inr (7, [.ref j0, .ref j1, .ref j2, .ref j3, .ref j4, .int 0, .int 0, .int 0, .int 0, .int 0, .int 0, .ref j5, .int 0, .ref j6, .ref j7]))]) hD hS hA [4] rfl
  refine va_calli (va_runV (As := [.int (xs (0 + 1 : Int32).toNatClampNeg)]) (rest := []) ⟨hx, hb, hml, hown, hw⟩ (c_Md_give_1 l dC dI m0 j0 j1 j2 j3 j4 j5 j6 j7 H.size 0 0 0 0 0 0 0 (xs (0 + 1 : Int32).toNatClampNeg) (by rcases tri_z (xs ((0 + 1) : Int32).toNatClampNeg) with h | h | h; exact Or.inl h; exact Or.inr (Or.inr h); exact Or.inr (Or.inl h))) (cb_V (C := R_Md) 1 hw k_665 k_37 k_662 k_663 k_664 rfl rfl (by decide +kernel) ⟨Nat.le_of_ble_eq_true rfl, Nat.le_of_ble_eq_true rfl⟩) ⟨fun a U g mk q => by obtain ⟨q0, q1, qP, qK, qD⟩ := q; exact ⟨q0, q1, qP, va_K.moved (u := U) (U := U.calling g mk a) (Vm.Alike.refl U.vm) qK, qD⟩, va_recv hKc hPc (ci := 7) (q0 := 0) rfl rfl, fun U hU hW => ⟨rfl, by rw [hU], by rw [hU]; exact hPc, va_K.moved hW.alike hKc, hDc.weaken (fun _ _ _ _ => trivial)⟩⟩ rfl rfl hl.1 rfl (lv_room (Nat.le_of_ble_eq_true rfl)) d_Lw_law_152 ⟨Nat.le_of_ble_eq_true rfl, Nat.le_of_ble_eq_true rfl⟩) hS (fun q _ h => hFc q h) hFc (fun r_2 u t H1 locs ht hvm hw9 hB hz1 hk1 hS => ?_)
  obtain ⟨hP1, hK1, hD1⟩ := hB
  rw [ht] at hP1
  have hK1 := va_K.moved hvm.symm hK1
  obtain ⟨hP, hD⟩ := va_join (wr := [(b1, .inr (2, [.ref g0, .ref g1, .ref g2, .int 0])), (s0, .inr (3, [.ref r0, .ref t0, .ref w0, .ref l0, .ref k0, .ref v0, .ref v1, .ref v2, .int 0, .int 0, .int 0, .int 0])), (t0, .inr (4, [.ref u0, .ref u1, .ref u2, .ref u3, .ref u4, .int 0, .int 0, .int 0, .int 1])), (w0, .inr (5, [.ref r0, .ref t0, .ref y0, .ref y1])), (j4, .inl (ca, 401, .inl fw)), (h0, .inr (6, [.ref b0, .ref b1, .ref s0, .ref b3, .int 0, .int 0, .int 0, .int 0])), (o0, .inl (cl, 1, .inr (.inl fo)))]) (w1 := [(m0, .inr (7, [.ref j0, .ref j1, .ref j2, .ref j3, .ref j4, .int 0, .int 0, .int 0, .int 0, .int 0, .int 1, .ref j5, .int 0, .ref j6, .ref j7]))]) hP hD [4] [0, 1, 2, 3, 5, 6, 7] rfl rfl (by decide) (by decide) hk1 hFc hP1 hD1
  generalize H1 = H at hP hS ⊢
  have hP : va_P (dC, dI) vwCl [(b1, .inr (2, [.ref g0, .ref g1, .ref g2, .int 0])), (s0, .inr (3, [.ref r0, .ref t0, .ref w0, .ref l0, .ref k0, .ref v0, .ref v1, .ref v2, .int 0, .int 0, .int 0, .int 0])), (t0, .inr (4, [.ref u0, .ref u1, .ref u2, .ref u3, .ref u4, .int 0, .int 0, .int 0, .int 1])), (w0, .inr (5, [.ref r0, .ref t0, .ref y0, .ref y1])), (j4, .inl (ca, 401, .inl fw)), (h0, .inr (6, [.ref b0, .ref b1, .ref s0, .ref b3, .int 0, .int 0, .int 0, .int 0])), (o0, .inl (cl, 1, .inr (.inl fo))), (m0, .inr (7, [.ref j0, .ref j1, .ref j2, .ref j3, .ref j4, .int 0, .int 0, .int 0, .int 0, .int 0, .int 1, .ref j5, .int 0, .ref j6, .ref j7]))] H := hP
  have hD : va_D (fun q : Nat => s.heap.size ≤ q) [(b1, .inr (2, [.ref g0, .ref g1, .ref g2, .int 0])), (s0, .inr (3, [.ref r0, .ref t0, .ref w0, .ref l0, .ref k0, .ref v0, .ref v1, .ref v2, .int 0, .int 0, .int 0, .int 0])), (t0, .inr (4, [.ref u0, .ref u1, .ref u2, .ref u3, .ref u4, .int 0, .int 0, .int 0, .int 1])), (w0, .inr (5, [.ref r0, .ref t0, .ref y0, .ref y1])), (j4, .inl (ca, 401, .inl fw)), (h0, .inr (6, [.ref b0, .ref b1, .ref s0, .ref b3, .int 0, .int 0, .int 0, .int 0])), (o0, .inl (cl, 1, .inr (.inl fo))), (m0, .inr (7, [.ref j0, .ref j1, .ref j2, .ref j3, .ref j4, .int 0, .int 0, .int 0, .int 0, .int 0, .int 1, .ref j5, .int 0, .ref j6, .ref j7]))] := hD
  refine W.widen (k := 46) (n := 95487) (by decide) (by decide) ?_
  have hw9 : r_2 = 0 := hw9
  subst hw9
  refine lv_istore (lv' := [(6, .int 0), (5, .int 1), (0, .ref b), (1, .ref h0), (2, .ref m0), (3, .ref o0), (4, .int 0)]) hx hb d_Lw_law_155 hl (by decide) rfl (fun ls hl => ?_)
  refine lv_aload_n hx hb d_Lw_law_157 rfl (lv_at hl 4 rfl) ?_
  have hPc := hP.sub (ws' := [(m0, .inr (7, [.ref j0, .ref j1, .ref j2, .ref j3, .ref j4, .int 0, .int 0, .int 0, .int 0, .int 0, .int 1, .ref j5, .int 0, .ref j6, .ref j7]))]) [7] rfl
  have hDc := hD.sub (ws' := [(m0, .inr (7, [.ref j0, .ref j1, .ref j2, .ref j3, .ref j4, .int 0, .int 0, .int 0, .int 0, .int 0, .int 1, .ref j5, .int 0, .ref j6, .ref j7]))]) [7] (by decide) rfl
  have hKc := hK.sub (tys' := []) [] rfl
  have hFc := va_free (wc := [(m0, .inr (7, [.ref j0, .ref j1, .ref j2, .ref j3, .ref j4, .int 0, .int 0, .int 0, .int 0, .int 0, .int 1, .ref j5, .int 0, .ref j6, .ref j7]))]) hD hS hA [7] rfl
  refine va_calli (va_runV (As := []) (rest := []) ⟨hx, hb, hml, hown, hw⟩ (c_Md_thrown l dC dI m0 j0 j1 j2 j3 j4 j5 j6 j7 H.size 0 0 0 0 0 1 0) (cb_V (C := R_Md) 0 hw k_653 k_37 k_650 k_651 k_652 rfl rfl (by decide +kernel) ⟨Nat.le_of_ble_eq_true rfl, Nat.le_of_ble_eq_true rfl⟩) ⟨fun a U g mk q => by obtain ⟨q0, q1, qP, qK, qD⟩ := q; exact ⟨q0, q1, qP, va_K.moved (u := U) (U := U.calling g mk a) (Vm.Alike.refl U.vm) qK, qD⟩, va_recv hKc hPc (ci := 7) (q0 := 0) rfl rfl, fun U hU hW => ⟨rfl, by rw [hU], by rw [hU]; exact hPc, va_K.moved hW.alike hKc, hDc.weaken (fun _ _ _ _ => trivial)⟩⟩ rfl rfl hl.1 rfl (lv_room (Nat.le_of_ble_eq_true rfl)) d_Lw_law_158 ⟨Nat.le_of_ble_eq_true rfl, Nat.le_of_ble_eq_true rfl⟩) hS (fun q _ h => hFc q h) hFc (fun r_3 u t H1 locs ht hvm hw9 hB hz1 hk1 hS => ?_)
  obtain ⟨hP1, hK1, hD1⟩ := hB
  rw [ht] at hP1
  have hK1 := va_K.moved hvm.symm hK1
  obtain ⟨hP, hD⟩ := va_join (wr := [(b1, .inr (2, [.ref g0, .ref g1, .ref g2, .int 0])), (s0, .inr (3, [.ref r0, .ref t0, .ref w0, .ref l0, .ref k0, .ref v0, .ref v1, .ref v2, .int 0, .int 0, .int 0, .int 0])), (t0, .inr (4, [.ref u0, .ref u1, .ref u2, .ref u3, .ref u4, .int 0, .int 0, .int 0, .int 1])), (w0, .inr (5, [.ref r0, .ref t0, .ref y0, .ref y1])), (j4, .inl (ca, 401, .inl fw)), (h0, .inr (6, [.ref b0, .ref b1, .ref s0, .ref b3, .int 0, .int 0, .int 0, .int 0])), (o0, .inl (cl, 1, .inr (.inl fo)))]) (w1 := [(m0, .inr (7, [.ref j0, .ref j1, .ref j2, .ref j3, .ref j4, .int 0, .int 0, .int 0, .int 0, .int 0, .int 1, .ref j5, .int 0, .ref j6, .ref j7]))]) hP hD [7] [0, 1, 2, 3, 4, 5, 6] rfl rfl (by decide) (by decide) hk1 hFc hP1 hD1
  generalize H1 = H at hP hS ⊢
  have hP : va_P (dC, dI) vwCl [(b1, .inr (2, [.ref g0, .ref g1, .ref g2, .int 0])), (s0, .inr (3, [.ref r0, .ref t0, .ref w0, .ref l0, .ref k0, .ref v0, .ref v1, .ref v2, .int 0, .int 0, .int 0, .int 0])), (t0, .inr (4, [.ref u0, .ref u1, .ref u2, .ref u3, .ref u4, .int 0, .int 0, .int 0, .int 1])), (w0, .inr (5, [.ref r0, .ref t0, .ref y0, .ref y1])), (j4, .inl (ca, 401, .inl fw)), (h0, .inr (6, [.ref b0, .ref b1, .ref s0, .ref b3, .int 0, .int 0, .int 0, .int 0])), (o0, .inl (cl, 1, .inr (.inl fo))), (m0, .inr (7, [.ref j0, .ref j1, .ref j2, .ref j3, .ref j4, .int 0, .int 0, .int 0, .int 0, .int 0, .int 1, .ref j5, .int 0, .ref j6, .ref j7]))] H := hP
  have hD : va_D (fun q : Nat => s.heap.size ≤ q) [(b1, .inr (2, [.ref g0, .ref g1, .ref g2, .int 0])), (s0, .inr (3, [.ref r0, .ref t0, .ref w0, .ref l0, .ref k0, .ref v0, .ref v1, .ref v2, .int 0, .int 0, .int 0, .int 0])), (t0, .inr (4, [.ref u0, .ref u1, .ref u2, .ref u3, .ref u4, .int 0, .int 0, .int 0, .int 1])), (w0, .inr (5, [.ref r0, .ref t0, .ref y0, .ref y1])), (j4, .inl (ca, 401, .inl fw)), (h0, .inr (6, [.ref b0, .ref b1, .ref s0, .ref b3, .int 0, .int 0, .int 0, .int 0])), (o0, .inl (cl, 1, .inr (.inl fo))), (m0, .inr (7, [.ref j0, .ref j1, .ref j2, .ref j3, .ref j4, .int 0, .int 0, .int 0, .int 0, .int 0, .int 1, .ref j5, .int 0, .ref j6, .ref j7]))] := hD
  refine W.widen (k := 46) (n := 95487) (by decide) (by decide) ?_
  have hw9 : r_3 = 1 := hw9
  subst hw9
  refine lv_iload hx hb d_Lw_law_161 (lv_at hl 1 rfl) ?_
  refine lv_icmp_eq (tgt := 168) hx hb d_Lw_law_163 (by decide) (fun c_163 => ?_) (fun c_163 => absurd c_163 (by decide))
  refine lv_iload hx hb d_Lw_law_168 (lv_at hl 1 rfl) ?_
  refine lv_if_ne (tgt := 185) hx hb d_Lw_law_170 (by decide) (fun c_170 => ?_) (fun c_170 => absurd c_170 (by decide))
  refine lv_goto (tgt := 364) hx hb d_Lw_law_185 (by decide) ?_
  obtain ⟨v_4, ev_4⟩ : ∃ y : Int32, y = 0 + 2 := ⟨_, rfl⟩
  refine lv_iinc (v := v_4) (lv' := [(4, .int v_4), (6, .int 0), (5, .int 1), (0, .ref b), (1, .ref h0), (2, .ref m0), (3, .ref o0)]) hx hb d_Lw_law_364 hl (k := 6) rfl (by rw [ev_4]; rfl) (by decide) rfl (fun ls hl => ?_)
  refine lv_goto (tgt := 23) hx hb d_Lw_law_367 (by decide) ?_
  exact lw_exit C1 (by decide) (by decide) _ _ ls v_4 (by rw [ev_4]; decide) hS (lv_sub hl [3, 0] rfl)

set_option maxHeartbeats 4000000 in
set_option maxRecDepth 100000 in
/-- case 2 -/
theorem lw_c2 {p : Program} {l : Launch} {e : Env} {s : State} {m : MethodId} {below : List Frame} {meth : Method} {c : Code} {dC : Nat → ClassId} {dI : Nat → Nat → Nat} {b : Nat} {xs : Nat → Int32} (hfl : l.flags = pinnedFlags ++ [noTraceFlag]) (C1 : lw_At p s m meth c b 2 xs) (hZ0 : tw_Z s s.heap s.heap.size) (h0 b0 b1 s0 b3 g0 g1 g2 r0 t0 w0 l0 k0 v0 v1 v2 u0 u1 u2 u3 u4 y0 y1 m0 j0 j1 j2 j3 j4 j5 j6 j7 o0 : Nat) (ca cl : ClassId) (fw : Nat → Int32) (fo : Nat → Int64) (H : Heap) (locs : List Loc) (ls : Array Slot) (hK : va_K (dC, dI) vwCl [(ca, .int), (cl, .long)] s) (hP : va_P (dC, dI) vwCl [(h0, .inr (6, [.ref b0, .ref b1, .ref s0, .ref b3, .int 0, .int 0, .int 0, .int 0])), (b1, .inr (2, [.ref g0, .ref g1, .ref g2, .int 0])), (s0, .inr (3, [.ref r0, .ref t0, .ref w0, .ref l0, .ref k0, .ref v0, .ref v1, .ref v2, .int 0, .int 0, .int 0, .int 0])), (t0, .inr (4, [.ref u0, .ref u1, .ref u2, .ref u3, .ref u4, .int 0, .int 0, .int 0, .int 1])), (w0, .inr (5, [.ref r0, .ref t0, .ref y0, .ref y1])), (m0, .inr (7, [.ref j0, .ref j1, .ref j2, .ref j3, .ref j4, .int 0, .int 0, .int 0, .int 0, .int 0, .int 0, .ref j5, .int 0, .ref j6, .ref j7])), (j4, .inl (ca, 401, .inl fw)), (o0, .inl (cl, 1, .inr (.inl fo)))] H) (hD : va_D (fun q : Nat => s.heap.size ≤ q) [(h0, .inr (6, [.ref b0, .ref b1, .ref s0, .ref b3, .int 0, .int 0, .int 0, .int 0])), (b1, .inr (2, [.ref g0, .ref g1, .ref g2, .int 0])), (s0, .inr (3, [.ref r0, .ref t0, .ref w0, .ref l0, .ref k0, .ref v0, .ref v1, .ref v2, .int 0, .int 0, .int 0, .int 0])), (t0, .inr (4, [.ref u0, .ref u1, .ref u2, .ref u3, .ref u4, .int 0, .int 0, .int 0, .int 1])), (w0, .inr (5, [.ref r0, .ref t0, .ref y0, .ref y1])), (m0, .inr (7, [.ref j0, .ref j1, .ref j2, .ref j3, .ref j4, .int 0, .int 0, .int 0, .int 0, .int 0, .int 0, .ref j5, .int 0, .ref j6, .ref j7])), (j4, .inl (ca, 401, .inl fw)), (o0, .inl (cl, 1, .inr (.inl fo)))]) (hS : va_S (fun q : Nat => s.heap.size ≤ q) s.heap H locs) (hl : lv_has ls 7 [(0, .ref b), (1, .ref h0), (2, .ref m0), (3, .ref o0), (4, .int 0)]) : W p l e room_1 s m #[Value.ref b] below meth c H locs 45 95481 (lw_Z below #[Value.ref b] s) (F0 m 188 ls []) := by
  obtain ⟨hx, hb, hr, hml, hown, hts, hX, hbl, hlocks, hgv⟩ := id C1
  have hw : ∀ w ∈ bg_W, w.before #[Value.ref b] s = true := fun w h => hts w (bg_sub w h)
  have hown : s.vm.findClass R_Lw = some m.cls := hown
  have hA : ∀ q : Nat, s.heap.size ≤ q → (fun q : Nat => s.heap.size ≤ q) q := fun _ h => h
  have hbA : ¬ (fun q : Nat => s.heap.size ≤ q) b := Nat.not_le.mpr hbl
  refine lv_aload_n hx hb d_Lw_law_188 rfl (lv_at hl 1 rfl) ?_
  refine lv_aload_n hx hb d_Lw_law_189 rfl (lv_at hl 3 rfl) ?_
  have hZ : tw_Z s H s.heap.size := hZ0.kept (fun a ha => hS.2.1 a ha (Nat.not_le.mpr ha))
  have hPc := hP.sub (ws' := [(h0, .inr (6, [.ref b0, .ref b1, .ref s0, .ref b3, .int 0, .int 0, .int 0, .int 0])), (o0, .inl (cl, 1, .inr (.inl fo)))]) [0, 7] rfl
  have hDc := hD.sub (ws' := [(h0, .inr (6, [.ref b0, .ref b1, .ref s0, .ref b3, .int 0, .int 0, .int 0, .int 0])), (o0, .inl (cl, 1, .inr (.inl fo)))]) [0, 7] (by decide) rfl
  have hKc := hK.sub (tys' := [(cl, .long)]) [1] rfl
  have hFc := va_free (wc := [(h0, .inr (6, [.ref b0, .ref b1, .ref s0, .ref b3, .int 0, .int 0, .int 0, .int 0])), (o0, .inl (cl, 1, .inr (.inl fo)))]) hD hS hA [0, 7] rfl
  refine va_calli (th_runS (n := 2) (As := [.ref h0, .ref o0]) (rest := []) ⟨hx, hb, hml, hown, hw⟩ (c_Lw_clause_1 l hfl dC dI h0 b0 b1 s0 b3 o0 cl H.size s.heap.size 0 0 0 0 fo rfl) k_548 k_28 k_546 k_547 rfl rfl (by decide +kernel) ⟨Nat.le_of_ble_eq_true rfl, Nat.le_of_ble_eq_true rfl⟩ ⟨fun a U g mk q => by obtain ⟨q0, q1, qP, qK, qD, qZ⟩ := q; exact ⟨q0, q1, qP, va_K.moved (u := U) (U := U.calling g mk a) (Vm.Alike.refl U.vm) qK, qD, tw_Z.moved (u := U) (U := U.calling g mk a) (Vm.Alike.refl U.vm) qZ⟩, fun U hU hW => ⟨rfl, by rw [hU], by rw [hU]; exact hPc, va_K.moved hW.alike hKc, hDc.weaken (fun _ _ _ _ => trivial), by rw [hU]; exact hZ.moved hW.alike⟩⟩ rfl rfl hl.1 rfl (lv_room (Nat.le_of_ble_eq_true rfl)) d_Lw_law_190 ⟨Nat.le_of_ble_eq_true rfl, Nat.le_of_ble_eq_true rfl⟩) hS (fun q _ h => hFc q h) hFc (fun r_1 u t H1 locs ht hvm hw9 hB hz1 hk1 hS => ?_)
  obtain ⟨hP1, hK1, hD1⟩ := hB
  rw [ht] at hP1
  have hK1 := va_K.moved hvm.symm hK1
  obtain ⟨hP, hD⟩ := va_join (wr := [(b1, .inr (2, [.ref g0, .ref g1, .ref g2, .int 0])), (s0, .inr (3, [.ref r0, .ref t0, .ref w0, .ref l0, .ref k0, .ref v0, .ref v1, .ref v2, .int 0, .int 0, .int 0, .int 0])), (t0, .inr (4, [.ref u0, .ref u1, .ref u2, .ref u3, .ref u4, .int 0, .int 0, .int 0, .int 1])), (w0, .inr (5, [.ref r0, .ref t0, .ref y0, .ref y1])), (m0, .inr (7, [.ref j0, .ref j1, .ref j2, .ref j3, .ref j4, .int 0, .int 0, .int 0, .int 0, .int 0, .int 0, .ref j5, .int 0, .ref j6, .ref j7])), (j4, .inl (ca, 401, .inl fw))]) (w1 := [(h0, .inr (6, [.ref b0, .ref b1, .ref s0, .ref b3, .int 0, .int 0, .int 0, .int 0])), (o0, .inl (cl, 1, .inr (.inl fo)))]) hP hD [0, 7] [1, 2, 3, 4, 5, 6] rfl rfl (by decide) (by decide) hk1 hFc hP1 hD1
  generalize H1 = H at hP hS ⊢
  have hP : va_P (dC, dI) vwCl [(b1, .inr (2, [.ref g0, .ref g1, .ref g2, .int 0])), (s0, .inr (3, [.ref r0, .ref t0, .ref w0, .ref l0, .ref k0, .ref v0, .ref v1, .ref v2, .int 0, .int 0, .int 0, .int 0])), (t0, .inr (4, [.ref u0, .ref u1, .ref u2, .ref u3, .ref u4, .int 0, .int 0, .int 0, .int 1])), (w0, .inr (5, [.ref r0, .ref t0, .ref y0, .ref y1])), (m0, .inr (7, [.ref j0, .ref j1, .ref j2, .ref j3, .ref j4, .int 0, .int 0, .int 0, .int 0, .int 0, .int 0, .ref j5, .int 0, .ref j6, .ref j7])), (j4, .inl (ca, 401, .inl fw)), (h0, .inr (6, [.ref b0, .ref b1, .ref s0, .ref b3, .int 0, .int 0, .int 0, .int 0])), (o0, .inl (cl, 1, .inr (.inl fo)))] H := hP
  have hD : va_D (fun q : Nat => s.heap.size ≤ q) [(b1, .inr (2, [.ref g0, .ref g1, .ref g2, .int 0])), (s0, .inr (3, [.ref r0, .ref t0, .ref w0, .ref l0, .ref k0, .ref v0, .ref v1, .ref v2, .int 0, .int 0, .int 0, .int 0])), (t0, .inr (4, [.ref u0, .ref u1, .ref u2, .ref u3, .ref u4, .int 0, .int 0, .int 0, .int 1])), (w0, .inr (5, [.ref r0, .ref t0, .ref y0, .ref y1])), (m0, .inr (7, [.ref j0, .ref j1, .ref j2, .ref j3, .ref j4, .int 0, .int 0, .int 0, .int 0, .int 0, .int 0, .ref j5, .int 0, .ref j6, .ref j7])), (j4, .inl (ca, 401, .inl fw)), (h0, .inr (6, [.ref b0, .ref b1, .ref s0, .ref b3, .int 0, .int 0, .int 0, .int 0])), (o0, .inl (cl, 1, .inr (.inl fo)))] := hD
  refine W.widen (k := 46) (n := 95487) (by decide) (by decide) ?_
  have hw9 : r_1 = 1 := hw9
  subst hw9
  refine lv_istore (lv' := [(5, .int 1), (0, .ref b), (1, .ref h0), (2, .ref m0), (3, .ref o0), (4, .int 0)]) hx hb d_Lw_law_193 hl (by decide) rfl (fun ls hl => ?_)
  refine lv_aload_n hx hb d_Lw_law_195 rfl (lv_at hl 3 rfl) ?_
  have hPc := hP.sub (ws' := [(m0, .inr (7, [.ref j0, .ref j1, .ref j2, .ref j3, .ref j4, .int 0, .int 0, .int 0, .int 0, .int 0, .int 0, .ref j5, .int 0, .ref j6, .ref j7]))]) [4] rfl
  have hDc := hD.sub (ws' := [(m0, .inr (7, [.ref j0, .ref j1, .ref j2, .ref j3, .ref j4, .int 0, .int 0, .int 0, .int 0, .int 0, .int 0, .ref j5, .int 0, .ref j6, .ref j7]))]) [4] (by decide) rfl
  have hKc := hK.sub (tys' := []) [] rfl
  have hFc := va_free (wc := [(m0, .inr (7, [.ref j0, .ref j1, .ref j2, .ref j3, .ref j4, .int 0, .int 0, .int 0, .int 0, .int 0, .int 0, .ref j5, .int 0, .ref j6, .ref j7]))]) hD hS hA [4] rfl
  refine va_calli (va_runV (As := []) (rest := []) ⟨hx, hb, hml, hown, hw⟩ (c_Md_clause_1 l dC dI m0 j0 j1 j2 j3 j4 j5 j6 j7 H.size 0 0 0 0 0 0 0 (by decide)) (cb_V (C := R_Md) 0 hw k_669 k_37 k_666 k_667 k_668 rfl rfl (by decide +kernel) ⟨Nat.le_of_ble_eq_true rfl, Nat.le_of_ble_eq_true rfl⟩) ⟨fun a U g mk q => by obtain ⟨q0, q1, qP, qK, qD⟩ := q; exact ⟨q0, q1, qP, va_K.moved (u := U) (U := U.calling g mk a) (Vm.Alike.refl U.vm) qK, qD⟩, va_recv hKc hPc (ci := 7) (q0 := 0) rfl rfl, fun U hU hW => ⟨rfl, by rw [hU], by rw [hU]; exact hPc, va_K.moved hW.alike hKc, hDc.weaken (fun _ _ _ _ => trivial)⟩⟩ rfl rfl hl.1 rfl (lv_room (Nat.le_of_ble_eq_true rfl)) d_Lw_law_196 ⟨Nat.le_of_ble_eq_true rfl, Nat.le_of_ble_eq_true rfl⟩) hS (fun q _ h => hFc q h) hFc (fun r_2 u t H1 locs ht hvm hw9 hB hz1 hk1 hS => ?_)
  obtain ⟨hP1, hK1, hD1⟩ := hB
  rw [ht] at hP1
  have hK1 := va_K.moved hvm.symm hK1
  obtain ⟨hP, hD⟩ := va_join (wr := [(b1, .inr (2, [.ref g0, .ref g1, .ref g2, .int 0])), (s0, .inr (3, [.ref r0, .ref t0, .ref w0, .ref l0, .ref k0, .ref v0, .ref v1, .ref v2, .int 0, .int 0, .int 0, .int 0])), (t0, .inr (4, [.ref u0, .ref u1, .ref u2, .ref u3, .ref u4, .int 0, .int 0, .int 0, .int 1])), (w0, .inr (5, [.ref r0, .ref t0, .ref y0, .ref y1])), (j4, .inl (ca, 401, .inl fw)), (h0, .inr (6, [.ref b0, .ref b1, .ref s0, .ref b3, .int 0, .int 0, .int 0, .int 0])), (o0, .inl (cl, 1, .inr (.inl fo)))]) (w1 := [(m0, .inr (7, [.ref j0, .ref j1, .ref j2, .ref j3, .ref j4, .int 0, .int 0, .int 0, .int 0, .int 0, .int 1, .ref j5, .int 0, .ref j6, .ref j7]))]) hP hD [4] [0, 1, 2, 3, 5, 6, 7] rfl rfl (by decide) (by decide) hk1 hFc hP1 hD1
  generalize H1 = H at hP hS ⊢
  have hP : va_P (dC, dI) vwCl [(b1, .inr (2, [.ref g0, .ref g1, .ref g2, .int 0])), (s0, .inr (3, [.ref r0, .ref t0, .ref w0, .ref l0, .ref k0, .ref v0, .ref v1, .ref v2, .int 0, .int 0, .int 0, .int 0])), (t0, .inr (4, [.ref u0, .ref u1, .ref u2, .ref u3, .ref u4, .int 0, .int 0, .int 0, .int 1])), (w0, .inr (5, [.ref r0, .ref t0, .ref y0, .ref y1])), (j4, .inl (ca, 401, .inl fw)), (h0, .inr (6, [.ref b0, .ref b1, .ref s0, .ref b3, .int 0, .int 0, .int 0, .int 0])), (o0, .inl (cl, 1, .inr (.inl fo))), (m0, .inr (7, [.ref j0, .ref j1, .ref j2, .ref j3, .ref j4, .int 0, .int 0, .int 0, .int 0, .int 0, .int 1, .ref j5, .int 0, .ref j6, .ref j7]))] H := hP
  have hD : va_D (fun q : Nat => s.heap.size ≤ q) [(b1, .inr (2, [.ref g0, .ref g1, .ref g2, .int 0])), (s0, .inr (3, [.ref r0, .ref t0, .ref w0, .ref l0, .ref k0, .ref v0, .ref v1, .ref v2, .int 0, .int 0, .int 0, .int 0])), (t0, .inr (4, [.ref u0, .ref u1, .ref u2, .ref u3, .ref u4, .int 0, .int 0, .int 0, .int 1])), (w0, .inr (5, [.ref r0, .ref t0, .ref y0, .ref y1])), (j4, .inl (ca, 401, .inl fw)), (h0, .inr (6, [.ref b0, .ref b1, .ref s0, .ref b3, .int 0, .int 0, .int 0, .int 0])), (o0, .inl (cl, 1, .inr (.inl fo))), (m0, .inr (7, [.ref j0, .ref j1, .ref j2, .ref j3, .ref j4, .int 0, .int 0, .int 0, .int 0, .int 0, .int 1, .ref j5, .int 0, .ref j6, .ref j7]))] := hD
  refine W.widen (k := 46) (n := 95487) (by decide) (by decide) ?_
  have hw9 : r_2 = 0 := hw9
  subst hw9
  refine lv_istore (lv' := [(6, .int 0), (5, .int 1), (0, .ref b), (1, .ref h0), (2, .ref m0), (3, .ref o0), (4, .int 0)]) hx hb d_Lw_law_199 hl (by decide) rfl (fun ls hl => ?_)
  refine lv_aload_n hx hb d_Lw_law_201 rfl (lv_at hl 4 rfl) ?_
  have hPc := hP.sub (ws' := [(m0, .inr (7, [.ref j0, .ref j1, .ref j2, .ref j3, .ref j4, .int 0, .int 0, .int 0, .int 0, .int 0, .int 1, .ref j5, .int 0, .ref j6, .ref j7]))]) [7] rfl
  have hDc := hD.sub (ws' := [(m0, .inr (7, [.ref j0, .ref j1, .ref j2, .ref j3, .ref j4, .int 0, .int 0, .int 0, .int 0, .int 0, .int 1, .ref j5, .int 0, .ref j6, .ref j7]))]) [7] (by decide) rfl
  have hKc := hK.sub (tys' := []) [] rfl
  have hFc := va_free (wc := [(m0, .inr (7, [.ref j0, .ref j1, .ref j2, .ref j3, .ref j4, .int 0, .int 0, .int 0, .int 0, .int 0, .int 1, .ref j5, .int 0, .ref j6, .ref j7]))]) hD hS hA [7] rfl
  refine va_calli (va_runV (As := []) (rest := []) ⟨hx, hb, hml, hown, hw⟩ (c_Md_thrown l dC dI m0 j0 j1 j2 j3 j4 j5 j6 j7 H.size 0 0 0 0 0 1 0) (cb_V (C := R_Md) 0 hw k_653 k_37 k_650 k_651 k_652 rfl rfl (by decide +kernel) ⟨Nat.le_of_ble_eq_true rfl, Nat.le_of_ble_eq_true rfl⟩) ⟨fun a U g mk q => by obtain ⟨q0, q1, qP, qK, qD⟩ := q; exact ⟨q0, q1, qP, va_K.moved (u := U) (U := U.calling g mk a) (Vm.Alike.refl U.vm) qK, qD⟩, va_recv hKc hPc (ci := 7) (q0 := 0) rfl rfl, fun U hU hW => ⟨rfl, by rw [hU], by rw [hU]; exact hPc, va_K.moved hW.alike hKc, hDc.weaken (fun _ _ _ _ => trivial)⟩⟩ rfl rfl hl.1 rfl (lv_room (Nat.le_of_ble_eq_true rfl)) d_Lw_law_202 ⟨Nat.le_of_ble_eq_true rfl, Nat.le_of_ble_eq_true rfl⟩) hS (fun q _ h => hFc q h) hFc (fun r_3 u t H1 locs ht hvm hw9 hB hz1 hk1 hS => ?_)
  obtain ⟨hP1, hK1, hD1⟩ := hB
  rw [ht] at hP1
  have hK1 := va_K.moved hvm.symm hK1
  obtain ⟨hP, hD⟩ := va_join (wr := [(b1, .inr (2, [.ref g0, .ref g1, .ref g2, .int 0])), (s0, .inr (3, [.ref r0, .ref t0, .ref w0, .ref l0, .ref k0, .ref v0, .ref v1, .ref v2, .int 0, .int 0, .int 0, .int 0])), (t0, .inr (4, [.ref u0, .ref u1, .ref u2, .ref u3, .ref u4, .int 0, .int 0, .int 0, .int 1])), (w0, .inr (5, [.ref r0, .ref t0, .ref y0, .ref y1])), (j4, .inl (ca, 401, .inl fw)), (h0, .inr (6, [.ref b0, .ref b1, .ref s0, .ref b3, .int 0, .int 0, .int 0, .int 0])), (o0, .inl (cl, 1, .inr (.inl fo)))]) (w1 := [(m0, .inr (7, [.ref j0, .ref j1, .ref j2, .ref j3, .ref j4, .int 0, .int 0, .int 0, .int 0, .int 0, .int 1, .ref j5, .int 0, .ref j6, .ref j7]))]) hP hD [7] [0, 1, 2, 3, 4, 5, 6] rfl rfl (by decide) (by decide) hk1 hFc hP1 hD1
  generalize H1 = H at hP hS ⊢
  have hP : va_P (dC, dI) vwCl [(b1, .inr (2, [.ref g0, .ref g1, .ref g2, .int 0])), (s0, .inr (3, [.ref r0, .ref t0, .ref w0, .ref l0, .ref k0, .ref v0, .ref v1, .ref v2, .int 0, .int 0, .int 0, .int 0])), (t0, .inr (4, [.ref u0, .ref u1, .ref u2, .ref u3, .ref u4, .int 0, .int 0, .int 0, .int 1])), (w0, .inr (5, [.ref r0, .ref t0, .ref y0, .ref y1])), (j4, .inl (ca, 401, .inl fw)), (h0, .inr (6, [.ref b0, .ref b1, .ref s0, .ref b3, .int 0, .int 0, .int 0, .int 0])), (o0, .inl (cl, 1, .inr (.inl fo))), (m0, .inr (7, [.ref j0, .ref j1, .ref j2, .ref j3, .ref j4, .int 0, .int 0, .int 0, .int 0, .int 0, .int 1, .ref j5, .int 0, .ref j6, .ref j7]))] H := hP
  have hD : va_D (fun q : Nat => s.heap.size ≤ q) [(b1, .inr (2, [.ref g0, .ref g1, .ref g2, .int 0])), (s0, .inr (3, [.ref r0, .ref t0, .ref w0, .ref l0, .ref k0, .ref v0, .ref v1, .ref v2, .int 0, .int 0, .int 0, .int 0])), (t0, .inr (4, [.ref u0, .ref u1, .ref u2, .ref u3, .ref u4, .int 0, .int 0, .int 0, .int 1])), (w0, .inr (5, [.ref r0, .ref t0, .ref y0, .ref y1])), (j4, .inl (ca, 401, .inl fw)), (h0, .inr (6, [.ref b0, .ref b1, .ref s0, .ref b3, .int 0, .int 0, .int 0, .int 0])), (o0, .inl (cl, 1, .inr (.inl fo))), (m0, .inr (7, [.ref j0, .ref j1, .ref j2, .ref j3, .ref j4, .int 0, .int 0, .int 0, .int 0, .int 0, .int 1, .ref j5, .int 0, .ref j6, .ref j7]))] := hD
  refine W.widen (k := 46) (n := 95487) (by decide) (by decide) ?_
  have hw9 : r_3 = 1 := hw9
  subst hw9
  refine lv_iload hx hb d_Lw_law_205 (lv_at hl 1 rfl) ?_
  refine lv_icmp_eq (tgt := 212) hx hb d_Lw_law_207 (by decide) (fun c_207 => ?_) (fun c_207 => absurd c_207 (by decide))
  refine lv_iload hx hb d_Lw_law_212 (lv_at hl 1 rfl) ?_
  refine lv_if_ne (tgt := 229) hx hb d_Lw_law_214 (by decide) (fun c_214 => ?_) (fun c_214 => absurd c_214 (by decide))
  refine lv_goto (tgt := 364) hx hb d_Lw_law_229 (by decide) ?_
  obtain ⟨v_4, ev_4⟩ : ∃ y : Int32, y = 0 + 2 := ⟨_, rfl⟩
  refine lv_iinc (v := v_4) (lv' := [(4, .int v_4), (6, .int 0), (5, .int 1), (0, .ref b), (1, .ref h0), (2, .ref m0), (3, .ref o0)]) hx hb d_Lw_law_364 hl (k := 6) rfl (by rw [ev_4]; rfl) (by decide) rfl (fun ls hl => ?_)
  refine lv_goto (tgt := 23) hx hb d_Lw_law_367 (by decide) ?_
  exact lw_exit C1 (by decide) (by decide) _ _ ls v_4 (by rw [ev_4]; decide) hS (lv_sub hl [3, 0] rfl)

set_option maxHeartbeats 4000000 in
set_option maxRecDepth 100000 in
/-- case 3 -/
theorem lw_c3 {p : Program} {l : Launch} {e : Env} {s : State} {m : MethodId} {below : List Frame} {meth : Method} {c : Code} {dC : Nat → ClassId} {dI : Nat → Nat → Nat} {b : Nat} {xs : Nat → Int32} (hfl : l.flags = pinnedFlags ++ [noTraceFlag]) (C1 : lw_At p s m meth c b 2 xs) (hZ0 : tw_Z s s.heap s.heap.size) (h0 b0 b1 s0 b3 g0 g1 g2 r0 t0 w0 l0 k0 v0 v1 v2 u0 u1 u2 u3 u4 y0 y1 m0 j0 j1 j2 j3 j4 j5 j6 j7 o0 : Nat) (ca cl : ClassId) (fw : Nat → Int32) (fo : Nat → Int64) (H : Heap) (locs : List Loc) (ls : Array Slot) (hK : va_K (dC, dI) vwCl [(ca, .int), (cl, .long)] s) (hP : va_P (dC, dI) vwCl [(h0, .inr (6, [.ref b0, .ref b1, .ref s0, .ref b3, .int 0, .int 0, .int 0, .int 0])), (b1, .inr (2, [.ref g0, .ref g1, .ref g2, .int 0])), (s0, .inr (3, [.ref r0, .ref t0, .ref w0, .ref l0, .ref k0, .ref v0, .ref v1, .ref v2, .int 0, .int 0, .int 0, .int 0])), (t0, .inr (4, [.ref u0, .ref u1, .ref u2, .ref u3, .ref u4, .int 0, .int 0, .int 0, .int 1])), (w0, .inr (5, [.ref r0, .ref t0, .ref y0, .ref y1])), (m0, .inr (7, [.ref j0, .ref j1, .ref j2, .ref j3, .ref j4, .int 0, .int 0, .int 0, .int 0, .int 0, .int 0, .ref j5, .int 0, .ref j6, .ref j7])), (j4, .inl (ca, 401, .inl fw)), (o0, .inl (cl, 1, .inr (.inl fo)))] H) (hD : va_D (fun q : Nat => s.heap.size ≤ q) [(h0, .inr (6, [.ref b0, .ref b1, .ref s0, .ref b3, .int 0, .int 0, .int 0, .int 0])), (b1, .inr (2, [.ref g0, .ref g1, .ref g2, .int 0])), (s0, .inr (3, [.ref r0, .ref t0, .ref w0, .ref l0, .ref k0, .ref v0, .ref v1, .ref v2, .int 0, .int 0, .int 0, .int 0])), (t0, .inr (4, [.ref u0, .ref u1, .ref u2, .ref u3, .ref u4, .int 0, .int 0, .int 0, .int 1])), (w0, .inr (5, [.ref r0, .ref t0, .ref y0, .ref y1])), (m0, .inr (7, [.ref j0, .ref j1, .ref j2, .ref j3, .ref j4, .int 0, .int 0, .int 0, .int 0, .int 0, .int 0, .ref j5, .int 0, .ref j6, .ref j7])), (j4, .inl (ca, 401, .inl fw)), (o0, .inl (cl, 1, .inr (.inl fo)))]) (hS : va_S (fun q : Nat => s.heap.size ≤ q) s.heap H locs) (hl : lv_has ls 7 [(0, .ref b), (1, .ref h0), (2, .ref m0), (3, .ref o0), (4, .int 0)]) : W p l e room_1 s m #[Value.ref b] below meth c H locs 45 95481 (lw_Z below #[Value.ref b] s) (F0 m 232 ls []) := by
  obtain ⟨hx, hb, hr, hml, hown, hts, hX, hbl, hlocks, hgv⟩ := id C1
  have hw : ∀ w ∈ bg_W, w.before #[Value.ref b] s = true := fun w h => hts w (bg_sub w h)
  have hown : s.vm.findClass R_Lw = some m.cls := hown
  have hA : ∀ q : Nat, s.heap.size ≤ q → (fun q : Nat => s.heap.size ≤ q) q := fun _ h => h
  have hbA : ¬ (fun q : Nat => s.heap.size ≤ q) b := Nat.not_le.mpr hbl
  refine lv_aload_n hx hb d_Lw_law_232 rfl (lv_at hl 1 rfl) ?_
  have hPc := hP.sub (ws' := [(h0, .inr (6, [.ref b0, .ref b1, .ref s0, .ref b3, .int 0, .int 0, .int 0, .int 0])), (b1, .inr (2, [.ref g0, .ref g1, .ref g2, .int 0])), (s0, .inr (3, [.ref r0, .ref t0, .ref w0, .ref l0, .ref k0, .ref v0, .ref v1, .ref v2, .int 0, .int 0, .int 0, .int 0])), (t0, .inr (4, [.ref u0, .ref u1, .ref u2, .ref u3, .ref u4, .int 0, .int 0, .int 0, .int 1])), (w0, .inr (5, [.ref r0, .ref t0, .ref y0, .ref y1]))]) [0, 1, 2, 3, 4] rfl
  have hDc := hD.sub (ws' := [(h0, .inr (6, [.ref b0, .ref b1, .ref s0, .ref b3, .int 0, .int 0, .int 0, .int 0])), (b1, .inr (2, [.ref g0, .ref g1, .ref g2, .int 0])), (s0, .inr (3, [.ref r0, .ref t0, .ref w0, .ref l0, .ref k0, .ref v0, .ref v1, .ref v2, .int 0, .int 0, .int 0, .int 0])), (t0, .inr (4, [.ref u0, .ref u1, .ref u2, .ref u3, .ref u4, .int 0, .int 0, .int 0, .int 1])), (w0, .inr (5, [.ref r0, .ref t0, .ref y0, .ref y1]))]) [0, 1, 2, 3, 4] (by decide) rfl
  have hKc := hK.sub (tys' := []) [] rfl
  have hFc := va_free (wc := [(h0, .inr (6, [.ref b0, .ref b1, .ref s0, .ref b3, .int 0, .int 0, .int 0, .int 0])), (b1, .inr (2, [.ref g0, .ref g1, .ref g2, .int 0])), (s0, .inr (3, [.ref r0, .ref t0, .ref w0, .ref l0, .ref k0, .ref v0, .ref v1, .ref v2, .int 0, .int 0, .int 0, .int 0])), (t0, .inr (4, [.ref u0, .ref u1, .ref u2, .ref u3, .ref u4, .int 0, .int 0, .int 0, .int 1])), (w0, .inr (5, [.ref r0, .ref t0, .ref y0, .ref y1]))]) hD hS hA [0, 1, 2, 3, 4] rfl
  refine va_calli (va_runV (As := []) (rest := []) ⟨hx, hb, hml, hown, hw⟩ (c_Cs_solve_0 l dC dI h0 b0 b1 s0 b3 g0 g1 g2 r0 t0 w0 l0 k0 v0 v1 v2 u0 u1 u2 u3 u4 y0 y1 H.size) (cb_V (C := R_Cs) 0 hw k_283 k_29 k_280 k_281 k_282 rfl rfl (by decide +kernel) ⟨Nat.le_of_ble_eq_true rfl, Nat.le_of_ble_eq_true rfl⟩) ⟨fun a U g mk q => by obtain ⟨q0, q1, qP, qK, qD⟩ := q; exact ⟨q0, q1, qP, va_K.moved (u := U) (U := U.calling g mk a) (Vm.Alike.refl U.vm) qK, qD⟩, va_recv hKc hPc (ci := 6) (q0 := 0) rfl rfl, fun U hU hW => ⟨rfl, by rw [hU], by rw [hU]; exact hPc, va_K.moved hW.alike hKc, hDc.weaken (fun _ _ _ _ => trivial)⟩⟩ rfl rfl hl.1 rfl (lv_room (Nat.le_of_ble_eq_true rfl)) d_Lw_law_233 ⟨Nat.le_of_ble_eq_true rfl, Nat.le_of_ble_eq_true rfl⟩) hS (fun q _ h => hFc q h) hFc (fun r_1 u t H1 locs ht hvm hw9 hB hz1 hk1 hS => ?_)
  obtain ⟨hP1, hK1, hD1⟩ := hB
  rw [ht] at hP1
  have hK1 := va_K.moved hvm.symm hK1
  obtain ⟨hP, hD⟩ := va_join (wr := [(m0, .inr (7, [.ref j0, .ref j1, .ref j2, .ref j3, .ref j4, .int 0, .int 0, .int 0, .int 0, .int 0, .int 0, .ref j5, .int 0, .ref j6, .ref j7])), (j4, .inl (ca, 401, .inl fw)), (o0, .inl (cl, 1, .inr (.inl fo)))]) (w1 := [(w0, .inr (5, [.ref r0, .ref t0, .ref y0, .ref y1])), (t0, .inr (4, [.ref u0, .ref u1, .ref u2, .ref u3, .ref u4, .int 0, .int 0, .int 0, .int 1])), (s0, .inr (3, [.ref r0, .ref t0, .ref w0, .ref l0, .ref k0, .ref v0, .ref v1, .ref v2, .int 0, .int 0, .int 0, .int 0])), (h0, .inr (6, [.ref b0, .ref b1, .ref s0, .ref b3, .int 0, .int 0, .int 1, .int 0])), (b1, .inr (2, [.ref g0, .ref g1, .ref g2, .int 0]))]) hP hD [0, 1, 2, 3, 4] [5, 6, 7] rfl rfl (by decide) (by decide) hk1 hFc hP1 hD1
  generalize H1 = H at hP hS ⊢
  have hP : va_P (dC, dI) vwCl [(m0, .inr (7, [.ref j0, .ref j1, .ref j2, .ref j3, .ref j4, .int 0, .int 0, .int 0, .int 0, .int 0, .int 0, .ref j5, .int 0, .ref j6, .ref j7])), (j4, .inl (ca, 401, .inl fw)), (o0, .inl (cl, 1, .inr (.inl fo))), (w0, .inr (5, [.ref r0, .ref t0, .ref y0, .ref y1])), (t0, .inr (4, [.ref u0, .ref u1, .ref u2, .ref u3, .ref u4, .int 0, .int 0, .int 0, .int 1])), (s0, .inr (3, [.ref r0, .ref t0, .ref w0, .ref l0, .ref k0, .ref v0, .ref v1, .ref v2, .int 0, .int 0, .int 0, .int 0])), (h0, .inr (6, [.ref b0, .ref b1, .ref s0, .ref b3, .int 0, .int 0, .int 1, .int 0])), (b1, .inr (2, [.ref g0, .ref g1, .ref g2, .int 0]))] H := hP
  have hD : va_D (fun q : Nat => s.heap.size ≤ q) [(m0, .inr (7, [.ref j0, .ref j1, .ref j2, .ref j3, .ref j4, .int 0, .int 0, .int 0, .int 0, .int 0, .int 0, .ref j5, .int 0, .ref j6, .ref j7])), (j4, .inl (ca, 401, .inl fw)), (o0, .inl (cl, 1, .inr (.inl fo))), (w0, .inr (5, [.ref r0, .ref t0, .ref y0, .ref y1])), (t0, .inr (4, [.ref u0, .ref u1, .ref u2, .ref u3, .ref u4, .int 0, .int 0, .int 0, .int 1])), (s0, .inr (3, [.ref r0, .ref t0, .ref w0, .ref l0, .ref k0, .ref v0, .ref v1, .ref v2, .int 0, .int 0, .int 0, .int 0])), (h0, .inr (6, [.ref b0, .ref b1, .ref s0, .ref b3, .int 0, .int 0, .int 1, .int 0])), (b1, .inr (2, [.ref g0, .ref g1, .ref g2, .int 0]))] := hD
  refine W.widen (k := 45) (n := 95481) (by decide) (by decide) ?_
  have hw9 : r_1 = 1 := hw9
  subst hw9
  refine lv_aload_n hx hb d_Lw_law_236 rfl (lv_at hl 2 rfl) ?_
  have hPc := hP.sub (ws' := [(m0, .inr (7, [.ref j0, .ref j1, .ref j2, .ref j3, .ref j4, .int 0, .int 0, .int 0, .int 0, .int 0, .int 0, .ref j5, .int 0, .ref j6, .ref j7])), (j4, .inl (ca, 401, .inl fw))]) [0, 1] rfl
  have hDc := hD.sub (ws' := [(m0, .inr (7, [.ref j0, .ref j1, .ref j2, .ref j3, .ref j4, .int 0, .int 0, .int 0, .int 0, .int 0, .int 0, .ref j5, .int 0, .ref j6, .ref j7])), (j4, .inl (ca, 401, .inl fw))]) [0, 1] (by decide) rfl
  have hKc := hK.sub (tys' := [(ca, .int)]) [0] rfl
  have hFc := va_free (wc := [(m0, .inr (7, [.ref j0, .ref j1, .ref j2, .ref j3, .ref j4, .int 0, .int 0, .int 0, .int 0, .int 0, .int 0, .ref j5, .int 0, .ref j6, .ref j7])), (j4, .inl (ca, 401, .inl fw))]) hD hS hA [0, 1] rfl
  refine va_calli (va_runV (As := []) (rest := [.int 1]) ⟨hx, hb, hml, hown, hw⟩ (c_Md_solve_0 l dC dI m0 j0 j1 j2 j3 j4 j5 j6 j7 ca H.size fw) (cb_V (C := R_Md) 0 hw k_673 k_37 k_670 k_671 k_672 rfl rfl (by decide +kernel) ⟨Nat.le_of_ble_eq_true rfl, Nat.le_of_ble_eq_true rfl⟩) ⟨fun a U g mk q => by obtain ⟨q0, q1, qP, qK, qD⟩ := q; exact ⟨q0, q1, qP, va_K.moved (u := U) (U := U.calling g mk a) (Vm.Alike.refl U.vm) qK, qD⟩, va_recv hKc hPc (ci := 7) (q0 := 0) rfl rfl, fun U hU hW => ⟨rfl, by rw [hU], by rw [hU]; exact hPc, va_K.moved hW.alike hKc, hDc.weaken (fun _ _ _ _ => trivial)⟩⟩ rfl rfl hl.1 rfl (lv_room (Nat.le_of_ble_eq_true rfl)) d_Lw_law_237 ⟨Nat.le_of_ble_eq_true rfl, Nat.le_of_ble_eq_true rfl⟩) hS (fun q _ h => hFc q h) hFc (fun r_2 u t H1 locs ht hvm hw9 hB hz1 hk1 hS => ?_)
  obtain ⟨g_3, f_4, hP1, hK1, hD1⟩ := hB
  rw [ht] at hP1
  have hK1 := va_K.moved hvm.symm hK1
  obtain ⟨hP, hD⟩ := va_join (wr := [(o0, .inl (cl, 1, .inr (.inl fo))), (w0, .inr (5, [.ref r0, .ref t0, .ref y0, .ref y1])), (t0, .inr (4, [.ref u0, .ref u1, .ref u2, .ref u3, .ref u4, .int 0, .int 0, .int 0, .int 1])), (s0, .inr (3, [.ref r0, .ref t0, .ref w0, .ref l0, .ref k0, .ref v0, .ref v1, .ref v2, .int 0, .int 0, .int 0, .int 0])), (h0, .inr (6, [.ref b0, .ref b1, .ref s0, .ref b3, .int 0, .int 0, .int 1, .int 0])), (b1, .inr (2, [.ref g0, .ref g1, .ref g2, .int 0]))]) (w1 := [(j4, .inl (ca, 401, .inl g_3)), (m0, .inr (7, [.ref j0, .ref j1, .ref j2, .ref j3, .ref j4, .int 0, .int 0, .int 0, .int 0, .int 1, .int 0, .ref j5, .int 0, .ref j6, .ref j7]))]) hP hD [0, 1] [2, 3, 4, 5, 6, 7] rfl rfl (by decide) (by decide) hk1 hFc hP1 hD1
  generalize H1 = H at hP hS ⊢
  have hP : va_P (dC, dI) vwCl [(o0, .inl (cl, 1, .inr (.inl fo))), (w0, .inr (5, [.ref r0, .ref t0, .ref y0, .ref y1])), (t0, .inr (4, [.ref u0, .ref u1, .ref u2, .ref u3, .ref u4, .int 0, .int 0, .int 0, .int 1])), (s0, .inr (3, [.ref r0, .ref t0, .ref w0, .ref l0, .ref k0, .ref v0, .ref v1, .ref v2, .int 0, .int 0, .int 0, .int 0])), (h0, .inr (6, [.ref b0, .ref b1, .ref s0, .ref b3, .int 0, .int 0, .int 1, .int 0])), (b1, .inr (2, [.ref g0, .ref g1, .ref g2, .int 0])), (j4, .inl (ca, 401, .inl g_3)), (m0, .inr (7, [.ref j0, .ref j1, .ref j2, .ref j3, .ref j4, .int 0, .int 0, .int 0, .int 0, .int 1, .int 0, .ref j5, .int 0, .ref j6, .ref j7]))] H := hP
  have hD : va_D (fun q : Nat => s.heap.size ≤ q) [(o0, .inl (cl, 1, .inr (.inl fo))), (w0, .inr (5, [.ref r0, .ref t0, .ref y0, .ref y1])), (t0, .inr (4, [.ref u0, .ref u1, .ref u2, .ref u3, .ref u4, .int 0, .int 0, .int 0, .int 1])), (s0, .inr (3, [.ref r0, .ref t0, .ref w0, .ref l0, .ref k0, .ref v0, .ref v1, .ref v2, .int 0, .int 0, .int 0, .int 0])), (h0, .inr (6, [.ref b0, .ref b1, .ref s0, .ref b3, .int 0, .int 0, .int 1, .int 0])), (b1, .inr (2, [.ref g0, .ref g1, .ref g2, .int 0])), (j4, .inl (ca, 401, .inl g_3)), (m0, .inr (7, [.ref j0, .ref j1, .ref j2, .ref j3, .ref j4, .int 0, .int 0, .int 0, .int 0, .int 1, .int 0, .ref j5, .int 0, .ref j6, .ref j7]))] := hD
  refine W.widen (k := 45) (n := 95481) (by decide) (by decide) ?_
  have hw9 : r_2 = 1 := hw9
  subst hw9
  refine lv_icmp_eq (tgt := 364) hx hb d_Lw_law_240 (by decide) (fun c_240 => ?_) (fun c_240 => absurd c_240 (by decide))
  obtain ⟨v_5, ev_5⟩ : ∃ y : Int32, y = 0 + 2 := ⟨_, rfl⟩
  refine lv_iinc (v := v_5) (lv' := [(4, .int v_5), (0, .ref b), (1, .ref h0), (2, .ref m0), (3, .ref o0)]) hx hb d_Lw_law_364 hl (k := 4) rfl (by rw [ev_5]; rfl) (by decide) rfl (fun ls hl => ?_)
  refine lv_goto (tgt := 23) hx hb d_Lw_law_367 (by decide) ?_
  exact lw_exit C1 (by decide) (by decide) _ _ ls v_5 (by rw [ev_5]; decide) hS (lv_sub hl [1, 0] rfl)

set_option maxHeartbeats 4000000 in
set_option maxRecDepth 100000 in
/-- case 4 -/
theorem lw_c4 {p : Program} {l : Launch} {e : Env} {s : State} {m : MethodId} {below : List Frame} {meth : Method} {c : Code} {dC : Nat → ClassId} {dI : Nat → Nat → Nat} {b : Nat} {xs : Nat → Int32} (hfl : l.flags = pinnedFlags ++ [noTraceFlag]) (C1 : lw_At p s m meth c b 2 xs) (hZ0 : tw_Z s s.heap s.heap.size) (h0 b0 b1 s0 b3 g0 g1 g2 r0 t0 w0 l0 k0 v0 v1 v2 u0 u1 u2 u3 u4 y0 y1 m0 j0 j1 j2 j3 j4 j5 j6 j7 o0 : Nat) (ca cl : ClassId) (fw : Nat → Int32) (fo : Nat → Int64) (H : Heap) (locs : List Loc) (ls : Array Slot) (hK : va_K (dC, dI) vwCl [(ca, .int), (cl, .long)] s) (hP : va_P (dC, dI) vwCl [(h0, .inr (6, [.ref b0, .ref b1, .ref s0, .ref b3, .int 0, .int 0, .int 0, .int 0])), (b1, .inr (2, [.ref g0, .ref g1, .ref g2, .int 0])), (s0, .inr (3, [.ref r0, .ref t0, .ref w0, .ref l0, .ref k0, .ref v0, .ref v1, .ref v2, .int 0, .int 0, .int 0, .int 0])), (t0, .inr (4, [.ref u0, .ref u1, .ref u2, .ref u3, .ref u4, .int 0, .int 0, .int 0, .int 1])), (w0, .inr (5, [.ref r0, .ref t0, .ref y0, .ref y1])), (m0, .inr (7, [.ref j0, .ref j1, .ref j2, .ref j3, .ref j4, .int 0, .int 0, .int 0, .int 0, .int 0, .int 0, .ref j5, .int 0, .ref j6, .ref j7])), (j4, .inl (ca, 401, .inl fw)), (o0, .inl (cl, 1, .inr (.inl fo)))] H) (hD : va_D (fun q : Nat => s.heap.size ≤ q) [(h0, .inr (6, [.ref b0, .ref b1, .ref s0, .ref b3, .int 0, .int 0, .int 0, .int 0])), (b1, .inr (2, [.ref g0, .ref g1, .ref g2, .int 0])), (s0, .inr (3, [.ref r0, .ref t0, .ref w0, .ref l0, .ref k0, .ref v0, .ref v1, .ref v2, .int 0, .int 0, .int 0, .int 0])), (t0, .inr (4, [.ref u0, .ref u1, .ref u2, .ref u3, .ref u4, .int 0, .int 0, .int 0, .int 1])), (w0, .inr (5, [.ref r0, .ref t0, .ref y0, .ref y1])), (m0, .inr (7, [.ref j0, .ref j1, .ref j2, .ref j3, .ref j4, .int 0, .int 0, .int 0, .int 0, .int 0, .int 0, .ref j5, .int 0, .ref j6, .ref j7])), (j4, .inl (ca, 401, .inl fw)), (o0, .inl (cl, 1, .inr (.inl fo)))]) (hS : va_S (fun q : Nat => s.heap.size ≤ q) s.heap H locs) (hl : lv_has ls 7 [(0, .ref b), (1, .ref h0), (2, .ref m0), (3, .ref o0), (4, .int 0)]) : W p l e room_1 s m #[Value.ref b] below meth c H locs 45 95481 (lw_Z below #[Value.ref b] s) (F0 m 245 ls []) := by
  obtain ⟨hx, hb, hr, hml, hown, hts, hX, hbl, hlocks, hgv⟩ := id C1
  have hw : ∀ w ∈ bg_W, w.before #[Value.ref b] s = true := fun w h => hts w (bg_sub w h)
  have hown : s.vm.findClass R_Lw = some m.cls := hown
  have hA : ∀ q : Nat, s.heap.size ≤ q → (fun q : Nat => s.heap.size ≤ q) q := fun _ h => h
  have hbA : ¬ (fun q : Nat => s.heap.size ≤ q) b := Nat.not_le.mpr hbl
  refine lv_aload_n hx hb d_Lw_law_245 rfl (lv_at hl 1 rfl) ?_
  refine lv_aload_n hx hb d_Lw_law_246 rfl (lv_at hl 0 rfl) ?_
  refine lv_iload hx hb d_Lw_law_247 (lv_at hl 4 rfl) ?_
  refine lv_iconst (v := 1) hx hb d_Lw_law_249 (by decide) ?_
  refine lv_iadd hx hb d_Lw_law_250 ?_
  refine va_sld hx hb hX hbl hbA hS (by unfold vp_in; decide) d_Lw_law_251 ?_
  refine lv_aload_n hx hb d_Lw_law_252 rfl (lv_at hl 3 rfl) ?_
  have hZ : tw_Z s H s.heap.size := hZ0.kept (fun a ha => hS.2.1 a ha (Nat.not_le.mpr ha))
  have hPc := hP.sub (ws' := [(h0, .inr (6, [.ref b0, .ref b1, .ref s0, .ref b3, .int 0, .int 0, .int 0, .int 0])), (o0, .inl (cl, 1, .inr (.inl fo)))]) [0, 7] rfl
  have hDc := hD.sub (ws' := [(h0, .inr (6, [.ref b0, .ref b1, .ref s0, .ref b3, .int 0, .int 0, .int 0, .int 0])), (o0, .inl (cl, 1, .inr (.inl fo)))]) [0, 7] (by decide) rfl
  have hKc := hK.sub (tys' := [(cl, .long)]) [1] rfl
  have hFc := va_free (wc := [(h0, .inr (6, [.ref b0, .ref b1, .ref s0, .ref b3, .int 0, .int 0, .int 0, .int 0])), (o0, .inl (cl, 1, .inr (.inl fo)))]) hD hS hA [0, 7] rfl
  refine va_calli (th_runS (n := 3) (As := [.ref h0, .int (xs (0 + 1 : Int32).toNatClampNeg), .ref o0]) (rest := []) ⟨hx, hb, hml, hown, hw⟩ (c_Lw_value_1 l hfl dC dI h0 b0 b1 s0 b3 o0 cl H.size s.heap.size 0 0 0 0 (xs (0 + 1 : Int32).toNatClampNeg) fo (one_z _)) k_582 k_28 k_580 k_581 rfl rfl (by decide +kernel) ⟨Nat.le_of_ble_eq_true rfl, Nat.le_of_ble_eq_true rfl⟩ ⟨fun a U g mk q => by obtain ⟨q0, q1, qP, qK, qD, qZ⟩ := q; exact ⟨q0, q1, qP, va_K.moved (u := U) (U := U.calling g mk a) (Vm.Alike.refl U.vm) qK, qD, tw_Z.moved (u := U) (U := U.calling g mk a) (Vm.Alike.refl U.vm) qZ⟩, fun U hU hW => ⟨rfl, by rw [hU], by rw [hU]; exact hPc, va_K.moved hW.alike hKc, hDc.weaken (fun _ _ _ _ => trivial), by rw [hU]; exact hZ.moved hW.alike⟩⟩ rfl rfl hl.1 rfl (lv_room (Nat.le_of_ble_eq_true rfl)) d_Lw_law_253 ⟨Nat.le_of_ble_eq_true rfl, Nat.le_of_ble_eq_true rfl⟩) hS (fun q _ h => hFc q h) hFc (fun r_1 u t H1 locs ht hvm hw9 hB hz1 hk1 hS => ?_)
  obtain ⟨hP1, hK1, hD1⟩ := hB
  rw [ht] at hP1
  have hK1 := va_K.moved hvm.symm hK1
  obtain ⟨hP, hD⟩ := va_join (wr := [(b1, .inr (2, [.ref g0, .ref g1, .ref g2, .int 0])), (s0, .inr (3, [.ref r0, .ref t0, .ref w0, .ref l0, .ref k0, .ref v0, .ref v1, .ref v2, .int 0, .int 0, .int 0, .int 0])), (t0, .inr (4, [.ref u0, .ref u1, .ref u2, .ref u3, .ref u4, .int 0, .int 0, .int 0, .int 1])), (w0, .inr (5, [.ref r0, .ref t0, .ref y0, .ref y1])), (m0, .inr (7, [.ref j0, .ref j1, .ref j2, .ref j3, .ref j4, .int 0, .int 0, .int 0, .int 0, .int 0, .int 0, .ref j5, .int 0, .ref j6, .ref j7])), (j4, .inl (ca, 401, .inl fw))]) (w1 := [(h0, .inr (6, [.ref b0, .ref b1, .ref s0, .ref b3, .int 0, .int 0, .int 0, .int 0])), (o0, .inl (cl, 1, .inr (.inl fo)))]) hP hD [0, 7] [1, 2, 3, 4, 5, 6] rfl rfl (by decide) (by decide) hk1 hFc hP1 hD1
  generalize H1 = H at hP hS ⊢
  have hP : va_P (dC, dI) vwCl [(b1, .inr (2, [.ref g0, .ref g1, .ref g2, .int 0])), (s0, .inr (3, [.ref r0, .ref t0, .ref w0, .ref l0, .ref k0, .ref v0, .ref v1, .ref v2, .int 0, .int 0, .int 0, .int 0])), (t0, .inr (4, [.ref u0, .ref u1, .ref u2, .ref u3, .ref u4, .int 0, .int 0, .int 0, .int 1])), (w0, .inr (5, [.ref r0, .ref t0, .ref y0, .ref y1])), (m0, .inr (7, [.ref j0, .ref j1, .ref j2, .ref j3, .ref j4, .int 0, .int 0, .int 0, .int 0, .int 0, .int 0, .ref j5, .int 0, .ref j6, .ref j7])), (j4, .inl (ca, 401, .inl fw)), (h0, .inr (6, [.ref b0, .ref b1, .ref s0, .ref b3, .int 0, .int 0, .int 0, .int 0])), (o0, .inl (cl, 1, .inr (.inl fo)))] H := hP
  have hD : va_D (fun q : Nat => s.heap.size ≤ q) [(b1, .inr (2, [.ref g0, .ref g1, .ref g2, .int 0])), (s0, .inr (3, [.ref r0, .ref t0, .ref w0, .ref l0, .ref k0, .ref v0, .ref v1, .ref v2, .int 0, .int 0, .int 0, .int 0])), (t0, .inr (4, [.ref u0, .ref u1, .ref u2, .ref u3, .ref u4, .int 0, .int 0, .int 0, .int 1])), (w0, .inr (5, [.ref r0, .ref t0, .ref y0, .ref y1])), (m0, .inr (7, [.ref j0, .ref j1, .ref j2, .ref j3, .ref j4, .int 0, .int 0, .int 0, .int 0, .int 0, .int 0, .ref j5, .int 0, .ref j6, .ref j7])), (j4, .inl (ca, 401, .inl fw)), (h0, .inr (6, [.ref b0, .ref b1, .ref s0, .ref b3, .int 0, .int 0, .int 0, .int 0])), (o0, .inl (cl, 1, .inr (.inl fo)))] := hD
  refine W.widen (k := 46) (n := 95487) (by decide) (by decide) ?_
  have hw9 : r_1 = 1 := hw9
  subst hw9
  refine lv_istore (lv' := [(5, .int 1), (0, .ref b), (1, .ref h0), (2, .ref m0), (3, .ref o0), (4, .int 0)]) hx hb d_Lw_law_256 hl (by decide) rfl (fun ls hl => ?_)
  refine lv_aload_n hx hb d_Lw_law_258 rfl (lv_at hl 3 rfl) ?_
  refine lv_aload_n hx hb d_Lw_law_259 rfl (lv_at hl 1 rfl) ?_
  refine lv_iload hx hb d_Lw_law_260 (lv_at hl 5 rfl) ?_
  refine lv_iconst (v := 1) hx hb d_Lw_law_262 (by decide) ?_
  refine lv_iadd hx hb d_Lw_law_263 ?_
  refine va_sld hx hb hX hbl hbA hS (by unfold vp_in; decide) d_Lw_law_264 ?_
  have hPc := hP.sub (ws' := [(m0, .inr (7, [.ref j0, .ref j1, .ref j2, .ref j3, .ref j4, .int 0, .int 0, .int 0, .int 0, .int 0, .int 0, .ref j5, .int 0, .ref j6, .ref j7]))]) [4] rfl
  have hDc := hD.sub (ws' := [(m0, .inr (7, [.ref j0, .ref j1, .ref j2, .ref j3, .ref j4, .int 0, .int 0, .int 0, .int 0, .int 0, .int 0, .ref j5, .int 0, .ref j6, .ref j7]))]) [4] (by decide) rfl
  have hKc := hK.sub (tys' := []) [] rfl
  have hFc := va_free (wc := [(m0, .inr (7, [.ref j0, .ref j1, .ref j2, .ref j3, .ref j4, .int 0, .int 0, .int 0, .int 0, .int 0, .int 0, .ref j5, .int 0, .ref j6, .ref j7]))]) hD hS hA [4] rfl
  refine va_calli (va_runV (As := [.int (xs (0 + 1 : Int32).toNatClampNeg)]) (rest := []) ⟨hx, hb, hml, hown, hw⟩ (c_Md_value_1 l dC dI m0 j0 j1 j2 j3 j4 j5 j6 j7 H.size 0 0 0 0 0 0 0 (xs (0 + 1 : Int32).toNatClampNeg) (one_z _)) (cb_V (C := R_Md) 1 hw k_701 k_37 k_698 k_699 k_700 rfl rfl (by decide +kernel) ⟨Nat.le_of_ble_eq_true rfl, Nat.le_of_ble_eq_true rfl⟩) ⟨fun a U g mk q => by obtain ⟨q0, q1, qP, qK, qD⟩ := q; exact ⟨q0, q1, qP, va_K.moved (u := U) (U := U.calling g mk a) (Vm.Alike.refl U.vm) qK, qD⟩, va_recv hKc hPc (ci := 7) (q0 := 0) rfl rfl, fun U hU hW => ⟨rfl, by rw [hU], by rw [hU]; exact hPc, va_K.moved hW.alike hKc, hDc.weaken (fun _ _ _ _ => trivial)⟩⟩ rfl rfl hl.1 rfl (lv_room (Nat.le_of_ble_eq_true rfl)) d_Lw_law_265 ⟨Nat.le_of_ble_eq_true rfl, Nat.le_of_ble_eq_true rfl⟩) hS (fun q _ h => hFc q h) hFc (fun r_2 u t H1 locs ht hvm hw9 hB hz1 hk1 hS => ?_)
  obtain ⟨hP1, hK1, hD1⟩ := hB
  rw [ht] at hP1
  have hK1 := va_K.moved hvm.symm hK1
  obtain ⟨hP, hD⟩ := va_join (wr := [(b1, .inr (2, [.ref g0, .ref g1, .ref g2, .int 0])), (s0, .inr (3, [.ref r0, .ref t0, .ref w0, .ref l0, .ref k0, .ref v0, .ref v1, .ref v2, .int 0, .int 0, .int 0, .int 0])), (t0, .inr (4, [.ref u0, .ref u1, .ref u2, .ref u3, .ref u4, .int 0, .int 0, .int 0, .int 1])), (w0, .inr (5, [.ref r0, .ref t0, .ref y0, .ref y1])), (j4, .inl (ca, 401, .inl fw)), (h0, .inr (6, [.ref b0, .ref b1, .ref s0, .ref b3, .int 0, .int 0, .int 0, .int 0])), (o0, .inl (cl, 1, .inr (.inl fo)))]) (w1 := [(m0, .inr (7, [.ref j0, .ref j1, .ref j2, .ref j3, .ref j4, .int 0, .int 0, .int 0, .int 0, .int 0, .int 1, .ref j5, .int 0, .ref j6, .ref j7]))]) hP hD [4] [0, 1, 2, 3, 5, 6, 7] rfl rfl (by decide) (by decide) hk1 hFc hP1 hD1
  generalize H1 = H at hP hS ⊢
  have hP : va_P (dC, dI) vwCl [(b1, .inr (2, [.ref g0, .ref g1, .ref g2, .int 0])), (s0, .inr (3, [.ref r0, .ref t0, .ref w0, .ref l0, .ref k0, .ref v0, .ref v1, .ref v2, .int 0, .int 0, .int 0, .int 0])), (t0, .inr (4, [.ref u0, .ref u1, .ref u2, .ref u3, .ref u4, .int 0, .int 0, .int 0, .int 1])), (w0, .inr (5, [.ref r0, .ref t0, .ref y0, .ref y1])), (j4, .inl (ca, 401, .inl fw)), (h0, .inr (6, [.ref b0, .ref b1, .ref s0, .ref b3, .int 0, .int 0, .int 0, .int 0])), (o0, .inl (cl, 1, .inr (.inl fo))), (m0, .inr (7, [.ref j0, .ref j1, .ref j2, .ref j3, .ref j4, .int 0, .int 0, .int 0, .int 0, .int 0, .int 1, .ref j5, .int 0, .ref j6, .ref j7]))] H := hP
  have hD : va_D (fun q : Nat => s.heap.size ≤ q) [(b1, .inr (2, [.ref g0, .ref g1, .ref g2, .int 0])), (s0, .inr (3, [.ref r0, .ref t0, .ref w0, .ref l0, .ref k0, .ref v0, .ref v1, .ref v2, .int 0, .int 0, .int 0, .int 0])), (t0, .inr (4, [.ref u0, .ref u1, .ref u2, .ref u3, .ref u4, .int 0, .int 0, .int 0, .int 1])), (w0, .inr (5, [.ref r0, .ref t0, .ref y0, .ref y1])), (j4, .inl (ca, 401, .inl fw)), (h0, .inr (6, [.ref b0, .ref b1, .ref s0, .ref b3, .int 0, .int 0, .int 0, .int 0])), (o0, .inl (cl, 1, .inr (.inl fo))), (m0, .inr (7, [.ref j0, .ref j1, .ref j2, .ref j3, .ref j4, .int 0, .int 0, .int 0, .int 0, .int 0, .int 1, .ref j5, .int 0, .ref j6, .ref j7]))] := hD
  refine W.widen (k := 46) (n := 95487) (by decide) (by decide) ?_
  have hw9 : r_2 = 0 := hw9
  subst hw9
  refine lv_istore (lv' := [(6, .int 0), (5, .int 1), (0, .ref b), (1, .ref h0), (2, .ref m0), (3, .ref o0), (4, .int 0)]) hx hb d_Lw_law_268 hl (by decide) rfl (fun ls hl => ?_)
  refine lv_aload_n hx hb d_Lw_law_270 rfl (lv_at hl 4 rfl) ?_
  have hPc := hP.sub (ws' := [(m0, .inr (7, [.ref j0, .ref j1, .ref j2, .ref j3, .ref j4, .int 0, .int 0, .int 0, .int 0, .int 0, .int 1, .ref j5, .int 0, .ref j6, .ref j7]))]) [7] rfl
  have hDc := hD.sub (ws' := [(m0, .inr (7, [.ref j0, .ref j1, .ref j2, .ref j3, .ref j4, .int 0, .int 0, .int 0, .int 0, .int 0, .int 1, .ref j5, .int 0, .ref j6, .ref j7]))]) [7] (by decide) rfl
  have hKc := hK.sub (tys' := []) [] rfl
  have hFc := va_free (wc := [(m0, .inr (7, [.ref j0, .ref j1, .ref j2, .ref j3, .ref j4, .int 0, .int 0, .int 0, .int 0, .int 0, .int 1, .ref j5, .int 0, .ref j6, .ref j7]))]) hD hS hA [7] rfl
  refine va_calli (va_runV (As := []) (rest := []) ⟨hx, hb, hml, hown, hw⟩ (c_Md_thrown l dC dI m0 j0 j1 j2 j3 j4 j5 j6 j7 H.size 0 0 0 0 0 1 0) (cb_V (C := R_Md) 0 hw k_653 k_37 k_650 k_651 k_652 rfl rfl (by decide +kernel) ⟨Nat.le_of_ble_eq_true rfl, Nat.le_of_ble_eq_true rfl⟩) ⟨fun a U g mk q => by obtain ⟨q0, q1, qP, qK, qD⟩ := q; exact ⟨q0, q1, qP, va_K.moved (u := U) (U := U.calling g mk a) (Vm.Alike.refl U.vm) qK, qD⟩, va_recv hKc hPc (ci := 7) (q0 := 0) rfl rfl, fun U hU hW => ⟨rfl, by rw [hU], by rw [hU]; exact hPc, va_K.moved hW.alike hKc, hDc.weaken (fun _ _ _ _ => trivial)⟩⟩ rfl rfl hl.1 rfl (lv_room (Nat.le_of_ble_eq_true rfl)) d_Lw_law_271 ⟨Nat.le_of_ble_eq_true rfl, Nat.le_of_ble_eq_true rfl⟩) hS (fun q _ h => hFc q h) hFc (fun r_3 u t H1 locs ht hvm hw9 hB hz1 hk1 hS => ?_)
  obtain ⟨hP1, hK1, hD1⟩ := hB
  rw [ht] at hP1
  have hK1 := va_K.moved hvm.symm hK1
  obtain ⟨hP, hD⟩ := va_join (wr := [(b1, .inr (2, [.ref g0, .ref g1, .ref g2, .int 0])), (s0, .inr (3, [.ref r0, .ref t0, .ref w0, .ref l0, .ref k0, .ref v0, .ref v1, .ref v2, .int 0, .int 0, .int 0, .int 0])), (t0, .inr (4, [.ref u0, .ref u1, .ref u2, .ref u3, .ref u4, .int 0, .int 0, .int 0, .int 1])), (w0, .inr (5, [.ref r0, .ref t0, .ref y0, .ref y1])), (j4, .inl (ca, 401, .inl fw)), (h0, .inr (6, [.ref b0, .ref b1, .ref s0, .ref b3, .int 0, .int 0, .int 0, .int 0])), (o0, .inl (cl, 1, .inr (.inl fo)))]) (w1 := [(m0, .inr (7, [.ref j0, .ref j1, .ref j2, .ref j3, .ref j4, .int 0, .int 0, .int 0, .int 0, .int 0, .int 1, .ref j5, .int 0, .ref j6, .ref j7]))]) hP hD [7] [0, 1, 2, 3, 4, 5, 6] rfl rfl (by decide) (by decide) hk1 hFc hP1 hD1
  generalize H1 = H at hP hS ⊢
  have hP : va_P (dC, dI) vwCl [(b1, .inr (2, [.ref g0, .ref g1, .ref g2, .int 0])), (s0, .inr (3, [.ref r0, .ref t0, .ref w0, .ref l0, .ref k0, .ref v0, .ref v1, .ref v2, .int 0, .int 0, .int 0, .int 0])), (t0, .inr (4, [.ref u0, .ref u1, .ref u2, .ref u3, .ref u4, .int 0, .int 0, .int 0, .int 1])), (w0, .inr (5, [.ref r0, .ref t0, .ref y0, .ref y1])), (j4, .inl (ca, 401, .inl fw)), (h0, .inr (6, [.ref b0, .ref b1, .ref s0, .ref b3, .int 0, .int 0, .int 0, .int 0])), (o0, .inl (cl, 1, .inr (.inl fo))), (m0, .inr (7, [.ref j0, .ref j1, .ref j2, .ref j3, .ref j4, .int 0, .int 0, .int 0, .int 0, .int 0, .int 1, .ref j5, .int 0, .ref j6, .ref j7]))] H := hP
  have hD : va_D (fun q : Nat => s.heap.size ≤ q) [(b1, .inr (2, [.ref g0, .ref g1, .ref g2, .int 0])), (s0, .inr (3, [.ref r0, .ref t0, .ref w0, .ref l0, .ref k0, .ref v0, .ref v1, .ref v2, .int 0, .int 0, .int 0, .int 0])), (t0, .inr (4, [.ref u0, .ref u1, .ref u2, .ref u3, .ref u4, .int 0, .int 0, .int 0, .int 1])), (w0, .inr (5, [.ref r0, .ref t0, .ref y0, .ref y1])), (j4, .inl (ca, 401, .inl fw)), (h0, .inr (6, [.ref b0, .ref b1, .ref s0, .ref b3, .int 0, .int 0, .int 0, .int 0])), (o0, .inl (cl, 1, .inr (.inl fo))), (m0, .inr (7, [.ref j0, .ref j1, .ref j2, .ref j3, .ref j4, .int 0, .int 0, .int 0, .int 0, .int 0, .int 1, .ref j5, .int 0, .ref j6, .ref j7]))] := hD
  refine W.widen (k := 46) (n := 95487) (by decide) (by decide) ?_
  have hw9 : r_3 = 1 := hw9
  subst hw9
  refine lv_iload hx hb d_Lw_law_274 (lv_at hl 1 rfl) ?_
  refine lv_icmp_eq (tgt := 281) hx hb d_Lw_law_276 (by decide) (fun c_276 => ?_) (fun c_276 => absurd c_276 (by decide))
  refine lv_iload hx hb d_Lw_law_281 (lv_at hl 1 rfl) ?_
  refine lv_if_ne (tgt := 305) hx hb d_Lw_law_283 (by decide) (fun c_283 => ?_) (fun c_283 => absurd c_283 (by decide))
  refine lv_goto (tgt := 364) hx hb d_Lw_law_305 (by decide) ?_
  obtain ⟨v_4, ev_4⟩ : ∃ y : Int32, y = 0 + 2 := ⟨_, rfl⟩
  refine lv_iinc (v := v_4) (lv' := [(4, .int v_4), (6, .int 0), (5, .int 1), (0, .ref b), (1, .ref h0), (2, .ref m0), (3, .ref o0)]) hx hb d_Lw_law_364 hl (k := 6) rfl (by rw [ev_4]; rfl) (by decide) rfl (fun ls hl => ?_)
  refine lv_goto (tgt := 23) hx hb d_Lw_law_367 (by decide) ?_
  exact lw_exit C1 (by decide) (by decide) _ _ ls v_4 (by rw [ev_4]; decide) hS (lv_sub hl [3, 0] rfl)
