theorem d_Lw_law_245 : decode code 245 = .ok (.iinc 4 2, 3) := by decide +kernel
theorem d_Lw_law_248 : decode code 248 = .ok (.goto (-225), 3) := by decide +kernel
theorem d_Lw_law_23 : decode code 23 = .ok (.iload 4, 2) := by decide +kernel
theorem d_Lw_law_25 : decode code 25 = .ok (.aload_n 0, 1) := by decide +kernel
theorem d_Lw_law_26 : decode code 26 = .ok (.arraylength, 1) := by decide +kernel
theorem d_Lw_law_27 : decode code 27 = .ok (.iconst 2, 1) := by decide +kernel
theorem d_Lw_law_28 : decode code 28 = .ok (.isub, 1) := by decide +kernel
theorem d_Lw_law_29 : decode code 29 = .ok (.if_icmp .gt 222, 3) := by decide +kernel
theorem d_Lw_law_251 : decode code 251 = .ok (.iconst 1, 1) := by decide +kernel
theorem d_Lw_law_252 : decode code 252 = .ok (.ireturn, 1) := by decide +kernel
theorem d_Lw_law_32 : decode code 32 = .ok (.aload_n 0, 1) := by decide +kernel
theorem d_Lw_law_33 : decode code 33 = .ok (.iload 4, 2) := by decide +kernel
theorem d_Lw_law_35 : decode code 35 = .ok (.iaload, 1) := by decide +kernel
theorem d_Lw_law_36 : decode code 36 = .ok (.bipush 7, 2) := by decide +kernel
theorem d_Lw_law_38 : decode code 38 = .ok (.iand, 1) := by decide +kernel
theorem d_Lw_law_39 : decode code 39 = .ok (.tableswitch 206 0 5 #[37, 65, 93, 137, 150, 178], 37) := by decide +kernel
set_option maxHeartbeats 4000000 in
set_option maxRecDepth 100000 in
/-- the loop of the law -/
theorem lw_loop {p : Program} {l : Launch} {e : Env} {s : State} {m : MethodId} {below : List Frame} {meth : Method} {c : Code} {dC : Nat → ClassId} {dI : Nat → Nat → Nat} {bs L : Nat} {xs : Nat → Int32} {b0 r0 m1 h1 p0 o0 f0 f1 h0 t0 u0 u1 u2 u3 u4 w0 v0 s0 s1 s2 s3 k0 t9 u5 u6 u7 u8 u9 e0 e1 e2 e3 e4 e5 e6 e7 e8 o9 : Nat} {x8 x9 y3 y4 y5 x5 x6 x7 y0 y1 y2 z0 z1 z2 z3 z4 x0 x1 x2 x3 x4 z5 z6 z7 z8 z9 c1 c2 c3 c4 c5 c6 c7 c8 cl : ClassId} (hfl : l.flags = pinnedFlags ++ [noTraceFlag]) (C1 : lw_At p s m meth c bs L xs) (hZ0 : tw_Z s s.heap s.heap.size) (hL : L ≤ 1024) (hL2 : 2 ≤ L) (hK : va_K (dC, dI) vwCl (lwT x8 x9 y3 y4 y5 x5 x6 x7 y0 y1 y2 z0 z1 z2 z3 z4 x0 x1 x2 x3 x4 z5 z6 z7 z8 z9 c1 c2 c3 c4 c5 c6 c7 c8 cl) s) : ∀ (f i : Nat) (g0 : Nat) (g1 : Nat) (g2 : Nat) (v1 : Nat) (g3 : Nat) (g4 : Nat) (g5 : Nat) (q : Mx) (b : Rx) (pv : Nat → Int32) (x : Sx) (a : Rx) (d : Tx) (e9 : Tx) (w : Wx) (z : Lx) (gc : Nat) (o : Dx) (Bf : Nat → Nat) (Pf : Nat → Nat) (Gg : Nat → Nat) (fo : Nat → Int64) (H : Heap) (locs : List Loc) (ls : Array Slot), L + 2 < i + f → i ≤ L → (Cx q b) → (Gx a d e9 w z x gc) → (x.hp = 0 ∨ x.hp = 1) → (Pok o Bf Pf) → (o.vc = q.vc ∧ o.cl = b.n ∧ o.gv = q.rs) → (∀ j, j < o.gv → o.rw j = li (Gg j) ∧ 2 ≤ Gg j ∧ Gg j < 802) → (o.sd = 0 ∨ o.sd = 1) → (2 * b.n ≤ i ∧ 2 * gc ≤ i) → (H.size ≤ s.heap.size + (45 + i + GC b a w)) → (hsum H ≤ hsum s.heap + (95481 + 6 * (i) + GS b a w)) → va_P (dC, dI) vwCl (lwV b0 r0 m1 h1 p0 o0 f0 f1 h0 t0 u0 u1 u2 u3 u4 w0 v0 s0 s1 s2 s3 k0 t9 u5 u6 u7 u8 u9 e0 e1 e2 e3 e4 e5 e6 e7 e8 o9 x8 x9 y3 y4 y5 x5 x6 x7 y0 y1 y2 z0 z1 z2 z3 z4 x0 x1 x2 x3 x4 z5 z6 z7 z8 z9 c1 c2 c3 c4 c5 c6 c7 c8 cl g0 g1 g2 v1 g3 g4 g5 q b pv x a d e9 w z o fo) H → va_D (fun q : Nat => s.heap.size ≤ q) (lwV b0 r0 m1 h1 p0 o0 f0 f1 h0 t0 u0 u1 u2 u3 u4 w0 v0 s0 s1 s2 s3 k0 t9 u5 u6 u7 u8 u9 e0 e1 e2 e3 e4 e5 e6 e7 e8 o9 x8 x9 y3 y4 y5 x5 x6 x7 y0 y1 y2 z0 z1 z2 z3 z4 x0 x1 x2 x3 x4 z5 z6 z7 z8 z9 c1 c2 c3 c4 c5 c6 c7 c8 cl g0 g1 g2 v1 g3 g4 g5 q b pv x a d e9 w z o fo) → va_S (fun q : Nat => s.heap.size ≤ q) s.heap H locs → lv_has ls 7 [(0, .ref bs), (1, .ref b0), (2, .ref e0), (3, .ref o9), (4, .int (nI i))] → W p l e room_1 s m #[Value.ref bs] below meth c H locs 590000 4200000 (lw_Z below #[Value.ref bs] s) (F0 m 23 ls []) := by
  obtain ⟨hx, hb, hr, hml, hown, hts, hX, hbl, hlocks, hgv⟩ := id C1
  have hw : ∀ w ∈ bg_W, w.before #[Value.ref bs] s = true := fun w h => hts w (bg_sub w h)
  have hown : s.vm.findClass R_Lw = some m.cls := hown
  have hA : ∀ q : Nat, s.heap.size ≤ q → (fun q : Nat => s.heap.size ≤ q) q := fun _ h => h
  have hbA : ¬ (fun q : Nat => s.heap.size ≤ q) bs := Nat.not_le.mpr hbl
  intro f
  induction f with
  | zero => intro i g0 g1 g2 v1 g3 g4 g5 q b pv x a d e9 w z gc o Bf Pf Gg fo H locs ls q0 q1; exact absurd q0 (by omega)
  | succ f ih =>
    intro i g0 g1 g2 v1 g3 g4 g5 q b pv x a d e9 w z gc o Bf Pf Gg fo H locs ls q0 q1 hQ hXs hX0 hPk hO hGr hsd hcn hz1 hz2 hP hD hS hl
    have goOn : i + 2 ≤ L → ∀ (g0 : Nat) (g1 : Nat) (g2 : Nat) (v1 : Nat) (g3 : Nat) (g4 : Nat) (g5 : Nat) (q : Mx) (b : Rx) (pv : Nat → Int32) (x : Sx) (a : Rx) (d : Tx) (e9 : Tx) (w : Wx) (z : Lx) (gc : Nat) (o : Dx) (Bf : Nat → Nat) (Pf : Nat → Nat) (Gg : Nat → Nat) (fo : Nat → Int64) (H : Heap) (locs : List Loc) (ls : Array Slot), (Cx q b) → (Gx a d e9 w z x gc) → (x.hp = 0 ∨ x.hp = 1) → (Pok o Bf Pf) → (o.vc = q.vc ∧ o.cl = b.n ∧ o.gv = q.rs) → (∀ j, j < o.gv → o.rw j = li (Gg j) ∧ 2 ≤ Gg j ∧ Gg j < 802) → (o.sd = 0 ∨ o.sd = 1) → (2 * b.n ≤ (i + 2) ∧ 2 * gc ≤ (i + 2)) → (H.size ≤ s.heap.size + (45 + (i + 2) + GC b a w)) → (hsum H ≤ hsum s.heap + (95481 + 6 * ((i + 2)) + GS b a w)) → va_P (dC, dI) vwCl (lwV b0 r0 m1 h1 p0 o0 f0 f1 h0 t0 u0 u1 u2 u3 u4 w0 v0 s0 s1 s2 s3 k0 t9 u5 u6 u7 u8 u9 e0 e1 e2 e3 e4 e5 e6 e7 e8 o9 x8 x9 y3 y4 y5 x5 x6 x7 y0 y1 y2 z0 z1 z2 z3 z4 x0 x1 x2 x3 x4 z5 z6 z7 z8 z9 c1 c2 c3 c4 c5 c6 c7 c8 cl g0 g1 g2 v1 g3 g4 g5 q b pv x a d e9 w z o fo) H → va_D (fun q : Nat => s.heap.size ≤ q) (lwV b0 r0 m1 h1 p0 o0 f0 f1 h0 t0 u0 u1 u2 u3 u4 w0 v0 s0 s1 s2 s3 k0 t9 u5 u6 u7 u8 u9 e0 e1 e2 e3 e4 e5 e6 e7 e8 o9 x8 x9 y3 y4 y5 x5 x6 x7 y0 y1 y2 z0 z1 z2 z3 z4 x0 x1 x2 x3 x4 z5 z6 z7 z8 z9 c1 c2 c3 c4 c5 c6 c7 c8 cl g0 g1 g2 v1 g3 g4 g5 q b pv x a d e9 w z o fo) → va_S (fun q : Nat => s.heap.size ≤ q) s.heap H locs → lv_has ls 7 [(0, .ref bs), (1, .ref b0), (2, .ref e0), (3, .ref o9), (4, .int (nI i))] → W p l e room_1 s m #[Value.ref bs] below meth c H locs 590000 4200000 (lw_Z below #[Value.ref bs] s) (F0 m 245 ls []) := by
      intro hi9 g0 g1 g2 v1 g3 g4 g5 q b pv x a d e9 w z gc o Bf Pf Gg fo H locs ls hQ hXs hX0 hPk hO hGr hsd hcn hz1 hz2 hP hD hS hl
      refine lv_iinc (v := nI (i + 2)) (lv' := [(4, .int (nI (i + 2))), (0, .ref bs), (1, .ref b0), (2, .ref e0), (3, .ref o9)]) hx hb d_Lw_law_245 hl (k := 4) rfl ((by rw [show Int32.ofInt 2 = nI 2 from by decide]; exact nI_add i 2)) (by decide) rfl (fun ls hl => ?_)
      refine lv_goto (tgt := 23) hx hb d_Lw_law_248 (by decide) ?_
      exact ih (i + 2) g0 g1 g2 v1 g3 g4 g5 q b pv x a d e9 w z gc o Bf Pf Gg fo _ _ ls (by omega) hi9 hQ hXs hX0 hPk hO hGr hsd hcn hz1 hz2 hP hD hS (lv_sub hl [1, 2, 3, 4, 0] rfl)
    refine lv_iload hx hb d_Lw_law_23 (lv_at hl 4 rfl) ?_
    refine lv_aload_n hx hb d_Lw_law_25 rfl (lv_at hl 0 rfl) ?_
    refine va_slen hx hb hX hbl hbA hS d_Lw_law_26 ?_
    refine lv_iconst (v := nI 2) hx hb d_Lw_law_27 (by decide) ?_
    refine lv_isub hx hb d_Lw_law_28 ?_
    refine lv_topi (fun y_1 ey_1 => ?_)
    obtain rfl : y_1 = nI (L - 2) := ey_1.trans (pk_sub (by omega))
    refine lv_icmp_gt (tgt := 251) hx hb d_Lw_law_29 (by decide) (fun c_29 => ?_) (fun c_29 => ?_)
    · have c_29 : L - 2 < i := (nI_ltI (a := L - 2) (b := i) (by omega) (by omega)).mp c_29
      refine lv_iconst (v := 1) hx hb d_Lw_law_251 (by decide) ?_
      refine va_forget (fun q hq => hS.2.2 q hq) ?_
      refine W.widen (k := 601024) (n := 7293034) (by omega) (by omega) ?_
      exact lw_ret hx hb hr hlocks d_Lw_law_252
    · have c_29 : ¬ (L - 2 < i) := fun qq9 => c_29 ((nI_ltI (a := L - 2) (b := i) (by omega) (by omega)).mpr qq9)
      refine lv_aload_n hx hb d_Lw_law_32 rfl (lv_at hl 0 rfl) ?_
      refine lv_iload hx hb d_Lw_law_33 (lv_at hl 4 rfl) ?_
      refine va_sld hx hb hX hbl hbA hS (vp_in_nI (by omega) (by omega)) d_Lw_law_35 ?_
      refine lv_topi (fun y_2 ey_2 => ?_)
      rw [nI_clamp (by omega)] at ey_2
      refine lv_bipush (v := 7) hx hb d_Lw_law_36 (by decide) ?_
      refine lv_iand hx hb d_Lw_law_38 ?_
      refine lv_topi (fun sw esw => ?_)
      obtain ⟨j9, hj9, ej9⟩ := pk_andE (y_2) (m := 7) 3 (by decide)
      rw [ej9] at esw
      obtain hj | hj | hj | hj | hj | hj | hj | hj : j9 = 0 ∨ j9 = 1 ∨ j9 = 2 ∨ j9 = 3 ∨ j9 = 4 ∨ j9 = 5 ∨ j9 = 6 ∨ j9 = 7 := by omega
      · subst hj; subst esw; refine lv_tableIn (tgt := 76) hx hb d_Lw_law_39 (by decide) (by decide) (off := 37) (by decide) (by decide) ?_
        exact lw_c0 hfl C1 hZ0 hL (by omega) hK (goOn (by omega)) g0 g1 g2 v1 g3 g4 g5 q b pv x a d e9 w z gc o Bf Pf Gg fo _ _ ls hQ hXs hX0 hPk hO hGr hsd hcn hz1 hz2 hP hD hS (lv_sub hl [0, 1, 2, 3, 4] rfl)
      · subst hj; subst esw; refine lv_tableIn (tgt := 104) hx hb d_Lw_law_39 (by decide) (by decide) (off := 65) (by decide) (by decide) ?_
        exact lw_c1 hfl C1 hZ0 hL (by omega) hK (goOn (by omega)) g0 g1 g2 v1 g3 g4 g5 q b pv x a d e9 w z gc o Bf Pf Gg fo _ _ ls hQ hXs hX0 hPk hO hGr hsd hcn hz1 hz2 hP hD hS (lv_sub hl [0, 1, 2, 3, 4] rfl)
      · subst hj; subst esw; refine lv_tableIn (tgt := 132) hx hb d_Lw_law_39 (by decide) (by decide) (off := 93) (by decide) (by decide) ?_
        exact lw_c2 hfl C1 hZ0 hL (by omega) hK (goOn (by omega)) g0 g1 g2 v1 g3 g4 g5 q b pv x a d e9 w z gc o Bf Pf Gg fo _ _ ls hQ hXs hX0 hPk hO hGr hsd hcn hz1 hz2 hP hD hS (lv_sub hl [0, 1, 2, 3, 4] rfl)
      · subst hj; subst esw; refine lv_tableIn (tgt := 176) hx hb d_Lw_law_39 (by decide) (by decide) (off := 137) (by decide) (by decide) ?_
        exact lw_c3 hfl C1 hZ0 hL (by omega) hK (goOn (by omega)) g0 g1 g2 v1 g3 g4 g5 q b pv x a d e9 w z gc o Bf Pf Gg fo _ _ ls hQ hXs hX0 hPk hO hGr hsd hcn hz1 hz2 hP hD hS (lv_sub hl [0, 1, 2, 3, 4] rfl)
      · subst hj; subst esw; refine lv_tableIn (tgt := 189) hx hb d_Lw_law_39 (by decide) (by decide) (off := 150) (by decide) (by decide) ?_
        exact lw_c4 hfl C1 hZ0 hL (by omega) hK (goOn (by omega)) g0 g1 g2 v1 g3 g4 g5 q b pv x a d e9 w z gc o Bf Pf Gg fo _ _ ls hQ hXs hX0 hPk hO hGr hsd hcn hz1 hz2 hP hD hS (lv_sub hl [0, 1, 2, 3, 4] rfl)
      · subst hj; subst esw; refine lv_tableIn (tgt := 217) hx hb d_Lw_law_39 (by decide) (by decide) (off := 178) (by decide) (by decide) ?_
        exact lw_c5 hfl C1 hZ0 hL (by omega) hK (goOn (by omega)) g0 g1 g2 v1 g3 g4 g5 q b pv x a d e9 w z gc o Bf Pf Gg fo _ _ ls hQ hXs hX0 hPk hO hGr hsd hcn hz1 hz2 hP hD hS (lv_sub hl [0, 1, 2, 3, 4] rfl)
      · subst hj; subst esw; refine lv_tableOut (tgt := 245) hx hb d_Lw_law_39 (Or.inr (by decide)) (by decide) ?_
        exact goOn (by omega) g0 g1 g2 v1 g3 g4 g5 q b pv x a d e9 w z gc o Bf Pf Gg fo _ _ ls hQ hXs hX0 hPk hO hGr hsd (by omega) (by omega) (by omega) hP hD hS (lv_sub hl [0, 1, 2, 3, 4] rfl)
      · subst hj; subst esw; refine lv_tableOut (tgt := 245) hx hb d_Lw_law_39 (Or.inr (by decide)) (by decide) ?_
        exact goOn (by omega) g0 g1 g2 v1 g3 g4 g5 q b pv x a d e9 w z gc o Bf Pf Gg fo _ _ ls hQ hXs hX0 hPk hO hGr hsd (by omega) (by omega) (by omega) hP hD hS (lv_sub hl [0, 1, 2, 3, 4] rfl)
