abbrev y_Ar_fill : MethodName := ⟨"java/util/Arrays", "fill", "([II)V"⟩
abbrev y_Wt_renew : MethodName := ⟨"ClauseSearch$Watch", "renew", "()V"⟩
theorem k_148 : (Cond.methodLink "ClauseSearch$Watch" 26 ⟨"java/util/Arrays", "fill", "([II)V"⟩) ∈ bg_W := bg_in 148 (by decide +kernel) (by decide +kernel)
theorem k_149 : (Cond.static ⟨"java/util/Arrays", "fill", "([II)V"⟩) ∈ bg_W := bg_in 149 (by decide +kernel) (by decide +kernel)
theorem k_150 : (Cond.code ⟨"java/util/Arrays", "fill", "([II)V"⟩ prog_20_method_103_code 4 none) ∈ bg_W := bg_in 150 (by decide +kernel) (by decide +kernel)
theorem k_386 : (Cond.methodLink "ClauseSearch$Watch" 52 ⟨"ClauseSearch$Watch", "add", "(I)V"⟩) ∈ bg_W := bg_in 386 (by decide +kernel) (by decide +kernel)
theorem k_387 : (Cond.instanceMethod ⟨"ClauseSearch$Watch", "add", "(I)V"⟩) ∈ bg_W := bg_in 387 (by decide +kernel) (by decide +kernel)
theorem k_388 : (Cond.selects "ClauseSearch$Watch" ⟨"ClauseSearch$Watch", "add", "(I)V"⟩ ⟨"ClauseSearch$Watch", "add", "(I)V"⟩) ∈ bg_W := bg_in 388 (by decide +kernel) (by decide +kernel)
theorem k_389 : (Cond.code ⟨"ClauseSearch$Watch", "add", "(I)V"⟩ prog_7_method_2_code 2 none) ∈ bg_W := bg_in 389 (by decide +kernel) (by decide +kernel)
theorem d_Ar_fill_5 : decode prog_20_method_103_code 5 = .ok (.iload_n 2, 1) := by decide +kernel
theorem d_Ar_fill_6 : decode prog_20_method_103_code 6 = .ok (.iload_n 3, 1) := by decide +kernel
theorem d_Ar_fill_7 : decode prog_20_method_103_code 7 = .ok (.if_icmp .ge 13, 3) := by decide +kernel
theorem d_Ar_fill_10 : decode prog_20_method_103_code 10 = .ok (.aload_n 0, 1) := by decide +kernel
theorem d_Ar_fill_11 : decode prog_20_method_103_code 11 = .ok (.iload_n 2, 1) := by decide +kernel
theorem d_Ar_fill_12 : decode prog_20_method_103_code 12 = .ok (.iload_n 1, 1) := by decide +kernel
theorem d_Ar_fill_13 : decode prog_20_method_103_code 13 = .ok (.iastore, 1) := by decide +kernel
theorem d_Ar_fill_14 : decode prog_20_method_103_code 14 = .ok (.iinc 2 1, 3) := by decide +kernel
theorem d_Ar_fill_17 : decode prog_20_method_103_code 17 = .ok (.goto (-12), 3) := by decide +kernel
theorem d_Ar_fill_0 : decode prog_20_method_103_code 0 = .ok (.iconst 0, 1) := by decide +kernel
theorem d_Ar_fill_1 : decode prog_20_method_103_code 1 = .ok (.istore_n 2, 1) := by decide +kernel
theorem d_Ar_fill_2 : decode prog_20_method_103_code 2 = .ok (.aload_n 0, 1) := by decide +kernel
theorem d_Ar_fill_3 : decode prog_20_method_103_code 3 = .ok (.arraylength, 1) := by decide +kernel
theorem d_Ar_fill_4 : decode prog_20_method_103_code 4 = .ok (.istore_n 3, 1) := by decide +kernel
theorem d_Ar_fill_20 : decode prog_20_method_103_code 20 = .ok (.return_, 1) := by decide +kernel
theorem d_Wt_renew_10 : decode prog_7_method_3_code 10 = .ok (.iload_n 1, 1) := by decide +kernel
theorem d_Wt_renew_11 : decode prog_7_method_3_code 11 = .ok (.aload_n 0, 1) := by decide +kernel
theorem d_Wt_renew_12 : decode prog_7_method_3_code 12 = .ok (.getfield 9, 3) := by decide +kernel
theorem d_Wt_renew_15 : decode prog_7_method_3_code 15 = .ok (.getfield 48, 3) := by decide +kernel
theorem d_Wt_renew_18 : decode prog_7_method_3_code 18 = .ok (.if_icmp .ge 14, 3) := by decide +kernel
theorem d_Wt_renew_21 : decode prog_7_method_3_code 21 = .ok (.aload_n 0, 1) := by decide +kernel
theorem d_Wt_renew_22 : decode prog_7_method_3_code 22 = .ok (.iload_n 1, 1) := by decide +kernel
theorem d_Wt_renew_23 : decode prog_7_method_3_code 23 = .ok (.invokevirtual 52, 3) := by decide +kernel
theorem d_Wt_renew_26 : decode prog_7_method_3_code 26 = .ok (.iinc 1 1, 3) := by decide +kernel
theorem d_Wt_renew_29 : decode prog_7_method_3_code 29 = .ok (.goto (-19), 3) := by decide +kernel
theorem d_Wt_renew_0 : decode prog_7_method_3_code 0 = .ok (.aload_n 0, 1) := by decide +kernel
theorem d_Wt_renew_1 : decode prog_7_method_3_code 1 = .ok (.getfield 19, 3) := by decide +kernel
theorem d_Wt_renew_4 : decode prog_7_method_3_code 4 = .ok (.iconst (-1), 1) := by decide +kernel
theorem d_Wt_renew_5 : decode prog_7_method_3_code 5 = .ok (.invokestatic 26, 3) := by decide +kernel
theorem d_Wt_renew_8 : decode prog_7_method_3_code 8 = .ok (.iconst 0, 1) := by decide +kernel
theorem d_Wt_renew_9 : decode prog_7_method_3_code 9 = .ok (.istore_n 1, 1) := by decide +kernel
theorem d_Wt_renew_32 : decode prog_7_method_3_code 32 = .ok (.return_, 1) := by decide +kernel
theorem Wok.none {a : Rx} {w : Wx} {g : Nat → Int32} (h : ∀ j, j < 802 → g j = -1) : Wok a (Wx.of w.nn g w.nx) (2 * 0) :=
  ⟨fun c hc => Or.inl (h c hc), fun m hm => absurd hm (Nat.not_lt_zero _), fun m q hm => absurd hm (Nat.not_lt_zero _), fun c m hc hm => absurd hm (Nat.not_lt_zero _)⟩
set_option maxHeartbeats 4000000 in
set_option maxRecDepth 100000 in
/-- the loop of Arrays.fill -/
theorem l_fill {p : Program} {l : Launch} {e : Env} {R : Room} {s : State} {m : MethodId} {args : Array Value} {below : List Frame} {meth : Method} {c : Code} {dC : Nat → ClassId} {dI : Nat → Nat → Nat} {A : Nat → Prop} {Q : State → Prop} {cells slots : Nat} {H0 : Heap} {h0 : Nat} {ca : ClassId} {n : Nat} {v : Int32} (hx : p.tables.exec = Jvm.exec) (hb : c.code = prog_20_method_103_code) (hml : c.maxLocals = 4) (hw : ∀ w ∈ bg_W, w.before args s = true) (hown : s.vm.findClass R_Ar = some m.cls) (hK : va_K (dC, dI) vwCl [(ca, .int)] s) (hA : ∀ q : Nat, H0.size ≤ q → A q) (hR1 : 1 ≤ R.frames) (hR2 : 1 ≤ R.locals) (hR3 : cells ≤ R.cells) (hR4 : slots ≤ R.slots) (hn : n < 2 ^ 31)
    (kk20 : ∀ (g : Nat → Int32) (H : Heap) (locs : List Loc) (ls : Array Slot), (∀ j, j < n → g j = v) → va_P (dC, dI) vwCl [(h0, .inl (ca, n, .inl g))] H → va_D A [(h0, .inl (ca, n, .inl g))] → va_S A H0 H locs → lv_has ls 4 [(0, .ref h0)] → W p l e R s m args below meth c H locs cells slots Q (F0 m 20 ls []))
    : ∀ (f : Nat) (ix : Nat) (g : Nat → Int32) (H : Heap) (locs : List Loc) (ls : Array Slot), n - ix < f → (ix ≤ n) → (∀ j, j < ix → g j = v) → va_P (dC, dI) vwCl [(h0, .inl (ca, n, .inl g))] H → va_D A [(h0, .inl (ca, n, .inl g))] → va_S A H0 H locs → lv_has ls 4 [(0, .ref h0), (1, .int v), (2, .int (nI ix)), (3, .int (nI n))] → W p l e R s m args below meth c H locs cells slots Q (F0 m 5 ls []) := by
  intro f
  induction f with
  | zero => intro ix g H locs ls q0 q2 q3 hP hD hS hl; exact absurd q0 (Nat.not_lt_zero _)
  | succ f ih =>
    intro ix g H locs ls q0 q2 q3 hP hD hS hl
    refine lv_iload_n hx hb d_Ar_fill_5 rfl (lv_at hl 2 rfl) ?_
    refine lv_iload_n hx hb d_Ar_fill_6 rfl (lv_at hl 3 rfl) ?_
    refine lv_icmp_ge (tgt := 20) hx hb d_Ar_fill_7 (by decide) (fun c_7 => ?_) (fun c_7 => ?_)
    · have c_7 : n ≤ ix := (nI_leI (a := n) (b := ix) (by omega) (by omega)).mp c_7
      exact kk20 g _ _ ls (fun j hj => q3 j (by omega)) hP hD hS (lv_sub hl [0] rfl)
    · have c_7 : ¬ (n ≤ ix) := fun qq9 => c_7 ((nI_leI (a := n) (b := ix) (by omega) (by omega)).mpr qq9)
      refine lv_aload_n hx hb d_Ar_fill_10 rfl (lv_at hl 0 rfl) ?_
      refine lv_iload_n hx hb d_Ar_fill_11 rfl (lv_at hl 2 rfl) ?_
      refine lv_iload_n hx hb d_Ar_fill_12 rfl (lv_at hl 1 rfl) ?_
      refine va_iast hx hb hK hP hD hS 0 0 rfl rfl (vp_in_nI (by omega) (by omega)) d_Ar_fill_13 (fun H locs hP hD hS => ?_)
      rw [nI_clamp (n := ix) (by omega)] at hP hD
      have hP : va_P (dC, dI) vwCl [(h0, .inl (ca, n, .inl (upd g ix v)))] H := hP
      have hD : va_D A [(h0, .inl (ca, n, .inl (upd g ix v)))] := hD
      refine lv_iinc (v := nI (ix + 1)) (lv' := [(2, .int (nI (ix + 1))), (0, .ref h0), (1, .int v), (3, .int (nI n))]) hx hb d_Ar_fill_14 hl (k := 2) rfl (nI_1 ix) (by decide) rfl (fun ls hl => ?_)
      refine lv_goto (tgt := 5) hx hb d_Ar_fill_17 (by decide) ?_
      exact ih (ix + 1) (upd g ix v) _ _ ls (by omega) (by omega) (fun j hj => by by_cases h : j = ix; (rw [h, pk_us]); rw [pk_un h]; exact q3 j (by omega)) hP hD hS (lv_sub hl [1, 2, 0, 3] rfl)

set_option maxHeartbeats 4000000 in
set_option maxRecDepth 100000 in
/-- Arrays.fill(a, v) -/
theorem c_Ar_fill (l : Launch) (dC : Nat → ClassId) (dI : Nat → Nat → Nat) (h0 : Nat) (ca : ClassId) (sz : Nat) (n : Nat) (f0 : Nat → Int32) (v : Int32) (hn : n < 2 ^ 31) : Met l y_Ar_fill (wq y_Ar_fill prog_20_method_103_code 4 none) ({ frames := 1, cells := 0, slots := 0, locals := 1 }) (va_Pc [.ref h0, .int v] (fun U => U.heap.size = sz ∧ va_P (dC, dI) vwCl [(h0, .inl (ca, n, .inl f0))] U.heap ∧ va_K (dC, dI) vwCl [(ca, .int)] U ∧ va_D (fun _ => True) [(h0, .inl (ca, n, .inl f0))])) (va_Qv (fun _ : Unit => True) (fun (_ : Unit) t => ∃ (g : Nat → Int32), (∀ j, j < n → g j = v) ∧ va_P (dC, dI) vwCl [(h0, .inl (ca, n, .inl g))] t.heap ∧ va_K (dC, dI) vwCl [(ca, .int)] t ∧ va_D (va_A [(h0, .inl (ca, n, .inl f0))] sz) [(h0, .inl (ca, n, .inl g))]) (va_A [(h0, .inl (ca, n, .inl f0))] sz)) (0) (0) (va_A [(h0, .inl (ca, n, .inl f0))] sz) := by
  refine Met.ofW (cc := prog_20_method_103_code) (maxL := 4) (ret := none) (by decide) rfl ?_
  intro p e s m args below meth c s₁ B hml hv
  obtain ⟨rfl, hsz, hP, hK, hD0⟩ := hv
  have hx := B.exec
  have hb := B.bytes
  have hr := B.returns
  have hw : ∀ w ∈ bg_W, w.before #[Value.ref h0, Value.int v] s = true := fun w h => atoms_spec (ws := (wq y_Ar_fill prog_20_method_103_code 4 none)) B.pre w (List.mem_cons_of_mem _ h)
  have hown : s.vm.findClass R_Ar = some m.cls := findClass_of_methodNamed B.named
  have hlocks := B.notSynchronized
  subst hsz
  have hD := hD0.self (sz := s.heap.size)
  generalize hAe : va_A [(h0, .inl (ca, n, .inl f0))] s.heap.size = A at hD ⊢
  have hA : ∀ q : Nat, s.heap.size ≤ q → A q := fun q h => by rw [← hAe]; exact Or.inr h
  have hS : va_S A s.heap s.heap [] := va_S.rf
  have hP : va_P (dC, dI) vwCl [(h0, .inl (ca, n, .inl f0))] s.heap := hP
  have hl := lv_entry ([.ref h0, .int v]) (n := 4) (Nat.le_of_ble_eq_true rfl)
  rw [lg_entry_eq]
  generalize (lg_sl ([.ref h0, .int v]) ++ List.replicate (4 - (lg_sl ([.ref h0, .int v])).length) Slot.unset).toArray = ls at hl ⊢
  have hl : lv_has ls 4 [(0, .ref h0), (1, .int v)] := hl
  obtain ⟨H, hH⟩ : ∃ H : Heap, H = s.heap := ⟨_, rfl⟩
  rw [← hH] at hP
  have hS : va_S A s.heap H [] := by rw [hH]; exact va_S.rf
  show W p l e _ s m _ below meth c s.heap [] 0 0 _ _
  rw [← hH]
  refine lv_iconst (v := nI 0) hx hb d_Ar_fill_0 (by decide) ?_
  refine lv_istore_n (lv' := [(2, .int (nI 0)), (0, .ref h0), (1, .int v)]) hx hb d_Ar_fill_1 rfl hl (by decide) rfl (fun ls hl => ?_)
  refine lv_aload_n hx hb d_Ar_fill_2 rfl (lv_at hl 1 rfl) ?_
  refine va_alen hx hb hK hP 0 0 rfl rfl (v := nI n) rfl d_Ar_fill_3 ?_
  refine lv_istore_n (lv' := [(3, .int (nI n)), (2, .int (nI 0)), (0, .ref h0), (1, .int v)]) hx hb d_Ar_fill_4 rfl hl (by decide) rfl (fun ls hl => ?_)
  refine l_fill (n := n) (v := v) hx hb hml hw hown (hK.sub (tys' := [(ca, .int)]) [0] rfl) hA (Nat.le_of_ble_eq_true rfl) (Nat.le_of_ble_eq_true rfl) (Nat.le_of_ble_eq_true rfl) (Nat.le_of_ble_eq_true rfl) hn (fun g_1 H1 locs ls f_2 hP1 hD1 hS hl => ?_) (_) 0 f0 _ _ ls (Nat.lt_succ_self _) (Nat.zero_le _) (fun j hj => absurd hj (Nat.not_lt_zero _)) (hP.sub (ws' := [(h0, .inl (ca, n, .inl f0))]) [0] rfl) (hD.sub (ws' := [(h0, .inl (ca, n, .inl f0))]) [0] (by decide) rfl) hS (lv_sub hl [2, 3, 1, 0] rfl)
  have hP := hP1
  have hD := hD1
  generalize H1 = H at hP hS ⊢
  have hP : va_P (dC, dI) vwCl [(h0, .inl (ca, n, .inl g_1))] H := hP
  have hD : va_D A [(h0, .inl (ca, n, .inl g_1))] := hD
  have hK := hK.sub (tys' := [(ca, .int)]) [0] rfl
  refine W.widen (k := 0) (n := 0) (by decide) (by decide) ?_
  exact W.vret hx hb hr (fun t ht hW => ⟨⟨(), rfl, trivial, g_1, f_2, by rw [ht]; exact hP, va_K.moved hW.alike hK, hD⟩, hS.F ht⟩) hS.2.2 d_Ar_fill_20

set_option maxHeartbeats 4000000 in
set_option maxRecDepth 100000 in
/-- Watch.add(r), next long enough -/
theorem c_Wt_add_0 (l : Launch) (dC : Nat → ClassId) (dI : Nat → Nat → Nat) (h0 : Nat) (g0 : Nat) (g1 : Nat) (g2 : Nat) (w0 : Nat) (t0 : Nat) (v0 : Nat) (v1 : Nat) (x0 : ClassId) (x1 : ClassId) (y0 : ClassId) (y1 : ClassId) (y2 : ClassId) (sz : Nat) (a : Rx) (w : Wx) (r : Nat) (hR : Rok a) (hr9 : r < a.n) (hWk : Wok a w (2 * r)) (hnn : 2 * r + 1 < w.nn ∧ w.nn ≤ 1048576) : Met l y_Wt_add (wq y_Wt_add prog_7_method_2_code 2 none) ({ frames := 1, cells := 0, slots := 0, locals := 22 }) (va_Pc [.ref w0, .int (nI r)] (fun U => U.heap.size = sz ∧ va_P (dC, dI) vwCl [(h0, .inr (2, [.ref g0, .ref g1, .ref g2, .int (nI a.n)])), (g0, .inl (y0, a.la, .inl a.sf)), (g1, .inl (y1, a.la, .inl a.kf)), (g2, .inl (y2, a.lc, .inl a.cf)), (w0, .inr (5, [.ref h0, .ref t0, .ref v0, .ref v1])), (v0, .inl (x0, 802, .inl w.hd)), (v1, .inl (x1, w.nn, .inl w.nx))] U.heap ∧ va_K (dC, dI) vwCl [(y0, .int), (y1, .int), (y2, .int), (x0, .int), (x1, .int)] U ∧ va_D (fun _ => True) [(h0, .inr (2, [.ref g0, .ref g1, .ref g2, .int (nI a.n)])), (g0, .inl (y0, a.la, .inl a.sf)), (g1, .inl (y1, a.la, .inl a.kf)), (g2, .inl (y2, a.lc, .inl a.cf)), (w0, .inr (5, [.ref h0, .ref t0, .ref v0, .ref v1])), (v0, .inl (x0, 802, .inl w.hd)), (v1, .inl (x1, w.nn, .inl w.nx))])) (va_Qv (fun _ : Unit => True) (fun (_ : Unit) t => ∃ (vv : Wx), (Wok a vv (2 * (r + 1))) ∧ (vv.nn = w.nn) ∧ va_P (dC, dI) vwCl [(h0, .inr (2, [.ref g0, .ref g1, .ref g2, .int (nI a.n)])), (g0, .inl (y0, a.la, .inl a.sf)), (g1, .inl (y1, a.la, .inl a.kf)), (g2, .inl (y2, a.lc, .inl a.cf)), (w0, .inr (5, [.ref h0, .ref t0, .ref v0, .ref v1])), (v0, .inl (x0, 802, .inl vv.hd)), (v1, .inl (x1, vv.nn, .inl vv.nx))] t.heap ∧ va_K (dC, dI) vwCl [(y0, .int), (y1, .int), (y2, .int), (x0, .int), (x1, .int)] t ∧ va_D (va_A [(h0, .inr (2, [.ref g0, .ref g1, .ref g2, .int (nI a.n)])), (g0, .inl (y0, a.la, .inl a.sf)), (g1, .inl (y1, a.la, .inl a.kf)), (g2, .inl (y2, a.lc, .inl a.cf)), (w0, .inr (5, [.ref h0, .ref t0, .ref v0, .ref v1])), (v0, .inl (x0, 802, .inl w.hd)), (v1, .inl (x1, w.nn, .inl w.nx))] sz) [(h0, .inr (2, [.ref g0, .ref g1, .ref g2, .int (nI a.n)])), (g0, .inl (y0, a.la, .inl a.sf)), (g1, .inl (y1, a.la, .inl a.kf)), (g2, .inl (y2, a.lc, .inl a.cf)), (w0, .inr (5, [.ref h0, .ref t0, .ref v0, .ref v1])), (v0, .inl (x0, 802, .inl vv.hd)), (v1, .inl (x1, vv.nn, .inl vv.nx))]) (va_A [(h0, .inr (2, [.ref g0, .ref g1, .ref g2, .int (nI a.n)])), (g0, .inl (y0, a.la, .inl a.sf)), (g1, .inl (y1, a.la, .inl a.kf)), (g2, .inl (y2, a.lc, .inl a.cf)), (w0, .inr (5, [.ref h0, .ref t0, .ref v0, .ref v1])), (v0, .inl (x0, 802, .inl w.hd)), (v1, .inl (x1, w.nn, .inl w.nx))] sz)) (0) (0) (va_A [(h0, .inr (2, [.ref g0, .ref g1, .ref g2, .int (nI a.n)])), (g0, .inl (y0, a.la, .inl a.sf)), (g1, .inl (y1, a.la, .inl a.kf)), (g2, .inl (y2, a.lc, .inl a.cf)), (w0, .inr (5, [.ref h0, .ref t0, .ref v0, .ref v1])), (v0, .inl (x0, 802, .inl w.hd)), (v1, .inl (x1, w.nn, .inl w.nx))] sz) := by
  refine Met.ofW (cc := prog_7_method_2_code) (maxL := 2) (ret := none) (by decide) rfl ?_
  intro p e s m args below meth c s₁ B hml hv
  obtain ⟨rfl, hsz, hP, hK, hD0⟩ := hv
  have hx := B.exec
  have hb := B.bytes
  have hr := B.returns
  have hw : ∀ w ∈ bg_W, w.before #[Value.ref w0, Value.int (nI r)] s = true := fun w h => atoms_spec (ws := (wq y_Wt_add prog_7_method_2_code 2 none)) B.pre w (List.mem_cons_of_mem _ h)
  have hown : s.vm.findClass R_Wt = some m.cls := findClass_of_methodNamed B.named
  have hlocks := B.notSynchronized
  subst hsz
  have hD := hD0.self (sz := s.heap.size)
  generalize hAe : va_A [(h0, .inr (2, [.ref g0, .ref g1, .ref g2, .int (nI a.n)])), (g0, .inl (y0, a.la, .inl a.sf)), (g1, .inl (y1, a.la, .inl a.kf)), (g2, .inl (y2, a.lc, .inl a.cf)), (w0, .inr (5, [.ref h0, .ref t0, .ref v0, .ref v1])), (v0, .inl (x0, 802, .inl w.hd)), (v1, .inl (x1, w.nn, .inl w.nx))] s.heap.size = A at hD ⊢
  have hA : ∀ q : Nat, s.heap.size ≤ q → A q := fun q h => by rw [← hAe]; exact Or.inr h
  have hS : va_S A s.heap s.heap [] := va_S.rf
  have hP : va_P (dC, dI) vwCl [(h0, .inr (2, [.ref g0, .ref g1, .ref g2, .int (nI a.n)])), (g0, .inl (y0, a.la, .inl a.sf)), (g1, .inl (y1, a.la, .inl a.kf)), (g2, .inl (y2, a.lc, .inl a.cf)), (w0, .inr (5, [.ref h0, .ref t0, .ref v0, .ref v1])), (v0, .inl (x0, 802, .inl w.hd)), (v1, .inl (x1, w.nn, .inl w.nx))] s.heap := hP
  have hl := lv_entry ([.ref w0, .int (nI r)]) (n := 2) (Nat.le_of_ble_eq_true rfl)
  rw [lg_entry_eq]
  generalize (lg_sl ([.ref w0, .int (nI r)]) ++ List.replicate (2 - (lg_sl ([.ref w0, .int (nI r)])).length) Slot.unset).toArray = ls at hl ⊢
  have hl : lv_has ls 2 [(0, .ref w0), (1, .int (nI r))] := hl
  obtain ⟨H, hH⟩ : ∃ H : Heap, H = s.heap := ⟨_, rfl⟩
  rw [← hH] at hP
  have hS : va_S A s.heap H [] := by rw [hH]; exact va_S.rf
  show W p l e _ s m _ below meth c s.heap [] 0 0 _ _
  rw [← hH]
  obtain ⟨i1, i2, i3, i4, i5, i6⟩ := hR.inb hr9
  have j1 := (hR.cf (a.S r) (by omega)).2
  have j2 := (hR.cf (a.S r + 1) (by omega)).2
  refine lv_iconst (v := nI 2) hx hb d_Wt_add_0 (by decide) ?_
  refine lv_iload_n hx hb d_Wt_add_1 rfl (lv_at hl 1 rfl) ?_
  refine lv_imul hx hb d_Wt_add_2 ?_
  refine lv_topi (fun y_1 ey_1 => ?_)
  obtain rfl : y_1 = nI (2 * r) := ey_1.trans (pk_mul 2 r)
  refine lv_iconst (v := nI 1) hx hb d_Wt_add_3 (by decide) ?_
  refine lv_iadd hx hb d_Wt_add_4 ?_
  refine lv_topi (fun y_2 ey_2 => ?_)
  obtain rfl : y_2 = nI (2 * r + 1) := ey_2.trans (nI_add (2 * r) 1)
  refine lv_aload_n hx hb d_Wt_add_5 rfl (lv_at hl 0 rfl) ?_
  refine va_get (D := (dC, dI)) (ci := 5) (v := .ref v1) (C := R_Wt) (T := F_Wt) (N := 4) hx hb hw in_Wt hown hK hP 4 rfl rfl 3 (by decide) (hw (Cond.fieldLink "ClauseSearch$Watch" 23 "ClauseSearch$Watch" "next" "[I") k_154) (fun _ h9 => h9) rfl d_Wt_add_6 ?_
  refine va_alen hx hb hK hP 6 4 rfl rfl (v := nI w.nn) rfl d_Wt_add_9 ?_
  refine lv_icmp_lt (tgt := 31) hx hb d_Wt_add_10 (by decide) (fun c_10 => ?_) (fun c_10 => by exfalso; have c_10 : ¬ (2 * r + 1 < w.nn) := fun qq9 => c_10 ((nI_ltI (a := 2 * r + 1) (b := w.nn) (by omega) (by omega)).mpr qq9); omega)
  have c_10 : 2 * r + 1 < w.nn := (nI_ltI (a := 2 * r + 1) (b := w.nn) (by omega) (by omega)).mp c_10
  refine lv_aload_n hx hb d_Wt_add_31 rfl (lv_at hl 0 rfl) ?_
  refine lv_iconst (v := nI 2) hx hb d_Wt_add_32 (by decide) ?_
  refine lv_iload_n hx hb d_Wt_add_33 rfl (lv_at hl 1 rfl) ?_
  refine lv_imul hx hb d_Wt_add_34 ?_
  refine lv_topi (fun y_3 ey_3 => ?_)
  obtain rfl : y_3 = nI (2 * r) := ey_3.trans (pk_mul 2 r)
  refine lv_aload_n hx hb d_Wt_add_35 rfl (lv_at hl 0 rfl) ?_
  refine va_get (D := (dC, dI)) (ci := 5) (v := .ref h0) (C := R_Wt) (T := F_Wt) (N := 4) hx hb hw in_Wt hown hK hP 4 rfl rfl 0 (by decide) (hw (Cond.fieldLink "ClauseSearch$Watch" 9 "ClauseSearch$Watch" "rows" "LClauseSearch$Rows;") k_151) (fun _ h9 => h9) rfl d_Wt_add_36 ?_
  refine va_getN (D := (dC, dI)) (ci := 2) (v := .ref g2) (C := R_Rw) (T := F_Rw) (N := 4) hx hb hw in_Rw hown hK hP 0 rfl rfl 2 (by decide) (hw (Cond.fieldLinkNest "ClauseSearch$Watch" 36 "ClauseSearch$Rows" "codes" "[I" "ClauseSearch") k_69) (fun _ h9 => h9) rfl d_Wt_add_39 ?_
  refine lv_aload_n hx hb d_Wt_add_42 rfl (lv_at hl 0 rfl) ?_
  refine va_get (D := (dC, dI)) (ci := 5) (v := .ref h0) (C := R_Wt) (T := F_Wt) (N := 4) hx hb hw in_Wt hown hK hP 4 rfl rfl 0 (by decide) (hw (Cond.fieldLink "ClauseSearch$Watch" 9 "ClauseSearch$Watch" "rows" "LClauseSearch$Rows;") k_151) (fun _ h9 => h9) rfl d_Wt_add_43 ?_
  refine va_getN (D := (dC, dI)) (ci := 2) (v := .ref g0) (C := R_Rw) (T := F_Rw) (N := 4) hx hb hw in_Rw hown hK hP 0 rfl rfl 0 (by decide) (hw (Cond.fieldLinkNest "ClauseSearch$Watch" 41 "ClauseSearch$Rows" "start" "[I" "ClauseSearch") k_61) (fun _ h9 => h9) rfl d_Wt_add_46 ?_
  refine lv_iload_n hx hb d_Wt_add_49 rfl (lv_at hl 1 rfl) ?_
  refine va_iald hx hb hK hP 1 0 rfl rfl (vp_in_nI (by omega) (by omega)) d_Wt_add_50 ?_
  refine lv_topi (fun y_4 ey_4 => ?_)
  rw [nI_clamp (by omega)] at ey_4
  rw [hR.sf _ (by omega)] at ey_4
  subst ey_4
  refine va_iald hx hb hK hP 3 2 rfl rfl (vp_in_nI (by omega) (by omega)) d_Wt_add_51 ?_
  refine lv_topi (fun y_5 ey_5 => ?_)
  rw [nI_clamp (by omega)] at ey_5
  rw [(hR.cf _ (by omega)).1] at ey_5
  subst ey_5
  have hPc := hP.sub (ws' := [(w0, .inr (5, [.ref h0, .ref t0, .ref v0, .ref v1])), (v0, .inl (x0, 802, .inl w.hd)), (v1, .inl (x1, w.nn, .inl w.nx))]) [4, 5, 6] rfl
  have hDc := hD.sub (ws' := [(w0, .inr (5, [.ref h0, .ref t0, .ref v0, .ref v1])), (v0, .inl (x0, 802, .inl w.hd)), (v1, .inl (x1, w.nn, .inl w.nx))]) [4, 5, 6] (by decide) rfl
  have hKc := hK.sub (tys' := [(x0, .int), (x1, .int)]) [3, 4] rfl
  have hFc := va_free (wc := [(w0, .inr (5, [.ref h0, .ref t0, .ref v0, .ref v1])), (v0, .inl (x0, 802, .inl w.hd)), (v1, .inl (x1, w.nn, .inl w.nx))]) hD hS hA [4, 5, 6] rfl
  refine va_callv (va_runV (As := [.int (nI (2 * r)), .int (nI (a.C (a.S r)))]) (rest := []) ⟨hx, hb, hml, hown, hw⟩ (c_Wt_hang l dC dI w0 h0 t0 v0 v1 x0 x1 H.size w.nn w.hd w.nx (2 * r) (a.C (a.S r)) (by omega) (by omega) (by omega)) (cb_V (C := R_Wt) 2 hw k_319 k_33 k_316 k_318 k_3 rfl rfl (by decide +kernel) ⟨Nat.le_of_ble_eq_true rfl, Nat.le_of_ble_eq_true rfl⟩) ⟨fun a U g mk q => by obtain ⟨q0, q1, qP, qK, qD⟩ := q; exact ⟨q0, q1, qP, va_K.moved (u := U) (U := U.calling g mk a) (Vm.Alike.refl U.vm) qK, qD⟩, va_recv hKc hPc (ci := 5) (q0 := 0) rfl rfl, fun U hU hW => ⟨rfl, by rw [hU], by rw [hU]; exact hPc, va_K.moved hW.alike hKc, hDc.weaken (fun _ _ _ _ => trivial)⟩⟩ rfl rfl hl.1 rfl (lv_room (Nat.le_of_ble_eq_true rfl)) d_Wt_add_52 ⟨Nat.le_of_ble_eq_true rfl, Nat.le_of_ble_eq_true rfl⟩) hS (fun q _ h => hFc q h) hFc (fun u t H1 locs ht hvm hw9 hB hz1 hk1 hS => ?_)
  obtain ⟨hP1, hK1, hD1⟩ := hB
  rw [ht] at hP1
  have hK1 := va_K.moved hvm.symm hK1
  obtain ⟨hP, hD⟩ := va_join (wr := [(h0, .inr (2, [.ref g0, .ref g1, .ref g2, .int (nI a.n)])), (g0, .inl (y0, a.la, .inl a.sf)), (g1, .inl (y1, a.la, .inl a.kf)), (g2, .inl (y2, a.lc, .inl a.cf))]) (w1 := [(w0, .inr (5, [.ref h0, .ref t0, .ref v0, .ref v1])), (v0, .inl (x0, 802, .inl (upd w.hd (a.C (a.S r)) (nI (2 * r))))), (v1, .inl (x1, w.nn, .inl (upd w.nx (2 * r) (w.hd (a.C (a.S r))))))]) hP hD [4, 5, 6] [0, 1, 2, 3] rfl rfl (by decide) (by decide) hk1 hFc hP1 hD1
  generalize H1 = H at hP hS ⊢
  have hP : va_P (dC, dI) vwCl [(h0, .inr (2, [.ref g0, .ref g1, .ref g2, .int (nI a.n)])), (g0, .inl (y0, a.la, .inl a.sf)), (g1, .inl (y1, a.la, .inl a.kf)), (g2, .inl (y2, a.lc, .inl a.cf)), (w0, .inr (5, [.ref h0, .ref t0, .ref v0, .ref v1])), (v0, .inl (x0, 802, .inl (upd w.hd (a.C (a.S r)) (nI (2 * r))))), (v1, .inl (x1, w.nn, .inl (upd w.nx (2 * r) (w.hd (a.C (a.S r))))))] H := hP
  have hD : va_D A [(h0, .inr (2, [.ref g0, .ref g1, .ref g2, .int (nI a.n)])), (g0, .inl (y0, a.la, .inl a.sf)), (g1, .inl (y1, a.la, .inl a.kf)), (g2, .inl (y2, a.lc, .inl a.cf)), (w0, .inr (5, [.ref h0, .ref t0, .ref v0, .ref v1])), (v0, .inl (x0, 802, .inl (upd w.hd (a.C (a.S r)) (nI (2 * r))))), (v1, .inl (x1, w.nn, .inl (upd w.nx (2 * r) (w.hd (a.C (a.S r))))))] := hD
  refine W.widen (k := 0) (n := 0) (by decide) (by decide) ?_
  refine lv_aload_n hx hb d_Wt_add_55 rfl (lv_at hl 0 rfl) ?_
  refine lv_iconst (v := nI 2) hx hb d_Wt_add_56 (by decide) ?_
  refine lv_iload_n hx hb d_Wt_add_57 rfl (lv_at hl 1 rfl) ?_
  refine lv_imul hx hb d_Wt_add_58 ?_
  refine lv_topi (fun y_6 ey_6 => ?_)
  obtain rfl : y_6 = nI (2 * r) := ey_6.trans (pk_mul 2 r)
  refine lv_iconst (v := nI 1) hx hb d_Wt_add_59 (by decide) ?_
  refine lv_iadd hx hb d_Wt_add_60 ?_
  refine lv_topi (fun y_7 ey_7 => ?_)
  obtain rfl : y_7 = nI (2 * r + 1) := ey_7.trans (nI_add (2 * r) 1)
  refine lv_aload_n hx hb d_Wt_add_61 rfl (lv_at hl 0 rfl) ?_
  refine va_get (D := (dC, dI)) (ci := 5) (v := .ref h0) (C := R_Wt) (T := F_Wt) (N := 4) hx hb hw in_Wt hown hK hP 4 rfl rfl 0 (by decide) (hw (Cond.fieldLink "ClauseSearch$Watch" 9 "ClauseSearch$Watch" "rows" "LClauseSearch$Rows;") k_151) (fun _ h9 => h9) rfl d_Wt_add_62 ?_
  refine va_getN (D := (dC, dI)) (ci := 2) (v := .ref g2) (C := R_Rw) (T := F_Rw) (N := 4) hx hb hw in_Rw hown hK hP 0 rfl rfl 2 (by decide) (hw (Cond.fieldLinkNest "ClauseSearch$Watch" 36 "ClauseSearch$Rows" "codes" "[I" "ClauseSearch") k_69) (fun _ h9 => h9) rfl d_Wt_add_65 ?_
  refine lv_aload_n hx hb d_Wt_add_68 rfl (lv_at hl 0 rfl) ?_
  refine va_get (D := (dC, dI)) (ci := 5) (v := .ref h0) (C := R_Wt) (T := F_Wt) (N := 4) hx hb hw in_Wt hown hK hP 4 rfl rfl 0 (by decide) (hw (Cond.fieldLink "ClauseSearch$Watch" 9 "ClauseSearch$Watch" "rows" "LClauseSearch$Rows;") k_151) (fun _ h9 => h9) rfl d_Wt_add_69 ?_
  refine va_getN (D := (dC, dI)) (ci := 2) (v := .ref g0) (C := R_Rw) (T := F_Rw) (N := 4) hx hb hw in_Rw hown hK hP 0 rfl rfl 0 (by decide) (hw (Cond.fieldLinkNest "ClauseSearch$Watch" 41 "ClauseSearch$Rows" "start" "[I" "ClauseSearch") k_61) (fun _ h9 => h9) rfl d_Wt_add_72 ?_
  refine lv_iload_n hx hb d_Wt_add_75 rfl (lv_at hl 1 rfl) ?_
  refine va_iald hx hb hK hP 1 0 rfl rfl (vp_in_nI (by omega) (by omega)) d_Wt_add_76 ?_
  refine lv_topi (fun y_8 ey_8 => ?_)
  rw [nI_clamp (by omega)] at ey_8
  rw [hR.sf _ (by omega)] at ey_8
  subst ey_8
  refine lv_iconst (v := nI 1) hx hb d_Wt_add_77 (by decide) ?_
  refine lv_iadd hx hb d_Wt_add_78 ?_
  refine lv_topi (fun y_9 ey_9 => ?_)
  obtain rfl : y_9 = nI (a.S r + 1) := ey_9.trans (nI_add (a.S r) 1)
  refine va_iald hx hb hK hP 3 2 rfl rfl (vp_in_nI (by omega) (by omega)) d_Wt_add_79 ?_
  refine lv_topi (fun y_10 ey_10 => ?_)
  rw [nI_clamp (by omega)] at ey_10
  rw [(hR.cf _ (by omega)).1] at ey_10
  subst ey_10
  have hPc := hP.sub (ws' := [(w0, .inr (5, [.ref h0, .ref t0, .ref v0, .ref v1])), (v0, .inl (x0, 802, .inl (upd w.hd (a.C (a.S r)) (nI (2 * r))))), (v1, .inl (x1, w.nn, .inl (upd w.nx (2 * r) (w.hd (a.C (a.S r))))))]) [4, 5, 6] rfl
  have hDc := hD.sub (ws' := [(w0, .inr (5, [.ref h0, .ref t0, .ref v0, .ref v1])), (v0, .inl (x0, 802, .inl (upd w.hd (a.C (a.S r)) (nI (2 * r))))), (v1, .inl (x1, w.nn, .inl (upd w.nx (2 * r) (w.hd (a.C (a.S r))))))]) [4, 5, 6] (by decide) rfl
  have hKc := hK.sub (tys' := [(x0, .int), (x1, .int)]) [3, 4] rfl
  have hFc := va_free (wc := [(w0, .inr (5, [.ref h0, .ref t0, .ref v0, .ref v1])), (v0, .inl (x0, 802, .inl (upd w.hd (a.C (a.S r)) (nI (2 * r))))), (v1, .inl (x1, w.nn, .inl (upd w.nx (2 * r) (w.hd (a.C (a.S r))))))]) hD hS hA [4, 5, 6] rfl
  refine va_callv (va_runV (As := [.int (nI (2 * r + 1)), .int (nI (a.C (a.S r + 1)))]) (rest := []) ⟨hx, hb, hml, hown, hw⟩ (c_Wt_hang l dC dI w0 h0 t0 v0 v1 x0 x1 H.size w.nn (upd w.hd (a.C (a.S r)) (nI (2 * r))) (upd w.nx (2 * r) (w.hd (a.C (a.S r)))) (2 * r + 1) (a.C (a.S r + 1)) (by omega) (by omega) (by omega)) (cb_V (C := R_Wt) 2 hw k_319 k_33 k_316 k_318 k_3 rfl rfl (by decide +kernel) ⟨Nat.le_of_ble_eq_true rfl, Nat.le_of_ble_eq_true rfl⟩) ⟨fun a U g mk q => by obtain ⟨q0, q1, qP, qK, qD⟩ := q; exact ⟨q0, q1, qP, va_K.moved (u := U) (U := U.calling g mk a) (Vm.Alike.refl U.vm) qK, qD⟩, va_recv hKc hPc (ci := 5) (q0 := 0) rfl rfl, fun U hU hW => ⟨rfl, by rw [hU], by rw [hU]; exact hPc, va_K.moved hW.alike hKc, hDc.weaken (fun _ _ _ _ => trivial)⟩⟩ rfl rfl hl.1 rfl (lv_room (Nat.le_of_ble_eq_true rfl)) d_Wt_add_80 ⟨Nat.le_of_ble_eq_true rfl, Nat.le_of_ble_eq_true rfl⟩) hS (fun q _ h => hFc q h) hFc (fun u t H1 locs ht hvm hw9 hB hz1 hk1 hS => ?_)
  obtain ⟨hP1, hK1, hD1⟩ := hB
  rw [ht] at hP1
  have hK1 := va_K.moved hvm.symm hK1
  obtain ⟨hP, hD⟩ := va_join (wr := [(h0, .inr (2, [.ref g0, .ref g1, .ref g2, .int (nI a.n)])), (g0, .inl (y0, a.la, .inl a.sf)), (g1, .inl (y1, a.la, .inl a.kf)), (g2, .inl (y2, a.lc, .inl a.cf))]) (w1 := [(w0, .inr (5, [.ref h0, .ref t0, .ref v0, .ref v1])), (v0, .inl (x0, 802, .inl (upd (upd w.hd (a.C (a.S r)) (nI (2 * r))) (a.C (a.S r + 1)) (nI (2 * r + 1))))), (v1, .inl (x1, w.nn, .inl (upd (upd w.nx (2 * r) (w.hd (a.C (a.S r)))) (2 * r + 1) ((upd w.hd (a.C (a.S r)) (nI (2 * r))) (a.C (a.S r + 1))))))]) hP hD [4, 5, 6] [0, 1, 2, 3] rfl rfl (by decide) (by decide) hk1 hFc hP1 hD1
  generalize H1 = H at hP hS ⊢
  have hP : va_P (dC, dI) vwCl [(h0, .inr (2, [.ref g0, .ref g1, .ref g2, .int (nI a.n)])), (g0, .inl (y0, a.la, .inl a.sf)), (g1, .inl (y1, a.la, .inl a.kf)), (g2, .inl (y2, a.lc, .inl a.cf)), (w0, .inr (5, [.ref h0, .ref t0, .ref v0, .ref v1])), (v0, .inl (x0, 802, .inl (upd (upd w.hd (a.C (a.S r)) (nI (2 * r))) (a.C (a.S r + 1)) (nI (2 * r + 1))))), (v1, .inl (x1, w.nn, .inl (upd (upd w.nx (2 * r) (w.hd (a.C (a.S r)))) (2 * r + 1) ((upd w.hd (a.C (a.S r)) (nI (2 * r))) (a.C (a.S r + 1))))))] H := hP
  have hD : va_D A [(h0, .inr (2, [.ref g0, .ref g1, .ref g2, .int (nI a.n)])), (g0, .inl (y0, a.la, .inl a.sf)), (g1, .inl (y1, a.la, .inl a.kf)), (g2, .inl (y2, a.lc, .inl a.cf)), (w0, .inr (5, [.ref h0, .ref t0, .ref v0, .ref v1])), (v0, .inl (x0, 802, .inl (upd (upd w.hd (a.C (a.S r)) (nI (2 * r))) (a.C (a.S r + 1)) (nI (2 * r + 1))))), (v1, .inl (x1, w.nn, .inl (upd (upd w.nx (2 * r) (w.hd (a.C (a.S r)))) (2 * r + 1) ((upd w.hd (a.C (a.S r)) (nI (2 * r))) (a.C (a.S r + 1))))))] := hD
  refine W.widen (k := 0) (n := 0) (by decide) (by decide) ?_
  have hP := hP.sub (ws' := [(h0, .inr (2, [.ref g0, .ref g1, .ref g2, .int (nI a.n)])), (g0, .inl (y0, a.la, .inl a.sf)), (g1, .inl (y1, a.la, .inl a.kf)), (g2, .inl (y2, a.lc, .inl a.cf)), (w0, .inr (5, [.ref h0, .ref t0, .ref v0, .ref v1])), (v0, .inl (x0, 802, .inl (Wad a w r).hd)), (v1, .inl (x1, (Wad a w r).nn, .inl (Wad a w r).nx))]) [0, 1, 2, 3, 4, 5, 6] rfl
  have hD := hD.sub (ws' := [(h0, .inr (2, [.ref g0, .ref g1, .ref g2, .int (nI a.n)])), (g0, .inl (y0, a.la, .inl a.sf)), (g1, .inl (y1, a.la, .inl a.kf)), (g2, .inl (y2, a.lc, .inl a.cf)), (w0, .inr (5, [.ref h0, .ref t0, .ref v0, .ref v1])), (v0, .inl (x0, 802, .inl (Wad a w r).hd)), (v1, .inl (x1, (Wad a w r).nn, .inl (Wad a w r).nx))]) [0, 1, 2, 3, 4, 5, 6] (by decide) rfl
  have hK := hK.sub (tys' := [(y0, .int), (y1, .int), (y2, .int), (x0, .int), (x1, .int)]) [0, 1, 2, 3, 4] rfl
  refine W.widen (k := 0) (n := 0) (by decide) (by decide) ?_
  exact W.vret hx hb hr (fun t ht hW => ⟨⟨(), rfl, trivial, (Wad a w r), (hWk.two hR hr9), rfl, by rw [ht]; exact hP, va_K.moved hW.alike hK, hD⟩, hS.F ht⟩) hS.2.2 d_Wt_add_83

set_option maxHeartbeats 4000000 in
set_option maxRecDepth 100000 in
/-- the loop of renew -/
theorem l_renew {p : Program} {l : Launch} {e : Env} {R : Room} {s : State} {m : MethodId} {args : Array Value} {below : List Frame} {meth : Method} {c : Code} {dC : Nat → ClassId} {dI : Nat → Nat → Nat} {A : Nat → Prop} {Q : State → Prop} {cells slots : Nat} {H0 : Heap} {h0 : Nat} {g0 : Nat} {g1 : Nat} {g2 : Nat} {w0 : Nat} {t0 : Nat} {v0 : Nat} {v1 : Nat} {x0 : ClassId} {x1 : ClassId} {y0 : ClassId} {y1 : ClassId} {y2 : ClassId} {a : Rx} {n9 : Nat} (hx : p.tables.exec = Jvm.exec) (hb : c.code = prog_7_method_3_code) (hml : c.maxLocals = 2) (hw : ∀ w ∈ bg_W, w.before args s = true) (hown : s.vm.findClass R_Wt = some m.cls) (hK : va_K (dC, dI) vwCl [(y0, .int), (y1, .int), (y2, .int), (x0, .int), (x1, .int)] s) (hA : ∀ q : Nat, H0.size ≤ q → A q) (hR1 : 2 ≤ R.frames) (hR2 : 43 ≤ R.locals) (hR3 : cells ≤ R.cells) (hR4 : slots ≤ R.slots) (hR : Rok a) (h29 : 2 * a.n ≤ n9 ∧ n9 ≤ 1048576)
    (kk32 : ∀ (w : Wx) (H : Heap) (locs : List Loc) (ls : Array Slot), (Wok a w (2 * a.n)) → (w.nn = n9) → va_P (dC, dI) vwCl [(h0, .inr (2, [.ref g0, .ref g1, .ref g2, .int (nI a.n)])), (g0, .inl (y0, a.la, .inl a.sf)), (g1, .inl (y1, a.la, .inl a.kf)), (g2, .inl (y2, a.lc, .inl a.cf)), (w0, .inr (5, [.ref h0, .ref t0, .ref v0, .ref v1])), (v0, .inl (x0, 802, .inl w.hd)), (v1, .inl (x1, w.nn, .inl w.nx))] H → va_D A [(h0, .inr (2, [.ref g0, .ref g1, .ref g2, .int (nI a.n)])), (g0, .inl (y0, a.la, .inl a.sf)), (g1, .inl (y1, a.la, .inl a.kf)), (g2, .inl (y2, a.lc, .inl a.cf)), (w0, .inr (5, [.ref h0, .ref t0, .ref v0, .ref v1])), (v0, .inl (x0, 802, .inl w.hd)), (v1, .inl (x1, w.nn, .inl w.nx))] → va_S A H0 H locs → lv_has ls 2 [(0, .ref w0)] → W p l e R s m args below meth c H locs cells slots Q (F0 m 32 ls []))
    : ∀ (f : Nat) (ix : Nat) (w : Wx) (H : Heap) (locs : List Loc) (ls : Array Slot), a.n - ix < f → (ix ≤ a.n) → (Wok a w (2 * ix)) → (w.nn = n9) → va_P (dC, dI) vwCl [(h0, .inr (2, [.ref g0, .ref g1, .ref g2, .int (nI a.n)])), (g0, .inl (y0, a.la, .inl a.sf)), (g1, .inl (y1, a.la, .inl a.kf)), (g2, .inl (y2, a.lc, .inl a.cf)), (w0, .inr (5, [.ref h0, .ref t0, .ref v0, .ref v1])), (v0, .inl (x0, 802, .inl w.hd)), (v1, .inl (x1, w.nn, .inl w.nx))] H → va_D A [(h0, .inr (2, [.ref g0, .ref g1, .ref g2, .int (nI a.n)])), (g0, .inl (y0, a.la, .inl a.sf)), (g1, .inl (y1, a.la, .inl a.kf)), (g2, .inl (y2, a.lc, .inl a.cf)), (w0, .inr (5, [.ref h0, .ref t0, .ref v0, .ref v1])), (v0, .inl (x0, 802, .inl w.hd)), (v1, .inl (x1, w.nn, .inl w.nx))] → va_S A H0 H locs → lv_has ls 2 [(0, .ref w0), (1, .int (nI ix))] → W p l e R s m args below meth c H locs cells slots Q (F0 m 10 ls []) := by
  intro f
  induction f with
  | zero => intro ix w H locs ls q0 q2 hWk hnn hP hD hS hl; exact absurd q0 (Nat.not_lt_zero _)
  | succ f ih =>
    intro ix w H locs ls q0 q2 hWk hnn hP hD hS hl
    have n2 := hR.n1
    have n3 := hR.la
    refine lv_iload_n hx hb d_Wt_renew_10 rfl (lv_at hl 1 rfl) ?_
    refine lv_aload_n hx hb d_Wt_renew_11 rfl (lv_at hl 0 rfl) ?_
    refine va_get (D := (dC, dI)) (ci := 5) (v := .ref h0) (C := R_Wt) (T := F_Wt) (N := 4) hx hb hw in_Wt hown hK hP 4 rfl rfl 0 (by decide) (hw (Cond.fieldLink "ClauseSearch$Watch" 9 "ClauseSearch$Watch" "rows" "LClauseSearch$Rows;") k_151) (fun _ h9 => h9) rfl d_Wt_renew_12 ?_
    refine va_getN (D := (dC, dI)) (ci := 2) (v := .int (nI a.n)) (C := R_Rw) (T := F_Rw) (N := 4) hx hb hw in_Rw hown hK hP 0 rfl rfl 3 (by decide) (hw (Cond.fieldLinkNest "ClauseSearch$Watch" 48 "ClauseSearch$Rows" "size" "I" "ClauseSearch") k_75) (fun _ h9 => h9) rfl d_Wt_renew_15 ?_
    refine lv_icmp_ge (tgt := 32) hx hb d_Wt_renew_18 (by decide) (fun c_18 => ?_) (fun c_18 => ?_)
    · have c_18 : a.n ≤ ix := (nI_leI (a := a.n) (b := ix) (by omega) (by omega)).mp c_18
      exact kk32 w _ _ ls (by rw [show a.n = ix by omega]; exact hWk) hnn hP hD hS (lv_sub hl [0] rfl)
    · have c_18 : ¬ (a.n ≤ ix) := fun qq9 => c_18 ((nI_leI (a := a.n) (b := ix) (by omega) (by omega)).mpr qq9)
      refine lv_aload_n hx hb d_Wt_renew_21 rfl (lv_at hl 0 rfl) ?_
      refine lv_iload_n hx hb d_Wt_renew_22 rfl (lv_at hl 1 rfl) ?_
      have hPc := hP.sub (ws' := [(h0, .inr (2, [.ref g0, .ref g1, .ref g2, .int (nI a.n)])), (g0, .inl (y0, a.la, .inl a.sf)), (g1, .inl (y1, a.la, .inl a.kf)), (g2, .inl (y2, a.lc, .inl a.cf)), (w0, .inr (5, [.ref h0, .ref t0, .ref v0, .ref v1])), (v0, .inl (x0, 802, .inl w.hd)), (v1, .inl (x1, w.nn, .inl w.nx))]) [0, 1, 2, 3, 4, 5, 6] rfl
      have hDc := hD.sub (ws' := [(h0, .inr (2, [.ref g0, .ref g1, .ref g2, .int (nI a.n)])), (g0, .inl (y0, a.la, .inl a.sf)), (g1, .inl (y1, a.la, .inl a.kf)), (g2, .inl (y2, a.lc, .inl a.cf)), (w0, .inr (5, [.ref h0, .ref t0, .ref v0, .ref v1])), (v0, .inl (x0, 802, .inl w.hd)), (v1, .inl (x1, w.nn, .inl w.nx))]) [0, 1, 2, 3, 4, 5, 6] (by decide) rfl
      have hKc := hK.sub (tys' := [(y0, .int), (y1, .int), (y2, .int), (x0, .int), (x1, .int)]) [0, 1, 2, 3, 4] rfl
      have hFc := va_free (wc := [(h0, .inr (2, [.ref g0, .ref g1, .ref g2, .int (nI a.n)])), (g0, .inl (y0, a.la, .inl a.sf)), (g1, .inl (y1, a.la, .inl a.kf)), (g2, .inl (y2, a.lc, .inl a.cf)), (w0, .inr (5, [.ref h0, .ref t0, .ref v0, .ref v1])), (v0, .inl (x0, 802, .inl w.hd)), (v1, .inl (x1, w.nn, .inl w.nx))]) hD hS hA [0, 1, 2, 3, 4, 5, 6] rfl
      refine va_callv (va_runV (As := [.int (nI ix)]) (rest := []) ⟨hx, hb, hml, hown, hw⟩ (c_Wt_add_0 l dC dI h0 g0 g1 g2 w0 t0 v0 v1 x0 x1 y0 y1 y2 H.size a w ix hR (by omega) hWk ⟨by omega, by omega⟩) (cb_V (C := R_Wt) 1 hw k_389 k_33 k_386 k_387 k_388 rfl rfl (by decide +kernel) ⟨Nat.le_trans (Nat.le_of_ble_eq_true rfl) hR1, Nat.le_trans (Nat.le_of_ble_eq_true rfl) hR2⟩) ⟨fun a U g mk q => by obtain ⟨q0, q1, qP, qK, qD⟩ := q; exact ⟨q0, q1, qP, va_K.moved (u := U) (U := U.calling g mk a) (Vm.Alike.refl U.vm) qK, qD⟩, va_recv hKc hPc (ci := 5) (q0 := 4) rfl rfl, fun U hU hW => ⟨rfl, by rw [hU], by rw [hU]; exact hPc, va_K.moved hW.alike hKc, hDc.weaken (fun _ _ _ _ => trivial)⟩⟩ rfl rfl hl.1 rfl (lv_room (Nat.le_of_ble_eq_true rfl)) d_Wt_renew_23 ⟨hR3, hR4⟩) hS (fun q _ h => hFc q h) hFc (fun u t H1 locs ht hvm hw9 hB hz1 hk1 hS => ?_)
      obtain ⟨b_1, f_2, f_3, hP1, hK1, hD1⟩ := hB
      rw [ht] at hP1
      have hK1 := va_K.moved hvm.symm hK1
      obtain ⟨hP, hD⟩ := va_join (wr := []) (w1 := [(h0, .inr (2, [.ref g0, .ref g1, .ref g2, .int (nI a.n)])), (g0, .inl (y0, a.la, .inl a.sf)), (g1, .inl (y1, a.la, .inl a.kf)), (g2, .inl (y2, a.lc, .inl a.cf)), (w0, .inr (5, [.ref h0, .ref t0, .ref v0, .ref v1])), (v0, .inl (x0, 802, .inl b_1.hd)), (v1, .inl (x1, b_1.nn, .inl b_1.nx))]) hP hD [0, 1, 2, 3, 4, 5, 6] [] rfl rfl (by decide) (by decide) hk1 hFc hP1 hD1
      generalize H1 = H at hP hS ⊢
      have hP : va_P (dC, dI) vwCl [(h0, .inr (2, [.ref g0, .ref g1, .ref g2, .int (nI a.n)])), (g0, .inl (y0, a.la, .inl a.sf)), (g1, .inl (y1, a.la, .inl a.kf)), (g2, .inl (y2, a.lc, .inl a.cf)), (w0, .inr (5, [.ref h0, .ref t0, .ref v0, .ref v1])), (v0, .inl (x0, 802, .inl b_1.hd)), (v1, .inl (x1, b_1.nn, .inl b_1.nx))] H := hP
      have hD : va_D A [(h0, .inr (2, [.ref g0, .ref g1, .ref g2, .int (nI a.n)])), (g0, .inl (y0, a.la, .inl a.sf)), (g1, .inl (y1, a.la, .inl a.kf)), (g2, .inl (y2, a.lc, .inl a.cf)), (w0, .inr (5, [.ref h0, .ref t0, .ref v0, .ref v1])), (v0, .inl (x0, 802, .inl b_1.hd)), (v1, .inl (x1, b_1.nn, .inl b_1.nx))] := hD
      refine W.widen (k := cells) (n := slots) (Nat.le_refl _) (Nat.le_refl _) ?_
      refine lv_iinc (v := nI (ix + 1)) (lv' := [(1, .int (nI (ix + 1))), (0, .ref w0)]) hx hb d_Wt_renew_26 hl (k := 1) rfl (nI_1 ix) (by decide) rfl (fun ls hl => ?_)
      refine lv_goto (tgt := 10) hx hb d_Wt_renew_29 (by decide) ?_
      exact ih (ix + 1) b_1 _ _ ls (by omega) (by omega) f_2 (f_3.trans hnn) hP hD hS (lv_sub hl [1, 0] rfl)

set_option maxHeartbeats 4000000 in
set_option maxRecDepth 100000 in
/-- renew() -/
theorem c_Wt_renew (l : Launch) (dC : Nat → ClassId) (dI : Nat → Nat → Nat) (h0 : Nat) (g0 : Nat) (g1 : Nat) (g2 : Nat) (w0 : Nat) (t0 : Nat) (v0 : Nat) (v1 : Nat) (x0 : ClassId) (x1 : ClassId) (y0 : ClassId) (y1 : ClassId) (y2 : ClassId) (sz : Nat) (a : Rx) (w : Wx) (hR : Rok a) (h29 : 2 * a.n ≤ w.nn ∧ w.nn ≤ 1048576) : Met l y_Wt_renew (wq y_Wt_renew prog_7_method_3_code 2 none) ({ frames := 2, cells := 0, slots := 0, locals := 43 }) (va_Pc [.ref w0] (fun U => U.heap.size = sz ∧ va_P (dC, dI) vwCl [(h0, .inr (2, [.ref g0, .ref g1, .ref g2, .int (nI a.n)])), (g0, .inl (y0, a.la, .inl a.sf)), (g1, .inl (y1, a.la, .inl a.kf)), (g2, .inl (y2, a.lc, .inl a.cf)), (w0, .inr (5, [.ref h0, .ref t0, .ref v0, .ref v1])), (v0, .inl (x0, 802, .inl w.hd)), (v1, .inl (x1, w.nn, .inl w.nx))] U.heap ∧ va_K (dC, dI) vwCl [(y0, .int), (y1, .int), (y2, .int), (x0, .int), (x1, .int)] U ∧ va_D (fun _ => True) [(h0, .inr (2, [.ref g0, .ref g1, .ref g2, .int (nI a.n)])), (g0, .inl (y0, a.la, .inl a.sf)), (g1, .inl (y1, a.la, .inl a.kf)), (g2, .inl (y2, a.lc, .inl a.cf)), (w0, .inr (5, [.ref h0, .ref t0, .ref v0, .ref v1])), (v0, .inl (x0, 802, .inl w.hd)), (v1, .inl (x1, w.nn, .inl w.nx))])) (va_Qv (fun _ : Unit => True) (fun (_ : Unit) t => ∃ (vv : Wx), (Wok a vv (2 * a.n)) ∧ (vv.nn = w.nn) ∧ va_P (dC, dI) vwCl [(h0, .inr (2, [.ref g0, .ref g1, .ref g2, .int (nI a.n)])), (g0, .inl (y0, a.la, .inl a.sf)), (g1, .inl (y1, a.la, .inl a.kf)), (g2, .inl (y2, a.lc, .inl a.cf)), (w0, .inr (5, [.ref h0, .ref t0, .ref v0, .ref v1])), (v0, .inl (x0, 802, .inl vv.hd)), (v1, .inl (x1, vv.nn, .inl vv.nx))] t.heap ∧ va_K (dC, dI) vwCl [(y0, .int), (y1, .int), (y2, .int), (x0, .int), (x1, .int)] t ∧ va_D (va_A [(h0, .inr (2, [.ref g0, .ref g1, .ref g2, .int (nI a.n)])), (g0, .inl (y0, a.la, .inl a.sf)), (g1, .inl (y1, a.la, .inl a.kf)), (g2, .inl (y2, a.lc, .inl a.cf)), (w0, .inr (5, [.ref h0, .ref t0, .ref v0, .ref v1])), (v0, .inl (x0, 802, .inl w.hd)), (v1, .inl (x1, w.nn, .inl w.nx))] sz) [(h0, .inr (2, [.ref g0, .ref g1, .ref g2, .int (nI a.n)])), (g0, .inl (y0, a.la, .inl a.sf)), (g1, .inl (y1, a.la, .inl a.kf)), (g2, .inl (y2, a.lc, .inl a.cf)), (w0, .inr (5, [.ref h0, .ref t0, .ref v0, .ref v1])), (v0, .inl (x0, 802, .inl vv.hd)), (v1, .inl (x1, vv.nn, .inl vv.nx))]) (va_A [(h0, .inr (2, [.ref g0, .ref g1, .ref g2, .int (nI a.n)])), (g0, .inl (y0, a.la, .inl a.sf)), (g1, .inl (y1, a.la, .inl a.kf)), (g2, .inl (y2, a.lc, .inl a.cf)), (w0, .inr (5, [.ref h0, .ref t0, .ref v0, .ref v1])), (v0, .inl (x0, 802, .inl w.hd)), (v1, .inl (x1, w.nn, .inl w.nx))] sz)) (0) (0) (va_A [(h0, .inr (2, [.ref g0, .ref g1, .ref g2, .int (nI a.n)])), (g0, .inl (y0, a.la, .inl a.sf)), (g1, .inl (y1, a.la, .inl a.kf)), (g2, .inl (y2, a.lc, .inl a.cf)), (w0, .inr (5, [.ref h0, .ref t0, .ref v0, .ref v1])), (v0, .inl (x0, 802, .inl w.hd)), (v1, .inl (x1, w.nn, .inl w.nx))] sz) := by
  refine Met.ofW (cc := prog_7_method_3_code) (maxL := 2) (ret := none) (by decide) rfl ?_
  intro p e s m args below meth c s₁ B hml hv
  obtain ⟨rfl, hsz, hP, hK, hD0⟩ := hv
  have hx := B.exec
  have hb := B.bytes
  have hr := B.returns
  have hw : ∀ w ∈ bg_W, w.before #[Value.ref w0] s = true := fun w h => atoms_spec (ws := (wq y_Wt_renew prog_7_method_3_code 2 none)) B.pre w (List.mem_cons_of_mem _ h)
  have hown : s.vm.findClass R_Wt = some m.cls := findClass_of_methodNamed B.named
  have hlocks := B.notSynchronized
  subst hsz
  have hD := hD0.self (sz := s.heap.size)
  generalize hAe : va_A [(h0, .inr (2, [.ref g0, .ref g1, .ref g2, .int (nI a.n)])), (g0, .inl (y0, a.la, .inl a.sf)), (g1, .inl (y1, a.la, .inl a.kf)), (g2, .inl (y2, a.lc, .inl a.cf)), (w0, .inr (5, [.ref h0, .ref t0, .ref v0, .ref v1])), (v0, .inl (x0, 802, .inl w.hd)), (v1, .inl (x1, w.nn, .inl w.nx))] s.heap.size = A at hD ⊢
  have hA : ∀ q : Nat, s.heap.size ≤ q → A q := fun q h => by rw [← hAe]; exact Or.inr h
  have hS : va_S A s.heap s.heap [] := va_S.rf
  have hP : va_P (dC, dI) vwCl [(h0, .inr (2, [.ref g0, .ref g1, .ref g2, .int (nI a.n)])), (g0, .inl (y0, a.la, .inl a.sf)), (g1, .inl (y1, a.la, .inl a.kf)), (g2, .inl (y2, a.lc, .inl a.cf)), (w0, .inr (5, [.ref h0, .ref t0, .ref v0, .ref v1])), (v0, .inl (x0, 802, .inl w.hd)), (v1, .inl (x1, w.nn, .inl w.nx))] s.heap := hP
  have hl := lv_entry ([.ref w0]) (n := 2) (Nat.le_of_ble_eq_true rfl)
  rw [lg_entry_eq]
  generalize (lg_sl ([.ref w0]) ++ List.replicate (2 - (lg_sl ([.ref w0])).length) Slot.unset).toArray = ls at hl ⊢
  have hl : lv_has ls 2 [(0, .ref w0)] := hl
  obtain ⟨H, hH⟩ : ∃ H : Heap, H = s.heap := ⟨_, rfl⟩
  rw [← hH] at hP
  have hS : va_S A s.heap H [] := by rw [hH]; exact va_S.rf
  show W p l e _ s m _ below meth c s.heap [] 0 0 _ _
  rw [← hH]
  refine lv_aload_n hx hb d_Wt_renew_0 rfl (lv_at hl 0 rfl) ?_
  refine va_get (D := (dC, dI)) (ci := 5) (v := .ref v0) (C := R_Wt) (T := F_Wt) (N := 4) hx hb hw in_Wt hown hK hP 4 rfl rfl 2 (by decide) (hw (Cond.fieldLink "ClauseSearch$Watch" 19 "ClauseSearch$Watch" "head" "[I") k_153) (fun _ h9 => h9) rfl d_Wt_renew_1 ?_
  refine lv_iconst (v := (-1)) hx hb d_Wt_renew_4 (by decide) ?_
  have hPc := hP.sub (ws' := [(v0, .inl (x0, 802, .inl w.hd))]) [5] rfl
  have hDc := hD.sub (ws' := [(v0, .inl (x0, 802, .inl w.hd))]) [5] (by decide) rfl
  have hKc := hK.sub (tys' := [(x0, .int)]) [3] rfl
  have hFc := va_free (wc := [(v0, .inl (x0, 802, .inl w.hd))]) hD hS hA [5] rfl
  refine va_callv (va_runS (As := [.ref v0, .int (-1)]) (rest := []) ⟨hx, hb, hml, hown, hw⟩ (c_Ar_fill l dC dI v0 x0 H.size 802 w.hd (-1) (by decide)) (cb_S 2 hw k_150 k_34 k_148 k_149 rfl rfl (by decide +kernel) ⟨Nat.le_of_ble_eq_true rfl, Nat.le_of_ble_eq_true rfl⟩) ⟨fun a U g mk q => by obtain ⟨q0, q1, qP, qK, qD⟩ := q; exact ⟨q0, q1, qP, va_K.moved (u := U) (U := U.calling g mk a) (Vm.Alike.refl U.vm) qK, qD⟩, fun U hU hW => ⟨rfl, by rw [hU], by rw [hU]; exact hPc, va_K.moved hW.alike hKc, hDc.weaken (fun _ _ _ _ => trivial)⟩⟩ rfl rfl hl.1 rfl (lv_room (Nat.le_of_ble_eq_true rfl)) d_Wt_renew_5 ⟨Nat.le_of_ble_eq_true rfl, Nat.le_of_ble_eq_true rfl⟩) hS (fun q _ h => hFc q h) hFc (fun u t H1 locs ht hvm hw9 hB hz1 hk1 hS => ?_)
  obtain ⟨g_1, f_2, hP1, hK1, hD1⟩ := hB
  rw [ht] at hP1
  have hK1 := va_K.moved hvm.symm hK1
  obtain ⟨hP, hD⟩ := va_join (wr := [(h0, .inr (2, [.ref g0, .ref g1, .ref g2, .int (nI a.n)])), (g0, .inl (y0, a.la, .inl a.sf)), (g1, .inl (y1, a.la, .inl a.kf)), (g2, .inl (y2, a.lc, .inl a.cf)), (w0, .inr (5, [.ref h0, .ref t0, .ref v0, .ref v1])), (v1, .inl (x1, w.nn, .inl w.nx))]) (w1 := [(v0, .inl (x0, 802, .inl g_1))]) hP hD [5] [0, 1, 2, 3, 4, 6] rfl rfl (by decide) (by decide) hk1 hFc hP1 hD1
  generalize H1 = H at hP hS ⊢
  have hP : va_P (dC, dI) vwCl [(h0, .inr (2, [.ref g0, .ref g1, .ref g2, .int (nI a.n)])), (g0, .inl (y0, a.la, .inl a.sf)), (g1, .inl (y1, a.la, .inl a.kf)), (g2, .inl (y2, a.lc, .inl a.cf)), (w0, .inr (5, [.ref h0, .ref t0, .ref v0, .ref v1])), (v1, .inl (x1, w.nn, .inl w.nx)), (v0, .inl (x0, 802, .inl g_1))] H := hP
  have hD : va_D A [(h0, .inr (2, [.ref g0, .ref g1, .ref g2, .int (nI a.n)])), (g0, .inl (y0, a.la, .inl a.sf)), (g1, .inl (y1, a.la, .inl a.kf)), (g2, .inl (y2, a.lc, .inl a.cf)), (w0, .inr (5, [.ref h0, .ref t0, .ref v0, .ref v1])), (v1, .inl (x1, w.nn, .inl w.nx)), (v0, .inl (x0, 802, .inl g_1))] := hD
  refine W.widen (k := 0) (n := 0) (by decide) (by decide) ?_
  refine lv_iconst (v := nI 0) hx hb d_Wt_renew_8 (by decide) ?_
  refine lv_istore_n (lv' := [(1, .int (nI 0)), (0, .ref w0)]) hx hb d_Wt_renew_9 rfl hl (by decide) rfl (fun ls hl => ?_)
  refine l_renew (a := a) (n9 := w.nn) hx hb hml hw hown (hK.sub (tys' := [(y0, .int), (y1, .int), (y2, .int), (x0, .int), (x1, .int)]) [0, 1, 2, 3, 4] rfl) hA (Nat.le_of_ble_eq_true rfl) (Nat.le_of_ble_eq_true rfl) (Nat.le_of_ble_eq_true rfl) (Nat.le_of_ble_eq_true rfl) hR h29 (fun b_3 H1 locs ls f_4 f_5 hP1 hD1 hS hl => ?_) (_) 0 (Wx.of w.nn g_1 w.nx) _ _ ls (Nat.lt_succ_self _) (Nat.zero_le _) (Wok.none f_2) rfl (hP.sub (ws' := [(h0, .inr (2, [.ref g0, .ref g1, .ref g2, .int (nI a.n)])), (g0, .inl (y0, a.la, .inl a.sf)), (g1, .inl (y1, a.la, .inl a.kf)), (g2, .inl (y2, a.lc, .inl a.cf)), (w0, .inr (5, [.ref h0, .ref t0, .ref v0, .ref v1])), (v0, .inl (x0, 802, .inl (Wx.of w.nn g_1 w.nx).hd)), (v1, .inl (x1, (Wx.of w.nn g_1 w.nx).nn, .inl (Wx.of w.nn g_1 w.nx).nx))]) [0, 1, 2, 3, 4, 6, 5] rfl) (hD.sub (ws' := [(h0, .inr (2, [.ref g0, .ref g1, .ref g2, .int (nI a.n)])), (g0, .inl (y0, a.la, .inl a.sf)), (g1, .inl (y1, a.la, .inl a.kf)), (g2, .inl (y2, a.lc, .inl a.cf)), (w0, .inr (5, [.ref h0, .ref t0, .ref v0, .ref v1])), (v0, .inl (x0, 802, .inl (Wx.of w.nn g_1 w.nx).hd)), (v1, .inl (x1, (Wx.of w.nn g_1 w.nx).nn, .inl (Wx.of w.nn g_1 w.nx).nx))]) [0, 1, 2, 3, 4, 6, 5] (by decide) rfl) hS (lv_sub hl [1, 0] rfl)
  have hP := hP1
  have hD := hD1
  generalize H1 = H at hP hS ⊢
  have hP : va_P (dC, dI) vwCl [(h0, .inr (2, [.ref g0, .ref g1, .ref g2, .int (nI a.n)])), (g0, .inl (y0, a.la, .inl a.sf)), (g1, .inl (y1, a.la, .inl a.kf)), (g2, .inl (y2, a.lc, .inl a.cf)), (w0, .inr (5, [.ref h0, .ref t0, .ref v0, .ref v1])), (v0, .inl (x0, 802, .inl b_3.hd)), (v1, .inl (x1, b_3.nn, .inl b_3.nx))] H := hP
  have hD : va_D A [(h0, .inr (2, [.ref g0, .ref g1, .ref g2, .int (nI a.n)])), (g0, .inl (y0, a.la, .inl a.sf)), (g1, .inl (y1, a.la, .inl a.kf)), (g2, .inl (y2, a.lc, .inl a.cf)), (w0, .inr (5, [.ref h0, .ref t0, .ref v0, .ref v1])), (v0, .inl (x0, 802, .inl b_3.hd)), (v1, .inl (x1, b_3.nn, .inl b_3.nx))] := hD
  have hK := hK.sub (tys' := [(y0, .int), (y1, .int), (y2, .int), (x0, .int), (x1, .int)]) [0, 1, 2, 3, 4] rfl
  refine W.widen (k := 0) (n := 0) (by decide) (by decide) ?_
  exact W.vret hx hb hr (fun t ht hW => ⟨⟨(), rfl, trivial, b_3, f_4, f_5, by rw [ht]; exact hP, va_K.moved hW.alike hK, hD⟩, hS.F ht⟩) hS.2.2 d_Wt_renew_32
