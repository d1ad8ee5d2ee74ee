abbrev y_Sr_has : MethodName := ⟨"ClauseSearch$Search", "has", "([III)Z"⟩
abbrev y_Sr_tellWay : MethodName := ⟨"ClauseSearch$Search", "tellWay", "([ZI)V"⟩
theorem d_Sr_has_3 : decode prog_5_method_3_code 3 = .ok (.iload 4, 2) := by decide +kernel
theorem d_Sr_has_5 : decode prog_5_method_3_code 5 = .ok (.iload_n 2, 1) := by decide +kernel
theorem d_Sr_has_6 : decode prog_5_method_3_code 6 = .ok (.if_icmp .ge 19, 3) := by decide +kernel
theorem d_Sr_has_9 : decode prog_5_method_3_code 9 = .ok (.aload_n 1, 1) := by decide +kernel
theorem d_Sr_has_10 : decode prog_5_method_3_code 10 = .ok (.iload 4, 2) := by decide +kernel
theorem d_Sr_has_12 : decode prog_5_method_3_code 12 = .ok (.iaload, 1) := by decide +kernel
theorem d_Sr_has_13 : decode prog_5_method_3_code 13 = .ok (.iload_n 3, 1) := by decide +kernel
theorem d_Sr_has_14 : decode prog_5_method_3_code 14 = .ok (.if_icmp .ne 5, 3) := by decide +kernel
theorem d_Sr_has_19 : decode prog_5_method_3_code 19 = .ok (.iinc 4 1, 3) := by decide +kernel
theorem d_Sr_has_22 : decode prog_5_method_3_code 22 = .ok (.goto (-19), 3) := by decide +kernel
theorem d_Sr_has_0 : decode prog_5_method_3_code 0 = .ok (.iconst 0, 1) := by decide +kernel
theorem d_Sr_has_1 : decode prog_5_method_3_code 1 = .ok (.istore 4, 2) := by decide +kernel
theorem d_Sr_has_17 : decode prog_5_method_3_code 17 = .ok (.iconst 1, 1) := by decide +kernel
theorem d_Sr_has_18 : decode prog_5_method_3_code 18 = .ok (.ireturn, 1) := by decide +kernel
theorem d_Sr_has_25 : decode prog_5_method_3_code 25 = .ok (.iconst 0, 1) := by decide +kernel
theorem d_Sr_has_26 : decode prog_5_method_3_code 26 = .ok (.ireturn, 1) := by decide +kernel
theorem d_Sr_tellWay_2 : decode prog_5_method_11_code 2 = .ok (.iload_n 3, 1) := by decide +kernel
theorem d_Sr_tellWay_3 : decode prog_5_method_11_code 3 = .ok (.iload_n 2, 1) := by decide +kernel
theorem d_Sr_tellWay_4 : decode prog_5_method_11_code 4 = .ok (.if_icmp .gt 32, 3) := by decide +kernel
theorem d_Sr_tellWay_7 : decode prog_5_method_11_code 7 = .ok (.aload_n 1, 1) := by decide +kernel
theorem d_Sr_tellWay_8 : decode prog_5_method_11_code 8 = .ok (.iload_n 3, 1) := by decide +kernel
theorem d_Sr_tellWay_9 : decode prog_5_method_11_code 9 = .ok (.aload_n 0, 1) := by decide +kernel
theorem d_Sr_tellWay_10 : decode prog_5_method_11_code 10 = .ok (.getfield 15, 3) := by decide +kernel
theorem d_Sr_tellWay_13 : decode prog_5_method_11_code 13 = .ok (.getfield 104, 3) := by decide +kernel
theorem d_Sr_tellWay_16 : decode prog_5_method_11_code 16 = .ok (.iconst 2, 1) := by decide +kernel
theorem d_Sr_tellWay_17 : decode prog_5_method_11_code 17 = .ok (.iload_n 3, 1) := by decide +kernel
theorem d_Sr_tellWay_18 : decode prog_5_method_11_code 18 = .ok (.imul, 1) := by decide +kernel
theorem d_Sr_tellWay_19 : decode prog_5_method_11_code 19 = .ok (.baload, 1) := by decide +kernel
theorem d_Sr_tellWay_20 : decode prog_5_method_11_code 20 = .ok (.iconst 1, 1) := by decide +kernel
theorem d_Sr_tellWay_21 : decode prog_5_method_11_code 21 = .ok (.if_icmp .ne 7, 3) := by decide +kernel
theorem d_Sr_tellWay_28 : decode prog_5_method_11_code 28 = .ok (.iconst 0, 1) := by decide +kernel
theorem d_Sr_tellWay_29 : decode prog_5_method_11_code 29 = .ok (.bastore, 1) := by decide +kernel
theorem d_Sr_tellWay_30 : decode prog_5_method_11_code 30 = .ok (.iinc 3 1, 3) := by decide +kernel
theorem d_Sr_tellWay_33 : decode prog_5_method_11_code 33 = .ok (.goto (-31), 3) := by decide +kernel
theorem d_Sr_tellWay_24 : decode prog_5_method_11_code 24 = .ok (.iconst 1, 1) := by decide +kernel
theorem d_Sr_tellWay_25 : decode prog_5_method_11_code 25 = .ok (.goto 4, 3) := by decide +kernel
theorem d_Sr_tellWay_0 : decode prog_5_method_11_code 0 = .ok (.iconst 1, 1) := by decide +kernel
theorem d_Sr_tellWay_1 : decode prog_5_method_11_code 1 = .ok (.istore_n 3, 1) := by decide +kernel
theorem d_Sr_tellWay_36 : decode prog_5_method_11_code 36 = .ok (.return_, 1) := by decide +kernel
set_option maxHeartbeats 4000000 in
set_option maxRecDepth 100000 in
/-- the loop of has -/
theorem l_has {p : Program} {l : Launch} {e : Env} {R : Room} {s : State} {m : MethodId} {args : Array Value} {below : List Frame} {meth : Method} {c : Code} {dC : Nat → ClassId} {dI : Nat → Nat → Nat} {A : Nat → Prop} {Q : State → Prop} {cells slots : Nat} {H0 : Heap} {o0 : Nat} {p0 : Nat} {f0 : Nat} {f1 : Nat} {h0 : Nat} {t0 : Nat} {w0 : Nat} {s0 : Nat} {k0 : Nat} {r0 : Nat} {x8 : ClassId} {x : Sx} {len : Nat} {rw : Nat → Int32} {c0 : Int32} (hx : p.tables.exec = Jvm.exec) (hb : c.code = prog_5_method_3_code) (hml : c.maxLocals = 5) (hw : ∀ w ∈ bg_W, w.before args s = true) (hown : s.vm.findClass R_Sr = some m.cls) (hK : va_K (dC, dI) vwCl [(x8, .int)] s) (hA : ∀ q : Nat, H0.size ≤ q → A q) (hR1 : 1 ≤ R.frames) (hR2 : 1 ≤ R.locals) (hR3 : cells ≤ R.cells) (hR4 : slots ≤ R.slots) (hlen : len ≤ 20)
    (kk17 : ∀ (ix : Nat) (H : Heap) (locs : List Loc) (ls : Array Slot), (ix < len) → (rw ix = c0) → va_P (dC, dI) vwCl [(o0, .inr (3, [.ref h0, .ref t0, .ref w0, .ref s0, .ref k0, .ref p0, .ref f0, .ref f1, .int (nI x.fc), .int (nI x.lc), .int x.bl, .int x.hp])), (r0, .inl (x8, 20, .inl rw))] H → va_D A [(o0, .inr (3, [.ref h0, .ref t0, .ref w0, .ref s0, .ref k0, .ref p0, .ref f0, .ref f1, .int (nI x.fc), .int (nI x.lc), .int x.bl, .int x.hp])), (r0, .inl (x8, 20, .inl rw))] → va_S A H0 H locs → lv_has ls 5 [(0, .ref o0)] → W p l e R s m args below meth c H locs cells slots Q (F0 m 17 ls []))
    (kk25 : ∀ (H : Heap) (locs : List Loc) (ls : Array Slot), (∀ j, j < len → rw j ≠ c0) → va_P (dC, dI) vwCl [(o0, .inr (3, [.ref h0, .ref t0, .ref w0, .ref s0, .ref k0, .ref p0, .ref f0, .ref f1, .int (nI x.fc), .int (nI x.lc), .int x.bl, .int x.hp])), (r0, .inl (x8, 20, .inl rw))] H → va_D A [(o0, .inr (3, [.ref h0, .ref t0, .ref w0, .ref s0, .ref k0, .ref p0, .ref f0, .ref f1, .int (nI x.fc), .int (nI x.lc), .int x.bl, .int x.hp])), (r0, .inl (x8, 20, .inl rw))] → va_S A H0 H locs → lv_has ls 5 [(0, .ref o0)] → W p l e R s m args below meth c H locs cells slots Q (F0 m 25 ls []))
    : ∀ (f : Nat) (ix : Nat) (H : Heap) (locs : List Loc) (ls : Array Slot), len - ix < f → (ix ≤ len) → (∀ j, j < ix → rw j ≠ c0) → va_P (dC, dI) vwCl [(o0, .inr (3, [.ref h0, .ref t0, .ref w0, .ref s0, .ref k0, .ref p0, .ref f0, .ref f1, .int (nI x.fc), .int (nI x.lc), .int x.bl, .int x.hp])), (r0, .inl (x8, 20, .inl rw))] H → va_D A [(o0, .inr (3, [.ref h0, .ref t0, .ref w0, .ref s0, .ref k0, .ref p0, .ref f0, .ref f1, .int (nI x.fc), .int (nI x.lc), .int x.bl, .int x.hp])), (r0, .inl (x8, 20, .inl rw))] → va_S A H0 H locs → lv_has ls 5 [(0, .ref o0), (1, .ref r0), (2, .int (nI len)), (3, .int c0), (4, .int (nI ix))] → W p l e R s m args below meth c H locs cells slots Q (F0 m 3 ls []) := by
  intro f
  induction f with
  | zero => intro ix H locs ls q0 q2 q3 hP hD hS hl; exact absurd q0 (Nat.not_lt_zero _)
  | succ f ih =>
    intro ix H locs ls q0 q2 q3 hP hD hS hl
    refine lv_iload hx hb d_Sr_has_3 (lv_at hl 4 rfl) ?_
    refine lv_iload_n hx hb d_Sr_has_5 rfl (lv_at hl 2 rfl) ?_
    refine lv_icmp_ge (tgt := 25) hx hb d_Sr_has_6 (by decide) (fun c_6 => ?_) (fun c_6 => ?_)
    · have c_6 : len ≤ ix := (nI_leI (a := len) (b := ix) (by omega) (by omega)).mp c_6
      exact kk25  _ _ ls (fun j hj => q3 j (by omega)) hP hD hS (lv_sub hl [0] rfl)
    · have c_6 : ¬ (len ≤ ix) := fun qq9 => c_6 ((nI_leI (a := len) (b := ix) (by omega) (by omega)).mpr qq9)
      refine lv_aload_n hx hb d_Sr_has_9 rfl (lv_at hl 1 rfl) ?_
      refine lv_iload hx hb d_Sr_has_10 (lv_at hl 4 rfl) ?_
      refine va_iald hx hb hK hP 1 0 rfl rfl (vp_in_nI (by omega) (by omega)) d_Sr_has_12 ?_
      refine lv_topi (fun y_1 ey_1 => ?_)
      rw [nI_clamp (by omega)] at ey_1
      subst ey_1
      refine lv_iload_n hx hb d_Sr_has_13 rfl (lv_at hl 3 rfl) ?_
      refine lv_icmp_ne (tgt := 19) hx hb d_Sr_has_14 (by decide) (fun c_14 => ?_) (fun c_14 => ?_)
      · refine lv_iinc (v := nI (ix + 1)) (lv' := [(4, .int (nI (ix + 1))), (0, .ref o0), (1, .ref r0), (2, .int (nI len)), (3, .int c0)]) hx hb d_Sr_has_19 hl (k := 4) rfl (nI_1 ix) (by decide) rfl (fun ls hl => ?_)
        refine lv_goto (tgt := 3) hx hb d_Sr_has_22 (by decide) ?_
        exact ih (ix + 1) _ _ ls (by omega) (by omega) (fun j hj => by rcases Nat.lt_or_eq_of_le (Nat.le_of_lt_succ hj) with x | x; exact q3 j x; rw [x]; exact c_14) hP hD hS (lv_sub hl [1, 2, 3, 4, 0] rfl)
      · exact kk17 ix _ _ ls (by omega) c_14 hP hD hS (lv_sub hl [0] rfl)

set_option maxHeartbeats 4000000 in
set_option maxRecDepth 100000 in
/-- has(codes, length, code) -/
theorem c_Sr_has (l : Launch) (dC : Nat → ClassId) (dI : Nat → Nat → Nat) (o0 : Nat) (p0 : Nat) (f0 : Nat) (f1 : Nat) (h0 : Nat) (t0 : Nat) (w0 : Nat) (s0 : Nat) (k0 : Nat) (r0 : Nat) (x8 : ClassId) (sz : Nat) (x : Sx) (len : Nat) (rw : Nat → Int32) (c0 : Int32) (hlen : len ≤ 20) : Met l y_Sr_has (wq y_Sr_has prog_5_method_3_code 5 (some .boolean)) ({ frames := 1, cells := 0, slots := 0, locals := 1 }) (va_Pc [.ref o0, .ref r0, .int (nI len), .int c0] (fun U => U.heap.size = sz ∧ va_P (dC, dI) vwCl [(o0, .inr (3, [.ref h0, .ref t0, .ref w0, .ref s0, .ref k0, .ref p0, .ref f0, .ref f1, .int (nI x.fc), .int (nI x.lc), .int x.bl, .int x.hp])), (r0, .inl (x8, 20, .inl rw))] U.heap ∧ va_K (dC, dI) vwCl [(x8, .int)] U ∧ va_D (fun _ => True) [(o0, .inr (3, [.ref h0, .ref t0, .ref w0, .ref s0, .ref k0, .ref p0, .ref f0, .ref f1, .int (nI x.fc), .int (nI x.lc), .int x.bl, .int x.hp])), (r0, .inl (x8, 20, .inl rw))])) (va_Qi (fun (r : Int32) (r9 : Int32) => r = r9) (fun (r9 : Int32) t => ((r9 = 0 ∧ ∀ j, j < len → rw j ≠ c0) ∨ (r9 = 1 ∧ ∃ j, j < len ∧ rw j = c0)) ∧ va_P (dC, dI) vwCl [(o0, .inr (3, [.ref h0, .ref t0, .ref w0, .ref s0, .ref k0, .ref p0, .ref f0, .ref f1, .int (nI x.fc), .int (nI x.lc), .int x.bl, .int x.hp])), (r0, .inl (x8, 20, .inl rw))] t.heap ∧ va_K (dC, dI) vwCl [(x8, .int)] t ∧ va_D (va_A [(o0, .inr (3, [.ref h0, .ref t0, .ref w0, .ref s0, .ref k0, .ref p0, .ref f0, .ref f1, .int (nI x.fc), .int (nI x.lc), .int x.bl, .int x.hp])), (r0, .inl (x8, 20, .inl rw))] sz) [(o0, .inr (3, [.ref h0, .ref t0, .ref w0, .ref s0, .ref k0, .ref p0, .ref f0, .ref f1, .int (nI x.fc), .int (nI x.lc), .int x.bl, .int x.hp])), (r0, .inl (x8, 20, .inl rw))]) (va_A [(o0, .inr (3, [.ref h0, .ref t0, .ref w0, .ref s0, .ref k0, .ref p0, .ref f0, .ref f1, .int (nI x.fc), .int (nI x.lc), .int x.bl, .int x.hp])), (r0, .inl (x8, 20, .inl rw))] sz)) (0) (0) (va_A [(o0, .inr (3, [.ref h0, .ref t0, .ref w0, .ref s0, .ref k0, .ref p0, .ref f0, .ref f1, .int (nI x.fc), .int (nI x.lc), .int x.bl, .int x.hp])), (r0, .inl (x8, 20, .inl rw))] sz) := by
  refine Met.ofW (cc := prog_5_method_3_code) (maxL := 5) (ret := (some .boolean)) (by decide) rfl ?_
  intro p e s m args below meth c s₁ B hml hv
  obtain ⟨rfl, hsz, hP, hK, hD0⟩ := hv
  have hx := B.exec
  have hb := B.bytes
  have hr := B.returns
  have hw : ∀ w ∈ bg_W, w.before #[Value.ref o0, Value.ref r0, Value.int (nI len), Value.int c0] s = true := fun w h => atoms_spec (ws := (wq y_Sr_has prog_5_method_3_code 5 (some .boolean))) B.pre w (List.mem_cons_of_mem _ h)
  have hown : s.vm.findClass R_Sr = some m.cls := findClass_of_methodNamed B.named
  have hlocks := B.notSynchronized
  subst hsz
  have hD := hD0.self (sz := s.heap.size)
  generalize hAe : va_A [(o0, .inr (3, [.ref h0, .ref t0, .ref w0, .ref s0, .ref k0, .ref p0, .ref f0, .ref f1, .int (nI x.fc), .int (nI x.lc), .int x.bl, .int x.hp])), (r0, .inl (x8, 20, .inl rw))] s.heap.size = A at hD ⊢
  have hA : ∀ q : Nat, s.heap.size ≤ q → A q := fun q h => by rw [← hAe]; exact Or.inr h
  have hS : va_S A s.heap s.heap [] := va_S.rf
  have hP : va_P (dC, dI) vwCl [(o0, .inr (3, [.ref h0, .ref t0, .ref w0, .ref s0, .ref k0, .ref p0, .ref f0, .ref f1, .int (nI x.fc), .int (nI x.lc), .int x.bl, .int x.hp])), (r0, .inl (x8, 20, .inl rw))] s.heap := hP
  have hl := lv_entry ([.ref o0, .ref r0, .int (nI len), .int c0]) (n := 5) (Nat.le_of_ble_eq_true rfl)
  rw [lg_entry_eq]
  generalize (lg_sl ([.ref o0, .ref r0, .int (nI len), .int c0]) ++ List.replicate (5 - (lg_sl ([.ref o0, .ref r0, .int (nI len), .int c0])).length) Slot.unset).toArray = ls at hl ⊢
  have hl : lv_has ls 5 [(0, .ref o0), (1, .ref r0), (2, .int (nI len)), (3, .int c0)] := hl
  obtain ⟨H, hH⟩ : ∃ H : Heap, H = s.heap := ⟨_, rfl⟩
  rw [← hH] at hP
  have hS : va_S A s.heap H [] := by rw [hH]; exact va_S.rf
  show W p l e _ s m _ below meth c s.heap [] 0 0 _ _
  rw [← hH]
  refine lv_iconst (v := nI 0) hx hb d_Sr_has_0 (by decide) ?_
  refine lv_istore (lv' := [(4, .int (nI 0)), (0, .ref o0), (1, .ref r0), (2, .int (nI len)), (3, .int c0)]) hx hb d_Sr_has_1 hl (by decide) rfl (fun ls hl => ?_)
  refine l_has (x := x) (len := len) (rw := rw) (c0 := c0) hx hb hml hw hown (hK.sub (tys' := [(x8, .int)]) [0] rfl) hA (Nat.le_of_ble_eq_true rfl) (Nat.le_of_ble_eq_true rfl) (Nat.le_of_ble_eq_true rfl) (Nat.le_of_ble_eq_true rfl) hlen (fun n_1 H1 locs ls f_2 f_3 hP1 hD1 hS hl => ?_) (fun  H1 locs ls f_4 hP1 hD1 hS hl => ?_) (_) 0 _ _ ls (Nat.lt_succ_self _) (Nat.zero_le _) (fun j hj => absurd hj (Nat.not_lt_zero _)) (hP.sub (ws' := [(o0, .inr (3, [.ref h0, .ref t0, .ref w0, .ref s0, .ref k0, .ref p0, .ref f0, .ref f1, .int (nI x.fc), .int (nI x.lc), .int x.bl, .int x.hp])), (r0, .inl (x8, 20, .inl rw))]) [0, 1] rfl) (hD.sub (ws' := [(o0, .inr (3, [.ref h0, .ref t0, .ref w0, .ref s0, .ref k0, .ref p0, .ref f0, .ref f1, .int (nI x.fc), .int (nI x.lc), .int x.bl, .int x.hp])), (r0, .inl (x8, 20, .inl rw))]) [0, 1] (by decide) rfl) hS (lv_sub hl [1, 2, 3, 4, 0] rfl)
  · have hP := hP1
    have hD := hD1
    generalize H1 = H at hP hS ⊢
    have hP : va_P (dC, dI) vwCl [(o0, .inr (3, [.ref h0, .ref t0, .ref w0, .ref s0, .ref k0, .ref p0, .ref f0, .ref f1, .int (nI x.fc), .int (nI x.lc), .int x.bl, .int x.hp])), (r0, .inl (x8, 20, .inl rw))] H := hP
    have hD : va_D A [(o0, .inr (3, [.ref h0, .ref t0, .ref w0, .ref s0, .ref k0, .ref p0, .ref f0, .ref f1, .int (nI x.fc), .int (nI x.lc), .int x.bl, .int x.hp])), (r0, .inl (x8, 20, .inl rw))] := hD
    refine lv_iconst (v := 1) hx hb d_Sr_has_17 (by decide) ?_
    have hK := hK.sub (tys' := [(x8, .int)]) [0] rfl
    refine W.widen (k := 0) (n := 0) (by decide) (by decide) ?_
    exact W.zret (v := 1) hx hb hr rfl (fun t ht hW => ⟨⟨1, 1, rfl, rfl, (Or.inr ⟨rfl, n_1, f_2, f_3⟩), by rw [ht]; exact hP, va_K.moved hW.alike hK, hD⟩, hS.F ht⟩) hS.2.2 d_Sr_has_18
  · have hP := hP1
    have hD := hD1
    generalize H1 = H at hP hS ⊢
    have hP : va_P (dC, dI) vwCl [(o0, .inr (3, [.ref h0, .ref t0, .ref w0, .ref s0, .ref k0, .ref p0, .ref f0, .ref f1, .int (nI x.fc), .int (nI x.lc), .int x.bl, .int x.hp])), (r0, .inl (x8, 20, .inl rw))] H := hP
    have hD : va_D A [(o0, .inr (3, [.ref h0, .ref t0, .ref w0, .ref s0, .ref k0, .ref p0, .ref f0, .ref f1, .int (nI x.fc), .int (nI x.lc), .int x.bl, .int x.hp])), (r0, .inl (x8, 20, .inl rw))] := hD
    refine lv_iconst (v := 0) hx hb d_Sr_has_25 (by decide) ?_
    have hK := hK.sub (tys' := [(x8, .int)]) [0] rfl
    refine W.widen (k := 0) (n := 0) (by decide) (by decide) ?_
    exact W.zret (v := 0) hx hb hr rfl (fun t ht hW => ⟨⟨0, 0, rfl, rfl, (Or.inl ⟨rfl, f_4⟩), by rw [ht]; exact hP, va_K.moved hW.alike hK, hD⟩, hS.F ht⟩) hS.2.2 d_Sr_has_26

set_option maxHeartbeats 4000000 in
set_option maxRecDepth 100000 in
/-- the loop of tellWay -/
theorem l_tell {p : Program} {l : Launch} {e : Env} {R : Room} {s : State} {m : MethodId} {args : Array Value} {below : List Frame} {meth : Method} {c : Code} {dC : Nat → ClassId} {dI : Nat → Nat → Nat} {A : Nat → Prop} {Q : State → Prop} {cells slots : Nat} {H0 : Heap} {o0 : Nat} {p0 : Nat} {f0 : Nat} {f1 : Nat} {h0 : Nat} {t0 : Nat} {w0 : Nat} {s0 : Nat} {k0 : Nat} {u0 : Nat} {u1 : Nat} {u2 : Nat} {u3 : Nat} {u4 : Nat} {m1 : Nat} {x9 : ClassId} {z0 : ClassId} {z1 : ClassId} {z2 : ClassId} {z3 : ClassId} {z4 : ClassId} {x : Sx} {d : Tx} {v : Nat} (hx : p.tables.exec = Jvm.exec) (hb : c.code = prog_5_method_11_code) (hml : c.maxLocals = 4) (hw : ∀ w ∈ bg_W, w.before args s = true) (hown : s.vm.findClass R_Sr = some m.cls) (hK : va_K (dC, dI) vwCl [(z0, .byte), (z1, .int), (z2, .int), (z3, .int), (z4, .int), (x9, .boolean)] s) (hA : ∀ q : Nat, H0.size ≤ q → A q) (hR1 : 1 ≤ R.frames) (hR2 : 1 ≤ R.locals) (hR3 : cells ≤ R.cells) (hR4 : slots ≤ R.slots) (hv : v ≤ 400)
    (kk36 : ∀ (g : Nat → Int32) (H : Heap) (locs : List Loc) (ls : Array Slot), (∀ j, j < 401 → g j = 0 ∨ g j = 1) → va_P (dC, dI) vwCl [(o0, .inr (3, [.ref h0, .ref t0, .ref w0, .ref s0, .ref k0, .ref p0, .ref f0, .ref f1, .int (nI x.fc), .int (nI x.lc), .int x.bl, .int x.hp])), (t0, .inr (4, [.ref u0, .ref u1, .ref u2, .ref u3, .ref u4, .int (nI d.k), .int (nI d.fo), .int (nI d.lev), .int (nI d.low)])), (u0, .inl (z0, 802, .inl d.tv)), (u1, .inl (z1, 401, .inl d.ov)), (u2, .inl (z2, 401, .inl d.lv)), (u3, .inl (z3, 401, .inl d.rv)), (u4, .inl (z4, 402, .inl d.sv)), (m1, .inl (x9, 401, .inl g))] H → va_D A [(o0, .inr (3, [.ref h0, .ref t0, .ref w0, .ref s0, .ref k0, .ref p0, .ref f0, .ref f1, .int (nI x.fc), .int (nI x.lc), .int x.bl, .int x.hp])), (t0, .inr (4, [.ref u0, .ref u1, .ref u2, .ref u3, .ref u4, .int (nI d.k), .int (nI d.fo), .int (nI d.lev), .int (nI d.low)])), (u0, .inl (z0, 802, .inl d.tv)), (u1, .inl (z1, 401, .inl d.ov)), (u2, .inl (z2, 401, .inl d.lv)), (u3, .inl (z3, 401, .inl d.rv)), (u4, .inl (z4, 402, .inl d.sv)), (m1, .inl (x9, 401, .inl g))] → va_S A H0 H locs → lv_has ls 4 [(0, .ref o0)] → W p l e R s m args below meth c H locs cells slots Q (F0 m 36 ls []))
    : ∀ (f : Nat) (ix : Nat) (g : Nat → Int32) (H : Heap) (locs : List Loc) (ls : Array Slot), v + 1 - ix < f → (1 ≤ ix) → (ix ≤ v + 1) → (∀ j, j < 401 → g j = 0 ∨ g j = 1) → va_P (dC, dI) vwCl [(o0, .inr (3, [.ref h0, .ref t0, .ref w0, .ref s0, .ref k0, .ref p0, .ref f0, .ref f1, .int (nI x.fc), .int (nI x.lc), .int x.bl, .int x.hp])), (t0, .inr (4, [.ref u0, .ref u1, .ref u2, .ref u3, .ref u4, .int (nI d.k), .int (nI d.fo), .int (nI d.lev), .int (nI d.low)])), (u0, .inl (z0, 802, .inl d.tv)), (u1, .inl (z1, 401, .inl d.ov)), (u2, .inl (z2, 401, .inl d.lv)), (u3, .inl (z3, 401, .inl d.rv)), (u4, .inl (z4, 402, .inl d.sv)), (m1, .inl (x9, 401, .inl g))] H → va_D A [(o0, .inr (3, [.ref h0, .ref t0, .ref w0, .ref s0, .ref k0, .ref p0, .ref f0, .ref f1, .int (nI x.fc), .int (nI x.lc), .int x.bl, .int x.hp])), (t0, .inr (4, [.ref u0, .ref u1, .ref u2, .ref u3, .ref u4, .int (nI d.k), .int (nI d.fo), .int (nI d.lev), .int (nI d.low)])), (u0, .inl (z0, 802, .inl d.tv)), (u1, .inl (z1, 401, .inl d.ov)), (u2, .inl (z2, 401, .inl d.lv)), (u3, .inl (z3, 401, .inl d.rv)), (u4, .inl (z4, 402, .inl d.sv)), (m1, .inl (x9, 401, .inl g))] → va_S A H0 H locs → lv_has ls 4 [(0, .ref o0), (1, .ref m1), (2, .int (nI v)), (3, .int (nI ix))] → W p l e R s m args below meth c H locs cells slots Q (F0 m 2 ls []) := by
  intro f
  induction f with
  | zero => intro ix g H locs ls q0 q1 q2 q5 hP hD hS hl; exact absurd q0 (Nat.not_lt_zero _)
  | succ f ih =>
    intro ix g H locs ls q0 q1 q2 q5 hP hD hS hl
    refine lv_iload_n hx hb d_Sr_tellWay_2 rfl (lv_at hl 3 rfl) ?_
    refine lv_iload_n hx hb d_Sr_tellWay_3 rfl (lv_at hl 2 rfl) ?_
    refine lv_icmp_gt (tgt := 36) hx hb d_Sr_tellWay_4 (by decide) (fun c_4 => ?_) (fun c_4 => ?_)
    · have c_4 : v < ix := (nI_ltI (a := v) (b := ix) (by omega) (by omega)).mp c_4
      exact kk36 g _ _ ls q5 hP hD hS (lv_sub hl [0] rfl)
    · have c_4 : ¬ (v < ix) := fun qq9 => c_4 ((nI_ltI (a := v) (b := ix) (by omega) (by omega)).mpr qq9)
      refine lv_aload_n hx hb d_Sr_tellWay_7 rfl (lv_at hl 1 rfl) ?_
      refine lv_iload_n hx hb d_Sr_tellWay_8 rfl (lv_at hl 3 rfl) ?_
      refine lv_aload_n hx hb d_Sr_tellWay_9 rfl (lv_at hl 0 rfl) ?_
      refine va_get (D := (dC, dI)) (ci := 3) (v := .ref t0) (C := R_Sr) (T := F_Sr) (N := 12) hx hb hw in_Sr hown hK hP 0 rfl rfl 1 (by decide) (hw (Cond.fieldLink "ClauseSearch$Search" 15 "ClauseSearch$Search" "trail" "LClauseSearch$Trail;") k_218) (fun _ h9 => h9) rfl d_Sr_tellWay_10 ?_
      refine va_getN (D := (dC, dI)) (ci := 4) (v := .ref u0) (C := R_Tr) (T := F_Tr) (N := 9) hx hb hw in_Tr hown hK hP 1 rfl rfl 0 (by decide) (hw (Cond.fieldLinkNest "ClauseSearch$Search" 104 "ClauseSearch$Trail" "truth" "[B" "ClauseSearch") k_98) (fun _ h9 => h9) rfl d_Sr_tellWay_13 ?_
      refine lv_iconst (v := nI 2) hx hb d_Sr_tellWay_16 (by decide) ?_
      refine lv_iload_n hx hb d_Sr_tellWay_17 rfl (lv_at hl 3 rfl) ?_
      refine lv_imul hx hb d_Sr_tellWay_18 ?_
      refine lv_topi (fun y_1 ey_1 => ?_)
      obtain rfl : y_1 = nI (2 * ix) := ey_1.trans (pk_mul 2 ix)
      refine va_bald hx hb hK hP 2 0 rfl rfl (vp_in_nI (by omega) (by omega)) d_Sr_tellWay_19 ?_
      refine lv_topi (fun y_2 ey_2 => ?_)
      rw [nI_clamp (by omega)] at ey_2
      subst ey_2
      refine lv_iconst (v := 1) hx hb d_Sr_tellWay_20 (by decide) ?_
      refine lv_icmp_ne (tgt := 28) hx hb d_Sr_tellWay_21 (by decide) (fun c_21 => ?_) (fun c_21 => ?_)
      · refine lv_iconst (v := 0) hx hb d_Sr_tellWay_28 (by decide) ?_
        have en_29 : vp_nar .boolean 0 = 0 := rfl
        refine va_zast hx hb hK hP hD hS 7 5 rfl rfl (vp_in_nI (by omega) (by omega)) d_Sr_tellWay_29 (fun H locs hP hD hS => ?_)
        rw [nI_clamp (n := ix) (by omega), en_29] at hP hD
        have hP : va_P (dC, dI) vwCl [(o0, .inr (3, [.ref h0, .ref t0, .ref w0, .ref s0, .ref k0, .ref p0, .ref f0, .ref f1, .int (nI x.fc), .int (nI x.lc), .int x.bl, .int x.hp])), (t0, .inr (4, [.ref u0, .ref u1, .ref u2, .ref u3, .ref u4, .int (nI d.k), .int (nI d.fo), .int (nI d.lev), .int (nI d.low)])), (u0, .inl (z0, 802, .inl d.tv)), (u1, .inl (z1, 401, .inl d.ov)), (u2, .inl (z2, 401, .inl d.lv)), (u3, .inl (z3, 401, .inl d.rv)), (u4, .inl (z4, 402, .inl d.sv)), (m1, .inl (x9, 401, .inl (upd g ix 0)))] H := hP
        have hD : va_D A [(o0, .inr (3, [.ref h0, .ref t0, .ref w0, .ref s0, .ref k0, .ref p0, .ref f0, .ref f1, .int (nI x.fc), .int (nI x.lc), .int x.bl, .int x.hp])), (t0, .inr (4, [.ref u0, .ref u1, .ref u2, .ref u3, .ref u4, .int (nI d.k), .int (nI d.fo), .int (nI d.lev), .int (nI d.low)])), (u0, .inl (z0, 802, .inl d.tv)), (u1, .inl (z1, 401, .inl d.ov)), (u2, .inl (z2, 401, .inl d.lv)), (u3, .inl (z3, 401, .inl d.rv)), (u4, .inl (z4, 402, .inl d.sv)), (m1, .inl (x9, 401, .inl (upd g ix 0)))] := hD
        refine lv_iinc (v := nI (ix + 1)) (lv' := [(3, .int (nI (ix + 1))), (0, .ref o0), (1, .ref m1), (2, .int (nI v))]) hx hb d_Sr_tellWay_30 hl (k := 3) rfl (nI_1 ix) (by decide) rfl (fun ls hl => ?_)
        refine lv_goto (tgt := 2) hx hb d_Sr_tellWay_33 (by decide) ?_
        exact ih (ix + 1) (upd g ix 0) _ _ ls (by omega) (by omega) (by omega) (fun j hj => by by_cases h : j = ix; (rw [h, pk_us]; exact Or.inl rfl); rw [pk_un h]; exact q5 j hj) hP hD hS (lv_sub hl [1, 2, 3, 0] rfl)
      · refine lv_iconst (v := 1) hx hb d_Sr_tellWay_24 (by decide) ?_
        refine lv_goto (tgt := 29) hx hb d_Sr_tellWay_25 (by decide) ?_
        have en_29 : vp_nar .boolean 1 = 1 := rfl
        refine va_zast hx hb hK hP hD hS 7 5 rfl rfl (vp_in_nI (by omega) (by omega)) d_Sr_tellWay_29 (fun H locs hP hD hS => ?_)
        rw [nI_clamp (n := ix) (by omega), en_29] at hP hD
        have hP : va_P (dC, dI) vwCl [(o0, .inr (3, [.ref h0, .ref t0, .ref w0, .ref s0, .ref k0, .ref p0, .ref f0, .ref f1, .int (nI x.fc), .int (nI x.lc), .int x.bl, .int x.hp])), (t0, .inr (4, [.ref u0, .ref u1, .ref u2, .ref u3, .ref u4, .int (nI d.k), .int (nI d.fo), .int (nI d.lev), .int (nI d.low)])), (u0, .inl (z0, 802, .inl d.tv)), (u1, .inl (z1, 401, .inl d.ov)), (u2, .inl (z2, 401, .inl d.lv)), (u3, .inl (z3, 401, .inl d.rv)), (u4, .inl (z4, 402, .inl d.sv)), (m1, .inl (x9, 401, .inl (upd g ix 1)))] H := hP
        have hD : va_D A [(o0, .inr (3, [.ref h0, .ref t0, .ref w0, .ref s0, .ref k0, .ref p0, .ref f0, .ref f1, .int (nI x.fc), .int (nI x.lc), .int x.bl, .int x.hp])), (t0, .inr (4, [.ref u0, .ref u1, .ref u2, .ref u3, .ref u4, .int (nI d.k), .int (nI d.fo), .int (nI d.lev), .int (nI d.low)])), (u0, .inl (z0, 802, .inl d.tv)), (u1, .inl (z1, 401, .inl d.ov)), (u2, .inl (z2, 401, .inl d.lv)), (u3, .inl (z3, 401, .inl d.rv)), (u4, .inl (z4, 402, .inl d.sv)), (m1, .inl (x9, 401, .inl (upd g ix 1)))] := hD
        refine lv_iinc (v := nI (ix + 1)) (lv' := [(3, .int (nI (ix + 1))), (0, .ref o0), (1, .ref m1), (2, .int (nI v))]) hx hb d_Sr_tellWay_30 hl (k := 3) rfl (nI_1 ix) (by decide) rfl (fun ls hl => ?_)
        refine lv_goto (tgt := 2) hx hb d_Sr_tellWay_33 (by decide) ?_
        exact ih (ix + 1) (upd g ix 1) _ _ ls (by omega) (by omega) (by omega) (fun j hj => by by_cases h : j = ix; (rw [h, pk_us]; exact Or.inr rfl); rw [pk_un h]; exact q5 j hj) hP hD hS (lv_sub hl [1, 2, 3, 0] rfl)

set_option maxHeartbeats 4000000 in
set_option maxRecDepth 100000 in
/-- tellWay(way, variables) -/
theorem c_Sr_tellWay (l : Launch) (dC : Nat → ClassId) (dI : Nat → Nat → Nat) (o0 : Nat) (p0 : Nat) (f0 : Nat) (f1 : Nat) (h0 : Nat) (t0 : Nat) (w0 : Nat) (s0 : Nat) (k0 : Nat) (u0 : Nat) (u1 : Nat) (u2 : Nat) (u3 : Nat) (u4 : Nat) (m1 : Nat) (x9 : ClassId) (z0 : ClassId) (z1 : ClassId) (z2 : ClassId) (z3 : ClassId) (z4 : ClassId) (sz : Nat) (x : Sx) (d : Tx) (v : Nat) (g : Nat → Int32) (hv : v ≤ 400) (hg1 : ∀ j, j < 401 → g j = 0 ∨ g j = 1) : Met l y_Sr_tellWay (wq y_Sr_tellWay prog_5_method_11_code 4 none) ({ frames := 1, cells := 0, slots := 0, locals := 1 }) (va_Pc [.ref o0, .ref m1, .int (nI v)] (fun U => U.heap.size = sz ∧ va_P (dC, dI) vwCl [(o0, .inr (3, [.ref h0, .ref t0, .ref w0, .ref s0, .ref k0, .ref p0, .ref f0, .ref f1, .int (nI x.fc), .int (nI x.lc), .int x.bl, .int x.hp])), (t0, .inr (4, [.ref u0, .ref u1, .ref u2, .ref u3, .ref u4, .int (nI d.k), .int (nI d.fo), .int (nI d.lev), .int (nI d.low)])), (u0, .inl (z0, 802, .inl d.tv)), (u1, .inl (z1, 401, .inl d.ov)), (u2, .inl (z2, 401, .inl d.lv)), (u3, .inl (z3, 401, .inl d.rv)), (u4, .inl (z4, 402, .inl d.sv)), (m1, .inl (x9, 401, .inl g))] U.heap ∧ va_K (dC, dI) vwCl [(z0, .byte), (z1, .int), (z2, .int), (z3, .int), (z4, .int), (x9, .boolean)] U ∧ va_D (fun _ => True) [(o0, .inr (3, [.ref h0, .ref t0, .ref w0, .ref s0, .ref k0, .ref p0, .ref f0, .ref f1, .int (nI x.fc), .int (nI x.lc), .int x.bl, .int x.hp])), (t0, .inr (4, [.ref u0, .ref u1, .ref u2, .ref u3, .ref u4, .int (nI d.k), .int (nI d.fo), .int (nI d.lev), .int (nI d.low)])), (u0, .inl (z0, 802, .inl d.tv)), (u1, .inl (z1, 401, .inl d.ov)), (u2, .inl (z2, 401, .inl d.lv)), (u3, .inl (z3, 401, .inl d.rv)), (u4, .inl (z4, 402, .inl d.sv)), (m1, .inl (x9, 401, .inl g))])) (va_Qv (fun _ : Unit => True) (fun (_ : Unit) t => ∃ (gg : Nat → Int32), (∀ j, j < 401 → gg j = 0 ∨ gg j = 1) ∧ va_P (dC, dI) vwCl [(o0, .inr (3, [.ref h0, .ref t0, .ref w0, .ref s0, .ref k0, .ref p0, .ref f0, .ref f1, .int (nI x.fc), .int (nI x.lc), .int x.bl, .int x.hp])), (t0, .inr (4, [.ref u0, .ref u1, .ref u2, .ref u3, .ref u4, .int (nI d.k), .int (nI d.fo), .int (nI d.lev), .int (nI d.low)])), (u0, .inl (z0, 802, .inl d.tv)), (u1, .inl (z1, 401, .inl d.ov)), (u2, .inl (z2, 401, .inl d.lv)), (u3, .inl (z3, 401, .inl d.rv)), (u4, .inl (z4, 402, .inl d.sv)), (m1, .inl (x9, 401, .inl gg))] t.heap ∧ va_K (dC, dI) vwCl [(z0, .byte), (z1, .int), (z2, .int), (z3, .int), (z4, .int), (x9, .boolean)] t ∧ va_D (va_A [(o0, .inr (3, [.ref h0, .ref t0, .ref w0, .ref s0, .ref k0, .ref p0, .ref f0, .ref f1, .int (nI x.fc), .int (nI x.lc), .int x.bl, .int x.hp])), (t0, .inr (4, [.ref u0, .ref u1, .ref u2, .ref u3, .ref u4, .int (nI d.k), .int (nI d.fo), .int (nI d.lev), .int (nI d.low)])), (u0, .inl (z0, 802, .inl d.tv)), (u1, .inl (z1, 401, .inl d.ov)), (u2, .inl (z2, 401, .inl d.lv)), (u3, .inl (z3, 401, .inl d.rv)), (u4, .inl (z4, 402, .inl d.sv)), (m1, .inl (x9, 401, .inl g))] sz) [(o0, .inr (3, [.ref h0, .ref t0, .ref w0, .ref s0, .ref k0, .ref p0, .ref f0, .ref f1, .int (nI x.fc), .int (nI x.lc), .int x.bl, .int x.hp])), (t0, .inr (4, [.ref u0, .ref u1, .ref u2, .ref u3, .ref u4, .int (nI d.k), .int (nI d.fo), .int (nI d.lev), .int (nI d.low)])), (u0, .inl (z0, 802, .inl d.tv)), (u1, .inl (z1, 401, .inl d.ov)), (u2, .inl (z2, 401, .inl d.lv)), (u3, .inl (z3, 401, .inl d.rv)), (u4, .inl (z4, 402, .inl d.sv)), (m1, .inl (x9, 401, .inl gg))]) (va_A [(o0, .inr (3, [.ref h0, .ref t0, .ref w0, .ref s0, .ref k0, .ref p0, .ref f0, .ref f1, .int (nI x.fc), .int (nI x.lc), .int x.bl, .int x.hp])), (t0, .inr (4, [.ref u0, .ref u1, .ref u2, .ref u3, .ref u4, .int (nI d.k), .int (nI d.fo), .int (nI d.lev), .int (nI d.low)])), (u0, .inl (z0, 802, .inl d.tv)), (u1, .inl (z1, 401, .inl d.ov)), (u2, .inl (z2, 401, .inl d.lv)), (u3, .inl (z3, 401, .inl d.rv)), (u4, .inl (z4, 402, .inl d.sv)), (m1, .inl (x9, 401, .inl g))] sz)) (0) (0) (va_A [(o0, .inr (3, [.ref h0, .ref t0, .ref w0, .ref s0, .ref k0, .ref p0, .ref f0, .ref f1, .int (nI x.fc), .int (nI x.lc), .int x.bl, .int x.hp])), (t0, .inr (4, [.ref u0, .ref u1, .ref u2, .ref u3, .ref u4, .int (nI d.k), .int (nI d.fo), .int (nI d.lev), .int (nI d.low)])), (u0, .inl (z0, 802, .inl d.tv)), (u1, .inl (z1, 401, .inl d.ov)), (u2, .inl (z2, 401, .inl d.lv)), (u3, .inl (z3, 401, .inl d.rv)), (u4, .inl (z4, 402, .inl d.sv)), (m1, .inl (x9, 401, .inl g))] sz) := by
  refine Met.ofW (cc := prog_5_method_11_code) (maxL := 4) (ret := none) (by decide) rfl ?_
  intro p e s m args below meth c s₁ B hml hv
  obtain ⟨rfl, hsz, hP, hK, hD0⟩ := hv
  have hx := B.exec
  have hb := B.bytes
  have hr := B.returns
  have hw : ∀ w ∈ bg_W, w.before #[Value.ref o0, Value.ref m1, Value.int (nI v)] s = true := fun w h => atoms_spec (ws := (wq y_Sr_tellWay prog_5_method_11_code 4 none)) B.pre w (List.mem_cons_of_mem _ h)
  have hown : s.vm.findClass R_Sr = some m.cls := findClass_of_methodNamed B.named
  have hlocks := B.notSynchronized
  subst hsz
  have hD := hD0.self (sz := s.heap.size)
  generalize hAe : va_A [(o0, .inr (3, [.ref h0, .ref t0, .ref w0, .ref s0, .ref k0, .ref p0, .ref f0, .ref f1, .int (nI x.fc), .int (nI x.lc), .int x.bl, .int x.hp])), (t0, .inr (4, [.ref u0, .ref u1, .ref u2, .ref u3, .ref u4, .int (nI d.k), .int (nI d.fo), .int (nI d.lev), .int (nI d.low)])), (u0, .inl (z0, 802, .inl d.tv)), (u1, .inl (z1, 401, .inl d.ov)), (u2, .inl (z2, 401, .inl d.lv)), (u3, .inl (z3, 401, .inl d.rv)), (u4, .inl (z4, 402, .inl d.sv)), (m1, .inl (x9, 401, .inl g))] s.heap.size = A at hD ⊢
  have hA : ∀ q : Nat, s.heap.size ≤ q → A q := fun q h => by rw [← hAe]; exact Or.inr h
  have hS : va_S A s.heap s.heap [] := va_S.rf
  have hP : va_P (dC, dI) vwCl [(o0, .inr (3, [.ref h0, .ref t0, .ref w0, .ref s0, .ref k0, .ref p0, .ref f0, .ref f1, .int (nI x.fc), .int (nI x.lc), .int x.bl, .int x.hp])), (t0, .inr (4, [.ref u0, .ref u1, .ref u2, .ref u3, .ref u4, .int (nI d.k), .int (nI d.fo), .int (nI d.lev), .int (nI d.low)])), (u0, .inl (z0, 802, .inl d.tv)), (u1, .inl (z1, 401, .inl d.ov)), (u2, .inl (z2, 401, .inl d.lv)), (u3, .inl (z3, 401, .inl d.rv)), (u4, .inl (z4, 402, .inl d.sv)), (m1, .inl (x9, 401, .inl g))] s.heap := hP
  have hl := lv_entry ([.ref o0, .ref m1, .int (nI v)]) (n := 4) (Nat.le_of_ble_eq_true rfl)
  rw [lg_entry_eq]
  generalize (lg_sl ([.ref o0, .ref m1, .int (nI v)]) ++ List.replicate (4 - (lg_sl ([.ref o0, .ref m1, .int (nI v)])).length) Slot.unset).toArray = ls at hl ⊢
  have hl : lv_has ls 4 [(0, .ref o0), (1, .ref m1), (2, .int (nI v))] := hl
  obtain ⟨H, hH⟩ : ∃ H : Heap, H = s.heap := ⟨_, rfl⟩
  rw [← hH] at hP
  have hS : va_S A s.heap H [] := by rw [hH]; exact va_S.rf
  show W p l e _ s m _ below meth c s.heap [] 0 0 _ _
  rw [← hH]
  refine lv_iconst (v := nI 1) hx hb d_Sr_tellWay_0 (by decide) ?_
  refine lv_istore_n (lv' := [(3, .int (nI 1)), (0, .ref o0), (1, .ref m1), (2, .int (nI v))]) hx hb d_Sr_tellWay_1 rfl hl (by decide) rfl (fun ls hl => ?_)
  refine l_tell (x := x) (d := d) (v := v) hx hb hml hw hown (hK.sub (tys' := [(z0, .byte), (z1, .int), (z2, .int), (z3, .int), (z4, .int), (x9, .boolean)]) [0, 1, 2, 3, 4, 5] rfl) hA (Nat.le_of_ble_eq_true rfl) (Nat.le_of_ble_eq_true rfl) (Nat.le_of_ble_eq_true rfl) (Nat.le_of_ble_eq_true rfl) hv (fun g_1 H1 locs ls f_2 hP1 hD1 hS hl => ?_) (_) 1 g _ _ ls (Nat.lt_succ_self _) (Nat.le_refl _) (by omega) hg1 (hP.sub (ws' := [(o0, .inr (3, [.ref h0, .ref t0, .ref w0, .ref s0, .ref k0, .ref p0, .ref f0, .ref f1, .int (nI x.fc), .int (nI x.lc), .int x.bl, .int x.hp])), (t0, .inr (4, [.ref u0, .ref u1, .ref u2, .ref u3, .ref u4, .int (nI d.k), .int (nI d.fo), .int (nI d.lev), .int (nI d.low)])), (u0, .inl (z0, 802, .inl d.tv)), (u1, .inl (z1, 401, .inl d.ov)), (u2, .inl (z2, 401, .inl d.lv)), (u3, .inl (z3, 401, .inl d.rv)), (u4, .inl (z4, 402, .inl d.sv)), (m1, .inl (x9, 401, .inl g))]) [0, 1, 2, 3, 4, 5, 6, 7] rfl) (hD.sub (ws' := [(o0, .inr (3, [.ref h0, .ref t0, .ref w0, .ref s0, .ref k0, .ref p0, .ref f0, .ref f1, .int (nI x.fc), .int (nI x.lc), .int x.bl, .int x.hp])), (t0, .inr (4, [.ref u0, .ref u1, .ref u2, .ref u3, .ref u4, .int (nI d.k), .int (nI d.fo), .int (nI d.lev), .int (nI d.low)])), (u0, .inl (z0, 802, .inl d.tv)), (u1, .inl (z1, 401, .inl d.ov)), (u2, .inl (z2, 401, .inl d.lv)), (u3, .inl (z3, 401, .inl d.rv)), (u4, .inl (z4, 402, .inl d.sv)), (m1, .inl (x9, 401, .inl g))]) [0, 1, 2, 3, 4, 5, 6, 7] (by decide) rfl) hS (lv_sub hl [1, 2, 3, 0] rfl)
  have hP := hP1
  have hD := hD1
  generalize H1 = H at hP hS ⊢
  have hP : va_P (dC, dI) vwCl [(o0, .inr (3, [.ref h0, .ref t0, .ref w0, .ref s0, .ref k0, .ref p0, .ref f0, .ref f1, .int (nI x.fc), .int (nI x.lc), .int x.bl, .int x.hp])), (t0, .inr (4, [.ref u0, .ref u1, .ref u2, .ref u3, .ref u4, .int (nI d.k), .int (nI d.fo), .int (nI d.lev), .int (nI d.low)])), (u0, .inl (z0, 802, .inl d.tv)), (u1, .inl (z1, 401, .inl d.ov)), (u2, .inl (z2, 401, .inl d.lv)), (u3, .inl (z3, 401, .inl d.rv)), (u4, .inl (z4, 402, .inl d.sv)), (m1, .inl (x9, 401, .inl g_1))] H := hP
  have hD : va_D A [(o0, .inr (3, [.ref h0, .ref t0, .ref w0, .ref s0, .ref k0, .ref p0, .ref f0, .ref f1, .int (nI x.fc), .int (nI x.lc), .int x.bl, .int x.hp])), (t0, .inr (4, [.ref u0, .ref u1, .ref u2, .ref u3, .ref u4, .int (nI d.k), .int (nI d.fo), .int (nI d.lev), .int (nI d.low)])), (u0, .inl (z0, 802, .inl d.tv)), (u1, .inl (z1, 401, .inl d.ov)), (u2, .inl (z2, 401, .inl d.lv)), (u3, .inl (z3, 401, .inl d.rv)), (u4, .inl (z4, 402, .inl d.sv)), (m1, .inl (x9, 401, .inl g_1))] := hD
  have hK := hK.sub (tys' := [(z0, .byte), (z1, .int), (z2, .int), (z3, .int), (z4, .int), (x9, .boolean)]) [0, 1, 2, 3, 4, 5] rfl
  refine W.widen (k := 0) (n := 0) (by decide) (by decide) ?_
  exact W.vret hx hb hr (fun t ht hW => ⟨⟨(), rfl, trivial, g_1, f_2, by rw [ht]; exact hP, va_K.moved hW.alike hK, hD⟩, hS.F ht⟩) hS.2.2 d_Sr_tellWay_36
