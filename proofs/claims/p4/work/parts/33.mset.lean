abbrev y_Md_set : MethodName := ⟨"ClauseSearchModel", "set", "(I)V"⟩
theorem k_608 : (Cond.fieldLink "ClauseSearchModel" 23 "ClauseSearchModel" "way" "[I") ∈ bg_W := bg_in 608 (by decide +kernel) (by decide +kernel)
theorem k_615 : (Cond.fieldLink "ClauseSearchModel" 26 "ClauseSearchModel" "trail" "[I") ∈ bg_W := bg_in 615 (by decide +kernel) (by decide +kernel)
theorem k_616 : (Cond.fieldLink "ClauseSearchModel" 60 "ClauseSearchModel" "length" "I") ∈ bg_W := bg_in 616 (by decide +kernel) (by decide +kernel)
theorem d_Md_set_0 : decode prog_9_method_9_code 0 = .ok (.iload_n 1, 1) := by decide +kernel
theorem d_Md_set_1 : decode prog_9_method_9_code 1 = .ok (.ifCond .ge 9, 3) := by decide +kernel
theorem d_Md_set_10 : decode prog_9_method_9_code 10 = .ok (.iload_n 1, 1) := by decide +kernel
theorem d_Md_set_11 : decode prog_9_method_9_code 11 = .ok (.istore_n 2, 1) := by decide +kernel
theorem d_Md_set_12 : decode prog_9_method_9_code 12 = .ok (.aload_n 0, 1) := by decide +kernel
theorem d_Md_set_13 : decode prog_9_method_9_code 13 = .ok (.getfield 23, 3) := by decide +kernel
theorem d_Md_set_16 : decode prog_9_method_9_code 16 = .ok (.iload_n 2, 1) := by decide +kernel
theorem d_Md_set_17 : decode prog_9_method_9_code 17 = .ok (.iload_n 1, 1) := by decide +kernel
theorem d_Md_set_18 : decode prog_9_method_9_code 18 = .ok (.ifCond .le 7, 3) := by decide +kernel
theorem d_Md_set_21 : decode prog_9_method_9_code 21 = .ok (.iconst 1, 1) := by decide +kernel
theorem d_Md_set_22 : decode prog_9_method_9_code 22 = .ok (.goto 4, 3) := by decide +kernel
theorem d_Md_set_26 : decode prog_9_method_9_code 26 = .ok (.iastore, 1) := by decide +kernel
theorem d_Md_set_27 : decode prog_9_method_9_code 27 = .ok (.aload_n 0, 1) := by decide +kernel
theorem d_Md_set_28 : decode prog_9_method_9_code 28 = .ok (.getfield 26, 3) := by decide +kernel
theorem d_Md_set_31 : decode prog_9_method_9_code 31 = .ok (.aload_n 0, 1) := by decide +kernel
theorem d_Md_set_32 : decode prog_9_method_9_code 32 = .ok (.getfield 60, 3) := by decide +kernel
theorem d_Md_set_35 : decode prog_9_method_9_code 35 = .ok (.iload_n 2, 1) := by decide +kernel
theorem d_Md_set_36 : decode prog_9_method_9_code 36 = .ok (.iastore, 1) := by decide +kernel
theorem d_Md_set_37 : decode prog_9_method_9_code 37 = .ok (.aload_n 0, 1) := by decide +kernel
theorem d_Md_set_38 : decode prog_9_method_9_code 38 = .ok (.dup, 1) := by decide +kernel
theorem d_Md_set_39 : decode prog_9_method_9_code 39 = .ok (.getfield 60, 3) := by decide +kernel
theorem d_Md_set_42 : decode prog_9_method_9_code 42 = .ok (.iconst 1, 1) := by decide +kernel
theorem d_Md_set_43 : decode prog_9_method_9_code 43 = .ok (.iadd, 1) := by decide +kernel
theorem d_Md_set_44 : decode prog_9_method_9_code 44 = .ok (.putfield 60, 3) := by decide +kernel
theorem d_Md_set_47 : decode prog_9_method_9_code 47 = .ok (.return_, 1) := by decide +kernel
theorem d_Md_set_4 : decode prog_9_method_9_code 4 = .ok (.iconst 0, 1) := by decide +kernel
theorem d_Md_set_5 : decode prog_9_method_9_code 5 = .ok (.iload_n 1, 1) := by decide +kernel
theorem d_Md_set_6 : decode prog_9_method_9_code 6 = .ok (.isub, 1) := by decide +kernel
theorem d_Md_set_7 : decode prog_9_method_9_code 7 = .ok (.goto 4, 3) := by decide +kernel
theorem d_Md_set_25 : decode prog_9_method_9_code 25 = .ok (.iconst 0, 1) := by decide +kernel
def Dx : Type := (Nat → Int32) × (Nat → Int32) × (Nat → Int32) × (Nat → Int32) × (Nat → Int32) × (Nat → Int32) × (Nat → Int32) × (Nat → Int32) × (Nat) × (Nat) × (Nat) × (Nat) × (Nat) × (Int32) × (Int32) × (Nat → Nat)
def Dx.lt (a : Dx) : Nat → Int32 := a.1
def Dx.fs (a : Dx) : Nat → Int32 := a.2.1
def Dx.rw (a : Dx) : Nat → Int32 := a.2.2.1
def Dx.am (a : Dx) : Nat → Int32 := a.2.2.2.1
def Dx.wv (a : Dx) : Nat → Int32 := a.2.2.2.2.1
def Dx.tl (a : Dx) : Nat → Int32 := a.2.2.2.2.2.1
def Dx.ch (a : Dx) : Nat → Int32 := a.2.2.2.2.2.2.1
def Dx.mk (a : Dx) : Nat → Int32 := a.2.2.2.2.2.2.2.1
def Dx.vc (a : Dx) : Nat := a.2.2.2.2.2.2.2.2.1
def Dx.cl (a : Dx) : Nat := a.2.2.2.2.2.2.2.2.2.1
def Dx.gv (a : Dx) : Nat := a.2.2.2.2.2.2.2.2.2.2.1
def Dx.na (a : Dx) : Nat := a.2.2.2.2.2.2.2.2.2.2.2.1
def Dx.ln (a : Dx) : Nat := a.2.2.2.2.2.2.2.2.2.2.2.2.1
def Dx.sd (a : Dx) : Int32 := a.2.2.2.2.2.2.2.2.2.2.2.2.2.1
def Dx.cd (a : Dx) : Int32 := a.2.2.2.2.2.2.2.2.2.2.2.2.2.2.1
def Dx.X (a : Dx) : Nat → Nat := a.2.2.2.2.2.2.2.2.2.2.2.2.2.2.2
def Dx.of (lt : Nat → Int32) (fs : Nat → Int32) (rw : Nat → Int32) (am : Nat → Int32) (wv : Nat → Int32) (tl : Nat → Int32) (ch : Nat → Int32) (mk : Nat → Int32) (vc : Nat) (cl : Nat) (gv : Nat) (na : Nat) (ln : Nat) (sd : Int32) (cd : Int32) (X : Nat → Nat) : Dx := (lt, fs, rw, am, wv, tl, ch, mk, vc, cl, gv, na, ln, sd, cd, X)
/-- the model's trail -/
def Mok (o : Dx) : Prop := (∀ p, p < o.ln → o.tl p = nI (o.X p) ∧ 1 ≤ o.X p ∧ o.X p ≤ 400) ∧ (∀ p q, p < o.ln → q < o.ln → o.X p = o.X q → p = q) ∧ (∀ v, 1 ≤ v → v ≤ 400 → o.wv v = -1 ∨ ((o.wv v = 0 ∨ o.wv v = 1) ∧ ∃ p, p < o.ln ∧ o.X p = v)) ∧ (∀ p, p < o.ln → o.wv (o.X p) ≠ -1)
theorem Mok.tl {o : Dx} (h : Mok o) : ∀ p, p < o.ln → o.tl p = nI (o.X p) ∧ 1 ≤ o.X p ∧ o.X p ≤ 400 := h.1
theorem Mok.ds {o : Dx} (h : Mok o) : ∀ p q, p < o.ln → q < o.ln → o.X p = o.X q → p = q := h.2.1
theorem Mok.wv {o : Dx} (h : Mok o) : ∀ v, 1 ≤ v → v ≤ 400 → o.wv v = -1 ∨ ((o.wv v = 0 ∨ o.wv v = 1) ∧ ∃ p, p < o.ln ∧ o.X p = v) := h.2.2.1
theorem Mok.kn {o : Dx} (h : Mok o) : ∀ p, p < o.ln → o.wv (o.X p) ≠ -1 := h.2.2.2
theorem Mok.ln {o : Dx} (h : Mok o) : o.ln ≤ 400 := by
  have := pg 400 o.ln (fun p => o.X p - 1) (fun p hp => by have := (h.tl p hp).2; show o.X p - 1 < 400; omega) (fun p q hp hq e => h.ds p q hp hq (by
    have e : o.X p - 1 = o.X q - 1 := e
    have := (h.tl p hp).2; have := (h.tl q hq).2; omega))
  exact this
theorem Mok.pop {o : Dx} {n0 : Nat} {g : Nat → Int32} (h : Mok (Dx.of o.lt o.fs o.rw o.am g o.tl o.ch o.mk o.vc o.cl o.gv o.na (n0 + 1) o.sd o.cd o.X)) : Mok (Dx.of o.lt o.fs o.rw o.am (upd g (o.X n0) (-1)) o.tl o.ch o.mk o.vc o.cl o.gv o.na n0 o.sd o.cd o.X) := by
  refine ⟨fun p hp => h.tl p (Nat.lt_succ_of_lt hp), fun p q hp hq e => h.ds p q (Nat.lt_succ_of_lt hp) (Nat.lt_succ_of_lt hq) e, fun v v1 v2 => ?_, fun p hp => ?_⟩
  · show upd g (o.X n0) (-1) v = -1 ∨ ((upd g (o.X n0) (-1) v = 0 ∨ upd g (o.X n0) (-1) v = 1) ∧ ∃ p, p < n0 ∧ o.X p = v)
    by_cases hv : v = o.X n0
    · rw [hv, pk_us]; exact Or.inl rfl
    · rw [pk_un hv]
      rcases h.wv v v1 v2 with q | ⟨q1, p, p1, p2⟩
      · exact Or.inl q
      · have p1 : p < n0 + 1 := p1
        have p2 : o.X p = v := p2
        refine Or.inr ⟨q1, p, ?_, p2⟩
        rcases Nat.lt_or_eq_of_le (Nat.le_of_lt_succ p1) with q | q
        · exact q
        · subst q; exact absurd p2.symm hv
  · have hp : p < n0 := hp
    show upd g (o.X n0) (-1) (o.X p) ≠ -1
    rw [pk_un (fun e => by have := h.ds p n0 (Nat.lt_succ_of_lt hp) (Nat.lt_succ_self _) e; omega)]
    exact h.kn p (Nat.lt_succ_of_lt hp)
theorem Mok.set {o : Dx} {v : Nat} {b : Int32} (h : Mok o) (h1 : 1 ≤ v) (h2 : v ≤ 400) (h3 : o.wv v = -1) (hb : b = 0 ∨ b = 1) : Mok (Dx.of o.lt o.fs o.rw o.am (upd o.wv v b) (upd o.tl o.ln (nI v)) o.ch o.mk o.vc o.cl o.gv o.na (o.ln + 1) o.sd o.cd (upN o.X o.ln v)) := by
  have hn : ∀ p, p < o.ln → o.X p ≠ v := fun p hp e => h.kn p hp (by rw [e]; exact h3)
  have hX : ∀ p, p < o.ln → upN o.X o.ln v p = o.X p := fun p hp => upN_n (by omega)
  refine ⟨fun p hp => ?_, fun p q hp hq e => ?_, fun x x1 x2 => ?_, fun p hp => ?_⟩
  · have hp : p < o.ln + 1 := hp
    show upd o.tl o.ln (nI v) p = nI (upN o.X o.ln v p) ∧ 1 ≤ upN o.X o.ln v p ∧ upN o.X o.ln v p ≤ 400
    by_cases hq : p = o.ln
    · rw [hq, pk_us, upN_s]; exact ⟨rfl, h1, h2⟩
    · rw [pk_un hq, hX p (by omega)]; exact h.tl p (by omega)
  · have hp : p < o.ln + 1 := hp
    have hq : q < o.ln + 1 := hq
    have e : upN o.X o.ln v p = upN o.X o.ln v q := e
    by_cases a1 : p = o.ln <;> by_cases a2 : q = o.ln
    · omega
    · rw [a1, upN_s, hX q (by omega)] at e; exact absurd e.symm (hn q (by omega))
    · rw [a2, upN_s, hX p (by omega)] at e; exact absurd e (hn p (by omega))
    · rw [hX p (by omega), hX q (by omega)] at e; exact h.ds p q (by omega) (by omega) e
  · show upd o.wv v b x = -1 ∨ ((upd o.wv v b x = 0 ∨ upd o.wv v b x = 1) ∧ ∃ p, p < o.ln + 1 ∧ upN o.X o.ln v p = x)
    by_cases hx : x = v
    · rw [hx, pk_us]; exact Or.inr ⟨hb, o.ln, Nat.lt_succ_self _, upN_s⟩
    · rw [pk_un hx]
      rcases h.wv x x1 x2 with q | ⟨q1, p, p1, p2⟩
      · exact Or.inl q
      · exact Or.inr ⟨q1, p, Nat.lt_succ_of_lt p1, by rw [hX p p1]; exact p2⟩
  · have hp : p < o.ln + 1 := hp
    show upd o.wv v b (upN o.X o.ln v p) ≠ -1
    by_cases hq : p = o.ln
    · rw [hq, upN_s, pk_us]; rcases hb with q | q <;> subst q <;> decide
    · rw [hX p (by omega), pk_un (hn p (by omega))]; exact h.kn p (by omega)
set_option maxHeartbeats 4000000 in
set_option maxRecDepth 100000 in
/-- set(v), v above 0 -/
theorem c_Md_set_p (l : Launch) (dC : Nat → ClassId) (dI : Nat → Nat → Nat) (e0 : Nat) (e1 : Nat) (e2 : Nat) (e3 : Nat) (e4 : Nat) (e5 : Nat) (e6 : Nat) (e7 : Nat) (e8 : Nat) (c5 : ClassId) (c6 : ClassId) (sz : Nat) (o : Dx) (v0 : Nat) (hv1 : 1 ≤ v0) (hv2 : v0 ≤ 400) (hln : o.ln < 401) : Met l y_Md_set (wq y_Md_set prog_9_method_9_code 3 none) ({ frames := 0, cells := 0, slots := 0, locals := 0 }) (va_Pc [.ref e0, .int (nI v0)] (fun U => U.heap.size = sz ∧ va_P (dC, dI) vwCl [(e0, .inr (7, [.ref e1, .ref e2, .ref e3, .ref e4, .ref e5, .int (nI o.vc), .int (nI o.cl), .int (nI o.gv), .int (nI o.na), .int o.sd, .int o.cd, .ref e6, .int (nI o.ln), .ref e7, .ref e8])), (e5, .inl (c5, 401, .inl o.wv)), (e6, .inl (c6, 401, .inl o.tl))] U.heap ∧ va_K (dC, dI) vwCl [(c5, .int), (c6, .int)] U ∧ va_D (fun _ => True) [(e0, .inr (7, [.ref e1, .ref e2, .ref e3, .ref e4, .ref e5, .int (nI o.vc), .int (nI o.cl), .int (nI o.gv), .int (nI o.na), .int o.sd, .int o.cd, .ref e6, .int (nI o.ln), .ref e7, .ref e8])), (e5, .inl (c5, 401, .inl o.wv)), (e6, .inl (c6, 401, .inl o.tl))])) (va_Qv (fun _ : Unit => True) (fun (_ : Unit) t => va_P (dC, dI) vwCl [(e0, .inr (7, [.ref e1, .ref e2, .ref e3, .ref e4, .ref e5, .int (nI o.vc), .int (nI o.cl), .int (nI o.gv), .int (nI o.na), .int o.sd, .int o.cd, .ref e6, .int (nI (o.ln + 1)), .ref e7, .ref e8])), (e5, .inl (c5, 401, .inl (upd o.wv v0 1))), (e6, .inl (c6, 401, .inl (upd o.tl o.ln (nI v0))))] t.heap ∧ va_K (dC, dI) vwCl [(c5, .int), (c6, .int)] t ∧ va_D (va_A [(e0, .inr (7, [.ref e1, .ref e2, .ref e3, .ref e4, .ref e5, .int (nI o.vc), .int (nI o.cl), .int (nI o.gv), .int (nI o.na), .int o.sd, .int o.cd, .ref e6, .int (nI o.ln), .ref e7, .ref e8])), (e5, .inl (c5, 401, .inl o.wv)), (e6, .inl (c6, 401, .inl o.tl))] sz) [(e0, .inr (7, [.ref e1, .ref e2, .ref e3, .ref e4, .ref e5, .int (nI o.vc), .int (nI o.cl), .int (nI o.gv), .int (nI o.na), .int o.sd, .int o.cd, .ref e6, .int (nI (o.ln + 1)), .ref e7, .ref e8])), (e5, .inl (c5, 401, .inl (upd o.wv v0 1))), (e6, .inl (c6, 401, .inl (upd o.tl o.ln (nI v0))))]) (va_A [(e0, .inr (7, [.ref e1, .ref e2, .ref e3, .ref e4, .ref e5, .int (nI o.vc), .int (nI o.cl), .int (nI o.gv), .int (nI o.na), .int o.sd, .int o.cd, .ref e6, .int (nI o.ln), .ref e7, .ref e8])), (e5, .inl (c5, 401, .inl o.wv)), (e6, .inl (c6, 401, .inl o.tl))] sz)) (0) (0) (va_A [(e0, .inr (7, [.ref e1, .ref e2, .ref e3, .ref e4, .ref e5, .int (nI o.vc), .int (nI o.cl), .int (nI o.gv), .int (nI o.na), .int o.sd, .int o.cd, .ref e6, .int (nI o.ln), .ref e7, .ref e8])), (e5, .inl (c5, 401, .inl o.wv)), (e6, .inl (c6, 401, .inl o.tl))] sz) := by
  refine Met.ofW (cc := prog_9_method_9_code) (maxL := 3) (ret := none) (by decide) rfl ?_
  intro p e s m args below meth c s₁ B hml hv
  obtain ⟨rfl, hsz, hP, hK, hD0⟩ := hv
  have hx := B.exec
  have hb := B.bytes
  have hr := B.returns
  have hw : ∀ w ∈ bg_W, w.before #[Value.ref e0, Value.int (nI v0)] s = true := fun w h => atoms_spec (ws := (wq y_Md_set prog_9_method_9_code 3 none)) B.pre w (List.mem_cons_of_mem _ h)
  have hown : s.vm.findClass R_Md = some m.cls := findClass_of_methodNamed B.named
  have hlocks := B.notSynchronized
  subst hsz
  have hD := hD0.self (sz := s.heap.size)
  generalize hAe : va_A [(e0, .inr (7, [.ref e1, .ref e2, .ref e3, .ref e4, .ref e5, .int (nI o.vc), .int (nI o.cl), .int (nI o.gv), .int (nI o.na), .int o.sd, .int o.cd, .ref e6, .int (nI o.ln), .ref e7, .ref e8])), (e5, .inl (c5, 401, .inl o.wv)), (e6, .inl (c6, 401, .inl o.tl))] s.heap.size = A at hD ⊢
  have hA : ∀ q : Nat, s.heap.size ≤ q → A q := fun q h => by rw [← hAe]; exact Or.inr h
  have hS : va_S A s.heap s.heap [] := va_S.rf
  have hP : va_P (dC, dI) vwCl [(e0, .inr (7, [.ref e1, .ref e2, .ref e3, .ref e4, .ref e5, .int (nI o.vc), .int (nI o.cl), .int (nI o.gv), .int (nI o.na), .int o.sd, .int o.cd, .ref e6, .int (nI o.ln), .ref e7, .ref e8])), (e5, .inl (c5, 401, .inl o.wv)), (e6, .inl (c6, 401, .inl o.tl))] s.heap := hP
  have hl := lv_entry ([.ref e0, .int (nI v0)]) (n := 3) (Nat.le_of_ble_eq_true rfl)
  rw [lg_entry_eq]
  generalize (lg_sl ([.ref e0, .int (nI v0)]) ++ List.replicate (3 - (lg_sl ([.ref e0, .int (nI v0)])).length) Slot.unset).toArray = ls at hl ⊢
  have hl : lv_has ls 3 [(0, .ref e0), (1, .int (nI v0))] := hl
  obtain ⟨H, hH⟩ : ∃ H : Heap, H = s.heap := ⟨_, rfl⟩
  rw [← hH] at hP
  have hS : va_S A s.heap H [] := by rw [hH]; exact va_S.rf
  show W p l e _ s m _ below meth c s.heap [] 0 0 _ _
  rw [← hH]
  refine lv_iload_n hx hb d_Md_set_0 rfl (lv_at hl 1 rfl) ?_
  refine lv_if_ge (tgt := 10) hx hb d_Md_set_1 (by decide) (fun c_1 => ?_) (fun c_1 => by exfalso; have c_1 : ¬ (0 ≤ v0) := fun qq9 => c_1 ((nI_leI (a := 0) (b := v0) (by omega) (by omega)).mpr qq9); omega)
  have c_1 : 0 ≤ v0 := (nI_leI (a := 0) (b := v0) (by omega) (by omega)).mp c_1
  refine lv_iload_n hx hb d_Md_set_10 rfl (lv_at hl 1 rfl) ?_
  refine lv_istore_n (lv' := [(2, .int (nI v0)), (0, .ref e0), (1, .int (nI v0))]) hx hb d_Md_set_11 rfl hl (by decide) rfl (fun ls hl => ?_)
  refine lv_aload_n hx hb d_Md_set_12 rfl (lv_at hl 1 rfl) ?_
  refine va_get (D := (dC, dI)) (ci := 7) (v := .ref e5) (C := R_Md) (T := F_Md) (N := 15) hx hb hw in_Md hown hK hP 0 rfl rfl 4 (by decide) (hw (Cond.fieldLink "ClauseSearchModel" 23 "ClauseSearchModel" "way" "[I") k_608) (fun _ h9 => h9) rfl d_Md_set_13 ?_
  refine lv_iload_n hx hb d_Md_set_16 rfl (lv_at hl 0 rfl) ?_
  refine lv_iload_n hx hb d_Md_set_17 rfl (lv_at hl 2 rfl) ?_
  refine lv_if_le (tgt := 25) hx hb d_Md_set_18 (by decide) (fun c_18 => by exfalso; have c_18 : v0 ≤ 0 := (nI_leI (a := v0) (b := 0) (by omega) (by omega)).mp c_18; omega) (fun c_18 => ?_)
  have c_18 : ¬ (v0 ≤ 0) := fun qq9 => c_18 ((nI_leI (a := v0) (b := 0) (by omega) (by omega)).mpr qq9)
  refine lv_iconst (v := 1) hx hb d_Md_set_21 (by decide) ?_
  refine lv_goto (tgt := 26) hx hb d_Md_set_22 (by decide) ?_
  refine va_iast hx hb hK hP hD hS 1 0 rfl rfl (vp_in_nI (by omega) (by omega)) d_Md_set_26 (fun H locs hP hD hS => ?_)
  rw [nI_clamp (n := v0) (by omega)] at hP hD
  have hP : va_P (dC, dI) vwCl [(e0, .inr (7, [.ref e1, .ref e2, .ref e3, .ref e4, .ref e5, .int (nI o.vc), .int (nI o.cl), .int (nI o.gv), .int (nI o.na), .int o.sd, .int o.cd, .ref e6, .int (nI o.ln), .ref e7, .ref e8])), (e5, .inl (c5, 401, .inl (upd o.wv v0 1))), (e6, .inl (c6, 401, .inl o.tl))] H := hP
  have hD : va_D A [(e0, .inr (7, [.ref e1, .ref e2, .ref e3, .ref e4, .ref e5, .int (nI o.vc), .int (nI o.cl), .int (nI o.gv), .int (nI o.na), .int o.sd, .int o.cd, .ref e6, .int (nI o.ln), .ref e7, .ref e8])), (e5, .inl (c5, 401, .inl (upd o.wv v0 1))), (e6, .inl (c6, 401, .inl o.tl))] := hD
  refine lv_aload_n hx hb d_Md_set_27 rfl (lv_at hl 1 rfl) ?_
  refine va_get (D := (dC, dI)) (ci := 7) (v := .ref e6) (C := R_Md) (T := F_Md) (N := 15) hx hb hw in_Md hown hK hP 0 rfl rfl 11 (by decide) (hw (Cond.fieldLink "ClauseSearchModel" 26 "ClauseSearchModel" "trail" "[I") k_615) (fun _ h9 => h9) rfl d_Md_set_28 ?_
  refine lv_aload_n hx hb d_Md_set_31 rfl (lv_at hl 1 rfl) ?_
  refine va_get (D := (dC, dI)) (ci := 7) (v := .int (nI o.ln)) (C := R_Md) (T := F_Md) (N := 15) hx hb hw in_Md hown hK hP 0 rfl rfl 12 (by decide) (hw (Cond.fieldLink "ClauseSearchModel" 60 "ClauseSearchModel" "length" "I") k_616) (fun _ h9 => h9) rfl d_Md_set_32 ?_
  refine lv_iload_n hx hb d_Md_set_35 rfl (lv_at hl 0 rfl) ?_
  refine va_iast hx hb hK hP hD hS 2 1 rfl rfl (vp_in_nI (by omega) (by omega)) d_Md_set_36 (fun H locs hP hD hS => ?_)
  rw [nI_clamp (n := o.ln) (by omega)] at hP hD
  have hP : va_P (dC, dI) vwCl [(e0, .inr (7, [.ref e1, .ref e2, .ref e3, .ref e4, .ref e5, .int (nI o.vc), .int (nI o.cl), .int (nI o.gv), .int (nI o.na), .int o.sd, .int o.cd, .ref e6, .int (nI o.ln), .ref e7, .ref e8])), (e5, .inl (c5, 401, .inl (upd o.wv v0 1))), (e6, .inl (c6, 401, .inl (upd o.tl o.ln (nI v0))))] H := hP
  have hD : va_D A [(e0, .inr (7, [.ref e1, .ref e2, .ref e3, .ref e4, .ref e5, .int (nI o.vc), .int (nI o.cl), .int (nI o.gv), .int (nI o.na), .int o.sd, .int o.cd, .ref e6, .int (nI o.ln), .ref e7, .ref e8])), (e5, .inl (c5, 401, .inl (upd o.wv v0 1))), (e6, .inl (c6, 401, .inl (upd o.tl o.ln (nI v0))))] := hD
  refine lv_aload_n hx hb d_Md_set_37 rfl (lv_at hl 1 rfl) ?_
  refine lv_dup hx hb d_Md_set_38 rfl ?_
  refine va_get (D := (dC, dI)) (ci := 7) (v := .int (nI o.ln)) (C := R_Md) (T := F_Md) (N := 15) hx hb hw in_Md hown hK hP 0 rfl rfl 12 (by decide) (hw (Cond.fieldLink "ClauseSearchModel" 60 "ClauseSearchModel" "length" "I") k_616) (fun _ h9 => h9) rfl d_Md_set_39 ?_
  refine lv_iconst (v := nI 1) hx hb d_Md_set_42 (by decide) ?_
  refine lv_iadd hx hb d_Md_set_43 ?_
  refine lv_topi (fun y_1 ey_1 => ?_)
  obtain rfl : y_1 = nI (o.ln + 1) := ey_1.trans (nI_add o.ln 1)
  refine va_put (D := (dC, dI)) (ci := 7) (v := .int (nI (o.ln + 1))) (ty := .int) (C := R_Md) (T := F_Md) (N := 15) hx hb hw in_Md t_Md t_Md_ok n_Md hown hK hP hD hS 0 rfl rfl 12 (by decide) (hw (Cond.fieldLink "ClauseSearchModel" 60 "ClauseSearchModel" "length" "I") k_616) (fun _ h9 => h9) rfl (by decide +kernel) rfl rfl (Nat.le_of_ble_eq_true rfl) d_Md_set_44 (fun H locs hP hD hS => ?_)
  have hP : va_P (dC, dI) vwCl [(e0, .inr (7, [.ref e1, .ref e2, .ref e3, .ref e4, .ref e5, .int (nI o.vc), .int (nI o.cl), .int (nI o.gv), .int (nI o.na), .int o.sd, .int o.cd, .ref e6, .int (nI (o.ln + 1)), .ref e7, .ref e8])), (e5, .inl (c5, 401, .inl (upd o.wv v0 1))), (e6, .inl (c6, 401, .inl (upd o.tl o.ln (nI v0))))] H := hP
  have hD : va_D A [(e0, .inr (7, [.ref e1, .ref e2, .ref e3, .ref e4, .ref e5, .int (nI o.vc), .int (nI o.cl), .int (nI o.gv), .int (nI o.na), .int o.sd, .int o.cd, .ref e6, .int (nI (o.ln + 1)), .ref e7, .ref e8])), (e5, .inl (c5, 401, .inl (upd o.wv v0 1))), (e6, .inl (c6, 401, .inl (upd o.tl o.ln (nI v0))))] := hD
  have hK := hK.sub (tys' := [(c5, .int), (c6, .int)]) [0, 1] rfl
  refine W.widen (k := 0) (n := 0) (by decide) (by decide) ?_
  exact W.vret hx hb hr (fun t ht hW => ⟨⟨(), rfl, trivial, by rw [ht]; exact hP, va_K.moved hW.alike hK, hD⟩, hS.F ht⟩) hS.2.2 d_Md_set_47

set_option maxHeartbeats 4000000 in
set_option maxRecDepth 100000 in
/-- set(-v), v above 0 -/
theorem c_Md_set_n (l : Launch) (dC : Nat → ClassId) (dI : Nat → Nat → Nat) (e0 : Nat) (e1 : Nat) (e2 : Nat) (e3 : Nat) (e4 : Nat) (e5 : Nat) (e6 : Nat) (e7 : Nat) (e8 : Nat) (c5 : ClassId) (c6 : ClassId) (sz : Nat) (o : Dx) (v0 : Nat) (hv1 : 1 ≤ v0) (hv2 : v0 ≤ 400) (hln : o.ln < 401) : Met l y_Md_set (wq y_Md_set prog_9_method_9_code 3 none) ({ frames := 0, cells := 0, slots := 0, locals := 0 }) (va_Pc [.ref e0, .int (ng v0)] (fun U => U.heap.size = sz ∧ va_P (dC, dI) vwCl [(e0, .inr (7, [.ref e1, .ref e2, .ref e3, .ref e4, .ref e5, .int (nI o.vc), .int (nI o.cl), .int (nI o.gv), .int (nI o.na), .int o.sd, .int o.cd, .ref e6, .int (nI o.ln), .ref e7, .ref e8])), (e5, .inl (c5, 401, .inl o.wv)), (e6, .inl (c6, 401, .inl o.tl))] U.heap ∧ va_K (dC, dI) vwCl [(c5, .int), (c6, .int)] U ∧ va_D (fun _ => True) [(e0, .inr (7, [.ref e1, .ref e2, .ref e3, .ref e4, .ref e5, .int (nI o.vc), .int (nI o.cl), .int (nI o.gv), .int (nI o.na), .int o.sd, .int o.cd, .ref e6, .int (nI o.ln), .ref e7, .ref e8])), (e5, .inl (c5, 401, .inl o.wv)), (e6, .inl (c6, 401, .inl o.tl))])) (va_Qv (fun _ : Unit => True) (fun (_ : Unit) t => va_P (dC, dI) vwCl [(e0, .inr (7, [.ref e1, .ref e2, .ref e3, .ref e4, .ref e5, .int (nI o.vc), .int (nI o.cl), .int (nI o.gv), .int (nI o.na), .int o.sd, .int o.cd, .ref e6, .int (nI (o.ln + 1)), .ref e7, .ref e8])), (e5, .inl (c5, 401, .inl (upd o.wv v0 0))), (e6, .inl (c6, 401, .inl (upd o.tl o.ln (nI v0))))] t.heap ∧ va_K (dC, dI) vwCl [(c5, .int), (c6, .int)] t ∧ va_D (va_A [(e0, .inr (7, [.ref e1, .ref e2, .ref e3, .ref e4, .ref e5, .int (nI o.vc), .int (nI o.cl), .int (nI o.gv), .int (nI o.na), .int o.sd, .int o.cd, .ref e6, .int (nI o.ln), .ref e7, .ref e8])), (e5, .inl (c5, 401, .inl o.wv)), (e6, .inl (c6, 401, .inl o.tl))] sz) [(e0, .inr (7, [.ref e1, .ref e2, .ref e3, .ref e4, .ref e5, .int (nI o.vc), .int (nI o.cl), .int (nI o.gv), .int (nI o.na), .int o.sd, .int o.cd, .ref e6, .int (nI (o.ln + 1)), .ref e7, .ref e8])), (e5, .inl (c5, 401, .inl (upd o.wv v0 0))), (e6, .inl (c6, 401, .inl (upd o.tl o.ln (nI v0))))]) (va_A [(e0, .inr (7, [.ref e1, .ref e2, .ref e3, .ref e4, .ref e5, .int (nI o.vc), .int (nI o.cl), .int (nI o.gv), .int (nI o.na), .int o.sd, .int o.cd, .ref e6, .int (nI o.ln), .ref e7, .ref e8])), (e5, .inl (c5, 401, .inl o.wv)), (e6, .inl (c6, 401, .inl o.tl))] sz)) (0) (0) (va_A [(e0, .inr (7, [.ref e1, .ref e2, .ref e3, .ref e4, .ref e5, .int (nI o.vc), .int (nI o.cl), .int (nI o.gv), .int (nI o.na), .int o.sd, .int o.cd, .ref e6, .int (nI o.ln), .ref e7, .ref e8])), (e5, .inl (c5, 401, .inl o.wv)), (e6, .inl (c6, 401, .inl o.tl))] sz) := by
  refine Met.ofW (cc := prog_9_method_9_code) (maxL := 3) (ret := none) (by decide) rfl ?_
  intro p e s m args below meth c s₁ B hml hv
  obtain ⟨rfl, hsz, hP, hK, hD0⟩ := hv
  have hx := B.exec
  have hb := B.bytes
  have hr := B.returns
  have hw : ∀ w ∈ bg_W, w.before #[Value.ref e0, Value.int (ng v0)] s = true := fun w h => atoms_spec (ws := (wq y_Md_set prog_9_method_9_code 3 none)) B.pre w (List.mem_cons_of_mem _ h)
  have hown : s.vm.findClass R_Md = some m.cls := findClass_of_methodNamed B.named
  have hlocks := B.notSynchronized
  subst hsz
  have hD := hD0.self (sz := s.heap.size)
  generalize hAe : va_A [(e0, .inr (7, [.ref e1, .ref e2, .ref e3, .ref e4, .ref e5, .int (nI o.vc), .int (nI o.cl), .int (nI o.gv), .int (nI o.na), .int o.sd, .int o.cd, .ref e6, .int (nI o.ln), .ref e7, .ref e8])), (e5, .inl (c5, 401, .inl o.wv)), (e6, .inl (c6, 401, .inl o.tl))] s.heap.size = A at hD ⊢
  have hA : ∀ q : Nat, s.heap.size ≤ q → A q := fun q h => by rw [← hAe]; exact Or.inr h
  have hS : va_S A s.heap s.heap [] := va_S.rf
  have hP : va_P (dC, dI) vwCl [(e0, .inr (7, [.ref e1, .ref e2, .ref e3, .ref e4, .ref e5, .int (nI o.vc), .int (nI o.cl), .int (nI o.gv), .int (nI o.na), .int o.sd, .int o.cd, .ref e6, .int (nI o.ln), .ref e7, .ref e8])), (e5, .inl (c5, 401, .inl o.wv)), (e6, .inl (c6, 401, .inl o.tl))] s.heap := hP
  have hl := lv_entry ([.ref e0, .int (ng v0)]) (n := 3) (Nat.le_of_ble_eq_true rfl)
  rw [lg_entry_eq]
  generalize (lg_sl ([.ref e0, .int (ng v0)]) ++ List.replicate (3 - (lg_sl ([.ref e0, .int (ng v0)])).length) Slot.unset).toArray = ls at hl ⊢
  have hl : lv_has ls 3 [(0, .ref e0), (1, .int (ng v0))] := hl
  obtain ⟨H, hH⟩ : ∃ H : Heap, H = s.heap := ⟨_, rfl⟩
  rw [← hH] at hP
  have hS : va_S A s.heap H [] := by rw [hH]; exact va_S.rf
  show W p l e _ s m _ below meth c s.heap [] 0 0 _ _
  rw [← hH]
  refine lv_iload_n hx hb d_Md_set_0 rfl (lv_at hl 1 rfl) ?_
  refine lv_if_ge (tgt := 10) hx hb d_Md_set_1 (by decide) (fun c_1 => absurd c_1 (Int32.not_le.mpr (ng_lt hv1 hv2))) (fun c_1 => ?_)
  refine lv_iconst (v := nI 0) hx hb d_Md_set_4 (by decide) ?_
  refine lv_iload_n hx hb d_Md_set_5 rfl (lv_at hl 1 rfl) ?_
  refine lv_isub hx hb d_Md_set_6 ?_
  refine lv_topi (fun y_1 ey_1 => ?_)
  obtain rfl : y_1 = nI v0 := ey_1.trans (ng_sub v0)
  refine lv_goto (tgt := 11) hx hb d_Md_set_7 (by decide) ?_
  refine lv_istore_n (lv' := [(2, .int (nI v0)), (0, .ref e0), (1, .int (ng v0))]) hx hb d_Md_set_11 rfl hl (by decide) rfl (fun ls hl => ?_)
  refine lv_aload_n hx hb d_Md_set_12 rfl (lv_at hl 1 rfl) ?_
  refine va_get (D := (dC, dI)) (ci := 7) (v := .ref e5) (C := R_Md) (T := F_Md) (N := 15) hx hb hw in_Md hown hK hP 0 rfl rfl 4 (by decide) (hw (Cond.fieldLink "ClauseSearchModel" 23 "ClauseSearchModel" "way" "[I") k_608) (fun _ h9 => h9) rfl d_Md_set_13 ?_
  refine lv_iload_n hx hb d_Md_set_16 rfl (lv_at hl 0 rfl) ?_
  refine lv_iload_n hx hb d_Md_set_17 rfl (lv_at hl 2 rfl) ?_
  refine lv_if_le (tgt := 25) hx hb d_Md_set_18 (by decide) (fun c_18 => ?_) (fun c_18 => absurd c_18 (fun q => q (Int32.le_of_lt (ng_lt hv1 hv2))))
  refine lv_iconst (v := 0) hx hb d_Md_set_25 (by decide) ?_
  refine va_iast hx hb hK hP hD hS 1 0 rfl rfl (vp_in_nI (by omega) (by omega)) d_Md_set_26 (fun H locs hP hD hS => ?_)
  rw [nI_clamp (n := v0) (by omega)] at hP hD
  have hP : va_P (dC, dI) vwCl [(e0, .inr (7, [.ref e1, .ref e2, .ref e3, .ref e4, .ref e5, .int (nI o.vc), .int (nI o.cl), .int (nI o.gv), .int (nI o.na), .int o.sd, .int o.cd, .ref e6, .int (nI o.ln), .ref e7, .ref e8])), (e5, .inl (c5, 401, .inl (upd o.wv v0 0))), (e6, .inl (c6, 401, .inl o.tl))] H := hP
  have hD : va_D A [(e0, .inr (7, [.ref e1, .ref e2, .ref e3, .ref e4, .ref e5, .int (nI o.vc), .int (nI o.cl), .int (nI o.gv), .int (nI o.na), .int o.sd, .int o.cd, .ref e6, .int (nI o.ln), .ref e7, .ref e8])), (e5, .inl (c5, 401, .inl (upd o.wv v0 0))), (e6, .inl (c6, 401, .inl o.tl))] := hD
  refine lv_aload_n hx hb d_Md_set_27 rfl (lv_at hl 1 rfl) ?_
  refine va_get (D := (dC, dI)) (ci := 7) (v := .ref e6) (C := R_Md) (T := F_Md) (N := 15) hx hb hw in_Md hown hK hP 0 rfl rfl 11 (by decide) (hw (Cond.fieldLink "ClauseSearchModel" 26 "ClauseSearchModel" "trail" "[I") k_615) (fun _ h9 => h9) rfl d_Md_set_28 ?_
  refine lv_aload_n hx hb d_Md_set_31 rfl (lv_at hl 1 rfl) ?_
  refine va_get (D := (dC, dI)) (ci := 7) (v := .int (nI o.ln)) (C := R_Md) (T := F_Md) (N := 15) hx hb hw in_Md hown hK hP 0 rfl rfl 12 (by decide) (hw (Cond.fieldLink "ClauseSearchModel" 60 "ClauseSearchModel" "length" "I") k_616) (fun _ h9 => h9) rfl d_Md_set_32 ?_
  refine lv_iload_n hx hb d_Md_set_35 rfl (lv_at hl 0 rfl) ?_
  refine va_iast hx hb hK hP hD hS 2 1 rfl rfl (vp_in_nI (by omega) (by omega)) d_Md_set_36 (fun H locs hP hD hS => ?_)
  rw [nI_clamp (n := o.ln) (by omega)] at hP hD
  have hP : va_P (dC, dI) vwCl [(e0, .inr (7, [.ref e1, .ref e2, .ref e3, .ref e4, .ref e5, .int (nI o.vc), .int (nI o.cl), .int (nI o.gv), .int (nI o.na), .int o.sd, .int o.cd, .ref e6, .int (nI o.ln), .ref e7, .ref e8])), (e5, .inl (c5, 401, .inl (upd o.wv v0 0))), (e6, .inl (c6, 401, .inl (upd o.tl o.ln (nI v0))))] H := hP
  have hD : va_D A [(e0, .inr (7, [.ref e1, .ref e2, .ref e3, .ref e4, .ref e5, .int (nI o.vc), .int (nI o.cl), .int (nI o.gv), .int (nI o.na), .int o.sd, .int o.cd, .ref e6, .int (nI o.ln), .ref e7, .ref e8])), (e5, .inl (c5, 401, .inl (upd o.wv v0 0))), (e6, .inl (c6, 401, .inl (upd o.tl o.ln (nI v0))))] := hD
  refine lv_aload_n hx hb d_Md_set_37 rfl (lv_at hl 1 rfl) ?_
  refine lv_dup hx hb d_Md_set_38 rfl ?_
  refine va_get (D := (dC, dI)) (ci := 7) (v := .int (nI o.ln)) (C := R_Md) (T := F_Md) (N := 15) hx hb hw in_Md hown hK hP 0 rfl rfl 12 (by decide) (hw (Cond.fieldLink "ClauseSearchModel" 60 "ClauseSearchModel" "length" "I") k_616) (fun _ h9 => h9) rfl d_Md_set_39 ?_
  refine lv_iconst (v := nI 1) hx hb d_Md_set_42 (by decide) ?_
  refine lv_iadd hx hb d_Md_set_43 ?_
  refine lv_topi (fun y_2 ey_2 => ?_)
  obtain rfl : y_2 = nI (o.ln + 1) := ey_2.trans (nI_add o.ln 1)
  refine va_put (D := (dC, dI)) (ci := 7) (v := .int (nI (o.ln + 1))) (ty := .int) (C := R_Md) (T := F_Md) (N := 15) hx hb hw in_Md t_Md t_Md_ok n_Md hown hK hP hD hS 0 rfl rfl 12 (by decide) (hw (Cond.fieldLink "ClauseSearchModel" 60 "ClauseSearchModel" "length" "I") k_616) (fun _ h9 => h9) rfl (by decide +kernel) rfl rfl (Nat.le_of_ble_eq_true rfl) d_Md_set_44 (fun H locs hP hD hS => ?_)
  have hP : va_P (dC, dI) vwCl [(e0, .inr (7, [.ref e1, .ref e2, .ref e3, .ref e4, .ref e5, .int (nI o.vc), .int (nI o.cl), .int (nI o.gv), .int (nI o.na), .int o.sd, .int o.cd, .ref e6, .int (nI (o.ln + 1)), .ref e7, .ref e8])), (e5, .inl (c5, 401, .inl (upd o.wv v0 0))), (e6, .inl (c6, 401, .inl (upd o.tl o.ln (nI v0))))] H := hP
  have hD : va_D A [(e0, .inr (7, [.ref e1, .ref e2, .ref e3, .ref e4, .ref e5, .int (nI o.vc), .int (nI o.cl), .int (nI o.gv), .int (nI o.na), .int o.sd, .int o.cd, .ref e6, .int (nI (o.ln + 1)), .ref e7, .ref e8])), (e5, .inl (c5, 401, .inl (upd o.wv v0 0))), (e6, .inl (c6, 401, .inl (upd o.tl o.ln (nI v0))))] := hD
  have hK := hK.sub (tys' := [(c5, .int), (c6, .int)]) [0, 1] rfl
  refine W.widen (k := 0) (n := 0) (by decide) (by decide) ?_
  exact W.vret hx hb hr (fun t ht hW => ⟨⟨(), rfl, trivial, by rw [ht]; exact hP, va_K.moved hW.alike hK, hD⟩, hS.F ht⟩) hS.2.2 d_Md_set_47
