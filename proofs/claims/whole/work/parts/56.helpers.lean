abbrev y_Lw_variables : MethodName := ⟨"ClauseSearchLaw", "variables", "(LClauseSearch;I[J)I"⟩
abbrev y_Lw_give : MethodName := ⟨"ClauseSearchLaw", "give", "(LClauseSearch;I[J)I"⟩
abbrev y_Lw_clause : MethodName := ⟨"ClauseSearchLaw", "clause", "(LClauseSearch;[J)I"⟩
abbrev y_Lw_value : MethodName := ⟨"ClauseSearchLaw", "value", "(LClauseSearch;I[J)I"⟩
abbrev y_Lw_count : MethodName := ⟨"ClauseSearchLaw", "count", "(LClauseSearch;I[J)I"⟩
theorem k_448 : (Cond.classLink "ClauseSearchLaw" 13 "java/lang/IllegalArgumentException") ∈ bg_W := bg_in 448 (by decide +kernel) (by decide +kernel)
theorem k_449 : (Cond.classLink "ClauseSearchLaw" 15 "java/lang/IndexOutOfBoundsException") ∈ bg_W := bg_in 449 (by decide +kernel) (by decide +kernel)
theorem k_450 : (Cond.methodLink "ClauseSearchLaw" 7 ⟨"ClauseSearch", "variables", "(I)I"⟩) ∈ bg_W := bg_in 450 (by decide +kernel) (by decide +kernel)
theorem k_451 : (Cond.instanceMethod ⟨"ClauseSearch", "variables", "(I)I"⟩) ∈ bg_W := bg_in 451 (by decide +kernel) (by decide +kernel)
theorem k_452 : (Cond.selects "ClauseSearch" ⟨"ClauseSearch", "variables", "(I)I"⟩ ⟨"ClauseSearch", "variables", "(I)I"⟩) ∈ bg_W := bg_in 452 (by decide +kernel) (by decide +kernel)
theorem k_456 : (Cond.castable "java/lang/IllegalArgumentException" "java/lang/IllegalArgumentException") ∈ bg_W := bg_in 456 (by decide +kernel) (by decide +kernel)
theorem k_523 : (Cond.castable "java/lang/IndexOutOfBoundsException" "java/lang/IndexOutOfBoundsException") ∈ bg_W := bg_in 523 (by decide +kernel) (by decide +kernel)
theorem k_540 : (Cond.methodLink "ClauseSearchLaw" 17 ⟨"ClauseSearch", "give", "(I)I"⟩) ∈ bg_W := bg_in 540 (by decide +kernel) (by decide +kernel)
theorem k_541 : (Cond.instanceMethod ⟨"ClauseSearch", "give", "(I)I"⟩) ∈ bg_W := bg_in 541 (by decide +kernel) (by decide +kernel)
theorem k_542 : (Cond.selects "ClauseSearch" ⟨"ClauseSearch", "give", "(I)I"⟩ ⟨"ClauseSearch", "give", "(I)I"⟩) ∈ bg_W := bg_in 542 (by decide +kernel) (by decide +kernel)
theorem k_549 : (Cond.classLink "ClauseSearchLaw" 24 "java/lang/IllegalStateException") ∈ bg_W := bg_in 549 (by decide +kernel) (by decide +kernel)
theorem k_550 : (Cond.methodLink "ClauseSearchLaw" 20 ⟨"ClauseSearch", "clause", "()I"⟩) ∈ bg_W := bg_in 550 (by decide +kernel) (by decide +kernel)
theorem k_551 : (Cond.instanceMethod ⟨"ClauseSearch", "clause", "()I"⟩) ∈ bg_W := bg_in 551 (by decide +kernel) (by decide +kernel)
theorem k_552 : (Cond.selects "ClauseSearch" ⟨"ClauseSearch", "clause", "()I"⟩ ⟨"ClauseSearch", "clause", "()I"⟩) ∈ bg_W := bg_in 552 (by decide +kernel) (by decide +kernel)
theorem k_556 : (Cond.castable "java/lang/IllegalStateException" "java/lang/IllegalStateException") ∈ bg_W := bg_in 556 (by decide +kernel) (by decide +kernel)
theorem k_583 : (Cond.methodLink "ClauseSearchLaw" 26 ⟨"ClauseSearch", "value", "(I)Z"⟩) ∈ bg_W := bg_in 583 (by decide +kernel) (by decide +kernel)
theorem k_584 : (Cond.instanceMethod ⟨"ClauseSearch", "value", "(I)Z"⟩) ∈ bg_W := bg_in 584 (by decide +kernel) (by decide +kernel)
theorem k_585 : (Cond.selects "ClauseSearch" ⟨"ClauseSearch", "value", "(I)Z"⟩ ⟨"ClauseSearch", "value", "(I)Z"⟩) ∈ bg_W := bg_in 585 (by decide +kernel) (by decide +kernel)
theorem k_592 : (Cond.methodLink "ClauseSearchLaw" 30 ⟨"ClauseSearch", "count", "(I)I"⟩) ∈ bg_W := bg_in 592 (by decide +kernel) (by decide +kernel)
theorem k_593 : (Cond.instanceMethod ⟨"ClauseSearch", "count", "(I)I"⟩) ∈ bg_W := bg_in 593 (by decide +kernel) (by decide +kernel)
theorem k_594 : (Cond.selects "ClauseSearch" ⟨"ClauseSearch", "count", "(I)I"⟩ ⟨"ClauseSearch", "count", "(I)I"⟩) ∈ bg_W := bg_in 594 (by decide +kernel) (by decide +kernel)
theorem d_Lw_variables_0 : decode method_3_code 0 = .ok (.aload_n 2, 1) := by decide +kernel
theorem d_Lw_variables_1 : decode method_3_code 1 = .ok (.iconst 0, 1) := by decide +kernel
theorem d_Lw_variables_2 : decode method_3_code 2 = .ok (.aload_n 0, 1) := by decide +kernel
theorem d_Lw_variables_3 : decode method_3_code 3 = .ok (.iload_n 1, 1) := by decide +kernel
theorem d_Lw_variables_4 : decode method_3_code 4 = .ok (.invokevirtual 7, 3) := by decide +kernel
theorem d_Lw_variables_12 : decode method_3_code 12 = .ok (.astore_n 3, 1) := by decide +kernel
theorem d_Lw_variables_13 : decode method_3_code 13 = .ok (.iconst 1, 1) := by decide +kernel
theorem d_Lw_variables_14 : decode method_3_code 14 = .ok (.ireturn, 1) := by decide +kernel
theorem d_Lw_give_0 : decode method_4_code 0 = .ok (.aload_n 2, 1) := by decide +kernel
theorem d_Lw_give_1 : decode method_4_code 1 = .ok (.iconst 0, 1) := by decide +kernel
theorem d_Lw_give_2 : decode method_4_code 2 = .ok (.aload_n 0, 1) := by decide +kernel
theorem d_Lw_give_3 : decode method_4_code 3 = .ok (.iload_n 1, 1) := by decide +kernel
theorem d_Lw_give_4 : decode method_4_code 4 = .ok (.invokevirtual 17, 3) := by decide +kernel
theorem d_Lw_give_12 : decode method_4_code 12 = .ok (.astore_n 3, 1) := by decide +kernel
theorem d_Lw_give_13 : decode method_4_code 13 = .ok (.iconst 1, 1) := by decide +kernel
theorem d_Lw_give_14 : decode method_4_code 14 = .ok (.ireturn, 1) := by decide +kernel
theorem d_Lw_clause_0 : decode method_5_code 0 = .ok (.aload_n 1, 1) := by decide +kernel
theorem d_Lw_clause_1 : decode method_5_code 1 = .ok (.iconst 0, 1) := by decide +kernel
theorem d_Lw_clause_2 : decode method_5_code 2 = .ok (.aload_n 0, 1) := by decide +kernel
theorem d_Lw_clause_3 : decode method_5_code 3 = .ok (.invokevirtual 20, 3) := by decide +kernel
theorem d_Lw_clause_11 : decode method_5_code 11 = .ok (.astore_n 2, 1) := by decide +kernel
theorem d_Lw_clause_12 : decode method_5_code 12 = .ok (.iconst 1, 1) := by decide +kernel
theorem d_Lw_clause_13 : decode method_5_code 13 = .ok (.ireturn, 1) := by decide +kernel
theorem d_Lw_value_0 : decode method_6_code 0 = .ok (.aload_n 2, 1) := by decide +kernel
theorem d_Lw_value_1 : decode method_6_code 1 = .ok (.iconst 0, 1) := by decide +kernel
theorem d_Lw_value_2 : decode method_6_code 2 = .ok (.aload_n 0, 1) := by decide +kernel
theorem d_Lw_value_3 : decode method_6_code 3 = .ok (.iload_n 1, 1) := by decide +kernel
theorem d_Lw_value_4 : decode method_6_code 4 = .ok (.invokevirtual 26, 3) := by decide +kernel
theorem d_Lw_value_19 : decode method_6_code 19 = .ok (.astore_n 3, 1) := by decide +kernel
theorem d_Lw_value_20 : decode method_6_code 20 = .ok (.iconst 1, 1) := by decide +kernel
theorem d_Lw_value_21 : decode method_6_code 21 = .ok (.ireturn, 1) := by decide +kernel
theorem d_Lw_count_0 : decode method_7_code 0 = .ok (.aload_n 2, 1) := by decide +kernel
theorem d_Lw_count_1 : decode method_7_code 1 = .ok (.iconst 0, 1) := by decide +kernel
theorem d_Lw_count_2 : decode method_7_code 2 = .ok (.aload_n 0, 1) := by decide +kernel
theorem d_Lw_count_3 : decode method_7_code 3 = .ok (.iload_n 1, 1) := by decide +kernel
theorem d_Lw_count_4 : decode method_7_code 4 = .ok (.invokevirtual 30, 3) := by decide +kernel
theorem d_Lw_count_12 : decode method_7_code 12 = .ok (.astore_n 3, 1) := by decide +kernel
theorem d_Lw_count_13 : decode method_7_code 13 = .ok (.iconst 1, 1) := by decide +kernel
theorem d_Lw_count_14 : decode method_7_code 14 = .ok (.ireturn, 1) := by decide +kernel
theorem d_Lw_variables_15 : decode method_3_code 15 = .ok (.astore_n 3, 1) := by decide +kernel
theorem d_Lw_variables_16 : decode method_3_code 16 = .ok (.iconst 2, 1) := by decide +kernel
theorem d_Lw_variables_17 : decode method_3_code 17 = .ok (.ireturn, 1) := by decide +kernel
theorem d_Lw_give_15 : decode method_4_code 15 = .ok (.astore_n 3, 1) := by decide +kernel
theorem d_Lw_give_16 : decode method_4_code 16 = .ok (.iconst 2, 1) := by decide +kernel
theorem d_Lw_give_17 : decode method_4_code 17 = .ok (.ireturn, 1) := by decide +kernel
theorem d_Lw_value_22 : decode method_6_code 22 = .ok (.astore_n 3, 1) := by decide +kernel
theorem d_Lw_value_23 : decode method_6_code 23 = .ok (.iconst 2, 1) := by decide +kernel
theorem d_Lw_value_24 : decode method_6_code 24 = .ok (.ireturn, 1) := by decide +kernel
section TwCalls
variable {p : Program} {l : Launch} {e : Env} {R : Room} {s : State} {m : MethodId} {args : Array Value} {below : List Frame} {meth : Method} {c : Code} {H : Heap} {locs : List Loc} {cells slots : Nat} {Q : State → Prop}
/-- the call of a method that throws X, caught by the first row of the caller's table -/
theorem tw_call {y : MethodName} {bytes cc : ByteArray} {maxL nL mc ms n index pc : Nat} {ret : Option FieldType} {ws : List Cond} {rm : Room} {Pc : Array Value → State → Prop} {X : String} {Ts : List Cond} {own C : String} {b : Addr} {As rest st0 : List Value} {ls : Array Slot}
    (S : CallFix p m c cc nL s args Ts own) (hM : tw_Met l y ws rm Pc (tw_Q X) mc ms) (cw : CallW R s args own C index y bytes maxL ret ws rm mc ms n) (hp : PreV s H C b Pc As)
    (hn : As.length = n) (hsize : ls.size = nL) (hstack : st0 = As.reverse ++ .ref b :: rest) (hW : 2 * (F0 m pc ls st0).monitorRoom + (rest.map fun v => v.category).sum ≤ 8) (hdg : decode cc pc = .ok (.invokevirtual index, 3)) (hf : cells + mc ≤ R.cells ∧ slots + ms ≤ R.slots)
    {x : ExceptionTableEntry} {more : List ExceptionTableEntry} (htab : c.exceptionTable.toList = x :: more) (hcov : covers x pc = true) (h0 : x.catchType ≠ 0) (hlink : (Cond.classLink own x.catchType X).before args s = true) (hcast : (Cond.castable X X).before args s = true)
    (kk : ∀ (a : Nat) (H1 : Heap), H.size ≤ H1.size → (∀ q : Nat, q < H.size → H1[q]? = H[q]?) → W p l e R s m args below meth c H1 locs (cells + mc) (slots + ms) Q (F0 m x.handlerPc ls [.ref a])) :
    W p l e R s m args below meth c H locs cells slots Q (F0 m pc ls st0) := by
  intro T hT X0
  have hown := S.2.2.2.1
  obtain ⟨a, st₀, t, T', e0, hWs, X1, et, ev, hle, hkeep, ⟨hge, ce, hce, hst, hcl⟩, st⟩ := tw_runV (g := F0 m pc ls st0) S hM cw hp rfl hn hsize hstack hW hdg hf hT X0
  have hclS : s.vm.findClass X = some ce.cls := by rw [← hWs.alike.findClass]; exact hcl
  obtain ⟨c3, cT, hc3, hcT, hasg⟩ := Cond.castable_spec hcast
  cases hc3.symm.trans hclS
  obtain ⟨vm', X2, st2⟩ := tw_catch1 X1 (a := a) (g := { F0 m pc ls st0 with stack := rest }) rfl hown htab hcov h0 hlink hcT (by rw [← et]; exact hce) hst hasg
  obtain ⟨t2, a1, b1⟩ := kk a T'.heap hle hkeep (T'.setVm vm') rfl X2
  exact ⟨t2, st.trans (st2 _ a1), b1⟩
/-- the static call of a method with handlers -/
theorem th_runS {y : MethodName} {bytes cc : ByteArray} {maxL nL mc ms n index : Nat} {ret : Option FieldType} {hh : List (Nat × Nat × Nat × Nat)} {rm : Room} {Pc : Array Value → State → Prop} {Qc : Array Value → State → Outcome → State → Prop} {free : Addr → Prop} {own : String} {As rest : List Value} {g : JFrame}
    (S : CallFix p m c cc nL s args bg_W own) (hM : Met l y (wh y bytes maxL ret hh) rm Pc Qc mc ms free) (hc : Cond.codeWith y bytes maxL ret hh ∈ bg_W) (hi : Cond.initialized y.cls ∈ bg_W) (hl : Cond.methodLink own index y ∈ bg_W) (hst : Cond.static y ∈ bg_W) (hrc : rm.cells = mc) (hrs : rm.slots = ms)
    (hd : y.cls ≠ "java/lang/invoke/MethodHandle" ∧ y.cls ≠ "java/lang/invoke/VarHandle" ∧ (parseMethodDescriptor y.desc).map (fun d => d.parameters.length) = some n) (hR : rm.frames + 1 ≤ R.frames ∧ 8 + (maxL + 11) + rm.locals ≤ R.locals) (hp : PreS s H Pc As)
    (hg : g.method = m) (hn : As.length = n) (hsize : g.locals.size = nL) (hstack : g.stack = As.reverse ++ rest) (hW : 2 * g.monitorRoom + (rest.map fun v => v.category).sum ≤ 8) (hdg : decode cc g.pc = .ok (.invokestatic index, 3)) (hf : cells + mc ≤ R.cells ∧ slots + ms ≤ R.slots) :
    va_Run p l e R s m args below meth c H locs cells slots mc ms g rest (Qc As.toArray) (free) := by
  obtain ⟨hx, hb, hml, ho, ht⟩ := S
  have hini := ht _ hi
  have hK : Back l R p e below s args y 3 8 (PreOf R mc ms Pc) (PostOf Qc mc ms free) := va_backW (hh := hh) (bytes := bytes) (maxL := maxL) (ret := ret) hM hp.1 hrc hrs hR.1 hR.2 (bg_pays ht hc) List.mem_cons_self (fun a' U hW => word_at hW (Or.inl (by first | rfl | simp [Cond.onTables, Cond.keeps, Cond.steady])) hini)
  obtain ⟨mk, methM, cM, hnamed, hmethM, -, -, -, -, -, -, hsigM⟩ := Cond.codeWith_spec (ht _ hc)
  intro T hT X
  have hlen : ∀ sig, parseMethodDescriptor y.desc = some sig → As.length = sig.parameters.length := fun sig h => by
    have h2 := hd.2.2
    rw [h] at h2
    exact hn.trans (Option.some.inj h2).symm
  obtain ⟨v, vm₁, ⟨U', l2, c2, s2⟩, hW₁, X', ⟨g', mk', t, L, e1, e2, hq, h1, hL, h2, h3⟩, st⟩ := X.staticBack hx ho (ht _ hl) (ht _ hst) hini hnamed hmethM hsigM ⟨hd.1, hd.2.1⟩ hK (g := g) hg (hsize.trans hml.symm) (Steps.refl _) (argsL := As) (rest := rest) hlen hstack hW (by rw [hb]; exact hdg)
    (fun vm₁ hW₁ => ⟨hf.1, hf.2, hp.2 (T.setVm vm₁) hT hW₁⟩)
  dsimp only [Pt.U, Pt.locs, Pt.cells, Pt.slots] at X' e1 e2 h1 h2 h3 st
  subst h1; subst h2; subst h3
  exact ⟨v, (T.setVm vm₁).calling g' mk' As.toArray, t, U', L, hT, X', hL, e1, e2, hq, fun target h => st.trans h⟩
/-- the table of a body with handlers -/
theorem th_table {l : Launch} {p : Program} {y : MethodName} {S : Spec} {cc : ByteArray} {maxL : Nat} {ret : Option FieldType} {e : Env} {s s₁ : State} {m : MethodId} {args : Array Value} {below : List Frame} {meth : Method} {c : Code} {hh : List (Nat × Nat × Nat × Nat)}
    (B : BodyLoose p l y S cc maxL ret e s m args below meth c s₁) (h : (Cond.codeWith y cc maxL ret hh).before args s = true) : c.exceptionTable.toList = tableOf hh := by
  obtain ⟨m9, meth9, c9, hn9, h1, h2, -, -, h6, -⟩ := Cond.codeWith_spec h
  cases hn9.symm.trans B.named
  cases h1.symm.trans B.method
  cases h2.symm.trans (Stand.of_body B).code
  rw [← h6, table_eq]
end TwCalls
section TwStand2
variable {p : Program} {l : Launch} {e : Env} {R : Room} {s : State} {m : MethodId} {args : Array Value} {below : List Frame} {meth : Method} {c : Code} {T : State} {locs : List Loc} {cells slots : Nat}
/-- caught by the second entry: the first does not take it -/
theorem tw_catch2 (X : Stand p l e R s m args below meth c T locs cells slots) {a : Addr} {g : JFrame} (hg : g.method = m) {own n1 n2 : String} (hown : s.vm.findClass own = some m.cls)
    {x x2 : ExceptionTableEntry} {rest : List ExceptionTableEntry} (htab : c.exceptionTable.toList = x :: x2 :: rest) (hx : covers x g.pc = true) (h0 : x.catchType ≠ 0) (hx2 : covers x2 g.pc = true) (h02 : x2.catchType ≠ 0)
    (hlink : (Cond.classLink own x.catchType n1).before args s = true) (hlink2 : (Cond.classLink own x2.catchType n2).before args s = true) {c1 cT : ClassId} {cell : Cell} (hc1 : s.vm.findClass n1 = some c1) (hcT : s.vm.findClass n2 = some cT) (hcell : T.heap[a]? = some cell) (hobj : cell.vm.isStatics = false) (hno : s.vm.assignable cell.cls c1 = false) (hfit : s.vm.assignable cell.cls cT = true) :
    ∃ vm', Stand p l e R s m args below meth c (T.setVm vm') locs cells slots ∧
      ∀ target, Steps p.tables e below ((T.setVm vm').setTop { g with pc := x2.handlerPc, stack := [.ref a] }) target → Steps p.tables e below ((T.setTop g).pushFrame (.throwing a)) target := by
  subst hg
  have hpl : e.platform.magicAccessors = ({} : Platform).magicAccessors := by rw [X.admits.platform]
  obtain ⟨c', hc', hcl⟩ := Cond.classLink_spec hown hlink e.platform hpl
  cases hc1.symm.trans hc'
  obtain ⟨c'', hc'', hcl2⟩ := Cond.classLink_spec hown hlink2 e.platform hpl
  cases hcT.symm.trans hc''
  obtain ⟨dk, _, _, kt, hd, _, _, _, _, hkt, _, hopen⟩ := hcl.here
  obtain ⟨dk2, _, _, kt2, hd2, _, _, _, _, hkt2, _, hopen2⟩ := hcl2.here
  have hcl₀ := X.warmed.classLinks hcl
  have hW1 : s.WarmedH (T.vm.noted g.method.cls x.catchType (.cls c1)) := X.warmed.noted hd hopen (State.rightAt_cls hcl)
  have hcl₂ := hW1.classLinks hcl2
  have hW2 : s.WarmedH ((T.vm.noted g.method.cls x.catchType (.cls c1)).noted g.method.cls x2.catchType (.cls cT)) := hW1.noted hd2 hopen2 (State.rightAt_cls hcl2)
  have hal := X.warmed.alike
  have hal1 := hW1.alike
  obtain ⟨kt', hkt', -⟩ := hal.2.2 _ _ hkt
  obtain ⟨kt2', hkt2', -⟩ := hal.2.2 _ _ hkt2
  obtain ⟨kt3', hkt3', -⟩ := hal1.2.2 _ _ hkt2
  have hno' : T.vm.assignable cell.cls c1 = false := by rw [hal.assignable]; exact hno
  have hfitT : T.vm.assignable cell.cls cT = true := by rw [hal.assignable]; exact hfit
  have hfit' : (T.vm.noted g.method.cls x.catchType (.cls c1)).assignable cell.cls cT = true := by rw [hal1.assignable]; exact hfit
  refine ⟨_, X.noted hW2, fun target hrest => tw_steps X.here (fun Q E d acts => ?_) hrest⟩
  rw [W.findHandler_eq (s := (T.setTop g).pushFrame (.throwing a)) (meth := meth) (code := c) X.method' X.code, htab]
  rw [tw_entry (s := (T.setTop g).pushFrame (.throwing a)) hx h0 hcl₀ hcell (VmData.ne_statics_of hobj) (Vm.classAt_of_assignable hfitT ⟨kt2', hkt2'⟩) ⟨kt', hkt'⟩]
  have e1 : ((T.setTop g).pushFrame (.throwing a)).vm.assignable cell.cls c1 = false := hno'
  rw [if_neg (by rw [e1]; exact Bool.false_ne_true)]
  show Sem.wp (findHandler.go g a (x2 :: rest)) Q E e d acts (((T.setTop g).pushFrame (.throwing a)).setVm (T.vm.noted g.method.cls x.catchType (.cls c1))) ↔ _
  rw [tw_entry (s := ((T.setTop g).pushFrame (.throwing a)).setVm (T.vm.noted g.method.cls x.catchType (.cls c1))) hx2 h02 hcl₂ hcell (VmData.ne_statics_of hobj) (Vm.classAt_of_assignable hfit' ⟨kt3', hkt3'⟩) ⟨kt3', hkt3'⟩]
  exact Iff.of_eq (if_pos hfit')
variable {H : Heap} {Q : State → Prop}
/-- the call of a method that throws X, caught by the second row of the caller's table -/
theorem tw_call2 {y : MethodName} {bytes cc : ByteArray} {maxL nL mc ms n index pc : Nat} {ret : Option FieldType} {ws : List Cond} {rm : Room} {Pc : Array Value → State → Prop} {X X1 : String} {Ts : List Cond} {own C : String} {b : Addr} {As rest st0 : List Value} {ls : Array Slot}
    (S : CallFix p m c cc nL s args Ts own) (hM : tw_Met l y ws rm Pc (tw_Q X) mc ms) (cw : CallW R s args own C index y bytes maxL ret ws rm mc ms n) (hp : PreV s H C b Pc As)
    (hn : As.length = n) (hsize : ls.size = nL) (hstack : st0 = As.reverse ++ .ref b :: rest) (hW : 2 * (F0 m pc ls st0).monitorRoom + (rest.map fun v => v.category).sum ≤ 8) (hdg : decode cc pc = .ok (.invokevirtual index, 3)) (hf : cells + mc ≤ R.cells ∧ slots + ms ≤ R.slots)
    {x x2 : ExceptionTableEntry} {more : List ExceptionTableEntry} (htab : c.exceptionTable.toList = x :: x2 :: more) (hcov : covers x pc = true) (h0 : x.catchType ≠ 0) (hcov2 : covers x2 pc = true) (h02 : x2.catchType ≠ 0) (hlink : (Cond.classLink own x.catchType X1).before args s = true) (hlink2 : (Cond.classLink own x2.catchType X).before args s = true) (hcast : (Cond.castable X X).before args s = true) (hno : tw_nc s X X1)
    (kk : ∀ (a : Nat) (H1 : Heap), H.size ≤ H1.size → (∀ q : Nat, q < H.size → H1[q]? = H[q]?) → W p l e R s m args below meth c H1 locs (cells + mc) (slots + ms) Q (F0 m x2.handlerPc ls [.ref a])) :
    W p l e R s m args below meth c H locs cells slots Q (F0 m pc ls st0) := by
  intro T hT X0
  have hown := S.2.2.2.1
  obtain ⟨a, st₀, t, T', e0, hWs, X1', et, ev, hle, hkeep, ⟨hge, ce, hce, hst, hcl⟩, st⟩ := tw_runV (g := F0 m pc ls st0) S hM cw hp rfl hn hsize hstack hW hdg hf hT X0
  have hclS : s.vm.findClass X = some ce.cls := by rw [← hWs.alike.findClass]; exact hcl
  obtain ⟨c3, cT, hc3, hcT, hasg⟩ := Cond.castable_spec hcast
  cases hc3.symm.trans hclS
  have hpl : e.platform.magicAccessors = ({} : Platform).magicAccessors := by rw [X0.admits.platform]
  obtain ⟨c1, hc1, -⟩ := Cond.classLink_spec hown hlink e.platform hpl
  have hna : s.vm.assignable ce.cls c1 = false := hno _ _ hclS hc1
  obtain ⟨vm', X2, st2⟩ := tw_catch2 X1' (a := a) (g := { F0 m pc ls st0 with stack := rest }) rfl hown htab hcov h0 hcov2 h02 hlink hlink2 hc1 hcT (by rw [← et]; exact hce) hst hna hasg
  obtain ⟨t2, a1, b1⟩ := kk a T'.heap hle hkeep (T'.setVm vm') rfl X2
  exact ⟨t2, st.trans (st2 _ a1), b1⟩
end TwStand2
set_option maxHeartbeats 4000000 in
set_option maxRecDepth 100000 in
/-- the helper of variables, refused -/
theorem c_Lw_variables_1 (l : Launch) (hfl : l.flags = pinnedFlags ++ [noTraceFlag]) (dC : Nat → ClassId) (dI : Nat → Nat → Nat) (h0 : Nat) (b0 : Nat) (b1 : Nat) (b2 : Nat) (b3 : Nat) (o9 : Nat) (cl : ClassId) (sz lim : Nat) (rs : Int32) (vc : Int32) (wv : Int32) (bw : Int32) (p0 : Int32) (fo : Nat → Int64) (h : p0 < 1 ∨ 400 < p0) : Met l y_Lw_variables (wh y_Lw_variables method_3_code 4 (some .int) [(0, 9, 12, 13), (0, 9, 15, 15)]) ({ frames := 7, cells := 1, slots := 6, locals := 111 }) (va_Pc [.ref h0, .int p0, .ref o9] (fun U => U.heap.size = sz ∧ va_P (dC, dI) vwCl [(h0, .inr (6, [.ref b0, .ref b1, .ref b2, .ref b3, .int rs, .int vc, .int wv, .int bw])), (o9, .inl (cl, 1, .inr (.inl fo)))] U.heap ∧ va_K (dC, dI) vwCl [(cl, .long)] U ∧ va_D (fun _ => True) [(h0, .inr (6, [.ref b0, .ref b1, .ref b2, .ref b3, .int rs, .int vc, .int wv, .int bw])), (o9, .inl (cl, 1, .inr (.inl fo)))] ∧ tw_Z U U.heap lim)) (va_Qi (fun (r : Int32) (_ : Unit) => r = 1) (fun (_ : Unit) t => va_P (dC, dI) vwCl [(h0, .inr (6, [.ref b0, .ref b1, .ref b2, .ref b3, .int rs, .int vc, .int wv, .int bw])), (o9, .inl (cl, 1, .inr (.inl fo)))] t.heap ∧ va_K (dC, dI) vwCl [(cl, .long)] t ∧ va_D (va_A [(h0, .inr (6, [.ref b0, .ref b1, .ref b2, .ref b3, .int rs, .int vc, .int wv, .int bw])), (o9, .inl (cl, 1, .inr (.inl fo)))] sz) [(h0, .inr (6, [.ref b0, .ref b1, .ref b2, .ref b3, .int rs, .int vc, .int wv, .int bw])), (o9, .inl (cl, 1, .inr (.inl fo)))]) (va_A [(h0, .inr (6, [.ref b0, .ref b1, .ref b2, .ref b3, .int rs, .int vc, .int wv, .int bw])), (o9, .inl (cl, 1, .inr (.inl fo)))] sz)) 1 6 (va_A [(h0, .inr (6, [.ref b0, .ref b1, .ref b2, .ref b3, .int rs, .int vc, .int wv, .int bw])), (o9, .inl (cl, 1, .inr (.inl fo)))] sz) := by
  refine va_MetW (hh := [(0, 9, 12, 13), (0, 9, 15, 15)]) (cc := method_3_code) (maxL := 4) (ret := (some .int)) (by decide) rfl ?_
  intro p e s m args below meth c s₁ B hml hv
  obtain ⟨rfl, hsz, hP, hK, hD0, hz⟩ := hv
  have hx := B.exec
  have hb := B.bytes
  have hr := B.returns
  have hw : ∀ w ∈ bg_W, w.before #[Value.ref h0, Value.int p0, Value.ref o9] s = true := fun w h => atoms_spec (ws := (wh y_Lw_variables method_3_code 4 (some .int) [(0, 9, 12, 13), (0, 9, 15, 15)])) B.pre w (List.mem_cons_of_mem _ h)
  have hown : s.vm.findClass R_Lw = some m.cls := findClass_of_methodNamed B.named
  have hlocks := B.notSynchronized
  subst hsz
  have hD := hD0.self (sz := s.heap.size)
  generalize hAe : va_A [(h0, .inr (6, [.ref b0, .ref b1, .ref b2, .ref b3, .int rs, .int vc, .int wv, .int bw])), (o9, .inl (cl, 1, .inr (.inl fo)))] s.heap.size = A at hD ⊢
  have hA : ∀ q : Nat, s.heap.size ≤ q → A q := fun q h => by rw [← hAe]; exact Or.inr h
  have hS : va_S A s.heap s.heap [] := va_S.rf
  have hP : va_P (dC, dI) vwCl [(h0, .inr (6, [.ref b0, .ref b1, .ref b2, .ref b3, .int rs, .int vc, .int wv, .int bw])), (o9, .inl (cl, 1, .inr (.inl fo)))] s.heap := hP
  have hl := lv_entry ([.ref h0, .int p0, .ref o9]) (n := 4) (Nat.le_of_ble_eq_true rfl)
  rw [lg_entry_eq]
  generalize (lg_sl ([.ref h0, .int p0, .ref o9]) ++ List.replicate (4 - (lg_sl ([.ref h0, .int p0, .ref o9])).length) Slot.unset).toArray = ls at hl ⊢
  have hl : lv_has ls 4 [(0, .ref h0), (1, .int p0), (2, .ref o9)] := hl
  obtain ⟨H, hH⟩ : ∃ H : Heap, H = s.heap := ⟨_, rfl⟩
  rw [← hH] at hP
  have hS : va_S A s.heap H [] := by rw [hH]; exact va_S.rf
  show W p l e _ s m _ below meth c s.heap [] 0 0 _ _
  rw [← hH]
  have hTab := th_table B (atoms_spec (ws := (wh y_Lw_variables method_3_code 4 (some .int) [(0, 9, 12, 13), (0, 9, 15, 15)])) B.pre _ List.mem_cons_self)
  refine lv_aload_n hx hb d_Lw_variables_0 rfl (lv_at hl 2 rfl) ?_
  refine lv_iconst (v := 0) hx hb d_Lw_variables_1 (by decide) ?_
  refine lv_aload_n hx hb d_Lw_variables_2 rfl (lv_at hl 0 rfl) ?_
  refine lv_iload_n hx hb d_Lw_variables_3 rfl (lv_at hl 1 rfl) ?_
  have hPc := hP.sub (ws' := [(h0, .inr (6, [.ref b0, .ref b1, .ref b2, .ref b3, .int rs, .int vc, .int wv, .int bw]))]) [0] rfl
  have hDc := hD.sub (ws' := [(h0, .inr (6, [.ref b0, .ref b1, .ref b2, .ref b3, .int rs, .int vc, .int wv, .int bw]))]) [0] (by decide) rfl
  have hKc := hK.sub (tys' := []) [] rfl
  refine tw_call (As := [.int p0]) (rest := [.int 0, .ref o9]) ⟨hx, hb, hml, hown, hw⟩ (x_Cs_variables_1 l hfl dC dI h0 b0 b1 b2 b3 H.size lim rs vc wv bw p0 h) (cb_V (C := R_Cs) 1 hw k_453 k_29 k_450 k_451 k_452 rfl rfl (by decide +kernel) ⟨Nat.le_of_ble_eq_true rfl, Nat.le_of_ble_eq_true rfl⟩) ⟨fun a U g mk q => by obtain ⟨q0, q1, qP, qK, qD, qZ⟩ := q; exact ⟨q0, q1, qP, va_K.moved (u := U) (U := U.calling g mk a) (Vm.Alike.refl U.vm) qK, qD, tw_Z.moved (u := U) (U := U.calling g mk a) (Vm.Alike.refl U.vm) qZ⟩, va_recv hKc hPc (ci := 6) (q0 := 0) rfl rfl, fun U hU hW => ⟨rfl, by rw [hU], by rw [hU]; exact hPc, va_K.moved hW.alike hKc, hDc.weaken (fun _ _ _ _ => trivial), by rw [hU, hH]; exact hz.moved hW.alike⟩⟩ rfl hl.1 rfl (lv_room (Nat.le_of_ble_eq_true rfl)) d_Lw_variables_4 ⟨Nat.le_of_ble_eq_true rfl, Nat.le_of_ble_eq_true rfl⟩ (x := ⟨0, 9, 12, 13⟩) (more := [⟨0, 9, 15, 15⟩]) hTab (by decide) (by decide) (hw (Cond.classLink "ClauseSearchLaw" 13 "java/lang/IllegalArgumentException") k_448) (hw (Cond.castable "java/lang/IllegalArgumentException" "java/lang/IllegalArgumentException") k_456) (fun a9 H1 hle9 hk9 => ?_)
  have hP : va_P (dC, dI) vwCl [(h0, .inr (6, [.ref b0, .ref b1, .ref b2, .ref b3, .int rs, .int vc, .int wv, .int bw])), (o9, .inl (cl, 1, .inr (.inl fo)))] H1 := fun k q h => (hP k q h).kept (hk9 q.1 (hP k q h).lt)
  have hS : va_S A s.heap H1 [] := ⟨Nat.le_trans hS.1 hle9, fun q hq hA9 => (hk9 q (Nat.lt_of_lt_of_le hq hS.1)).trans (hS.2.1 q hq hA9), hS.2.2⟩
  generalize H1 = H at hP hS ⊢
  refine W.widen (k := 1) (n := 6) (by decide) (by decide) ?_
  refine lv_astore_n (lv' := [(3, .ref a9), (0, .ref h0), (1, .int p0), (2, .ref o9)]) hx hb d_Lw_variables_12 rfl hl (by decide) rfl (fun ls hl => ?_)
  refine lv_iconst (v := 1) hx hb d_Lw_variables_13 (by decide) ?_
  refine W.widen (k := 1) (n := 6) (by decide) (by decide) ?_
  exact W.iret (v := 1) hx hb hr (fun t ht hW => ⟨⟨1, (), rfl, rfl, by rw [ht]; exact hP, va_K.moved hW.alike hK, hD⟩, hS.F ht⟩) hS.2.2 d_Lw_variables_14

set_option maxHeartbeats 4000000 in
set_option maxRecDepth 100000 in
/-- the helper of give, refused -/
theorem c_Lw_give_1 (l : Launch) (hfl : l.flags = pinnedFlags ++ [noTraceFlag]) (dC : Nat → ClassId) (dI : Nat → Nat → Nat) (h0 : Nat) (b0 : Nat) (b1 : Nat) (b2 : Nat) (b3 : Nat) (o9 : Nat) (cl : ClassId) (sz lim : Nat) (rs : Int32) (vc : Int32) (wv : Int32) (bw : Int32) (p0 : Int32) (fo : Nat → Int64) (h : p0 = 0 ∨ vc < p0 ∨ p0 < -vc) : Met l y_Lw_give (wh y_Lw_give method_4_code 4 (some .int) [(0, 9, 12, 13), (0, 9, 15, 15)]) ({ frames := 7, cells := 1, slots := 6, locals := 111 }) (va_Pc [.ref h0, .int p0, .ref o9] (fun U => U.heap.size = sz ∧ va_P (dC, dI) vwCl [(h0, .inr (6, [.ref b0, .ref b1, .ref b2, .ref b3, .int rs, .int vc, .int wv, .int bw])), (o9, .inl (cl, 1, .inr (.inl fo)))] U.heap ∧ va_K (dC, dI) vwCl [(cl, .long)] U ∧ va_D (fun _ => True) [(h0, .inr (6, [.ref b0, .ref b1, .ref b2, .ref b3, .int rs, .int vc, .int wv, .int bw])), (o9, .inl (cl, 1, .inr (.inl fo)))] ∧ tw_Z U U.heap lim)) (va_Qi (fun (r : Int32) (_ : Unit) => r = 1) (fun (_ : Unit) t => va_P (dC, dI) vwCl [(h0, .inr (6, [.ref b0, .ref b1, .ref b2, .ref b3, .int rs, .int vc, .int wv, .int bw])), (o9, .inl (cl, 1, .inr (.inl fo)))] t.heap ∧ va_K (dC, dI) vwCl [(cl, .long)] t ∧ va_D (va_A [(h0, .inr (6, [.ref b0, .ref b1, .ref b2, .ref b3, .int rs, .int vc, .int wv, .int bw])), (o9, .inl (cl, 1, .inr (.inl fo)))] sz) [(h0, .inr (6, [.ref b0, .ref b1, .ref b2, .ref b3, .int rs, .int vc, .int wv, .int bw])), (o9, .inl (cl, 1, .inr (.inl fo)))]) (va_A [(h0, .inr (6, [.ref b0, .ref b1, .ref b2, .ref b3, .int rs, .int vc, .int wv, .int bw])), (o9, .inl (cl, 1, .inr (.inl fo)))] sz)) 1 6 (va_A [(h0, .inr (6, [.ref b0, .ref b1, .ref b2, .ref b3, .int rs, .int vc, .int wv, .int bw])), (o9, .inl (cl, 1, .inr (.inl fo)))] sz) := by
  refine va_MetW (hh := [(0, 9, 12, 13), (0, 9, 15, 15)]) (cc := method_4_code) (maxL := 4) (ret := (some .int)) (by decide) rfl ?_
  intro p e s m args below meth c s₁ B hml hv
  obtain ⟨rfl, hsz, hP, hK, hD0, hz⟩ := hv
  have hx := B.exec
  have hb := B.bytes
  have hr := B.returns
  have hw : ∀ w ∈ bg_W, w.before #[Value.ref h0, Value.int p0, Value.ref o9] s = true := fun w h => atoms_spec (ws := (wh y_Lw_give method_4_code 4 (some .int) [(0, 9, 12, 13), (0, 9, 15, 15)])) B.pre w (List.mem_cons_of_mem _ h)
  have hown : s.vm.findClass R_Lw = some m.cls := findClass_of_methodNamed B.named
  have hlocks := B.notSynchronized
  subst hsz
  have hD := hD0.self (sz := s.heap.size)
  generalize hAe : va_A [(h0, .inr (6, [.ref b0, .ref b1, .ref b2, .ref b3, .int rs, .int vc, .int wv, .int bw])), (o9, .inl (cl, 1, .inr (.inl fo)))] s.heap.size = A at hD ⊢
  have hA : ∀ q : Nat, s.heap.size ≤ q → A q := fun q h => by rw [← hAe]; exact Or.inr h
  have hS : va_S A s.heap s.heap [] := va_S.rf
  have hP : va_P (dC, dI) vwCl [(h0, .inr (6, [.ref b0, .ref b1, .ref b2, .ref b3, .int rs, .int vc, .int wv, .int bw])), (o9, .inl (cl, 1, .inr (.inl fo)))] s.heap := hP
  have hl := lv_entry ([.ref h0, .int p0, .ref o9]) (n := 4) (Nat.le_of_ble_eq_true rfl)
  rw [lg_entry_eq]
  generalize (lg_sl ([.ref h0, .int p0, .ref o9]) ++ List.replicate (4 - (lg_sl ([.ref h0, .int p0, .ref o9])).length) Slot.unset).toArray = ls at hl ⊢
  have hl : lv_has ls 4 [(0, .ref h0), (1, .int p0), (2, .ref o9)] := hl
  obtain ⟨H, hH⟩ : ∃ H : Heap, H = s.heap := ⟨_, rfl⟩
  rw [← hH] at hP
  have hS : va_S A s.heap H [] := by rw [hH]; exact va_S.rf
  show W p l e _ s m _ below meth c s.heap [] 0 0 _ _
  rw [← hH]
  have hTab := th_table B (atoms_spec (ws := (wh y_Lw_give method_4_code 4 (some .int) [(0, 9, 12, 13), (0, 9, 15, 15)])) B.pre _ List.mem_cons_self)
  refine lv_aload_n hx hb d_Lw_give_0 rfl (lv_at hl 2 rfl) ?_
  refine lv_iconst (v := 0) hx hb d_Lw_give_1 (by decide) ?_
  refine lv_aload_n hx hb d_Lw_give_2 rfl (lv_at hl 0 rfl) ?_
  refine lv_iload_n hx hb d_Lw_give_3 rfl (lv_at hl 1 rfl) ?_
  have hPc := hP.sub (ws' := [(h0, .inr (6, [.ref b0, .ref b1, .ref b2, .ref b3, .int rs, .int vc, .int wv, .int bw]))]) [0] rfl
  have hDc := hD.sub (ws' := [(h0, .inr (6, [.ref b0, .ref b1, .ref b2, .ref b3, .int rs, .int vc, .int wv, .int bw]))]) [0] (by decide) rfl
  have hKc := hK.sub (tys' := []) [] rfl
  refine tw_call (As := [.int p0]) (rest := [.int 0, .ref o9]) ⟨hx, hb, hml, hown, hw⟩ (x_Cs_give_1 l hfl dC dI h0 b0 b1 b2 b3 H.size lim rs vc wv bw p0 h) (cb_V (C := R_Cs) 1 hw k_543 k_29 k_540 k_541 k_542 rfl rfl (by decide +kernel) ⟨Nat.le_of_ble_eq_true rfl, Nat.le_of_ble_eq_true rfl⟩) ⟨fun a U g mk q => by obtain ⟨q0, q1, qP, qK, qD, qZ⟩ := q; exact ⟨q0, q1, qP, va_K.moved (u := U) (U := U.calling g mk a) (Vm.Alike.refl U.vm) qK, qD, tw_Z.moved (u := U) (U := U.calling g mk a) (Vm.Alike.refl U.vm) qZ⟩, va_recv hKc hPc (ci := 6) (q0 := 0) rfl rfl, fun U hU hW => ⟨rfl, by rw [hU], by rw [hU]; exact hPc, va_K.moved hW.alike hKc, hDc.weaken (fun _ _ _ _ => trivial), by rw [hU, hH]; exact hz.moved hW.alike⟩⟩ rfl hl.1 rfl (lv_room (Nat.le_of_ble_eq_true rfl)) d_Lw_give_4 ⟨Nat.le_of_ble_eq_true rfl, Nat.le_of_ble_eq_true rfl⟩ (x := ⟨0, 9, 12, 13⟩) (more := [⟨0, 9, 15, 15⟩]) hTab (by decide) (by decide) (hw (Cond.classLink "ClauseSearchLaw" 13 "java/lang/IllegalArgumentException") k_448) (hw (Cond.castable "java/lang/IllegalArgumentException" "java/lang/IllegalArgumentException") k_456) (fun a9 H1 hle9 hk9 => ?_)
  have hP : va_P (dC, dI) vwCl [(h0, .inr (6, [.ref b0, .ref b1, .ref b2, .ref b3, .int rs, .int vc, .int wv, .int bw])), (o9, .inl (cl, 1, .inr (.inl fo)))] H1 := fun k q h => (hP k q h).kept (hk9 q.1 (hP k q h).lt)
  have hS : va_S A s.heap H1 [] := ⟨Nat.le_trans hS.1 hle9, fun q hq hA9 => (hk9 q (Nat.lt_of_lt_of_le hq hS.1)).trans (hS.2.1 q hq hA9), hS.2.2⟩
  generalize H1 = H at hP hS ⊢
  refine W.widen (k := 1) (n := 6) (by decide) (by decide) ?_
  refine lv_astore_n (lv' := [(3, .ref a9), (0, .ref h0), (1, .int p0), (2, .ref o9)]) hx hb d_Lw_give_12 rfl hl (by decide) rfl (fun ls hl => ?_)
  refine lv_iconst (v := 1) hx hb d_Lw_give_13 (by decide) ?_
  refine W.widen (k := 1) (n := 6) (by decide) (by decide) ?_
  exact W.iret (v := 1) hx hb hr (fun t ht hW => ⟨⟨1, (), rfl, rfl, by rw [ht]; exact hP, va_K.moved hW.alike hK, hD⟩, hS.F ht⟩) hS.2.2 d_Lw_give_14

set_option maxHeartbeats 4000000 in
set_option maxRecDepth 100000 in
/-- the helper of clause, refused -/
theorem c_Lw_clause_1 (l : Launch) (hfl : l.flags = pinnedFlags ++ [noTraceFlag]) (dC : Nat → ClassId) (dI : Nat → Nat → Nat) (h0 : Nat) (b0 : Nat) (b1 : Nat) (b2 : Nat) (b3 : Nat) (o9 : Nat) (cl : ClassId) (sz lim : Nat) (rs : Int32) (vc : Int32) (wv : Int32) (bw : Int32) (fo : Nat → Int64) (h : rs = 0) : Met l y_Lw_clause (wh y_Lw_clause method_5_code 3 (some .int) [(0, 8, 11, 24), (0, 8, 14, 15)]) ({ frames := 7, cells := 1, slots := 6, locals := 110 }) (va_Pc [.ref h0, .ref o9] (fun U => U.heap.size = sz ∧ va_P (dC, dI) vwCl [(h0, .inr (6, [.ref b0, .ref b1, .ref b2, .ref b3, .int rs, .int vc, .int wv, .int bw])), (o9, .inl (cl, 1, .inr (.inl fo)))] U.heap ∧ va_K (dC, dI) vwCl [(cl, .long)] U ∧ va_D (fun _ => True) [(h0, .inr (6, [.ref b0, .ref b1, .ref b2, .ref b3, .int rs, .int vc, .int wv, .int bw])), (o9, .inl (cl, 1, .inr (.inl fo)))] ∧ tw_Z U U.heap lim)) (va_Qi (fun (r : Int32) (_ : Unit) => r = 1) (fun (_ : Unit) t => va_P (dC, dI) vwCl [(h0, .inr (6, [.ref b0, .ref b1, .ref b2, .ref b3, .int rs, .int vc, .int wv, .int bw])), (o9, .inl (cl, 1, .inr (.inl fo)))] t.heap ∧ va_K (dC, dI) vwCl [(cl, .long)] t ∧ va_D (va_A [(h0, .inr (6, [.ref b0, .ref b1, .ref b2, .ref b3, .int rs, .int vc, .int wv, .int bw])), (o9, .inl (cl, 1, .inr (.inl fo)))] sz) [(h0, .inr (6, [.ref b0, .ref b1, .ref b2, .ref b3, .int rs, .int vc, .int wv, .int bw])), (o9, .inl (cl, 1, .inr (.inl fo)))]) (va_A [(h0, .inr (6, [.ref b0, .ref b1, .ref b2, .ref b3, .int rs, .int vc, .int wv, .int bw])), (o9, .inl (cl, 1, .inr (.inl fo)))] sz)) 1 6 (va_A [(h0, .inr (6, [.ref b0, .ref b1, .ref b2, .ref b3, .int rs, .int vc, .int wv, .int bw])), (o9, .inl (cl, 1, .inr (.inl fo)))] sz) := by
  refine va_MetW (hh := [(0, 8, 11, 24), (0, 8, 14, 15)]) (cc := method_5_code) (maxL := 3) (ret := (some .int)) (by decide) rfl ?_
  intro p e s m args below meth c s₁ B hml hv
  obtain ⟨rfl, hsz, hP, hK, hD0, hz⟩ := hv
  have hx := B.exec
  have hb := B.bytes
  have hr := B.returns
  have hw : ∀ w ∈ bg_W, w.before #[Value.ref h0, Value.ref o9] s = true := fun w h => atoms_spec (ws := (wh y_Lw_clause method_5_code 3 (some .int) [(0, 8, 11, 24), (0, 8, 14, 15)])) B.pre w (List.mem_cons_of_mem _ h)
  have hown : s.vm.findClass R_Lw = some m.cls := findClass_of_methodNamed B.named
  have hlocks := B.notSynchronized
  subst hsz
  have hD := hD0.self (sz := s.heap.size)
  generalize hAe : va_A [(h0, .inr (6, [.ref b0, .ref b1, .ref b2, .ref b3, .int rs, .int vc, .int wv, .int bw])), (o9, .inl (cl, 1, .inr (.inl fo)))] s.heap.size = A at hD ⊢
  have hA : ∀ q : Nat, s.heap.size ≤ q → A q := fun q h => by rw [← hAe]; exact Or.inr h
  have hS : va_S A s.heap s.heap [] := va_S.rf
  have hP : va_P (dC, dI) vwCl [(h0, .inr (6, [.ref b0, .ref b1, .ref b2, .ref b3, .int rs, .int vc, .int wv, .int bw])), (o9, .inl (cl, 1, .inr (.inl fo)))] s.heap := hP
  have hl := lv_entry ([.ref h0, .ref o9]) (n := 3) (Nat.le_of_ble_eq_true rfl)
  rw [lg_entry_eq]
  generalize (lg_sl ([.ref h0, .ref o9]) ++ List.replicate (3 - (lg_sl ([.ref h0, .ref o9])).length) Slot.unset).toArray = ls at hl ⊢
  have hl : lv_has ls 3 [(0, .ref h0), (1, .ref o9)] := hl
  obtain ⟨H, hH⟩ : ∃ H : Heap, H = s.heap := ⟨_, rfl⟩
  rw [← hH] at hP
  have hS : va_S A s.heap H [] := by rw [hH]; exact va_S.rf
  show W p l e _ s m _ below meth c s.heap [] 0 0 _ _
  rw [← hH]
  have hTab := th_table B (atoms_spec (ws := (wh y_Lw_clause method_5_code 3 (some .int) [(0, 8, 11, 24), (0, 8, 14, 15)])) B.pre _ List.mem_cons_self)
  refine lv_aload_n hx hb d_Lw_clause_0 rfl (lv_at hl 1 rfl) ?_
  refine lv_iconst (v := 0) hx hb d_Lw_clause_1 (by decide) ?_
  refine lv_aload_n hx hb d_Lw_clause_2 rfl (lv_at hl 0 rfl) ?_
  have hPc := hP.sub (ws' := [(h0, .inr (6, [.ref b0, .ref b1, .ref b2, .ref b3, .int rs, .int vc, .int wv, .int bw]))]) [0] rfl
  have hDc := hD.sub (ws' := [(h0, .inr (6, [.ref b0, .ref b1, .ref b2, .ref b3, .int rs, .int vc, .int wv, .int bw]))]) [0] (by decide) rfl
  have hKc := hK.sub (tys' := []) [] rfl
  refine tw_call (As := []) (rest := [.int 0, .ref o9]) ⟨hx, hb, hml, hown, hw⟩ (x_Cs_clause_1 l hfl dC dI h0 b0 b1 b2 b3 H.size lim rs vc wv bw h) (cb_V (C := R_Cs) 0 hw k_553 k_29 k_550 k_551 k_552 rfl rfl (by decide +kernel) ⟨Nat.le_of_ble_eq_true rfl, Nat.le_of_ble_eq_true rfl⟩) ⟨fun a U g mk q => by obtain ⟨q0, q1, qP, qK, qD, qZ⟩ := q; exact ⟨q0, q1, qP, va_K.moved (u := U) (U := U.calling g mk a) (Vm.Alike.refl U.vm) qK, qD, tw_Z.moved (u := U) (U := U.calling g mk a) (Vm.Alike.refl U.vm) qZ⟩, va_recv hKc hPc (ci := 6) (q0 := 0) rfl rfl, fun U hU hW => ⟨rfl, by rw [hU], by rw [hU]; exact hPc, va_K.moved hW.alike hKc, hDc.weaken (fun _ _ _ _ => trivial), by rw [hU, hH]; exact hz.moved hW.alike⟩⟩ rfl hl.1 rfl (lv_room (Nat.le_of_ble_eq_true rfl)) d_Lw_clause_3 ⟨Nat.le_of_ble_eq_true rfl, Nat.le_of_ble_eq_true rfl⟩ (x := ⟨0, 8, 11, 24⟩) (more := [⟨0, 8, 14, 15⟩]) hTab (by decide) (by decide) (hw (Cond.classLink "ClauseSearchLaw" 24 "java/lang/IllegalStateException") k_549) (hw (Cond.castable "java/lang/IllegalStateException" "java/lang/IllegalStateException") k_556) (fun a9 H1 hle9 hk9 => ?_)
  have hP : va_P (dC, dI) vwCl [(h0, .inr (6, [.ref b0, .ref b1, .ref b2, .ref b3, .int rs, .int vc, .int wv, .int bw])), (o9, .inl (cl, 1, .inr (.inl fo)))] H1 := fun k q h => (hP k q h).kept (hk9 q.1 (hP k q h).lt)
  have hS : va_S A s.heap H1 [] := ⟨Nat.le_trans hS.1 hle9, fun q hq hA9 => (hk9 q (Nat.lt_of_lt_of_le hq hS.1)).trans (hS.2.1 q hq hA9), hS.2.2⟩
  generalize H1 = H at hP hS ⊢
  refine W.widen (k := 1) (n := 6) (by decide) (by decide) ?_
  refine lv_astore_n (lv' := [(2, .ref a9), (0, .ref h0), (1, .ref o9)]) hx hb d_Lw_clause_11 rfl hl (by decide) rfl (fun ls hl => ?_)
  refine lv_iconst (v := 1) hx hb d_Lw_clause_12 (by decide) ?_
  refine W.widen (k := 1) (n := 6) (by decide) (by decide) ?_
  exact W.iret (v := 1) hx hb hr (fun t ht hW => ⟨⟨1, (), rfl, rfl, by rw [ht]; exact hP, va_K.moved hW.alike hK, hD⟩, hS.F ht⟩) hS.2.2 d_Lw_clause_13

set_option maxHeartbeats 4000000 in
set_option maxRecDepth 100000 in
/-- the helper of value, refused -/
theorem c_Lw_value_1 (l : Launch) (hfl : l.flags = pinnedFlags ++ [noTraceFlag]) (dC : Nat → ClassId) (dI : Nat → Nat → Nat) (h0 : Nat) (b0 : Nat) (b1 : Nat) (b2 : Nat) (b3 : Nat) (o9 : Nat) (cl : ClassId) (sz lim : Nat) (rs : Int32) (vc : Int32) (wv : Int32) (bw : Int32) (p0 : Int32) (fo : Nat → Int64) (h : p0 < 1 ∨ vc < p0) : Met l y_Lw_value (wh y_Lw_value method_6_code 4 (some .int) [(0, 16, 19, 13), (0, 16, 22, 24)]) ({ frames := 7, cells := 1, slots := 6, locals := 111 }) (va_Pc [.ref h0, .int p0, .ref o9] (fun U => U.heap.size = sz ∧ va_P (dC, dI) vwCl [(h0, .inr (6, [.ref b0, .ref b1, .ref b2, .ref b3, .int rs, .int vc, .int wv, .int bw])), (o9, .inl (cl, 1, .inr (.inl fo)))] U.heap ∧ va_K (dC, dI) vwCl [(cl, .long)] U ∧ va_D (fun _ => True) [(h0, .inr (6, [.ref b0, .ref b1, .ref b2, .ref b3, .int rs, .int vc, .int wv, .int bw])), (o9, .inl (cl, 1, .inr (.inl fo)))] ∧ tw_Z U U.heap lim)) (va_Qi (fun (r : Int32) (_ : Unit) => r = 1) (fun (_ : Unit) t => va_P (dC, dI) vwCl [(h0, .inr (6, [.ref b0, .ref b1, .ref b2, .ref b3, .int rs, .int vc, .int wv, .int bw])), (o9, .inl (cl, 1, .inr (.inl fo)))] t.heap ∧ va_K (dC, dI) vwCl [(cl, .long)] t ∧ va_D (va_A [(h0, .inr (6, [.ref b0, .ref b1, .ref b2, .ref b3, .int rs, .int vc, .int wv, .int bw])), (o9, .inl (cl, 1, .inr (.inl fo)))] sz) [(h0, .inr (6, [.ref b0, .ref b1, .ref b2, .ref b3, .int rs, .int vc, .int wv, .int bw])), (o9, .inl (cl, 1, .inr (.inl fo)))]) (va_A [(h0, .inr (6, [.ref b0, .ref b1, .ref b2, .ref b3, .int rs, .int vc, .int wv, .int bw])), (o9, .inl (cl, 1, .inr (.inl fo)))] sz)) 1 6 (va_A [(h0, .inr (6, [.ref b0, .ref b1, .ref b2, .ref b3, .int rs, .int vc, .int wv, .int bw])), (o9, .inl (cl, 1, .inr (.inl fo)))] sz) := by
  refine va_MetW (hh := [(0, 16, 19, 13), (0, 16, 22, 24)]) (cc := method_6_code) (maxL := 4) (ret := (some .int)) (by decide) rfl ?_
  intro p e s m args below meth c s₁ B hml hv
  obtain ⟨rfl, hsz, hP, hK, hD0, hz⟩ := hv
  have hx := B.exec
  have hb := B.bytes
  have hr := B.returns
  have hw : ∀ w ∈ bg_W, w.before #[Value.ref h0, Value.int p0, Value.ref o9] s = true := fun w h => atoms_spec (ws := (wh y_Lw_value method_6_code 4 (some .int) [(0, 16, 19, 13), (0, 16, 22, 24)])) B.pre w (List.mem_cons_of_mem _ h)
  have hown : s.vm.findClass R_Lw = some m.cls := findClass_of_methodNamed B.named
  have hlocks := B.notSynchronized
  subst hsz
  have hD := hD0.self (sz := s.heap.size)
  generalize hAe : va_A [(h0, .inr (6, [.ref b0, .ref b1, .ref b2, .ref b3, .int rs, .int vc, .int wv, .int bw])), (o9, .inl (cl, 1, .inr (.inl fo)))] s.heap.size = A at hD ⊢
  have hA : ∀ q : Nat, s.heap.size ≤ q → A q := fun q h => by rw [← hAe]; exact Or.inr h
  have hS : va_S A s.heap s.heap [] := va_S.rf
  have hP : va_P (dC, dI) vwCl [(h0, .inr (6, [.ref b0, .ref b1, .ref b2, .ref b3, .int rs, .int vc, .int wv, .int bw])), (o9, .inl (cl, 1, .inr (.inl fo)))] s.heap := hP
  have hl := lv_entry ([.ref h0, .int p0, .ref o9]) (n := 4) (Nat.le_of_ble_eq_true rfl)
  rw [lg_entry_eq]
  generalize (lg_sl ([.ref h0, .int p0, .ref o9]) ++ List.replicate (4 - (lg_sl ([.ref h0, .int p0, .ref o9])).length) Slot.unset).toArray = ls at hl ⊢
  have hl : lv_has ls 4 [(0, .ref h0), (1, .int p0), (2, .ref o9)] := hl
  obtain ⟨H, hH⟩ : ∃ H : Heap, H = s.heap := ⟨_, rfl⟩
  rw [← hH] at hP
  have hS : va_S A s.heap H [] := by rw [hH]; exact va_S.rf
  show W p l e _ s m _ below meth c s.heap [] 0 0 _ _
  rw [← hH]
  have hTab := th_table B (atoms_spec (ws := (wh y_Lw_value method_6_code 4 (some .int) [(0, 16, 19, 13), (0, 16, 22, 24)])) B.pre _ List.mem_cons_self)
  refine lv_aload_n hx hb d_Lw_value_0 rfl (lv_at hl 2 rfl) ?_
  refine lv_iconst (v := 0) hx hb d_Lw_value_1 (by decide) ?_
  refine lv_aload_n hx hb d_Lw_value_2 rfl (lv_at hl 0 rfl) ?_
  refine lv_iload_n hx hb d_Lw_value_3 rfl (lv_at hl 1 rfl) ?_
  have hPc := hP.sub (ws' := [(h0, .inr (6, [.ref b0, .ref b1, .ref b2, .ref b3, .int rs, .int vc, .int wv, .int bw]))]) [0] rfl
  have hDc := hD.sub (ws' := [(h0, .inr (6, [.ref b0, .ref b1, .ref b2, .ref b3, .int rs, .int vc, .int wv, .int bw]))]) [0] (by decide) rfl
  have hKc := hK.sub (tys' := []) [] rfl
  refine tw_call (As := [.int p0]) (rest := [.int 0, .ref o9]) ⟨hx, hb, hml, hown, hw⟩ (x_Cs_value_1 l hfl dC dI h0 b0 b1 b2 b3 H.size lim rs vc wv bw p0 h) (cb_V (C := R_Cs) 1 hw k_586 k_29 k_583 k_584 k_585 rfl rfl (by decide +kernel) ⟨Nat.le_of_ble_eq_true rfl, Nat.le_of_ble_eq_true rfl⟩) ⟨fun a U g mk q => by obtain ⟨q0, q1, qP, qK, qD, qZ⟩ := q; exact ⟨q0, q1, qP, va_K.moved (u := U) (U := U.calling g mk a) (Vm.Alike.refl U.vm) qK, qD, tw_Z.moved (u := U) (U := U.calling g mk a) (Vm.Alike.refl U.vm) qZ⟩, va_recv hKc hPc (ci := 6) (q0 := 0) rfl rfl, fun U hU hW => ⟨rfl, by rw [hU], by rw [hU]; exact hPc, va_K.moved hW.alike hKc, hDc.weaken (fun _ _ _ _ => trivial), by rw [hU, hH]; exact hz.moved hW.alike⟩⟩ rfl hl.1 rfl (lv_room (Nat.le_of_ble_eq_true rfl)) d_Lw_value_4 ⟨Nat.le_of_ble_eq_true rfl, Nat.le_of_ble_eq_true rfl⟩ (x := ⟨0, 16, 19, 13⟩) (more := [⟨0, 16, 22, 24⟩]) hTab (by decide) (by decide) (hw (Cond.classLink "ClauseSearchLaw" 13 "java/lang/IllegalArgumentException") k_448) (hw (Cond.castable "java/lang/IllegalArgumentException" "java/lang/IllegalArgumentException") k_456) (fun a9 H1 hle9 hk9 => ?_)
  have hP : va_P (dC, dI) vwCl [(h0, .inr (6, [.ref b0, .ref b1, .ref b2, .ref b3, .int rs, .int vc, .int wv, .int bw])), (o9, .inl (cl, 1, .inr (.inl fo)))] H1 := fun k q h => (hP k q h).kept (hk9 q.1 (hP k q h).lt)
  have hS : va_S A s.heap H1 [] := ⟨Nat.le_trans hS.1 hle9, fun q hq hA9 => (hk9 q (Nat.lt_of_lt_of_le hq hS.1)).trans (hS.2.1 q hq hA9), hS.2.2⟩
  generalize H1 = H at hP hS ⊢
  refine W.widen (k := 1) (n := 6) (by decide) (by decide) ?_
  refine lv_astore_n (lv' := [(3, .ref a9), (0, .ref h0), (1, .int p0), (2, .ref o9)]) hx hb d_Lw_value_19 rfl hl (by decide) rfl (fun ls hl => ?_)
  refine lv_iconst (v := 1) hx hb d_Lw_value_20 (by decide) ?_
  refine W.widen (k := 1) (n := 6) (by decide) (by decide) ?_
  exact W.iret (v := 1) hx hb hr (fun t ht hW => ⟨⟨1, (), rfl, rfl, by rw [ht]; exact hP, va_K.moved hW.alike hK, hD⟩, hS.F ht⟩) hS.2.2 d_Lw_value_21

set_option maxHeartbeats 4000000 in
set_option maxRecDepth 100000 in
/-- the helper of count, refused -/
theorem c_Lw_count_1 (l : Launch) (hfl : l.flags = pinnedFlags ++ [noTraceFlag]) (dC : Nat → ClassId) (dI : Nat → Nat → Nat) (h0 : Nat) (b0 : Nat) (b1 : Nat) (b2 : Nat) (b3 : Nat) (o9 : Nat) (cl : ClassId) (sz lim : Nat) (rs : Int32) (vc : Int32) (wv : Int32) (bw : Int32) (p0 : Int32) (fo : Nat → Int64) (h : p0.toInt < 0 ∨ 5 < p0.toInt) : Met l y_Lw_count (wh y_Lw_count method_7_code 4 (some .int) [(0, 9, 12, 13)]) ({ frames := 7, cells := 1, slots := 6, locals := 111 }) (va_Pc [.ref h0, .int p0, .ref o9] (fun U => U.heap.size = sz ∧ va_P (dC, dI) vwCl [(h0, .inr (6, [.ref b0, .ref b1, .ref b2, .ref b3, .int rs, .int vc, .int wv, .int bw])), (o9, .inl (cl, 1, .inr (.inl fo)))] U.heap ∧ va_K (dC, dI) vwCl [(cl, .long)] U ∧ va_D (fun _ => True) [(h0, .inr (6, [.ref b0, .ref b1, .ref b2, .ref b3, .int rs, .int vc, .int wv, .int bw])), (o9, .inl (cl, 1, .inr (.inl fo)))] ∧ tw_Z U U.heap lim)) (va_Qi (fun (r : Int32) (_ : Unit) => r = 1) (fun (_ : Unit) t => va_P (dC, dI) vwCl [(h0, .inr (6, [.ref b0, .ref b1, .ref b2, .ref b3, .int rs, .int vc, .int wv, .int bw])), (o9, .inl (cl, 1, .inr (.inl fo)))] t.heap ∧ va_K (dC, dI) vwCl [(cl, .long)] t ∧ va_D (va_A [(h0, .inr (6, [.ref b0, .ref b1, .ref b2, .ref b3, .int rs, .int vc, .int wv, .int bw])), (o9, .inl (cl, 1, .inr (.inl fo)))] sz) [(h0, .inr (6, [.ref b0, .ref b1, .ref b2, .ref b3, .int rs, .int vc, .int wv, .int bw])), (o9, .inl (cl, 1, .inr (.inl fo)))]) (va_A [(h0, .inr (6, [.ref b0, .ref b1, .ref b2, .ref b3, .int rs, .int vc, .int wv, .int bw])), (o9, .inl (cl, 1, .inr (.inl fo)))] sz)) 1 6 (va_A [(h0, .inr (6, [.ref b0, .ref b1, .ref b2, .ref b3, .int rs, .int vc, .int wv, .int bw])), (o9, .inl (cl, 1, .inr (.inl fo)))] sz) := by
  refine va_MetW (hh := [(0, 9, 12, 13)]) (cc := method_7_code) (maxL := 4) (ret := (some .int)) (by decide) rfl ?_
  intro p e s m args below meth c s₁ B hml hv
  obtain ⟨rfl, hsz, hP, hK, hD0, hz⟩ := hv
  have hx := B.exec
  have hb := B.bytes
  have hr := B.returns
  have hw : ∀ w ∈ bg_W, w.before #[Value.ref h0, Value.int p0, Value.ref o9] s = true := fun w h => atoms_spec (ws := (wh y_Lw_count method_7_code 4 (some .int) [(0, 9, 12, 13)])) B.pre w (List.mem_cons_of_mem _ h)
  have hown : s.vm.findClass R_Lw = some m.cls := findClass_of_methodNamed B.named
  have hlocks := B.notSynchronized
  subst hsz
  have hD := hD0.self (sz := s.heap.size)
  generalize hAe : va_A [(h0, .inr (6, [.ref b0, .ref b1, .ref b2, .ref b3, .int rs, .int vc, .int wv, .int bw])), (o9, .inl (cl, 1, .inr (.inl fo)))] s.heap.size = A at hD ⊢
  have hA : ∀ q : Nat, s.heap.size ≤ q → A q := fun q h => by rw [← hAe]; exact Or.inr h
  have hS : va_S A s.heap s.heap [] := va_S.rf
  have hP : va_P (dC, dI) vwCl [(h0, .inr (6, [.ref b0, .ref b1, .ref b2, .ref b3, .int rs, .int vc, .int wv, .int bw])), (o9, .inl (cl, 1, .inr (.inl fo)))] s.heap := hP
  have hl := lv_entry ([.ref h0, .int p0, .ref o9]) (n := 4) (Nat.le_of_ble_eq_true rfl)
  rw [lg_entry_eq]
  generalize (lg_sl ([.ref h0, .int p0, .ref o9]) ++ List.replicate (4 - (lg_sl ([.ref h0, .int p0, .ref o9])).length) Slot.unset).toArray = ls at hl ⊢
  have hl : lv_has ls 4 [(0, .ref h0), (1, .int p0), (2, .ref o9)] := hl
  obtain ⟨H, hH⟩ : ∃ H : Heap, H = s.heap := ⟨_, rfl⟩
  rw [← hH] at hP
  have hS : va_S A s.heap H [] := by rw [hH]; exact va_S.rf
  show W p l e _ s m _ below meth c s.heap [] 0 0 _ _
  rw [← hH]
  have hTab := th_table B (atoms_spec (ws := (wh y_Lw_count method_7_code 4 (some .int) [(0, 9, 12, 13)])) B.pre _ List.mem_cons_self)
  refine lv_aload_n hx hb d_Lw_count_0 rfl (lv_at hl 2 rfl) ?_
  refine lv_iconst (v := 0) hx hb d_Lw_count_1 (by decide) ?_
  refine lv_aload_n hx hb d_Lw_count_2 rfl (lv_at hl 0 rfl) ?_
  refine lv_iload_n hx hb d_Lw_count_3 rfl (lv_at hl 1 rfl) ?_
  have hPc := hP.sub (ws' := [(h0, .inr (6, [.ref b0, .ref b1, .ref b2, .ref b3, .int rs, .int vc, .int wv, .int bw]))]) [0] rfl
  have hDc := hD.sub (ws' := [(h0, .inr (6, [.ref b0, .ref b1, .ref b2, .ref b3, .int rs, .int vc, .int wv, .int bw]))]) [0] (by decide) rfl
  have hKc := hK.sub (tys' := []) [] rfl
  refine tw_call (As := [.int p0]) (rest := [.int 0, .ref o9]) ⟨hx, hb, hml, hown, hw⟩ (x_Cs_count_1 l hfl dC dI h0 b0 b1 b2 b3 H.size lim rs vc wv bw p0 h) (cb_V (C := R_Cs) 1 hw k_595 k_29 k_592 k_593 k_594 rfl rfl (by decide +kernel) ⟨Nat.le_of_ble_eq_true rfl, Nat.le_of_ble_eq_true rfl⟩) ⟨fun a U g mk q => by obtain ⟨q0, q1, qP, qK, qD, qZ⟩ := q; exact ⟨q0, q1, qP, va_K.moved (u := U) (U := U.calling g mk a) (Vm.Alike.refl U.vm) qK, qD, tw_Z.moved (u := U) (U := U.calling g mk a) (Vm.Alike.refl U.vm) qZ⟩, va_recv hKc hPc (ci := 6) (q0 := 0) rfl rfl, fun U hU hW => ⟨rfl, by rw [hU], by rw [hU]; exact hPc, va_K.moved hW.alike hKc, hDc.weaken (fun _ _ _ _ => trivial), by rw [hU, hH]; exact hz.moved hW.alike⟩⟩ rfl hl.1 rfl (lv_room (Nat.le_of_ble_eq_true rfl)) d_Lw_count_4 ⟨Nat.le_of_ble_eq_true rfl, Nat.le_of_ble_eq_true rfl⟩ (x := ⟨0, 9, 12, 13⟩) (more := []) hTab (by decide) (by decide) (hw (Cond.classLink "ClauseSearchLaw" 13 "java/lang/IllegalArgumentException") k_448) (hw (Cond.castable "java/lang/IllegalArgumentException" "java/lang/IllegalArgumentException") k_456) (fun a9 H1 hle9 hk9 => ?_)
  have hP : va_P (dC, dI) vwCl [(h0, .inr (6, [.ref b0, .ref b1, .ref b2, .ref b3, .int rs, .int vc, .int wv, .int bw])), (o9, .inl (cl, 1, .inr (.inl fo)))] H1 := fun k q h => (hP k q h).kept (hk9 q.1 (hP k q h).lt)
  have hS : va_S A s.heap H1 [] := ⟨Nat.le_trans hS.1 hle9, fun q hq hA9 => (hk9 q (Nat.lt_of_lt_of_le hq hS.1)).trans (hS.2.1 q hq hA9), hS.2.2⟩
  generalize H1 = H at hP hS ⊢
  refine W.widen (k := 1) (n := 6) (by decide) (by decide) ?_
  refine lv_astore_n (lv' := [(3, .ref a9), (0, .ref h0), (1, .int p0), (2, .ref o9)]) hx hb d_Lw_count_12 rfl hl (by decide) rfl (fun ls hl => ?_)
  refine lv_iconst (v := 1) hx hb d_Lw_count_13 (by decide) ?_
  refine W.widen (k := 1) (n := 6) (by decide) (by decide) ?_
  exact W.iret (v := 1) hx hb hr (fun t ht hW => ⟨⟨1, (), rfl, rfl, by rw [ht]; exact hP, va_K.moved hW.alike hK, hD⟩, hS.F ht⟩) hS.2.2 d_Lw_count_14

set_option maxHeartbeats 4000000 in
set_option maxRecDepth 100000 in
/-- the helper of variables, refused -/
theorem c_Lw_variables_2 (l : Launch) (hfl : l.flags = pinnedFlags ++ [noTraceFlag]) (dC : Nat → ClassId) (dI : Nat → Nat → Nat) (h0 : Nat) (b0 : Nat) (b1 : Nat) (b2 : Nat) (b3 : Nat) (o9 : Nat) (cl : ClassId) (sz lim : Nat) (rs : Int32) (vc : Int32) (wv : Int32) (bw : Int32) (p0 : Int32) (fo : Nat → Int64) (h1 : ¬ p0 < 1) (h2 : p0 ≤ 400) (h3 : ¬ vc + p0 ≤ 400) : Met l y_Lw_variables (wh y_Lw_variables method_3_code 4 (some .int) [(0, 9, 12, 13), (0, 9, 15, 15)]) ({ frames := 7, cells := 1, slots := 6, locals := 111 }) (va_Pc [.ref h0, .int p0, .ref o9] (fun U => U.heap.size = sz ∧ va_P (dC, dI) vwCl [(h0, .inr (6, [.ref b0, .ref b1, .ref b2, .ref b3, .int rs, .int vc, .int wv, .int bw])), (o9, .inl (cl, 1, .inr (.inl fo)))] U.heap ∧ va_K (dC, dI) vwCl [(cl, .long)] U ∧ va_D (fun _ => True) [(h0, .inr (6, [.ref b0, .ref b1, .ref b2, .ref b3, .int rs, .int vc, .int wv, .int bw])), (o9, .inl (cl, 1, .inr (.inl fo)))] ∧ tw_Z U U.heap lim)) (va_Qi (fun (r : Int32) (_ : Unit) => r = 2) (fun (_ : Unit) t => va_P (dC, dI) vwCl [(h0, .inr (6, [.ref b0, .ref b1, .ref b2, .ref b3, .int rs, .int vc, .int wv, .int bw])), (o9, .inl (cl, 1, .inr (.inl fo)))] t.heap ∧ va_K (dC, dI) vwCl [(cl, .long)] t ∧ va_D (va_A [(h0, .inr (6, [.ref b0, .ref b1, .ref b2, .ref b3, .int rs, .int vc, .int wv, .int bw])), (o9, .inl (cl, 1, .inr (.inl fo)))] sz) [(h0, .inr (6, [.ref b0, .ref b1, .ref b2, .ref b3, .int rs, .int vc, .int wv, .int bw])), (o9, .inl (cl, 1, .inr (.inl fo)))]) (va_A [(h0, .inr (6, [.ref b0, .ref b1, .ref b2, .ref b3, .int rs, .int vc, .int wv, .int bw])), (o9, .inl (cl, 1, .inr (.inl fo)))] sz)) 1 6 (va_A [(h0, .inr (6, [.ref b0, .ref b1, .ref b2, .ref b3, .int rs, .int vc, .int wv, .int bw])), (o9, .inl (cl, 1, .inr (.inl fo)))] sz) := by
  refine va_MetW (hh := [(0, 9, 12, 13), (0, 9, 15, 15)]) (cc := method_3_code) (maxL := 4) (ret := (some .int)) (by decide) rfl ?_
  intro p e s m args below meth c s₁ B hml hv
  obtain ⟨rfl, hsz, hP, hK, hD0, hz⟩ := hv
  have hx := B.exec
  have hb := B.bytes
  have hr := B.returns
  have hw : ∀ w ∈ bg_W, w.before #[Value.ref h0, Value.int p0, Value.ref o9] s = true := fun w h => atoms_spec (ws := (wh y_Lw_variables method_3_code 4 (some .int) [(0, 9, 12, 13), (0, 9, 15, 15)])) B.pre w (List.mem_cons_of_mem _ h)
  have hown : s.vm.findClass R_Lw = some m.cls := findClass_of_methodNamed B.named
  have hlocks := B.notSynchronized
  subst hsz
  have hD := hD0.self (sz := s.heap.size)
  generalize hAe : va_A [(h0, .inr (6, [.ref b0, .ref b1, .ref b2, .ref b3, .int rs, .int vc, .int wv, .int bw])), (o9, .inl (cl, 1, .inr (.inl fo)))] s.heap.size = A at hD ⊢
  have hA : ∀ q : Nat, s.heap.size ≤ q → A q := fun q h => by rw [← hAe]; exact Or.inr h
  have hS : va_S A s.heap s.heap [] := va_S.rf
  have hP : va_P (dC, dI) vwCl [(h0, .inr (6, [.ref b0, .ref b1, .ref b2, .ref b3, .int rs, .int vc, .int wv, .int bw])), (o9, .inl (cl, 1, .inr (.inl fo)))] s.heap := hP
  have hl := lv_entry ([.ref h0, .int p0, .ref o9]) (n := 4) (Nat.le_of_ble_eq_true rfl)
  rw [lg_entry_eq]
  generalize (lg_sl ([.ref h0, .int p0, .ref o9]) ++ List.replicate (4 - (lg_sl ([.ref h0, .int p0, .ref o9])).length) Slot.unset).toArray = ls at hl ⊢
  have hl : lv_has ls 4 [(0, .ref h0), (1, .int p0), (2, .ref o9)] := hl
  obtain ⟨H, hH⟩ : ∃ H : Heap, H = s.heap := ⟨_, rfl⟩
  rw [← hH] at hP
  have hS : va_S A s.heap H [] := by rw [hH]; exact va_S.rf
  show W p l e _ s m _ below meth c s.heap [] 0 0 _ _
  rw [← hH]
  have hTab := th_table B (atoms_spec (ws := (wh y_Lw_variables method_3_code 4 (some .int) [(0, 9, 12, 13), (0, 9, 15, 15)])) B.pre _ List.mem_cons_self)
  refine lv_aload_n hx hb d_Lw_variables_0 rfl (lv_at hl 2 rfl) ?_
  refine lv_iconst (v := 0) hx hb d_Lw_variables_1 (by decide) ?_
  refine lv_aload_n hx hb d_Lw_variables_2 rfl (lv_at hl 0 rfl) ?_
  refine lv_iload_n hx hb d_Lw_variables_3 rfl (lv_at hl 1 rfl) ?_
  have hPc := hP.sub (ws' := [(h0, .inr (6, [.ref b0, .ref b1, .ref b2, .ref b3, .int rs, .int vc, .int wv, .int bw]))]) [0] rfl
  have hDc := hD.sub (ws' := [(h0, .inr (6, [.ref b0, .ref b1, .ref b2, .ref b3, .int rs, .int vc, .int wv, .int bw]))]) [0] (by decide) rfl
  have hKc := hK.sub (tys' := []) [] rfl
  refine tw_call2 (As := [.int p0]) (rest := [.int 0, .ref o9]) ⟨hx, hb, hml, hown, hw⟩ (x_Cs_variables_2 l hfl dC dI h0 b0 b1 b2 b3 H.size lim rs vc wv bw p0 h1 h2 h3) (cb_V (C := R_Cs) 1 hw k_453 k_29 k_450 k_451 k_452 rfl rfl (by decide +kernel) ⟨Nat.le_of_ble_eq_true rfl, Nat.le_of_ble_eq_true rfl⟩) ⟨fun a U g mk q => by obtain ⟨q0, q1, qP, qK, qD, qZ⟩ := q; exact ⟨q0, q1, qP, va_K.moved (u := U) (U := U.calling g mk a) (Vm.Alike.refl U.vm) qK, qD, tw_Z.moved (u := U) (U := U.calling g mk a) (Vm.Alike.refl U.vm) qZ⟩, va_recv hKc hPc (ci := 6) (q0 := 0) rfl rfl, fun U hU hW => ⟨rfl, by rw [hU], by rw [hU]; exact hPc, va_K.moved hW.alike hKc, hDc.weaken (fun _ _ _ _ => trivial), by rw [hU, hH]; exact hz.moved hW.alike⟩⟩ rfl hl.1 rfl (lv_room (Nat.le_of_ble_eq_true rfl)) d_Lw_variables_4 ⟨Nat.le_of_ble_eq_true rfl, Nat.le_of_ble_eq_true rfl⟩ (x := ⟨0, 9, 12, 13⟩) (x2 := ⟨0, 9, 15, 15⟩) (more := []) hTab (by decide) (by decide) (by decide) (by decide) (hw (Cond.classLink "ClauseSearchLaw" 13 "java/lang/IllegalArgumentException") k_448) (hw (Cond.classLink "ClauseSearchLaw" 15 "java/lang/IndexOutOfBoundsException") k_449) (hw (Cond.castable "java/lang/IndexOutOfBoundsException" "java/lang/IndexOutOfBoundsException") k_523) hz.2.2.1 (fun a9 H1 hle9 hk9 => ?_)
  have hP : va_P (dC, dI) vwCl [(h0, .inr (6, [.ref b0, .ref b1, .ref b2, .ref b3, .int rs, .int vc, .int wv, .int bw])), (o9, .inl (cl, 1, .inr (.inl fo)))] H1 := fun k q h => (hP k q h).kept (hk9 q.1 (hP k q h).lt)
  have hS : va_S A s.heap H1 [] := ⟨Nat.le_trans hS.1 hle9, fun q hq hA9 => (hk9 q (Nat.lt_of_lt_of_le hq hS.1)).trans (hS.2.1 q hq hA9), hS.2.2⟩
  generalize H1 = H at hP hS ⊢
  refine W.widen (k := 1) (n := 6) (by decide) (by decide) ?_
  refine lv_astore_n (lv' := [(3, .ref a9), (0, .ref h0), (1, .int p0), (2, .ref o9)]) hx hb d_Lw_variables_15 rfl hl (by decide) rfl (fun ls hl => ?_)
  refine lv_iconst (v := 2) hx hb d_Lw_variables_16 (by decide) ?_
  refine W.widen (k := 1) (n := 6) (by decide) (by decide) ?_
  exact W.iret (v := 2) hx hb hr (fun t ht hW => ⟨⟨2, (), rfl, rfl, by rw [ht]; exact hP, va_K.moved hW.alike hK, hD⟩, hS.F ht⟩) hS.2.2 d_Lw_variables_17

set_option maxHeartbeats 4000000 in
set_option maxRecDepth 100000 in
/-- the helper of give, refused -/
theorem c_Lw_give_2 (l : Launch) (hfl : l.flags = pinnedFlags ++ [noTraceFlag]) (dC : Nat → ClassId) (dI : Nat → Nat → Nat) (h0 : Nat) (b0 : Nat) (b1 : Nat) (b2 : Nat) (b3 : Nat) (o9 : Nat) (cl : ClassId) (sz lim : Nat) (rs : Int32) (vc : Int32) (wv : Int32) (bw : Int32) (p0 : Int32) (fo : Nat → Int64) (h1 : ¬ p0 = 0) (h2 : ¬ vc < p0) (h3 : -vc ≤ p0) (h4 : ¬ rs < 20) : Met l y_Lw_give (wh y_Lw_give method_4_code 4 (some .int) [(0, 9, 12, 13), (0, 9, 15, 15)]) ({ frames := 7, cells := 1, slots := 6, locals := 111 }) (va_Pc [.ref h0, .int p0, .ref o9] (fun U => U.heap.size = sz ∧ va_P (dC, dI) vwCl [(h0, .inr (6, [.ref b0, .ref b1, .ref b2, .ref b3, .int rs, .int vc, .int wv, .int bw])), (o9, .inl (cl, 1, .inr (.inl fo)))] U.heap ∧ va_K (dC, dI) vwCl [(cl, .long)] U ∧ va_D (fun _ => True) [(h0, .inr (6, [.ref b0, .ref b1, .ref b2, .ref b3, .int rs, .int vc, .int wv, .int bw])), (o9, .inl (cl, 1, .inr (.inl fo)))] ∧ tw_Z U U.heap lim)) (va_Qi (fun (r : Int32) (_ : Unit) => r = 2) (fun (_ : Unit) t => va_P (dC, dI) vwCl [(h0, .inr (6, [.ref b0, .ref b1, .ref b2, .ref b3, .int rs, .int vc, .int wv, .int bw])), (o9, .inl (cl, 1, .inr (.inl fo)))] t.heap ∧ va_K (dC, dI) vwCl [(cl, .long)] t ∧ va_D (va_A [(h0, .inr (6, [.ref b0, .ref b1, .ref b2, .ref b3, .int rs, .int vc, .int wv, .int bw])), (o9, .inl (cl, 1, .inr (.inl fo)))] sz) [(h0, .inr (6, [.ref b0, .ref b1, .ref b2, .ref b3, .int rs, .int vc, .int wv, .int bw])), (o9, .inl (cl, 1, .inr (.inl fo)))]) (va_A [(h0, .inr (6, [.ref b0, .ref b1, .ref b2, .ref b3, .int rs, .int vc, .int wv, .int bw])), (o9, .inl (cl, 1, .inr (.inl fo)))] sz)) 1 6 (va_A [(h0, .inr (6, [.ref b0, .ref b1, .ref b2, .ref b3, .int rs, .int vc, .int wv, .int bw])), (o9, .inl (cl, 1, .inr (.inl fo)))] sz) := by
  refine va_MetW (hh := [(0, 9, 12, 13), (0, 9, 15, 15)]) (cc := method_4_code) (maxL := 4) (ret := (some .int)) (by decide) rfl ?_
  intro p e s m args below meth c s₁ B hml hv
  obtain ⟨rfl, hsz, hP, hK, hD0, hz⟩ := hv
  have hx := B.exec
  have hb := B.bytes
  have hr := B.returns
  have hw : ∀ w ∈ bg_W, w.before #[Value.ref h0, Value.int p0, Value.ref o9] s = true := fun w h => atoms_spec (ws := (wh y_Lw_give method_4_code 4 (some .int) [(0, 9, 12, 13), (0, 9, 15, 15)])) B.pre w (List.mem_cons_of_mem _ h)
  have hown : s.vm.findClass R_Lw = some m.cls := findClass_of_methodNamed B.named
  have hlocks := B.notSynchronized
  subst hsz
  have hD := hD0.self (sz := s.heap.size)
  generalize hAe : va_A [(h0, .inr (6, [.ref b0, .ref b1, .ref b2, .ref b3, .int rs, .int vc, .int wv, .int bw])), (o9, .inl (cl, 1, .inr (.inl fo)))] s.heap.size = A at hD ⊢
  have hA : ∀ q : Nat, s.heap.size ≤ q → A q := fun q h => by rw [← hAe]; exact Or.inr h
  have hS : va_S A s.heap s.heap [] := va_S.rf
  have hP : va_P (dC, dI) vwCl [(h0, .inr (6, [.ref b0, .ref b1, .ref b2, .ref b3, .int rs, .int vc, .int wv, .int bw])), (o9, .inl (cl, 1, .inr (.inl fo)))] s.heap := hP
  have hl := lv_entry ([.ref h0, .int p0, .ref o9]) (n := 4) (Nat.le_of_ble_eq_true rfl)
  rw [lg_entry_eq]
  generalize (lg_sl ([.ref h0, .int p0, .ref o9]) ++ List.replicate (4 - (lg_sl ([.ref h0, .int p0, .ref o9])).length) Slot.unset).toArray = ls at hl ⊢
  have hl : lv_has ls 4 [(0, .ref h0), (1, .int p0), (2, .ref o9)] := hl
  obtain ⟨H, hH⟩ : ∃ H : Heap, H = s.heap := ⟨_, rfl⟩
  rw [← hH] at hP
  have hS : va_S A s.heap H [] := by rw [hH]; exact va_S.rf
  show W p l e _ s m _ below meth c s.heap [] 0 0 _ _
  rw [← hH]
  have hTab := th_table B (atoms_spec (ws := (wh y_Lw_give method_4_code 4 (some .int) [(0, 9, 12, 13), (0, 9, 15, 15)])) B.pre _ List.mem_cons_self)
  refine lv_aload_n hx hb d_Lw_give_0 rfl (lv_at hl 2 rfl) ?_
  refine lv_iconst (v := 0) hx hb d_Lw_give_1 (by decide) ?_
  refine lv_aload_n hx hb d_Lw_give_2 rfl (lv_at hl 0 rfl) ?_
  refine lv_iload_n hx hb d_Lw_give_3 rfl (lv_at hl 1 rfl) ?_
  have hPc := hP.sub (ws' := [(h0, .inr (6, [.ref b0, .ref b1, .ref b2, .ref b3, .int rs, .int vc, .int wv, .int bw]))]) [0] rfl
  have hDc := hD.sub (ws' := [(h0, .inr (6, [.ref b0, .ref b1, .ref b2, .ref b3, .int rs, .int vc, .int wv, .int bw]))]) [0] (by decide) rfl
  have hKc := hK.sub (tys' := []) [] rfl
  refine tw_call2 (As := [.int p0]) (rest := [.int 0, .ref o9]) ⟨hx, hb, hml, hown, hw⟩ (x_Cs_give_2 l hfl dC dI h0 b0 b1 b2 b3 H.size lim rs vc wv bw p0 h1 h2 h3 h4) (cb_V (C := R_Cs) 1 hw k_543 k_29 k_540 k_541 k_542 rfl rfl (by decide +kernel) ⟨Nat.le_of_ble_eq_true rfl, Nat.le_of_ble_eq_true rfl⟩) ⟨fun a U g mk q => by obtain ⟨q0, q1, qP, qK, qD, qZ⟩ := q; exact ⟨q0, q1, qP, va_K.moved (u := U) (U := U.calling g mk a) (Vm.Alike.refl U.vm) qK, qD, tw_Z.moved (u := U) (U := U.calling g mk a) (Vm.Alike.refl U.vm) qZ⟩, va_recv hKc hPc (ci := 6) (q0 := 0) rfl rfl, fun U hU hW => ⟨rfl, by rw [hU], by rw [hU]; exact hPc, va_K.moved hW.alike hKc, hDc.weaken (fun _ _ _ _ => trivial), by rw [hU, hH]; exact hz.moved hW.alike⟩⟩ rfl hl.1 rfl (lv_room (Nat.le_of_ble_eq_true rfl)) d_Lw_give_4 ⟨Nat.le_of_ble_eq_true rfl, Nat.le_of_ble_eq_true rfl⟩ (x := ⟨0, 9, 12, 13⟩) (x2 := ⟨0, 9, 15, 15⟩) (more := []) hTab (by decide) (by decide) (by decide) (by decide) (hw (Cond.classLink "ClauseSearchLaw" 13 "java/lang/IllegalArgumentException") k_448) (hw (Cond.classLink "ClauseSearchLaw" 15 "java/lang/IndexOutOfBoundsException") k_449) (hw (Cond.castable "java/lang/IndexOutOfBoundsException" "java/lang/IndexOutOfBoundsException") k_523) hz.2.2.1 (fun a9 H1 hle9 hk9 => ?_)
  have hP : va_P (dC, dI) vwCl [(h0, .inr (6, [.ref b0, .ref b1, .ref b2, .ref b3, .int rs, .int vc, .int wv, .int bw])), (o9, .inl (cl, 1, .inr (.inl fo)))] H1 := fun k q h => (hP k q h).kept (hk9 q.1 (hP k q h).lt)
  have hS : va_S A s.heap H1 [] := ⟨Nat.le_trans hS.1 hle9, fun q hq hA9 => (hk9 q (Nat.lt_of_lt_of_le hq hS.1)).trans (hS.2.1 q hq hA9), hS.2.2⟩
  generalize H1 = H at hP hS ⊢
  refine W.widen (k := 1) (n := 6) (by decide) (by decide) ?_
  refine lv_astore_n (lv' := [(3, .ref a9), (0, .ref h0), (1, .int p0), (2, .ref o9)]) hx hb d_Lw_give_15 rfl hl (by decide) rfl (fun ls hl => ?_)
  refine lv_iconst (v := 2) hx hb d_Lw_give_16 (by decide) ?_
  refine W.widen (k := 1) (n := 6) (by decide) (by decide) ?_
  exact W.iret (v := 2) hx hb hr (fun t ht hW => ⟨⟨2, (), rfl, rfl, by rw [ht]; exact hP, va_K.moved hW.alike hK, hD⟩, hS.F ht⟩) hS.2.2 d_Lw_give_17

set_option maxHeartbeats 4000000 in
set_option maxRecDepth 100000 in
/-- the helper of value, refused -/
theorem c_Lw_value_2 (l : Launch) (hfl : l.flags = pinnedFlags ++ [noTraceFlag]) (dC : Nat → ClassId) (dI : Nat → Nat → Nat) (h0 : Nat) (b0 : Nat) (b1 : Nat) (b2 : Nat) (b3 : Nat) (o9 : Nat) (cl : ClassId) (sz lim : Nat) (rs : Int32) (vc : Int32) (wv : Int32) (bw : Int32) (p0 : Int32) (fo : Nat → Int64) (h1 : ¬ p0 < 1) (h2 : p0 ≤ vc) (h3 : wv = 0) : Met l y_Lw_value (wh y_Lw_value method_6_code 4 (some .int) [(0, 16, 19, 13), (0, 16, 22, 24)]) ({ frames := 7, cells := 1, slots := 6, locals := 111 }) (va_Pc [.ref h0, .int p0, .ref o9] (fun U => U.heap.size = sz ∧ va_P (dC, dI) vwCl [(h0, .inr (6, [.ref b0, .ref b1, .ref b2, .ref b3, .int rs, .int vc, .int wv, .int bw])), (o9, .inl (cl, 1, .inr (.inl fo)))] U.heap ∧ va_K (dC, dI) vwCl [(cl, .long)] U ∧ va_D (fun _ => True) [(h0, .inr (6, [.ref b0, .ref b1, .ref b2, .ref b3, .int rs, .int vc, .int wv, .int bw])), (o9, .inl (cl, 1, .inr (.inl fo)))] ∧ tw_Z U U.heap lim)) (va_Qi (fun (r : Int32) (_ : Unit) => r = 2) (fun (_ : Unit) t => va_P (dC, dI) vwCl [(h0, .inr (6, [.ref b0, .ref b1, .ref b2, .ref b3, .int rs, .int vc, .int wv, .int bw])), (o9, .inl (cl, 1, .inr (.inl fo)))] t.heap ∧ va_K (dC, dI) vwCl [(cl, .long)] t ∧ va_D (va_A [(h0, .inr (6, [.ref b0, .ref b1, .ref b2, .ref b3, .int rs, .int vc, .int wv, .int bw])), (o9, .inl (cl, 1, .inr (.inl fo)))] sz) [(h0, .inr (6, [.ref b0, .ref b1, .ref b2, .ref b3, .int rs, .int vc, .int wv, .int bw])), (o9, .inl (cl, 1, .inr (.inl fo)))]) (va_A [(h0, .inr (6, [.ref b0, .ref b1, .ref b2, .ref b3, .int rs, .int vc, .int wv, .int bw])), (o9, .inl (cl, 1, .inr (.inl fo)))] sz)) 1 6 (va_A [(h0, .inr (6, [.ref b0, .ref b1, .ref b2, .ref b3, .int rs, .int vc, .int wv, .int bw])), (o9, .inl (cl, 1, .inr (.inl fo)))] sz) := by
  refine va_MetW (hh := [(0, 16, 19, 13), (0, 16, 22, 24)]) (cc := method_6_code) (maxL := 4) (ret := (some .int)) (by decide) rfl ?_
  intro p e s m args below meth c s₁ B hml hv
  obtain ⟨rfl, hsz, hP, hK, hD0, hz⟩ := hv
  have hx := B.exec
  have hb := B.bytes
  have hr := B.returns
  have hw : ∀ w ∈ bg_W, w.before #[Value.ref h0, Value.int p0, Value.ref o9] s = true := fun w h => atoms_spec (ws := (wh y_Lw_value method_6_code 4 (some .int) [(0, 16, 19, 13), (0, 16, 22, 24)])) B.pre w (List.mem_cons_of_mem _ h)
  have hown : s.vm.findClass R_Lw = some m.cls := findClass_of_methodNamed B.named
  have hlocks := B.notSynchronized
  subst hsz
  have hD := hD0.self (sz := s.heap.size)
  generalize hAe : va_A [(h0, .inr (6, [.ref b0, .ref b1, .ref b2, .ref b3, .int rs, .int vc, .int wv, .int bw])), (o9, .inl (cl, 1, .inr (.inl fo)))] s.heap.size = A at hD ⊢
  have hA : ∀ q : Nat, s.heap.size ≤ q → A q := fun q h => by rw [← hAe]; exact Or.inr h
  have hS : va_S A s.heap s.heap [] := va_S.rf
  have hP : va_P (dC, dI) vwCl [(h0, .inr (6, [.ref b0, .ref b1, .ref b2, .ref b3, .int rs, .int vc, .int wv, .int bw])), (o9, .inl (cl, 1, .inr (.inl fo)))] s.heap := hP
  have hl := lv_entry ([.ref h0, .int p0, .ref o9]) (n := 4) (Nat.le_of_ble_eq_true rfl)
  rw [lg_entry_eq]
  generalize (lg_sl ([.ref h0, .int p0, .ref o9]) ++ List.replicate (4 - (lg_sl ([.ref h0, .int p0, .ref o9])).length) Slot.unset).toArray = ls at hl ⊢
  have hl : lv_has ls 4 [(0, .ref h0), (1, .int p0), (2, .ref o9)] := hl
  obtain ⟨H, hH⟩ : ∃ H : Heap, H = s.heap := ⟨_, rfl⟩
  rw [← hH] at hP
  have hS : va_S A s.heap H [] := by rw [hH]; exact va_S.rf
  show W p l e _ s m _ below meth c s.heap [] 0 0 _ _
  rw [← hH]
  have hTab := th_table B (atoms_spec (ws := (wh y_Lw_value method_6_code 4 (some .int) [(0, 16, 19, 13), (0, 16, 22, 24)])) B.pre _ List.mem_cons_self)
  refine lv_aload_n hx hb d_Lw_value_0 rfl (lv_at hl 2 rfl) ?_
  refine lv_iconst (v := 0) hx hb d_Lw_value_1 (by decide) ?_
  refine lv_aload_n hx hb d_Lw_value_2 rfl (lv_at hl 0 rfl) ?_
  refine lv_iload_n hx hb d_Lw_value_3 rfl (lv_at hl 1 rfl) ?_
  have hPc := hP.sub (ws' := [(h0, .inr (6, [.ref b0, .ref b1, .ref b2, .ref b3, .int rs, .int vc, .int wv, .int bw]))]) [0] rfl
  have hDc := hD.sub (ws' := [(h0, .inr (6, [.ref b0, .ref b1, .ref b2, .ref b3, .int rs, .int vc, .int wv, .int bw]))]) [0] (by decide) rfl
  have hKc := hK.sub (tys' := []) [] rfl
  refine tw_call2 (As := [.int p0]) (rest := [.int 0, .ref o9]) ⟨hx, hb, hml, hown, hw⟩ (x_Cs_value_2 l hfl dC dI h0 b0 b1 b2 b3 H.size lim rs vc wv bw p0 h1 h2 h3) (cb_V (C := R_Cs) 1 hw k_586 k_29 k_583 k_584 k_585 rfl rfl (by decide +kernel) ⟨Nat.le_of_ble_eq_true rfl, Nat.le_of_ble_eq_true rfl⟩) ⟨fun a U g mk q => by obtain ⟨q0, q1, qP, qK, qD, qZ⟩ := q; exact ⟨q0, q1, qP, va_K.moved (u := U) (U := U.calling g mk a) (Vm.Alike.refl U.vm) qK, qD, tw_Z.moved (u := U) (U := U.calling g mk a) (Vm.Alike.refl U.vm) qZ⟩, va_recv hKc hPc (ci := 6) (q0 := 0) rfl rfl, fun U hU hW => ⟨rfl, by rw [hU], by rw [hU]; exact hPc, va_K.moved hW.alike hKc, hDc.weaken (fun _ _ _ _ => trivial), by rw [hU, hH]; exact hz.moved hW.alike⟩⟩ rfl hl.1 rfl (lv_room (Nat.le_of_ble_eq_true rfl)) d_Lw_value_4 ⟨Nat.le_of_ble_eq_true rfl, Nat.le_of_ble_eq_true rfl⟩ (x := ⟨0, 16, 19, 13⟩) (x2 := ⟨0, 16, 22, 24⟩) (more := []) hTab (by decide) (by decide) (by decide) (by decide) (hw (Cond.classLink "ClauseSearchLaw" 13 "java/lang/IllegalArgumentException") k_448) (hw (Cond.classLink "ClauseSearchLaw" 24 "java/lang/IllegalStateException") k_549) (hw (Cond.castable "java/lang/IllegalStateException" "java/lang/IllegalStateException") k_556) hz.2.2.2 (fun a9 H1 hle9 hk9 => ?_)
  have hP : va_P (dC, dI) vwCl [(h0, .inr (6, [.ref b0, .ref b1, .ref b2, .ref b3, .int rs, .int vc, .int wv, .int bw])), (o9, .inl (cl, 1, .inr (.inl fo)))] H1 := fun k q h => (hP k q h).kept (hk9 q.1 (hP k q h).lt)
  have hS : va_S A s.heap H1 [] := ⟨Nat.le_trans hS.1 hle9, fun q hq hA9 => (hk9 q (Nat.lt_of_lt_of_le hq hS.1)).trans (hS.2.1 q hq hA9), hS.2.2⟩
  generalize H1 = H at hP hS ⊢
  refine W.widen (k := 1) (n := 6) (by decide) (by decide) ?_
  refine lv_astore_n (lv' := [(3, .ref a9), (0, .ref h0), (1, .int p0), (2, .ref o9)]) hx hb d_Lw_value_22 rfl hl (by decide) rfl (fun ls hl => ?_)
  refine lv_iconst (v := 2) hx hb d_Lw_value_23 (by decide) ?_
  refine W.widen (k := 1) (n := 6) (by decide) (by decide) ?_
  exact W.iret (v := 2) hx hb hr (fun t ht hW => ⟨⟨2, (), rfl, rfl, by rw [ht]; exact hP, va_K.moved hW.alike hK, hD⟩, hS.F ht⟩) hS.2.2 d_Lw_value_24
