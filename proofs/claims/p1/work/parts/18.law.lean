abbrev y_Lw_law : MethodName := ⟨"ClauseSearchLaw", "law", "([I)Z"⟩
theorem k_46 : (Cond.classLink "ClauseSearchLaw" 8 "ClauseSearch") ∈ bg_W := bg_in 46 (by decide +kernel) (by decide +kernel)
theorem k_47 : (Cond.instantiable "ClauseSearch" 8) ∈ bg_W := bg_in 47 (by decide +kernel) (by decide +kernel)
theorem k_48 : (Cond.methodLink "ClauseSearchLaw" 33 ⟨"ClauseSearch", "<init>", "()V"⟩) ∈ bg_W := bg_in 48 (by decide +kernel) (by decide +kernel)
theorem k_49 : (Cond.instanceMethod ⟨"ClauseSearch", "<init>", "()V"⟩) ∈ bg_W := bg_in 49 (by decide +kernel) (by decide +kernel)
theorem k_50 : (Cond.code ⟨"ClauseSearch", "<init>", "()V"⟩ prog_1_method_1_code 1 none) ∈ bg_W := bg_in 50 (by decide +kernel) (by decide +kernel)
theorem k_597 : (Cond.classLink "ClauseSearchLaw" 34 "ClauseSearchModel") ∈ bg_W := bg_in 597 (by decide +kernel) (by decide +kernel)
theorem k_598 : (Cond.instantiable "ClauseSearchModel" 15) ∈ bg_W := bg_in 598 (by decide +kernel) (by decide +kernel)
theorem k_599 : (Cond.methodLink "ClauseSearchLaw" 36 ⟨"ClauseSearchModel", "<init>", "()V"⟩) ∈ bg_W := bg_in 599 (by decide +kernel) (by decide +kernel)
theorem k_600 : (Cond.instanceMethod ⟨"ClauseSearchModel", "<init>", "()V"⟩) ∈ bg_W := bg_in 600 (by decide +kernel) (by decide +kernel)
theorem k_601 : (Cond.code ⟨"ClauseSearchModel", "<init>", "()V"⟩ prog_9_method_1_code 1 none) ∈ bg_W := bg_in 601 (by decide +kernel) (by decide +kernel)
theorem k_706 : (Cond.arrayClass .long) ∈ bg_W := bg_in 706 (by decide +kernel) (by decide +kernel)
theorem d_Lw_law_23 : decode code 23 = .ok (.iload 4, 2) := by decide +kernel
theorem d_Lw_law_25 : decode code 25 = .ok (.aload_n 0, 1) := by decide +kernel
theorem d_Lw_law_26 : decode code 26 = .ok (.arraylength, 1) := by decide +kernel
theorem d_Lw_law_27 : decode code 27 = .ok (.iconst 2, 1) := by decide +kernel
theorem d_Lw_law_28 : decode code 28 = .ok (.isub, 1) := by decide +kernel
theorem d_Lw_law_29 : decode code 29 = .ok (.if_icmp .gt 341, 3) := by decide +kernel
theorem d_Lw_law_370 : decode code 370 = .ok (.iconst 1, 1) := by decide +kernel
theorem d_Lw_law_371 : decode code 371 = .ok (.ireturn, 1) := by decide +kernel
theorem d_Lw_law_0 : decode code 0 = .ok (.new 8, 3) := by decide +kernel
theorem d_Lw_law_3 : decode code 3 = .ok (.dup, 1) := by decide +kernel
theorem d_Lw_law_4 : decode code 4 = .ok (.invokespecial 33, 3) := by decide +kernel
theorem d_Lw_law_7 : decode code 7 = .ok (.astore_n 1, 1) := by decide +kernel
theorem d_Lw_law_8 : decode code 8 = .ok (.new 34, 3) := by decide +kernel
theorem d_Lw_law_11 : decode code 11 = .ok (.dup, 1) := by decide +kernel
theorem d_Lw_law_12 : decode code 12 = .ok (.invokespecial 36, 3) := by decide +kernel
theorem d_Lw_law_15 : decode code 15 = .ok (.astore_n 2, 1) := by decide +kernel
theorem d_Lw_law_16 : decode code 16 = .ok (.iconst 1, 1) := by decide +kernel
theorem d_Lw_law_17 : decode code 17 = .ok (.newarray .long, 2) := by decide +kernel
theorem d_Lw_law_19 : decode code 19 = .ok (.astore_n 3, 1) := by decide +kernel
theorem d_Lw_law_20 : decode code 20 = .ok (.iconst 0, 1) := by decide +kernel
theorem d_Lw_law_21 : decode code 21 = .ok (.istore 4, 2) := by decide +kernel
def R_law : String := "ClauseSearchLaw"
def lw_P (b : Addr) (xs : List Int32) (args : Array Value) (s : State) : Prop := args = #[.ref b] ∧ s.IntsAt b xs ∧ xs.length ≤ 2 ∧ (Jvm.Cond.and given_1 narrow_1).before args s = true
def lw_Q (_ : Array Value) (s : State) (o : Outcome) (t : State) : Prop := o = .returned (some (.int 1)) ∧ Framed s o t [] 600002 7302231
def lw_Z (below : List Frame) (a : Array Value) (s : State) : State → Prop := fun t => ∃ o, t.status = .running ∧ Ended t below o ∧ lw_Q a s o t
/-- the law's own end, with 1 on the stack, nothing written that was there before, its room as the claim has it -/
theorem lw_ret {p : Program} {l : Launch} {e : Env} {s : State} {m : MethodId} {below : List Frame} {meth : Method} {c : Code} {b : Nat} (hx : p.tables.exec = Jvm.exec) (hb : c.code = code) (hr : meth.sig.returnType = ret) (hlocks : meth.locks = false) {pc : Nat} {H : Heap} {ls : Array Slot} (hdg : decode code pc = .ok (.ireturn, 1)) : W p l e room_1 s m #[Value.ref b] below meth c H [] 600002 7302231 (lw_Z below #[Value.ref b] s) (F0 m pc ls [.int 1]) := by
  intro T hT X
  obtain ⟨fs, hret, hrun, hended, hW, hframe⟩ := X.leave (v := some (.int 1)) (hlocks := hlocks) (fun h => by rw [hr] at h; cases h)
  have hmeth' : T.vm.method? m = some meth := X.method'
  refine ⟨T.setFrames fs, ?_, .returned (some (.int 1)), hrun, hended, rfl, ⟨_, rfl⟩, hW, hframe⟩
  jvm_step X.here [X.here.top, hx, hb, hdg, hmeth', hr, ret, narrow_b1]
  (try refine ⟨rfl, ?_⟩); (try refine ⟨rfl, ?_⟩)
  first | (intro acts; rw [hret _ acts rfl rfl rfl]) | rw [hret _ _ rfl rfl rfl]
  exact Steps.refl _
/-- what holds at the law's entry: the machine, the code, the tables' words (any of lw_tbl by 'hts w (by decide +kernel)'), the script of L ints xs at the cell b, what the Statement gives of the start (any of its parts by flat_of_before) -/
def lw_At (p : Program) (s : State) (m : MethodId) (meth : Method) (c : Code) (b L : Nat) (xs : Nat → Int32) : Prop :=
  p.tables.exec = Jvm.exec ∧ c.code = code ∧ meth.sig.returnType = ret ∧ c.maxLocals = 7 ∧ s.vm.findClass R_law = some m.cls ∧ (∀ w ∈ lw_tbl, w.before #[Value.ref b] s = true) ∧ va_X b L xs s s.heap ∧ b < s.heap.size ∧ meth.locks = false ∧ (Jvm.Cond.and given_1 narrow_1).before #[Value.ref b] s = true
theorem lg_self (x : Int64) : lg_cmp x x = 0 := by simp [lg_cmp]
theorem tri_z (x : Int32) : x = 0 ∨ 0 < x ∨ x < -0 := by
  by_cases h : x = 0
  · exact Or.inl h
  · by_cases h2 : 0 < x
    · exact Or.inr (Or.inl h2)
    · refine Or.inr (Or.inr ?_)
      have h3 : x.toInt ≠ 0 := fun q => h (Int32.toInt_inj.mp (q.trans rfl))
      rw [Int32.lt_iff_toInt_lt] at h2 ⊢
      have h4 : (0 : Int32).toInt = 0 := rfl
      have h5 : (-0 : Int32).toInt = 0 := rfl
      omega
theorem one_z (x : Int32) : x < 1 ∨ 0 < x := by
  by_cases h : 0 < x
  · exact Or.inr h
  · refine Or.inl ?_
    rw [Int32.lt_iff_toInt_lt] at h ⊢
    have h4 : (0 : Int32).toInt = 0 := rfl
    have h5 : (1 : Int32).toInt = 1 := rfl
    omega
set_option maxHeartbeats 4000000 in
set_option maxRecDepth 100000 in
/-- the loop ends: the law answers true -/
theorem lw_exit {p : Program} {l : Launch} {e : Env} {s : State} {m : MethodId} {below : List Frame} {meth : Method} {c : Code} {b : Nat} {xs : Nat → Int32} {L cells slots : Nat} (C0 : lw_At p s m meth c b L xs) (hc : cells ≤ 600002) (hs : slots ≤ 7302231) (H : Heap) (locs : List Loc) (ls : Array Slot) (x4 : Int32) (hc9 : Int32.ofNat L - 2 < x4) (hS : va_S (fun q : Nat => s.heap.size ≤ q) s.heap H locs) (hl : lv_has ls 7 [(0, .ref b), (4, .int x4)]) : W p l e room_1 s m #[Value.ref b] below meth c H locs cells slots (lw_Z below #[Value.ref b] s) (F0 m 23 ls []) := by
  obtain ⟨hx, hb, hr, hml, hown, hts, hX, hbl, hlocks, hgv⟩ := C0
  have hw : ∀ w ∈ bg_W, w.before #[Value.ref b] s = true := fun w h => hts w (bg_sub w h)
  have hown : s.vm.findClass R_Lw = some m.cls := hown
  have hA : ∀ q : Nat, s.heap.size ≤ q → (fun q : Nat => s.heap.size ≤ q) q := fun _ h => h
  have hbA : ¬ (fun q : Nat => s.heap.size ≤ q) b := Nat.not_le.mpr hbl
  refine lv_iload hx hb d_Lw_law_23 (lv_at hl 1 rfl) ?_
  refine lv_aload_n hx hb d_Lw_law_25 rfl (lv_at hl 0 rfl) ?_
  refine va_slen hx hb hX hbl hbA hS d_Lw_law_26 ?_
  refine lv_iconst (v := 2) hx hb d_Lw_law_27 (by decide) ?_
  refine lv_isub hx hb d_Lw_law_28 ?_
  refine lv_icmp_gt (tgt := 370) hx hb d_Lw_law_29 (by decide) (fun c_29 => ?_) (fun c_29 => absurd c_29 (fun q => q hc9))
  refine lv_iconst (v := 1) hx hb d_Lw_law_370 (by decide) ?_
  refine va_forget (fun q hq => hS.2.2 q hq) ?_
  refine W.widen (k := 600002) (n := 7302231) hc hs ?_
  exact lw_ret hx hb hr hlocks d_Lw_law_371
