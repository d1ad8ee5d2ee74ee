abbrev y_Md_search : MethodName := ⟨"ClauseSearchModel", "search", "()Z"⟩
abbrev y_Md_follow : MethodName := ⟨"ClauseSearchModel", "follow", "()Z"⟩
abbrev y_Md_solve : MethodName := ⟨"ClauseSearchModel", "solve", "()Z"⟩
theorem k_22 : (Cond.selects "ClauseSearchModel" ⟨"ClauseSearchModel", "search", "()Z"⟩ ⟨"ClauseSearchModel", "search", "()Z"⟩) ∈ bg_W := bg_in 22 (by decide +kernel) (by decide +kernel)
theorem k_25 : (Cond.selects "ClauseSearchModel" ⟨"ClauseSearchModel", "follow", "()Z"⟩ ⟨"ClauseSearchModel", "follow", "()Z"⟩) ∈ bg_W := bg_in 25 (by decide +kernel) (by decide +kernel)
theorem k_612 : (Cond.fieldLink "ClauseSearchModel" 70 "ClauseSearchModel" "assumptions" "I") ∈ bg_W := bg_in 612 (by decide +kernel) (by decide +kernel)
theorem k_616 : (Cond.fieldLink "ClauseSearchModel" 60 "ClauseSearchModel" "length" "I") ∈ bg_W := bg_in 616 (by decide +kernel) (by decide +kernel)
theorem k_674 : (Cond.methodLink "ClauseSearchModel" 80 ⟨"ClauseSearchModel", "search", "()Z"⟩) ∈ bg_W := bg_in 674 (by decide +kernel) (by decide +kernel)
theorem k_676 : (Cond.instanceMethod ⟨"ClauseSearchModel", "search", "()Z"⟩) ∈ bg_W := bg_in 676 (by decide +kernel) (by decide +kernel)
theorem k_677 : (Cond.code ⟨"ClauseSearchModel", "search", "()Z"⟩ prog_9_method_12_code 4 (some .boolean)) ∈ bg_W := bg_in 677 (by decide +kernel) (by decide +kernel)
theorem k_686 : (Cond.methodLink "ClauseSearchModel" 73 ⟨"ClauseSearchModel", "follow", "()Z"⟩) ∈ bg_W := bg_in 686 (by decide +kernel) (by decide +kernel)
theorem k_688 : (Cond.instanceMethod ⟨"ClauseSearchModel", "follow", "()Z"⟩) ∈ bg_W := bg_in 688 (by decide +kernel) (by decide +kernel)
theorem k_689 : (Cond.code ⟨"ClauseSearchModel", "follow", "()Z"⟩ prog_9_method_10_code 4 (some .boolean)) ∈ bg_W := bg_in 689 (by decide +kernel) (by decide +kernel)
theorem d_Md_search_2 : decode prog_9_method_12_code 2 = .ok (.iload_n 1, 1) := by decide +kernel
theorem d_Md_search_3 : decode prog_9_method_12_code 3 = .ok (.sipush 400, 3) := by decide +kernel
theorem d_Md_search_6 : decode prog_9_method_12_code 6 = .ok (.if_icmp .gt 16, 3) := by decide +kernel
theorem d_Md_search_9 : decode prog_9_method_12_code 9 = .ok (.aload_n 0, 1) := by decide +kernel
theorem d_Md_search_10 : decode prog_9_method_12_code 10 = .ok (.getfield 23, 3) := by decide +kernel
theorem d_Md_search_13 : decode prog_9_method_12_code 13 = .ok (.iload_n 1, 1) := by decide +kernel
theorem d_Md_search_14 : decode prog_9_method_12_code 14 = .ok (.iconst (-1), 1) := by decide +kernel
theorem d_Md_search_15 : decode prog_9_method_12_code 15 = .ok (.iastore, 1) := by decide +kernel
theorem d_Md_search_16 : decode prog_9_method_12_code 16 = .ok (.iinc 1 1, 3) := by decide +kernel
theorem d_Md_search_19 : decode prog_9_method_12_code 19 = .ok (.goto (-17), 3) := by decide +kernel
theorem d_Md_follow_0 : decode prog_9_method_10_code 0 = .ok (.iconst 1, 1) := by decide +kernel
theorem d_Md_follow_1 : decode prog_9_method_10_code 1 = .ok (.istore_n 1, 1) := by decide +kernel
theorem d_Md_follow_2 : decode prog_9_method_10_code 2 = .ok (.iload_n 1, 1) := by decide +kernel
theorem d_Md_follow_3 : decode prog_9_method_10_code 3 = .ok (.ifCond .eq 60, 3) := by decide +kernel
theorem d_Md_follow_6 : decode prog_9_method_10_code 6 = .ok (.iconst 0, 1) := by decide +kernel
theorem d_Md_follow_7 : decode prog_9_method_10_code 7 = .ok (.istore_n 1, 1) := by decide +kernel
theorem d_Md_follow_8 : decode prog_9_method_10_code 8 = .ok (.iconst 0, 1) := by decide +kernel
theorem d_Md_follow_9 : decode prog_9_method_10_code 9 = .ok (.istore_n 2, 1) := by decide +kernel
theorem d_Md_follow_10 : decode prog_9_method_10_code 10 = .ok (.iload_n 2, 1) := by decide +kernel
theorem d_Md_follow_11 : decode prog_9_method_10_code 11 = .ok (.aload_n 0, 1) := by decide +kernel
theorem d_Md_follow_12 : decode prog_9_method_10_code 12 = .ok (.getfield 53, 3) := by decide +kernel
theorem d_Md_follow_15 : decode prog_9_method_10_code 15 = .ok (.if_icmp .ge 45, 3) := by decide +kernel
theorem d_Md_follow_60 : decode prog_9_method_10_code 60 = .ok (.goto (-58), 3) := by decide +kernel
theorem d_Md_follow_63 : decode prog_9_method_10_code 63 = .ok (.iconst 1, 1) := by decide +kernel
theorem d_Md_follow_64 : decode prog_9_method_10_code 64 = .ok (.ireturn, 1) := by decide +kernel
theorem d_Md_search_0 : decode prog_9_method_12_code 0 = .ok (.iconst 0, 1) := by decide +kernel
theorem d_Md_search_1 : decode prog_9_method_12_code 1 = .ok (.istore_n 1, 1) := by decide +kernel
theorem d_Md_search_22 : decode prog_9_method_12_code 22 = .ok (.aload_n 0, 1) := by decide +kernel
theorem d_Md_search_23 : decode prog_9_method_12_code 23 = .ok (.iconst 0, 1) := by decide +kernel
theorem d_Md_search_24 : decode prog_9_method_12_code 24 = .ok (.putfield 60, 3) := by decide +kernel
theorem d_Md_search_27 : decode prog_9_method_12_code 27 = .ok (.iconst 0, 1) := by decide +kernel
theorem d_Md_search_28 : decode prog_9_method_12_code 28 = .ok (.istore_n 1, 1) := by decide +kernel
theorem d_Md_search_29 : decode prog_9_method_12_code 29 = .ok (.iload_n 1, 1) := by decide +kernel
theorem d_Md_search_30 : decode prog_9_method_12_code 30 = .ok (.aload_n 0, 1) := by decide +kernel
theorem d_Md_search_31 : decode prog_9_method_12_code 31 = .ok (.getfield 70, 3) := by decide +kernel
theorem d_Md_search_34 : decode prog_9_method_12_code 34 = .ok (.if_icmp .ge 40, 3) := by decide +kernel
theorem d_Md_search_74 : decode prog_9_method_12_code 74 = .ok (.aload_n 0, 1) := by decide +kernel
theorem d_Md_search_75 : decode prog_9_method_12_code 75 = .ok (.invokevirtual 73, 3) := by decide +kernel
theorem d_Md_search_78 : decode prog_9_method_12_code 78 = .ok (.istore_n 1, 1) := by decide +kernel
theorem d_Md_search_79 : decode prog_9_method_12_code 79 = .ok (.iconst 0, 1) := by decide +kernel
theorem d_Md_search_80 : decode prog_9_method_12_code 80 = .ok (.istore_n 2, 1) := by decide +kernel
theorem d_Md_search_81 : decode prog_9_method_12_code 81 = .ok (.iload_n 1, 1) := by decide +kernel
theorem d_Md_search_82 : decode prog_9_method_12_code 82 = .ok (.ifCond .eq 73, 3) := by decide +kernel
theorem d_Md_search_85 : decode prog_9_method_12_code 85 = .ok (.iconst 1, 1) := by decide +kernel
theorem d_Md_search_86 : decode prog_9_method_12_code 86 = .ok (.istore_n 3, 1) := by decide +kernel
theorem d_Md_search_87 : decode prog_9_method_12_code 87 = .ok (.iload_n 3, 1) := by decide +kernel
theorem d_Md_search_88 : decode prog_9_method_12_code 88 = .ok (.aload_n 0, 1) := by decide +kernel
theorem d_Md_search_89 : decode prog_9_method_12_code 89 = .ok (.getfield 43, 3) := by decide +kernel
theorem d_Md_search_92 : decode prog_9_method_12_code 92 = .ok (.if_icmp .gt 18, 3) := by decide +kernel
theorem d_Md_search_110 : decode prog_9_method_12_code 110 = .ok (.iload_n 3, 1) := by decide +kernel
theorem d_Md_search_111 : decode prog_9_method_12_code 111 = .ok (.aload_n 0, 1) := by decide +kernel
theorem d_Md_search_112 : decode prog_9_method_12_code 112 = .ok (.getfield 43, 3) := by decide +kernel
theorem d_Md_search_115 : decode prog_9_method_12_code 115 = .ok (.if_icmp .le 5, 3) := by decide +kernel
theorem d_Md_search_118 : decode prog_9_method_12_code 118 = .ok (.iconst 1, 1) := by decide +kernel
theorem d_Md_search_119 : decode prog_9_method_12_code 119 = .ok (.ireturn, 1) := by decide +kernel
theorem d_Md_solve_0 : decode prog_9_method_13_code 0 = .ok (.aload_n 0, 1) := by decide +kernel
theorem d_Md_solve_1 : decode prog_9_method_13_code 1 = .ok (.iconst 0, 1) := by decide +kernel
theorem d_Md_solve_2 : decode prog_9_method_13_code 2 = .ok (.putfield 35, 3) := by decide +kernel
theorem d_Md_solve_5 : decode prog_9_method_13_code 5 = .ok (.aload_n 0, 1) := by decide +kernel
theorem d_Md_solve_6 : decode prog_9_method_13_code 6 = .ok (.aload_n 0, 1) := by decide +kernel
theorem d_Md_solve_7 : decode prog_9_method_13_code 7 = .ok (.getfield 50, 3) := by decide +kernel
theorem d_Md_solve_10 : decode prog_9_method_13_code 10 = .ok (.putfield 70, 3) := by decide +kernel
theorem d_Md_solve_13 : decode prog_9_method_13_code 13 = .ok (.iconst 0, 1) := by decide +kernel
theorem d_Md_solve_14 : decode prog_9_method_13_code 14 = .ok (.istore_n 1, 1) := by decide +kernel
theorem d_Md_solve_15 : decode prog_9_method_13_code 15 = .ok (.iload_n 1, 1) := by decide +kernel
theorem d_Md_solve_16 : decode prog_9_method_13_code 16 = .ok (.aload_n 0, 1) := by decide +kernel
theorem d_Md_solve_17 : decode prog_9_method_13_code 17 = .ok (.getfield 50, 3) := by decide +kernel
theorem d_Md_solve_20 : decode prog_9_method_13_code 20 = .ok (.if_icmp .ge 21, 3) := by decide +kernel
theorem d_Md_solve_41 : decode prog_9_method_13_code 41 = .ok (.aload_n 0, 1) := by decide +kernel
theorem d_Md_solve_42 : decode prog_9_method_13_code 42 = .ok (.iconst 0, 1) := by decide +kernel
theorem d_Md_solve_43 : decode prog_9_method_13_code 43 = .ok (.putfield 50, 3) := by decide +kernel
theorem d_Md_solve_46 : decode prog_9_method_13_code 46 = .ok (.aload_n 0, 1) := by decide +kernel
theorem d_Md_solve_47 : decode prog_9_method_13_code 47 = .ok (.aload_n 0, 1) := by decide +kernel
theorem d_Md_solve_48 : decode prog_9_method_13_code 48 = .ok (.invokevirtual 80, 3) := by decide +kernel
theorem d_Md_solve_51 : decode prog_9_method_13_code 51 = .ok (.putfield 46, 3) := by decide +kernel
theorem d_Md_solve_54 : decode prog_9_method_13_code 54 = .ok (.aload_n 0, 1) := by decide +kernel
theorem d_Md_solve_55 : decode prog_9_method_13_code 55 = .ok (.getfield 46, 3) := by decide +kernel
theorem d_Md_solve_58 : decode prog_9_method_13_code 58 = .ok (.ireturn, 1) := by decide +kernel
set_option maxHeartbeats 4000000 in
set_option maxRecDepth 100000 in
/-- the loop that empties the way -/
theorem l_way {p : Program} {l : Launch} {e : Env} {R : Room} {s : State} {m : MethodId} {args : Array Value} {below : List Frame} {meth : Method} {c : Code} {dC : Nat → ClassId} {dI : Nat → Nat → Nat} {A : Nat → Prop} {Q : State → Prop} {cells slots : Nat} {H0 : Heap} {m0 j0 j1 j2 j3 j4 j5 j6 j7 : Nat} {ca : ClassId} (hx : p.tables.exec = Jvm.exec) (hb : c.code = prog_9_method_12_code) (hw : ∀ w ∈ bg_W, w.before args s = true) (hown : s.vm.findClass R_Md = some m.cls) (hK : va_K (dC, dI) vwCl [(ca, .int)] s)
    (kk : ∀ (g : Nat → Int32) (H : Heap) (locs : List Loc) (ls : Array Slot), (∀ j, j < 401 → g j = -1) → va_P (dC, dI) vwCl [(m0, .inr (7, [.ref j0, .ref j1, .ref j2, .ref j3, .ref j4, .int 0, .int 0, .int 0, .int 0, .int 0, .int 0, .ref j5, .int 0, .ref j6, .ref j7])), (j4, .inl (ca, 401, .inl g))] H → va_D A [(m0, .inr (7, [.ref j0, .ref j1, .ref j2, .ref j3, .ref j4, .int 0, .int 0, .int 0, .int 0, .int 0, .int 0, .ref j5, .int 0, .ref j6, .ref j7])), (j4, .inl (ca, 401, .inl g))] → va_S A H0 H locs → lv_has ls 4 [(0, .ref m0)] → W p l e R s m args below meth c H locs cells slots Q (F0 m 22 ls [])) :
    ∀ (k i : Nat) (x : Int32) (g : Nat → Int32) (H : Heap) (locs : List Loc) (ls : Array Slot), i ≤ 401 → 402 ≤ i + k → x = nI i → (∀ j, j < i → g j = -1) → va_P (dC, dI) vwCl [(m0, .inr (7, [.ref j0, .ref j1, .ref j2, .ref j3, .ref j4, .int 0, .int 0, .int 0, .int 0, .int 0, .int 0, .ref j5, .int 0, .ref j6, .ref j7])), (j4, .inl (ca, 401, .inl g))] H → va_D A [(m0, .inr (7, [.ref j0, .ref j1, .ref j2, .ref j3, .ref j4, .int 0, .int 0, .int 0, .int 0, .int 0, .int 0, .ref j5, .int 0, .ref j6, .ref j7])), (j4, .inl (ca, 401, .inl g))] → va_S A H0 H locs → lv_has ls 4 [(0, .ref m0), (1, .int x)] → W p l e R s m args below meth c H locs cells slots Q (F0 m 2 ls []) := by
  intro k
  induction k with
  | zero => intro i x g H locs ls h1 h2; exact absurd h2 (by omega)
  | succ k ih =>
    intro i x g H locs ls hi hk ex hg hP hD hS hl
    refine lv_iload_n hx hb d_Md_search_2 rfl (lv_at hl 1 rfl) ?_
    refine lv_sipush (v := 400) hx hb d_Md_search_3 (by decide) ?_
    refine lv_icmp_gt (tgt := 22) hx hb d_Md_search_6 (by decide) (fun c_6 => ?_) (fun c_6 => ?_)
    · exact kk g H locs ls (fun j hj => hg j (by have h9 := c_6; rw [ex] at h9; rcases Nat.lt_or_ge 400 i with q | q; omega; exact absurd h9 (Int32.not_lt.mpr (nI_le q (by decide))))) hP hD hS (lv_sub hl [0] rfl)
    · have hlt : i < 401 := by
        rcases Nat.lt_or_ge i 401 with q | q
        · exact q
        · exact absurd (by rw [ex]; exact nI_lt (b := i) (a := 400) (by omega) (by omega)) c_6
      refine lv_aload_n hx hb d_Md_search_9 rfl (lv_at hl 0 rfl) ?_
      refine va_get (D := (dC, dI)) (ci := 7) (v := .ref j4) (C := R_Md) (T := F_Md) (N := 15) hx hb hw in_Md hown hK hP 0 rfl rfl 4 (by decide) (hw (Cond.fieldLink "ClauseSearchModel" 23 "ClauseSearchModel" "way" "[I") k_608) (fun _ h9 => h9) rfl d_Md_search_10 ?_
      refine lv_iload_n hx hb d_Md_search_13 rfl (lv_at hl 1 rfl) ?_
      refine lv_iconst (v := (-1)) hx hb d_Md_search_14 (by decide) ?_
      refine va_iast hx hb hK hP hD hS 1 0 rfl rfl (by rw [ex]; exact vp_in_nI hlt (by decide)) d_Md_search_15 (fun H locs hP hD hS => ?_)
      have hP : va_P (dC, dI) vwCl [(m0, .inr (7, [.ref j0, .ref j1, .ref j2, .ref j3, .ref j4, .int 0, .int 0, .int 0, .int 0, .int 0, .int 0, .ref j5, .int 0, .ref j6, .ref j7])), (j4, .inl (ca, 401, .inl (upd g ((x : Int32).toNatClampNeg) (-1))))] H := hP
      have hD : va_D A [(m0, .inr (7, [.ref j0, .ref j1, .ref j2, .ref j3, .ref j4, .int 0, .int 0, .int 0, .int 0, .int 0, .int 0, .ref j5, .int 0, .ref j6, .ref j7])), (j4, .inl (ca, 401, .inl (upd g ((x : Int32).toNatClampNeg) (-1))))] := hD
      obtain ⟨v_1, ev_1⟩ : ∃ y : Int32, y = x + 1 := ⟨_, rfl⟩
      refine lv_iinc (v := v_1) (lv' := [(1, .int v_1), (0, .ref m0)]) hx hb d_Md_search_16 hl (k := 1) rfl (by rw [ev_1]; rfl) (by decide) rfl (fun ls hl => ?_)
      refine lv_goto (tgt := 2) hx hb d_Md_search_19 (by decide) ?_
      have hcl : x.toNatClampNeg = i := by rw [ex]; exact nI_clamp (by omega)
      rw [hcl] at hP hD
      exact ih (i + 1) _ (upd g i (-1)) _ _ ls (by omega) (by omega) (by rw [ev_1, ex]; exact nI_1 i) (up_all hg) hP hD hS (lv_sub hl [1, 0] rfl)

set_option maxHeartbeats 4000000 in
set_option maxRecDepth 100000 in
/-- follow() without clauses -/
theorem c_Md_follow_0 (l : Launch) (dC : Nat → ClassId) (dI : Nat → Nat → Nat) (m0 : Nat) (j0 : Nat) (j1 : Nat) (j2 : Nat) (j3 : Nat) (j4 : Nat) (j5 : Nat) (j6 : Nat) (j7 : Nat) (sz : Nat) : Met l y_Md_follow (wq y_Md_follow prog_9_method_10_code 4 (some .boolean)) ({ frames := 0, cells := 0, slots := 0, locals := 0 }) (va_Pc [.ref m0] (fun U => U.heap.size = sz ∧ va_P (dC, dI) vwCl [(m0, .inr (7, [.ref j0, .ref j1, .ref j2, .ref j3, .ref j4, .int 0, .int 0, .int 0, .int 0, .int 0, .int 0, .ref j5, .int 0, .ref j6, .ref j7]))] U.heap ∧ va_K (dC, dI) vwCl [] U ∧ va_D (fun _ => True) [(m0, .inr (7, [.ref j0, .ref j1, .ref j2, .ref j3, .ref j4, .int 0, .int 0, .int 0, .int 0, .int 0, .int 0, .ref j5, .int 0, .ref j6, .ref j7]))])) (va_Qi (fun (r : Int32) (_ : Unit) => r = 1) (fun (_ : Unit) t => va_P (dC, dI) vwCl [(m0, .inr (7, [.ref j0, .ref j1, .ref j2, .ref j3, .ref j4, .int 0, .int 0, .int 0, .int 0, .int 0, .int 0, .ref j5, .int 0, .ref j6, .ref j7]))] t.heap ∧ va_K (dC, dI) vwCl [] t ∧ va_D (va_A [(m0, .inr (7, [.ref j0, .ref j1, .ref j2, .ref j3, .ref j4, .int 0, .int 0, .int 0, .int 0, .int 0, .int 0, .ref j5, .int 0, .ref j6, .ref j7]))] sz) [(m0, .inr (7, [.ref j0, .ref j1, .ref j2, .ref j3, .ref j4, .int 0, .int 0, .int 0, .int 0, .int 0, .int 0, .ref j5, .int 0, .ref j6, .ref j7]))]) (va_A [(m0, .inr (7, [.ref j0, .ref j1, .ref j2, .ref j3, .ref j4, .int 0, .int 0, .int 0, .int 0, .int 0, .int 0, .ref j5, .int 0, .ref j6, .ref j7]))] sz)) 0 0 (va_A [(m0, .inr (7, [.ref j0, .ref j1, .ref j2, .ref j3, .ref j4, .int 0, .int 0, .int 0, .int 0, .int 0, .int 0, .ref j5, .int 0, .ref j6, .ref j7]))] sz) := by
  refine Met.ofW (cc := prog_9_method_10_code) (maxL := 4) (ret := (some .boolean)) (by decide) rfl ?_
  intro p e s m args below meth c s₁ B hml hv
  obtain ⟨rfl, hsz, hP, hK, hD0⟩ := hv
  have hx := B.exec
  have hb := B.bytes
  have hr := B.returns
  have hw : ∀ w ∈ bg_W, w.before #[Value.ref m0] s = true := fun w h => atoms_spec (ws := (wq y_Md_follow prog_9_method_10_code 4 (some .boolean))) B.pre w (List.mem_cons_of_mem _ h)
  have hown : s.vm.findClass R_Md = some m.cls := findClass_of_methodNamed B.named
  have hlocks := B.notSynchronized
  subst hsz
  have hD := hD0.self (sz := s.heap.size)
  generalize hAe : va_A [(m0, .inr (7, [.ref j0, .ref j1, .ref j2, .ref j3, .ref j4, .int 0, .int 0, .int 0, .int 0, .int 0, .int 0, .ref j5, .int 0, .ref j6, .ref j7]))] s.heap.size = A at hD ⊢
  have hA : ∀ q : Nat, s.heap.size ≤ q → A q := fun q h => by rw [← hAe]; exact Or.inr h
  have hS : va_S A s.heap s.heap [] := va_S.rf
  have hP : va_P (dC, dI) vwCl [(m0, .inr (7, [.ref j0, .ref j1, .ref j2, .ref j3, .ref j4, .int 0, .int 0, .int 0, .int 0, .int 0, .int 0, .ref j5, .int 0, .ref j6, .ref j7]))] s.heap := hP
  have hl := lv_entry ([.ref m0]) (n := 4) (Nat.le_of_ble_eq_true rfl)
  rw [lg_entry_eq]
  generalize (lg_sl ([.ref m0]) ++ List.replicate (4 - (lg_sl ([.ref m0])).length) Slot.unset).toArray = ls at hl ⊢
  have hl : lv_has ls 4 [(0, .ref m0)] := hl
  obtain ⟨H, hH⟩ : ∃ H : Heap, H = s.heap := ⟨_, rfl⟩
  rw [← hH] at hP
  have hS : va_S A s.heap H [] := by rw [hH]; exact va_S.rf
  show W p l e _ s m _ below meth c s.heap [] 0 0 _ _
  rw [← hH]
  refine lv_iconst (v := 1) hx hb d_Md_follow_0 (by decide) ?_
  refine lv_istore_n (lv' := [(1, .int 1), (0, .ref m0)]) hx hb d_Md_follow_1 rfl hl (by decide) rfl (fun ls hl => ?_)
  refine lv_iload_n hx hb d_Md_follow_2 rfl (lv_at hl 0 rfl) ?_
  refine lv_if_eq (tgt := 63) hx hb d_Md_follow_3 (by decide) (fun c_3 => absurd c_3 (by decide)) (fun c_3 => ?_)
  refine lv_iconst (v := 0) hx hb d_Md_follow_6 (by decide) ?_
  refine lv_istore_n (lv' := [(1, .int 0), (0, .ref m0)]) hx hb d_Md_follow_7 rfl hl (by decide) rfl (fun ls hl => ?_)
  refine lv_iconst (v := 0) hx hb d_Md_follow_8 (by decide) ?_
  refine lv_istore_n (lv' := [(2, .int 0), (1, .int 0), (0, .ref m0)]) hx hb d_Md_follow_9 rfl hl (by decide) rfl (fun ls hl => ?_)
  refine lv_iload_n hx hb d_Md_follow_10 rfl (lv_at hl 0 rfl) ?_
  refine lv_aload_n hx hb d_Md_follow_11 rfl (lv_at hl 2 rfl) ?_
  refine va_get (D := (dC, dI)) (ci := 7) (v := .int 0) (C := R_Md) (T := F_Md) (N := 15) hx hb hw in_Md hown hK hP 0 rfl rfl 6 (by decide) (hw (Cond.fieldLink "ClauseSearchModel" 53 "ClauseSearchModel" "clauses" "I") k_610) (fun _ h9 => h9) rfl d_Md_follow_12 ?_
  refine lv_icmp_ge (tgt := 60) hx hb d_Md_follow_15 (by decide) (fun c_15 => ?_) (fun c_15 => absurd c_15 (by decide))
  refine lv_goto (tgt := 2) hx hb d_Md_follow_60 (by decide) ?_
  refine lv_iload_n hx hb d_Md_follow_2 rfl (lv_at hl 1 rfl) ?_
  refine lv_if_eq (tgt := 63) hx hb d_Md_follow_3 (by decide) (fun c_3 => ?_) (fun c_3 => absurd c_3 (by decide))
  refine lv_iconst (v := 1) hx hb d_Md_follow_63 (by decide) ?_
  refine W.widen (k := 0) (n := 0) (by decide) (by decide) ?_
  exact W.zret (v := 1) hx hb hr rfl (fun t ht hW => ⟨⟨1, (), rfl, rfl, by rw [ht]; exact hP, va_K.moved hW.alike hK, hD⟩, hS.F ht⟩) hS.2.2 d_Md_follow_64

set_option maxHeartbeats 4000000 in
set_option maxRecDepth 100000 in
/-- search() of a new model -/
theorem c_Md_search_0 (l : Launch) (dC : Nat → ClassId) (dI : Nat → Nat → Nat) (m0 : Nat) (j0 : Nat) (j1 : Nat) (j2 : Nat) (j3 : Nat) (j4 : Nat) (j5 : Nat) (j6 : Nat) (j7 : Nat) (ca : ClassId) (sz : Nat) (f : Nat → Int32) : Met l y_Md_search (wq y_Md_search prog_9_method_12_code 4 (some .boolean)) ({ frames := 1, cells := 0, slots := 0, locals := 23 }) (va_Pc [.ref m0] (fun U => U.heap.size = sz ∧ va_P (dC, dI) vwCl [(m0, .inr (7, [.ref j0, .ref j1, .ref j2, .ref j3, .ref j4, .int 0, .int 0, .int 0, .int 0, .int 0, .int 0, .ref j5, .int 0, .ref j6, .ref j7])), (j4, .inl (ca, 401, .inl f))] U.heap ∧ va_K (dC, dI) vwCl [(ca, .int)] U ∧ va_D (fun _ => True) [(m0, .inr (7, [.ref j0, .ref j1, .ref j2, .ref j3, .ref j4, .int 0, .int 0, .int 0, .int 0, .int 0, .int 0, .ref j5, .int 0, .ref j6, .ref j7])), (j4, .inl (ca, 401, .inl f))])) (va_Qi (fun (r : Int32) (_ : Unit) => r = 1) (fun (_ : Unit) t => ∃ (g_900 : Nat → Int32), (∀ j, j < 401 → g_900 j = -1) ∧ va_P (dC, dI) vwCl [(j4, .inl (ca, 401, .inl g_900)), (m0, .inr (7, [.ref j0, .ref j1, .ref j2, .ref j3, .ref j4, .int 0, .int 0, .int 0, .int 0, .int 0, .int 0, .ref j5, .int 0, .ref j6, .ref j7]))] t.heap ∧ va_K (dC, dI) vwCl [(ca, .int)] t ∧ va_D (va_A [(m0, .inr (7, [.ref j0, .ref j1, .ref j2, .ref j3, .ref j4, .int 0, .int 0, .int 0, .int 0, .int 0, .int 0, .ref j5, .int 0, .ref j6, .ref j7])), (j4, .inl (ca, 401, .inl f))] sz) [(j4, .inl (ca, 401, .inl g_900)), (m0, .inr (7, [.ref j0, .ref j1, .ref j2, .ref j3, .ref j4, .int 0, .int 0, .int 0, .int 0, .int 0, .int 0, .ref j5, .int 0, .ref j6, .ref j7]))]) (va_A [(m0, .inr (7, [.ref j0, .ref j1, .ref j2, .ref j3, .ref j4, .int 0, .int 0, .int 0, .int 0, .int 0, .int 0, .ref j5, .int 0, .ref j6, .ref j7])), (j4, .inl (ca, 401, .inl f))] sz)) 0 0 (va_A [(m0, .inr (7, [.ref j0, .ref j1, .ref j2, .ref j3, .ref j4, .int 0, .int 0, .int 0, .int 0, .int 0, .int 0, .ref j5, .int 0, .ref j6, .ref j7])), (j4, .inl (ca, 401, .inl f))] sz) := by
  refine Met.ofW (cc := prog_9_method_12_code) (maxL := 4) (ret := (some .boolean)) (by decide) rfl ?_
  intro p e s m args below meth c s₁ B hml hv
  obtain ⟨rfl, hsz, hP, hK, hD0⟩ := hv
  have hx := B.exec
  have hb := B.bytes
  have hr := B.returns
  have hw : ∀ w ∈ bg_W, w.before #[Value.ref m0] s = true := fun w h => atoms_spec (ws := (wq y_Md_search prog_9_method_12_code 4 (some .boolean))) B.pre w (List.mem_cons_of_mem _ h)
  have hown : s.vm.findClass R_Md = some m.cls := findClass_of_methodNamed B.named
  have hlocks := B.notSynchronized
  subst hsz
  have hD := hD0.self (sz := s.heap.size)
  generalize hAe : va_A [(m0, .inr (7, [.ref j0, .ref j1, .ref j2, .ref j3, .ref j4, .int 0, .int 0, .int 0, .int 0, .int 0, .int 0, .ref j5, .int 0, .ref j6, .ref j7])), (j4, .inl (ca, 401, .inl f))] s.heap.size = A at hD ⊢
  have hA : ∀ q : Nat, s.heap.size ≤ q → A q := fun q h => by rw [← hAe]; exact Or.inr h
  have hS : va_S A s.heap s.heap [] := va_S.rf
  have hP : va_P (dC, dI) vwCl [(m0, .inr (7, [.ref j0, .ref j1, .ref j2, .ref j3, .ref j4, .int 0, .int 0, .int 0, .int 0, .int 0, .int 0, .ref j5, .int 0, .ref j6, .ref j7])), (j4, .inl (ca, 401, .inl f))] s.heap := hP
  have hl := lv_entry ([.ref m0]) (n := 4) (Nat.le_of_ble_eq_true rfl)
  rw [lg_entry_eq]
  generalize (lg_sl ([.ref m0]) ++ List.replicate (4 - (lg_sl ([.ref m0])).length) Slot.unset).toArray = ls at hl ⊢
  have hl : lv_has ls 4 [(0, .ref m0)] := hl
  obtain ⟨H, hH⟩ : ∃ H : Heap, H = s.heap := ⟨_, rfl⟩
  rw [← hH] at hP
  have hS : va_S A s.heap H [] := by rw [hH]; exact va_S.rf
  show W p l e _ s m _ below meth c s.heap [] 0 0 _ _
  rw [← hH]
  refine lv_iconst (v := 0) hx hb d_Md_search_0 (by decide) ?_
  refine lv_istore_n (lv' := [(1, .int 0), (0, .ref m0)]) hx hb d_Md_search_1 rfl hl (by decide) rfl (fun ls hl => ?_)
  refine l_way hx hb hw hown hK (fun g_900 H locs ls hg hP hD hS hl => ?_) 402 0 0 f _ _ ls (by decide) (by decide) nI_0.symm (fun j hj => absurd hj (Nat.not_lt_zero j)) hP hD hS (lv_sub hl [1, 0] rfl)
  refine lv_aload_n hx hb d_Md_search_22 rfl (lv_at hl 0 rfl) ?_
  refine lv_iconst (v := 0) hx hb d_Md_search_23 (by decide) ?_
  refine va_put (D := (dC, dI)) (ci := 7) (v := .int 0) (ty := .int) (C := R_Md) (T := F_Md) (N := 15) hx hb hw in_Md t_Md t_Md_ok n_Md hown hK hP hD hS 0 rfl rfl 12 (by decide) (hw (Cond.fieldLink "ClauseSearchModel" 60 "ClauseSearchModel" "length" "I") k_616) (fun _ h9 => h9) rfl (by decide +kernel) rfl rfl (Nat.le_of_ble_eq_true rfl) d_Md_search_24 (fun H locs hP hD hS => ?_)
  have hP : va_P (dC, dI) vwCl [(m0, .inr (7, [.ref j0, .ref j1, .ref j2, .ref j3, .ref j4, .int 0, .int 0, .int 0, .int 0, .int 0, .int 0, .ref j5, .int 0, .ref j6, .ref j7])), (j4, .inl (ca, 401, .inl g_900))] H := hP
  have hD : va_D A [(m0, .inr (7, [.ref j0, .ref j1, .ref j2, .ref j3, .ref j4, .int 0, .int 0, .int 0, .int 0, .int 0, .int 0, .ref j5, .int 0, .ref j6, .ref j7])), (j4, .inl (ca, 401, .inl g_900))] := hD
  refine lv_iconst (v := 0) hx hb d_Md_search_27 (by decide) ?_
  refine lv_istore_n (lv' := [(1, .int 0), (0, .ref m0)]) hx hb d_Md_search_28 rfl hl (by decide) rfl (fun ls hl => ?_)
  refine lv_iload_n hx hb d_Md_search_29 rfl (lv_at hl 0 rfl) ?_
  refine lv_aload_n hx hb d_Md_search_30 rfl (lv_at hl 1 rfl) ?_
  refine va_get (D := (dC, dI)) (ci := 7) (v := .int 0) (C := R_Md) (T := F_Md) (N := 15) hx hb hw in_Md hown hK hP 0 rfl rfl 8 (by decide) (hw (Cond.fieldLink "ClauseSearchModel" 70 "ClauseSearchModel" "assumptions" "I") k_612) (fun _ h9 => h9) rfl d_Md_search_31 ?_
  refine lv_icmp_ge (tgt := 74) hx hb d_Md_search_34 (by decide) (fun c_34 => ?_) (fun c_34 => absurd c_34 (by decide))
  refine lv_aload_n hx hb d_Md_search_74 rfl (lv_at hl 1 rfl) ?_
  have hPc := hP.sub (ws' := [(m0, .inr (7, [.ref j0, .ref j1, .ref j2, .ref j3, .ref j4, .int 0, .int 0, .int 0, .int 0, .int 0, .int 0, .ref j5, .int 0, .ref j6, .ref j7]))]) [0] rfl
  have hDc := hD.sub (ws' := [(m0, .inr (7, [.ref j0, .ref j1, .ref j2, .ref j3, .ref j4, .int 0, .int 0, .int 0, .int 0, .int 0, .int 0, .ref j5, .int 0, .ref j6, .ref j7]))]) [0] (by decide) rfl
  have hKc := hK.sub (tys' := []) [] rfl
  have hFc := va_free (wc := [(m0, .inr (7, [.ref j0, .ref j1, .ref j2, .ref j3, .ref j4, .int 0, .int 0, .int 0, .int 0, .int 0, .int 0, .ref j5, .int 0, .ref j6, .ref j7]))]) hD hS hA [0] rfl
  refine va_calli (va_runV (As := []) (rest := []) ⟨hx, hb, hml, hown, hw⟩ (c_Md_follow_0 l dC dI m0 j0 j1 j2 j3 j4 j5 j6 j7 H.size) (cb_V (C := R_Md) 0 hw k_689 k_37 k_686 k_688 k_25 rfl rfl (by decide +kernel) ⟨Nat.le_of_ble_eq_true rfl, Nat.le_of_ble_eq_true rfl⟩) ⟨fun a U g mk q => by obtain ⟨q0, q1, qP, qK, qD⟩ := q; exact ⟨q0, q1, qP, va_K.moved (u := U) (U := U.calling g mk a) (Vm.Alike.refl U.vm) qK, qD⟩, va_recv hKc hPc (ci := 7) (q0 := 0) rfl rfl, fun U hU hW => ⟨rfl, by rw [hU], by rw [hU]; exact hPc, va_K.moved hW.alike hKc, hDc.weaken (fun _ _ _ _ => trivial)⟩⟩ rfl rfl hl.1 rfl (lv_room (Nat.le_of_ble_eq_true rfl)) d_Md_search_75 ⟨Nat.le_of_ble_eq_true rfl, Nat.le_of_ble_eq_true rfl⟩) hS (fun q _ h => hFc q h) hFc (fun r_1 u t H1 locs ht hvm hw9 hB hz1 hk1 hS => ?_)
  obtain ⟨hP1, hK1, hD1⟩ := hB
  rw [ht] at hP1
  have hK1 := va_K.moved hvm.symm hK1
  obtain ⟨hP, hD⟩ := va_join (wr := [(j4, .inl (ca, 401, .inl g_900))]) (w1 := [(m0, .inr (7, [.ref j0, .ref j1, .ref j2, .ref j3, .ref j4, .int 0, .int 0, .int 0, .int 0, .int 0, .int 0, .ref j5, .int 0, .ref j6, .ref j7]))]) hP hD [0] [1] rfl rfl (by decide) (by decide) hk1 hFc hP1 hD1
  generalize H1 = H at hP hS ⊢
  have hP : va_P (dC, dI) vwCl [(j4, .inl (ca, 401, .inl g_900)), (m0, .inr (7, [.ref j0, .ref j1, .ref j2, .ref j3, .ref j4, .int 0, .int 0, .int 0, .int 0, .int 0, .int 0, .ref j5, .int 0, .ref j6, .ref j7]))] H := hP
  have hD : va_D A [(j4, .inl (ca, 401, .inl g_900)), (m0, .inr (7, [.ref j0, .ref j1, .ref j2, .ref j3, .ref j4, .int 0, .int 0, .int 0, .int 0, .int 0, .int 0, .ref j5, .int 0, .ref j6, .ref j7]))] := hD
  refine W.widen (k := 0) (n := 0) (by decide) (by decide) ?_
  have hw9 : r_1 = 1 := hw9
  subst hw9
  refine lv_istore_n (lv' := [(1, .int 1), (0, .ref m0)]) hx hb d_Md_search_78 rfl hl (by decide) rfl (fun ls hl => ?_)
  refine lv_iconst (v := 0) hx hb d_Md_search_79 (by decide) ?_
  refine lv_istore_n (lv' := [(2, .int 0), (1, .int 1), (0, .ref m0)]) hx hb d_Md_search_80 rfl hl (by decide) rfl (fun ls hl => ?_)
  refine lv_iload_n hx hb d_Md_search_81 rfl (lv_at hl 1 rfl) ?_
  refine lv_if_eq (tgt := 155) hx hb d_Md_search_82 (by decide) (fun c_82 => absurd c_82 (by decide)) (fun c_82 => ?_)
  refine lv_iconst (v := 1) hx hb d_Md_search_85 (by decide) ?_
  refine lv_istore_n (lv' := [(3, .int 1), (2, .int 0), (1, .int 1), (0, .ref m0)]) hx hb d_Md_search_86 rfl hl (by decide) rfl (fun ls hl => ?_)
  refine lv_iload_n hx hb d_Md_search_87 rfl (lv_at hl 0 rfl) ?_
  refine lv_aload_n hx hb d_Md_search_88 rfl (lv_at hl 3 rfl) ?_
  refine va_get (D := (dC, dI)) (ci := 7) (v := .int 0) (C := R_Md) (T := F_Md) (N := 15) hx hb hw in_Md hown hK hP 1 rfl rfl 5 (by decide) (hw (Cond.fieldLink "ClauseSearchModel" 43 "ClauseSearchModel" "variables" "I") k_609) (fun _ h9 => h9) rfl d_Md_search_89 ?_
  refine lv_icmp_gt (tgt := 110) hx hb d_Md_search_92 (by decide) (fun c_92 => ?_) (fun c_92 => absurd c_92 (by decide))
  refine lv_iload_n hx hb d_Md_search_110 rfl (lv_at hl 0 rfl) ?_
  refine lv_aload_n hx hb d_Md_search_111 rfl (lv_at hl 3 rfl) ?_
  refine va_get (D := (dC, dI)) (ci := 7) (v := .int 0) (C := R_Md) (T := F_Md) (N := 15) hx hb hw in_Md hown hK hP 1 rfl rfl 5 (by decide) (hw (Cond.fieldLink "ClauseSearchModel" 43 "ClauseSearchModel" "variables" "I") k_609) (fun _ h9 => h9) rfl d_Md_search_112 ?_
  refine lv_icmp_le (tgt := 120) hx hb d_Md_search_115 (by decide) (fun c_115 => absurd c_115 (by decide)) (fun c_115 => ?_)
  refine lv_iconst (v := 1) hx hb d_Md_search_118 (by decide) ?_
  refine W.widen (k := 0) (n := 0) (by decide) (by decide) ?_
  exact W.zret (v := 1) hx hb hr rfl (fun t ht hW => ⟨⟨1, (), rfl, rfl, g_900, hg, by rw [ht]; exact hP, va_K.moved hW.alike hK, hD⟩, hS.F ht⟩) hS.2.2 d_Md_search_119

set_option maxHeartbeats 4000000 in
set_option maxRecDepth 100000 in
/-- solve() of a new model -/
theorem c_Md_solve_0 (l : Launch) (dC : Nat → ClassId) (dI : Nat → Nat → Nat) (m0 : Nat) (j0 : Nat) (j1 : Nat) (j2 : Nat) (j3 : Nat) (j4 : Nat) (j5 : Nat) (j6 : Nat) (j7 : Nat) (ca : ClassId) (sz : Nat) (f : Nat → Int32) : Met l y_Md_solve (wq y_Md_solve prog_9_method_13_code 2 (some .boolean)) ({ frames := 2, cells := 0, slots := 0, locals := 46 }) (va_Pc [.ref m0] (fun U => U.heap.size = sz ∧ va_P (dC, dI) vwCl [(m0, .inr (7, [.ref j0, .ref j1, .ref j2, .ref j3, .ref j4, .int 0, .int 0, .int 0, .int 0, .int 0, .int 0, .ref j5, .int 0, .ref j6, .ref j7])), (j4, .inl (ca, 401, .inl f))] U.heap ∧ va_K (dC, dI) vwCl [(ca, .int)] U ∧ va_D (fun _ => True) [(m0, .inr (7, [.ref j0, .ref j1, .ref j2, .ref j3, .ref j4, .int 0, .int 0, .int 0, .int 0, .int 0, .int 0, .ref j5, .int 0, .ref j6, .ref j7])), (j4, .inl (ca, 401, .inl f))])) (va_Qi (fun (r : Int32) (_ : Unit) => r = 1) (fun (_ : Unit) t => ∃ (g_2 : Nat → Int32), (∀ j, j < 401 → g_2 j = -1) ∧ va_P (dC, dI) vwCl [(j4, .inl (ca, 401, .inl g_2)), (m0, .inr (7, [.ref j0, .ref j1, .ref j2, .ref j3, .ref j4, .int 0, .int 0, .int 0, .int 0, .int 1, .int 0, .ref j5, .int 0, .ref j6, .ref j7]))] t.heap ∧ va_K (dC, dI) vwCl [(ca, .int)] t ∧ va_D (va_A [(m0, .inr (7, [.ref j0, .ref j1, .ref j2, .ref j3, .ref j4, .int 0, .int 0, .int 0, .int 0, .int 0, .int 0, .ref j5, .int 0, .ref j6, .ref j7])), (j4, .inl (ca, 401, .inl f))] sz) [(j4, .inl (ca, 401, .inl g_2)), (m0, .inr (7, [.ref j0, .ref j1, .ref j2, .ref j3, .ref j4, .int 0, .int 0, .int 0, .int 0, .int 1, .int 0, .ref j5, .int 0, .ref j6, .ref j7]))]) (va_A [(m0, .inr (7, [.ref j0, .ref j1, .ref j2, .ref j3, .ref j4, .int 0, .int 0, .int 0, .int 0, .int 0, .int 0, .ref j5, .int 0, .ref j6, .ref j7])), (j4, .inl (ca, 401, .inl f))] sz)) 0 0 (va_A [(m0, .inr (7, [.ref j0, .ref j1, .ref j2, .ref j3, .ref j4, .int 0, .int 0, .int 0, .int 0, .int 0, .int 0, .ref j5, .int 0, .ref j6, .ref j7])), (j4, .inl (ca, 401, .inl f))] sz) := by
  refine Met.ofW (cc := prog_9_method_13_code) (maxL := 2) (ret := (some .boolean)) (by decide) rfl ?_
  intro p e s m args below meth c s₁ B hml hv
  obtain ⟨rfl, hsz, hP, hK, hD0⟩ := hv
  have hx := B.exec
  have hb := B.bytes
  have hr := B.returns
  have hw : ∀ w ∈ bg_W, w.before #[Value.ref m0] s = true := fun w h => atoms_spec (ws := (wq y_Md_solve prog_9_method_13_code 2 (some .boolean))) B.pre w (List.mem_cons_of_mem _ h)
  have hown : s.vm.findClass R_Md = some m.cls := findClass_of_methodNamed B.named
  have hlocks := B.notSynchronized
  subst hsz
  have hD := hD0.self (sz := s.heap.size)
  generalize hAe : va_A [(m0, .inr (7, [.ref j0, .ref j1, .ref j2, .ref j3, .ref j4, .int 0, .int 0, .int 0, .int 0, .int 0, .int 0, .ref j5, .int 0, .ref j6, .ref j7])), (j4, .inl (ca, 401, .inl f))] s.heap.size = A at hD ⊢
  have hA : ∀ q : Nat, s.heap.size ≤ q → A q := fun q h => by rw [← hAe]; exact Or.inr h
  have hS : va_S A s.heap s.heap [] := va_S.rf
  have hP : va_P (dC, dI) vwCl [(m0, .inr (7, [.ref j0, .ref j1, .ref j2, .ref j3, .ref j4, .int 0, .int 0, .int 0, .int 0, .int 0, .int 0, .ref j5, .int 0, .ref j6, .ref j7])), (j4, .inl (ca, 401, .inl f))] s.heap := hP
  have hl := lv_entry ([.ref m0]) (n := 2) (Nat.le_of_ble_eq_true rfl)
  rw [lg_entry_eq]
  generalize (lg_sl ([.ref m0]) ++ List.replicate (2 - (lg_sl ([.ref m0])).length) Slot.unset).toArray = ls at hl ⊢
  have hl : lv_has ls 2 [(0, .ref m0)] := hl
  obtain ⟨H, hH⟩ : ∃ H : Heap, H = s.heap := ⟨_, rfl⟩
  rw [← hH] at hP
  have hS : va_S A s.heap H [] := by rw [hH]; exact va_S.rf
  show W p l e _ s m _ below meth c s.heap [] 0 0 _ _
  rw [← hH]
  refine lv_aload_n hx hb d_Md_solve_0 rfl (lv_at hl 0 rfl) ?_
  refine lv_iconst (v := 0) hx hb d_Md_solve_1 (by decide) ?_
  refine va_put (D := (dC, dI)) (ci := 7) (v := .int 0) (ty := .int) (C := R_Md) (T := F_Md) (N := 15) hx hb hw in_Md t_Md t_Md_ok n_Md hown hK hP hD hS 0 rfl rfl 10 (by decide) (hw (Cond.fieldLink "ClauseSearchModel" 35 "ClauseSearchModel" "code" "I") k_614) (fun _ h9 => h9) rfl (by decide +kernel) rfl rfl (Nat.le_of_ble_eq_true rfl) d_Md_solve_2 (fun H locs hP hD hS => ?_)
  have hP : va_P (dC, dI) vwCl [(m0, .inr (7, [.ref j0, .ref j1, .ref j2, .ref j3, .ref j4, .int 0, .int 0, .int 0, .int 0, .int 0, .int 0, .ref j5, .int 0, .ref j6, .ref j7])), (j4, .inl (ca, 401, .inl f))] H := hP
  have hD : va_D A [(m0, .inr (7, [.ref j0, .ref j1, .ref j2, .ref j3, .ref j4, .int 0, .int 0, .int 0, .int 0, .int 0, .int 0, .ref j5, .int 0, .ref j6, .ref j7])), (j4, .inl (ca, 401, .inl f))] := hD
  refine lv_aload_n hx hb d_Md_solve_5 rfl (lv_at hl 0 rfl) ?_
  refine lv_aload_n hx hb d_Md_solve_6 rfl (lv_at hl 0 rfl) ?_
  refine va_get (D := (dC, dI)) (ci := 7) (v := .int 0) (C := R_Md) (T := F_Md) (N := 15) hx hb hw in_Md hown hK hP 0 rfl rfl 7 (by decide) (hw (Cond.fieldLink "ClauseSearchModel" 50 "ClauseSearchModel" "given" "I") k_611) (fun _ h9 => h9) rfl d_Md_solve_7 ?_
  refine va_put (D := (dC, dI)) (ci := 7) (v := .int 0) (ty := .int) (C := R_Md) (T := F_Md) (N := 15) hx hb hw in_Md t_Md t_Md_ok n_Md hown hK hP hD hS 0 rfl rfl 8 (by decide) (hw (Cond.fieldLink "ClauseSearchModel" 70 "ClauseSearchModel" "assumptions" "I") k_612) (fun _ h9 => h9) rfl (by decide +kernel) rfl rfl (Nat.le_of_ble_eq_true rfl) d_Md_solve_10 (fun H locs hP hD hS => ?_)
  have hP : va_P (dC, dI) vwCl [(m0, .inr (7, [.ref j0, .ref j1, .ref j2, .ref j3, .ref j4, .int 0, .int 0, .int 0, .int 0, .int 0, .int 0, .ref j5, .int 0, .ref j6, .ref j7])), (j4, .inl (ca, 401, .inl f))] H := hP
  have hD : va_D A [(m0, .inr (7, [.ref j0, .ref j1, .ref j2, .ref j3, .ref j4, .int 0, .int 0, .int 0, .int 0, .int 0, .int 0, .ref j5, .int 0, .ref j6, .ref j7])), (j4, .inl (ca, 401, .inl f))] := hD
  refine lv_iconst (v := 0) hx hb d_Md_solve_13 (by decide) ?_
  refine lv_istore_n (lv' := [(1, .int 0), (0, .ref m0)]) hx hb d_Md_solve_14 rfl hl (by decide) rfl (fun ls hl => ?_)
  refine lv_iload_n hx hb d_Md_solve_15 rfl (lv_at hl 0 rfl) ?_
  refine lv_aload_n hx hb d_Md_solve_16 rfl (lv_at hl 1 rfl) ?_
  refine va_get (D := (dC, dI)) (ci := 7) (v := .int 0) (C := R_Md) (T := F_Md) (N := 15) hx hb hw in_Md hown hK hP 0 rfl rfl 7 (by decide) (hw (Cond.fieldLink "ClauseSearchModel" 50 "ClauseSearchModel" "given" "I") k_611) (fun _ h9 => h9) rfl d_Md_solve_17 ?_
  refine lv_icmp_ge (tgt := 41) hx hb d_Md_solve_20 (by decide) (fun c_20 => ?_) (fun c_20 => absurd c_20 (by decide))
  refine lv_aload_n hx hb d_Md_solve_41 rfl (lv_at hl 1 rfl) ?_
  refine lv_iconst (v := 0) hx hb d_Md_solve_42 (by decide) ?_
  refine va_put (D := (dC, dI)) (ci := 7) (v := .int 0) (ty := .int) (C := R_Md) (T := F_Md) (N := 15) hx hb hw in_Md t_Md t_Md_ok n_Md hown hK hP hD hS 0 rfl rfl 7 (by decide) (hw (Cond.fieldLink "ClauseSearchModel" 50 "ClauseSearchModel" "given" "I") k_611) (fun _ h9 => h9) rfl (by decide +kernel) rfl rfl (Nat.le_of_ble_eq_true rfl) d_Md_solve_43 (fun H locs hP hD hS => ?_)
  have hP : va_P (dC, dI) vwCl [(m0, .inr (7, [.ref j0, .ref j1, .ref j2, .ref j3, .ref j4, .int 0, .int 0, .int 0, .int 0, .int 0, .int 0, .ref j5, .int 0, .ref j6, .ref j7])), (j4, .inl (ca, 401, .inl f))] H := hP
  have hD : va_D A [(m0, .inr (7, [.ref j0, .ref j1, .ref j2, .ref j3, .ref j4, .int 0, .int 0, .int 0, .int 0, .int 0, .int 0, .ref j5, .int 0, .ref j6, .ref j7])), (j4, .inl (ca, 401, .inl f))] := hD
  refine lv_aload_n hx hb d_Md_solve_46 rfl (lv_at hl 1 rfl) ?_
  refine lv_aload_n hx hb d_Md_solve_47 rfl (lv_at hl 1 rfl) ?_
  have hPc := hP.sub (ws' := [(m0, .inr (7, [.ref j0, .ref j1, .ref j2, .ref j3, .ref j4, .int 0, .int 0, .int 0, .int 0, .int 0, .int 0, .ref j5, .int 0, .ref j6, .ref j7])), (j4, .inl (ca, 401, .inl f))]) [0, 1] rfl
  have hDc := hD.sub (ws' := [(m0, .inr (7, [.ref j0, .ref j1, .ref j2, .ref j3, .ref j4, .int 0, .int 0, .int 0, .int 0, .int 0, .int 0, .ref j5, .int 0, .ref j6, .ref j7])), (j4, .inl (ca, 401, .inl f))]) [0, 1] (by decide) rfl
  have hKc := hK.sub (tys' := [(ca, .int)]) [0] rfl
  have hFc := va_free (wc := [(m0, .inr (7, [.ref j0, .ref j1, .ref j2, .ref j3, .ref j4, .int 0, .int 0, .int 0, .int 0, .int 0, .int 0, .ref j5, .int 0, .ref j6, .ref j7])), (j4, .inl (ca, 401, .inl f))]) hD hS hA [0, 1] rfl
  refine va_calli (va_runV (As := []) (rest := [.ref m0]) ⟨hx, hb, hml, hown, hw⟩ (c_Md_search_0 l dC dI m0 j0 j1 j2 j3 j4 j5 j6 j7 ca H.size f) (cb_V (C := R_Md) 0 hw k_677 k_37 k_674 k_676 k_22 rfl rfl (by decide +kernel) ⟨Nat.le_of_ble_eq_true rfl, Nat.le_of_ble_eq_true rfl⟩) ⟨fun a U g mk q => by obtain ⟨q0, q1, qP, qK, qD⟩ := q; exact ⟨q0, q1, qP, va_K.moved (u := U) (U := U.calling g mk a) (Vm.Alike.refl U.vm) qK, qD⟩, va_recv hKc hPc (ci := 7) (q0 := 0) rfl rfl, fun U hU hW => ⟨rfl, by rw [hU], by rw [hU]; exact hPc, va_K.moved hW.alike hKc, hDc.weaken (fun _ _ _ _ => trivial)⟩⟩ rfl rfl hl.1 rfl (lv_room (Nat.le_of_ble_eq_true rfl)) d_Md_solve_48 ⟨Nat.le_of_ble_eq_true rfl, Nat.le_of_ble_eq_true rfl⟩) hS (fun q _ h => hFc q h) hFc (fun r_1 u t H1 locs ht hvm hw9 hB hz1 hk1 hS => ?_)
  obtain ⟨g_2, f_3, hP1, hK1, hD1⟩ := hB
  rw [ht] at hP1
  have hK1 := va_K.moved hvm.symm hK1
  obtain ⟨hP, hD⟩ := va_join (wr := []) (w1 := [(j4, .inl (ca, 401, .inl g_2)), (m0, .inr (7, [.ref j0, .ref j1, .ref j2, .ref j3, .ref j4, .int 0, .int 0, .int 0, .int 0, .int 0, .int 0, .ref j5, .int 0, .ref j6, .ref j7]))]) hP hD [0, 1] [] rfl rfl (by decide) (by decide) hk1 hFc hP1 hD1
  generalize H1 = H at hP hS ⊢
  have hP : va_P (dC, dI) vwCl [(j4, .inl (ca, 401, .inl g_2)), (m0, .inr (7, [.ref j0, .ref j1, .ref j2, .ref j3, .ref j4, .int 0, .int 0, .int 0, .int 0, .int 0, .int 0, .ref j5, .int 0, .ref j6, .ref j7]))] H := hP
  have hD : va_D A [(j4, .inl (ca, 401, .inl g_2)), (m0, .inr (7, [.ref j0, .ref j1, .ref j2, .ref j3, .ref j4, .int 0, .int 0, .int 0, .int 0, .int 0, .int 0, .ref j5, .int 0, .ref j6, .ref j7]))] := hD
  refine W.widen (k := 0) (n := 0) (by decide) (by decide) ?_
  have hw9 : r_1 = 1 := hw9
  subst hw9
  refine va_put (D := (dC, dI)) (ci := 7) (v := .int 1) (ty := .boolean) (C := R_Md) (T := F_Md) (N := 15) hx hb hw in_Md t_Md t_Md_ok n_Md hown hK hP hD hS 1 rfl rfl 9 (by decide) (hw (Cond.fieldLink "ClauseSearchModel" 46 "ClauseSearchModel" "stands" "Z") k_613) (fun _ h9 => h9) rfl (by decide +kernel) rfl rfl (Nat.le_of_ble_eq_true rfl) d_Md_solve_51 (fun H locs hP hD hS => ?_)
  have hP : va_P (dC, dI) vwCl [(j4, .inl (ca, 401, .inl g_2)), (m0, .inr (7, [.ref j0, .ref j1, .ref j2, .ref j3, .ref j4, .int 0, .int 0, .int 0, .int 0, .int 1, .int 0, .ref j5, .int 0, .ref j6, .ref j7]))] H := hP
  have hD : va_D A [(j4, .inl (ca, 401, .inl g_2)), (m0, .inr (7, [.ref j0, .ref j1, .ref j2, .ref j3, .ref j4, .int 0, .int 0, .int 0, .int 0, .int 1, .int 0, .ref j5, .int 0, .ref j6, .ref j7]))] := hD
  refine lv_aload_n hx hb d_Md_solve_54 rfl (lv_at hl 1 rfl) ?_
  refine va_get (D := (dC, dI)) (ci := 7) (v := .int 1) (C := R_Md) (T := F_Md) (N := 15) hx hb hw in_Md hown hK hP 1 rfl rfl 9 (by decide) (hw (Cond.fieldLink "ClauseSearchModel" 46 "ClauseSearchModel" "stands" "Z") k_613) (fun _ h9 => h9) rfl d_Md_solve_55 ?_
  refine W.widen (k := 0) (n := 0) (by decide) (by decide) ?_
  exact W.zret (v := 1) hx hb hr rfl (fun t ht hW => ⟨⟨1, (), rfl, rfl, g_2, f_3, by rw [ht]; exact hP, va_K.moved hW.alike hK, hD⟩, hS.F ht⟩) hS.2.2 d_Md_solve_58
