abbrev y_Tr_shrink : MethodName := ⟨"ClauseSearch$Trail", "shrink", "(I)V"⟩
abbrev y_Tr_clear : MethodName := ⟨"ClauseSearch$Trail", "clear", "()V"⟩
abbrev y_Sr_putFacts : MethodName := ⟨"ClauseSearch$Search", "putFacts", "()V"⟩
abbrev y_Wt_follow : MethodName := ⟨"ClauseSearch$Watch", "follow", "()I"⟩
abbrev y_Tr_lowestUnknown : MethodName := ⟨"ClauseSearch$Trail", "lowestUnknown", "(I)I"⟩
abbrev y_Sr_codeToTry : MethodName := ⟨"ClauseSearch$Search", "codeToTry", "(I[II)I"⟩
abbrev y_Sr_findLeast : MethodName := ⟨"ClauseSearch$Search", "findLeast", "(I[II)Z"⟩
abbrev y_Sr_tellWay : MethodName := ⟨"ClauseSearch$Search", "tellWay", "([ZI)V"⟩
theorem k_0 : (Cond.selects "ClauseSearch$Trail" ⟨"ClauseSearch$Trail", "shrink", "(I)V"⟩ ⟨"ClauseSearch$Trail", "shrink", "(I)V"⟩) ∈ bg_W := bg_in 0 (by decide +kernel) (by decide +kernel)
theorem k_1 : (Cond.selects "ClauseSearch$Search" ⟨"ClauseSearch$Search", "putFacts", "()V"⟩ ⟨"ClauseSearch$Search", "putFacts", "()V"⟩) ∈ bg_W := bg_in 1 (by decide +kernel) (by decide +kernel)
theorem k_14 : (Cond.selects "ClauseSearch$Search" ⟨"ClauseSearch$Search", "codeToTry", "(I[II)I"⟩ ⟨"ClauseSearch$Search", "codeToTry", "(I[II)I"⟩) ∈ bg_W := bg_in 14 (by decide +kernel) (by decide +kernel)
theorem k_44 : (Cond.initialized "java/lang/Math") ∈ bg_W := bg_in 44 (by decide +kernel) (by decide +kernel)
theorem k_110 : (Cond.fieldLink "ClauseSearch$Trail" 35 "ClauseSearch$Trail" "size" "I") ∈ bg_W := bg_in 110 (by decide +kernel) (by decide +kernel)
theorem k_111 : (Cond.fieldLinkNest "ClauseSearch$Watch" 61 "ClauseSearch$Trail" "size" "I" "ClauseSearch") ∈ bg_W := bg_in 111 (by decide +kernel) (by decide +kernel)
theorem k_112 : (Cond.fieldLinkNest "ClauseSearch$Watch" 56 "ClauseSearch$Trail" "followed" "I" "ClauseSearch") ∈ bg_W := bg_in 112 (by decide +kernel) (by decide +kernel)
theorem k_113 : (Cond.fieldLink "ClauseSearch$Trail" 52 "ClauseSearch$Trail" "followed" "I") ∈ bg_W := bg_in 113 (by decide +kernel) (by decide +kernel)
theorem k_114 : (Cond.fieldLink "ClauseSearch$Trail" 32 "ClauseSearch$Trail" "level" "I") ∈ bg_W := bg_in 114 (by decide +kernel) (by decide +kernel)
theorem k_225 : (Cond.fieldLink "ClauseSearch$Search" 76 "ClauseSearch$Search" "factCount" "I") ∈ bg_W := bg_in 225 (by decide +kernel) (by decide +kernel)
theorem k_229 : (Cond.fieldLink "ClauseSearch$Search" 89 "ClauseSearch$Search" "hopeless" "Z") ∈ bg_W := bg_in 229 (by decide +kernel) (by decide +kernel)
theorem k_288 : (Cond.methodLink "ClauseSearch$Search" 79 ⟨"ClauseSearch$Trail", "clear", "()V"⟩) ∈ bg_W := bg_in 288 (by decide +kernel) (by decide +kernel)
theorem k_289 : (Cond.instanceMethod ⟨"ClauseSearch$Trail", "clear", "()V"⟩) ∈ bg_W := bg_in 289 (by decide +kernel) (by decide +kernel)
theorem k_290 : (Cond.selects "ClauseSearch$Trail" ⟨"ClauseSearch$Trail", "clear", "()V"⟩ ⟨"ClauseSearch$Trail", "clear", "()V"⟩) ∈ bg_W := bg_in 290 (by decide +kernel) (by decide +kernel)
theorem k_291 : (Cond.code ⟨"ClauseSearch$Trail", "clear", "()V"⟩ prog_6_method_5_code 1 none) ∈ bg_W := bg_in 291 (by decide +kernel) (by decide +kernel)
theorem k_292 : (Cond.methodLink "ClauseSearch$Trail" 42 ⟨"ClauseSearch$Trail", "shrink", "(I)V"⟩) ∈ bg_W := bg_in 292 (by decide +kernel) (by decide +kernel)
theorem k_294 : (Cond.instanceMethod ⟨"ClauseSearch$Trail", "shrink", "(I)V"⟩) ∈ bg_W := bg_in 294 (by decide +kernel) (by decide +kernel)
theorem k_295 : (Cond.code ⟨"ClauseSearch$Trail", "shrink", "(I)V"⟩ prog_6_method_6_code 3 none) ∈ bg_W := bg_in 295 (by decide +kernel) (by decide +kernel)
theorem k_296 : (Cond.methodLink "ClauseSearch$Trail" 46 ⟨"java/lang/Math", "min", "(II)I"⟩) ∈ bg_W := bg_in 296 (by decide +kernel) (by decide +kernel)
theorem k_297 : (Cond.static ⟨"java/lang/Math", "min", "(II)I"⟩) ∈ bg_W := bg_in 297 (by decide +kernel) (by decide +kernel)
theorem k_298 : (Cond.code ⟨"java/lang/Math", "min", "(II)I"⟩ prog_15_method_69_code 2 (some .int)) ∈ bg_W := bg_in 298 (by decide +kernel) (by decide +kernel)
theorem k_299 : (Cond.methodLink "ClauseSearch$Search" 84 ⟨"ClauseSearch$Search", "putFacts", "()V"⟩) ∈ bg_W := bg_in 299 (by decide +kernel) (by decide +kernel)
theorem k_301 : (Cond.instanceMethod ⟨"ClauseSearch$Search", "putFacts", "()V"⟩) ∈ bg_W := bg_in 301 (by decide +kernel) (by decide +kernel)
theorem k_302 : (Cond.code ⟨"ClauseSearch$Search", "putFacts", "()V"⟩ prog_5_method_6_code 2 none) ∈ bg_W := bg_in 302 (by decide +kernel) (by decide +kernel)
theorem k_307 : (Cond.constantLong "ClauseSearch$Search" 87 1099511627776) ∈ bg_W := bg_in 307 (by decide +kernel) (by decide +kernel)
theorem k_308 : (Cond.methodLink "ClauseSearch$Search" 93 ⟨"ClauseSearch$Watch", "follow", "()I"⟩) ∈ bg_W := bg_in 308 (by decide +kernel) (by decide +kernel)
theorem k_309 : (Cond.instanceMethod ⟨"ClauseSearch$Watch", "follow", "()I"⟩) ∈ bg_W := bg_in 309 (by decide +kernel) (by decide +kernel)
theorem k_310 : (Cond.selects "ClauseSearch$Watch" ⟨"ClauseSearch$Watch", "follow", "()I"⟩ ⟨"ClauseSearch$Watch", "follow", "()I"⟩) ∈ bg_W := bg_in 310 (by decide +kernel) (by decide +kernel)
theorem k_311 : (Cond.code ⟨"ClauseSearch$Watch", "follow", "()I"⟩ prog_7_method_5_code 3 (some .int)) ∈ bg_W := bg_in 311 (by decide +kernel) (by decide +kernel)
theorem k_412 : (Cond.methodLink "ClauseSearch$Search" 100 ⟨"ClauseSearch$Search", "codeToTry", "(I[II)I"⟩) ∈ bg_W := bg_in 412 (by decide +kernel) (by decide +kernel)
theorem k_414 : (Cond.instanceMethod ⟨"ClauseSearch$Search", "codeToTry", "(I[II)I"⟩) ∈ bg_W := bg_in 414 (by decide +kernel) (by decide +kernel)
theorem k_415 : (Cond.code ⟨"ClauseSearch$Search", "codeToTry", "(I[II)I"⟩ prog_5_method_7_code 5 (some .int)) ∈ bg_W := bg_in 415 (by decide +kernel) (by decide +kernel)
theorem k_416 : (Cond.methodLink "ClauseSearch$Search" 115 ⟨"ClauseSearch$Trail", "lowestUnknown", "(I)I"⟩) ∈ bg_W := bg_in 416 (by decide +kernel) (by decide +kernel)
theorem k_417 : (Cond.instanceMethod ⟨"ClauseSearch$Trail", "lowestUnknown", "(I)I"⟩) ∈ bg_W := bg_in 417 (by decide +kernel) (by decide +kernel)
theorem k_418 : (Cond.selects "ClauseSearch$Trail" ⟨"ClauseSearch$Trail", "lowestUnknown", "(I)I"⟩ ⟨"ClauseSearch$Trail", "lowestUnknown", "(I)I"⟩) ∈ bg_W := bg_in 418 (by decide +kernel) (by decide +kernel)
theorem k_419 : (Cond.code ⟨"ClauseSearch$Trail", "lowestUnknown", "(I)I"⟩ prog_6_method_7_code 2 (some .int)) ∈ bg_W := bg_in 419 (by decide +kernel) (by decide +kernel)
theorem d_Tr_shrink_0 : decode prog_6_method_6_code 0 = .ok (.aload_n 0, 1) := by decide +kernel
theorem d_Tr_shrink_1 : decode prog_6_method_6_code 1 = .ok (.getfield 35, 3) := by decide +kernel
theorem d_Tr_shrink_4 : decode prog_6_method_6_code 4 = .ok (.iload_n 1, 1) := by decide +kernel
theorem d_Tr_shrink_5 : decode prog_6_method_6_code 5 = .ok (.if_icmp .le 58, 3) := by decide +kernel
theorem d_Tr_shrink_63 : decode prog_6_method_6_code 63 = .ok (.aload_n 0, 1) := by decide +kernel
theorem d_Tr_shrink_64 : decode prog_6_method_6_code 64 = .ok (.aload_n 0, 1) := by decide +kernel
theorem d_Tr_shrink_65 : decode prog_6_method_6_code 65 = .ok (.getfield 52, 3) := by decide +kernel
theorem d_Tr_shrink_68 : decode prog_6_method_6_code 68 = .ok (.aload_n 0, 1) := by decide +kernel
theorem d_Tr_shrink_69 : decode prog_6_method_6_code 69 = .ok (.getfield 35, 3) := by decide +kernel
theorem d_Tr_shrink_72 : decode prog_6_method_6_code 72 = .ok (.invokestatic 46, 3) := by decide +kernel
theorem d_Tr_shrink_75 : decode prog_6_method_6_code 75 = .ok (.putfield 52, 3) := by decide +kernel
theorem d_Tr_shrink_78 : decode prog_6_method_6_code 78 = .ok (.return_, 1) := by decide +kernel
theorem d_Tr_clear_0 : decode prog_6_method_5_code 0 = .ok (.aload_n 0, 1) := by decide +kernel
theorem d_Tr_clear_1 : decode prog_6_method_5_code 1 = .ok (.iconst 0, 1) := by decide +kernel
theorem d_Tr_clear_2 : decode prog_6_method_5_code 2 = .ok (.invokevirtual 42, 3) := by decide +kernel
theorem d_Tr_clear_5 : decode prog_6_method_5_code 5 = .ok (.aload_n 0, 1) := by decide +kernel
theorem d_Tr_clear_6 : decode prog_6_method_5_code 6 = .ok (.iconst 0, 1) := by decide +kernel
theorem d_Tr_clear_7 : decode prog_6_method_5_code 7 = .ok (.putfield 32, 3) := by decide +kernel
theorem d_Tr_clear_10 : decode prog_6_method_5_code 10 = .ok (.return_, 1) := by decide +kernel
theorem d_Sr_putFacts_0 : decode prog_5_method_6_code 0 = .ok (.iconst 0, 1) := by decide +kernel
theorem d_Sr_putFacts_1 : decode prog_5_method_6_code 1 = .ok (.istore_n 1, 1) := by decide +kernel
theorem d_Sr_putFacts_2 : decode prog_5_method_6_code 2 = .ok (.iload_n 1, 1) := by decide +kernel
theorem d_Sr_putFacts_3 : decode prog_5_method_6_code 3 = .ok (.aload_n 0, 1) := by decide +kernel
theorem d_Sr_putFacts_4 : decode prog_5_method_6_code 4 = .ok (.getfield 76, 3) := by decide +kernel
theorem d_Sr_putFacts_7 : decode prog_5_method_6_code 7 = .ok (.if_icmp .ge 66, 3) := by decide +kernel
theorem d_Sr_putFacts_73 : decode prog_5_method_6_code 73 = .ok (.return_, 1) := by decide +kernel
theorem d_Wt_follow_0 : decode prog_7_method_5_code 0 = .ok (.sipush 400, 3) := by decide +kernel
theorem d_Wt_follow_3 : decode prog_7_method_5_code 3 = .ok (.istore_n 1, 1) := by decide +kernel
theorem d_Wt_follow_4 : decode prog_7_method_5_code 4 = .ok (.iload_n 1, 1) := by decide +kernel
theorem d_Wt_follow_5 : decode prog_7_method_5_code 5 = .ok (.ifCond .le 68, 3) := by decide +kernel
theorem d_Wt_follow_8 : decode prog_7_method_5_code 8 = .ok (.aload_n 0, 1) := by decide +kernel
theorem d_Wt_follow_9 : decode prog_7_method_5_code 9 = .ok (.getfield 15, 3) := by decide +kernel
theorem d_Wt_follow_12 : decode prog_7_method_5_code 12 = .ok (.getfield 56, 3) := by decide +kernel
theorem d_Wt_follow_15 : decode prog_7_method_5_code 15 = .ok (.aload_n 0, 1) := by decide +kernel
theorem d_Wt_follow_16 : decode prog_7_method_5_code 16 = .ok (.getfield 15, 3) := by decide +kernel
theorem d_Wt_follow_19 : decode prog_7_method_5_code 19 = .ok (.getfield 61, 3) := by decide +kernel
theorem d_Wt_follow_22 : decode prog_7_method_5_code 22 = .ok (.if_icmp .ge 51, 3) := by decide +kernel
theorem d_Wt_follow_73 : decode prog_7_method_5_code 73 = .ok (.iconst (-1), 1) := by decide +kernel
theorem d_Wt_follow_74 : decode prog_7_method_5_code 74 = .ok (.ireturn, 1) := by decide +kernel
theorem d_Tr_lowestUnknown_0 : decode prog_6_method_7_code 0 = .ok (.aload_n 0, 1) := by decide +kernel
theorem d_Tr_lowestUnknown_1 : decode prog_6_method_7_code 1 = .ok (.getfield 28, 3) := by decide +kernel
theorem d_Tr_lowestUnknown_4 : decode prog_6_method_7_code 4 = .ok (.iload_n 1, 1) := by decide +kernel
theorem d_Tr_lowestUnknown_5 : decode prog_6_method_7_code 5 = .ok (.if_icmp .gt 30, 3) := by decide +kernel
theorem d_Tr_lowestUnknown_35 : decode prog_6_method_7_code 35 = .ok (.aload_n 0, 1) := by decide +kernel
theorem d_Tr_lowestUnknown_36 : decode prog_6_method_7_code 36 = .ok (.getfield 28, 3) := by decide +kernel
theorem d_Tr_lowestUnknown_39 : decode prog_6_method_7_code 39 = .ok (.ireturn, 1) := by decide +kernel
theorem d_Sr_codeToTry_0 : decode prog_5_method_7_code 0 = .ok (.iconst 0, 1) := by decide +kernel
theorem d_Sr_codeToTry_1 : decode prog_5_method_7_code 1 = .ok (.istore 4, 2) := by decide +kernel
theorem d_Sr_codeToTry_3 : decode prog_5_method_7_code 3 = .ok (.iload 4, 2) := by decide +kernel
theorem d_Sr_codeToTry_5 : decode prog_5_method_7_code 5 = .ok (.iload_n 3, 1) := by decide +kernel
theorem d_Sr_codeToTry_6 : decode prog_5_method_7_code 6 = .ok (.if_icmp .ge 30, 3) := by decide +kernel
theorem d_Sr_codeToTry_36 : decode prog_5_method_7_code 36 = .ok (.aload_n 0, 1) := by decide +kernel
theorem d_Sr_codeToTry_37 : decode prog_5_method_7_code 37 = .ok (.getfield 15, 3) := by decide +kernel
theorem d_Sr_codeToTry_40 : decode prog_5_method_7_code 40 = .ok (.iload_n 1, 1) := by decide +kernel
theorem d_Sr_codeToTry_41 : decode prog_5_method_7_code 41 = .ok (.invokevirtual 115, 3) := by decide +kernel
theorem d_Sr_codeToTry_44 : decode prog_5_method_7_code 44 = .ok (.istore 4, 2) := by decide +kernel
theorem d_Sr_codeToTry_46 : decode prog_5_method_7_code 46 = .ok (.iload 4, 2) := by decide +kernel
theorem d_Sr_codeToTry_48 : decode prog_5_method_7_code 48 = .ok (.iload_n 1, 1) := by decide +kernel
theorem d_Sr_codeToTry_49 : decode prog_5_method_7_code 49 = .ok (.if_icmp .le 7, 3) := by decide +kernel
theorem d_Sr_codeToTry_52 : decode prog_5_method_7_code 52 = .ok (.iconst (-1), 1) := by decide +kernel
theorem d_Sr_codeToTry_53 : decode prog_5_method_7_code 53 = .ok (.goto 9, 3) := by decide +kernel
theorem d_Sr_codeToTry_62 : decode prog_5_method_7_code 62 = .ok (.ireturn, 1) := by decide +kernel
theorem d_Sr_findLeast_0 : decode prog_5_method_5_code 0 = .ok (.aload_n 0, 1) := by decide +kernel
theorem d_Sr_findLeast_1 : decode prog_5_method_5_code 1 = .ok (.getfield 15, 3) := by decide +kernel
theorem d_Sr_findLeast_4 : decode prog_5_method_5_code 4 = .ok (.invokevirtual 79, 3) := by decide +kernel
theorem d_Sr_findLeast_7 : decode prog_5_method_5_code 7 = .ok (.aload_n 0, 1) := by decide +kernel
theorem d_Sr_findLeast_8 : decode prog_5_method_5_code 8 = .ok (.invokevirtual 84, 3) := by decide +kernel
theorem d_Sr_findLeast_11 : decode prog_5_method_5_code 11 = .ok (.lconst 0, 1) := by decide +kernel
theorem d_Sr_findLeast_12 : decode prog_5_method_5_code 12 = .ok (.lstore 4, 2) := by decide +kernel
theorem d_Sr_findLeast_14 : decode prog_5_method_5_code 14 = .ok (.lload 4, 2) := by decide +kernel
theorem d_Sr_findLeast_16 : decode prog_5_method_5_code 16 = .ok (.ldc2_w 87, 3) := by decide +kernel
theorem d_Sr_findLeast_19 : decode prog_5_method_5_code 19 = .ok (.lcmp, 1) := by decide +kernel
theorem d_Sr_findLeast_20 : decode prog_5_method_5_code 20 = .ok (.ifCond .ge 85, 3) := by decide +kernel
theorem d_Sr_findLeast_23 : decode prog_5_method_5_code 23 = .ok (.aload_n 0, 1) := by decide +kernel
theorem d_Sr_findLeast_24 : decode prog_5_method_5_code 24 = .ok (.getfield 89, 3) := by decide +kernel
theorem d_Sr_findLeast_27 : decode prog_5_method_5_code 27 = .ok (.ifCond .ne 78, 3) := by decide +kernel
theorem d_Sr_findLeast_30 : decode prog_5_method_5_code 30 = .ok (.aload_n 0, 1) := by decide +kernel
theorem d_Sr_findLeast_31 : decode prog_5_method_5_code 31 = .ok (.getfield 24, 3) := by decide +kernel
theorem d_Sr_findLeast_34 : decode prog_5_method_5_code 34 = .ok (.invokevirtual 93, 3) := by decide +kernel
theorem d_Sr_findLeast_37 : decode prog_5_method_5_code 37 = .ok (.istore 6, 2) := by decide +kernel
theorem d_Sr_findLeast_39 : decode prog_5_method_5_code 39 = .ok (.iload 6, 2) := by decide +kernel
theorem d_Sr_findLeast_41 : decode prog_5_method_5_code 41 = .ok (.iconst (-1), 1) := by decide +kernel
theorem d_Sr_findLeast_42 : decode prog_5_method_5_code 42 = .ok (.if_icmp .eq 12, 3) := by decide +kernel
theorem d_Sr_findLeast_54 : decode prog_5_method_5_code 54 = .ok (.aload_n 0, 1) := by decide +kernel
theorem d_Sr_findLeast_55 : decode prog_5_method_5_code 55 = .ok (.iload_n 1, 1) := by decide +kernel
theorem d_Sr_findLeast_56 : decode prog_5_method_5_code 56 = .ok (.aload_n 2, 1) := by decide +kernel
theorem d_Sr_findLeast_57 : decode prog_5_method_5_code 57 = .ok (.iload_n 3, 1) := by decide +kernel
theorem d_Sr_findLeast_58 : decode prog_5_method_5_code 58 = .ok (.invokevirtual 100, 3) := by decide +kernel
theorem d_Sr_findLeast_61 : decode prog_5_method_5_code 61 = .ok (.istore 7, 2) := by decide +kernel
theorem d_Sr_findLeast_63 : decode prog_5_method_5_code 63 = .ok (.iload 7, 2) := by decide +kernel
theorem d_Sr_findLeast_65 : decode prog_5_method_5_code 65 = .ok (.iconst (-1), 1) := by decide +kernel
theorem d_Sr_findLeast_66 : decode prog_5_method_5_code 66 = .ok (.if_icmp .ne 5, 3) := by decide +kernel
theorem d_Sr_findLeast_69 : decode prog_5_method_5_code 69 = .ok (.iconst 1, 1) := by decide +kernel
theorem d_Sr_findLeast_70 : decode prog_5_method_5_code 70 = .ok (.ireturn, 1) := by decide +kernel
theorem d_Sr_tellWay_0 : decode prog_5_method_11_code 0 = .ok (.iconst 1, 1) := by decide +kernel
theorem d_Sr_tellWay_1 : decode prog_5_method_11_code 1 = .ok (.istore_n 3, 1) := by decide +kernel
theorem d_Sr_tellWay_2 : decode prog_5_method_11_code 2 = .ok (.iload_n 3, 1) := by decide +kernel
theorem d_Sr_tellWay_3 : decode prog_5_method_11_code 3 = .ok (.iload_n 2, 1) := by decide +kernel
theorem d_Sr_tellWay_4 : decode prog_5_method_11_code 4 = .ok (.if_icmp .gt 32, 3) := by decide +kernel
theorem d_Sr_tellWay_36 : decode prog_5_method_11_code 36 = .ok (.return_, 1) := by decide +kernel
set_option maxHeartbeats 4000000 in
set_option maxRecDepth 100000 in
/-- shrink(0) of an empty trail -/
theorem c_Tr_shrink_0 (l : Launch) (dC : Nat → ClassId) (dI : Nat → Nat → Nat) (t0 : Nat) (u0 : Nat) (u1 : Nat) (u2 : Nat) (u3 : Nat) (u4 : Nat) (sz : Nat) : Met l y_Tr_shrink (wq y_Tr_shrink prog_6_method_6_code 3 none) ({ frames := 1, cells := 0, slots := 0, locals := 15 }) (va_Pc [.ref t0, .int 0] (fun U => U.heap.size = sz ∧ va_P (dC, dI) vwCl [(t0, .inr (4, [.ref u0, .ref u1, .ref u2, .ref u3, .ref u4, .int 0, .int 0, .int 0, .int 1]))] U.heap ∧ va_K (dC, dI) vwCl [] U ∧ va_D (fun _ => True) [(t0, .inr (4, [.ref u0, .ref u1, .ref u2, .ref u3, .ref u4, .int 0, .int 0, .int 0, .int 1]))])) (va_Qv (fun _ : Unit => True) (fun (_ : Unit) t => va_P (dC, dI) vwCl [(t0, .inr (4, [.ref u0, .ref u1, .ref u2, .ref u3, .ref u4, .int 0, .int 0, .int 0, .int 1]))] t.heap ∧ va_K (dC, dI) vwCl [] t ∧ va_D (va_A [(t0, .inr (4, [.ref u0, .ref u1, .ref u2, .ref u3, .ref u4, .int 0, .int 0, .int 0, .int 1]))] sz) [(t0, .inr (4, [.ref u0, .ref u1, .ref u2, .ref u3, .ref u4, .int 0, .int 0, .int 0, .int 1]))]) (va_A [(t0, .inr (4, [.ref u0, .ref u1, .ref u2, .ref u3, .ref u4, .int 0, .int 0, .int 0, .int 1]))] sz)) 0 0 (va_A [(t0, .inr (4, [.ref u0, .ref u1, .ref u2, .ref u3, .ref u4, .int 0, .int 0, .int 0, .int 1]))] sz) := by
  refine Met.ofW (cc := prog_6_method_6_code) (maxL := 3) (ret := none) (by decide) rfl ?_
  intro p e s m args below meth c s₁ B hml hv
  obtain ⟨rfl, hsz, hP, hK, hD0⟩ := hv
  have hx := B.exec
  have hb := B.bytes
  have hr := B.returns
  have hw : ∀ w ∈ bg_W, w.before #[Value.ref t0, Value.int 0] s = true := fun w h => atoms_spec (ws := (wq y_Tr_shrink prog_6_method_6_code 3 none)) B.pre w (List.mem_cons_of_mem _ h)
  have hown : s.vm.findClass R_Tr = some m.cls := findClass_of_methodNamed B.named
  have hlocks := B.notSynchronized
  subst hsz
  have hD := hD0.self (sz := s.heap.size)
  generalize hAe : va_A [(t0, .inr (4, [.ref u0, .ref u1, .ref u2, .ref u3, .ref u4, .int 0, .int 0, .int 0, .int 1]))] s.heap.size = A at hD ⊢
  have hA : ∀ q : Nat, s.heap.size ≤ q → A q := fun q h => by rw [← hAe]; exact Or.inr h
  have hS : va_S A s.heap s.heap [] := va_S.rf
  have hP : va_P (dC, dI) vwCl [(t0, .inr (4, [.ref u0, .ref u1, .ref u2, .ref u3, .ref u4, .int 0, .int 0, .int 0, .int 1]))] s.heap := hP
  have hl := lv_entry ([.ref t0, .int 0]) (n := 3) (Nat.le_of_ble_eq_true rfl)
  rw [lg_entry_eq]
  generalize (lg_sl ([.ref t0, .int 0]) ++ List.replicate (3 - (lg_sl ([.ref t0, .int 0])).length) Slot.unset).toArray = ls at hl ⊢
  have hl : lv_has ls 3 [(0, .ref t0), (1, .int 0)] := hl
  obtain ⟨H, hH⟩ : ∃ H : Heap, H = s.heap := ⟨_, rfl⟩
  rw [← hH] at hP
  have hS : va_S A s.heap H [] := by rw [hH]; exact va_S.rf
  show W p l e _ s m _ below meth c s.heap [] 0 0 _ _
  rw [← hH]
  refine lv_aload_n hx hb d_Tr_shrink_0 rfl (lv_at hl 0 rfl) ?_
  refine va_get (D := (dC, dI)) (ci := 4) (v := .int 0) (C := R_Tr) (T := F_Tr) (N := 9) hx hb hw in_Tr hown hK hP 0 rfl rfl 5 (by decide) (hw (Cond.fieldLink "ClauseSearch$Trail" 35 "ClauseSearch$Trail" "size" "I") k_110) (fun _ h9 => h9) rfl d_Tr_shrink_1 ?_
  refine lv_iload_n hx hb d_Tr_shrink_4 rfl (lv_at hl 1 rfl) ?_
  refine lv_icmp_le (tgt := 63) hx hb d_Tr_shrink_5 (by decide) (fun c_5 => ?_) (fun c_5 => absurd c_5 (by decide))
  refine lv_aload_n hx hb d_Tr_shrink_63 rfl (lv_at hl 0 rfl) ?_
  refine lv_aload_n hx hb d_Tr_shrink_64 rfl (lv_at hl 0 rfl) ?_
  refine va_get (D := (dC, dI)) (ci := 4) (v := .int 0) (C := R_Tr) (T := F_Tr) (N := 9) hx hb hw in_Tr hown hK hP 0 rfl rfl 6 (by decide) (hw (Cond.fieldLink "ClauseSearch$Trail" 52 "ClauseSearch$Trail" "followed" "I") k_113) (fun _ h9 => h9) rfl d_Tr_shrink_65 ?_
  refine lv_aload_n hx hb d_Tr_shrink_68 rfl (lv_at hl 0 rfl) ?_
  refine va_get (D := (dC, dI)) (ci := 4) (v := .int 0) (C := R_Tr) (T := F_Tr) (N := 9) hx hb hw in_Tr hown hK hP 0 rfl rfl 5 (by decide) (hw (Cond.fieldLink "ClauseSearch$Trail" 35 "ClauseSearch$Trail" "size" "I") k_110) (fun _ h9 => h9) rfl d_Tr_shrink_69 ?_
  refine va_mmin hx hb (by rw [hml]; exact hl.1.symm) hown (hw (Cond.methodLink "ClauseSearch$Trail" 46 ⟨"java/lang/Math", "min", "(II)I"⟩) k_296) (hw (Cond.static ⟨"java/lang/Math", "min", "(II)I"⟩) k_297) (hw (Cond.initialized "java/lang/Math") k_44) (hw (Cond.code ⟨"java/lang/Math", "min", "(II)I"⟩ prog_15_method_69_code 2 (some .int)) k_298) (Nat.le_of_ble_eq_true rfl) (Nat.le_of_ble_eq_true rfl) (Nat.le_of_ble_eq_true rfl) (Nat.le_of_ble_eq_true rfl) d_Tr_shrink_72 ?_
  refine lv_topi (fun v_1 ev_1 => ?_)
  obtain rfl : v_1 = 0 := ev_1.trans (by decide)
  refine va_put (D := (dC, dI)) (ci := 4) (v := .int 0) (ty := .int) (C := R_Tr) (T := F_Tr) (N := 9) hx hb hw in_Tr t_Tr t_Tr_ok n_Tr hown hK hP hD hS 0 rfl rfl 6 (by decide) (hw (Cond.fieldLink "ClauseSearch$Trail" 52 "ClauseSearch$Trail" "followed" "I") k_113) (fun _ h9 => h9) rfl (by decide +kernel) rfl rfl (Nat.le_of_ble_eq_true rfl) d_Tr_shrink_75 (fun H locs hP hD hS => ?_)
  have hP : va_P (dC, dI) vwCl [(t0, .inr (4, [.ref u0, .ref u1, .ref u2, .ref u3, .ref u4, .int 0, .int 0, .int 0, .int 1]))] H := hP
  have hD : va_D A [(t0, .inr (4, [.ref u0, .ref u1, .ref u2, .ref u3, .ref u4, .int 0, .int 0, .int 0, .int 1]))] := hD
  refine W.widen (k := 0) (n := 0) (by decide) (by decide) ?_
  exact W.vret hx hb hr (fun t ht hW => ⟨⟨(), rfl, trivial, by rw [ht]; exact hP, va_K.moved hW.alike hK, hD⟩, hS.F ht⟩) hS.2.2 d_Tr_shrink_78

set_option maxHeartbeats 4000000 in
set_option maxRecDepth 100000 in
/-- clear() of an empty trail -/
theorem c_Tr_clear_0 (l : Launch) (dC : Nat → ClassId) (dI : Nat → Nat → Nat) (t0 : Nat) (u0 : Nat) (u1 : Nat) (u2 : Nat) (u3 : Nat) (u4 : Nat) (sz : Nat) : Met l y_Tr_clear (wq y_Tr_clear prog_6_method_5_code 1 none) ({ frames := 2, cells := 0, slots := 0, locals := 37 }) (va_Pc [.ref t0] (fun U => U.heap.size = sz ∧ va_P (dC, dI) vwCl [(t0, .inr (4, [.ref u0, .ref u1, .ref u2, .ref u3, .ref u4, .int 0, .int 0, .int 0, .int 1]))] U.heap ∧ va_K (dC, dI) vwCl [] U ∧ va_D (fun _ => True) [(t0, .inr (4, [.ref u0, .ref u1, .ref u2, .ref u3, .ref u4, .int 0, .int 0, .int 0, .int 1]))])) (va_Qv (fun _ : Unit => True) (fun (_ : Unit) t => va_P (dC, dI) vwCl [(t0, .inr (4, [.ref u0, .ref u1, .ref u2, .ref u3, .ref u4, .int 0, .int 0, .int 0, .int 1]))] t.heap ∧ va_K (dC, dI) vwCl [] t ∧ va_D (va_A [(t0, .inr (4, [.ref u0, .ref u1, .ref u2, .ref u3, .ref u4, .int 0, .int 0, .int 0, .int 1]))] sz) [(t0, .inr (4, [.ref u0, .ref u1, .ref u2, .ref u3, .ref u4, .int 0, .int 0, .int 0, .int 1]))]) (va_A [(t0, .inr (4, [.ref u0, .ref u1, .ref u2, .ref u3, .ref u4, .int 0, .int 0, .int 0, .int 1]))] sz)) 0 0 (va_A [(t0, .inr (4, [.ref u0, .ref u1, .ref u2, .ref u3, .ref u4, .int 0, .int 0, .int 0, .int 1]))] sz) := by
  refine Met.ofW (cc := prog_6_method_5_code) (maxL := 1) (ret := none) (by decide) rfl ?_
  intro p e s m args below meth c s₁ B hml hv
  obtain ⟨rfl, hsz, hP, hK, hD0⟩ := hv
  have hx := B.exec
  have hb := B.bytes
  have hr := B.returns
  have hw : ∀ w ∈ bg_W, w.before #[Value.ref t0] s = true := fun w h => atoms_spec (ws := (wq y_Tr_clear prog_6_method_5_code 1 none)) B.pre w (List.mem_cons_of_mem _ h)
  have hown : s.vm.findClass R_Tr = some m.cls := findClass_of_methodNamed B.named
  have hlocks := B.notSynchronized
  subst hsz
  have hD := hD0.self (sz := s.heap.size)
  generalize hAe : va_A [(t0, .inr (4, [.ref u0, .ref u1, .ref u2, .ref u3, .ref u4, .int 0, .int 0, .int 0, .int 1]))] s.heap.size = A at hD ⊢
  have hA : ∀ q : Nat, s.heap.size ≤ q → A q := fun q h => by rw [← hAe]; exact Or.inr h
  have hS : va_S A s.heap s.heap [] := va_S.rf
  have hP : va_P (dC, dI) vwCl [(t0, .inr (4, [.ref u0, .ref u1, .ref u2, .ref u3, .ref u4, .int 0, .int 0, .int 0, .int 1]))] s.heap := hP
  have hl := lv_entry ([.ref t0]) (n := 1) (Nat.le_of_ble_eq_true rfl)
  rw [lg_entry_eq]
  generalize (lg_sl ([.ref t0]) ++ List.replicate (1 - (lg_sl ([.ref t0])).length) Slot.unset).toArray = ls at hl ⊢
  have hl : lv_has ls 1 [(0, .ref t0)] := hl
  obtain ⟨H, hH⟩ : ∃ H : Heap, H = s.heap := ⟨_, rfl⟩
  rw [← hH] at hP
  have hS : va_S A s.heap H [] := by rw [hH]; exact va_S.rf
  show W p l e _ s m _ below meth c s.heap [] 0 0 _ _
  rw [← hH]
  refine lv_aload_n hx hb d_Tr_clear_0 rfl (lv_at hl 0 rfl) ?_
  refine lv_iconst (v := 0) hx hb d_Tr_clear_1 (by decide) ?_
  have hPc := hP.sub (ws' := [(t0, .inr (4, [.ref u0, .ref u1, .ref u2, .ref u3, .ref u4, .int 0, .int 0, .int 0, .int 1]))]) [0] rfl
  have hDc := hD.sub (ws' := [(t0, .inr (4, [.ref u0, .ref u1, .ref u2, .ref u3, .ref u4, .int 0, .int 0, .int 0, .int 1]))]) [0] (by decide) rfl
  have hKc := hK.sub (tys' := []) [] rfl
  have hFc := va_free (wc := [(t0, .inr (4, [.ref u0, .ref u1, .ref u2, .ref u3, .ref u4, .int 0, .int 0, .int 0, .int 1]))]) hD hS hA [0] rfl
  refine va_callv (va_runV (As := [.int 0]) (rest := []) ⟨hx, hb, hml, hown, hw⟩ (c_Tr_shrink_0 l dC dI t0 u0 u1 u2 u3 u4 H.size) (cb_V (C := R_Tr) 1 hw k_295 k_32 k_292 k_294 k_0 rfl rfl (by decide +kernel) ⟨Nat.le_of_ble_eq_true rfl, Nat.le_of_ble_eq_true rfl⟩) ⟨fun a U g mk q => by obtain ⟨q0, q1, qP, qK, qD⟩ := q; exact ⟨q0, q1, qP, va_K.moved (u := U) (U := U.calling g mk a) (Vm.Alike.refl U.vm) qK, qD⟩, va_recv hKc hPc (ci := 4) (q0 := 0) rfl rfl, fun U hU hW => ⟨rfl, by rw [hU], by rw [hU]; exact hPc, va_K.moved hW.alike hKc, hDc.weaken (fun _ _ _ _ => trivial)⟩⟩ rfl rfl hl.1 rfl (lv_room (Nat.le_of_ble_eq_true rfl)) d_Tr_clear_2 ⟨Nat.le_of_ble_eq_true rfl, Nat.le_of_ble_eq_true rfl⟩) hS (fun q _ h => hFc q h) hFc (fun u t H1 locs ht hvm hw9 hB hz1 hk1 hS => ?_)
  obtain ⟨hP1, hK1, hD1⟩ := hB
  rw [ht] at hP1
  have hK1 := va_K.moved hvm.symm hK1
  obtain ⟨hP, hD⟩ := va_join (wr := []) (w1 := [(t0, .inr (4, [.ref u0, .ref u1, .ref u2, .ref u3, .ref u4, .int 0, .int 0, .int 0, .int 1]))]) hP hD [0] [] rfl rfl (by decide) (by decide) hk1 hFc hP1 hD1
  generalize H1 = H at hP hS ⊢
  have hP : va_P (dC, dI) vwCl [(t0, .inr (4, [.ref u0, .ref u1, .ref u2, .ref u3, .ref u4, .int 0, .int 0, .int 0, .int 1]))] H := hP
  have hD : va_D A [(t0, .inr (4, [.ref u0, .ref u1, .ref u2, .ref u3, .ref u4, .int 0, .int 0, .int 0, .int 1]))] := hD
  refine W.widen (k := 0) (n := 0) (by decide) (by decide) ?_
  refine lv_aload_n hx hb d_Tr_clear_5 rfl (lv_at hl 0 rfl) ?_
  refine lv_iconst (v := 0) hx hb d_Tr_clear_6 (by decide) ?_
  refine va_put (D := (dC, dI)) (ci := 4) (v := .int 0) (ty := .int) (C := R_Tr) (T := F_Tr) (N := 9) hx hb hw in_Tr t_Tr t_Tr_ok n_Tr hown hK hP hD hS 0 rfl rfl 7 (by decide) (hw (Cond.fieldLink "ClauseSearch$Trail" 32 "ClauseSearch$Trail" "level" "I") k_114) (fun _ h9 => h9) rfl (by decide +kernel) rfl rfl (Nat.le_of_ble_eq_true rfl) d_Tr_clear_7 (fun H locs hP hD hS => ?_)
  have hP : va_P (dC, dI) vwCl [(t0, .inr (4, [.ref u0, .ref u1, .ref u2, .ref u3, .ref u4, .int 0, .int 0, .int 0, .int 1]))] H := hP
  have hD : va_D A [(t0, .inr (4, [.ref u0, .ref u1, .ref u2, .ref u3, .ref u4, .int 0, .int 0, .int 0, .int 1]))] := hD
  refine W.widen (k := 0) (n := 0) (by decide) (by decide) ?_
  exact W.vret hx hb hr (fun t ht hW => ⟨⟨(), rfl, trivial, by rw [ht]; exact hP, va_K.moved hW.alike hK, hD⟩, hS.F ht⟩) hS.2.2 d_Tr_clear_10

set_option maxHeartbeats 4000000 in
set_option maxRecDepth 100000 in
/-- putFacts() without facts -/
theorem c_Sr_putFacts_0 (l : Launch) (dC : Nat → ClassId) (dI : Nat → Nat → Nat) (s0 : Nat) (r0 : Nat) (t0 : Nat) (w0 : Nat) (l0 : Nat) (k0 : Nat) (v0 : Nat) (v1 : Nat) (v2 : Nat) (sz : Nat) : Met l y_Sr_putFacts (wq y_Sr_putFacts prog_5_method_6_code 2 none) ({ frames := 0, cells := 0, slots := 0, locals := 0 }) (va_Pc [.ref s0] (fun U => U.heap.size = sz ∧ va_P (dC, dI) vwCl [(s0, .inr (3, [.ref r0, .ref t0, .ref w0, .ref l0, .ref k0, .ref v0, .ref v1, .ref v2, .int 0, .int 0, .int 0, .int 0]))] U.heap ∧ va_K (dC, dI) vwCl [] U ∧ va_D (fun _ => True) [(s0, .inr (3, [.ref r0, .ref t0, .ref w0, .ref l0, .ref k0, .ref v0, .ref v1, .ref v2, .int 0, .int 0, .int 0, .int 0]))])) (va_Qv (fun _ : Unit => True) (fun (_ : Unit) t => va_P (dC, dI) vwCl [(s0, .inr (3, [.ref r0, .ref t0, .ref w0, .ref l0, .ref k0, .ref v0, .ref v1, .ref v2, .int 0, .int 0, .int 0, .int 0]))] t.heap ∧ va_K (dC, dI) vwCl [] t ∧ va_D (va_A [(s0, .inr (3, [.ref r0, .ref t0, .ref w0, .ref l0, .ref k0, .ref v0, .ref v1, .ref v2, .int 0, .int 0, .int 0, .int 0]))] sz) [(s0, .inr (3, [.ref r0, .ref t0, .ref w0, .ref l0, .ref k0, .ref v0, .ref v1, .ref v2, .int 0, .int 0, .int 0, .int 0]))]) (va_A [(s0, .inr (3, [.ref r0, .ref t0, .ref w0, .ref l0, .ref k0, .ref v0, .ref v1, .ref v2, .int 0, .int 0, .int 0, .int 0]))] sz)) 0 0 (va_A [(s0, .inr (3, [.ref r0, .ref t0, .ref w0, .ref l0, .ref k0, .ref v0, .ref v1, .ref v2, .int 0, .int 0, .int 0, .int 0]))] sz) := by
  refine Met.ofW (cc := prog_5_method_6_code) (maxL := 2) (ret := none) (by decide) rfl ?_
  intro p e s m args below meth c s₁ B hml hv
  obtain ⟨rfl, hsz, hP, hK, hD0⟩ := hv
  have hx := B.exec
  have hb := B.bytes
  have hr := B.returns
  have hw : ∀ w ∈ bg_W, w.before #[Value.ref s0] s = true := fun w h => atoms_spec (ws := (wq y_Sr_putFacts prog_5_method_6_code 2 none)) B.pre w (List.mem_cons_of_mem _ h)
  have hown : s.vm.findClass R_Sr = some m.cls := findClass_of_methodNamed B.named
  have hlocks := B.notSynchronized
  subst hsz
  have hD := hD0.self (sz := s.heap.size)
  generalize hAe : va_A [(s0, .inr (3, [.ref r0, .ref t0, .ref w0, .ref l0, .ref k0, .ref v0, .ref v1, .ref v2, .int 0, .int 0, .int 0, .int 0]))] s.heap.size = A at hD ⊢
  have hA : ∀ q : Nat, s.heap.size ≤ q → A q := fun q h => by rw [← hAe]; exact Or.inr h
  have hS : va_S A s.heap s.heap [] := va_S.rf
  have hP : va_P (dC, dI) vwCl [(s0, .inr (3, [.ref r0, .ref t0, .ref w0, .ref l0, .ref k0, .ref v0, .ref v1, .ref v2, .int 0, .int 0, .int 0, .int 0]))] s.heap := hP
  have hl := lv_entry ([.ref s0]) (n := 2) (Nat.le_of_ble_eq_true rfl)
  rw [lg_entry_eq]
  generalize (lg_sl ([.ref s0]) ++ List.replicate (2 - (lg_sl ([.ref s0])).length) Slot.unset).toArray = ls at hl ⊢
  have hl : lv_has ls 2 [(0, .ref s0)] := hl
  obtain ⟨H, hH⟩ : ∃ H : Heap, H = s.heap := ⟨_, rfl⟩
  rw [← hH] at hP
  have hS : va_S A s.heap H [] := by rw [hH]; exact va_S.rf
  show W p l e _ s m _ below meth c s.heap [] 0 0 _ _
  rw [← hH]
  refine lv_iconst (v := 0) hx hb d_Sr_putFacts_0 (by decide) ?_
  refine lv_istore_n (lv' := [(1, .int 0), (0, .ref s0)]) hx hb d_Sr_putFacts_1 rfl hl (by decide) rfl (fun ls hl => ?_)
  refine lv_iload_n hx hb d_Sr_putFacts_2 rfl (lv_at hl 0 rfl) ?_
  refine lv_aload_n hx hb d_Sr_putFacts_3 rfl (lv_at hl 1 rfl) ?_
  refine va_get (D := (dC, dI)) (ci := 3) (v := .int 0) (C := R_Sr) (T := F_Sr) (N := 12) hx hb hw in_Sr hown hK hP 0 rfl rfl 8 (by decide) (hw (Cond.fieldLink "ClauseSearch$Search" 76 "ClauseSearch$Search" "factCount" "I") k_225) (fun _ h9 => h9) rfl d_Sr_putFacts_4 ?_
  refine lv_icmp_ge (tgt := 73) hx hb d_Sr_putFacts_7 (by decide) (fun c_7 => ?_) (fun c_7 => absurd c_7 (by decide))
  refine W.widen (k := 0) (n := 0) (by decide) (by decide) ?_
  exact W.vret hx hb hr (fun t ht hW => ⟨⟨(), rfl, trivial, by rw [ht]; exact hP, va_K.moved hW.alike hK, hD⟩, hS.F ht⟩) hS.2.2 d_Sr_putFacts_73

set_option maxHeartbeats 4000000 in
set_option maxRecDepth 100000 in
/-- follow() of an empty trail -/
theorem c_Wt_follow_0 (l : Launch) (dC : Nat → ClassId) (dI : Nat → Nat → Nat) (w0 : Nat) (r0 : Nat) (t0 : Nat) (y0 : Nat) (y1 : Nat) (u0 : Nat) (u1 : Nat) (u2 : Nat) (u3 : Nat) (u4 : Nat) (sz : Nat) : Met l y_Wt_follow (wq y_Wt_follow prog_7_method_5_code 3 (some .int)) ({ frames := 0, cells := 0, slots := 0, locals := 0 }) (va_Pc [.ref w0] (fun U => U.heap.size = sz ∧ va_P (dC, dI) vwCl [(w0, .inr (5, [.ref r0, .ref t0, .ref y0, .ref y1])), (t0, .inr (4, [.ref u0, .ref u1, .ref u2, .ref u3, .ref u4, .int 0, .int 0, .int 0, .int 1]))] U.heap ∧ va_K (dC, dI) vwCl [] U ∧ va_D (fun _ => True) [(w0, .inr (5, [.ref r0, .ref t0, .ref y0, .ref y1])), (t0, .inr (4, [.ref u0, .ref u1, .ref u2, .ref u3, .ref u4, .int 0, .int 0, .int 0, .int 1]))])) (va_Qi (fun (r : Int32) (_ : Unit) => r = -1) (fun (_ : Unit) t => va_P (dC, dI) vwCl [(w0, .inr (5, [.ref r0, .ref t0, .ref y0, .ref y1])), (t0, .inr (4, [.ref u0, .ref u1, .ref u2, .ref u3, .ref u4, .int 0, .int 0, .int 0, .int 1]))] t.heap ∧ va_K (dC, dI) vwCl [] t ∧ va_D (va_A [(w0, .inr (5, [.ref r0, .ref t0, .ref y0, .ref y1])), (t0, .inr (4, [.ref u0, .ref u1, .ref u2, .ref u3, .ref u4, .int 0, .int 0, .int 0, .int 1]))] sz) [(w0, .inr (5, [.ref r0, .ref t0, .ref y0, .ref y1])), (t0, .inr (4, [.ref u0, .ref u1, .ref u2, .ref u3, .ref u4, .int 0, .int 0, .int 0, .int 1]))]) (va_A [(w0, .inr (5, [.ref r0, .ref t0, .ref y0, .ref y1])), (t0, .inr (4, [.ref u0, .ref u1, .ref u2, .ref u3, .ref u4, .int 0, .int 0, .int 0, .int 1]))] sz)) 0 0 (va_A [(w0, .inr (5, [.ref r0, .ref t0, .ref y0, .ref y1])), (t0, .inr (4, [.ref u0, .ref u1, .ref u2, .ref u3, .ref u4, .int 0, .int 0, .int 0, .int 1]))] sz) := by
  refine Met.ofW (cc := prog_7_method_5_code) (maxL := 3) (ret := (some .int)) (by decide) rfl ?_
  intro p e s m args below meth c s₁ B hml hv
  obtain ⟨rfl, hsz, hP, hK, hD0⟩ := hv
  have hx := B.exec
  have hb := B.bytes
  have hr := B.returns
  have hw : ∀ w ∈ bg_W, w.before #[Value.ref w0] s = true := fun w h => atoms_spec (ws := (wq y_Wt_follow prog_7_method_5_code 3 (some .int))) B.pre w (List.mem_cons_of_mem _ h)
  have hown : s.vm.findClass R_Wt = some m.cls := findClass_of_methodNamed B.named
  have hlocks := B.notSynchronized
  subst hsz
  have hD := hD0.self (sz := s.heap.size)
  generalize hAe : va_A [(w0, .inr (5, [.ref r0, .ref t0, .ref y0, .ref y1])), (t0, .inr (4, [.ref u0, .ref u1, .ref u2, .ref u3, .ref u4, .int 0, .int 0, .int 0, .int 1]))] s.heap.size = A at hD ⊢
  have hA : ∀ q : Nat, s.heap.size ≤ q → A q := fun q h => by rw [← hAe]; exact Or.inr h
  have hS : va_S A s.heap s.heap [] := va_S.rf
  have hP : va_P (dC, dI) vwCl [(w0, .inr (5, [.ref r0, .ref t0, .ref y0, .ref y1])), (t0, .inr (4, [.ref u0, .ref u1, .ref u2, .ref u3, .ref u4, .int 0, .int 0, .int 0, .int 1]))] s.heap := hP
  have hl := lv_entry ([.ref w0]) (n := 3) (Nat.le_of_ble_eq_true rfl)
  rw [lg_entry_eq]
  generalize (lg_sl ([.ref w0]) ++ List.replicate (3 - (lg_sl ([.ref w0])).length) Slot.unset).toArray = ls at hl ⊢
  have hl : lv_has ls 3 [(0, .ref w0)] := hl
  obtain ⟨H, hH⟩ : ∃ H : Heap, H = s.heap := ⟨_, rfl⟩
  rw [← hH] at hP
  have hS : va_S A s.heap H [] := by rw [hH]; exact va_S.rf
  show W p l e _ s m _ below meth c s.heap [] 0 0 _ _
  rw [← hH]
  refine lv_sipush (v := 400) hx hb d_Wt_follow_0 (by decide) ?_
  refine lv_istore_n (lv' := [(1, .int 400), (0, .ref w0)]) hx hb d_Wt_follow_3 rfl hl (by decide) rfl (fun ls hl => ?_)
  refine lv_iload_n hx hb d_Wt_follow_4 rfl (lv_at hl 0 rfl) ?_
  refine lv_if_le (tgt := 73) hx hb d_Wt_follow_5 (by decide) (fun c_5 => absurd c_5 (by decide)) (fun c_5 => ?_)
  refine lv_aload_n hx hb d_Wt_follow_8 rfl (lv_at hl 1 rfl) ?_
  refine va_get (D := (dC, dI)) (ci := 5) (v := .ref t0) (C := R_Wt) (T := F_Wt) (N := 4) hx hb hw in_Wt hown hK hP 0 rfl rfl 1 (by decide) (hw (Cond.fieldLink "ClauseSearch$Watch" 15 "ClauseSearch$Watch" "trail" "LClauseSearch$Trail;") k_152) (fun _ h9 => h9) rfl d_Wt_follow_9 ?_
  refine va_getN (D := (dC, dI)) (ci := 4) (v := .int 0) (C := R_Tr) (T := F_Tr) (N := 9) hx hb hw in_Tr hown hK hP 1 rfl rfl 6 (by decide) (hw (Cond.fieldLinkNest "ClauseSearch$Watch" 56 "ClauseSearch$Trail" "followed" "I" "ClauseSearch") k_112) (fun _ h9 => h9) rfl d_Wt_follow_12 ?_
  refine lv_aload_n hx hb d_Wt_follow_15 rfl (lv_at hl 1 rfl) ?_
  refine va_get (D := (dC, dI)) (ci := 5) (v := .ref t0) (C := R_Wt) (T := F_Wt) (N := 4) hx hb hw in_Wt hown hK hP 0 rfl rfl 1 (by decide) (hw (Cond.fieldLink "ClauseSearch$Watch" 15 "ClauseSearch$Watch" "trail" "LClauseSearch$Trail;") k_152) (fun _ h9 => h9) rfl d_Wt_follow_16 ?_
  refine va_getN (D := (dC, dI)) (ci := 4) (v := .int 0) (C := R_Tr) (T := F_Tr) (N := 9) hx hb hw in_Tr hown hK hP 1 rfl rfl 5 (by decide) (hw (Cond.fieldLinkNest "ClauseSearch$Watch" 61 "ClauseSearch$Trail" "size" "I" "ClauseSearch") k_111) (fun _ h9 => h9) rfl d_Wt_follow_19 ?_
  refine lv_icmp_ge (tgt := 73) hx hb d_Wt_follow_22 (by decide) (fun c_22 => ?_) (fun c_22 => absurd c_22 (by decide))
  refine lv_iconst (v := (-1)) hx hb d_Wt_follow_73 (by decide) ?_
  refine W.widen (k := 0) (n := 0) (by decide) (by decide) ?_
  exact W.iret (v := (-1)) hx hb hr (fun t ht hW => ⟨⟨(-1), (), rfl, rfl, by rw [ht]; exact hP, va_K.moved hW.alike hK, hD⟩, hS.F ht⟩) hS.2.2 d_Wt_follow_74

set_option maxHeartbeats 4000000 in
set_option maxRecDepth 100000 in
/-- lowestUnknown(0) -/
theorem c_Tr_lowest_0 (l : Launch) (dC : Nat → ClassId) (dI : Nat → Nat → Nat) (t0 : Nat) (u0 : Nat) (u1 : Nat) (u2 : Nat) (u3 : Nat) (u4 : Nat) (sz : Nat) : Met l y_Tr_lowestUnknown (wq y_Tr_lowestUnknown prog_6_method_7_code 2 (some .int)) ({ frames := 0, cells := 0, slots := 0, locals := 0 }) (va_Pc [.ref t0, .int 0] (fun U => U.heap.size = sz ∧ va_P (dC, dI) vwCl [(t0, .inr (4, [.ref u0, .ref u1, .ref u2, .ref u3, .ref u4, .int 0, .int 0, .int 0, .int 1]))] U.heap ∧ va_K (dC, dI) vwCl [] U ∧ va_D (fun _ => True) [(t0, .inr (4, [.ref u0, .ref u1, .ref u2, .ref u3, .ref u4, .int 0, .int 0, .int 0, .int 1]))])) (va_Qi (fun (r : Int32) (_ : Unit) => r = 1) (fun (_ : Unit) t => va_P (dC, dI) vwCl [(t0, .inr (4, [.ref u0, .ref u1, .ref u2, .ref u3, .ref u4, .int 0, .int 0, .int 0, .int 1]))] t.heap ∧ va_K (dC, dI) vwCl [] t ∧ va_D (va_A [(t0, .inr (4, [.ref u0, .ref u1, .ref u2, .ref u3, .ref u4, .int 0, .int 0, .int 0, .int 1]))] sz) [(t0, .inr (4, [.ref u0, .ref u1, .ref u2, .ref u3, .ref u4, .int 0, .int 0, .int 0, .int 1]))]) (va_A [(t0, .inr (4, [.ref u0, .ref u1, .ref u2, .ref u3, .ref u4, .int 0, .int 0, .int 0, .int 1]))] sz)) 0 0 (va_A [(t0, .inr (4, [.ref u0, .ref u1, .ref u2, .ref u3, .ref u4, .int 0, .int 0, .int 0, .int 1]))] sz) := by
  refine Met.ofW (cc := prog_6_method_7_code) (maxL := 2) (ret := (some .int)) (by decide) rfl ?_
  intro p e s m args below meth c s₁ B hml hv
  obtain ⟨rfl, hsz, hP, hK, hD0⟩ := hv
  have hx := B.exec
  have hb := B.bytes
  have hr := B.returns
  have hw : ∀ w ∈ bg_W, w.before #[Value.ref t0, Value.int 0] s = true := fun w h => atoms_spec (ws := (wq y_Tr_lowestUnknown prog_6_method_7_code 2 (some .int))) B.pre w (List.mem_cons_of_mem _ h)
  have hown : s.vm.findClass R_Tr = some m.cls := findClass_of_methodNamed B.named
  have hlocks := B.notSynchronized
  subst hsz
  have hD := hD0.self (sz := s.heap.size)
  generalize hAe : va_A [(t0, .inr (4, [.ref u0, .ref u1, .ref u2, .ref u3, .ref u4, .int 0, .int 0, .int 0, .int 1]))] s.heap.size = A at hD ⊢
  have hA : ∀ q : Nat, s.heap.size ≤ q → A q := fun q h => by rw [← hAe]; exact Or.inr h
  have hS : va_S A s.heap s.heap [] := va_S.rf
  have hP : va_P (dC, dI) vwCl [(t0, .inr (4, [.ref u0, .ref u1, .ref u2, .ref u3, .ref u4, .int 0, .int 0, .int 0, .int 1]))] s.heap := hP
  have hl := lv_entry ([.ref t0, .int 0]) (n := 2) (Nat.le_of_ble_eq_true rfl)
  rw [lg_entry_eq]
  generalize (lg_sl ([.ref t0, .int 0]) ++ List.replicate (2 - (lg_sl ([.ref t0, .int 0])).length) Slot.unset).toArray = ls at hl ⊢
  have hl : lv_has ls 2 [(0, .ref t0), (1, .int 0)] := hl
  obtain ⟨H, hH⟩ : ∃ H : Heap, H = s.heap := ⟨_, rfl⟩
  rw [← hH] at hP
  have hS : va_S A s.heap H [] := by rw [hH]; exact va_S.rf
  show W p l e _ s m _ below meth c s.heap [] 0 0 _ _
  rw [← hH]
  refine lv_aload_n hx hb d_Tr_lowestUnknown_0 rfl (lv_at hl 0 rfl) ?_
  refine va_get (D := (dC, dI)) (ci := 4) (v := .int 1) (C := R_Tr) (T := F_Tr) (N := 9) hx hb hw in_Tr hown hK hP 0 rfl rfl 8 (by decide) (hw (Cond.fieldLink "ClauseSearch$Trail" 28 "ClauseSearch$Trail" "lowest" "I") k_117) (fun _ h9 => h9) rfl d_Tr_lowestUnknown_1 ?_
  refine lv_iload_n hx hb d_Tr_lowestUnknown_4 rfl (lv_at hl 1 rfl) ?_
  refine lv_icmp_gt (tgt := 35) hx hb d_Tr_lowestUnknown_5 (by decide) (fun c_5 => ?_) (fun c_5 => absurd c_5 (by decide))
  refine lv_aload_n hx hb d_Tr_lowestUnknown_35 rfl (lv_at hl 0 rfl) ?_
  refine va_get (D := (dC, dI)) (ci := 4) (v := .int 1) (C := R_Tr) (T := F_Tr) (N := 9) hx hb hw in_Tr hown hK hP 0 rfl rfl 8 (by decide) (hw (Cond.fieldLink "ClauseSearch$Trail" 28 "ClauseSearch$Trail" "lowest" "I") k_117) (fun _ h9 => h9) rfl d_Tr_lowestUnknown_36 ?_
  refine W.widen (k := 0) (n := 0) (by decide) (by decide) ?_
  exact W.iret (v := 1) hx hb hr (fun t ht hW => ⟨⟨1, (), rfl, rfl, by rw [ht]; exact hP, va_K.moved hW.alike hK, hD⟩, hS.F ht⟩) hS.2.2 d_Tr_lowestUnknown_39

set_option maxHeartbeats 4000000 in
set_option maxRecDepth 100000 in
/-- codeToTry without variables -/
theorem c_Sr_codeToTry_0 (l : Launch) (dC : Nat → ClassId) (dI : Nat → Nat → Nat) (s0 : Nat) (r0 : Nat) (t0 : Nat) (w0 : Nat) (l0 : Nat) (k0 : Nat) (v0 : Nat) (v1 : Nat) (v2 : Nat) (u0 : Nat) (u1 : Nat) (u2 : Nat) (u3 : Nat) (u4 : Nat) (b0 : Nat) (sz : Nat) : Met l y_Sr_codeToTry (wq y_Sr_codeToTry prog_5_method_7_code 5 (some .int)) ({ frames := 1, cells := 0, slots := 0, locals := 21 }) (va_Pc [.ref s0, .int 0, .ref b0, .int 0] (fun U => U.heap.size = sz ∧ va_P (dC, dI) vwCl [(s0, .inr (3, [.ref r0, .ref t0, .ref w0, .ref l0, .ref k0, .ref v0, .ref v1, .ref v2, .int 0, .int 0, .int 0, .int 0])), (t0, .inr (4, [.ref u0, .ref u1, .ref u2, .ref u3, .ref u4, .int 0, .int 0, .int 0, .int 1]))] U.heap ∧ va_K (dC, dI) vwCl [] U ∧ va_D (fun _ => True) [(s0, .inr (3, [.ref r0, .ref t0, .ref w0, .ref l0, .ref k0, .ref v0, .ref v1, .ref v2, .int 0, .int 0, .int 0, .int 0])), (t0, .inr (4, [.ref u0, .ref u1, .ref u2, .ref u3, .ref u4, .int 0, .int 0, .int 0, .int 1]))])) (va_Qi (fun (r : Int32) (_ : Unit) => r = -1) (fun (_ : Unit) t => va_P (dC, dI) vwCl [(s0, .inr (3, [.ref r0, .ref t0, .ref w0, .ref l0, .ref k0, .ref v0, .ref v1, .ref v2, .int 0, .int 0, .int 0, .int 0])), (t0, .inr (4, [.ref u0, .ref u1, .ref u2, .ref u3, .ref u4, .int 0, .int 0, .int 0, .int 1]))] t.heap ∧ va_K (dC, dI) vwCl [] t ∧ va_D (va_A [(s0, .inr (3, [.ref r0, .ref t0, .ref w0, .ref l0, .ref k0, .ref v0, .ref v1, .ref v2, .int 0, .int 0, .int 0, .int 0])), (t0, .inr (4, [.ref u0, .ref u1, .ref u2, .ref u3, .ref u4, .int 0, .int 0, .int 0, .int 1]))] sz) [(s0, .inr (3, [.ref r0, .ref t0, .ref w0, .ref l0, .ref k0, .ref v0, .ref v1, .ref v2, .int 0, .int 0, .int 0, .int 0])), (t0, .inr (4, [.ref u0, .ref u1, .ref u2, .ref u3, .ref u4, .int 0, .int 0, .int 0, .int 1]))]) (va_A [(s0, .inr (3, [.ref r0, .ref t0, .ref w0, .ref l0, .ref k0, .ref v0, .ref v1, .ref v2, .int 0, .int 0, .int 0, .int 0])), (t0, .inr (4, [.ref u0, .ref u1, .ref u2, .ref u3, .ref u4, .int 0, .int 0, .int 0, .int 1]))] sz)) 0 0 (va_A [(s0, .inr (3, [.ref r0, .ref t0, .ref w0, .ref l0, .ref k0, .ref v0, .ref v1, .ref v2, .int 0, .int 0, .int 0, .int 0])), (t0, .inr (4, [.ref u0, .ref u1, .ref u2, .ref u3, .ref u4, .int 0, .int 0, .int 0, .int 1]))] sz) := by
  refine Met.ofW (cc := prog_5_method_7_code) (maxL := 5) (ret := (some .int)) (by decide) rfl ?_
  intro p e s m args below meth c s₁ B hml hv
  obtain ⟨rfl, hsz, hP, hK, hD0⟩ := hv
  have hx := B.exec
  have hb := B.bytes
  have hr := B.returns
  have hw : ∀ w ∈ bg_W, w.before #[Value.ref s0, Value.int 0, Value.ref b0, Value.int 0] s = true := fun w h => atoms_spec (ws := (wq y_Sr_codeToTry prog_5_method_7_code 5 (some .int))) B.pre w (List.mem_cons_of_mem _ h)
  have hown : s.vm.findClass R_Sr = some m.cls := findClass_of_methodNamed B.named
  have hlocks := B.notSynchronized
  subst hsz
  have hD := hD0.self (sz := s.heap.size)
  generalize hAe : va_A [(s0, .inr (3, [.ref r0, .ref t0, .ref w0, .ref l0, .ref k0, .ref v0, .ref v1, .ref v2, .int 0, .int 0, .int 0, .int 0])), (t0, .inr (4, [.ref u0, .ref u1, .ref u2, .ref u3, .ref u4, .int 0, .int 0, .int 0, .int 1]))] s.heap.size = A at hD ⊢
  have hA : ∀ q : Nat, s.heap.size ≤ q → A q := fun q h => by rw [← hAe]; exact Or.inr h
  have hS : va_S A s.heap s.heap [] := va_S.rf
  have hP : va_P (dC, dI) vwCl [(s0, .inr (3, [.ref r0, .ref t0, .ref w0, .ref l0, .ref k0, .ref v0, .ref v1, .ref v2, .int 0, .int 0, .int 0, .int 0])), (t0, .inr (4, [.ref u0, .ref u1, .ref u2, .ref u3, .ref u4, .int 0, .int 0, .int 0, .int 1]))] s.heap := hP
  have hl := lv_entry ([.ref s0, .int 0, .ref b0, .int 0]) (n := 5) (Nat.le_of_ble_eq_true rfl)
  rw [lg_entry_eq]
  generalize (lg_sl ([.ref s0, .int 0, .ref b0, .int 0]) ++ List.replicate (5 - (lg_sl ([.ref s0, .int 0, .ref b0, .int 0])).length) Slot.unset).toArray = ls at hl ⊢
  have hl : lv_has ls 5 [(0, .ref s0), (1, .int 0), (2, .ref b0), (3, .int 0)] := hl
  obtain ⟨H, hH⟩ : ∃ H : Heap, H = s.heap := ⟨_, rfl⟩
  rw [← hH] at hP
  have hS : va_S A s.heap H [] := by rw [hH]; exact va_S.rf
  show W p l e _ s m _ below meth c s.heap [] 0 0 _ _
  rw [← hH]
  refine lv_iconst (v := 0) hx hb d_Sr_codeToTry_0 (by decide) ?_
  refine lv_istore (lv' := [(4, .int 0), (0, .ref s0), (1, .int 0), (2, .ref b0), (3, .int 0)]) hx hb d_Sr_codeToTry_1 hl (by decide) rfl (fun ls hl => ?_)
  refine lv_iload hx hb d_Sr_codeToTry_3 (lv_at hl 0 rfl) ?_
  refine lv_iload_n hx hb d_Sr_codeToTry_5 rfl (lv_at hl 4 rfl) ?_
  refine lv_icmp_ge (tgt := 36) hx hb d_Sr_codeToTry_6 (by decide) (fun c_6 => ?_) (fun c_6 => absurd c_6 (by decide))
  refine lv_aload_n hx hb d_Sr_codeToTry_36 rfl (lv_at hl 1 rfl) ?_
  refine va_get (D := (dC, dI)) (ci := 3) (v := .ref t0) (C := R_Sr) (T := F_Sr) (N := 12) hx hb hw in_Sr hown hK hP 0 rfl rfl 1 (by decide) (hw (Cond.fieldLink "ClauseSearch$Search" 15 "ClauseSearch$Search" "trail" "LClauseSearch$Trail;") k_218) (fun _ h9 => h9) rfl d_Sr_codeToTry_37 ?_
  refine lv_iload_n hx hb d_Sr_codeToTry_40 rfl (lv_at hl 2 rfl) ?_
  have hPc := hP.sub (ws' := [(t0, .inr (4, [.ref u0, .ref u1, .ref u2, .ref u3, .ref u4, .int 0, .int 0, .int 0, .int 1]))]) [1] rfl
  have hDc := hD.sub (ws' := [(t0, .inr (4, [.ref u0, .ref u1, .ref u2, .ref u3, .ref u4, .int 0, .int 0, .int 0, .int 1]))]) [1] (by decide) rfl
  have hKc := hK.sub (tys' := []) [] rfl
  have hFc := va_free (wc := [(t0, .inr (4, [.ref u0, .ref u1, .ref u2, .ref u3, .ref u4, .int 0, .int 0, .int 0, .int 1]))]) hD hS hA [1] rfl
  refine va_calli (va_runV (As := [.int 0]) (rest := []) ⟨hx, hb, hml, hown, hw⟩ (c_Tr_lowest_0 l dC dI t0 u0 u1 u2 u3 u4 H.size) (cb_V (C := R_Tr) 1 hw k_419 k_32 k_416 k_417 k_418 rfl rfl (by decide +kernel) ⟨Nat.le_of_ble_eq_true rfl, Nat.le_of_ble_eq_true rfl⟩) ⟨fun a U g mk q => by obtain ⟨q0, q1, qP, qK, qD⟩ := q; exact ⟨q0, q1, qP, va_K.moved (u := U) (U := U.calling g mk a) (Vm.Alike.refl U.vm) qK, qD⟩, va_recv hKc hPc (ci := 4) (q0 := 0) rfl rfl, fun U hU hW => ⟨rfl, by rw [hU], by rw [hU]; exact hPc, va_K.moved hW.alike hKc, hDc.weaken (fun _ _ _ _ => trivial)⟩⟩ rfl rfl hl.1 rfl (lv_room (Nat.le_of_ble_eq_true rfl)) d_Sr_codeToTry_41 ⟨Nat.le_of_ble_eq_true rfl, Nat.le_of_ble_eq_true rfl⟩) hS (fun q _ h => hFc q h) hFc (fun r_1 u t H1 locs ht hvm hw9 hB hz1 hk1 hS => ?_)
  obtain ⟨hP1, hK1, hD1⟩ := hB
  rw [ht] at hP1
  have hK1 := va_K.moved hvm.symm hK1
  obtain ⟨hP, hD⟩ := va_join (wr := [(s0, .inr (3, [.ref r0, .ref t0, .ref w0, .ref l0, .ref k0, .ref v0, .ref v1, .ref v2, .int 0, .int 0, .int 0, .int 0]))]) (w1 := [(t0, .inr (4, [.ref u0, .ref u1, .ref u2, .ref u3, .ref u4, .int 0, .int 0, .int 0, .int 1]))]) hP hD [1] [0] rfl rfl (by decide) (by decide) hk1 hFc hP1 hD1
  generalize H1 = H at hP hS ⊢
  have hP : va_P (dC, dI) vwCl [(s0, .inr (3, [.ref r0, .ref t0, .ref w0, .ref l0, .ref k0, .ref v0, .ref v1, .ref v2, .int 0, .int 0, .int 0, .int 0])), (t0, .inr (4, [.ref u0, .ref u1, .ref u2, .ref u3, .ref u4, .int 0, .int 0, .int 0, .int 1]))] H := hP
  have hD : va_D A [(s0, .inr (3, [.ref r0, .ref t0, .ref w0, .ref l0, .ref k0, .ref v0, .ref v1, .ref v2, .int 0, .int 0, .int 0, .int 0])), (t0, .inr (4, [.ref u0, .ref u1, .ref u2, .ref u3, .ref u4, .int 0, .int 0, .int 0, .int 1]))] := hD
  refine W.widen (k := 0) (n := 0) (by decide) (by decide) ?_
  have hw9 : r_1 = 1 := hw9
  subst hw9
  refine lv_istore (lv' := [(4, .int 1), (0, .ref s0), (1, .int 0), (2, .ref b0), (3, .int 0)]) hx hb d_Sr_codeToTry_44 hl (by decide) rfl (fun ls hl => ?_)
  refine lv_iload hx hb d_Sr_codeToTry_46 (lv_at hl 0 rfl) ?_
  refine lv_iload_n hx hb d_Sr_codeToTry_48 rfl (lv_at hl 2 rfl) ?_
  refine lv_icmp_le (tgt := 56) hx hb d_Sr_codeToTry_49 (by decide) (fun c_49 => absurd c_49 (by decide)) (fun c_49 => ?_)
  refine lv_iconst (v := (-1)) hx hb d_Sr_codeToTry_52 (by decide) ?_
  refine lv_goto (tgt := 62) hx hb d_Sr_codeToTry_53 (by decide) ?_
  refine W.widen (k := 0) (n := 0) (by decide) (by decide) ?_
  exact W.iret (v := (-1)) hx hb hr (fun t ht hW => ⟨⟨(-1), (), rfl, rfl, by rw [ht]; exact hP, va_K.moved hW.alike hK, hD⟩, hS.F ht⟩) hS.2.2 d_Sr_codeToTry_62

set_option maxHeartbeats 4000000 in
set_option maxRecDepth 100000 in
/-- findLeast without variables -/
theorem c_Sr_findLeast_0 (l : Launch) (dC : Nat → ClassId) (dI : Nat → Nat → Nat) (s0 : Nat) (r0 : Nat) (t0 : Nat) (w0 : Nat) (l0 : Nat) (k0 : Nat) (v0 : Nat) (v1 : Nat) (v2 : Nat) (u0 : Nat) (u1 : Nat) (u2 : Nat) (u3 : Nat) (u4 : Nat) (y0 : Nat) (y1 : Nat) (b0 : Nat) (sz : Nat) : Met l y_Sr_findLeast (wq y_Sr_findLeast prog_5_method_5_code 8 (some .boolean)) ({ frames := 3, cells := 0, slots := 0, locals := 57 }) (va_Pc [.ref s0, .int 0, .ref b0, .int 0] (fun U => U.heap.size = sz ∧ va_P (dC, dI) vwCl [(s0, .inr (3, [.ref r0, .ref t0, .ref w0, .ref l0, .ref k0, .ref v0, .ref v1, .ref v2, .int 0, .int 0, .int 0, .int 0])), (t0, .inr (4, [.ref u0, .ref u1, .ref u2, .ref u3, .ref u4, .int 0, .int 0, .int 0, .int 1])), (w0, .inr (5, [.ref r0, .ref t0, .ref y0, .ref y1]))] U.heap ∧ va_K (dC, dI) vwCl [] U ∧ va_D (fun _ => True) [(s0, .inr (3, [.ref r0, .ref t0, .ref w0, .ref l0, .ref k0, .ref v0, .ref v1, .ref v2, .int 0, .int 0, .int 0, .int 0])), (t0, .inr (4, [.ref u0, .ref u1, .ref u2, .ref u3, .ref u4, .int 0, .int 0, .int 0, .int 1])), (w0, .inr (5, [.ref r0, .ref t0, .ref y0, .ref y1]))])) (va_Qi (fun (r : Int32) (_ : Unit) => r = 1) (fun (_ : Unit) t => va_P (dC, dI) vwCl [(w0, .inr (5, [.ref r0, .ref t0, .ref y0, .ref y1])), (s0, .inr (3, [.ref r0, .ref t0, .ref w0, .ref l0, .ref k0, .ref v0, .ref v1, .ref v2, .int 0, .int 0, .int 0, .int 0])), (t0, .inr (4, [.ref u0, .ref u1, .ref u2, .ref u3, .ref u4, .int 0, .int 0, .int 0, .int 1]))] t.heap ∧ va_K (dC, dI) vwCl [] t ∧ va_D (va_A [(s0, .inr (3, [.ref r0, .ref t0, .ref w0, .ref l0, .ref k0, .ref v0, .ref v1, .ref v2, .int 0, .int 0, .int 0, .int 0])), (t0, .inr (4, [.ref u0, .ref u1, .ref u2, .ref u3, .ref u4, .int 0, .int 0, .int 0, .int 1])), (w0, .inr (5, [.ref r0, .ref t0, .ref y0, .ref y1]))] sz) [(w0, .inr (5, [.ref r0, .ref t0, .ref y0, .ref y1])), (s0, .inr (3, [.ref r0, .ref t0, .ref w0, .ref l0, .ref k0, .ref v0, .ref v1, .ref v2, .int 0, .int 0, .int 0, .int 0])), (t0, .inr (4, [.ref u0, .ref u1, .ref u2, .ref u3, .ref u4, .int 0, .int 0, .int 0, .int 1]))]) (va_A [(s0, .inr (3, [.ref r0, .ref t0, .ref w0, .ref l0, .ref k0, .ref v0, .ref v1, .ref v2, .int 0, .int 0, .int 0, .int 0])), (t0, .inr (4, [.ref u0, .ref u1, .ref u2, .ref u3, .ref u4, .int 0, .int 0, .int 0, .int 1])), (w0, .inr (5, [.ref r0, .ref t0, .ref y0, .ref y1]))] sz)) 0 0 (va_A [(s0, .inr (3, [.ref r0, .ref t0, .ref w0, .ref l0, .ref k0, .ref v0, .ref v1, .ref v2, .int 0, .int 0, .int 0, .int 0])), (t0, .inr (4, [.ref u0, .ref u1, .ref u2, .ref u3, .ref u4, .int 0, .int 0, .int 0, .int 1])), (w0, .inr (5, [.ref r0, .ref t0, .ref y0, .ref y1]))] sz) := by
  refine Met.ofW (cc := prog_5_method_5_code) (maxL := 8) (ret := (some .boolean)) (by decide) rfl ?_
  intro p e s m args below meth c s₁ B hml hv
  obtain ⟨rfl, hsz, hP, hK, hD0⟩ := hv
  have hx := B.exec
  have hb := B.bytes
  have hr := B.returns
  have hw : ∀ w ∈ bg_W, w.before #[Value.ref s0, Value.int 0, Value.ref b0, Value.int 0] s = true := fun w h => atoms_spec (ws := (wq y_Sr_findLeast prog_5_method_5_code 8 (some .boolean))) B.pre w (List.mem_cons_of_mem _ h)
  have hown : s.vm.findClass R_Sr = some m.cls := findClass_of_methodNamed B.named
  have hlocks := B.notSynchronized
  subst hsz
  have hD := hD0.self (sz := s.heap.size)
  generalize hAe : va_A [(s0, .inr (3, [.ref r0, .ref t0, .ref w0, .ref l0, .ref k0, .ref v0, .ref v1, .ref v2, .int 0, .int 0, .int 0, .int 0])), (t0, .inr (4, [.ref u0, .ref u1, .ref u2, .ref u3, .ref u4, .int 0, .int 0, .int 0, .int 1])), (w0, .inr (5, [.ref r0, .ref t0, .ref y0, .ref y1]))] s.heap.size = A at hD ⊢
  have hA : ∀ q : Nat, s.heap.size ≤ q → A q := fun q h => by rw [← hAe]; exact Or.inr h
  have hS : va_S A s.heap s.heap [] := va_S.rf
  have hP : va_P (dC, dI) vwCl [(s0, .inr (3, [.ref r0, .ref t0, .ref w0, .ref l0, .ref k0, .ref v0, .ref v1, .ref v2, .int 0, .int 0, .int 0, .int 0])), (t0, .inr (4, [.ref u0, .ref u1, .ref u2, .ref u3, .ref u4, .int 0, .int 0, .int 0, .int 1])), (w0, .inr (5, [.ref r0, .ref t0, .ref y0, .ref y1]))] s.heap := hP
  have hl := lv_entry ([.ref s0, .int 0, .ref b0, .int 0]) (n := 8) (Nat.le_of_ble_eq_true rfl)
  rw [lg_entry_eq]
  generalize (lg_sl ([.ref s0, .int 0, .ref b0, .int 0]) ++ List.replicate (8 - (lg_sl ([.ref s0, .int 0, .ref b0, .int 0])).length) Slot.unset).toArray = ls at hl ⊢
  have hl : lv_has ls 8 [(0, .ref s0), (1, .int 0), (2, .ref b0), (3, .int 0)] := hl
  obtain ⟨H, hH⟩ : ∃ H : Heap, H = s.heap := ⟨_, rfl⟩
  rw [← hH] at hP
  have hS : va_S A s.heap H [] := by rw [hH]; exact va_S.rf
  show W p l e _ s m _ below meth c s.heap [] 0 0 _ _
  rw [← hH]
  refine lv_aload_n hx hb d_Sr_findLeast_0 rfl (lv_at hl 0 rfl) ?_
  refine va_get (D := (dC, dI)) (ci := 3) (v := .ref t0) (C := R_Sr) (T := F_Sr) (N := 12) hx hb hw in_Sr hown hK hP 0 rfl rfl 1 (by decide) (hw (Cond.fieldLink "ClauseSearch$Search" 15 "ClauseSearch$Search" "trail" "LClauseSearch$Trail;") k_218) (fun _ h9 => h9) rfl d_Sr_findLeast_1 ?_
  have hPc := hP.sub (ws' := [(t0, .inr (4, [.ref u0, .ref u1, .ref u2, .ref u3, .ref u4, .int 0, .int 0, .int 0, .int 1]))]) [1] rfl
  have hDc := hD.sub (ws' := [(t0, .inr (4, [.ref u0, .ref u1, .ref u2, .ref u3, .ref u4, .int 0, .int 0, .int 0, .int 1]))]) [1] (by decide) rfl
  have hKc := hK.sub (tys' := []) [] rfl
  have hFc := va_free (wc := [(t0, .inr (4, [.ref u0, .ref u1, .ref u2, .ref u3, .ref u4, .int 0, .int 0, .int 0, .int 1]))]) hD hS hA [1] rfl
  refine va_callv (va_runV (As := []) (rest := []) ⟨hx, hb, hml, hown, hw⟩ (c_Tr_clear_0 l dC dI t0 u0 u1 u2 u3 u4 H.size) (cb_V (C := R_Tr) 0 hw k_291 k_32 k_288 k_289 k_290 rfl rfl (by decide +kernel) ⟨Nat.le_of_ble_eq_true rfl, Nat.le_of_ble_eq_true rfl⟩) ⟨fun a U g mk q => by obtain ⟨q0, q1, qP, qK, qD⟩ := q; exact ⟨q0, q1, qP, va_K.moved (u := U) (U := U.calling g mk a) (Vm.Alike.refl U.vm) qK, qD⟩, va_recv hKc hPc (ci := 4) (q0 := 0) rfl rfl, fun U hU hW => ⟨rfl, by rw [hU], by rw [hU]; exact hPc, va_K.moved hW.alike hKc, hDc.weaken (fun _ _ _ _ => trivial)⟩⟩ rfl rfl hl.1 rfl (lv_room (Nat.le_of_ble_eq_true rfl)) d_Sr_findLeast_4 ⟨Nat.le_of_ble_eq_true rfl, Nat.le_of_ble_eq_true rfl⟩) hS (fun q _ h => hFc q h) hFc (fun u t H1 locs ht hvm hw9 hB hz1 hk1 hS => ?_)
  obtain ⟨hP1, hK1, hD1⟩ := hB
  rw [ht] at hP1
  have hK1 := va_K.moved hvm.symm hK1
  obtain ⟨hP, hD⟩ := va_join (wr := [(s0, .inr (3, [.ref r0, .ref t0, .ref w0, .ref l0, .ref k0, .ref v0, .ref v1, .ref v2, .int 0, .int 0, .int 0, .int 0])), (w0, .inr (5, [.ref r0, .ref t0, .ref y0, .ref y1]))]) (w1 := [(t0, .inr (4, [.ref u0, .ref u1, .ref u2, .ref u3, .ref u4, .int 0, .int 0, .int 0, .int 1]))]) hP hD [1] [0, 2] rfl rfl (by decide) (by decide) hk1 hFc hP1 hD1
  generalize H1 = H at hP hS ⊢
  have hP : va_P (dC, dI) vwCl [(s0, .inr (3, [.ref r0, .ref t0, .ref w0, .ref l0, .ref k0, .ref v0, .ref v1, .ref v2, .int 0, .int 0, .int 0, .int 0])), (w0, .inr (5, [.ref r0, .ref t0, .ref y0, .ref y1])), (t0, .inr (4, [.ref u0, .ref u1, .ref u2, .ref u3, .ref u4, .int 0, .int 0, .int 0, .int 1]))] H := hP
  have hD : va_D A [(s0, .inr (3, [.ref r0, .ref t0, .ref w0, .ref l0, .ref k0, .ref v0, .ref v1, .ref v2, .int 0, .int 0, .int 0, .int 0])), (w0, .inr (5, [.ref r0, .ref t0, .ref y0, .ref y1])), (t0, .inr (4, [.ref u0, .ref u1, .ref u2, .ref u3, .ref u4, .int 0, .int 0, .int 0, .int 1]))] := hD
  refine W.widen (k := 0) (n := 0) (by decide) (by decide) ?_
  refine lv_aload_n hx hb d_Sr_findLeast_7 rfl (lv_at hl 0 rfl) ?_
  have hPc := hP.sub (ws' := [(s0, .inr (3, [.ref r0, .ref t0, .ref w0, .ref l0, .ref k0, .ref v0, .ref v1, .ref v2, .int 0, .int 0, .int 0, .int 0]))]) [0] rfl
  have hDc := hD.sub (ws' := [(s0, .inr (3, [.ref r0, .ref t0, .ref w0, .ref l0, .ref k0, .ref v0, .ref v1, .ref v2, .int 0, .int 0, .int 0, .int 0]))]) [0] (by decide) rfl
  have hKc := hK.sub (tys' := []) [] rfl
  have hFc := va_free (wc := [(s0, .inr (3, [.ref r0, .ref t0, .ref w0, .ref l0, .ref k0, .ref v0, .ref v1, .ref v2, .int 0, .int 0, .int 0, .int 0]))]) hD hS hA [0] rfl
  refine va_callv (va_runV (As := []) (rest := []) ⟨hx, hb, hml, hown, hw⟩ (c_Sr_putFacts_0 l dC dI s0 r0 t0 w0 l0 k0 v0 v1 v2 H.size) (cb_V (C := R_Sr) 0 hw k_302 k_31 k_299 k_301 k_1 rfl rfl (by decide +kernel) ⟨Nat.le_of_ble_eq_true rfl, Nat.le_of_ble_eq_true rfl⟩) ⟨fun a U g mk q => by obtain ⟨q0, q1, qP, qK, qD⟩ := q; exact ⟨q0, q1, qP, va_K.moved (u := U) (U := U.calling g mk a) (Vm.Alike.refl U.vm) qK, qD⟩, va_recv hKc hPc (ci := 3) (q0 := 0) rfl rfl, fun U hU hW => ⟨rfl, by rw [hU], by rw [hU]; exact hPc, va_K.moved hW.alike hKc, hDc.weaken (fun _ _ _ _ => trivial)⟩⟩ rfl rfl hl.1 rfl (lv_room (Nat.le_of_ble_eq_true rfl)) d_Sr_findLeast_8 ⟨Nat.le_of_ble_eq_true rfl, Nat.le_of_ble_eq_true rfl⟩) hS (fun q _ h => hFc q h) hFc (fun u t H1 locs ht hvm hw9 hB hz1 hk1 hS => ?_)
  obtain ⟨hP1, hK1, hD1⟩ := hB
  rw [ht] at hP1
  have hK1 := va_K.moved hvm.symm hK1
  obtain ⟨hP, hD⟩ := va_join (wr := [(w0, .inr (5, [.ref r0, .ref t0, .ref y0, .ref y1])), (t0, .inr (4, [.ref u0, .ref u1, .ref u2, .ref u3, .ref u4, .int 0, .int 0, .int 0, .int 1]))]) (w1 := [(s0, .inr (3, [.ref r0, .ref t0, .ref w0, .ref l0, .ref k0, .ref v0, .ref v1, .ref v2, .int 0, .int 0, .int 0, .int 0]))]) hP hD [0] [1, 2] rfl rfl (by decide) (by decide) hk1 hFc hP1 hD1
  generalize H1 = H at hP hS ⊢
  have hP : va_P (dC, dI) vwCl [(w0, .inr (5, [.ref r0, .ref t0, .ref y0, .ref y1])), (t0, .inr (4, [.ref u0, .ref u1, .ref u2, .ref u3, .ref u4, .int 0, .int 0, .int 0, .int 1])), (s0, .inr (3, [.ref r0, .ref t0, .ref w0, .ref l0, .ref k0, .ref v0, .ref v1, .ref v2, .int 0, .int 0, .int 0, .int 0]))] H := hP
  have hD : va_D A [(w0, .inr (5, [.ref r0, .ref t0, .ref y0, .ref y1])), (t0, .inr (4, [.ref u0, .ref u1, .ref u2, .ref u3, .ref u4, .int 0, .int 0, .int 0, .int 1])), (s0, .inr (3, [.ref r0, .ref t0, .ref w0, .ref l0, .ref k0, .ref v0, .ref v1, .ref v2, .int 0, .int 0, .int 0, .int 0]))] := hD
  refine W.widen (k := 0) (n := 0) (by decide) (by decide) ?_
  refine lv_lconst (v := 0) hx hb d_Sr_findLeast_11 (by decide) ?_
  refine lv_lstore (lv' := [(4, .long 0), (0, .ref s0), (1, .int 0), (2, .ref b0), (3, .int 0)]) hx hb d_Sr_findLeast_12 hl (by decide) rfl (fun ls hl => ?_)
  refine lv_lload hx hb d_Sr_findLeast_14 (lv_at hl 0 rfl) ?_
  refine lv_ldc2 (v := 1099511627776) hx hb hown (hw (Cond.constantLong "ClauseSearch$Search" 87 1099511627776) k_307) d_Sr_findLeast_16 ?_
  refine W.lcmp hx hb d_Sr_findLeast_19 ?_
  refine lv_if_ge (tgt := 105) hx hb d_Sr_findLeast_20 (by decide) (fun c_20 => absurd c_20 (by decide)) (fun c_20 => ?_)
  refine lv_aload_n hx hb d_Sr_findLeast_23 rfl (lv_at hl 1 rfl) ?_
  refine va_get (D := (dC, dI)) (ci := 3) (v := .int 0) (C := R_Sr) (T := F_Sr) (N := 12) hx hb hw in_Sr hown hK hP 2 rfl rfl 11 (by decide) (hw (Cond.fieldLink "ClauseSearch$Search" 89 "ClauseSearch$Search" "hopeless" "Z") k_229) (fun _ h9 => h9) rfl d_Sr_findLeast_24 ?_
  refine lv_if_ne (tgt := 105) hx hb d_Sr_findLeast_27 (by decide) (fun c_27 => absurd c_27 (by decide)) (fun c_27 => ?_)
  refine lv_aload_n hx hb d_Sr_findLeast_30 rfl (lv_at hl 1 rfl) ?_
  refine va_get (D := (dC, dI)) (ci := 3) (v := .ref w0) (C := R_Sr) (T := F_Sr) (N := 12) hx hb hw in_Sr hown hK hP 2 rfl rfl 2 (by decide) (hw (Cond.fieldLink "ClauseSearch$Search" 24 "ClauseSearch$Search" "watch" "LClauseSearch$Watch;") k_219) (fun _ h9 => h9) rfl d_Sr_findLeast_31 ?_
  have hPc := hP.sub (ws' := [(w0, .inr (5, [.ref r0, .ref t0, .ref y0, .ref y1])), (t0, .inr (4, [.ref u0, .ref u1, .ref u2, .ref u3, .ref u4, .int 0, .int 0, .int 0, .int 1]))]) [0, 1] rfl
  have hDc := hD.sub (ws' := [(w0, .inr (5, [.ref r0, .ref t0, .ref y0, .ref y1])), (t0, .inr (4, [.ref u0, .ref u1, .ref u2, .ref u3, .ref u4, .int 0, .int 0, .int 0, .int 1]))]) [0, 1] (by decide) rfl
  have hKc := hK.sub (tys' := []) [] rfl
  have hFc := va_free (wc := [(w0, .inr (5, [.ref r0, .ref t0, .ref y0, .ref y1])), (t0, .inr (4, [.ref u0, .ref u1, .ref u2, .ref u3, .ref u4, .int 0, .int 0, .int 0, .int 1]))]) hD hS hA [0, 1] rfl
  refine va_calli (va_runV (As := []) (rest := []) ⟨hx, hb, hml, hown, hw⟩ (c_Wt_follow_0 l dC dI w0 r0 t0 y0 y1 u0 u1 u2 u3 u4 H.size) (cb_V (C := R_Wt) 0 hw k_311 k_33 k_308 k_309 k_310 rfl rfl (by decide +kernel) ⟨Nat.le_of_ble_eq_true rfl, Nat.le_of_ble_eq_true rfl⟩) ⟨fun a U g mk q => by obtain ⟨q0, q1, qP, qK, qD⟩ := q; exact ⟨q0, q1, qP, va_K.moved (u := U) (U := U.calling g mk a) (Vm.Alike.refl U.vm) qK, qD⟩, va_recv hKc hPc (ci := 5) (q0 := 0) rfl rfl, fun U hU hW => ⟨rfl, by rw [hU], by rw [hU]; exact hPc, va_K.moved hW.alike hKc, hDc.weaken (fun _ _ _ _ => trivial)⟩⟩ rfl rfl hl.1 rfl (lv_room (Nat.le_of_ble_eq_true rfl)) d_Sr_findLeast_34 ⟨Nat.le_of_ble_eq_true rfl, Nat.le_of_ble_eq_true rfl⟩) hS (fun q _ h => hFc q h) hFc (fun r_1 u t H1 locs ht hvm hw9 hB hz1 hk1 hS => ?_)
  obtain ⟨hP1, hK1, hD1⟩ := hB
  rw [ht] at hP1
  have hK1 := va_K.moved hvm.symm hK1
  obtain ⟨hP, hD⟩ := va_join (wr := [(s0, .inr (3, [.ref r0, .ref t0, .ref w0, .ref l0, .ref k0, .ref v0, .ref v1, .ref v2, .int 0, .int 0, .int 0, .int 0]))]) (w1 := [(w0, .inr (5, [.ref r0, .ref t0, .ref y0, .ref y1])), (t0, .inr (4, [.ref u0, .ref u1, .ref u2, .ref u3, .ref u4, .int 0, .int 0, .int 0, .int 1]))]) hP hD [0, 1] [2] rfl rfl (by decide) (by decide) hk1 hFc hP1 hD1
  generalize H1 = H at hP hS ⊢
  have hP : va_P (dC, dI) vwCl [(s0, .inr (3, [.ref r0, .ref t0, .ref w0, .ref l0, .ref k0, .ref v0, .ref v1, .ref v2, .int 0, .int 0, .int 0, .int 0])), (w0, .inr (5, [.ref r0, .ref t0, .ref y0, .ref y1])), (t0, .inr (4, [.ref u0, .ref u1, .ref u2, .ref u3, .ref u4, .int 0, .int 0, .int 0, .int 1]))] H := hP
  have hD : va_D A [(s0, .inr (3, [.ref r0, .ref t0, .ref w0, .ref l0, .ref k0, .ref v0, .ref v1, .ref v2, .int 0, .int 0, .int 0, .int 0])), (w0, .inr (5, [.ref r0, .ref t0, .ref y0, .ref y1])), (t0, .inr (4, [.ref u0, .ref u1, .ref u2, .ref u3, .ref u4, .int 0, .int 0, .int 0, .int 1]))] := hD
  refine W.widen (k := 0) (n := 0) (by decide) (by decide) ?_
  have hw9 : r_1 = -1 := hw9
  subst hw9
  refine lv_istore (lv' := [(6, .int (-1)), (4, .long 0), (0, .ref s0), (1, .int 0), (2, .ref b0), (3, .int 0)]) hx hb d_Sr_findLeast_37 hl (by decide) rfl (fun ls hl => ?_)
  refine lv_iload hx hb d_Sr_findLeast_39 (lv_at hl 0 rfl) ?_
  refine lv_iconst (v := (-1)) hx hb d_Sr_findLeast_41 (by decide) ?_
  refine lv_icmp_eq (tgt := 54) hx hb d_Sr_findLeast_42 (by decide) (fun c_42 => ?_) (fun c_42 => absurd c_42 (by decide))
  refine lv_aload_n hx hb d_Sr_findLeast_54 rfl (lv_at hl 2 rfl) ?_
  refine lv_iload_n hx hb d_Sr_findLeast_55 rfl (lv_at hl 3 rfl) ?_
  refine lv_aload_n hx hb d_Sr_findLeast_56 rfl (lv_at hl 4 rfl) ?_
  refine lv_iload_n hx hb d_Sr_findLeast_57 rfl (lv_at hl 5 rfl) ?_
  have hPc := hP.sub (ws' := [(s0, .inr (3, [.ref r0, .ref t0, .ref w0, .ref l0, .ref k0, .ref v0, .ref v1, .ref v2, .int 0, .int 0, .int 0, .int 0])), (t0, .inr (4, [.ref u0, .ref u1, .ref u2, .ref u3, .ref u4, .int 0, .int 0, .int 0, .int 1]))]) [0, 2] rfl
  have hDc := hD.sub (ws' := [(s0, .inr (3, [.ref r0, .ref t0, .ref w0, .ref l0, .ref k0, .ref v0, .ref v1, .ref v2, .int 0, .int 0, .int 0, .int 0])), (t0, .inr (4, [.ref u0, .ref u1, .ref u2, .ref u3, .ref u4, .int 0, .int 0, .int 0, .int 1]))]) [0, 2] (by decide) rfl
  have hKc := hK.sub (tys' := []) [] rfl
  have hFc := va_free (wc := [(s0, .inr (3, [.ref r0, .ref t0, .ref w0, .ref l0, .ref k0, .ref v0, .ref v1, .ref v2, .int 0, .int 0, .int 0, .int 0])), (t0, .inr (4, [.ref u0, .ref u1, .ref u2, .ref u3, .ref u4, .int 0, .int 0, .int 0, .int 1]))]) hD hS hA [0, 2] rfl
  refine va_calli (va_runV (As := [.int 0, .ref b0, .int 0]) (rest := []) ⟨hx, hb, hml, hown, hw⟩ (c_Sr_codeToTry_0 l dC dI s0 r0 t0 w0 l0 k0 v0 v1 v2 u0 u1 u2 u3 u4 b0 H.size) (cb_V (C := R_Sr) 3 hw k_415 k_31 k_412 k_414 k_14 rfl rfl (by decide +kernel) ⟨Nat.le_of_ble_eq_true rfl, Nat.le_of_ble_eq_true rfl⟩) ⟨fun a U g mk q => by obtain ⟨q0, q1, qP, qK, qD⟩ := q; exact ⟨q0, q1, qP, va_K.moved (u := U) (U := U.calling g mk a) (Vm.Alike.refl U.vm) qK, qD⟩, va_recv hKc hPc (ci := 3) (q0 := 0) rfl rfl, fun U hU hW => ⟨rfl, by rw [hU], by rw [hU]; exact hPc, va_K.moved hW.alike hKc, hDc.weaken (fun _ _ _ _ => trivial)⟩⟩ rfl rfl hl.1 rfl (lv_room (Nat.le_of_ble_eq_true rfl)) d_Sr_findLeast_58 ⟨Nat.le_of_ble_eq_true rfl, Nat.le_of_ble_eq_true rfl⟩) hS (fun q _ h => hFc q h) hFc (fun r_2 u t H1 locs ht hvm hw9 hB hz1 hk1 hS => ?_)
  obtain ⟨hP1, hK1, hD1⟩ := hB
  rw [ht] at hP1
  have hK1 := va_K.moved hvm.symm hK1
  obtain ⟨hP, hD⟩ := va_join (wr := [(w0, .inr (5, [.ref r0, .ref t0, .ref y0, .ref y1]))]) (w1 := [(s0, .inr (3, [.ref r0, .ref t0, .ref w0, .ref l0, .ref k0, .ref v0, .ref v1, .ref v2, .int 0, .int 0, .int 0, .int 0])), (t0, .inr (4, [.ref u0, .ref u1, .ref u2, .ref u3, .ref u4, .int 0, .int 0, .int 0, .int 1]))]) hP hD [0, 2] [1] rfl rfl (by decide) (by decide) hk1 hFc hP1 hD1
  generalize H1 = H at hP hS ⊢
  have hP : va_P (dC, dI) vwCl [(w0, .inr (5, [.ref r0, .ref t0, .ref y0, .ref y1])), (s0, .inr (3, [.ref r0, .ref t0, .ref w0, .ref l0, .ref k0, .ref v0, .ref v1, .ref v2, .int 0, .int 0, .int 0, .int 0])), (t0, .inr (4, [.ref u0, .ref u1, .ref u2, .ref u3, .ref u4, .int 0, .int 0, .int 0, .int 1]))] H := hP
  have hD : va_D A [(w0, .inr (5, [.ref r0, .ref t0, .ref y0, .ref y1])), (s0, .inr (3, [.ref r0, .ref t0, .ref w0, .ref l0, .ref k0, .ref v0, .ref v1, .ref v2, .int 0, .int 0, .int 0, .int 0])), (t0, .inr (4, [.ref u0, .ref u1, .ref u2, .ref u3, .ref u4, .int 0, .int 0, .int 0, .int 1]))] := hD
  refine W.widen (k := 0) (n := 0) (by decide) (by decide) ?_
  have hw9 : r_2 = -1 := hw9
  subst hw9
  refine lv_istore (lv' := [(7, .int (-1)), (6, .int (-1)), (4, .long 0), (0, .ref s0), (1, .int 0), (2, .ref b0), (3, .int 0)]) hx hb d_Sr_findLeast_61 hl (by decide) rfl (fun ls hl => ?_)
  refine lv_iload hx hb d_Sr_findLeast_63 (lv_at hl 0 rfl) ?_
  refine lv_iconst (v := (-1)) hx hb d_Sr_findLeast_65 (by decide) ?_
  refine lv_icmp_ne (tgt := 71) hx hb d_Sr_findLeast_66 (by decide) (fun c_66 => absurd c_66 (by decide)) (fun c_66 => ?_)
  refine lv_iconst (v := 1) hx hb d_Sr_findLeast_69 (by decide) ?_
  refine W.widen (k := 0) (n := 0) (by decide) (by decide) ?_
  exact W.zret (v := 1) hx hb hr rfl (fun t ht hW => ⟨⟨1, (), rfl, rfl, by rw [ht]; exact hP, va_K.moved hW.alike hK, hD⟩, hS.F ht⟩) hS.2.2 d_Sr_findLeast_70

set_option maxHeartbeats 4000000 in
set_option maxRecDepth 100000 in
/-- tellWay without variables -/
theorem c_Sr_tellWay_0 (l : Launch) (dC : Nat → ClassId) (dI : Nat → Nat → Nat) (s0 : Nat) (r0 : Nat) (t0 : Nat) (w0 : Nat) (l0 : Nat) (k0 : Nat) (v0 : Nat) (v1 : Nat) (v2 : Nat) (b3 : Nat) (sz : Nat) : Met l y_Sr_tellWay (wq y_Sr_tellWay prog_5_method_11_code 4 none) ({ frames := 0, cells := 0, slots := 0, locals := 0 }) (va_Pc [.ref s0, .ref b3, .int 0] (fun U => U.heap.size = sz ∧ va_P (dC, dI) vwCl [(s0, .inr (3, [.ref r0, .ref t0, .ref w0, .ref l0, .ref k0, .ref v0, .ref v1, .ref v2, .int 0, .int 0, .int 0, .int 0]))] U.heap ∧ va_K (dC, dI) vwCl [] U ∧ va_D (fun _ => True) [(s0, .inr (3, [.ref r0, .ref t0, .ref w0, .ref l0, .ref k0, .ref v0, .ref v1, .ref v2, .int 0, .int 0, .int 0, .int 0]))])) (va_Qv (fun _ : Unit => True) (fun (_ : Unit) t => va_P (dC, dI) vwCl [(s0, .inr (3, [.ref r0, .ref t0, .ref w0, .ref l0, .ref k0, .ref v0, .ref v1, .ref v2, .int 0, .int 0, .int 0, .int 0]))] t.heap ∧ va_K (dC, dI) vwCl [] t ∧ va_D (va_A [(s0, .inr (3, [.ref r0, .ref t0, .ref w0, .ref l0, .ref k0, .ref v0, .ref v1, .ref v2, .int 0, .int 0, .int 0, .int 0]))] sz) [(s0, .inr (3, [.ref r0, .ref t0, .ref w0, .ref l0, .ref k0, .ref v0, .ref v1, .ref v2, .int 0, .int 0, .int 0, .int 0]))]) (va_A [(s0, .inr (3, [.ref r0, .ref t0, .ref w0, .ref l0, .ref k0, .ref v0, .ref v1, .ref v2, .int 0, .int 0, .int 0, .int 0]))] sz)) 0 0 (va_A [(s0, .inr (3, [.ref r0, .ref t0, .ref w0, .ref l0, .ref k0, .ref v0, .ref v1, .ref v2, .int 0, .int 0, .int 0, .int 0]))] sz) := by
  refine Met.ofW (cc := prog_5_method_11_code) (maxL := 4) (ret := none) (by decide) rfl ?_
  intro p e s m args below meth c s₁ B hml hv
  obtain ⟨rfl, hsz, hP, hK, hD0⟩ := hv
  have hx := B.exec
  have hb := B.bytes
  have hr := B.returns
  have hw : ∀ w ∈ bg_W, w.before #[Value.ref s0, Value.ref b3, Value.int 0] s = true := fun w h => atoms_spec (ws := (wq y_Sr_tellWay prog_5_method_11_code 4 none)) B.pre w (List.mem_cons_of_mem _ h)
  have hown : s.vm.findClass R_Sr = some m.cls := findClass_of_methodNamed B.named
  have hlocks := B.notSynchronized
  subst hsz
  have hD := hD0.self (sz := s.heap.size)
  generalize hAe : va_A [(s0, .inr (3, [.ref r0, .ref t0, .ref w0, .ref l0, .ref k0, .ref v0, .ref v1, .ref v2, .int 0, .int 0, .int 0, .int 0]))] s.heap.size = A at hD ⊢
  have hA : ∀ q : Nat, s.heap.size ≤ q → A q := fun q h => by rw [← hAe]; exact Or.inr h
  have hS : va_S A s.heap s.heap [] := va_S.rf
  have hP : va_P (dC, dI) vwCl [(s0, .inr (3, [.ref r0, .ref t0, .ref w0, .ref l0, .ref k0, .ref v0, .ref v1, .ref v2, .int 0, .int 0, .int 0, .int 0]))] s.heap := hP
  have hl := lv_entry ([.ref s0, .ref b3, .int 0]) (n := 4) (Nat.le_of_ble_eq_true rfl)
  rw [lg_entry_eq]
  generalize (lg_sl ([.ref s0, .ref b3, .int 0]) ++ List.replicate (4 - (lg_sl ([.ref s0, .ref b3, .int 0])).length) Slot.unset).toArray = ls at hl ⊢
  have hl : lv_has ls 4 [(0, .ref s0), (1, .ref b3), (2, .int 0)] := hl
  obtain ⟨H, hH⟩ : ∃ H : Heap, H = s.heap := ⟨_, rfl⟩
  rw [← hH] at hP
  have hS : va_S A s.heap H [] := by rw [hH]; exact va_S.rf
  show W p l e _ s m _ below meth c s.heap [] 0 0 _ _
  rw [← hH]
  refine lv_iconst (v := 1) hx hb d_Sr_tellWay_0 (by decide) ?_
  refine lv_istore_n (lv' := [(3, .int 1), (0, .ref s0), (1, .ref b3), (2, .int 0)]) hx hb d_Sr_tellWay_1 rfl hl (by decide) rfl (fun ls hl => ?_)
  refine lv_iload_n hx hb d_Sr_tellWay_2 rfl (lv_at hl 0 rfl) ?_
  refine lv_iload_n hx hb d_Sr_tellWay_3 rfl (lv_at hl 3 rfl) ?_
  refine lv_icmp_gt (tgt := 36) hx hb d_Sr_tellWay_4 (by decide) (fun c_4 => ?_) (fun c_4 => absurd c_4 (by decide))
  refine W.widen (k := 0) (n := 0) (by decide) (by decide) ?_
  exact W.vret hx hb hr (fun t ht hW => ⟨⟨(), rfl, trivial, by rw [ht]; exact hP, va_K.moved hW.alike hK, hD⟩, hS.F ht⟩) hS.2.2 d_Sr_tellWay_36
