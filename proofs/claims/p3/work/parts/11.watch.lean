abbrev y_Wt_hang : MethodName := ⟨"ClauseSearch$Watch", "hang", "(II)V"⟩
abbrev y_Wt_otherCode : MethodName := ⟨"ClauseSearch$Watch", "otherCode", "(I)I"⟩
abbrev y_Wt_waitsElsewhere : MethodName := ⟨"ClauseSearch$Watch", "waitsElsewhere", "(I)Z"⟩
abbrev y_Wt_force : MethodName := ⟨"ClauseSearch$Watch", "force", "(I)I"⟩
theorem k_3 : (Cond.selects "ClauseSearch$Watch" ⟨"ClauseSearch$Watch", "hang", "(II)V"⟩ ⟨"ClauseSearch$Watch", "hang", "(II)V"⟩) ∈ bg_W := bg_in 3 (by decide +kernel) (by decide +kernel)
theorem k_5 : (Cond.selects "ClauseSearch$Watch" ⟨"ClauseSearch$Watch", "otherCode", "(I)I"⟩ ⟨"ClauseSearch$Watch", "otherCode", "(I)I"⟩) ∈ bg_W := bg_in 5 (by decide +kernel) (by decide +kernel)
theorem k_33 : (Cond.initialized "ClauseSearch$Watch") ∈ bg_W := bg_in 33 (by decide +kernel) (by decide +kernel)
theorem k_61 : (Cond.fieldLinkNest "ClauseSearch$Watch" 41 "ClauseSearch$Rows" "start" "[I" "ClauseSearch") ∈ bg_W := bg_in 61 (by decide +kernel) (by decide +kernel)
theorem k_69 : (Cond.fieldLinkNest "ClauseSearch$Watch" 36 "ClauseSearch$Rows" "codes" "[I" "ClauseSearch") ∈ bg_W := bg_in 69 (by decide +kernel) (by decide +kernel)
theorem k_99 : (Cond.fieldLinkNest "ClauseSearch$Watch" 76 "ClauseSearch$Trail" "truth" "[B" "ClauseSearch") ∈ bg_W := bg_in 99 (by decide +kernel) (by decide +kernel)
theorem k_151 : (Cond.fieldLink "ClauseSearch$Watch" 9 "ClauseSearch$Watch" "rows" "LClauseSearch$Rows;") ∈ bg_W := bg_in 151 (by decide +kernel) (by decide +kernel)
theorem k_152 : (Cond.fieldLink "ClauseSearch$Watch" 15 "ClauseSearch$Watch" "trail" "LClauseSearch$Trail;") ∈ bg_W := bg_in 152 (by decide +kernel) (by decide +kernel)
theorem k_153 : (Cond.fieldLink "ClauseSearch$Watch" 19 "ClauseSearch$Watch" "head" "[I") ∈ bg_W := bg_in 153 (by decide +kernel) (by decide +kernel)
theorem k_154 : (Cond.fieldLink "ClauseSearch$Watch" 23 "ClauseSearch$Watch" "next" "[I") ∈ bg_W := bg_in 154 (by decide +kernel) (by decide +kernel)
theorem k_316 : (Cond.methodLink "ClauseSearch$Watch" 44 ⟨"ClauseSearch$Watch", "hang", "(II)V"⟩) ∈ bg_W := bg_in 316 (by decide +kernel) (by decide +kernel)
theorem k_318 : (Cond.instanceMethod ⟨"ClauseSearch$Watch", "hang", "(II)V"⟩) ∈ bg_W := bg_in 318 (by decide +kernel) (by decide +kernel)
theorem k_319 : (Cond.code ⟨"ClauseSearch$Watch", "hang", "(II)V"⟩ prog_7_method_4_code 3 none) ∈ bg_W := bg_in 319 (by decide +kernel) (by decide +kernel)
theorem k_324 : (Cond.methodLink "ClauseSearch$Watch" 80 ⟨"ClauseSearch$Watch", "otherCode", "(I)I"⟩) ∈ bg_W := bg_in 324 (by decide +kernel) (by decide +kernel)
theorem k_326 : (Cond.instanceMethod ⟨"ClauseSearch$Watch", "otherCode", "(I)I"⟩) ∈ bg_W := bg_in 326 (by decide +kernel) (by decide +kernel)
theorem k_327 : (Cond.code ⟨"ClauseSearch$Watch", "otherCode", "(I)I"⟩ prog_7_method_7_code 2 (some .int)) ∈ bg_W := bg_in 327 (by decide +kernel) (by decide +kernel)
theorem k_332 : (Cond.methodLink "ClauseSearch$Watch" 83 ⟨"ClauseSearch$Trail", "put", "(II)V"⟩) ∈ bg_W := bg_in 332 (by decide +kernel) (by decide +kernel)
theorem d_Wt_hang_0 : decode prog_7_method_4_code 0 = .ok (.aload_n 0, 1) := by decide +kernel
theorem d_Wt_hang_1 : decode prog_7_method_4_code 1 = .ok (.getfield 23, 3) := by decide +kernel
theorem d_Wt_hang_4 : decode prog_7_method_4_code 4 = .ok (.iload_n 1, 1) := by decide +kernel
theorem d_Wt_hang_5 : decode prog_7_method_4_code 5 = .ok (.aload_n 0, 1) := by decide +kernel
theorem d_Wt_hang_6 : decode prog_7_method_4_code 6 = .ok (.getfield 19, 3) := by decide +kernel
theorem d_Wt_hang_9 : decode prog_7_method_4_code 9 = .ok (.iload_n 2, 1) := by decide +kernel
theorem d_Wt_hang_10 : decode prog_7_method_4_code 10 = .ok (.iaload, 1) := by decide +kernel
theorem d_Wt_hang_11 : decode prog_7_method_4_code 11 = .ok (.iastore, 1) := by decide +kernel
theorem d_Wt_hang_12 : decode prog_7_method_4_code 12 = .ok (.aload_n 0, 1) := by decide +kernel
theorem d_Wt_hang_13 : decode prog_7_method_4_code 13 = .ok (.getfield 19, 3) := by decide +kernel
theorem d_Wt_hang_16 : decode prog_7_method_4_code 16 = .ok (.iload_n 2, 1) := by decide +kernel
theorem d_Wt_hang_17 : decode prog_7_method_4_code 17 = .ok (.iload_n 1, 1) := by decide +kernel
theorem d_Wt_hang_18 : decode prog_7_method_4_code 18 = .ok (.iastore, 1) := by decide +kernel
theorem d_Wt_hang_19 : decode prog_7_method_4_code 19 = .ok (.return_, 1) := by decide +kernel
theorem d_Wt_otherCode_0 : decode prog_7_method_7_code 0 = .ok (.aload_n 0, 1) := by decide +kernel
theorem d_Wt_otherCode_1 : decode prog_7_method_7_code 1 = .ok (.getfield 9, 3) := by decide +kernel
theorem d_Wt_otherCode_4 : decode prog_7_method_7_code 4 = .ok (.getfield 36, 3) := by decide +kernel
theorem d_Wt_otherCode_7 : decode prog_7_method_7_code 7 = .ok (.aload_n 0, 1) := by decide +kernel
theorem d_Wt_otherCode_8 : decode prog_7_method_7_code 8 = .ok (.getfield 9, 3) := by decide +kernel
theorem d_Wt_otherCode_11 : decode prog_7_method_7_code 11 = .ok (.getfield 41, 3) := by decide +kernel
theorem d_Wt_otherCode_14 : decode prog_7_method_7_code 14 = .ok (.iload_n 1, 1) := by decide +kernel
theorem d_Wt_otherCode_15 : decode prog_7_method_7_code 15 = .ok (.iconst 1, 1) := by decide +kernel
theorem d_Wt_otherCode_16 : decode prog_7_method_7_code 16 = .ok (.ishr, 1) := by decide +kernel
theorem d_Wt_otherCode_17 : decode prog_7_method_7_code 17 = .ok (.iaload, 1) := by decide +kernel
theorem d_Wt_otherCode_18 : decode prog_7_method_7_code 18 = .ok (.iconst 1, 1) := by decide +kernel
theorem d_Wt_otherCode_19 : decode prog_7_method_7_code 19 = .ok (.iadd, 1) := by decide +kernel
theorem d_Wt_otherCode_20 : decode prog_7_method_7_code 20 = .ok (.iload_n 1, 1) := by decide +kernel
theorem d_Wt_otherCode_21 : decode prog_7_method_7_code 21 = .ok (.iconst 1, 1) := by decide +kernel
theorem d_Wt_otherCode_22 : decode prog_7_method_7_code 22 = .ok (.iand, 1) := by decide +kernel
theorem d_Wt_otherCode_23 : decode prog_7_method_7_code 23 = .ok (.isub, 1) := by decide +kernel
theorem d_Wt_otherCode_24 : decode prog_7_method_7_code 24 = .ok (.iaload, 1) := by decide +kernel
theorem d_Wt_otherCode_25 : decode prog_7_method_7_code 25 = .ok (.ireturn, 1) := by decide +kernel
theorem d_Wt_waitsElsewhere_59 : decode prog_7_method_8_code 59 = .ok (.iload 5, 2) := by decide +kernel
theorem d_Wt_waitsElsewhere_61 : decode prog_7_method_8_code 61 = .ok (.iload 4, 2) := by decide +kernel
theorem d_Wt_waitsElsewhere_63 : decode prog_7_method_8_code 63 = .ok (.if_icmp .ge 58, 3) := by decide +kernel
theorem d_Wt_waitsElsewhere_66 : decode prog_7_method_8_code 66 = .ok (.aload_n 2, 1) := by decide +kernel
theorem d_Wt_waitsElsewhere_67 : decode prog_7_method_8_code 67 = .ok (.iload 5, 2) := by decide +kernel
theorem d_Wt_waitsElsewhere_69 : decode prog_7_method_8_code 69 = .ok (.iaload, 1) := by decide +kernel
theorem d_Wt_waitsElsewhere_70 : decode prog_7_method_8_code 70 = .ok (.istore 6, 2) := by decide +kernel
theorem d_Wt_waitsElsewhere_72 : decode prog_7_method_8_code 72 = .ok (.aload_n 0, 1) := by decide +kernel
theorem d_Wt_waitsElsewhere_73 : decode prog_7_method_8_code 73 = .ok (.getfield 15, 3) := by decide +kernel
theorem d_Wt_waitsElsewhere_76 : decode prog_7_method_8_code 76 = .ok (.getfield 76, 3) := by decide +kernel
theorem d_Wt_waitsElsewhere_79 : decode prog_7_method_8_code 79 = .ok (.iload 6, 2) := by decide +kernel
theorem d_Wt_waitsElsewhere_81 : decode prog_7_method_8_code 81 = .ok (.baload, 1) := by decide +kernel
theorem d_Wt_waitsElsewhere_82 : decode prog_7_method_8_code 82 = .ok (.iconst 2, 1) := by decide +kernel
theorem d_Wt_waitsElsewhere_83 : decode prog_7_method_8_code 83 = .ok (.if_icmp .eq 32, 3) := by decide +kernel
theorem d_Wt_waitsElsewhere_115 : decode prog_7_method_8_code 115 = .ok (.iinc 5 1, 3) := by decide +kernel
theorem d_Wt_waitsElsewhere_118 : decode prog_7_method_8_code 118 = .ok (.goto (-59), 3) := by decide +kernel
theorem d_Wt_waitsElsewhere_0 : decode prog_7_method_8_code 0 = .ok (.aload_n 0, 1) := by decide +kernel
theorem d_Wt_waitsElsewhere_1 : decode prog_7_method_8_code 1 = .ok (.getfield 15, 3) := by decide +kernel
theorem d_Wt_waitsElsewhere_4 : decode prog_7_method_8_code 4 = .ok (.getfield 76, 3) := by decide +kernel
theorem d_Wt_waitsElsewhere_7 : decode prog_7_method_8_code 7 = .ok (.aload_n 0, 1) := by decide +kernel
theorem d_Wt_waitsElsewhere_8 : decode prog_7_method_8_code 8 = .ok (.iload_n 1, 1) := by decide +kernel
theorem d_Wt_waitsElsewhere_9 : decode prog_7_method_8_code 9 = .ok (.invokevirtual 80, 3) := by decide +kernel
theorem d_Wt_waitsElsewhere_12 : decode prog_7_method_8_code 12 = .ok (.baload, 1) := by decide +kernel
theorem d_Wt_waitsElsewhere_13 : decode prog_7_method_8_code 13 = .ok (.iconst 1, 1) := by decide +kernel
theorem d_Wt_waitsElsewhere_14 : decode prog_7_method_8_code 14 = .ok (.if_icmp .ne 5, 3) := by decide +kernel
theorem d_Wt_waitsElsewhere_19 : decode prog_7_method_8_code 19 = .ok (.aload_n 0, 1) := by decide +kernel
theorem d_Wt_waitsElsewhere_20 : decode prog_7_method_8_code 20 = .ok (.getfield 9, 3) := by decide +kernel
theorem d_Wt_waitsElsewhere_23 : decode prog_7_method_8_code 23 = .ok (.getfield 36, 3) := by decide +kernel
theorem d_Wt_waitsElsewhere_26 : decode prog_7_method_8_code 26 = .ok (.astore_n 2, 1) := by decide +kernel
theorem d_Wt_waitsElsewhere_27 : decode prog_7_method_8_code 27 = .ok (.aload_n 0, 1) := by decide +kernel
theorem d_Wt_waitsElsewhere_28 : decode prog_7_method_8_code 28 = .ok (.getfield 9, 3) := by decide +kernel
theorem d_Wt_waitsElsewhere_31 : decode prog_7_method_8_code 31 = .ok (.getfield 41, 3) := by decide +kernel
theorem d_Wt_waitsElsewhere_34 : decode prog_7_method_8_code 34 = .ok (.iload_n 1, 1) := by decide +kernel
theorem d_Wt_waitsElsewhere_35 : decode prog_7_method_8_code 35 = .ok (.iconst 1, 1) := by decide +kernel
theorem d_Wt_waitsElsewhere_36 : decode prog_7_method_8_code 36 = .ok (.ishr, 1) := by decide +kernel
theorem d_Wt_waitsElsewhere_37 : decode prog_7_method_8_code 37 = .ok (.iaload, 1) := by decide +kernel
theorem d_Wt_waitsElsewhere_38 : decode prog_7_method_8_code 38 = .ok (.istore_n 3, 1) := by decide +kernel
theorem d_Wt_waitsElsewhere_39 : decode prog_7_method_8_code 39 = .ok (.aload_n 0, 1) := by decide +kernel
theorem d_Wt_waitsElsewhere_40 : decode prog_7_method_8_code 40 = .ok (.getfield 9, 3) := by decide +kernel
theorem d_Wt_waitsElsewhere_43 : decode prog_7_method_8_code 43 = .ok (.getfield 41, 3) := by decide +kernel
theorem d_Wt_waitsElsewhere_46 : decode prog_7_method_8_code 46 = .ok (.iload_n 1, 1) := by decide +kernel
theorem d_Wt_waitsElsewhere_47 : decode prog_7_method_8_code 47 = .ok (.iconst 1, 1) := by decide +kernel
theorem d_Wt_waitsElsewhere_48 : decode prog_7_method_8_code 48 = .ok (.ishr, 1) := by decide +kernel
theorem d_Wt_waitsElsewhere_49 : decode prog_7_method_8_code 49 = .ok (.iconst 1, 1) := by decide +kernel
theorem d_Wt_waitsElsewhere_50 : decode prog_7_method_8_code 50 = .ok (.iadd, 1) := by decide +kernel
theorem d_Wt_waitsElsewhere_51 : decode prog_7_method_8_code 51 = .ok (.iaload, 1) := by decide +kernel
theorem d_Wt_waitsElsewhere_52 : decode prog_7_method_8_code 52 = .ok (.istore 4, 2) := by decide +kernel
theorem d_Wt_waitsElsewhere_54 : decode prog_7_method_8_code 54 = .ok (.iload_n 3, 1) := by decide +kernel
theorem d_Wt_waitsElsewhere_55 : decode prog_7_method_8_code 55 = .ok (.iconst 2, 1) := by decide +kernel
theorem d_Wt_waitsElsewhere_56 : decode prog_7_method_8_code 56 = .ok (.iadd, 1) := by decide +kernel
theorem d_Wt_waitsElsewhere_57 : decode prog_7_method_8_code 57 = .ok (.istore 5, 2) := by decide +kernel
theorem d_Wt_waitsElsewhere_86 : decode prog_7_method_8_code 86 = .ok (.aload_n 2, 1) := by decide +kernel
theorem d_Wt_waitsElsewhere_87 : decode prog_7_method_8_code 87 = .ok (.iload 5, 2) := by decide +kernel
theorem d_Wt_waitsElsewhere_89 : decode prog_7_method_8_code 89 = .ok (.aload_n 2, 1) := by decide +kernel
theorem d_Wt_waitsElsewhere_90 : decode prog_7_method_8_code 90 = .ok (.iload_n 3, 1) := by decide +kernel
theorem d_Wt_waitsElsewhere_91 : decode prog_7_method_8_code 91 = .ok (.iload_n 1, 1) := by decide +kernel
theorem d_Wt_waitsElsewhere_92 : decode prog_7_method_8_code 92 = .ok (.iconst 1, 1) := by decide +kernel
theorem d_Wt_waitsElsewhere_93 : decode prog_7_method_8_code 93 = .ok (.iand, 1) := by decide +kernel
theorem d_Wt_waitsElsewhere_94 : decode prog_7_method_8_code 94 = .ok (.iadd, 1) := by decide +kernel
theorem d_Wt_waitsElsewhere_95 : decode prog_7_method_8_code 95 = .ok (.iaload, 1) := by decide +kernel
theorem d_Wt_waitsElsewhere_96 : decode prog_7_method_8_code 96 = .ok (.iastore, 1) := by decide +kernel
theorem d_Wt_waitsElsewhere_97 : decode prog_7_method_8_code 97 = .ok (.aload_n 2, 1) := by decide +kernel
theorem d_Wt_waitsElsewhere_98 : decode prog_7_method_8_code 98 = .ok (.iload_n 3, 1) := by decide +kernel
theorem d_Wt_waitsElsewhere_99 : decode prog_7_method_8_code 99 = .ok (.iload_n 1, 1) := by decide +kernel
theorem d_Wt_waitsElsewhere_100 : decode prog_7_method_8_code 100 = .ok (.iconst 1, 1) := by decide +kernel
theorem d_Wt_waitsElsewhere_101 : decode prog_7_method_8_code 101 = .ok (.iand, 1) := by decide +kernel
theorem d_Wt_waitsElsewhere_102 : decode prog_7_method_8_code 102 = .ok (.iadd, 1) := by decide +kernel
theorem d_Wt_waitsElsewhere_103 : decode prog_7_method_8_code 103 = .ok (.iload 6, 2) := by decide +kernel
theorem d_Wt_waitsElsewhere_105 : decode prog_7_method_8_code 105 = .ok (.iastore, 1) := by decide +kernel
theorem d_Wt_waitsElsewhere_106 : decode prog_7_method_8_code 106 = .ok (.aload_n 0, 1) := by decide +kernel
theorem d_Wt_waitsElsewhere_107 : decode prog_7_method_8_code 107 = .ok (.iload_n 1, 1) := by decide +kernel
theorem d_Wt_waitsElsewhere_108 : decode prog_7_method_8_code 108 = .ok (.iload 6, 2) := by decide +kernel
theorem d_Wt_waitsElsewhere_110 : decode prog_7_method_8_code 110 = .ok (.invokevirtual 44, 3) := by decide +kernel
theorem d_Wt_waitsElsewhere_113 : decode prog_7_method_8_code 113 = .ok (.iconst 1, 1) := by decide +kernel
theorem d_Wt_waitsElsewhere_114 : decode prog_7_method_8_code 114 = .ok (.ireturn, 1) := by decide +kernel
theorem d_Wt_waitsElsewhere_121 : decode prog_7_method_8_code 121 = .ok (.iconst 0, 1) := by decide +kernel
theorem d_Wt_waitsElsewhere_122 : decode prog_7_method_8_code 122 = .ok (.ireturn, 1) := by decide +kernel
theorem d_Wt_waitsElsewhere_17 : decode prog_7_method_8_code 17 = .ok (.iconst 0, 1) := by decide +kernel
theorem d_Wt_waitsElsewhere_18 : decode prog_7_method_8_code 18 = .ok (.ireturn, 1) := by decide +kernel
theorem d_Wt_force_0 : decode prog_7_method_9_code 0 = .ok (.aload_n 0, 1) := by decide +kernel
theorem d_Wt_force_1 : decode prog_7_method_9_code 1 = .ok (.iload_n 1, 1) := by decide +kernel
theorem d_Wt_force_2 : decode prog_7_method_9_code 2 = .ok (.invokevirtual 80, 3) := by decide +kernel
theorem d_Wt_force_5 : decode prog_7_method_9_code 5 = .ok (.istore_n 2, 1) := by decide +kernel
theorem d_Wt_force_6 : decode prog_7_method_9_code 6 = .ok (.aload_n 0, 1) := by decide +kernel
theorem d_Wt_force_7 : decode prog_7_method_9_code 7 = .ok (.getfield 15, 3) := by decide +kernel
theorem d_Wt_force_10 : decode prog_7_method_9_code 10 = .ok (.getfield 76, 3) := by decide +kernel
theorem d_Wt_force_13 : decode prog_7_method_9_code 13 = .ok (.iload_n 2, 1) := by decide +kernel
theorem d_Wt_force_14 : decode prog_7_method_9_code 14 = .ok (.baload, 1) := by decide +kernel
theorem d_Wt_force_15 : decode prog_7_method_9_code 15 = .ok (.iconst 2, 1) := by decide +kernel
theorem d_Wt_force_16 : decode prog_7_method_9_code 16 = .ok (.if_icmp .ne 7, 3) := by decide +kernel
theorem d_Wt_force_23 : decode prog_7_method_9_code 23 = .ok (.aload_n 0, 1) := by decide +kernel
theorem d_Wt_force_24 : decode prog_7_method_9_code 24 = .ok (.getfield 15, 3) := by decide +kernel
theorem d_Wt_force_27 : decode prog_7_method_9_code 27 = .ok (.getfield 76, 3) := by decide +kernel
theorem d_Wt_force_30 : decode prog_7_method_9_code 30 = .ok (.iload_n 2, 1) := by decide +kernel
theorem d_Wt_force_31 : decode prog_7_method_9_code 31 = .ok (.baload, 1) := by decide +kernel
theorem d_Wt_force_32 : decode prog_7_method_9_code 32 = .ok (.ifCond .ne 14, 3) := by decide +kernel
theorem d_Wt_force_46 : decode prog_7_method_9_code 46 = .ok (.iconst (-1), 1) := by decide +kernel
theorem d_Wt_force_47 : decode prog_7_method_9_code 47 = .ok (.ireturn, 1) := by decide +kernel
theorem d_Wt_force_35 : decode prog_7_method_9_code 35 = .ok (.aload_n 0, 1) := by decide +kernel
theorem d_Wt_force_36 : decode prog_7_method_9_code 36 = .ok (.getfield 15, 3) := by decide +kernel
theorem d_Wt_force_39 : decode prog_7_method_9_code 39 = .ok (.iload_n 2, 1) := by decide +kernel
theorem d_Wt_force_40 : decode prog_7_method_9_code 40 = .ok (.iload_n 1, 1) := by decide +kernel
theorem d_Wt_force_41 : decode prog_7_method_9_code 41 = .ok (.iconst 1, 1) := by decide +kernel
theorem d_Wt_force_42 : decode prog_7_method_9_code 42 = .ok (.ishr, 1) := by decide +kernel
theorem d_Wt_force_43 : decode prog_7_method_9_code 43 = .ok (.invokevirtual 83, 3) := by decide +kernel
theorem d_Wt_force_19 : decode prog_7_method_9_code 19 = .ok (.iload_n 1, 1) := by decide +kernel
theorem d_Wt_force_20 : decode prog_7_method_9_code 20 = .ok (.iconst 1, 1) := by decide +kernel
theorem d_Wt_force_21 : decode prog_7_method_9_code 21 = .ok (.ishr, 1) := by decide +kernel
theorem d_Wt_force_22 : decode prog_7_method_9_code 22 = .ok (.ireturn, 1) := by decide +kernel
set_option maxHeartbeats 4000000 in
set_option maxRecDepth 100000 in
/-- hang(node, code) -/
theorem c_Wt_hang (l : Launch) (dC : Nat → ClassId) (dI : Nat → Nat → Nat) (w0 : Nat) (h0 : Nat) (t0 : Nat) (v0 : Nat) (v1 : Nat) (x0 : ClassId) (x1 : ClassId) (sz : Nat) (nn : Nat) (hd : Nat → Int32) (nx : Nat → Int32) (m0 : Nat) (c0 : Nat) (hm : m0 < nn) (hnn : nn ≤ 1048576) (hc : c0 < 802) : Met l y_Wt_hang (wq y_Wt_hang prog_7_method_4_code 3 none) ({ frames := 0, cells := 0, slots := 0, locals := 0 }) (va_Pc [.ref w0, .int (nI m0), .int (nI c0)] (fun U => U.heap.size = sz ∧ va_P (dC, dI) vwCl [(w0, .inr (5, [.ref h0, .ref t0, .ref v0, .ref v1])), (v0, .inl (x0, 802, .inl hd)), (v1, .inl (x1, nn, .inl nx))] U.heap ∧ va_K (dC, dI) vwCl [(x0, .int), (x1, .int)] U ∧ va_D (fun _ => True) [(w0, .inr (5, [.ref h0, .ref t0, .ref v0, .ref v1])), (v0, .inl (x0, 802, .inl hd)), (v1, .inl (x1, nn, .inl nx))])) (va_Qv (fun _ : Unit => True) (fun (_ : Unit) t => va_P (dC, dI) vwCl [(w0, .inr (5, [.ref h0, .ref t0, .ref v0, .ref v1])), (v0, .inl (x0, 802, .inl (upd hd c0 (nI m0)))), (v1, .inl (x1, nn, .inl (upd nx m0 (hd c0))))] t.heap ∧ va_K (dC, dI) vwCl [(x0, .int), (x1, .int)] t ∧ va_D (va_A [(w0, .inr (5, [.ref h0, .ref t0, .ref v0, .ref v1])), (v0, .inl (x0, 802, .inl hd)), (v1, .inl (x1, nn, .inl nx))] sz) [(w0, .inr (5, [.ref h0, .ref t0, .ref v0, .ref v1])), (v0, .inl (x0, 802, .inl (upd hd c0 (nI m0)))), (v1, .inl (x1, nn, .inl (upd nx m0 (hd c0))))]) (va_A [(w0, .inr (5, [.ref h0, .ref t0, .ref v0, .ref v1])), (v0, .inl (x0, 802, .inl hd)), (v1, .inl (x1, nn, .inl nx))] sz)) 0 0 (va_A [(w0, .inr (5, [.ref h0, .ref t0, .ref v0, .ref v1])), (v0, .inl (x0, 802, .inl hd)), (v1, .inl (x1, nn, .inl nx))] sz) := by
  refine Met.ofW (cc := prog_7_method_4_code) (maxL := 3) (ret := none) (by decide) rfl ?_
  intro p e s m args below meth c s₁ B hml hv
  obtain ⟨rfl, hsz, hP, hK, hD0⟩ := hv
  have hx := B.exec
  have hb := B.bytes
  have hr := B.returns
  have hw : ∀ w ∈ bg_W, w.before #[Value.ref w0, Value.int (nI m0), Value.int (nI c0)] s = true := fun w h => atoms_spec (ws := (wq y_Wt_hang prog_7_method_4_code 3 none)) B.pre w (List.mem_cons_of_mem _ h)
  have hown : s.vm.findClass R_Wt = some m.cls := findClass_of_methodNamed B.named
  have hlocks := B.notSynchronized
  subst hsz
  have hD := hD0.self (sz := s.heap.size)
  generalize hAe : va_A [(w0, .inr (5, [.ref h0, .ref t0, .ref v0, .ref v1])), (v0, .inl (x0, 802, .inl hd)), (v1, .inl (x1, nn, .inl nx))] s.heap.size = A at hD ⊢
  have hA : ∀ q : Nat, s.heap.size ≤ q → A q := fun q h => by rw [← hAe]; exact Or.inr h
  have hS : va_S A s.heap s.heap [] := va_S.rf
  have hP : va_P (dC, dI) vwCl [(w0, .inr (5, [.ref h0, .ref t0, .ref v0, .ref v1])), (v0, .inl (x0, 802, .inl hd)), (v1, .inl (x1, nn, .inl nx))] s.heap := hP
  have hl := lv_entry ([.ref w0, .int (nI m0), .int (nI c0)]) (n := 3) (Nat.le_of_ble_eq_true rfl)
  rw [lg_entry_eq]
  generalize (lg_sl ([.ref w0, .int (nI m0), .int (nI c0)]) ++ List.replicate (3 - (lg_sl ([.ref w0, .int (nI m0), .int (nI c0)])).length) Slot.unset).toArray = ls at hl ⊢
  have hl : lv_has ls 3 [(0, .ref w0), (1, .int (nI m0)), (2, .int (nI c0))] := hl
  obtain ⟨H, hH⟩ : ∃ H : Heap, H = s.heap := ⟨_, rfl⟩
  rw [← hH] at hP
  have hS : va_S A s.heap H [] := by rw [hH]; exact va_S.rf
  show W p l e _ s m _ below meth c s.heap [] 0 0 _ _
  rw [← hH]
  refine lv_aload_n hx hb d_Wt_hang_0 rfl (lv_at hl 0 rfl) ?_
  refine va_get (D := (dC, dI)) (ci := 5) (v := .ref v1) (C := R_Wt) (T := F_Wt) (N := 4) hx hb hw in_Wt hown hK hP 0 rfl rfl 3 (by decide) (hw (Cond.fieldLink "ClauseSearch$Watch" 23 "ClauseSearch$Watch" "next" "[I") k_154) (fun _ h9 => h9) rfl d_Wt_hang_1 ?_
  refine lv_iload_n hx hb d_Wt_hang_4 rfl (lv_at hl 1 rfl) ?_
  refine lv_aload_n hx hb d_Wt_hang_5 rfl (lv_at hl 0 rfl) ?_
  refine va_get (D := (dC, dI)) (ci := 5) (v := .ref v0) (C := R_Wt) (T := F_Wt) (N := 4) hx hb hw in_Wt hown hK hP 0 rfl rfl 2 (by decide) (hw (Cond.fieldLink "ClauseSearch$Watch" 19 "ClauseSearch$Watch" "head" "[I") k_153) (fun _ h9 => h9) rfl d_Wt_hang_6 ?_
  refine lv_iload_n hx hb d_Wt_hang_9 rfl (lv_at hl 2 rfl) ?_
  refine va_iald hx hb hK hP 1 0 rfl rfl (vp_in_nI (by omega) (by omega)) d_Wt_hang_10 ?_
  refine lv_topi (fun y_1 ey_1 => ?_)
  rw [nI_clamp (by omega)] at ey_1
  subst ey_1
  refine va_iast hx hb hK hP hD hS 2 1 rfl rfl (vp_in_nI (by omega) (by omega)) d_Wt_hang_11 (fun H locs hP hD hS => ?_)
  rw [nI_clamp (n := m0) (by omega)] at hP hD
  have hP : va_P (dC, dI) vwCl [(w0, .inr (5, [.ref h0, .ref t0, .ref v0, .ref v1])), (v0, .inl (x0, 802, .inl hd)), (v1, .inl (x1, nn, .inl (upd nx m0 (hd c0))))] H := hP
  have hD : va_D A [(w0, .inr (5, [.ref h0, .ref t0, .ref v0, .ref v1])), (v0, .inl (x0, 802, .inl hd)), (v1, .inl (x1, nn, .inl (upd nx m0 (hd c0))))] := hD
  refine lv_aload_n hx hb d_Wt_hang_12 rfl (lv_at hl 0 rfl) ?_
  refine va_get (D := (dC, dI)) (ci := 5) (v := .ref v0) (C := R_Wt) (T := F_Wt) (N := 4) hx hb hw in_Wt hown hK hP 0 rfl rfl 2 (by decide) (hw (Cond.fieldLink "ClauseSearch$Watch" 19 "ClauseSearch$Watch" "head" "[I") k_153) (fun _ h9 => h9) rfl d_Wt_hang_13 ?_
  refine lv_iload_n hx hb d_Wt_hang_16 rfl (lv_at hl 2 rfl) ?_
  refine lv_iload_n hx hb d_Wt_hang_17 rfl (lv_at hl 1 rfl) ?_
  refine va_iast hx hb hK hP hD hS 1 0 rfl rfl (vp_in_nI (by omega) (by omega)) d_Wt_hang_18 (fun H locs hP hD hS => ?_)
  rw [nI_clamp (n := c0) (by omega)] at hP hD
  have hP : va_P (dC, dI) vwCl [(w0, .inr (5, [.ref h0, .ref t0, .ref v0, .ref v1])), (v0, .inl (x0, 802, .inl (upd hd c0 (nI m0)))), (v1, .inl (x1, nn, .inl (upd nx m0 (hd c0))))] H := hP
  have hD : va_D A [(w0, .inr (5, [.ref h0, .ref t0, .ref v0, .ref v1])), (v0, .inl (x0, 802, .inl (upd hd c0 (nI m0)))), (v1, .inl (x1, nn, .inl (upd nx m0 (hd c0))))] := hD
  refine W.widen (k := 0) (n := 0) (by decide) (by decide) ?_
  exact W.vret hx hb hr (fun t ht hW => ⟨⟨(), rfl, trivial, by rw [ht]; exact hP, va_K.moved hW.alike hK, hD⟩, hS.F ht⟩) hS.2.2 d_Wt_hang_19

set_option maxHeartbeats 4000000 in
set_option maxRecDepth 100000 in
/-- otherCode(node) -/
theorem c_Wt_other (l : Launch) (dC : Nat → ClassId) (dI : Nat → Nat → Nat) (h0 : Nat) (g0 : Nat) (g1 : Nat) (g2 : Nat) (w0 : Nat) (t0 : Nat) (v0 : Nat) (v1 : Nat) (y0 : ClassId) (y1 : ClassId) (y2 : ClassId) (sz : Nat) (a : Rx) (m0 : Nat) (hR : Rok a) (hm : m0 < 2 * a.n) : Met l y_Wt_otherCode (wq y_Wt_otherCode prog_7_method_7_code 2 (some .int)) ({ frames := 0, cells := 0, slots := 0, locals := 0 }) (va_Pc [.ref w0, .int (nI m0)] (fun U => U.heap.size = sz ∧ va_P (dC, dI) vwCl [(w0, .inr (5, [.ref h0, .ref t0, .ref v0, .ref v1])), (h0, .inr (2, [.ref g0, .ref g1, .ref g2, .int (nI a.n)])), (g0, .inl (y0, a.la, .inl a.sf)), (g1, .inl (y1, a.la, .inl a.kf)), (g2, .inl (y2, a.lc, .inl a.cf))] U.heap ∧ va_K (dC, dI) vwCl [(y0, .int), (y1, .int), (y2, .int)] U ∧ va_D (fun _ => True) [(w0, .inr (5, [.ref h0, .ref t0, .ref v0, .ref v1])), (h0, .inr (2, [.ref g0, .ref g1, .ref g2, .int (nI a.n)])), (g0, .inl (y0, a.la, .inl a.sf)), (g1, .inl (y1, a.la, .inl a.kf)), (g2, .inl (y2, a.lc, .inl a.cf))])) (va_Qi (fun (r : Int32) (r9 : Int32) => r = r9) (fun (r9 : Int32) t => r9 = nI (a.C (a.S (m0 / 2) + 1 - m0 % 2)) ∧ va_P (dC, dI) vwCl [(w0, .inr (5, [.ref h0, .ref t0, .ref v0, .ref v1])), (h0, .inr (2, [.ref g0, .ref g1, .ref g2, .int (nI a.n)])), (g0, .inl (y0, a.la, .inl a.sf)), (g1, .inl (y1, a.la, .inl a.kf)), (g2, .inl (y2, a.lc, .inl a.cf))] t.heap ∧ va_K (dC, dI) vwCl [(y0, .int), (y1, .int), (y2, .int)] t ∧ va_D (va_A [(w0, .inr (5, [.ref h0, .ref t0, .ref v0, .ref v1])), (h0, .inr (2, [.ref g0, .ref g1, .ref g2, .int (nI a.n)])), (g0, .inl (y0, a.la, .inl a.sf)), (g1, .inl (y1, a.la, .inl a.kf)), (g2, .inl (y2, a.lc, .inl a.cf))] sz) [(w0, .inr (5, [.ref h0, .ref t0, .ref v0, .ref v1])), (h0, .inr (2, [.ref g0, .ref g1, .ref g2, .int (nI a.n)])), (g0, .inl (y0, a.la, .inl a.sf)), (g1, .inl (y1, a.la, .inl a.kf)), (g2, .inl (y2, a.lc, .inl a.cf))]) (va_A [(w0, .inr (5, [.ref h0, .ref t0, .ref v0, .ref v1])), (h0, .inr (2, [.ref g0, .ref g1, .ref g2, .int (nI a.n)])), (g0, .inl (y0, a.la, .inl a.sf)), (g1, .inl (y1, a.la, .inl a.kf)), (g2, .inl (y2, a.lc, .inl a.cf))] sz)) (0) (0) (va_A [(w0, .inr (5, [.ref h0, .ref t0, .ref v0, .ref v1])), (h0, .inr (2, [.ref g0, .ref g1, .ref g2, .int (nI a.n)])), (g0, .inl (y0, a.la, .inl a.sf)), (g1, .inl (y1, a.la, .inl a.kf)), (g2, .inl (y2, a.lc, .inl a.cf))] sz) := by
  refine Met.ofW (cc := prog_7_method_7_code) (maxL := 2) (ret := (some .int)) (by decide) rfl ?_
  intro p e s m args below meth c s₁ B hml hv
  obtain ⟨rfl, hsz, hP, hK, hD0⟩ := hv
  have hx := B.exec
  have hb := B.bytes
  have hr := B.returns
  have hw : ∀ w ∈ bg_W, w.before #[Value.ref w0, Value.int (nI m0)] s = true := fun w h => atoms_spec (ws := (wq y_Wt_otherCode prog_7_method_7_code 2 (some .int))) B.pre w (List.mem_cons_of_mem _ h)
  have hown : s.vm.findClass R_Wt = some m.cls := findClass_of_methodNamed B.named
  have hlocks := B.notSynchronized
  subst hsz
  have hD := hD0.self (sz := s.heap.size)
  generalize hAe : va_A [(w0, .inr (5, [.ref h0, .ref t0, .ref v0, .ref v1])), (h0, .inr (2, [.ref g0, .ref g1, .ref g2, .int (nI a.n)])), (g0, .inl (y0, a.la, .inl a.sf)), (g1, .inl (y1, a.la, .inl a.kf)), (g2, .inl (y2, a.lc, .inl a.cf))] s.heap.size = A at hD ⊢
  have hA : ∀ q : Nat, s.heap.size ≤ q → A q := fun q h => by rw [← hAe]; exact Or.inr h
  have hS : va_S A s.heap s.heap [] := va_S.rf
  have hP : va_P (dC, dI) vwCl [(w0, .inr (5, [.ref h0, .ref t0, .ref v0, .ref v1])), (h0, .inr (2, [.ref g0, .ref g1, .ref g2, .int (nI a.n)])), (g0, .inl (y0, a.la, .inl a.sf)), (g1, .inl (y1, a.la, .inl a.kf)), (g2, .inl (y2, a.lc, .inl a.cf))] s.heap := hP
  have hl := lv_entry ([.ref w0, .int (nI m0)]) (n := 2) (Nat.le_of_ble_eq_true rfl)
  rw [lg_entry_eq]
  generalize (lg_sl ([.ref w0, .int (nI m0)]) ++ List.replicate (2 - (lg_sl ([.ref w0, .int (nI m0)])).length) Slot.unset).toArray = ls at hl ⊢
  have hl : lv_has ls 2 [(0, .ref w0), (1, .int (nI m0))] := hl
  obtain ⟨H, hH⟩ : ∃ H : Heap, H = s.heap := ⟨_, rfl⟩
  rw [← hH] at hP
  have hS : va_S A s.heap H [] := by rw [hH]; exact va_S.rf
  show W p l e _ s m _ below meth c s.heap [] 0 0 _ _
  rw [← hH]
  obtain ⟨i1, i2, i3, i4, i5, i6⟩ := hR.inb (r := m0 / 2) (by omega)
  refine lv_aload_n hx hb d_Wt_otherCode_0 rfl (lv_at hl 0 rfl) ?_
  refine va_get (D := (dC, dI)) (ci := 5) (v := .ref h0) (C := R_Wt) (T := F_Wt) (N := 4) hx hb hw in_Wt hown hK hP 0 rfl rfl 0 (by decide) (hw (Cond.fieldLink "ClauseSearch$Watch" 9 "ClauseSearch$Watch" "rows" "LClauseSearch$Rows;") k_151) (fun _ h9 => h9) rfl d_Wt_otherCode_1 ?_
  refine va_getN (D := (dC, dI)) (ci := 2) (v := .ref g2) (C := R_Rw) (T := F_Rw) (N := 4) hx hb hw in_Rw hown hK hP 1 rfl rfl 2 (by decide) (hw (Cond.fieldLinkNest "ClauseSearch$Watch" 36 "ClauseSearch$Rows" "codes" "[I" "ClauseSearch") k_69) (fun _ h9 => h9) rfl d_Wt_otherCode_4 ?_
  refine lv_aload_n hx hb d_Wt_otherCode_7 rfl (lv_at hl 0 rfl) ?_
  refine va_get (D := (dC, dI)) (ci := 5) (v := .ref h0) (C := R_Wt) (T := F_Wt) (N := 4) hx hb hw in_Wt hown hK hP 0 rfl rfl 0 (by decide) (hw (Cond.fieldLink "ClauseSearch$Watch" 9 "ClauseSearch$Watch" "rows" "LClauseSearch$Rows;") k_151) (fun _ h9 => h9) rfl d_Wt_otherCode_8 ?_
  refine va_getN (D := (dC, dI)) (ci := 2) (v := .ref g0) (C := R_Rw) (T := F_Rw) (N := 4) hx hb hw in_Rw hown hK hP 1 rfl rfl 0 (by decide) (hw (Cond.fieldLinkNest "ClauseSearch$Watch" 41 "ClauseSearch$Rows" "start" "[I" "ClauseSearch") k_61) (fun _ h9 => h9) rfl d_Wt_otherCode_11 ?_
  refine lv_iload_n hx hb d_Wt_otherCode_14 rfl (lv_at hl 1 rfl) ?_
  refine lv_iconst (v := nI 1) hx hb d_Wt_otherCode_15 (by decide) ?_
  refine lv_ishr hx hb d_Wt_otherCode_16 ?_
  refine lv_topi (fun y_1 ey_1 => ?_)
  obtain rfl : y_1 = nI (m0 / 2) := ey_1.trans (ni_shr (by omega))
  refine va_iald hx hb hK hP 2 0 rfl rfl (vp_in_nI (by omega) (by omega)) d_Wt_otherCode_17 ?_
  refine lv_topi (fun y_2 ey_2 => ?_)
  rw [nI_clamp (by omega)] at ey_2
  rw [hR.sf _ (by omega)] at ey_2
  subst ey_2
  refine lv_iconst (v := nI 1) hx hb d_Wt_otherCode_18 (by decide) ?_
  refine lv_iadd hx hb d_Wt_otherCode_19 ?_
  refine lv_topi (fun y_3 ey_3 => ?_)
  obtain rfl : y_3 = nI (a.S (m0 / 2) + 1) := ey_3.trans (nI_add (a.S (m0 / 2)) 1)
  refine lv_iload_n hx hb d_Wt_otherCode_20 rfl (lv_at hl 1 rfl) ?_
  refine lv_iconst (v := nI 1) hx hb d_Wt_otherCode_21 (by decide) ?_
  refine lv_iand hx hb d_Wt_otherCode_22 ?_
  refine lv_topi (fun y_4 ey_4 => ?_)
  obtain rfl : y_4 = nI (m0 % 2) := ey_4.trans (ni_and m0 (by omega))
  refine lv_isub hx hb d_Wt_otherCode_23 ?_
  refine lv_topi (fun y_5 ey_5 => ?_)
  obtain rfl : y_5 = nI (a.S (m0 / 2) + 1 - (m0 % 2)) := ey_5.trans (pk_sub (by omega))
  refine va_iald hx hb hK hP 4 2 rfl rfl (vp_in_nI (by omega) (by omega)) d_Wt_otherCode_24 ?_
  refine lv_topi (fun y_6 ey_6 => ?_)
  rw [nI_clamp (by omega)] at ey_6
  rw [(hR.cf _ (by omega)).1] at ey_6
  subst ey_6
  have hK := hK.sub (tys' := [(y0, .int), (y1, .int), (y2, .int)]) [0, 1, 2] rfl
  refine W.widen (k := 0) (n := 0) (by decide) (by decide) ?_
  exact W.iret (v := nI (a.C (a.S (m0 / 2) + 1 - m0 % 2))) hx hb hr (fun t ht hW => ⟨⟨nI (a.C (a.S (m0 / 2) + 1 - m0 % 2)), nI (a.C (a.S (m0 / 2) + 1 - m0 % 2)), rfl, rfl, rfl, by rw [ht]; exact hP, va_K.moved hW.alike hK, hD⟩, hS.F ht⟩) hS.2.2 d_Wt_otherCode_25

set_option maxHeartbeats 4000000 in
set_option maxRecDepth 100000 in
/-- the loop of waitsElsewhere -/
theorem l_waits {p : Program} {l : Launch} {e : Env} {R : Room} {s : State} {m : MethodId} {args : Array Value} {below : List Frame} {meth : Method} {c : Code} {dC : Nat → ClassId} {dI : Nat → Nat → Nat} {A : Nat → Prop} {Q : State → Prop} {cells slots : Nat} {H0 : Heap} {h0 : Nat} {g0 : Nat} {g1 : Nat} {g2 : Nat} {t0 : Nat} {u0 : Nat} {u1 : Nat} {u2 : Nat} {u3 : Nat} {u4 : Nat} {w0 : Nat} {v0 : Nat} {v1 : Nat} {x0 : ClassId} {x1 : ClassId} {y0 : ClassId} {y1 : ClassId} {y2 : ClassId} {z0 : ClassId} {z1 : ClassId} {z2 : ClassId} {z3 : ClassId} {z4 : ClassId} {a : Rx} {d : Tx} {w : Wx} {m0 : Nat} (hx : p.tables.exec = Jvm.exec) (hb : c.code = prog_7_method_8_code) (hml : c.maxLocals = 7) (hw : ∀ w ∈ bg_W, w.before args s = true) (hown : s.vm.findClass R_Wt = some m.cls) (hK : va_K (dC, dI) vwCl [(y0, .int), (y1, .int), (y2, .int), (z0, .byte), (z1, .int), (z2, .int), (z3, .int), (z4, .int), (x0, .int), (x1, .int)] s) (hA : ∀ q : Nat, H0.size ≤ q → A q) (hR1 : 1 ≤ R.frames) (hR2 : 1 ≤ R.locals) (hR3 : cells ≤ R.cells) (hR4 : slots ≤ R.slots) (hR : Rok a) (hm : m0 < 2 * a.n)
    (kk86 : ∀ (i : Nat) (H : Heap) (locs : List Loc) (ls : Array Slot), (a.S (m0 / 2) + 2 ≤ i) → (i < a.S (m0 / 2 + 1)) → (d.tv (a.C i) ≠ 2) → (a.C i < 802) → va_P (dC, dI) vwCl [(h0, .inr (2, [.ref g0, .ref g1, .ref g2, .int (nI a.n)])), (g0, .inl (y0, a.la, .inl a.sf)), (g1, .inl (y1, a.la, .inl a.kf)), (g2, .inl (y2, a.lc, .inl a.cf)), (t0, .inr (4, [.ref u0, .ref u1, .ref u2, .ref u3, .ref u4, .int (nI d.k), .int (nI d.fo), .int (nI d.lev), .int (nI d.low)])), (u0, .inl (z0, 802, .inl d.tv)), (u1, .inl (z1, 401, .inl d.ov)), (u2, .inl (z2, 401, .inl d.lv)), (u3, .inl (z3, 401, .inl d.rv)), (u4, .inl (z4, 402, .inl d.sv)), (w0, .inr (5, [.ref h0, .ref t0, .ref v0, .ref v1])), (v0, .inl (x0, 802, .inl w.hd)), (v1, .inl (x1, w.nn, .inl w.nx))] H → va_D A [(h0, .inr (2, [.ref g0, .ref g1, .ref g2, .int (nI a.n)])), (g0, .inl (y0, a.la, .inl a.sf)), (g1, .inl (y1, a.la, .inl a.kf)), (g2, .inl (y2, a.lc, .inl a.cf)), (t0, .inr (4, [.ref u0, .ref u1, .ref u2, .ref u3, .ref u4, .int (nI d.k), .int (nI d.fo), .int (nI d.lev), .int (nI d.low)])), (u0, .inl (z0, 802, .inl d.tv)), (u1, .inl (z1, 401, .inl d.ov)), (u2, .inl (z2, 401, .inl d.lv)), (u3, .inl (z3, 401, .inl d.rv)), (u4, .inl (z4, 402, .inl d.sv)), (w0, .inr (5, [.ref h0, .ref t0, .ref v0, .ref v1])), (v0, .inl (x0, 802, .inl w.hd)), (v1, .inl (x1, w.nn, .inl w.nx))] → va_S A H0 H locs → lv_has ls 7 [(0, .ref w0), (1, .int (nI m0)), (2, .ref g2), (3, .int (nI (a.S (m0 / 2)))), (4, .int (nI (a.S (m0 / 2 + 1)))), (5, .int (nI i)), (6, .int (nI (a.C i)))] → W p l e R s m args below meth c H locs cells slots Q (F0 m 86 ls []))
    (kk121 : ∀ (H : Heap) (locs : List Loc) (ls : Array Slot), (∀ j, a.S (m0 / 2) + 2 ≤ j → j < a.S (m0 / 2 + 1) → d.tv (a.C j) = 2) → va_P (dC, dI) vwCl [(h0, .inr (2, [.ref g0, .ref g1, .ref g2, .int (nI a.n)])), (g0, .inl (y0, a.la, .inl a.sf)), (g1, .inl (y1, a.la, .inl a.kf)), (g2, .inl (y2, a.lc, .inl a.cf)), (t0, .inr (4, [.ref u0, .ref u1, .ref u2, .ref u3, .ref u4, .int (nI d.k), .int (nI d.fo), .int (nI d.lev), .int (nI d.low)])), (u0, .inl (z0, 802, .inl d.tv)), (u1, .inl (z1, 401, .inl d.ov)), (u2, .inl (z2, 401, .inl d.lv)), (u3, .inl (z3, 401, .inl d.rv)), (u4, .inl (z4, 402, .inl d.sv)), (w0, .inr (5, [.ref h0, .ref t0, .ref v0, .ref v1])), (v0, .inl (x0, 802, .inl w.hd)), (v1, .inl (x1, w.nn, .inl w.nx))] H → va_D A [(h0, .inr (2, [.ref g0, .ref g1, .ref g2, .int (nI a.n)])), (g0, .inl (y0, a.la, .inl a.sf)), (g1, .inl (y1, a.la, .inl a.kf)), (g2, .inl (y2, a.lc, .inl a.cf)), (t0, .inr (4, [.ref u0, .ref u1, .ref u2, .ref u3, .ref u4, .int (nI d.k), .int (nI d.fo), .int (nI d.lev), .int (nI d.low)])), (u0, .inl (z0, 802, .inl d.tv)), (u1, .inl (z1, 401, .inl d.ov)), (u2, .inl (z2, 401, .inl d.lv)), (u3, .inl (z3, 401, .inl d.rv)), (u4, .inl (z4, 402, .inl d.sv)), (w0, .inr (5, [.ref h0, .ref t0, .ref v0, .ref v1])), (v0, .inl (x0, 802, .inl w.hd)), (v1, .inl (x1, w.nn, .inl w.nx))] → va_S A H0 H locs → lv_has ls 7 [(0, .ref w0), (1, .int (nI m0)), (2, .ref g2), (3, .int (nI (a.S (m0 / 2)))), (4, .int (nI (a.S (m0 / 2 + 1))))] → W p l e R s m args below meth c H locs cells slots Q (F0 m 121 ls []))
    : ∀ (f : Nat) (i : Nat) (H : Heap) (locs : List Loc) (ls : Array Slot), a.S (m0 / 2 + 1) - i < f → (a.S (m0 / 2) + 2 ≤ i) → (i ≤ a.S (m0 / 2 + 1)) → (∀ j, a.S (m0 / 2) + 2 ≤ j → j < i → d.tv (a.C j) = 2) → va_P (dC, dI) vwCl [(h0, .inr (2, [.ref g0, .ref g1, .ref g2, .int (nI a.n)])), (g0, .inl (y0, a.la, .inl a.sf)), (g1, .inl (y1, a.la, .inl a.kf)), (g2, .inl (y2, a.lc, .inl a.cf)), (t0, .inr (4, [.ref u0, .ref u1, .ref u2, .ref u3, .ref u4, .int (nI d.k), .int (nI d.fo), .int (nI d.lev), .int (nI d.low)])), (u0, .inl (z0, 802, .inl d.tv)), (u1, .inl (z1, 401, .inl d.ov)), (u2, .inl (z2, 401, .inl d.lv)), (u3, .inl (z3, 401, .inl d.rv)), (u4, .inl (z4, 402, .inl d.sv)), (w0, .inr (5, [.ref h0, .ref t0, .ref v0, .ref v1])), (v0, .inl (x0, 802, .inl w.hd)), (v1, .inl (x1, w.nn, .inl w.nx))] H → va_D A [(h0, .inr (2, [.ref g0, .ref g1, .ref g2, .int (nI a.n)])), (g0, .inl (y0, a.la, .inl a.sf)), (g1, .inl (y1, a.la, .inl a.kf)), (g2, .inl (y2, a.lc, .inl a.cf)), (t0, .inr (4, [.ref u0, .ref u1, .ref u2, .ref u3, .ref u4, .int (nI d.k), .int (nI d.fo), .int (nI d.lev), .int (nI d.low)])), (u0, .inl (z0, 802, .inl d.tv)), (u1, .inl (z1, 401, .inl d.ov)), (u2, .inl (z2, 401, .inl d.lv)), (u3, .inl (z3, 401, .inl d.rv)), (u4, .inl (z4, 402, .inl d.sv)), (w0, .inr (5, [.ref h0, .ref t0, .ref v0, .ref v1])), (v0, .inl (x0, 802, .inl w.hd)), (v1, .inl (x1, w.nn, .inl w.nx))] → va_S A H0 H locs → lv_has ls 7 [(0, .ref w0), (1, .int (nI m0)), (2, .ref g2), (3, .int (nI (a.S (m0 / 2)))), (4, .int (nI (a.S (m0 / 2 + 1)))), (5, .int (nI i))] → W p l e R s m args below meth c H locs cells slots Q (F0 m 59 ls []) := by
  intro f
  induction f with
  | zero => intro i H locs ls q0 q1 q2 q3 hP hD hS hl; exact absurd q0 (Nat.not_lt_zero _)
  | succ f ih =>
    intro i H locs ls q0 q1 q2 q3 hP hD hS hl
    obtain ⟨i1, i2, i3, i4, i5, i6⟩ := hR.inb (r := m0 / 2) (by omega)
    refine lv_iload hx hb d_Wt_waitsElsewhere_59 (lv_at hl 5 rfl) ?_
    refine lv_iload hx hb d_Wt_waitsElsewhere_61 (lv_at hl 4 rfl) ?_
    refine lv_icmp_ge (tgt := 121) hx hb d_Wt_waitsElsewhere_63 (by decide) (fun c_63 => ?_) (fun c_63 => ?_)
    · have c_63 : a.S (m0 / 2 + 1) ≤ i := (nI_leI (a := a.S (m0 / 2 + 1)) (b := i) (by omega) (by omega)).mp c_63
      exact kk121  _ _ ls (by rw [show a.S (m0 / 2 + 1) = i by omega]; exact q3) hP hD hS (lv_sub hl [0, 1, 2, 3, 4] rfl)
    · have c_63 : ¬ (a.S (m0 / 2 + 1) ≤ i) := fun qq9 => c_63 ((nI_leI (a := a.S (m0 / 2 + 1)) (b := i) (by omega) (by omega)).mpr qq9)
      refine lv_aload_n hx hb d_Wt_waitsElsewhere_66 rfl (lv_at hl 2 rfl) ?_
      refine lv_iload hx hb d_Wt_waitsElsewhere_67 (lv_at hl 5 rfl) ?_
      refine va_iald hx hb hK hP 3 2 rfl rfl (vp_in_nI (by omega) (by omega)) d_Wt_waitsElsewhere_69 ?_
      refine lv_topi (fun y_1 ey_1 => ?_)
      rw [nI_clamp (by omega)] at ey_1
      have j1 := (hR.cf i (by omega)).2
      rw [(hR.cf _ (by omega)).1] at ey_1
      subst ey_1
      refine lv_istore (lv' := [(6, .int (nI (a.C i))), (0, .ref w0), (1, .int (nI m0)), (2, .ref g2), (3, .int (nI (a.S (m0 / 2)))), (4, .int (nI (a.S (m0 / 2 + 1)))), (5, .int (nI i))]) hx hb d_Wt_waitsElsewhere_70 hl (by decide) rfl (fun ls hl => ?_)
      refine lv_aload_n hx hb d_Wt_waitsElsewhere_72 rfl (lv_at hl 1 rfl) ?_
      refine va_get (D := (dC, dI)) (ci := 5) (v := .ref t0) (C := R_Wt) (T := F_Wt) (N := 4) hx hb hw in_Wt hown hK hP 10 rfl rfl 1 (by decide) (hw (Cond.fieldLink "ClauseSearch$Watch" 15 "ClauseSearch$Watch" "trail" "LClauseSearch$Trail;") k_152) (fun _ h9 => h9) rfl d_Wt_waitsElsewhere_73 ?_
      refine va_getN (D := (dC, dI)) (ci := 4) (v := .ref u0) (C := R_Tr) (T := F_Tr) (N := 9) hx hb hw in_Tr hown hK hP 4 rfl rfl 0 (by decide) (hw (Cond.fieldLinkNest "ClauseSearch$Watch" 76 "ClauseSearch$Trail" "truth" "[B" "ClauseSearch") k_99) (fun _ h9 => h9) rfl d_Wt_waitsElsewhere_76 ?_
      refine lv_iload hx hb d_Wt_waitsElsewhere_79 (lv_at hl 0 rfl) ?_
      refine va_bald hx hb hK hP 5 3 rfl rfl (vp_in_nI (by omega) (by omega)) d_Wt_waitsElsewhere_81 ?_
      refine lv_topi (fun y_2 ey_2 => ?_)
      rw [nI_clamp (by omega)] at ey_2
      subst ey_2
      refine lv_iconst (v := 2) hx hb d_Wt_waitsElsewhere_82 (by decide) ?_
      refine lv_icmp_eq (tgt := 115) hx hb d_Wt_waitsElsewhere_83 (by decide) (fun c_83 => ?_) (fun c_83 => ?_)
      · refine lv_iinc (v := nI (i + 1)) (lv' := [(5, .int (nI (i + 1))), (6, .int (nI (a.C i))), (0, .ref w0), (1, .int (nI m0)), (2, .ref g2), (3, .int (nI (a.S (m0 / 2)))), (4, .int (nI (a.S (m0 / 2 + 1))))]) hx hb d_Wt_waitsElsewhere_115 hl (k := 6) rfl (nI_1 i) (by decide) rfl (fun ls hl => ?_)
        refine lv_goto (tgt := 59) hx hb d_Wt_waitsElsewhere_118 (by decide) ?_
        exact ih (i + 1) _ _ ls (by omega) (by omega) (by omega) (fun j hj1 hj2 => by rcases Nat.lt_or_eq_of_le (Nat.le_of_lt_succ hj2) with q | q; exact q3 j hj1 q; rw [q]; exact c_83) hP hD hS (lv_sub hl [2, 3, 4, 5, 6, 0] rfl)
      · exact kk86 i _ _ ls q1 (by omega) c_83 j1.2 hP hD hS (lv_sub hl [1, 2, 3, 4, 5, 6, 0] rfl)

set_option maxHeartbeats 4000000 in
set_option maxRecDepth 100000 in
/-- waitsElsewhere(node) -/
theorem c_Wt_waits (l : Launch) (dC : Nat → ClassId) (dI : Nat → Nat → Nat) (h0 : Nat) (g0 : Nat) (g1 : Nat) (g2 : Nat) (t0 : Nat) (u0 : Nat) (u1 : Nat) (u2 : Nat) (u3 : Nat) (u4 : Nat) (w0 : Nat) (v0 : Nat) (v1 : Nat) (x0 : ClassId) (x1 : ClassId) (y0 : ClassId) (y1 : ClassId) (y2 : ClassId) (z0 : ClassId) (z1 : ClassId) (z2 : ClassId) (z3 : ClassId) (z4 : ClassId) (sz : Nat) (a : Rx) (d : Tx) (w : Wx) (m0 : Nat) (hR : Rok a) (hm : m0 < 2 * a.n) (hmn : m0 < w.nn) (hnn : w.nn ≤ 1048576) : Met l y_Wt_waitsElsewhere (wq y_Wt_waitsElsewhere prog_7_method_8_code 7 (some .boolean)) ({ frames := 1, cells := 0, slots := 0, locals := 22 }) (va_Pc [.ref w0, .int (nI m0)] (fun U => U.heap.size = sz ∧ va_P (dC, dI) vwCl [(h0, .inr (2, [.ref g0, .ref g1, .ref g2, .int (nI a.n)])), (g0, .inl (y0, a.la, .inl a.sf)), (g1, .inl (y1, a.la, .inl a.kf)), (g2, .inl (y2, a.lc, .inl a.cf)), (t0, .inr (4, [.ref u0, .ref u1, .ref u2, .ref u3, .ref u4, .int (nI d.k), .int (nI d.fo), .int (nI d.lev), .int (nI d.low)])), (u0, .inl (z0, 802, .inl d.tv)), (u1, .inl (z1, 401, .inl d.ov)), (u2, .inl (z2, 401, .inl d.lv)), (u3, .inl (z3, 401, .inl d.rv)), (u4, .inl (z4, 402, .inl d.sv)), (w0, .inr (5, [.ref h0, .ref t0, .ref v0, .ref v1])), (v0, .inl (x0, 802, .inl w.hd)), (v1, .inl (x1, w.nn, .inl w.nx))] U.heap ∧ va_K (dC, dI) vwCl [(y0, .int), (y1, .int), (y2, .int), (z0, .byte), (z1, .int), (z2, .int), (z3, .int), (z4, .int), (x0, .int), (x1, .int)] U ∧ va_D (fun _ => True) [(h0, .inr (2, [.ref g0, .ref g1, .ref g2, .int (nI a.n)])), (g0, .inl (y0, a.la, .inl a.sf)), (g1, .inl (y1, a.la, .inl a.kf)), (g2, .inl (y2, a.lc, .inl a.cf)), (t0, .inr (4, [.ref u0, .ref u1, .ref u2, .ref u3, .ref u4, .int (nI d.k), .int (nI d.fo), .int (nI d.lev), .int (nI d.low)])), (u0, .inl (z0, 802, .inl d.tv)), (u1, .inl (z1, 401, .inl d.ov)), (u2, .inl (z2, 401, .inl d.lv)), (u3, .inl (z3, 401, .inl d.rv)), (u4, .inl (z4, 402, .inl d.sv)), (w0, .inr (5, [.ref h0, .ref t0, .ref v0, .ref v1])), (v0, .inl (x0, 802, .inl w.hd)), (v1, .inl (x1, w.nn, .inl w.nx))])) (va_Qi (fun (r : Int32) (r9 : Int32) => r = r9) (fun (r9 : Int32) t => ∃ (b : Rx) (v : Wx), ((r9 = 0 ∧ (d.tv (a.C (a.S (m0 / 2) + 1 - m0 % 2)) = 1 ∨ ∀ j, a.S (m0 / 2) + 2 ≤ j → j < a.S (m0 / 2 + 1) → d.tv (a.C j) = 2) ∧ b = a ∧ v = w) ∨ (r9 = 1 ∧ ∃ i, a.S (m0 / 2) + 2 ≤ i ∧ i < a.S (m0 / 2 + 1) ∧ d.tv (a.C i) ≠ 2 ∧ d.tv (a.C (a.S (m0 / 2) + 1 - m0 % 2)) ≠ 1 ∧ b = (Swap a i (a.S (m0 / 2) + m0 % 2)) ∧ v = (Hang w m0 (a.C i)))) ∧ va_P (dC, dI) vwCl [(h0, .inr (2, [.ref g0, .ref g1, .ref g2, .int (nI b.n)])), (g0, .inl (y0, b.la, .inl b.sf)), (g1, .inl (y1, b.la, .inl b.kf)), (g2, .inl (y2, b.lc, .inl b.cf)), (t0, .inr (4, [.ref u0, .ref u1, .ref u2, .ref u3, .ref u4, .int (nI d.k), .int (nI d.fo), .int (nI d.lev), .int (nI d.low)])), (u0, .inl (z0, 802, .inl d.tv)), (u1, .inl (z1, 401, .inl d.ov)), (u2, .inl (z2, 401, .inl d.lv)), (u3, .inl (z3, 401, .inl d.rv)), (u4, .inl (z4, 402, .inl d.sv)), (w0, .inr (5, [.ref h0, .ref t0, .ref v0, .ref v1])), (v0, .inl (x0, 802, .inl v.hd)), (v1, .inl (x1, v.nn, .inl v.nx))] t.heap ∧ va_K (dC, dI) vwCl [(y0, .int), (y1, .int), (y2, .int), (z0, .byte), (z1, .int), (z2, .int), (z3, .int), (z4, .int), (x0, .int), (x1, .int)] t ∧ va_D (va_A [(h0, .inr (2, [.ref g0, .ref g1, .ref g2, .int (nI a.n)])), (g0, .inl (y0, a.la, .inl a.sf)), (g1, .inl (y1, a.la, .inl a.kf)), (g2, .inl (y2, a.lc, .inl a.cf)), (t0, .inr (4, [.ref u0, .ref u1, .ref u2, .ref u3, .ref u4, .int (nI d.k), .int (nI d.fo), .int (nI d.lev), .int (nI d.low)])), (u0, .inl (z0, 802, .inl d.tv)), (u1, .inl (z1, 401, .inl d.ov)), (u2, .inl (z2, 401, .inl d.lv)), (u3, .inl (z3, 401, .inl d.rv)), (u4, .inl (z4, 402, .inl d.sv)), (w0, .inr (5, [.ref h0, .ref t0, .ref v0, .ref v1])), (v0, .inl (x0, 802, .inl w.hd)), (v1, .inl (x1, w.nn, .inl w.nx))] sz) [(h0, .inr (2, [.ref g0, .ref g1, .ref g2, .int (nI b.n)])), (g0, .inl (y0, b.la, .inl b.sf)), (g1, .inl (y1, b.la, .inl b.kf)), (g2, .inl (y2, b.lc, .inl b.cf)), (t0, .inr (4, [.ref u0, .ref u1, .ref u2, .ref u3, .ref u4, .int (nI d.k), .int (nI d.fo), .int (nI d.lev), .int (nI d.low)])), (u0, .inl (z0, 802, .inl d.tv)), (u1, .inl (z1, 401, .inl d.ov)), (u2, .inl (z2, 401, .inl d.lv)), (u3, .inl (z3, 401, .inl d.rv)), (u4, .inl (z4, 402, .inl d.sv)), (w0, .inr (5, [.ref h0, .ref t0, .ref v0, .ref v1])), (v0, .inl (x0, 802, .inl v.hd)), (v1, .inl (x1, v.nn, .inl v.nx))]) (va_A [(h0, .inr (2, [.ref g0, .ref g1, .ref g2, .int (nI a.n)])), (g0, .inl (y0, a.la, .inl a.sf)), (g1, .inl (y1, a.la, .inl a.kf)), (g2, .inl (y2, a.lc, .inl a.cf)), (t0, .inr (4, [.ref u0, .ref u1, .ref u2, .ref u3, .ref u4, .int (nI d.k), .int (nI d.fo), .int (nI d.lev), .int (nI d.low)])), (u0, .inl (z0, 802, .inl d.tv)), (u1, .inl (z1, 401, .inl d.ov)), (u2, .inl (z2, 401, .inl d.lv)), (u3, .inl (z3, 401, .inl d.rv)), (u4, .inl (z4, 402, .inl d.sv)), (w0, .inr (5, [.ref h0, .ref t0, .ref v0, .ref v1])), (v0, .inl (x0, 802, .inl w.hd)), (v1, .inl (x1, w.nn, .inl w.nx))] sz)) (0) (0) (va_A [(h0, .inr (2, [.ref g0, .ref g1, .ref g2, .int (nI a.n)])), (g0, .inl (y0, a.la, .inl a.sf)), (g1, .inl (y1, a.la, .inl a.kf)), (g2, .inl (y2, a.lc, .inl a.cf)), (t0, .inr (4, [.ref u0, .ref u1, .ref u2, .ref u3, .ref u4, .int (nI d.k), .int (nI d.fo), .int (nI d.lev), .int (nI d.low)])), (u0, .inl (z0, 802, .inl d.tv)), (u1, .inl (z1, 401, .inl d.ov)), (u2, .inl (z2, 401, .inl d.lv)), (u3, .inl (z3, 401, .inl d.rv)), (u4, .inl (z4, 402, .inl d.sv)), (w0, .inr (5, [.ref h0, .ref t0, .ref v0, .ref v1])), (v0, .inl (x0, 802, .inl w.hd)), (v1, .inl (x1, w.nn, .inl w.nx))] sz) := by
  refine Met.ofW (cc := prog_7_method_8_code) (maxL := 7) (ret := (some .boolean)) (by decide) rfl ?_
  intro p e s m args below meth c s₁ B hml hv
  obtain ⟨rfl, hsz, hP, hK, hD0⟩ := hv
  have hx := B.exec
  have hb := B.bytes
  have hr := B.returns
  have hw : ∀ w ∈ bg_W, w.before #[Value.ref w0, Value.int (nI m0)] s = true := fun w h => atoms_spec (ws := (wq y_Wt_waitsElsewhere prog_7_method_8_code 7 (some .boolean))) B.pre w (List.mem_cons_of_mem _ h)
  have hown : s.vm.findClass R_Wt = some m.cls := findClass_of_methodNamed B.named
  have hlocks := B.notSynchronized
  subst hsz
  have hD := hD0.self (sz := s.heap.size)
  generalize hAe : va_A [(h0, .inr (2, [.ref g0, .ref g1, .ref g2, .int (nI a.n)])), (g0, .inl (y0, a.la, .inl a.sf)), (g1, .inl (y1, a.la, .inl a.kf)), (g2, .inl (y2, a.lc, .inl a.cf)), (t0, .inr (4, [.ref u0, .ref u1, .ref u2, .ref u3, .ref u4, .int (nI d.k), .int (nI d.fo), .int (nI d.lev), .int (nI d.low)])), (u0, .inl (z0, 802, .inl d.tv)), (u1, .inl (z1, 401, .inl d.ov)), (u2, .inl (z2, 401, .inl d.lv)), (u3, .inl (z3, 401, .inl d.rv)), (u4, .inl (z4, 402, .inl d.sv)), (w0, .inr (5, [.ref h0, .ref t0, .ref v0, .ref v1])), (v0, .inl (x0, 802, .inl w.hd)), (v1, .inl (x1, w.nn, .inl w.nx))] s.heap.size = A at hD ⊢
  have hA : ∀ q : Nat, s.heap.size ≤ q → A q := fun q h => by rw [← hAe]; exact Or.inr h
  have hS : va_S A s.heap s.heap [] := va_S.rf
  have hP : va_P (dC, dI) vwCl [(h0, .inr (2, [.ref g0, .ref g1, .ref g2, .int (nI a.n)])), (g0, .inl (y0, a.la, .inl a.sf)), (g1, .inl (y1, a.la, .inl a.kf)), (g2, .inl (y2, a.lc, .inl a.cf)), (t0, .inr (4, [.ref u0, .ref u1, .ref u2, .ref u3, .ref u4, .int (nI d.k), .int (nI d.fo), .int (nI d.lev), .int (nI d.low)])), (u0, .inl (z0, 802, .inl d.tv)), (u1, .inl (z1, 401, .inl d.ov)), (u2, .inl (z2, 401, .inl d.lv)), (u3, .inl (z3, 401, .inl d.rv)), (u4, .inl (z4, 402, .inl d.sv)), (w0, .inr (5, [.ref h0, .ref t0, .ref v0, .ref v1])), (v0, .inl (x0, 802, .inl w.hd)), (v1, .inl (x1, w.nn, .inl w.nx))] s.heap := hP
  have hl := lv_entry ([.ref w0, .int (nI m0)]) (n := 7) (Nat.le_of_ble_eq_true rfl)
  rw [lg_entry_eq]
  generalize (lg_sl ([.ref w0, .int (nI m0)]) ++ List.replicate (7 - (lg_sl ([.ref w0, .int (nI m0)])).length) Slot.unset).toArray = ls at hl ⊢
  have hl : lv_has ls 7 [(0, .ref w0), (1, .int (nI m0))] := hl
  obtain ⟨H, hH⟩ : ∃ H : Heap, H = s.heap := ⟨_, rfl⟩
  rw [← hH] at hP
  have hS : va_S A s.heap H [] := by rw [hH]; exact va_S.rf
  show W p l e _ s m _ below meth c s.heap [] 0 0 _ _
  rw [← hH]
  obtain ⟨i1, i2, i3, i4, i5, i6⟩ := hR.inb (r := m0 / 2) (by omega)
  refine lv_aload_n hx hb d_Wt_waitsElsewhere_0 rfl (lv_at hl 0 rfl) ?_
  refine va_get (D := (dC, dI)) (ci := 5) (v := .ref t0) (C := R_Wt) (T := F_Wt) (N := 4) hx hb hw in_Wt hown hK hP 10 rfl rfl 1 (by decide) (hw (Cond.fieldLink "ClauseSearch$Watch" 15 "ClauseSearch$Watch" "trail" "LClauseSearch$Trail;") k_152) (fun _ h9 => h9) rfl d_Wt_waitsElsewhere_1 ?_
  refine va_getN (D := (dC, dI)) (ci := 4) (v := .ref u0) (C := R_Tr) (T := F_Tr) (N := 9) hx hb hw in_Tr hown hK hP 4 rfl rfl 0 (by decide) (hw (Cond.fieldLinkNest "ClauseSearch$Watch" 76 "ClauseSearch$Trail" "truth" "[B" "ClauseSearch") k_99) (fun _ h9 => h9) rfl d_Wt_waitsElsewhere_4 ?_
  refine lv_aload_n hx hb d_Wt_waitsElsewhere_7 rfl (lv_at hl 0 rfl) ?_
  refine lv_iload_n hx hb d_Wt_waitsElsewhere_8 rfl (lv_at hl 1 rfl) ?_
  have hPc := hP.sub (ws' := [(w0, .inr (5, [.ref h0, .ref t0, .ref v0, .ref v1])), (h0, .inr (2, [.ref g0, .ref g1, .ref g2, .int (nI a.n)])), (g0, .inl (y0, a.la, .inl a.sf)), (g1, .inl (y1, a.la, .inl a.kf)), (g2, .inl (y2, a.lc, .inl a.cf))]) [10, 0, 1, 2, 3] rfl
  have hDc := hD.sub (ws' := [(w0, .inr (5, [.ref h0, .ref t0, .ref v0, .ref v1])), (h0, .inr (2, [.ref g0, .ref g1, .ref g2, .int (nI a.n)])), (g0, .inl (y0, a.la, .inl a.sf)), (g1, .inl (y1, a.la, .inl a.kf)), (g2, .inl (y2, a.lc, .inl a.cf))]) [10, 0, 1, 2, 3] (by decide) rfl
  have hKc := hK.sub (tys' := [(y0, .int), (y1, .int), (y2, .int)]) [0, 1, 2] rfl
  have hFc := va_free (wc := [(w0, .inr (5, [.ref h0, .ref t0, .ref v0, .ref v1])), (h0, .inr (2, [.ref g0, .ref g1, .ref g2, .int (nI a.n)])), (g0, .inl (y0, a.la, .inl a.sf)), (g1, .inl (y1, a.la, .inl a.kf)), (g2, .inl (y2, a.lc, .inl a.cf))]) hD hS hA [10, 0, 1, 2, 3] rfl
  refine va_calli (va_runV (As := [.int (nI m0)]) (rest := [.ref u0]) ⟨hx, hb, hml, hown, hw⟩ (c_Wt_other l dC dI h0 g0 g1 g2 w0 t0 v0 v1 y0 y1 y2 H.size a m0 hR hm) (cb_V (C := R_Wt) 1 hw k_327 k_33 k_324 k_326 k_5 rfl rfl (by decide +kernel) ⟨Nat.le_of_ble_eq_true rfl, Nat.le_of_ble_eq_true rfl⟩) ⟨fun a U g mk q => by obtain ⟨q0, q1, qP, qK, qD⟩ := q; exact ⟨q0, q1, qP, va_K.moved (u := U) (U := U.calling g mk a) (Vm.Alike.refl U.vm) qK, qD⟩, va_recv hKc hPc (ci := 5) (q0 := 0) rfl rfl, fun U hU hW => ⟨rfl, by rw [hU], by rw [hU]; exact hPc, va_K.moved hW.alike hKc, hDc.weaken (fun _ _ _ _ => trivial)⟩⟩ rfl rfl hl.1 rfl (lv_room (Nat.le_of_ble_eq_true rfl)) d_Wt_waitsElsewhere_9 ⟨Nat.le_of_ble_eq_true rfl, Nat.le_of_ble_eq_true rfl⟩) hS (fun q _ h => hFc q h) hFc (fun r_1 u t H1 locs ht hvm hw9 hB hz1 hk1 hS => ?_)
  obtain ⟨er9, hP1, hK1, hD1⟩ := hB
  rw [ht] at hP1
  have hK1 := va_K.moved hvm.symm hK1
  obtain ⟨hP, hD⟩ := va_join (wr := [(t0, .inr (4, [.ref u0, .ref u1, .ref u2, .ref u3, .ref u4, .int (nI d.k), .int (nI d.fo), .int (nI d.lev), .int (nI d.low)])), (u0, .inl (z0, 802, .inl d.tv)), (u1, .inl (z1, 401, .inl d.ov)), (u2, .inl (z2, 401, .inl d.lv)), (u3, .inl (z3, 401, .inl d.rv)), (u4, .inl (z4, 402, .inl d.sv)), (v0, .inl (x0, 802, .inl w.hd)), (v1, .inl (x1, w.nn, .inl w.nx))]) (w1 := [(w0, .inr (5, [.ref h0, .ref t0, .ref v0, .ref v1])), (h0, .inr (2, [.ref g0, .ref g1, .ref g2, .int (nI a.n)])), (g0, .inl (y0, a.la, .inl a.sf)), (g1, .inl (y1, a.la, .inl a.kf)), (g2, .inl (y2, a.lc, .inl a.cf))]) hP hD [10, 0, 1, 2, 3] [4, 5, 6, 7, 8, 9, 11, 12] rfl rfl (by decide) (by decide) hk1 hFc hP1 hD1
  generalize H1 = H at hP hS ⊢
  have hP : va_P (dC, dI) vwCl [(t0, .inr (4, [.ref u0, .ref u1, .ref u2, .ref u3, .ref u4, .int (nI d.k), .int (nI d.fo), .int (nI d.lev), .int (nI d.low)])), (u0, .inl (z0, 802, .inl d.tv)), (u1, .inl (z1, 401, .inl d.ov)), (u2, .inl (z2, 401, .inl d.lv)), (u3, .inl (z3, 401, .inl d.rv)), (u4, .inl (z4, 402, .inl d.sv)), (v0, .inl (x0, 802, .inl w.hd)), (v1, .inl (x1, w.nn, .inl w.nx)), (w0, .inr (5, [.ref h0, .ref t0, .ref v0, .ref v1])), (h0, .inr (2, [.ref g0, .ref g1, .ref g2, .int (nI a.n)])), (g0, .inl (y0, a.la, .inl a.sf)), (g1, .inl (y1, a.la, .inl a.kf)), (g2, .inl (y2, a.lc, .inl a.cf))] H := hP
  have hD : va_D A [(t0, .inr (4, [.ref u0, .ref u1, .ref u2, .ref u3, .ref u4, .int (nI d.k), .int (nI d.fo), .int (nI d.lev), .int (nI d.low)])), (u0, .inl (z0, 802, .inl d.tv)), (u1, .inl (z1, 401, .inl d.ov)), (u2, .inl (z2, 401, .inl d.lv)), (u3, .inl (z3, 401, .inl d.rv)), (u4, .inl (z4, 402, .inl d.sv)), (v0, .inl (x0, 802, .inl w.hd)), (v1, .inl (x1, w.nn, .inl w.nx)), (w0, .inr (5, [.ref h0, .ref t0, .ref v0, .ref v1])), (h0, .inr (2, [.ref g0, .ref g1, .ref g2, .int (nI a.n)])), (g0, .inl (y0, a.la, .inl a.sf)), (g1, .inl (y1, a.la, .inl a.kf)), (g2, .inl (y2, a.lc, .inl a.cf))] := hD
  refine W.widen (k := 0) (n := 0) (by decide) (by decide) ?_
  have hw9 : r_1 = nI (a.C (a.S (m0 / 2) + 1 - m0 % 2)) := hw9.trans er9
  subst hw9
  have j0 := (hR.cf (a.S (m0 / 2) + 1 - m0 % 2) (by omega)).2
  refine va_bald hx hb hK hP 1 3 rfl rfl (vp_in_nI (by omega) (by omega)) d_Wt_waitsElsewhere_12 ?_
  refine lv_topi (fun y_2 ey_2 => ?_)
  rw [nI_clamp (by omega)] at ey_2
  subst ey_2
  refine lv_iconst (v := 1) hx hb d_Wt_waitsElsewhere_13 (by decide) ?_
  refine lv_icmp_ne (tgt := 19) hx hb d_Wt_waitsElsewhere_14 (by decide) (fun c_14 => ?_) (fun c_14 => ?_)
  · refine lv_aload_n hx hb d_Wt_waitsElsewhere_19 rfl (lv_at hl 0 rfl) ?_
    refine va_get (D := (dC, dI)) (ci := 5) (v := .ref h0) (C := R_Wt) (T := F_Wt) (N := 4) hx hb hw in_Wt hown hK hP 8 rfl rfl 0 (by decide) (hw (Cond.fieldLink "ClauseSearch$Watch" 9 "ClauseSearch$Watch" "rows" "LClauseSearch$Rows;") k_151) (fun _ h9 => h9) rfl d_Wt_waitsElsewhere_20 ?_
    refine va_getN (D := (dC, dI)) (ci := 2) (v := .ref g2) (C := R_Rw) (T := F_Rw) (N := 4) hx hb hw in_Rw hown hK hP 9 rfl rfl 2 (by decide) (hw (Cond.fieldLinkNest "ClauseSearch$Watch" 36 "ClauseSearch$Rows" "codes" "[I" "ClauseSearch") k_69) (fun _ h9 => h9) rfl d_Wt_waitsElsewhere_23 ?_
    refine lv_astore_n (lv' := [(2, .ref g2), (0, .ref w0), (1, .int (nI m0))]) hx hb d_Wt_waitsElsewhere_26 rfl hl (by decide) rfl (fun ls hl => ?_)
    refine lv_aload_n hx hb d_Wt_waitsElsewhere_27 rfl (lv_at hl 1 rfl) ?_
    refine va_get (D := (dC, dI)) (ci := 5) (v := .ref h0) (C := R_Wt) (T := F_Wt) (N := 4) hx hb hw in_Wt hown hK hP 8 rfl rfl 0 (by decide) (hw (Cond.fieldLink "ClauseSearch$Watch" 9 "ClauseSearch$Watch" "rows" "LClauseSearch$Rows;") k_151) (fun _ h9 => h9) rfl d_Wt_waitsElsewhere_28 ?_
    refine va_getN (D := (dC, dI)) (ci := 2) (v := .ref g0) (C := R_Rw) (T := F_Rw) (N := 4) hx hb hw in_Rw hown hK hP 9 rfl rfl 0 (by decide) (hw (Cond.fieldLinkNest "ClauseSearch$Watch" 41 "ClauseSearch$Rows" "start" "[I" "ClauseSearch") k_61) (fun _ h9 => h9) rfl d_Wt_waitsElsewhere_31 ?_
    refine lv_iload_n hx hb d_Wt_waitsElsewhere_34 rfl (lv_at hl 2 rfl) ?_
    refine lv_iconst (v := nI 1) hx hb d_Wt_waitsElsewhere_35 (by decide) ?_
    refine lv_ishr hx hb d_Wt_waitsElsewhere_36 ?_
    refine lv_topi (fun y_3 ey_3 => ?_)
    obtain rfl : y_3 = nI (m0 / 2) := ey_3.trans (ni_shr (by omega))
    refine va_iald hx hb hK hP 10 0 rfl rfl (vp_in_nI (by omega) (by omega)) d_Wt_waitsElsewhere_37 ?_
    refine lv_topi (fun y_4 ey_4 => ?_)
    rw [nI_clamp (by omega)] at ey_4
    rw [hR.sf _ (by omega)] at ey_4
    subst ey_4
    refine lv_istore_n (lv' := [(3, .int (nI (a.S (m0 / 2)))), (2, .ref g2), (0, .ref w0), (1, .int (nI m0))]) hx hb d_Wt_waitsElsewhere_38 rfl hl (by decide) rfl (fun ls hl => ?_)
    refine lv_aload_n hx hb d_Wt_waitsElsewhere_39 rfl (lv_at hl 2 rfl) ?_
    refine va_get (D := (dC, dI)) (ci := 5) (v := .ref h0) (C := R_Wt) (T := F_Wt) (N := 4) hx hb hw in_Wt hown hK hP 8 rfl rfl 0 (by decide) (hw (Cond.fieldLink "ClauseSearch$Watch" 9 "ClauseSearch$Watch" "rows" "LClauseSearch$Rows;") k_151) (fun _ h9 => h9) rfl d_Wt_waitsElsewhere_40 ?_
    refine va_getN (D := (dC, dI)) (ci := 2) (v := .ref g0) (C := R_Rw) (T := F_Rw) (N := 4) hx hb hw in_Rw hown hK hP 9 rfl rfl 0 (by decide) (hw (Cond.fieldLinkNest "ClauseSearch$Watch" 41 "ClauseSearch$Rows" "start" "[I" "ClauseSearch") k_61) (fun _ h9 => h9) rfl d_Wt_waitsElsewhere_43 ?_
    refine lv_iload_n hx hb d_Wt_waitsElsewhere_46 rfl (lv_at hl 3 rfl) ?_
    refine lv_iconst (v := nI 1) hx hb d_Wt_waitsElsewhere_47 (by decide) ?_
    refine lv_ishr hx hb d_Wt_waitsElsewhere_48 ?_
    refine lv_topi (fun y_5 ey_5 => ?_)
    obtain rfl : y_5 = nI (m0 / 2) := ey_5.trans (ni_shr (by omega))
    refine lv_iconst (v := nI 1) hx hb d_Wt_waitsElsewhere_49 (by decide) ?_
    refine lv_iadd hx hb d_Wt_waitsElsewhere_50 ?_
    refine lv_topi (fun y_6 ey_6 => ?_)
    obtain rfl : y_6 = nI (m0 / 2 + 1) := ey_6.trans (nI_add (m0 / 2) 1)
    refine va_iald hx hb hK hP 10 0 rfl rfl (vp_in_nI (by omega) (by omega)) d_Wt_waitsElsewhere_51 ?_
    refine lv_topi (fun y_7 ey_7 => ?_)
    rw [nI_clamp (by omega)] at ey_7
    rw [hR.sf _ (by omega)] at ey_7
    subst ey_7
    refine lv_istore (lv' := [(4, .int (nI (a.S (m0 / 2 + 1)))), (3, .int (nI (a.S (m0 / 2)))), (2, .ref g2), (0, .ref w0), (1, .int (nI m0))]) hx hb d_Wt_waitsElsewhere_52 hl (by decide) rfl (fun ls hl => ?_)
    refine lv_iload_n hx hb d_Wt_waitsElsewhere_54 rfl (lv_at hl 1 rfl) ?_
    refine lv_iconst (v := nI 2) hx hb d_Wt_waitsElsewhere_55 (by decide) ?_
    refine lv_iadd hx hb d_Wt_waitsElsewhere_56 ?_
    refine lv_topi (fun y_8 ey_8 => ?_)
    obtain rfl : y_8 = nI (a.S (m0 / 2) + 2) := ey_8.trans (nI_add (a.S (m0 / 2)) 2)
    refine lv_istore (lv' := [(5, .int (nI (a.S (m0 / 2) + 2))), (4, .int (nI (a.S (m0 / 2 + 1)))), (3, .int (nI (a.S (m0 / 2)))), (2, .ref g2), (0, .ref w0), (1, .int (nI m0))]) hx hb d_Wt_waitsElsewhere_57 hl (by decide) rfl (fun ls hl => ?_)
    refine l_waits hx hb hml hw hown (hK.sub (tys' := [(y0, .int), (y1, .int), (y2, .int), (z0, .byte), (z1, .int), (z2, .int), (z3, .int), (z4, .int), (x0, .int), (x1, .int)]) [0, 1, 2, 3, 4, 5, 6, 7, 8, 9] rfl) hA (Nat.le_of_ble_eq_true rfl) (Nat.le_of_ble_eq_true rfl) (Nat.le_of_ble_eq_true rfl) (Nat.le_of_ble_eq_true rfl) hR hm (fun n_9 H1 locs ls f_10 f_11 f_12 f_13 hP1 hD1 hS hl => ?_) (fun  H1 locs ls f_14 hP1 hD1 hS hl => ?_) (_) (a.S (m0 / 2) + 2) _ _ ls (Nat.lt_succ_self _) (Nat.le_refl _) (by omega) (fun j h1 h2 => absurd h1 (by omega)) (hP.sub (ws' := [(h0, .inr (2, [.ref g0, .ref g1, .ref g2, .int (nI a.n)])), (g0, .inl (y0, a.la, .inl a.sf)), (g1, .inl (y1, a.la, .inl a.kf)), (g2, .inl (y2, a.lc, .inl a.cf)), (t0, .inr (4, [.ref u0, .ref u1, .ref u2, .ref u3, .ref u4, .int (nI d.k), .int (nI d.fo), .int (nI d.lev), .int (nI d.low)])), (u0, .inl (z0, 802, .inl d.tv)), (u1, .inl (z1, 401, .inl d.ov)), (u2, .inl (z2, 401, .inl d.lv)), (u3, .inl (z3, 401, .inl d.rv)), (u4, .inl (z4, 402, .inl d.sv)), (w0, .inr (5, [.ref h0, .ref t0, .ref v0, .ref v1])), (v0, .inl (x0, 802, .inl w.hd)), (v1, .inl (x1, w.nn, .inl w.nx))]) [9, 10, 11, 12, 0, 1, 2, 3, 4, 5, 8, 6, 7] rfl) (hD.sub (ws' := [(h0, .inr (2, [.ref g0, .ref g1, .ref g2, .int (nI a.n)])), (g0, .inl (y0, a.la, .inl a.sf)), (g1, .inl (y1, a.la, .inl a.kf)), (g2, .inl (y2, a.lc, .inl a.cf)), (t0, .inr (4, [.ref u0, .ref u1, .ref u2, .ref u3, .ref u4, .int (nI d.k), .int (nI d.fo), .int (nI d.lev), .int (nI d.low)])), (u0, .inl (z0, 802, .inl d.tv)), (u1, .inl (z1, 401, .inl d.ov)), (u2, .inl (z2, 401, .inl d.lv)), (u3, .inl (z3, 401, .inl d.rv)), (u4, .inl (z4, 402, .inl d.sv)), (w0, .inr (5, [.ref h0, .ref t0, .ref v0, .ref v1])), (v0, .inl (x0, 802, .inl w.hd)), (v1, .inl (x1, w.nn, .inl w.nx))]) [9, 10, 11, 12, 0, 1, 2, 3, 4, 5, 8, 6, 7] (by decide) rfl) hS (lv_sub hl [4, 5, 3, 2, 1, 0] rfl)
    · have hP := hP1
      have hD := hD1
      generalize H1 = H at hP hS ⊢
      have hP : va_P (dC, dI) vwCl [(h0, .inr (2, [.ref g0, .ref g1, .ref g2, .int (nI a.n)])), (g0, .inl (y0, a.la, .inl a.sf)), (g1, .inl (y1, a.la, .inl a.kf)), (g2, .inl (y2, a.lc, .inl a.cf)), (t0, .inr (4, [.ref u0, .ref u1, .ref u2, .ref u3, .ref u4, .int (nI d.k), .int (nI d.fo), .int (nI d.lev), .int (nI d.low)])), (u0, .inl (z0, 802, .inl d.tv)), (u1, .inl (z1, 401, .inl d.ov)), (u2, .inl (z2, 401, .inl d.lv)), (u3, .inl (z3, 401, .inl d.rv)), (u4, .inl (z4, 402, .inl d.sv)), (w0, .inr (5, [.ref h0, .ref t0, .ref v0, .ref v1])), (v0, .inl (x0, 802, .inl w.hd)), (v1, .inl (x1, w.nn, .inl w.nx))] H := hP
      have hD : va_D A [(h0, .inr (2, [.ref g0, .ref g1, .ref g2, .int (nI a.n)])), (g0, .inl (y0, a.la, .inl a.sf)), (g1, .inl (y1, a.la, .inl a.kf)), (g2, .inl (y2, a.lc, .inl a.cf)), (t0, .inr (4, [.ref u0, .ref u1, .ref u2, .ref u3, .ref u4, .int (nI d.k), .int (nI d.fo), .int (nI d.lev), .int (nI d.low)])), (u0, .inl (z0, 802, .inl d.tv)), (u1, .inl (z1, 401, .inl d.ov)), (u2, .inl (z2, 401, .inl d.lv)), (u3, .inl (z3, 401, .inl d.rv)), (u4, .inl (z4, 402, .inl d.sv)), (w0, .inr (5, [.ref h0, .ref t0, .ref v0, .ref v1])), (v0, .inl (x0, 802, .inl w.hd)), (v1, .inl (x1, w.nn, .inl w.nx))] := hD
      refine lv_aload_n hx hb d_Wt_waitsElsewhere_86 rfl (lv_at hl 2 rfl) ?_
      refine lv_iload hx hb d_Wt_waitsElsewhere_87 (lv_at hl 5 rfl) ?_
      refine lv_aload_n hx hb d_Wt_waitsElsewhere_89 rfl (lv_at hl 2 rfl) ?_
      refine lv_iload_n hx hb d_Wt_waitsElsewhere_90 rfl (lv_at hl 3 rfl) ?_
      refine lv_iload_n hx hb d_Wt_waitsElsewhere_91 rfl (lv_at hl 1 rfl) ?_
      refine lv_iconst (v := nI 1) hx hb d_Wt_waitsElsewhere_92 (by decide) ?_
      refine lv_iand hx hb d_Wt_waitsElsewhere_93 ?_
      refine lv_topi (fun y_15 ey_15 => ?_)
      obtain rfl : y_15 = nI (m0 % 2) := ey_15.trans (ni_and m0 (by omega))
      refine lv_iadd hx hb d_Wt_waitsElsewhere_94 ?_
      refine lv_topi (fun y_16 ey_16 => ?_)
      obtain rfl : y_16 = nI (a.S (m0 / 2) + m0 % 2) := ey_16.trans (nI_add (a.S (m0 / 2)) (m0 % 2))
      refine va_iald hx hb hK hP 3 2 rfl rfl (vp_in_nI (by omega) (by omega)) d_Wt_waitsElsewhere_95 ?_
      refine lv_topi (fun y_17 ey_17 => ?_)
      rw [nI_clamp (by omega)] at ey_17
      rw [(hR.cf _ (by omega)).1] at ey_17
      subst ey_17
      refine va_iast hx hb hK hP hD hS 3 2 rfl rfl (vp_in_nI (by omega) (by omega)) d_Wt_waitsElsewhere_96 (fun H locs hP hD hS => ?_)
      rw [nI_clamp (n := n_9) (by omega)] at hP hD
      have hP : va_P (dC, dI) vwCl [(h0, .inr (2, [.ref g0, .ref g1, .ref g2, .int (nI a.n)])), (g0, .inl (y0, a.la, .inl a.sf)), (g1, .inl (y1, a.la, .inl a.kf)), (g2, .inl (y2, a.lc, .inl (upd a.cf n_9 (nI (a.C (a.S (m0 / 2) + m0 % 2)))))), (t0, .inr (4, [.ref u0, .ref u1, .ref u2, .ref u3, .ref u4, .int (nI d.k), .int (nI d.fo), .int (nI d.lev), .int (nI d.low)])), (u0, .inl (z0, 802, .inl d.tv)), (u1, .inl (z1, 401, .inl d.ov)), (u2, .inl (z2, 401, .inl d.lv)), (u3, .inl (z3, 401, .inl d.rv)), (u4, .inl (z4, 402, .inl d.sv)), (w0, .inr (5, [.ref h0, .ref t0, .ref v0, .ref v1])), (v0, .inl (x0, 802, .inl w.hd)), (v1, .inl (x1, w.nn, .inl w.nx))] H := hP
      have hD : va_D A [(h0, .inr (2, [.ref g0, .ref g1, .ref g2, .int (nI a.n)])), (g0, .inl (y0, a.la, .inl a.sf)), (g1, .inl (y1, a.la, .inl a.kf)), (g2, .inl (y2, a.lc, .inl (upd a.cf n_9 (nI (a.C (a.S (m0 / 2) + m0 % 2)))))), (t0, .inr (4, [.ref u0, .ref u1, .ref u2, .ref u3, .ref u4, .int (nI d.k), .int (nI d.fo), .int (nI d.lev), .int (nI d.low)])), (u0, .inl (z0, 802, .inl d.tv)), (u1, .inl (z1, 401, .inl d.ov)), (u2, .inl (z2, 401, .inl d.lv)), (u3, .inl (z3, 401, .inl d.rv)), (u4, .inl (z4, 402, .inl d.sv)), (w0, .inr (5, [.ref h0, .ref t0, .ref v0, .ref v1])), (v0, .inl (x0, 802, .inl w.hd)), (v1, .inl (x1, w.nn, .inl w.nx))] := hD
      refine lv_aload_n hx hb d_Wt_waitsElsewhere_97 rfl (lv_at hl 2 rfl) ?_
      refine lv_iload_n hx hb d_Wt_waitsElsewhere_98 rfl (lv_at hl 3 rfl) ?_
      refine lv_iload_n hx hb d_Wt_waitsElsewhere_99 rfl (lv_at hl 1 rfl) ?_
      refine lv_iconst (v := nI 1) hx hb d_Wt_waitsElsewhere_100 (by decide) ?_
      refine lv_iand hx hb d_Wt_waitsElsewhere_101 ?_
      refine lv_topi (fun y_18 ey_18 => ?_)
      obtain rfl : y_18 = nI (m0 % 2) := ey_18.trans (ni_and m0 (by omega))
      refine lv_iadd hx hb d_Wt_waitsElsewhere_102 ?_
      refine lv_topi (fun y_19 ey_19 => ?_)
      obtain rfl : y_19 = nI (a.S (m0 / 2) + m0 % 2) := ey_19.trans (nI_add (a.S (m0 / 2)) (m0 % 2))
      refine lv_iload hx hb d_Wt_waitsElsewhere_103 (lv_at hl 6 rfl) ?_
      refine va_iast hx hb hK hP hD hS 3 2 rfl rfl (vp_in_nI (by omega) (by omega)) d_Wt_waitsElsewhere_105 (fun H locs hP hD hS => ?_)
      rw [nI_clamp (n := a.S (m0 / 2) + m0 % 2) (by omega)] at hP hD
      have hP : va_P (dC, dI) vwCl [(h0, .inr (2, [.ref g0, .ref g1, .ref g2, .int (nI a.n)])), (g0, .inl (y0, a.la, .inl a.sf)), (g1, .inl (y1, a.la, .inl a.kf)), (g2, .inl (y2, a.lc, .inl (upd (upd a.cf n_9 (nI (a.C (a.S (m0 / 2) + m0 % 2)))) (a.S (m0 / 2) + m0 % 2) (nI (a.C n_9))))), (t0, .inr (4, [.ref u0, .ref u1, .ref u2, .ref u3, .ref u4, .int (nI d.k), .int (nI d.fo), .int (nI d.lev), .int (nI d.low)])), (u0, .inl (z0, 802, .inl d.tv)), (u1, .inl (z1, 401, .inl d.ov)), (u2, .inl (z2, 401, .inl d.lv)), (u3, .inl (z3, 401, .inl d.rv)), (u4, .inl (z4, 402, .inl d.sv)), (w0, .inr (5, [.ref h0, .ref t0, .ref v0, .ref v1])), (v0, .inl (x0, 802, .inl w.hd)), (v1, .inl (x1, w.nn, .inl w.nx))] H := hP
      have hD : va_D A [(h0, .inr (2, [.ref g0, .ref g1, .ref g2, .int (nI a.n)])), (g0, .inl (y0, a.la, .inl a.sf)), (g1, .inl (y1, a.la, .inl a.kf)), (g2, .inl (y2, a.lc, .inl (upd (upd a.cf n_9 (nI (a.C (a.S (m0 / 2) + m0 % 2)))) (a.S (m0 / 2) + m0 % 2) (nI (a.C n_9))))), (t0, .inr (4, [.ref u0, .ref u1, .ref u2, .ref u3, .ref u4, .int (nI d.k), .int (nI d.fo), .int (nI d.lev), .int (nI d.low)])), (u0, .inl (z0, 802, .inl d.tv)), (u1, .inl (z1, 401, .inl d.ov)), (u2, .inl (z2, 401, .inl d.lv)), (u3, .inl (z3, 401, .inl d.rv)), (u4, .inl (z4, 402, .inl d.sv)), (w0, .inr (5, [.ref h0, .ref t0, .ref v0, .ref v1])), (v0, .inl (x0, 802, .inl w.hd)), (v1, .inl (x1, w.nn, .inl w.nx))] := hD
      refine lv_aload_n hx hb d_Wt_waitsElsewhere_106 rfl (lv_at hl 0 rfl) ?_
      refine lv_iload_n hx hb d_Wt_waitsElsewhere_107 rfl (lv_at hl 1 rfl) ?_
      refine lv_iload hx hb d_Wt_waitsElsewhere_108 (lv_at hl 6 rfl) ?_
      have hPc := hP.sub (ws' := [(w0, .inr (5, [.ref h0, .ref t0, .ref v0, .ref v1])), (v0, .inl (x0, 802, .inl w.hd)), (v1, .inl (x1, w.nn, .inl w.nx))]) [10, 11, 12] rfl
      have hDc := hD.sub (ws' := [(w0, .inr (5, [.ref h0, .ref t0, .ref v0, .ref v1])), (v0, .inl (x0, 802, .inl w.hd)), (v1, .inl (x1, w.nn, .inl w.nx))]) [10, 11, 12] (by decide) rfl
      have hKc := hK.sub (tys' := [(x0, .int), (x1, .int)]) [8, 9] rfl
      have hFc := va_free (wc := [(w0, .inr (5, [.ref h0, .ref t0, .ref v0, .ref v1])), (v0, .inl (x0, 802, .inl w.hd)), (v1, .inl (x1, w.nn, .inl w.nx))]) hD hS hA [10, 11, 12] rfl
      refine va_callv (va_runV (As := [.int (nI m0), .int (nI (a.C n_9))]) (rest := []) ⟨hx, hb, hml, hown, hw⟩ (c_Wt_hang l dC dI w0 h0 t0 v0 v1 x0 x1 H.size w.nn w.hd w.nx m0 (a.C n_9) (by omega) hnn (by omega)) (cb_V (C := R_Wt) 2 hw k_319 k_33 k_316 k_318 k_3 rfl rfl (by decide +kernel) ⟨Nat.le_of_ble_eq_true rfl, Nat.le_of_ble_eq_true rfl⟩) ⟨fun a U g mk q => by obtain ⟨q0, q1, qP, qK, qD⟩ := q; exact ⟨q0, q1, qP, va_K.moved (u := U) (U := U.calling g mk a) (Vm.Alike.refl U.vm) qK, qD⟩, va_recv hKc hPc (ci := 5) (q0 := 0) rfl rfl, fun U hU hW => ⟨rfl, by rw [hU], by rw [hU]; exact hPc, va_K.moved hW.alike hKc, hDc.weaken (fun _ _ _ _ => trivial)⟩⟩ rfl rfl hl.1 rfl (lv_room (Nat.le_of_ble_eq_true rfl)) d_Wt_waitsElsewhere_110 ⟨Nat.le_of_ble_eq_true rfl, Nat.le_of_ble_eq_true rfl⟩) hS (fun q _ h => hFc q h) hFc (fun u t H1 locs ht hvm hw9 hB hz1 hk1 hS => ?_)
      obtain ⟨hP1, hK1, hD1⟩ := hB
      rw [ht] at hP1
      have hK1 := va_K.moved hvm.symm hK1
      obtain ⟨hP, hD⟩ := va_join (wr := [(h0, .inr (2, [.ref g0, .ref g1, .ref g2, .int (nI a.n)])), (g0, .inl (y0, a.la, .inl a.sf)), (g1, .inl (y1, a.la, .inl a.kf)), (g2, .inl (y2, a.lc, .inl (upd (upd a.cf n_9 (nI (a.C (a.S (m0 / 2) + m0 % 2)))) (a.S (m0 / 2) + m0 % 2) (nI (a.C n_9))))), (t0, .inr (4, [.ref u0, .ref u1, .ref u2, .ref u3, .ref u4, .int (nI d.k), .int (nI d.fo), .int (nI d.lev), .int (nI d.low)])), (u0, .inl (z0, 802, .inl d.tv)), (u1, .inl (z1, 401, .inl d.ov)), (u2, .inl (z2, 401, .inl d.lv)), (u3, .inl (z3, 401, .inl d.rv)), (u4, .inl (z4, 402, .inl d.sv))]) (w1 := [(w0, .inr (5, [.ref h0, .ref t0, .ref v0, .ref v1])), (v0, .inl (x0, 802, .inl (upd w.hd (a.C n_9) (nI m0)))), (v1, .inl (x1, w.nn, .inl (upd w.nx m0 (w.hd (a.C n_9)))))]) hP hD [10, 11, 12] [0, 1, 2, 3, 4, 5, 6, 7, 8, 9] rfl rfl (by decide) (by decide) hk1 hFc hP1 hD1
      generalize H1 = H at hP hS ⊢
      have hP : va_P (dC, dI) vwCl [(h0, .inr (2, [.ref g0, .ref g1, .ref g2, .int (nI a.n)])), (g0, .inl (y0, a.la, .inl a.sf)), (g1, .inl (y1, a.la, .inl a.kf)), (g2, .inl (y2, a.lc, .inl (upd (upd a.cf n_9 (nI (a.C (a.S (m0 / 2) + m0 % 2)))) (a.S (m0 / 2) + m0 % 2) (nI (a.C n_9))))), (t0, .inr (4, [.ref u0, .ref u1, .ref u2, .ref u3, .ref u4, .int (nI d.k), .int (nI d.fo), .int (nI d.lev), .int (nI d.low)])), (u0, .inl (z0, 802, .inl d.tv)), (u1, .inl (z1, 401, .inl d.ov)), (u2, .inl (z2, 401, .inl d.lv)), (u3, .inl (z3, 401, .inl d.rv)), (u4, .inl (z4, 402, .inl d.sv)), (w0, .inr (5, [.ref h0, .ref t0, .ref v0, .ref v1])), (v0, .inl (x0, 802, .inl (upd w.hd (a.C n_9) (nI m0)))), (v1, .inl (x1, w.nn, .inl (upd w.nx m0 (w.hd (a.C n_9)))))] H := hP
      have hD : va_D A [(h0, .inr (2, [.ref g0, .ref g1, .ref g2, .int (nI a.n)])), (g0, .inl (y0, a.la, .inl a.sf)), (g1, .inl (y1, a.la, .inl a.kf)), (g2, .inl (y2, a.lc, .inl (upd (upd a.cf n_9 (nI (a.C (a.S (m0 / 2) + m0 % 2)))) (a.S (m0 / 2) + m0 % 2) (nI (a.C n_9))))), (t0, .inr (4, [.ref u0, .ref u1, .ref u2, .ref u3, .ref u4, .int (nI d.k), .int (nI d.fo), .int (nI d.lev), .int (nI d.low)])), (u0, .inl (z0, 802, .inl d.tv)), (u1, .inl (z1, 401, .inl d.ov)), (u2, .inl (z2, 401, .inl d.lv)), (u3, .inl (z3, 401, .inl d.rv)), (u4, .inl (z4, 402, .inl d.sv)), (w0, .inr (5, [.ref h0, .ref t0, .ref v0, .ref v1])), (v0, .inl (x0, 802, .inl (upd w.hd (a.C n_9) (nI m0)))), (v1, .inl (x1, w.nn, .inl (upd w.nx m0 (w.hd (a.C n_9)))))] := hD
      refine W.widen (k := 0) (n := 0) (by decide) (by decide) ?_
      refine lv_iconst (v := 1) hx hb d_Wt_waitsElsewhere_113 (by decide) ?_
      have hP := hP.sub (ws' := [(h0, .inr (2, [.ref g0, .ref g1, .ref g2, .int (nI (Swap a n_9 (a.S (m0 / 2) + m0 % 2)).n)])), (g0, .inl (y0, (Swap a n_9 (a.S (m0 / 2) + m0 % 2)).la, .inl (Swap a n_9 (a.S (m0 / 2) + m0 % 2)).sf)), (g1, .inl (y1, (Swap a n_9 (a.S (m0 / 2) + m0 % 2)).la, .inl (Swap a n_9 (a.S (m0 / 2) + m0 % 2)).kf)), (g2, .inl (y2, (Swap a n_9 (a.S (m0 / 2) + m0 % 2)).lc, .inl (Swap a n_9 (a.S (m0 / 2) + m0 % 2)).cf)), (t0, .inr (4, [.ref u0, .ref u1, .ref u2, .ref u3, .ref u4, .int (nI d.k), .int (nI d.fo), .int (nI d.lev), .int (nI d.low)])), (u0, .inl (z0, 802, .inl d.tv)), (u1, .inl (z1, 401, .inl d.ov)), (u2, .inl (z2, 401, .inl d.lv)), (u3, .inl (z3, 401, .inl d.rv)), (u4, .inl (z4, 402, .inl d.sv)), (w0, .inr (5, [.ref h0, .ref t0, .ref v0, .ref v1])), (v0, .inl (x0, 802, .inl (Hang w m0 (a.C n_9)).hd)), (v1, .inl (x1, (Hang w m0 (a.C n_9)).nn, .inl (Hang w m0 (a.C n_9)).nx))]) [0, 1, 2, 3, 4, 5, 6, 7, 8, 9, 10, 11, 12] rfl
      have hD := hD.sub (ws' := [(h0, .inr (2, [.ref g0, .ref g1, .ref g2, .int (nI (Swap a n_9 (a.S (m0 / 2) + m0 % 2)).n)])), (g0, .inl (y0, (Swap a n_9 (a.S (m0 / 2) + m0 % 2)).la, .inl (Swap a n_9 (a.S (m0 / 2) + m0 % 2)).sf)), (g1, .inl (y1, (Swap a n_9 (a.S (m0 / 2) + m0 % 2)).la, .inl (Swap a n_9 (a.S (m0 / 2) + m0 % 2)).kf)), (g2, .inl (y2, (Swap a n_9 (a.S (m0 / 2) + m0 % 2)).lc, .inl (Swap a n_9 (a.S (m0 / 2) + m0 % 2)).cf)), (t0, .inr (4, [.ref u0, .ref u1, .ref u2, .ref u3, .ref u4, .int (nI d.k), .int (nI d.fo), .int (nI d.lev), .int (nI d.low)])), (u0, .inl (z0, 802, .inl d.tv)), (u1, .inl (z1, 401, .inl d.ov)), (u2, .inl (z2, 401, .inl d.lv)), (u3, .inl (z3, 401, .inl d.rv)), (u4, .inl (z4, 402, .inl d.sv)), (w0, .inr (5, [.ref h0, .ref t0, .ref v0, .ref v1])), (v0, .inl (x0, 802, .inl (Hang w m0 (a.C n_9)).hd)), (v1, .inl (x1, (Hang w m0 (a.C n_9)).nn, .inl (Hang w m0 (a.C n_9)).nx))]) [0, 1, 2, 3, 4, 5, 6, 7, 8, 9, 10, 11, 12] (by decide) rfl
      have hK := hK.sub (tys' := [(y0, .int), (y1, .int), (y2, .int), (z0, .byte), (z1, .int), (z2, .int), (z3, .int), (z4, .int), (x0, .int), (x1, .int)]) [0, 1, 2, 3, 4, 5, 6, 7, 8, 9] rfl
      refine W.widen (k := 0) (n := 0) (by decide) (by decide) ?_
      exact W.zret (v := 1) hx hb hr rfl (fun t ht hW => ⟨⟨1, 1, rfl, rfl, (Swap a n_9 (a.S (m0 / 2) + m0 % 2)), (Hang w m0 (a.C n_9)), (Or.inr ⟨rfl, n_9, f_10, f_11, f_12, c_14, rfl, rfl⟩), by rw [ht]; exact hP, va_K.moved hW.alike hK, hD⟩, hS.F ht⟩) hS.2.2 d_Wt_waitsElsewhere_114
    · have hP := hP1
      have hD := hD1
      generalize H1 = H at hP hS ⊢
      have hP : va_P (dC, dI) vwCl [(h0, .inr (2, [.ref g0, .ref g1, .ref g2, .int (nI a.n)])), (g0, .inl (y0, a.la, .inl a.sf)), (g1, .inl (y1, a.la, .inl a.kf)), (g2, .inl (y2, a.lc, .inl a.cf)), (t0, .inr (4, [.ref u0, .ref u1, .ref u2, .ref u3, .ref u4, .int (nI d.k), .int (nI d.fo), .int (nI d.lev), .int (nI d.low)])), (u0, .inl (z0, 802, .inl d.tv)), (u1, .inl (z1, 401, .inl d.ov)), (u2, .inl (z2, 401, .inl d.lv)), (u3, .inl (z3, 401, .inl d.rv)), (u4, .inl (z4, 402, .inl d.sv)), (w0, .inr (5, [.ref h0, .ref t0, .ref v0, .ref v1])), (v0, .inl (x0, 802, .inl w.hd)), (v1, .inl (x1, w.nn, .inl w.nx))] H := hP
      have hD : va_D A [(h0, .inr (2, [.ref g0, .ref g1, .ref g2, .int (nI a.n)])), (g0, .inl (y0, a.la, .inl a.sf)), (g1, .inl (y1, a.la, .inl a.kf)), (g2, .inl (y2, a.lc, .inl a.cf)), (t0, .inr (4, [.ref u0, .ref u1, .ref u2, .ref u3, .ref u4, .int (nI d.k), .int (nI d.fo), .int (nI d.lev), .int (nI d.low)])), (u0, .inl (z0, 802, .inl d.tv)), (u1, .inl (z1, 401, .inl d.ov)), (u2, .inl (z2, 401, .inl d.lv)), (u3, .inl (z3, 401, .inl d.rv)), (u4, .inl (z4, 402, .inl d.sv)), (w0, .inr (5, [.ref h0, .ref t0, .ref v0, .ref v1])), (v0, .inl (x0, 802, .inl w.hd)), (v1, .inl (x1, w.nn, .inl w.nx))] := hD
      refine lv_iconst (v := 0) hx hb d_Wt_waitsElsewhere_121 (by decide) ?_
      have hK := hK.sub (tys' := [(y0, .int), (y1, .int), (y2, .int), (z0, .byte), (z1, .int), (z2, .int), (z3, .int), (z4, .int), (x0, .int), (x1, .int)]) [0, 1, 2, 3, 4, 5, 6, 7, 8, 9] rfl
      refine W.widen (k := 0) (n := 0) (by decide) (by decide) ?_
      exact W.zret (v := 0) hx hb hr rfl (fun t ht hW => ⟨⟨0, 0, rfl, rfl, a, w, (Or.inl ⟨rfl, Or.inr f_14, rfl, rfl⟩), by rw [ht]; exact hP, va_K.moved hW.alike hK, hD⟩, hS.F ht⟩) hS.2.2 d_Wt_waitsElsewhere_122
  · refine lv_iconst (v := 0) hx hb d_Wt_waitsElsewhere_17 (by decide) ?_
    have hP := hP.sub (ws' := [(h0, .inr (2, [.ref g0, .ref g1, .ref g2, .int (nI a.n)])), (g0, .inl (y0, a.la, .inl a.sf)), (g1, .inl (y1, a.la, .inl a.kf)), (g2, .inl (y2, a.lc, .inl a.cf)), (t0, .inr (4, [.ref u0, .ref u1, .ref u2, .ref u3, .ref u4, .int (nI d.k), .int (nI d.fo), .int (nI d.lev), .int (nI d.low)])), (u0, .inl (z0, 802, .inl d.tv)), (u1, .inl (z1, 401, .inl d.ov)), (u2, .inl (z2, 401, .inl d.lv)), (u3, .inl (z3, 401, .inl d.rv)), (u4, .inl (z4, 402, .inl d.sv)), (w0, .inr (5, [.ref h0, .ref t0, .ref v0, .ref v1])), (v0, .inl (x0, 802, .inl w.hd)), (v1, .inl (x1, w.nn, .inl w.nx))]) [9, 10, 11, 12, 0, 1, 2, 3, 4, 5, 8, 6, 7] rfl
    have hD := hD.sub (ws' := [(h0, .inr (2, [.ref g0, .ref g1, .ref g2, .int (nI a.n)])), (g0, .inl (y0, a.la, .inl a.sf)), (g1, .inl (y1, a.la, .inl a.kf)), (g2, .inl (y2, a.lc, .inl a.cf)), (t0, .inr (4, [.ref u0, .ref u1, .ref u2, .ref u3, .ref u4, .int (nI d.k), .int (nI d.fo), .int (nI d.lev), .int (nI d.low)])), (u0, .inl (z0, 802, .inl d.tv)), (u1, .inl (z1, 401, .inl d.ov)), (u2, .inl (z2, 401, .inl d.lv)), (u3, .inl (z3, 401, .inl d.rv)), (u4, .inl (z4, 402, .inl d.sv)), (w0, .inr (5, [.ref h0, .ref t0, .ref v0, .ref v1])), (v0, .inl (x0, 802, .inl w.hd)), (v1, .inl (x1, w.nn, .inl w.nx))]) [9, 10, 11, 12, 0, 1, 2, 3, 4, 5, 8, 6, 7] (by decide) rfl
    have hK := hK.sub (tys' := [(y0, .int), (y1, .int), (y2, .int), (z0, .byte), (z1, .int), (z2, .int), (z3, .int), (z4, .int), (x0, .int), (x1, .int)]) [0, 1, 2, 3, 4, 5, 6, 7, 8, 9] rfl
    refine W.widen (k := 0) (n := 0) (by decide) (by decide) ?_
    exact W.zret (v := 0) hx hb hr rfl (fun t ht hW => ⟨⟨0, 0, rfl, rfl, a, w, (Or.inl ⟨rfl, Or.inl c_14, rfl, rfl⟩), by rw [ht]; exact hP, va_K.moved hW.alike hK, hD⟩, hS.F ht⟩) hS.2.2 d_Wt_waitsElsewhere_18

set_option maxHeartbeats 4000000 in
set_option maxRecDepth 100000 in
/-- force(node) -/
theorem c_Wt_force (l : Launch) (dC : Nat → ClassId) (dI : Nat → Nat → Nat) (h0 : Nat) (g0 : Nat) (g1 : Nat) (g2 : Nat) (t0 : Nat) (u0 : Nat) (u1 : Nat) (u2 : Nat) (u3 : Nat) (u4 : Nat) (w0 : Nat) (v0 : Nat) (v1 : Nat) (x0 : ClassId) (x1 : ClassId) (y0 : ClassId) (y1 : ClassId) (y2 : ClassId) (z0 : ClassId) (z1 : ClassId) (z2 : ClassId) (z3 : ClassId) (z4 : ClassId) (sz : Nat) (a : Rx) (d : Tx) (w : Wx) (m0 : Nat) (hG : Gok a d w) (hm : m0 < 2 * a.n) (hn : d.tv (nodeAt a m0) = 2) (hq : (d.tv (a.C (a.S (m0 / 2) + 1 - m0 % 2)) = 1 ∨ ∀ j, a.S (m0 / 2) + 2 ≤ j → j < a.S (m0 / 2 + 1) → d.tv (a.C j) = 2)) : Met l y_Wt_force (wq y_Wt_force prog_7_method_9_code 3 (some .int)) ({ frames := 1, cells := 0, slots := 0, locals := 22 }) (va_Pc [.ref w0, .int (nI m0)] (fun U => U.heap.size = sz ∧ va_P (dC, dI) vwCl [(h0, .inr (2, [.ref g0, .ref g1, .ref g2, .int (nI a.n)])), (g0, .inl (y0, a.la, .inl a.sf)), (g1, .inl (y1, a.la, .inl a.kf)), (g2, .inl (y2, a.lc, .inl a.cf)), (t0, .inr (4, [.ref u0, .ref u1, .ref u2, .ref u3, .ref u4, .int (nI d.k), .int (nI d.fo), .int (nI d.lev), .int (nI d.low)])), (u0, .inl (z0, 802, .inl d.tv)), (u1, .inl (z1, 401, .inl d.ov)), (u2, .inl (z2, 401, .inl d.lv)), (u3, .inl (z3, 401, .inl d.rv)), (u4, .inl (z4, 402, .inl d.sv)), (w0, .inr (5, [.ref h0, .ref t0, .ref v0, .ref v1])), (v0, .inl (x0, 802, .inl w.hd)), (v1, .inl (x1, w.nn, .inl w.nx))] U.heap ∧ va_K (dC, dI) vwCl [(y0, .int), (y1, .int), (y2, .int), (z0, .byte), (z1, .int), (z2, .int), (z3, .int), (z4, .int), (x0, .int), (x1, .int)] U ∧ va_D (fun _ => True) [(h0, .inr (2, [.ref g0, .ref g1, .ref g2, .int (nI a.n)])), (g0, .inl (y0, a.la, .inl a.sf)), (g1, .inl (y1, a.la, .inl a.kf)), (g2, .inl (y2, a.lc, .inl a.cf)), (t0, .inr (4, [.ref u0, .ref u1, .ref u2, .ref u3, .ref u4, .int (nI d.k), .int (nI d.fo), .int (nI d.lev), .int (nI d.low)])), (u0, .inl (z0, 802, .inl d.tv)), (u1, .inl (z1, 401, .inl d.ov)), (u2, .inl (z2, 401, .inl d.lv)), (u3, .inl (z3, 401, .inl d.rv)), (u4, .inl (z4, 402, .inl d.sv)), (w0, .inr (5, [.ref h0, .ref t0, .ref v0, .ref v1])), (v0, .inl (x0, 802, .inl w.hd)), (v1, .inl (x1, w.nn, .inl w.nx))])) (va_Qi (fun (r : Int32) (r9 : Int32) => r = r9) (fun (r9 : Int32) t => ∃ (e : Tx), (Gok a e w) ∧ (Badr a e (nodeAt a m0) r9) ∧ (Tle d e) ∧ va_P (dC, dI) vwCl [(h0, .inr (2, [.ref g0, .ref g1, .ref g2, .int (nI a.n)])), (g0, .inl (y0, a.la, .inl a.sf)), (g1, .inl (y1, a.la, .inl a.kf)), (g2, .inl (y2, a.lc, .inl a.cf)), (t0, .inr (4, [.ref u0, .ref u1, .ref u2, .ref u3, .ref u4, .int (nI e.k), .int (nI e.fo), .int (nI e.lev), .int (nI e.low)])), (u0, .inl (z0, 802, .inl e.tv)), (u1, .inl (z1, 401, .inl e.ov)), (u2, .inl (z2, 401, .inl e.lv)), (u3, .inl (z3, 401, .inl e.rv)), (u4, .inl (z4, 402, .inl e.sv)), (w0, .inr (5, [.ref h0, .ref t0, .ref v0, .ref v1])), (v0, .inl (x0, 802, .inl w.hd)), (v1, .inl (x1, w.nn, .inl w.nx))] t.heap ∧ va_K (dC, dI) vwCl [(y0, .int), (y1, .int), (y2, .int), (z0, .byte), (z1, .int), (z2, .int), (z3, .int), (z4, .int), (x0, .int), (x1, .int)] t ∧ va_D (va_A [(h0, .inr (2, [.ref g0, .ref g1, .ref g2, .int (nI a.n)])), (g0, .inl (y0, a.la, .inl a.sf)), (g1, .inl (y1, a.la, .inl a.kf)), (g2, .inl (y2, a.lc, .inl a.cf)), (t0, .inr (4, [.ref u0, .ref u1, .ref u2, .ref u3, .ref u4, .int (nI d.k), .int (nI d.fo), .int (nI d.lev), .int (nI d.low)])), (u0, .inl (z0, 802, .inl d.tv)), (u1, .inl (z1, 401, .inl d.ov)), (u2, .inl (z2, 401, .inl d.lv)), (u3, .inl (z3, 401, .inl d.rv)), (u4, .inl (z4, 402, .inl d.sv)), (w0, .inr (5, [.ref h0, .ref t0, .ref v0, .ref v1])), (v0, .inl (x0, 802, .inl w.hd)), (v1, .inl (x1, w.nn, .inl w.nx))] sz) [(h0, .inr (2, [.ref g0, .ref g1, .ref g2, .int (nI a.n)])), (g0, .inl (y0, a.la, .inl a.sf)), (g1, .inl (y1, a.la, .inl a.kf)), (g2, .inl (y2, a.lc, .inl a.cf)), (t0, .inr (4, [.ref u0, .ref u1, .ref u2, .ref u3, .ref u4, .int (nI e.k), .int (nI e.fo), .int (nI e.lev), .int (nI e.low)])), (u0, .inl (z0, 802, .inl e.tv)), (u1, .inl (z1, 401, .inl e.ov)), (u2, .inl (z2, 401, .inl e.lv)), (u3, .inl (z3, 401, .inl e.rv)), (u4, .inl (z4, 402, .inl e.sv)), (w0, .inr (5, [.ref h0, .ref t0, .ref v0, .ref v1])), (v0, .inl (x0, 802, .inl w.hd)), (v1, .inl (x1, w.nn, .inl w.nx))]) (va_A [(h0, .inr (2, [.ref g0, .ref g1, .ref g2, .int (nI a.n)])), (g0, .inl (y0, a.la, .inl a.sf)), (g1, .inl (y1, a.la, .inl a.kf)), (g2, .inl (y2, a.lc, .inl a.cf)), (t0, .inr (4, [.ref u0, .ref u1, .ref u2, .ref u3, .ref u4, .int (nI d.k), .int (nI d.fo), .int (nI d.lev), .int (nI d.low)])), (u0, .inl (z0, 802, .inl d.tv)), (u1, .inl (z1, 401, .inl d.ov)), (u2, .inl (z2, 401, .inl d.lv)), (u3, .inl (z3, 401, .inl d.rv)), (u4, .inl (z4, 402, .inl d.sv)), (w0, .inr (5, [.ref h0, .ref t0, .ref v0, .ref v1])), (v0, .inl (x0, 802, .inl w.hd)), (v1, .inl (x1, w.nn, .inl w.nx))] sz)) (0) (0) (va_A [(h0, .inr (2, [.ref g0, .ref g1, .ref g2, .int (nI a.n)])), (g0, .inl (y0, a.la, .inl a.sf)), (g1, .inl (y1, a.la, .inl a.kf)), (g2, .inl (y2, a.lc, .inl a.cf)), (t0, .inr (4, [.ref u0, .ref u1, .ref u2, .ref u3, .ref u4, .int (nI d.k), .int (nI d.fo), .int (nI d.lev), .int (nI d.low)])), (u0, .inl (z0, 802, .inl d.tv)), (u1, .inl (z1, 401, .inl d.ov)), (u2, .inl (z2, 401, .inl d.lv)), (u3, .inl (z3, 401, .inl d.rv)), (u4, .inl (z4, 402, .inl d.sv)), (w0, .inr (5, [.ref h0, .ref t0, .ref v0, .ref v1])), (v0, .inl (x0, 802, .inl w.hd)), (v1, .inl (x1, w.nn, .inl w.nx))] sz) := by
  refine Met.ofW (cc := prog_7_method_9_code) (maxL := 3) (ret := (some .int)) (by decide) rfl ?_
  intro p e s m args below meth c s₁ B hml hv
  obtain ⟨rfl, hsz, hP, hK, hD0⟩ := hv
  have hx := B.exec
  have hb := B.bytes
  have hr := B.returns
  have hw : ∀ w ∈ bg_W, w.before #[Value.ref w0, Value.int (nI m0)] s = true := fun w h => atoms_spec (ws := (wq y_Wt_force prog_7_method_9_code 3 (some .int))) B.pre w (List.mem_cons_of_mem _ h)
  have hown : s.vm.findClass R_Wt = some m.cls := findClass_of_methodNamed B.named
  have hlocks := B.notSynchronized
  subst hsz
  have hD := hD0.self (sz := s.heap.size)
  generalize hAe : va_A [(h0, .inr (2, [.ref g0, .ref g1, .ref g2, .int (nI a.n)])), (g0, .inl (y0, a.la, .inl a.sf)), (g1, .inl (y1, a.la, .inl a.kf)), (g2, .inl (y2, a.lc, .inl a.cf)), (t0, .inr (4, [.ref u0, .ref u1, .ref u2, .ref u3, .ref u4, .int (nI d.k), .int (nI d.fo), .int (nI d.lev), .int (nI d.low)])), (u0, .inl (z0, 802, .inl d.tv)), (u1, .inl (z1, 401, .inl d.ov)), (u2, .inl (z2, 401, .inl d.lv)), (u3, .inl (z3, 401, .inl d.rv)), (u4, .inl (z4, 402, .inl d.sv)), (w0, .inr (5, [.ref h0, .ref t0, .ref v0, .ref v1])), (v0, .inl (x0, 802, .inl w.hd)), (v1, .inl (x1, w.nn, .inl w.nx))] s.heap.size = A at hD ⊢
  have hA : ∀ q : Nat, s.heap.size ≤ q → A q := fun q h => by rw [← hAe]; exact Or.inr h
  have hS : va_S A s.heap s.heap [] := va_S.rf
  have hP : va_P (dC, dI) vwCl [(h0, .inr (2, [.ref g0, .ref g1, .ref g2, .int (nI a.n)])), (g0, .inl (y0, a.la, .inl a.sf)), (g1, .inl (y1, a.la, .inl a.kf)), (g2, .inl (y2, a.lc, .inl a.cf)), (t0, .inr (4, [.ref u0, .ref u1, .ref u2, .ref u3, .ref u4, .int (nI d.k), .int (nI d.fo), .int (nI d.lev), .int (nI d.low)])), (u0, .inl (z0, 802, .inl d.tv)), (u1, .inl (z1, 401, .inl d.ov)), (u2, .inl (z2, 401, .inl d.lv)), (u3, .inl (z3, 401, .inl d.rv)), (u4, .inl (z4, 402, .inl d.sv)), (w0, .inr (5, [.ref h0, .ref t0, .ref v0, .ref v1])), (v0, .inl (x0, 802, .inl w.hd)), (v1, .inl (x1, w.nn, .inl w.nx))] s.heap := hP
  have hl := lv_entry ([.ref w0, .int (nI m0)]) (n := 3) (Nat.le_of_ble_eq_true rfl)
  rw [lg_entry_eq]
  generalize (lg_sl ([.ref w0, .int (nI m0)]) ++ List.replicate (3 - (lg_sl ([.ref w0, .int (nI m0)])).length) Slot.unset).toArray = ls at hl ⊢
  have hl : lv_has ls 3 [(0, .ref w0), (1, .int (nI m0))] := hl
  obtain ⟨H, hH⟩ : ∃ H : Heap, H = s.heap := ⟨_, rfl⟩
  rw [← hH] at hP
  have hS : va_S A s.heap H [] := by rw [hH]; exact va_S.rf
  show W p l e _ s m _ below meth c s.heap [] 0 0 _ _
  rw [← hH]
  have hR := hG.R
  obtain ⟨i1, i2, i3, i4, i5, i6⟩ := hR.inb (r := m0 / 2) (by omega)
  have hk4 := hG.T.k400
  have j0 := (hR.cf (a.S (m0 / 2) + 1 - m0 % 2) (by omega)).2
  have j9 := fl_lt j0.1 j0.2
  refine lv_aload_n hx hb d_Wt_force_0 rfl (lv_at hl 0 rfl) ?_
  refine lv_iload_n hx hb d_Wt_force_1 rfl (lv_at hl 1 rfl) ?_
  have hPc := hP.sub (ws' := [(w0, .inr (5, [.ref h0, .ref t0, .ref v0, .ref v1])), (h0, .inr (2, [.ref g0, .ref g1, .ref g2, .int (nI a.n)])), (g0, .inl (y0, a.la, .inl a.sf)), (g1, .inl (y1, a.la, .inl a.kf)), (g2, .inl (y2, a.lc, .inl a.cf))]) [10, 0, 1, 2, 3] rfl
  have hDc := hD.sub (ws' := [(w0, .inr (5, [.ref h0, .ref t0, .ref v0, .ref v1])), (h0, .inr (2, [.ref g0, .ref g1, .ref g2, .int (nI a.n)])), (g0, .inl (y0, a.la, .inl a.sf)), (g1, .inl (y1, a.la, .inl a.kf)), (g2, .inl (y2, a.lc, .inl a.cf))]) [10, 0, 1, 2, 3] (by decide) rfl
  have hKc := hK.sub (tys' := [(y0, .int), (y1, .int), (y2, .int)]) [0, 1, 2] rfl
  have hFc := va_free (wc := [(w0, .inr (5, [.ref h0, .ref t0, .ref v0, .ref v1])), (h0, .inr (2, [.ref g0, .ref g1, .ref g2, .int (nI a.n)])), (g0, .inl (y0, a.la, .inl a.sf)), (g1, .inl (y1, a.la, .inl a.kf)), (g2, .inl (y2, a.lc, .inl a.cf))]) hD hS hA [10, 0, 1, 2, 3] rfl
  refine va_calli (va_runV (As := [.int (nI m0)]) (rest := []) ⟨hx, hb, hml, hown, hw⟩ (c_Wt_other l dC dI h0 g0 g1 g2 w0 t0 v0 v1 y0 y1 y2 H.size a m0 hR hm) (cb_V (C := R_Wt) 1 hw k_327 k_33 k_324 k_326 k_5 rfl rfl (by decide +kernel) ⟨Nat.le_of_ble_eq_true rfl, Nat.le_of_ble_eq_true rfl⟩) ⟨fun a U g mk q => by obtain ⟨q0, q1, qP, qK, qD⟩ := q; exact ⟨q0, q1, qP, va_K.moved (u := U) (U := U.calling g mk a) (Vm.Alike.refl U.vm) qK, qD⟩, va_recv hKc hPc (ci := 5) (q0 := 0) rfl rfl, fun U hU hW => ⟨rfl, by rw [hU], by rw [hU]; exact hPc, va_K.moved hW.alike hKc, hDc.weaken (fun _ _ _ _ => trivial)⟩⟩ rfl rfl hl.1 rfl (lv_room (Nat.le_of_ble_eq_true rfl)) d_Wt_force_2 ⟨Nat.le_of_ble_eq_true rfl, Nat.le_of_ble_eq_true rfl⟩) hS (fun q _ h => hFc q h) hFc (fun r_1 u t H1 locs ht hvm hw9 hB hz1 hk1 hS => ?_)
  obtain ⟨er9, hP1, hK1, hD1⟩ := hB
  rw [ht] at hP1
  have hK1 := va_K.moved hvm.symm hK1
  obtain ⟨hP, hD⟩ := va_join (wr := [(t0, .inr (4, [.ref u0, .ref u1, .ref u2, .ref u3, .ref u4, .int (nI d.k), .int (nI d.fo), .int (nI d.lev), .int (nI d.low)])), (u0, .inl (z0, 802, .inl d.tv)), (u1, .inl (z1, 401, .inl d.ov)), (u2, .inl (z2, 401, .inl d.lv)), (u3, .inl (z3, 401, .inl d.rv)), (u4, .inl (z4, 402, .inl d.sv)), (v0, .inl (x0, 802, .inl w.hd)), (v1, .inl (x1, w.nn, .inl w.nx))]) (w1 := [(w0, .inr (5, [.ref h0, .ref t0, .ref v0, .ref v1])), (h0, .inr (2, [.ref g0, .ref g1, .ref g2, .int (nI a.n)])), (g0, .inl (y0, a.la, .inl a.sf)), (g1, .inl (y1, a.la, .inl a.kf)), (g2, .inl (y2, a.lc, .inl a.cf))]) hP hD [10, 0, 1, 2, 3] [4, 5, 6, 7, 8, 9, 11, 12] rfl rfl (by decide) (by decide) hk1 hFc hP1 hD1
  generalize H1 = H at hP hS ⊢
  have hP : va_P (dC, dI) vwCl [(t0, .inr (4, [.ref u0, .ref u1, .ref u2, .ref u3, .ref u4, .int (nI d.k), .int (nI d.fo), .int (nI d.lev), .int (nI d.low)])), (u0, .inl (z0, 802, .inl d.tv)), (u1, .inl (z1, 401, .inl d.ov)), (u2, .inl (z2, 401, .inl d.lv)), (u3, .inl (z3, 401, .inl d.rv)), (u4, .inl (z4, 402, .inl d.sv)), (v0, .inl (x0, 802, .inl w.hd)), (v1, .inl (x1, w.nn, .inl w.nx)), (w0, .inr (5, [.ref h0, .ref t0, .ref v0, .ref v1])), (h0, .inr (2, [.ref g0, .ref g1, .ref g2, .int (nI a.n)])), (g0, .inl (y0, a.la, .inl a.sf)), (g1, .inl (y1, a.la, .inl a.kf)), (g2, .inl (y2, a.lc, .inl a.cf))] H := hP
  have hD : va_D A [(t0, .inr (4, [.ref u0, .ref u1, .ref u2, .ref u3, .ref u4, .int (nI d.k), .int (nI d.fo), .int (nI d.lev), .int (nI d.low)])), (u0, .inl (z0, 802, .inl d.tv)), (u1, .inl (z1, 401, .inl d.ov)), (u2, .inl (z2, 401, .inl d.lv)), (u3, .inl (z3, 401, .inl d.rv)), (u4, .inl (z4, 402, .inl d.sv)), (v0, .inl (x0, 802, .inl w.hd)), (v1, .inl (x1, w.nn, .inl w.nx)), (w0, .inr (5, [.ref h0, .ref t0, .ref v0, .ref v1])), (h0, .inr (2, [.ref g0, .ref g1, .ref g2, .int (nI a.n)])), (g0, .inl (y0, a.la, .inl a.sf)), (g1, .inl (y1, a.la, .inl a.kf)), (g2, .inl (y2, a.lc, .inl a.cf))] := hD
  refine W.widen (k := 0) (n := 0) (by decide) (by decide) ?_
  have hw9 : r_1 = nI (a.C (a.S (m0 / 2) + 1 - m0 % 2)) := hw9.trans er9
  subst hw9
  refine lv_istore_n (lv' := [(2, .int (nI (a.C (a.S (m0 / 2) + 1 - m0 % 2)))), (0, .ref w0), (1, .int (nI m0))]) hx hb d_Wt_force_5 rfl hl (by decide) rfl (fun ls hl => ?_)
  refine lv_aload_n hx hb d_Wt_force_6 rfl (lv_at hl 1 rfl) ?_
  refine va_get (D := (dC, dI)) (ci := 5) (v := .ref t0) (C := R_Wt) (T := F_Wt) (N := 4) hx hb hw in_Wt hown hK hP 8 rfl rfl 1 (by decide) (hw (Cond.fieldLink "ClauseSearch$Watch" 15 "ClauseSearch$Watch" "trail" "LClauseSearch$Trail;") k_152) (fun _ h9 => h9) rfl d_Wt_force_7 ?_
  refine va_getN (D := (dC, dI)) (ci := 4) (v := .ref u0) (C := R_Tr) (T := F_Tr) (N := 9) hx hb hw in_Tr hown hK hP 0 rfl rfl 0 (by decide) (hw (Cond.fieldLinkNest "ClauseSearch$Watch" 76 "ClauseSearch$Trail" "truth" "[B" "ClauseSearch") k_99) (fun _ h9 => h9) rfl d_Wt_force_10 ?_
  refine lv_iload_n hx hb d_Wt_force_13 rfl (lv_at hl 0 rfl) ?_
  refine va_bald hx hb hK hP 1 3 rfl rfl (vp_in_nI (by omega) (by omega)) d_Wt_force_14 ?_
  refine lv_topi (fun y_2 ey_2 => ?_)
  rw [nI_clamp (by omega)] at ey_2
  subst ey_2
  refine lv_iconst (v := 2) hx hb d_Wt_force_15 (by decide) ?_
  refine lv_icmp_ne (tgt := 23) hx hb d_Wt_force_16 (by decide) (fun c_16 => ?_) (fun c_16 => ?_)
  · refine lv_aload_n hx hb d_Wt_force_23 rfl (lv_at hl 1 rfl) ?_
    refine va_get (D := (dC, dI)) (ci := 5) (v := .ref t0) (C := R_Wt) (T := F_Wt) (N := 4) hx hb hw in_Wt hown hK hP 8 rfl rfl 1 (by decide) (hw (Cond.fieldLink "ClauseSearch$Watch" 15 "ClauseSearch$Watch" "trail" "LClauseSearch$Trail;") k_152) (fun _ h9 => h9) rfl d_Wt_force_24 ?_
    refine va_getN (D := (dC, dI)) (ci := 4) (v := .ref u0) (C := R_Tr) (T := F_Tr) (N := 9) hx hb hw in_Tr hown hK hP 0 rfl rfl 0 (by decide) (hw (Cond.fieldLinkNest "ClauseSearch$Watch" 76 "ClauseSearch$Trail" "truth" "[B" "ClauseSearch") k_99) (fun _ h9 => h9) rfl d_Wt_force_27 ?_
    refine lv_iload_n hx hb d_Wt_force_30 rfl (lv_at hl 0 rfl) ?_
    refine va_bald hx hb hK hP 1 3 rfl rfl (vp_in_nI (by omega) (by omega)) d_Wt_force_31 ?_
    refine lv_topi (fun y_3 ey_3 => ?_)
    rw [nI_clamp (by omega)] at ey_3
    subst ey_3
    refine lv_if_ne (tgt := 46) hx hb d_Wt_force_32 (by decide) (fun c_32 => ?_) (fun c_32 => ?_)
    · refine lv_iconst (v := (-1)) hx hb d_Wt_force_46 (by decide) ?_
      have hP := hP.sub (ws' := [(h0, .inr (2, [.ref g0, .ref g1, .ref g2, .int (nI a.n)])), (g0, .inl (y0, a.la, .inl a.sf)), (g1, .inl (y1, a.la, .inl a.kf)), (g2, .inl (y2, a.lc, .inl a.cf)), (t0, .inr (4, [.ref u0, .ref u1, .ref u2, .ref u3, .ref u4, .int (nI d.k), .int (nI d.fo), .int (nI d.lev), .int (nI d.low)])), (u0, .inl (z0, 802, .inl d.tv)), (u1, .inl (z1, 401, .inl d.ov)), (u2, .inl (z2, 401, .inl d.lv)), (u3, .inl (z3, 401, .inl d.rv)), (u4, .inl (z4, 402, .inl d.sv)), (w0, .inr (5, [.ref h0, .ref t0, .ref v0, .ref v1])), (v0, .inl (x0, 802, .inl w.hd)), (v1, .inl (x1, w.nn, .inl w.nx))]) [9, 10, 11, 12, 0, 1, 2, 3, 4, 5, 8, 6, 7] rfl
      have hD := hD.sub (ws' := [(h0, .inr (2, [.ref g0, .ref g1, .ref g2, .int (nI a.n)])), (g0, .inl (y0, a.la, .inl a.sf)), (g1, .inl (y1, a.la, .inl a.kf)), (g2, .inl (y2, a.lc, .inl a.cf)), (t0, .inr (4, [.ref u0, .ref u1, .ref u2, .ref u3, .ref u4, .int (nI d.k), .int (nI d.fo), .int (nI d.lev), .int (nI d.low)])), (u0, .inl (z0, 802, .inl d.tv)), (u1, .inl (z1, 401, .inl d.ov)), (u2, .inl (z2, 401, .inl d.lv)), (u3, .inl (z3, 401, .inl d.rv)), (u4, .inl (z4, 402, .inl d.sv)), (w0, .inr (5, [.ref h0, .ref t0, .ref v0, .ref v1])), (v0, .inl (x0, 802, .inl w.hd)), (v1, .inl (x1, w.nn, .inl w.nx))]) [9, 10, 11, 12, 0, 1, 2, 3, 4, 5, 8, 6, 7] (by decide) rfl
      have hK := hK.sub (tys' := [(y0, .int), (y1, .int), (y2, .int), (z0, .byte), (z1, .int), (z2, .int), (z3, .int), (z4, .int), (x0, .int), (x1, .int)]) [0, 1, 2, 3, 4, 5, 6, 7, 8, 9] rfl
      refine W.widen (k := 0) (n := 0) (by decide) (by decide) ?_
      exact W.iret (v := (-1)) hx hb hr (fun t ht hW => ⟨⟨(-1), (-1), rfl, rfl, d, hG, (Or.inl rfl), (Tle.refl d), by rw [ht]; exact hP, va_K.moved hW.alike hK, hD⟩, hS.F ht⟩) hS.2.2 d_Wt_force_47
    · refine lv_aload_n hx hb d_Wt_force_35 rfl (lv_at hl 1 rfl) ?_
      refine va_get (D := (dC, dI)) (ci := 5) (v := .ref t0) (C := R_Wt) (T := F_Wt) (N := 4) hx hb hw in_Wt hown hK hP 8 rfl rfl 1 (by decide) (hw (Cond.fieldLink "ClauseSearch$Watch" 15 "ClauseSearch$Watch" "trail" "LClauseSearch$Trail;") k_152) (fun _ h9 => h9) rfl d_Wt_force_36 ?_
      refine lv_iload_n hx hb d_Wt_force_39 rfl (lv_at hl 0 rfl) ?_
      refine lv_iload_n hx hb d_Wt_force_40 rfl (lv_at hl 2 rfl) ?_
      refine lv_iconst (v := nI 1) hx hb d_Wt_force_41 (by decide) ?_
      refine lv_ishr hx hb d_Wt_force_42 ?_
      refine lv_topi (fun y_4 ey_4 => ?_)
      obtain rfl : y_4 = nI (m0 / 2) := ey_4.trans (ni_shr (by omega))
      have hPc := hP.sub (ws' := [(t0, .inr (4, [.ref u0, .ref u1, .ref u2, .ref u3, .ref u4, .int (nI d.k), .int (nI d.fo), .int (nI d.lev), .int (nI d.low)])), (u0, .inl (z0, 802, .inl d.tv)), (u1, .inl (z1, 401, .inl d.ov)), (u2, .inl (z2, 401, .inl d.lv)), (u3, .inl (z3, 401, .inl d.rv))]) [0, 1, 2, 3, 4] rfl
      have hDc := hD.sub (ws' := [(t0, .inr (4, [.ref u0, .ref u1, .ref u2, .ref u3, .ref u4, .int (nI d.k), .int (nI d.fo), .int (nI d.lev), .int (nI d.low)])), (u0, .inl (z0, 802, .inl d.tv)), (u1, .inl (z1, 401, .inl d.ov)), (u2, .inl (z2, 401, .inl d.lv)), (u3, .inl (z3, 401, .inl d.rv))]) [0, 1, 2, 3, 4] (by decide) rfl
      have hKc := hK.sub (tys' := [(z0, .byte), (z1, .int), (z2, .int), (z3, .int)]) [3, 4, 5, 6] rfl
      have hFc := va_free (wc := [(t0, .inr (4, [.ref u0, .ref u1, .ref u2, .ref u3, .ref u4, .int (nI d.k), .int (nI d.fo), .int (nI d.lev), .int (nI d.low)])), (u0, .inl (z0, 802, .inl d.tv)), (u1, .inl (z1, 401, .inl d.ov)), (u2, .inl (z2, 401, .inl d.lv)), (u3, .inl (z3, 401, .inl d.rv))]) hD hS hA [0, 1, 2, 3, 4] rfl
      refine va_callv (va_runV (As := [.int (nI (a.C (a.S (m0 / 2) + 1 - m0 % 2))), .int (nI (m0 / 2))]) (rest := []) ⟨hx, hb, hml, hown, hw⟩ (c_Tr_put l dC dI t0 u0 u1 u2 u3 u4 z0 z1 z2 z3 H.size d.k d.fo d.lev d.low d.tv d.ov d.lv d.rv (a.C (a.S (m0 / 2) + 1 - m0 % 2)) (nI (m0 / 2)) j0.2 j9.2 (by omega)) (cb_V (C := R_Tr) 2 hw k_306 k_32 k_332 k_304 k_305 rfl rfl (by decide +kernel) ⟨Nat.le_of_ble_eq_true rfl, Nat.le_of_ble_eq_true rfl⟩) ⟨fun a U g mk q => by obtain ⟨q0, q1, qP, qK, qD⟩ := q; exact ⟨q0, q1, qP, va_K.moved (u := U) (U := U.calling g mk a) (Vm.Alike.refl U.vm) qK, qD⟩, va_recv hKc hPc (ci := 4) (q0 := 0) rfl rfl, fun U hU hW => ⟨rfl, by rw [hU], by rw [hU]; exact hPc, va_K.moved hW.alike hKc, hDc.weaken (fun _ _ _ _ => trivial)⟩⟩ rfl rfl hl.1 rfl (lv_room (Nat.le_of_ble_eq_true rfl)) d_Wt_force_43 ⟨Nat.le_of_ble_eq_true rfl, Nat.le_of_ble_eq_true rfl⟩) hS (fun q _ h => hFc q h) hFc (fun u t H1 locs ht hvm hw9 hB hz1 hk1 hS => ?_)
      obtain ⟨hP1, hK1, hD1⟩ := hB
      rw [ht] at hP1
      have hK1 := va_K.moved hvm.symm hK1
      obtain ⟨hP, hD⟩ := va_join (wr := [(u4, .inl (z4, 402, .inl d.sv)), (v0, .inl (x0, 802, .inl w.hd)), (v1, .inl (x1, w.nn, .inl w.nx)), (w0, .inr (5, [.ref h0, .ref t0, .ref v0, .ref v1])), (h0, .inr (2, [.ref g0, .ref g1, .ref g2, .int (nI a.n)])), (g0, .inl (y0, a.la, .inl a.sf)), (g1, .inl (y1, a.la, .inl a.kf)), (g2, .inl (y2, a.lc, .inl a.cf))]) (w1 := [(t0, .inr (4, [.ref u0, .ref u1, .ref u2, .ref u3, .ref u4, .int (nI (d.k + 1)), .int (nI d.fo), .int (nI d.lev), .int (nI d.low)])), (u0, .inl (z0, 802, .inl (upd (upd d.tv (a.C (a.S (m0 / 2) + 1 - m0 % 2)) 1) (fl (a.C (a.S (m0 / 2) + 1 - m0 % 2))) 2))), (u1, .inl (z1, 401, .inl (upd d.ov d.k (nI (a.C (a.S (m0 / 2) + 1 - m0 % 2)))))), (u2, .inl (z2, 401, .inl (upd d.lv ((a.C (a.S (m0 / 2) + 1 - m0 % 2)) / 2) (nI d.lev)))), (u3, .inl (z3, 401, .inl (upd d.rv ((a.C (a.S (m0 / 2) + 1 - m0 % 2)) / 2) (nI (m0 / 2)))))]) hP hD [0, 1, 2, 3, 4] [5, 6, 7, 8, 9, 10, 11, 12] rfl rfl (by decide) (by decide) hk1 hFc hP1 hD1
      generalize H1 = H at hP hS ⊢
      have hP : va_P (dC, dI) vwCl [(u4, .inl (z4, 402, .inl d.sv)), (v0, .inl (x0, 802, .inl w.hd)), (v1, .inl (x1, w.nn, .inl w.nx)), (w0, .inr (5, [.ref h0, .ref t0, .ref v0, .ref v1])), (h0, .inr (2, [.ref g0, .ref g1, .ref g2, .int (nI a.n)])), (g0, .inl (y0, a.la, .inl a.sf)), (g1, .inl (y1, a.la, .inl a.kf)), (g2, .inl (y2, a.lc, .inl a.cf)), (t0, .inr (4, [.ref u0, .ref u1, .ref u2, .ref u3, .ref u4, .int (nI (d.k + 1)), .int (nI d.fo), .int (nI d.lev), .int (nI d.low)])), (u0, .inl (z0, 802, .inl (upd (upd d.tv (a.C (a.S (m0 / 2) + 1 - m0 % 2)) 1) (fl (a.C (a.S (m0 / 2) + 1 - m0 % 2))) 2))), (u1, .inl (z1, 401, .inl (upd d.ov d.k (nI (a.C (a.S (m0 / 2) + 1 - m0 % 2)))))), (u2, .inl (z2, 401, .inl (upd d.lv ((a.C (a.S (m0 / 2) + 1 - m0 % 2)) / 2) (nI d.lev)))), (u3, .inl (z3, 401, .inl (upd d.rv ((a.C (a.S (m0 / 2) + 1 - m0 % 2)) / 2) (nI (m0 / 2)))))] H := hP
      have hD : va_D A [(u4, .inl (z4, 402, .inl d.sv)), (v0, .inl (x0, 802, .inl w.hd)), (v1, .inl (x1, w.nn, .inl w.nx)), (w0, .inr (5, [.ref h0, .ref t0, .ref v0, .ref v1])), (h0, .inr (2, [.ref g0, .ref g1, .ref g2, .int (nI a.n)])), (g0, .inl (y0, a.la, .inl a.sf)), (g1, .inl (y1, a.la, .inl a.kf)), (g2, .inl (y2, a.lc, .inl a.cf)), (t0, .inr (4, [.ref u0, .ref u1, .ref u2, .ref u3, .ref u4, .int (nI (d.k + 1)), .int (nI d.fo), .int (nI d.lev), .int (nI d.low)])), (u0, .inl (z0, 802, .inl (upd (upd d.tv (a.C (a.S (m0 / 2) + 1 - m0 % 2)) 1) (fl (a.C (a.S (m0 / 2) + 1 - m0 % 2))) 2))), (u1, .inl (z1, 401, .inl (upd d.ov d.k (nI (a.C (a.S (m0 / 2) + 1 - m0 % 2)))))), (u2, .inl (z2, 401, .inl (upd d.lv ((a.C (a.S (m0 / 2) + 1 - m0 % 2)) / 2) (nI d.lev)))), (u3, .inl (z3, 401, .inl (upd d.rv ((a.C (a.S (m0 / 2) + 1 - m0 % 2)) / 2) (nI (m0 / 2)))))] := hD
      refine W.widen (k := 0) (n := 0) (by decide) (by decide) ?_
      refine lv_iconst (v := (-1)) hx hb d_Wt_force_46 (by decide) ?_
      have hP := hP.sub (ws' := [(h0, .inr (2, [.ref g0, .ref g1, .ref g2, .int (nI a.n)])), (g0, .inl (y0, a.la, .inl a.sf)), (g1, .inl (y1, a.la, .inl a.kf)), (g2, .inl (y2, a.lc, .inl a.cf)), (t0, .inr (4, [.ref u0, .ref u1, .ref u2, .ref u3, .ref u4, .int (nI (Tput d (a.C (a.S (m0 / 2) + 1 - m0 % 2)) (nI (m0 / 2))).k), .int (nI (Tput d (a.C (a.S (m0 / 2) + 1 - m0 % 2)) (nI (m0 / 2))).fo), .int (nI (Tput d (a.C (a.S (m0 / 2) + 1 - m0 % 2)) (nI (m0 / 2))).lev), .int (nI (Tput d (a.C (a.S (m0 / 2) + 1 - m0 % 2)) (nI (m0 / 2))).low)])), (u0, .inl (z0, 802, .inl (Tput d (a.C (a.S (m0 / 2) + 1 - m0 % 2)) (nI (m0 / 2))).tv)), (u1, .inl (z1, 401, .inl (Tput d (a.C (a.S (m0 / 2) + 1 - m0 % 2)) (nI (m0 / 2))).ov)), (u2, .inl (z2, 401, .inl (Tput d (a.C (a.S (m0 / 2) + 1 - m0 % 2)) (nI (m0 / 2))).lv)), (u3, .inl (z3, 401, .inl (Tput d (a.C (a.S (m0 / 2) + 1 - m0 % 2)) (nI (m0 / 2))).rv)), (u4, .inl (z4, 402, .inl (Tput d (a.C (a.S (m0 / 2) + 1 - m0 % 2)) (nI (m0 / 2))).sv)), (w0, .inr (5, [.ref h0, .ref t0, .ref v0, .ref v1])), (v0, .inl (x0, 802, .inl w.hd)), (v1, .inl (x1, w.nn, .inl w.nx))]) [4, 5, 6, 7, 8, 9, 10, 11, 12, 0, 3, 1, 2] rfl
      have hD := hD.sub (ws' := [(h0, .inr (2, [.ref g0, .ref g1, .ref g2, .int (nI a.n)])), (g0, .inl (y0, a.la, .inl a.sf)), (g1, .inl (y1, a.la, .inl a.kf)), (g2, .inl (y2, a.lc, .inl a.cf)), (t0, .inr (4, [.ref u0, .ref u1, .ref u2, .ref u3, .ref u4, .int (nI (Tput d (a.C (a.S (m0 / 2) + 1 - m0 % 2)) (nI (m0 / 2))).k), .int (nI (Tput d (a.C (a.S (m0 / 2) + 1 - m0 % 2)) (nI (m0 / 2))).fo), .int (nI (Tput d (a.C (a.S (m0 / 2) + 1 - m0 % 2)) (nI (m0 / 2))).lev), .int (nI (Tput d (a.C (a.S (m0 / 2) + 1 - m0 % 2)) (nI (m0 / 2))).low)])), (u0, .inl (z0, 802, .inl (Tput d (a.C (a.S (m0 / 2) + 1 - m0 % 2)) (nI (m0 / 2))).tv)), (u1, .inl (z1, 401, .inl (Tput d (a.C (a.S (m0 / 2) + 1 - m0 % 2)) (nI (m0 / 2))).ov)), (u2, .inl (z2, 401, .inl (Tput d (a.C (a.S (m0 / 2) + 1 - m0 % 2)) (nI (m0 / 2))).lv)), (u3, .inl (z3, 401, .inl (Tput d (a.C (a.S (m0 / 2) + 1 - m0 % 2)) (nI (m0 / 2))).rv)), (u4, .inl (z4, 402, .inl (Tput d (a.C (a.S (m0 / 2) + 1 - m0 % 2)) (nI (m0 / 2))).sv)), (w0, .inr (5, [.ref h0, .ref t0, .ref v0, .ref v1])), (v0, .inl (x0, 802, .inl w.hd)), (v1, .inl (x1, w.nn, .inl w.nx))]) [4, 5, 6, 7, 8, 9, 10, 11, 12, 0, 3, 1, 2] (by decide) rfl
      have hK := hK.sub (tys' := [(y0, .int), (y1, .int), (y2, .int), (z0, .byte), (z1, .int), (z2, .int), (z3, .int), (z4, .int), (x0, .int), (x1, .int)]) [0, 1, 2, 3, 4, 5, 6, 7, 8, 9] rfl
      refine W.widen (k := 0) (n := 0) (by decide) (by decide) ?_
      exact W.iret (v := (-1)) hx hb hr (fun t ht hW => ⟨⟨(-1), (-1), rfl, rfl, (Tput d (a.C (a.S (m0 / 2) + 1 - m0 % 2)) (nI (m0 / 2))), (f_put hG hm hn rfl c_32 hq), (Or.inl rfl), (Tle.put d _ _), by rw [ht]; exact hP, va_K.moved hW.alike hK, hD⟩, hS.F ht⟩) hS.2.2 d_Wt_force_47
  · refine lv_iload_n hx hb d_Wt_force_19 rfl (lv_at hl 2 rfl) ?_
    refine lv_iconst (v := nI 1) hx hb d_Wt_force_20 (by decide) ?_
    refine lv_ishr hx hb d_Wt_force_21 ?_
    refine lv_topi (fun y_5 ey_5 => ?_)
    obtain rfl : y_5 = nI (m0 / 2) := ey_5.trans (ni_shr (by omega))
    have hP := hP.sub (ws' := [(h0, .inr (2, [.ref g0, .ref g1, .ref g2, .int (nI a.n)])), (g0, .inl (y0, a.la, .inl a.sf)), (g1, .inl (y1, a.la, .inl a.kf)), (g2, .inl (y2, a.lc, .inl a.cf)), (t0, .inr (4, [.ref u0, .ref u1, .ref u2, .ref u3, .ref u4, .int (nI d.k), .int (nI d.fo), .int (nI d.lev), .int (nI d.low)])), (u0, .inl (z0, 802, .inl d.tv)), (u1, .inl (z1, 401, .inl d.ov)), (u2, .inl (z2, 401, .inl d.lv)), (u3, .inl (z3, 401, .inl d.rv)), (u4, .inl (z4, 402, .inl d.sv)), (w0, .inr (5, [.ref h0, .ref t0, .ref v0, .ref v1])), (v0, .inl (x0, 802, .inl w.hd)), (v1, .inl (x1, w.nn, .inl w.nx))]) [9, 10, 11, 12, 0, 1, 2, 3, 4, 5, 8, 6, 7] rfl
    have hD := hD.sub (ws' := [(h0, .inr (2, [.ref g0, .ref g1, .ref g2, .int (nI a.n)])), (g0, .inl (y0, a.la, .inl a.sf)), (g1, .inl (y1, a.la, .inl a.kf)), (g2, .inl (y2, a.lc, .inl a.cf)), (t0, .inr (4, [.ref u0, .ref u1, .ref u2, .ref u3, .ref u4, .int (nI d.k), .int (nI d.fo), .int (nI d.lev), .int (nI d.low)])), (u0, .inl (z0, 802, .inl d.tv)), (u1, .inl (z1, 401, .inl d.ov)), (u2, .inl (z2, 401, .inl d.lv)), (u3, .inl (z3, 401, .inl d.rv)), (u4, .inl (z4, 402, .inl d.sv)), (w0, .inr (5, [.ref h0, .ref t0, .ref v0, .ref v1])), (v0, .inl (x0, 802, .inl w.hd)), (v1, .inl (x1, w.nn, .inl w.nx))]) [9, 10, 11, 12, 0, 1, 2, 3, 4, 5, 8, 6, 7] (by decide) rfl
    have hK := hK.sub (tys' := [(y0, .int), (y1, .int), (y2, .int), (z0, .byte), (z1, .int), (z2, .int), (z3, .int), (z4, .int), (x0, .int), (x1, .int)]) [0, 1, 2, 3, 4, 5, 6, 7, 8, 9] rfl
    refine W.widen (k := 0) (n := 0) (by decide) (by decide) ?_
    exact W.iret (v := nI (m0 / 2)) hx hb hr (fun t ht hW => ⟨⟨nI (m0 / 2), nI (m0 / 2), rfl, rfl, d, hG, (f_bad hR hm hn c_16 hq), (Tle.refl d), by rw [ht]; exact hP, va_K.moved hW.alike hK, hD⟩, hS.F ht⟩) hS.2.2 d_Wt_force_22
