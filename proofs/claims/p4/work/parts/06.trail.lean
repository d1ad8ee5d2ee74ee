abbrev y_Tr_put : MethodName := ⟨"ClauseSearch$Trail", "put", "(II)V"⟩
abbrev y_Tr_tryOut : MethodName := ⟨"ClauseSearch$Trail", "tryOut", "(I)V"⟩
abbrev y_Tr_shrink : MethodName := ⟨"ClauseSearch$Trail", "shrink", "(I)V"⟩
abbrev y_Tr_clear : MethodName := ⟨"ClauseSearch$Trail", "clear", "()V"⟩
abbrev y_Tr_backTo : MethodName := ⟨"ClauseSearch$Trail", "backTo", "(I)V"⟩
abbrev y_Tr_lowestUnknown : MethodName := ⟨"ClauseSearch$Trail", "lowestUnknown", "(I)I"⟩
theorem k_0 : (Cond.selects "ClauseSearch$Trail" ⟨"ClauseSearch$Trail", "shrink", "(I)V"⟩ ⟨"ClauseSearch$Trail", "shrink", "(I)V"⟩) ∈ bg_W := bg_in 0 (by decide +kernel) (by decide +kernel)
theorem k_32 : (Cond.initialized "ClauseSearch$Trail") ∈ bg_W := bg_in 32 (by decide +kernel) (by decide +kernel)
theorem k_44 : (Cond.initialized "java/lang/Math") ∈ bg_W := bg_in 44 (by decide +kernel) (by decide +kernel)
theorem k_96 : (Cond.fieldLink "ClauseSearch$Trail" 9 "ClauseSearch$Trail" "truth" "[B") ∈ bg_W := bg_in 96 (by decide +kernel) (by decide +kernel)
theorem k_100 : (Cond.fieldLink "ClauseSearch$Trail" 15 "ClauseSearch$Trail" "order" "[I") ∈ bg_W := bg_in 100 (by decide +kernel) (by decide +kernel)
theorem k_103 : (Cond.fieldLink "ClauseSearch$Trail" 19 "ClauseSearch$Trail" "levelOf" "[I") ∈ bg_W := bg_in 103 (by decide +kernel) (by decide +kernel)
theorem k_105 : (Cond.fieldLink "ClauseSearch$Trail" 22 "ClauseSearch$Trail" "reason" "[I") ∈ bg_W := bg_in 105 (by decide +kernel) (by decide +kernel)
theorem k_108 : (Cond.fieldLink "ClauseSearch$Trail" 25 "ClauseSearch$Trail" "levelStart" "[I") ∈ bg_W := bg_in 108 (by decide +kernel) (by decide +kernel)
theorem k_110 : (Cond.fieldLink "ClauseSearch$Trail" 35 "ClauseSearch$Trail" "size" "I") ∈ bg_W := bg_in 110 (by decide +kernel) (by decide +kernel)
theorem k_113 : (Cond.fieldLink "ClauseSearch$Trail" 52 "ClauseSearch$Trail" "followed" "I") ∈ bg_W := bg_in 113 (by decide +kernel) (by decide +kernel)
theorem k_114 : (Cond.fieldLink "ClauseSearch$Trail" 32 "ClauseSearch$Trail" "level" "I") ∈ bg_W := bg_in 114 (by decide +kernel) (by decide +kernel)
theorem k_117 : (Cond.fieldLink "ClauseSearch$Trail" 28 "ClauseSearch$Trail" "lowest" "I") ∈ bg_W := bg_in 117 (by decide +kernel) (by decide +kernel)
theorem k_292 : (Cond.methodLink "ClauseSearch$Trail" 42 ⟨"ClauseSearch$Trail", "shrink", "(I)V"⟩) ∈ bg_W := bg_in 292 (by decide +kernel) (by decide +kernel)
theorem k_294 : (Cond.instanceMethod ⟨"ClauseSearch$Trail", "shrink", "(I)V"⟩) ∈ bg_W := bg_in 294 (by decide +kernel) (by decide +kernel)
theorem k_295 : (Cond.code ⟨"ClauseSearch$Trail", "shrink", "(I)V"⟩ prog_6_method_6_code 3 none) ∈ bg_W := bg_in 295 (by decide +kernel) (by decide +kernel)
theorem k_296 : (Cond.methodLink "ClauseSearch$Trail" 46 ⟨"java/lang/Math", "min", "(II)I"⟩) ∈ bg_W := bg_in 296 (by decide +kernel) (by decide +kernel)
theorem k_297 : (Cond.static ⟨"java/lang/Math", "min", "(II)I"⟩) ∈ bg_W := bg_in 297 (by decide +kernel) (by decide +kernel)
theorem k_298 : (Cond.code ⟨"java/lang/Math", "min", "(II)I"⟩ prog_15_method_69_code 2 (some .int)) ∈ bg_W := bg_in 298 (by decide +kernel) (by decide +kernel)
theorem k_304 : (Cond.instanceMethod ⟨"ClauseSearch$Trail", "put", "(II)V"⟩) ∈ bg_W := bg_in 304 (by decide +kernel) (by decide +kernel)
theorem k_305 : (Cond.selects "ClauseSearch$Trail" ⟨"ClauseSearch$Trail", "put", "(II)V"⟩ ⟨"ClauseSearch$Trail", "put", "(II)V"⟩) ∈ bg_W := bg_in 305 (by decide +kernel) (by decide +kernel)
theorem k_306 : (Cond.code ⟨"ClauseSearch$Trail", "put", "(II)V"⟩ prog_6_method_2_code 3 none) ∈ bg_W := bg_in 306 (by decide +kernel) (by decide +kernel)
theorem k_424 : (Cond.methodLink "ClauseSearch$Trail" 38 ⟨"ClauseSearch$Trail", "put", "(II)V"⟩) ∈ bg_W := bg_in 424 (by decide +kernel) (by decide +kernel)
theorem d_Tr_put_0 : decode prog_6_method_2_code 0 = .ok (.aload_n 0, 1) := by decide +kernel
theorem d_Tr_put_1 : decode prog_6_method_2_code 1 = .ok (.getfield 9, 3) := by decide +kernel
theorem d_Tr_put_4 : decode prog_6_method_2_code 4 = .ok (.iload_n 1, 1) := by decide +kernel
theorem d_Tr_put_5 : decode prog_6_method_2_code 5 = .ok (.iconst 1, 1) := by decide +kernel
theorem d_Tr_put_6 : decode prog_6_method_2_code 6 = .ok (.bastore, 1) := by decide +kernel
theorem d_Tr_put_7 : decode prog_6_method_2_code 7 = .ok (.aload_n 0, 1) := by decide +kernel
theorem d_Tr_put_8 : decode prog_6_method_2_code 8 = .ok (.getfield 9, 3) := by decide +kernel
theorem d_Tr_put_11 : decode prog_6_method_2_code 11 = .ok (.iload_n 1, 1) := by decide +kernel
theorem d_Tr_put_12 : decode prog_6_method_2_code 12 = .ok (.iconst 1, 1) := by decide +kernel
theorem d_Tr_put_13 : decode prog_6_method_2_code 13 = .ok (.ixor, 1) := by decide +kernel
theorem d_Tr_put_14 : decode prog_6_method_2_code 14 = .ok (.iconst 2, 1) := by decide +kernel
theorem d_Tr_put_15 : decode prog_6_method_2_code 15 = .ok (.bastore, 1) := by decide +kernel
theorem d_Tr_put_16 : decode prog_6_method_2_code 16 = .ok (.aload_n 0, 1) := by decide +kernel
theorem d_Tr_put_17 : decode prog_6_method_2_code 17 = .ok (.getfield 19, 3) := by decide +kernel
theorem d_Tr_put_20 : decode prog_6_method_2_code 20 = .ok (.iload_n 1, 1) := by decide +kernel
theorem d_Tr_put_21 : decode prog_6_method_2_code 21 = .ok (.iconst 1, 1) := by decide +kernel
theorem d_Tr_put_22 : decode prog_6_method_2_code 22 = .ok (.ishr, 1) := by decide +kernel
theorem d_Tr_put_23 : decode prog_6_method_2_code 23 = .ok (.aload_n 0, 1) := by decide +kernel
theorem d_Tr_put_24 : decode prog_6_method_2_code 24 = .ok (.getfield 32, 3) := by decide +kernel
theorem d_Tr_put_27 : decode prog_6_method_2_code 27 = .ok (.iastore, 1) := by decide +kernel
theorem d_Tr_put_28 : decode prog_6_method_2_code 28 = .ok (.aload_n 0, 1) := by decide +kernel
theorem d_Tr_put_29 : decode prog_6_method_2_code 29 = .ok (.getfield 22, 3) := by decide +kernel
theorem d_Tr_put_32 : decode prog_6_method_2_code 32 = .ok (.iload_n 1, 1) := by decide +kernel
theorem d_Tr_put_33 : decode prog_6_method_2_code 33 = .ok (.iconst 1, 1) := by decide +kernel
theorem d_Tr_put_34 : decode prog_6_method_2_code 34 = .ok (.ishr, 1) := by decide +kernel
theorem d_Tr_put_35 : decode prog_6_method_2_code 35 = .ok (.iload_n 2, 1) := by decide +kernel
theorem d_Tr_put_36 : decode prog_6_method_2_code 36 = .ok (.iastore, 1) := by decide +kernel
theorem d_Tr_put_37 : decode prog_6_method_2_code 37 = .ok (.aload_n 0, 1) := by decide +kernel
theorem d_Tr_put_38 : decode prog_6_method_2_code 38 = .ok (.getfield 15, 3) := by decide +kernel
theorem d_Tr_put_41 : decode prog_6_method_2_code 41 = .ok (.aload_n 0, 1) := by decide +kernel
theorem d_Tr_put_42 : decode prog_6_method_2_code 42 = .ok (.getfield 35, 3) := by decide +kernel
theorem d_Tr_put_45 : decode prog_6_method_2_code 45 = .ok (.iload_n 1, 1) := by decide +kernel
theorem d_Tr_put_46 : decode prog_6_method_2_code 46 = .ok (.iastore, 1) := by decide +kernel
theorem d_Tr_put_47 : decode prog_6_method_2_code 47 = .ok (.aload_n 0, 1) := by decide +kernel
theorem d_Tr_put_48 : decode prog_6_method_2_code 48 = .ok (.dup, 1) := by decide +kernel
theorem d_Tr_put_49 : decode prog_6_method_2_code 49 = .ok (.getfield 35, 3) := by decide +kernel
theorem d_Tr_put_52 : decode prog_6_method_2_code 52 = .ok (.iconst 1, 1) := by decide +kernel
theorem d_Tr_put_53 : decode prog_6_method_2_code 53 = .ok (.iadd, 1) := by decide +kernel
theorem d_Tr_put_54 : decode prog_6_method_2_code 54 = .ok (.putfield 35, 3) := by decide +kernel
theorem d_Tr_put_57 : decode prog_6_method_2_code 57 = .ok (.return_, 1) := by decide +kernel
theorem d_Tr_tryOut_0 : decode prog_6_method_3_code 0 = .ok (.aload_n 0, 1) := by decide +kernel
theorem d_Tr_tryOut_1 : decode prog_6_method_3_code 1 = .ok (.dup, 1) := by decide +kernel
theorem d_Tr_tryOut_2 : decode prog_6_method_3_code 2 = .ok (.getfield 32, 3) := by decide +kernel
theorem d_Tr_tryOut_5 : decode prog_6_method_3_code 5 = .ok (.iconst 1, 1) := by decide +kernel
theorem d_Tr_tryOut_6 : decode prog_6_method_3_code 6 = .ok (.iadd, 1) := by decide +kernel
theorem d_Tr_tryOut_7 : decode prog_6_method_3_code 7 = .ok (.putfield 32, 3) := by decide +kernel
theorem d_Tr_tryOut_10 : decode prog_6_method_3_code 10 = .ok (.aload_n 0, 1) := by decide +kernel
theorem d_Tr_tryOut_11 : decode prog_6_method_3_code 11 = .ok (.getfield 25, 3) := by decide +kernel
theorem d_Tr_tryOut_14 : decode prog_6_method_3_code 14 = .ok (.aload_n 0, 1) := by decide +kernel
theorem d_Tr_tryOut_15 : decode prog_6_method_3_code 15 = .ok (.getfield 32, 3) := by decide +kernel
theorem d_Tr_tryOut_18 : decode prog_6_method_3_code 18 = .ok (.aload_n 0, 1) := by decide +kernel
theorem d_Tr_tryOut_19 : decode prog_6_method_3_code 19 = .ok (.getfield 35, 3) := by decide +kernel
theorem d_Tr_tryOut_22 : decode prog_6_method_3_code 22 = .ok (.iastore, 1) := by decide +kernel
theorem d_Tr_tryOut_23 : decode prog_6_method_3_code 23 = .ok (.aload_n 0, 1) := by decide +kernel
theorem d_Tr_tryOut_24 : decode prog_6_method_3_code 24 = .ok (.iload_n 1, 1) := by decide +kernel
theorem d_Tr_tryOut_25 : decode prog_6_method_3_code 25 = .ok (.iconst (-1), 1) := by decide +kernel
theorem d_Tr_tryOut_26 : decode prog_6_method_3_code 26 = .ok (.invokevirtual 38, 3) := by decide +kernel
theorem d_Tr_tryOut_29 : decode prog_6_method_3_code 29 = .ok (.return_, 1) := by decide +kernel
theorem d_Tr_shrink_0 : decode prog_6_method_6_code 0 = .ok (.aload_n 0, 1) := by decide +kernel
theorem d_Tr_shrink_1 : decode prog_6_method_6_code 1 = .ok (.getfield 35, 3) := by decide +kernel
theorem d_Tr_shrink_4 : decode prog_6_method_6_code 4 = .ok (.iload_n 1, 1) := by decide +kernel
theorem d_Tr_shrink_5 : decode prog_6_method_6_code 5 = .ok (.if_icmp .le 58, 3) := by decide +kernel
theorem d_Tr_shrink_8 : decode prog_6_method_6_code 8 = .ok (.aload_n 0, 1) := by decide +kernel
theorem d_Tr_shrink_9 : decode prog_6_method_6_code 9 = .ok (.getfield 15, 3) := by decide +kernel
theorem d_Tr_shrink_12 : decode prog_6_method_6_code 12 = .ok (.aload_n 0, 1) := by decide +kernel
theorem d_Tr_shrink_13 : decode prog_6_method_6_code 13 = .ok (.getfield 35, 3) := by decide +kernel
theorem d_Tr_shrink_16 : decode prog_6_method_6_code 16 = .ok (.iconst 1, 1) := by decide +kernel
theorem d_Tr_shrink_17 : decode prog_6_method_6_code 17 = .ok (.isub, 1) := by decide +kernel
theorem d_Tr_shrink_18 : decode prog_6_method_6_code 18 = .ok (.iaload, 1) := by decide +kernel
theorem d_Tr_shrink_19 : decode prog_6_method_6_code 19 = .ok (.istore_n 2, 1) := by decide +kernel
theorem d_Tr_shrink_20 : decode prog_6_method_6_code 20 = .ok (.aload_n 0, 1) := by decide +kernel
theorem d_Tr_shrink_21 : decode prog_6_method_6_code 21 = .ok (.getfield 9, 3) := by decide +kernel
theorem d_Tr_shrink_24 : decode prog_6_method_6_code 24 = .ok (.iload_n 2, 1) := by decide +kernel
theorem d_Tr_shrink_25 : decode prog_6_method_6_code 25 = .ok (.iconst 0, 1) := by decide +kernel
theorem d_Tr_shrink_26 : decode prog_6_method_6_code 26 = .ok (.bastore, 1) := by decide +kernel
theorem d_Tr_shrink_27 : decode prog_6_method_6_code 27 = .ok (.aload_n 0, 1) := by decide +kernel
theorem d_Tr_shrink_28 : decode prog_6_method_6_code 28 = .ok (.getfield 9, 3) := by decide +kernel
theorem d_Tr_shrink_31 : decode prog_6_method_6_code 31 = .ok (.iload_n 2, 1) := by decide +kernel
theorem d_Tr_shrink_32 : decode prog_6_method_6_code 32 = .ok (.iconst 1, 1) := by decide +kernel
theorem d_Tr_shrink_33 : decode prog_6_method_6_code 33 = .ok (.ixor, 1) := by decide +kernel
theorem d_Tr_shrink_34 : decode prog_6_method_6_code 34 = .ok (.iconst 0, 1) := by decide +kernel
theorem d_Tr_shrink_35 : decode prog_6_method_6_code 35 = .ok (.bastore, 1) := by decide +kernel
theorem d_Tr_shrink_36 : decode prog_6_method_6_code 36 = .ok (.aload_n 0, 1) := by decide +kernel
theorem d_Tr_shrink_37 : decode prog_6_method_6_code 37 = .ok (.aload_n 0, 1) := by decide +kernel
theorem d_Tr_shrink_38 : decode prog_6_method_6_code 38 = .ok (.getfield 28, 3) := by decide +kernel
theorem d_Tr_shrink_41 : decode prog_6_method_6_code 41 = .ok (.iload_n 2, 1) := by decide +kernel
theorem d_Tr_shrink_42 : decode prog_6_method_6_code 42 = .ok (.iconst 1, 1) := by decide +kernel
theorem d_Tr_shrink_43 : decode prog_6_method_6_code 43 = .ok (.ishr, 1) := by decide +kernel
theorem d_Tr_shrink_44 : decode prog_6_method_6_code 44 = .ok (.invokestatic 46, 3) := by decide +kernel
theorem d_Tr_shrink_47 : decode prog_6_method_6_code 47 = .ok (.putfield 28, 3) := by decide +kernel
theorem d_Tr_shrink_50 : decode prog_6_method_6_code 50 = .ok (.aload_n 0, 1) := by decide +kernel
theorem d_Tr_shrink_51 : decode prog_6_method_6_code 51 = .ok (.dup, 1) := by decide +kernel
theorem d_Tr_shrink_52 : decode prog_6_method_6_code 52 = .ok (.getfield 35, 3) := by decide +kernel
theorem d_Tr_shrink_55 : decode prog_6_method_6_code 55 = .ok (.iconst 1, 1) := by decide +kernel
theorem d_Tr_shrink_56 : decode prog_6_method_6_code 56 = .ok (.isub, 1) := by decide +kernel
theorem d_Tr_shrink_57 : decode prog_6_method_6_code 57 = .ok (.putfield 35, 3) := by decide +kernel
theorem d_Tr_shrink_60 : decode prog_6_method_6_code 60 = .ok (.goto (-60), 3) := by decide +kernel
theorem d_Tr_shrink_63 : decode prog_6_method_6_code 63 = .ok (.aload_n 0, 1) := by decide +kernel
theorem d_Tr_shrink_64 : decode prog_6_method_6_code 64 = .ok (.aload_n 0, 1) := by decide +kernel
theorem d_Tr_shrink_65 : decode prog_6_method_6_code 65 = .ok (.getfield 52, 3) := by decide +kernel
theorem d_Tr_shrink_68 : decode prog_6_method_6_code 68 = .ok (.aload_n 0, 1) := by decide +kernel
theorem d_Tr_shrink_69 : decode prog_6_method_6_code 69 = .ok (.getfield 35, 3) := by decide +kernel
theorem d_Tr_shrink_72 : decode prog_6_method_6_code 72 = .ok (.invokestatic 46, 3) := by decide +kernel
theorem d_Tr_shrink_75 : decode prog_6_method_6_code 75 = .ok (.putfield 52, 3) := by decide +kernel
theorem d_Tr_shrink_78 : decode prog_6_method_6_code 78 = .ok (.return_, 1) := by decide +kernel
theorem d_Tr_clear_0 : decode prog_6_method_5_code 0 = .ok (.aload_n 0, 1) := by decide +kernel
theorem d_Tr_clear_1 : decode prog_6_method_5_code 1 = .ok (.iconst 0, 1) := by decide +kernel
theorem d_Tr_clear_2 : decode prog_6_method_5_code 2 = .ok (.invokevirtual 42, 3) := by decide +kernel
theorem d_Tr_clear_5 : decode prog_6_method_5_code 5 = .ok (.aload_n 0, 1) := by decide +kernel
theorem d_Tr_clear_6 : decode prog_6_method_5_code 6 = .ok (.iconst 0, 1) := by decide +kernel
theorem d_Tr_clear_7 : decode prog_6_method_5_code 7 = .ok (.putfield 32, 3) := by decide +kernel
theorem d_Tr_clear_10 : decode prog_6_method_5_code 10 = .ok (.return_, 1) := by decide +kernel
theorem d_Tr_backTo_0 : decode prog_6_method_4_code 0 = .ok (.iload_n 1, 1) := by decide +kernel
theorem d_Tr_backTo_1 : decode prog_6_method_4_code 1 = .ok (.aload_n 0, 1) := by decide +kernel
theorem d_Tr_backTo_2 : decode prog_6_method_4_code 2 = .ok (.getfield 32, 3) := by decide +kernel
theorem d_Tr_backTo_5 : decode prog_6_method_4_code 5 = .ok (.if_icmp .ge 20, 3) := by decide +kernel
theorem d_Tr_backTo_8 : decode prog_6_method_4_code 8 = .ok (.aload_n 0, 1) := by decide +kernel
theorem d_Tr_backTo_9 : decode prog_6_method_4_code 9 = .ok (.aload_n 0, 1) := by decide +kernel
theorem d_Tr_backTo_10 : decode prog_6_method_4_code 10 = .ok (.getfield 25, 3) := by decide +kernel
theorem d_Tr_backTo_13 : decode prog_6_method_4_code 13 = .ok (.iload_n 1, 1) := by decide +kernel
theorem d_Tr_backTo_14 : decode prog_6_method_4_code 14 = .ok (.iconst 1, 1) := by decide +kernel
theorem d_Tr_backTo_15 : decode prog_6_method_4_code 15 = .ok (.iadd, 1) := by decide +kernel
theorem d_Tr_backTo_16 : decode prog_6_method_4_code 16 = .ok (.iaload, 1) := by decide +kernel
theorem d_Tr_backTo_17 : decode prog_6_method_4_code 17 = .ok (.invokevirtual 42, 3) := by decide +kernel
theorem d_Tr_backTo_20 : decode prog_6_method_4_code 20 = .ok (.aload_n 0, 1) := by decide +kernel
theorem d_Tr_backTo_21 : decode prog_6_method_4_code 21 = .ok (.iload_n 1, 1) := by decide +kernel
theorem d_Tr_backTo_22 : decode prog_6_method_4_code 22 = .ok (.putfield 32, 3) := by decide +kernel
theorem d_Tr_backTo_25 : decode prog_6_method_4_code 25 = .ok (.return_, 1) := by decide +kernel
theorem d_Tr_lowestUnknown_0 : decode prog_6_method_7_code 0 = .ok (.aload_n 0, 1) := by decide +kernel
theorem d_Tr_lowestUnknown_1 : decode prog_6_method_7_code 1 = .ok (.getfield 28, 3) := by decide +kernel
theorem d_Tr_lowestUnknown_4 : decode prog_6_method_7_code 4 = .ok (.iload_n 1, 1) := by decide +kernel
theorem d_Tr_lowestUnknown_5 : decode prog_6_method_7_code 5 = .ok (.if_icmp .gt 30, 3) := by decide +kernel
theorem d_Tr_lowestUnknown_8 : decode prog_6_method_7_code 8 = .ok (.aload_n 0, 1) := by decide +kernel
theorem d_Tr_lowestUnknown_9 : decode prog_6_method_7_code 9 = .ok (.getfield 9, 3) := by decide +kernel
theorem d_Tr_lowestUnknown_12 : decode prog_6_method_7_code 12 = .ok (.iconst 2, 1) := by decide +kernel
theorem d_Tr_lowestUnknown_13 : decode prog_6_method_7_code 13 = .ok (.aload_n 0, 1) := by decide +kernel
theorem d_Tr_lowestUnknown_14 : decode prog_6_method_7_code 14 = .ok (.getfield 28, 3) := by decide +kernel
theorem d_Tr_lowestUnknown_17 : decode prog_6_method_7_code 17 = .ok (.imul, 1) := by decide +kernel
theorem d_Tr_lowestUnknown_18 : decode prog_6_method_7_code 18 = .ok (.baload, 1) := by decide +kernel
theorem d_Tr_lowestUnknown_19 : decode prog_6_method_7_code 19 = .ok (.ifCond .eq 16, 3) := by decide +kernel
theorem d_Tr_lowestUnknown_22 : decode prog_6_method_7_code 22 = .ok (.aload_n 0, 1) := by decide +kernel
theorem d_Tr_lowestUnknown_23 : decode prog_6_method_7_code 23 = .ok (.dup, 1) := by decide +kernel
theorem d_Tr_lowestUnknown_24 : decode prog_6_method_7_code 24 = .ok (.getfield 28, 3) := by decide +kernel
theorem d_Tr_lowestUnknown_27 : decode prog_6_method_7_code 27 = .ok (.iconst 1, 1) := by decide +kernel
theorem d_Tr_lowestUnknown_28 : decode prog_6_method_7_code 28 = .ok (.iadd, 1) := by decide +kernel
theorem d_Tr_lowestUnknown_29 : decode prog_6_method_7_code 29 = .ok (.putfield 28, 3) := by decide +kernel
theorem d_Tr_lowestUnknown_32 : decode prog_6_method_7_code 32 = .ok (.goto (-32), 3) := by decide +kernel
theorem d_Tr_lowestUnknown_35 : decode prog_6_method_7_code 35 = .ok (.aload_n 0, 1) := by decide +kernel
theorem d_Tr_lowestUnknown_36 : decode prog_6_method_7_code 36 = .ok (.getfield 28, 3) := by decide +kernel
theorem d_Tr_lowestUnknown_39 : decode prog_6_method_7_code 39 = .ok (.ireturn, 1) := by decide +kernel
theorem up_0 {g : Nat → Int32} {a b x : Nat} (h : x = a ∨ x = b ∨ g x = 0) : upd (upd g a 0) b 0 x = 0 := by
  by_cases hb : x = b
  · rw [hb]; exact pk_us
  · rw [pk_un hb]
    by_cases ha : x = a
    · rw [ha]; exact pk_us
    · rw [pk_un ha]
      rcases h with h | h | h
      · exact absurd h ha
      · exact absurd h hb
      · exact h
theorem sh_1 {g tv : Nat → Int32} {O : Nat → Nat} {i k : Nat} (hik : i < k) (h : ∀ c, (∀ p, i + 1 ≤ p → p < k → O p ≠ c ∧ fl (O p) ≠ c) → g c = tv c) :
    ∀ c, (∀ p, i ≤ p → p < k → O p ≠ c ∧ fl (O p) ≠ c) → upd (upd g (O i) 0) (fl (O i)) 0 c = tv c := by
  intro c hc
  obtain ⟨h1, h2⟩ := hc i (Nat.le_refl i) hik
  rw [pk_un (fun q => h2 q.symm), pk_un (fun q => h1 q.symm)]
  exact h c (fun p hp1 hp2 => hc p (by omega) hp2)
theorem sh_2 {g : Nat → Int32} {O : Nat → Nat} {i k : Nat} (h : ∀ p, i + 1 ≤ p → p < k → g (O p) = 0 ∧ g (fl (O p)) = 0) :
    ∀ p, i ≤ p → p < k → upd (upd g (O i) 0) (fl (O i)) 0 (O p) = 0 ∧ upd (upd g (O i) 0) (fl (O i)) 0 (fl (O p)) = 0 := by
  intro p hp1 hp2
  by_cases hpi : p = i
  · subst hpi
    exact ⟨up_0 (Or.inl rfl), up_0 (Or.inr (Or.inl rfl))⟩
  · obtain ⟨h1, h2⟩ := h p (by omega) hp2
    exact ⟨up_0 (Or.inr (Or.inr h1)), up_0 (Or.inr (Or.inr h2))⟩
set_option maxHeartbeats 4000000 in
set_option maxRecDepth 100000 in
/-- put(code, because) -/
theorem c_Tr_put (l : Launch) (dC : Nat → ClassId) (dI : Nat → Nat → Nat) (t0 : Nat) (u0 : Nat) (u1 : Nat) (u2 : Nat) (u3 : Nat) (u4 : Nat) (z0 : ClassId) (z1 : ClassId) (z2 : ClassId) (z3 : ClassId) (sz : Nat) (k : Nat) (fo : Nat) (lev : Nat) (low : Nat) (tv : Nat → Int32) (ov : Nat → Int32) (lv : Nat → Int32) (rv : Nat → Int32) (c0 : Nat) (be : Int32) (hc : c0 < 802) (hf : fl c0 < 802) (hk : k < 401) : Met l y_Tr_put (wq y_Tr_put prog_6_method_2_code 3 none) ({ frames := 0, cells := 0, slots := 0, locals := 0 }) (va_Pc [.ref t0, .int (nI c0), .int be] (fun U => U.heap.size = sz ∧ va_P (dC, dI) vwCl [(t0, .inr (4, [.ref u0, .ref u1, .ref u2, .ref u3, .ref u4, .int (nI k), .int (nI fo), .int (nI lev), .int (nI low)])), (u0, .inl (z0, 802, .inl tv)), (u1, .inl (z1, 401, .inl ov)), (u2, .inl (z2, 401, .inl lv)), (u3, .inl (z3, 401, .inl rv))] U.heap ∧ va_K (dC, dI) vwCl [(z0, .byte), (z1, .int), (z2, .int), (z3, .int)] U ∧ va_D (fun _ => True) [(t0, .inr (4, [.ref u0, .ref u1, .ref u2, .ref u3, .ref u4, .int (nI k), .int (nI fo), .int (nI lev), .int (nI low)])), (u0, .inl (z0, 802, .inl tv)), (u1, .inl (z1, 401, .inl ov)), (u2, .inl (z2, 401, .inl lv)), (u3, .inl (z3, 401, .inl rv))])) (va_Qv (fun _ : Unit => True) (fun (_ : Unit) t => va_P (dC, dI) vwCl [(t0, .inr (4, [.ref u0, .ref u1, .ref u2, .ref u3, .ref u4, .int (nI (k + 1)), .int (nI fo), .int (nI lev), .int (nI low)])), (u0, .inl (z0, 802, .inl (upd (upd tv c0 1) (fl c0) 2))), (u1, .inl (z1, 401, .inl (upd ov k (nI c0)))), (u2, .inl (z2, 401, .inl (upd lv (c0 / 2) (nI lev)))), (u3, .inl (z3, 401, .inl (upd rv (c0 / 2) be)))] t.heap ∧ va_K (dC, dI) vwCl [(z0, .byte), (z1, .int), (z2, .int), (z3, .int)] t ∧ va_D (va_A [(t0, .inr (4, [.ref u0, .ref u1, .ref u2, .ref u3, .ref u4, .int (nI k), .int (nI fo), .int (nI lev), .int (nI low)])), (u0, .inl (z0, 802, .inl tv)), (u1, .inl (z1, 401, .inl ov)), (u2, .inl (z2, 401, .inl lv)), (u3, .inl (z3, 401, .inl rv))] sz) [(t0, .inr (4, [.ref u0, .ref u1, .ref u2, .ref u3, .ref u4, .int (nI (k + 1)), .int (nI fo), .int (nI lev), .int (nI low)])), (u0, .inl (z0, 802, .inl (upd (upd tv c0 1) (fl c0) 2))), (u1, .inl (z1, 401, .inl (upd ov k (nI c0)))), (u2, .inl (z2, 401, .inl (upd lv (c0 / 2) (nI lev)))), (u3, .inl (z3, 401, .inl (upd rv (c0 / 2) be)))]) (va_A [(t0, .inr (4, [.ref u0, .ref u1, .ref u2, .ref u3, .ref u4, .int (nI k), .int (nI fo), .int (nI lev), .int (nI low)])), (u0, .inl (z0, 802, .inl tv)), (u1, .inl (z1, 401, .inl ov)), (u2, .inl (z2, 401, .inl lv)), (u3, .inl (z3, 401, .inl rv))] sz)) 0 0 (va_A [(t0, .inr (4, [.ref u0, .ref u1, .ref u2, .ref u3, .ref u4, .int (nI k), .int (nI fo), .int (nI lev), .int (nI low)])), (u0, .inl (z0, 802, .inl tv)), (u1, .inl (z1, 401, .inl ov)), (u2, .inl (z2, 401, .inl lv)), (u3, .inl (z3, 401, .inl rv))] sz) := by
  refine Met.ofW (cc := prog_6_method_2_code) (maxL := 3) (ret := none) (by decide) rfl ?_
  intro p e s m args below meth c s₁ B hml hv
  obtain ⟨rfl, hsz, hP, hK, hD0⟩ := hv
  have hx := B.exec
  have hb := B.bytes
  have hr := B.returns
  have hw : ∀ w ∈ bg_W, w.before #[Value.ref t0, Value.int (nI c0), Value.int be] s = true := fun w h => atoms_spec (ws := (wq y_Tr_put prog_6_method_2_code 3 none)) B.pre w (List.mem_cons_of_mem _ h)
  have hown : s.vm.findClass R_Tr = some m.cls := findClass_of_methodNamed B.named
  have hlocks := B.notSynchronized
  subst hsz
  have hD := hD0.self (sz := s.heap.size)
  generalize hAe : va_A [(t0, .inr (4, [.ref u0, .ref u1, .ref u2, .ref u3, .ref u4, .int (nI k), .int (nI fo), .int (nI lev), .int (nI low)])), (u0, .inl (z0, 802, .inl tv)), (u1, .inl (z1, 401, .inl ov)), (u2, .inl (z2, 401, .inl lv)), (u3, .inl (z3, 401, .inl rv))] s.heap.size = A at hD ⊢
  have hA : ∀ q : Nat, s.heap.size ≤ q → A q := fun q h => by rw [← hAe]; exact Or.inr h
  have hS : va_S A s.heap s.heap [] := va_S.rf
  have hP : va_P (dC, dI) vwCl [(t0, .inr (4, [.ref u0, .ref u1, .ref u2, .ref u3, .ref u4, .int (nI k), .int (nI fo), .int (nI lev), .int (nI low)])), (u0, .inl (z0, 802, .inl tv)), (u1, .inl (z1, 401, .inl ov)), (u2, .inl (z2, 401, .inl lv)), (u3, .inl (z3, 401, .inl rv))] s.heap := hP
  have hl := lv_entry ([.ref t0, .int (nI c0), .int be]) (n := 3) (Nat.le_of_ble_eq_true rfl)
  rw [lg_entry_eq]
  generalize (lg_sl ([.ref t0, .int (nI c0), .int be]) ++ List.replicate (3 - (lg_sl ([.ref t0, .int (nI c0), .int be])).length) Slot.unset).toArray = ls at hl ⊢
  have hl : lv_has ls 3 [(0, .ref t0), (1, .int (nI c0)), (2, .int be)] := hl
  obtain ⟨H, hH⟩ : ∃ H : Heap, H = s.heap := ⟨_, rfl⟩
  rw [← hH] at hP
  have hS : va_S A s.heap H [] := by rw [hH]; exact va_S.rf
  show W p l e _ s m _ below meth c s.heap [] 0 0 _ _
  rw [← hH]
  refine lv_aload_n hx hb d_Tr_put_0 rfl (lv_at hl 0 rfl) ?_
  refine va_get (D := (dC, dI)) (ci := 4) (v := .ref u0) (C := R_Tr) (T := F_Tr) (N := 9) hx hb hw in_Tr hown hK hP 0 rfl rfl 0 (by decide) (hw (Cond.fieldLink "ClauseSearch$Trail" 9 "ClauseSearch$Trail" "truth" "[B") k_96) (fun _ h9 => h9) rfl d_Tr_put_1 ?_
  refine lv_iload_n hx hb d_Tr_put_4 rfl (lv_at hl 1 rfl) ?_
  refine lv_iconst (v := 1) hx hb d_Tr_put_5 (by decide) ?_
  have en_6 : vp_nar .byte 1 = 1 := rfl
  refine va_bast hx hb hK hP hD hS 1 0 rfl rfl (vp_in_nI (by omega) (by omega)) d_Tr_put_6 (fun H locs hP hD hS => ?_)
  rw [nI_clamp (n := c0) (by omega), en_6] at hP hD
  have hP : va_P (dC, dI) vwCl [(t0, .inr (4, [.ref u0, .ref u1, .ref u2, .ref u3, .ref u4, .int (nI k), .int (nI fo), .int (nI lev), .int (nI low)])), (u0, .inl (z0, 802, .inl (upd tv c0 1))), (u1, .inl (z1, 401, .inl ov)), (u2, .inl (z2, 401, .inl lv)), (u3, .inl (z3, 401, .inl rv))] H := hP
  have hD : va_D A [(t0, .inr (4, [.ref u0, .ref u1, .ref u2, .ref u3, .ref u4, .int (nI k), .int (nI fo), .int (nI lev), .int (nI low)])), (u0, .inl (z0, 802, .inl (upd tv c0 1))), (u1, .inl (z1, 401, .inl ov)), (u2, .inl (z2, 401, .inl lv)), (u3, .inl (z3, 401, .inl rv))] := hD
  refine lv_aload_n hx hb d_Tr_put_7 rfl (lv_at hl 0 rfl) ?_
  refine va_get (D := (dC, dI)) (ci := 4) (v := .ref u0) (C := R_Tr) (T := F_Tr) (N := 9) hx hb hw in_Tr hown hK hP 0 rfl rfl 0 (by decide) (hw (Cond.fieldLink "ClauseSearch$Trail" 9 "ClauseSearch$Trail" "truth" "[B") k_96) (fun _ h9 => h9) rfl d_Tr_put_8 ?_
  refine lv_iload_n hx hb d_Tr_put_11 rfl (lv_at hl 1 rfl) ?_
  refine lv_iconst (v := nI 1) hx hb d_Tr_put_12 (by decide) ?_
  refine lv_ixor hx hb d_Tr_put_13 ?_
  refine lv_topi (fun y_1 ey_1 => ?_)
  obtain rfl : y_1 = nI (fl c0) := ey_1.trans (ni_xor c0 (by omega))
  refine lv_iconst (v := 2) hx hb d_Tr_put_14 (by decide) ?_
  have en_15 : vp_nar .byte 2 = 2 := rfl
  refine va_bast hx hb hK hP hD hS 1 0 rfl rfl (vp_in_nI (by omega) (by omega)) d_Tr_put_15 (fun H locs hP hD hS => ?_)
  rw [nI_clamp (n := fl c0) (by omega), en_15] at hP hD
  have hP : va_P (dC, dI) vwCl [(t0, .inr (4, [.ref u0, .ref u1, .ref u2, .ref u3, .ref u4, .int (nI k), .int (nI fo), .int (nI lev), .int (nI low)])), (u0, .inl (z0, 802, .inl (upd (upd tv c0 1) (fl c0) 2))), (u1, .inl (z1, 401, .inl ov)), (u2, .inl (z2, 401, .inl lv)), (u3, .inl (z3, 401, .inl rv))] H := hP
  have hD : va_D A [(t0, .inr (4, [.ref u0, .ref u1, .ref u2, .ref u3, .ref u4, .int (nI k), .int (nI fo), .int (nI lev), .int (nI low)])), (u0, .inl (z0, 802, .inl (upd (upd tv c0 1) (fl c0) 2))), (u1, .inl (z1, 401, .inl ov)), (u2, .inl (z2, 401, .inl lv)), (u3, .inl (z3, 401, .inl rv))] := hD
  refine lv_aload_n hx hb d_Tr_put_16 rfl (lv_at hl 0 rfl) ?_
  refine va_get (D := (dC, dI)) (ci := 4) (v := .ref u2) (C := R_Tr) (T := F_Tr) (N := 9) hx hb hw in_Tr hown hK hP 0 rfl rfl 2 (by decide) (hw (Cond.fieldLink "ClauseSearch$Trail" 19 "ClauseSearch$Trail" "levelOf" "[I") k_103) (fun _ h9 => h9) rfl d_Tr_put_17 ?_
  refine lv_iload_n hx hb d_Tr_put_20 rfl (lv_at hl 1 rfl) ?_
  refine lv_iconst (v := nI 1) hx hb d_Tr_put_21 (by decide) ?_
  refine lv_ishr hx hb d_Tr_put_22 ?_
  refine lv_topi (fun y_2 ey_2 => ?_)
  obtain rfl : y_2 = nI (c0 / 2) := ey_2.trans (ni_shr (by omega))
  refine lv_aload_n hx hb d_Tr_put_23 rfl (lv_at hl 0 rfl) ?_
  refine va_get (D := (dC, dI)) (ci := 4) (v := .int (nI lev)) (C := R_Tr) (T := F_Tr) (N := 9) hx hb hw in_Tr hown hK hP 0 rfl rfl 7 (by decide) (hw (Cond.fieldLink "ClauseSearch$Trail" 32 "ClauseSearch$Trail" "level" "I") k_114) (fun _ h9 => h9) rfl d_Tr_put_24 ?_
  refine va_iast hx hb hK hP hD hS 3 2 rfl rfl (vp_in_nI (by omega) (by omega)) d_Tr_put_27 (fun H locs hP hD hS => ?_)
  rw [nI_clamp (n := c0 / 2) (by omega)] at hP hD
  have hP : va_P (dC, dI) vwCl [(t0, .inr (4, [.ref u0, .ref u1, .ref u2, .ref u3, .ref u4, .int (nI k), .int (nI fo), .int (nI lev), .int (nI low)])), (u0, .inl (z0, 802, .inl (upd (upd tv c0 1) (fl c0) 2))), (u1, .inl (z1, 401, .inl ov)), (u2, .inl (z2, 401, .inl (upd lv (c0 / 2) (nI lev)))), (u3, .inl (z3, 401, .inl rv))] H := hP
  have hD : va_D A [(t0, .inr (4, [.ref u0, .ref u1, .ref u2, .ref u3, .ref u4, .int (nI k), .int (nI fo), .int (nI lev), .int (nI low)])), (u0, .inl (z0, 802, .inl (upd (upd tv c0 1) (fl c0) 2))), (u1, .inl (z1, 401, .inl ov)), (u2, .inl (z2, 401, .inl (upd lv (c0 / 2) (nI lev)))), (u3, .inl (z3, 401, .inl rv))] := hD
  refine lv_aload_n hx hb d_Tr_put_28 rfl (lv_at hl 0 rfl) ?_
  refine va_get (D := (dC, dI)) (ci := 4) (v := .ref u3) (C := R_Tr) (T := F_Tr) (N := 9) hx hb hw in_Tr hown hK hP 0 rfl rfl 3 (by decide) (hw (Cond.fieldLink "ClauseSearch$Trail" 22 "ClauseSearch$Trail" "reason" "[I") k_105) (fun _ h9 => h9) rfl d_Tr_put_29 ?_
  refine lv_iload_n hx hb d_Tr_put_32 rfl (lv_at hl 1 rfl) ?_
  refine lv_iconst (v := nI 1) hx hb d_Tr_put_33 (by decide) ?_
  refine lv_ishr hx hb d_Tr_put_34 ?_
  refine lv_topi (fun y_3 ey_3 => ?_)
  obtain rfl : y_3 = nI (c0 / 2) := ey_3.trans (ni_shr (by omega))
  refine lv_iload_n hx hb d_Tr_put_35 rfl (lv_at hl 2 rfl) ?_
  refine va_iast hx hb hK hP hD hS 4 3 rfl rfl (vp_in_nI (by omega) (by omega)) d_Tr_put_36 (fun H locs hP hD hS => ?_)
  rw [nI_clamp (n := c0 / 2) (by omega)] at hP hD
  have hP : va_P (dC, dI) vwCl [(t0, .inr (4, [.ref u0, .ref u1, .ref u2, .ref u3, .ref u4, .int (nI k), .int (nI fo), .int (nI lev), .int (nI low)])), (u0, .inl (z0, 802, .inl (upd (upd tv c0 1) (fl c0) 2))), (u1, .inl (z1, 401, .inl ov)), (u2, .inl (z2, 401, .inl (upd lv (c0 / 2) (nI lev)))), (u3, .inl (z3, 401, .inl (upd rv (c0 / 2) be)))] H := hP
  have hD : va_D A [(t0, .inr (4, [.ref u0, .ref u1, .ref u2, .ref u3, .ref u4, .int (nI k), .int (nI fo), .int (nI lev), .int (nI low)])), (u0, .inl (z0, 802, .inl (upd (upd tv c0 1) (fl c0) 2))), (u1, .inl (z1, 401, .inl ov)), (u2, .inl (z2, 401, .inl (upd lv (c0 / 2) (nI lev)))), (u3, .inl (z3, 401, .inl (upd rv (c0 / 2) be)))] := hD
  refine lv_aload_n hx hb d_Tr_put_37 rfl (lv_at hl 0 rfl) ?_
  refine va_get (D := (dC, dI)) (ci := 4) (v := .ref u1) (C := R_Tr) (T := F_Tr) (N := 9) hx hb hw in_Tr hown hK hP 0 rfl rfl 1 (by decide) (hw (Cond.fieldLink "ClauseSearch$Trail" 15 "ClauseSearch$Trail" "order" "[I") k_100) (fun _ h9 => h9) rfl d_Tr_put_38 ?_
  refine lv_aload_n hx hb d_Tr_put_41 rfl (lv_at hl 0 rfl) ?_
  refine va_get (D := (dC, dI)) (ci := 4) (v := .int (nI k)) (C := R_Tr) (T := F_Tr) (N := 9) hx hb hw in_Tr hown hK hP 0 rfl rfl 5 (by decide) (hw (Cond.fieldLink "ClauseSearch$Trail" 35 "ClauseSearch$Trail" "size" "I") k_110) (fun _ h9 => h9) rfl d_Tr_put_42 ?_
  refine lv_iload_n hx hb d_Tr_put_45 rfl (lv_at hl 1 rfl) ?_
  refine va_iast hx hb hK hP hD hS 2 1 rfl rfl (vp_in_nI (by omega) (by omega)) d_Tr_put_46 (fun H locs hP hD hS => ?_)
  rw [nI_clamp (n := k) (by omega)] at hP hD
  have hP : va_P (dC, dI) vwCl [(t0, .inr (4, [.ref u0, .ref u1, .ref u2, .ref u3, .ref u4, .int (nI k), .int (nI fo), .int (nI lev), .int (nI low)])), (u0, .inl (z0, 802, .inl (upd (upd tv c0 1) (fl c0) 2))), (u1, .inl (z1, 401, .inl (upd ov k (nI c0)))), (u2, .inl (z2, 401, .inl (upd lv (c0 / 2) (nI lev)))), (u3, .inl (z3, 401, .inl (upd rv (c0 / 2) be)))] H := hP
  have hD : va_D A [(t0, .inr (4, [.ref u0, .ref u1, .ref u2, .ref u3, .ref u4, .int (nI k), .int (nI fo), .int (nI lev), .int (nI low)])), (u0, .inl (z0, 802, .inl (upd (upd tv c0 1) (fl c0) 2))), (u1, .inl (z1, 401, .inl (upd ov k (nI c0)))), (u2, .inl (z2, 401, .inl (upd lv (c0 / 2) (nI lev)))), (u3, .inl (z3, 401, .inl (upd rv (c0 / 2) be)))] := hD
  refine lv_aload_n hx hb d_Tr_put_47 rfl (lv_at hl 0 rfl) ?_
  refine lv_dup hx hb d_Tr_put_48 rfl ?_
  refine va_get (D := (dC, dI)) (ci := 4) (v := .int (nI k)) (C := R_Tr) (T := F_Tr) (N := 9) hx hb hw in_Tr hown hK hP 0 rfl rfl 5 (by decide) (hw (Cond.fieldLink "ClauseSearch$Trail" 35 "ClauseSearch$Trail" "size" "I") k_110) (fun _ h9 => h9) rfl d_Tr_put_49 ?_
  refine lv_iconst (v := nI 1) hx hb d_Tr_put_52 (by decide) ?_
  refine lv_iadd hx hb d_Tr_put_53 ?_
  refine lv_topi (fun y_4 ey_4 => ?_)
  obtain rfl : y_4 = nI (k + 1) := ey_4.trans (nI_add k 1)
  refine va_put (D := (dC, dI)) (ci := 4) (v := .int (nI (k + 1))) (ty := .int) (C := R_Tr) (T := F_Tr) (N := 9) hx hb hw in_Tr t_Tr t_Tr_ok n_Tr hown hK hP hD hS 0 rfl rfl 5 (by decide) (hw (Cond.fieldLink "ClauseSearch$Trail" 35 "ClauseSearch$Trail" "size" "I") k_110) (fun _ h9 => h9) rfl (by decide +kernel) rfl rfl (Nat.le_of_ble_eq_true rfl) d_Tr_put_54 (fun H locs hP hD hS => ?_)
  have hP : va_P (dC, dI) vwCl [(t0, .inr (4, [.ref u0, .ref u1, .ref u2, .ref u3, .ref u4, .int (nI (k + 1)), .int (nI fo), .int (nI lev), .int (nI low)])), (u0, .inl (z0, 802, .inl (upd (upd tv c0 1) (fl c0) 2))), (u1, .inl (z1, 401, .inl (upd ov k (nI c0)))), (u2, .inl (z2, 401, .inl (upd lv (c0 / 2) (nI lev)))), (u3, .inl (z3, 401, .inl (upd rv (c0 / 2) be)))] H := hP
  have hD : va_D A [(t0, .inr (4, [.ref u0, .ref u1, .ref u2, .ref u3, .ref u4, .int (nI (k + 1)), .int (nI fo), .int (nI lev), .int (nI low)])), (u0, .inl (z0, 802, .inl (upd (upd tv c0 1) (fl c0) 2))), (u1, .inl (z1, 401, .inl (upd ov k (nI c0)))), (u2, .inl (z2, 401, .inl (upd lv (c0 / 2) (nI lev)))), (u3, .inl (z3, 401, .inl (upd rv (c0 / 2) be)))] := hD
  refine W.widen (k := 0) (n := 0) (by decide) (by decide) ?_
  exact W.vret hx hb hr (fun t ht hW => ⟨⟨(), rfl, trivial, by rw [ht]; exact hP, va_K.moved hW.alike hK, hD⟩, hS.F ht⟩) hS.2.2 d_Tr_put_57

set_option maxHeartbeats 4000000 in
set_option maxRecDepth 100000 in
/-- tryOut(code) -/
theorem c_Tr_tryOut (l : Launch) (dC : Nat → ClassId) (dI : Nat → Nat → Nat) (t0 : Nat) (u0 : Nat) (u1 : Nat) (u2 : Nat) (u3 : Nat) (u4 : Nat) (z0 : ClassId) (z1 : ClassId) (z2 : ClassId) (z3 : ClassId) (z4 : ClassId) (sz : Nat) (k : Nat) (fo : Nat) (lev : Nat) (low : Nat) (tv : Nat → Int32) (ov : Nat → Int32) (lv : Nat → Int32) (rv : Nat → Int32) (sv : Nat → Int32) (c0 : Nat) (hc : c0 < 802) (hf : fl c0 < 802) (hk : k < 401) (hl : lev + 1 < 402) : Met l y_Tr_tryOut (wq y_Tr_tryOut prog_6_method_3_code 2 none) ({ frames := 1, cells := 0, slots := 0, locals := 22 }) (va_Pc [.ref t0, .int (nI c0)] (fun U => U.heap.size = sz ∧ va_P (dC, dI) vwCl [(t0, .inr (4, [.ref u0, .ref u1, .ref u2, .ref u3, .ref u4, .int (nI k), .int (nI fo), .int (nI lev), .int (nI low)])), (u0, .inl (z0, 802, .inl tv)), (u1, .inl (z1, 401, .inl ov)), (u2, .inl (z2, 401, .inl lv)), (u3, .inl (z3, 401, .inl rv)), (u4, .inl (z4, 402, .inl sv))] U.heap ∧ va_K (dC, dI) vwCl [(z0, .byte), (z1, .int), (z2, .int), (z3, .int), (z4, .int)] U ∧ va_D (fun _ => True) [(t0, .inr (4, [.ref u0, .ref u1, .ref u2, .ref u3, .ref u4, .int (nI k), .int (nI fo), .int (nI lev), .int (nI low)])), (u0, .inl (z0, 802, .inl tv)), (u1, .inl (z1, 401, .inl ov)), (u2, .inl (z2, 401, .inl lv)), (u3, .inl (z3, 401, .inl rv)), (u4, .inl (z4, 402, .inl sv))])) (va_Qv (fun _ : Unit => True) (fun (_ : Unit) t => va_P (dC, dI) vwCl [(u4, .inl (z4, 402, .inl (upd sv (lev + 1) (nI k)))), (t0, .inr (4, [.ref u0, .ref u1, .ref u2, .ref u3, .ref u4, .int (nI (k + 1)), .int (nI fo), .int (nI (lev + 1)), .int (nI low)])), (u0, .inl (z0, 802, .inl (upd (upd tv c0 1) (fl c0) 2))), (u1, .inl (z1, 401, .inl (upd ov k (nI c0)))), (u2, .inl (z2, 401, .inl (upd lv (c0 / 2) (nI (lev + 1))))), (u3, .inl (z3, 401, .inl (upd rv (c0 / 2) (-1))))] t.heap ∧ va_K (dC, dI) vwCl [(z0, .byte), (z1, .int), (z2, .int), (z3, .int), (z4, .int)] t ∧ va_D (va_A [(t0, .inr (4, [.ref u0, .ref u1, .ref u2, .ref u3, .ref u4, .int (nI k), .int (nI fo), .int (nI lev), .int (nI low)])), (u0, .inl (z0, 802, .inl tv)), (u1, .inl (z1, 401, .inl ov)), (u2, .inl (z2, 401, .inl lv)), (u3, .inl (z3, 401, .inl rv)), (u4, .inl (z4, 402, .inl sv))] sz) [(u4, .inl (z4, 402, .inl (upd sv (lev + 1) (nI k)))), (t0, .inr (4, [.ref u0, .ref u1, .ref u2, .ref u3, .ref u4, .int (nI (k + 1)), .int (nI fo), .int (nI (lev + 1)), .int (nI low)])), (u0, .inl (z0, 802, .inl (upd (upd tv c0 1) (fl c0) 2))), (u1, .inl (z1, 401, .inl (upd ov k (nI c0)))), (u2, .inl (z2, 401, .inl (upd lv (c0 / 2) (nI (lev + 1))))), (u3, .inl (z3, 401, .inl (upd rv (c0 / 2) (-1))))]) (va_A [(t0, .inr (4, [.ref u0, .ref u1, .ref u2, .ref u3, .ref u4, .int (nI k), .int (nI fo), .int (nI lev), .int (nI low)])), (u0, .inl (z0, 802, .inl tv)), (u1, .inl (z1, 401, .inl ov)), (u2, .inl (z2, 401, .inl lv)), (u3, .inl (z3, 401, .inl rv)), (u4, .inl (z4, 402, .inl sv))] sz)) 0 0 (va_A [(t0, .inr (4, [.ref u0, .ref u1, .ref u2, .ref u3, .ref u4, .int (nI k), .int (nI fo), .int (nI lev), .int (nI low)])), (u0, .inl (z0, 802, .inl tv)), (u1, .inl (z1, 401, .inl ov)), (u2, .inl (z2, 401, .inl lv)), (u3, .inl (z3, 401, .inl rv)), (u4, .inl (z4, 402, .inl sv))] sz) := by
  refine Met.ofW (cc := prog_6_method_3_code) (maxL := 2) (ret := none) (by decide) rfl ?_
  intro p e s m args below meth c s₁ B hml hv
  obtain ⟨rfl, hsz, hP, hK, hD0⟩ := hv
  have hx := B.exec
  have hb := B.bytes
  have hr := B.returns
  have hw : ∀ w ∈ bg_W, w.before #[Value.ref t0, Value.int (nI c0)] s = true := fun w h => atoms_spec (ws := (wq y_Tr_tryOut prog_6_method_3_code 2 none)) B.pre w (List.mem_cons_of_mem _ h)
  have hown : s.vm.findClass R_Tr = some m.cls := findClass_of_methodNamed B.named
  have hlocks := B.notSynchronized
  subst hsz
  have hD := hD0.self (sz := s.heap.size)
  generalize hAe : va_A [(t0, .inr (4, [.ref u0, .ref u1, .ref u2, .ref u3, .ref u4, .int (nI k), .int (nI fo), .int (nI lev), .int (nI low)])), (u0, .inl (z0, 802, .inl tv)), (u1, .inl (z1, 401, .inl ov)), (u2, .inl (z2, 401, .inl lv)), (u3, .inl (z3, 401, .inl rv)), (u4, .inl (z4, 402, .inl sv))] s.heap.size = A at hD ⊢
  have hA : ∀ q : Nat, s.heap.size ≤ q → A q := fun q h => by rw [← hAe]; exact Or.inr h
  have hS : va_S A s.heap s.heap [] := va_S.rf
  have hP : va_P (dC, dI) vwCl [(t0, .inr (4, [.ref u0, .ref u1, .ref u2, .ref u3, .ref u4, .int (nI k), .int (nI fo), .int (nI lev), .int (nI low)])), (u0, .inl (z0, 802, .inl tv)), (u1, .inl (z1, 401, .inl ov)), (u2, .inl (z2, 401, .inl lv)), (u3, .inl (z3, 401, .inl rv)), (u4, .inl (z4, 402, .inl sv))] s.heap := hP
  have hl := lv_entry ([.ref t0, .int (nI c0)]) (n := 2) (Nat.le_of_ble_eq_true rfl)
  rw [lg_entry_eq]
  generalize (lg_sl ([.ref t0, .int (nI c0)]) ++ List.replicate (2 - (lg_sl ([.ref t0, .int (nI c0)])).length) Slot.unset).toArray = ls at hl ⊢
  have hl : lv_has ls 2 [(0, .ref t0), (1, .int (nI c0))] := hl
  obtain ⟨H, hH⟩ : ∃ H : Heap, H = s.heap := ⟨_, rfl⟩
  rw [← hH] at hP
  have hS : va_S A s.heap H [] := by rw [hH]; exact va_S.rf
  show W p l e _ s m _ below meth c s.heap [] 0 0 _ _
  rw [← hH]
  refine lv_aload_n hx hb d_Tr_tryOut_0 rfl (lv_at hl 0 rfl) ?_
  refine lv_dup hx hb d_Tr_tryOut_1 rfl ?_
  refine va_get (D := (dC, dI)) (ci := 4) (v := .int (nI lev)) (C := R_Tr) (T := F_Tr) (N := 9) hx hb hw in_Tr hown hK hP 0 rfl rfl 7 (by decide) (hw (Cond.fieldLink "ClauseSearch$Trail" 32 "ClauseSearch$Trail" "level" "I") k_114) (fun _ h9 => h9) rfl d_Tr_tryOut_2 ?_
  refine lv_iconst (v := nI 1) hx hb d_Tr_tryOut_5 (by decide) ?_
  refine lv_iadd hx hb d_Tr_tryOut_6 ?_
  refine lv_topi (fun y_1 ey_1 => ?_)
  obtain rfl : y_1 = nI (lev + 1) := ey_1.trans (nI_add lev 1)
  refine va_put (D := (dC, dI)) (ci := 4) (v := .int (nI (lev + 1))) (ty := .int) (C := R_Tr) (T := F_Tr) (N := 9) hx hb hw in_Tr t_Tr t_Tr_ok n_Tr hown hK hP hD hS 0 rfl rfl 7 (by decide) (hw (Cond.fieldLink "ClauseSearch$Trail" 32 "ClauseSearch$Trail" "level" "I") k_114) (fun _ h9 => h9) rfl (by decide +kernel) rfl rfl (Nat.le_of_ble_eq_true rfl) d_Tr_tryOut_7 (fun H locs hP hD hS => ?_)
  have hP : va_P (dC, dI) vwCl [(t0, .inr (4, [.ref u0, .ref u1, .ref u2, .ref u3, .ref u4, .int (nI k), .int (nI fo), .int (nI (lev + 1)), .int (nI low)])), (u0, .inl (z0, 802, .inl tv)), (u1, .inl (z1, 401, .inl ov)), (u2, .inl (z2, 401, .inl lv)), (u3, .inl (z3, 401, .inl rv)), (u4, .inl (z4, 402, .inl sv))] H := hP
  have hD : va_D A [(t0, .inr (4, [.ref u0, .ref u1, .ref u2, .ref u3, .ref u4, .int (nI k), .int (nI fo), .int (nI (lev + 1)), .int (nI low)])), (u0, .inl (z0, 802, .inl tv)), (u1, .inl (z1, 401, .inl ov)), (u2, .inl (z2, 401, .inl lv)), (u3, .inl (z3, 401, .inl rv)), (u4, .inl (z4, 402, .inl sv))] := hD
  refine lv_aload_n hx hb d_Tr_tryOut_10 rfl (lv_at hl 0 rfl) ?_
  refine va_get (D := (dC, dI)) (ci := 4) (v := .ref u4) (C := R_Tr) (T := F_Tr) (N := 9) hx hb hw in_Tr hown hK hP 0 rfl rfl 4 (by decide) (hw (Cond.fieldLink "ClauseSearch$Trail" 25 "ClauseSearch$Trail" "levelStart" "[I") k_108) (fun _ h9 => h9) rfl d_Tr_tryOut_11 ?_
  refine lv_aload_n hx hb d_Tr_tryOut_14 rfl (lv_at hl 0 rfl) ?_
  refine va_get (D := (dC, dI)) (ci := 4) (v := .int (nI (lev + 1))) (C := R_Tr) (T := F_Tr) (N := 9) hx hb hw in_Tr hown hK hP 0 rfl rfl 7 (by decide) (hw (Cond.fieldLink "ClauseSearch$Trail" 32 "ClauseSearch$Trail" "level" "I") k_114) (fun _ h9 => h9) rfl d_Tr_tryOut_15 ?_
  refine lv_aload_n hx hb d_Tr_tryOut_18 rfl (lv_at hl 0 rfl) ?_
  refine va_get (D := (dC, dI)) (ci := 4) (v := .int (nI k)) (C := R_Tr) (T := F_Tr) (N := 9) hx hb hw in_Tr hown hK hP 0 rfl rfl 5 (by decide) (hw (Cond.fieldLink "ClauseSearch$Trail" 35 "ClauseSearch$Trail" "size" "I") k_110) (fun _ h9 => h9) rfl d_Tr_tryOut_19 ?_
  refine va_iast hx hb hK hP hD hS 5 4 rfl rfl (vp_in_nI (by omega) (by omega)) d_Tr_tryOut_22 (fun H locs hP hD hS => ?_)
  rw [nI_clamp (n := lev + 1) (by omega)] at hP hD
  have hP : va_P (dC, dI) vwCl [(t0, .inr (4, [.ref u0, .ref u1, .ref u2, .ref u3, .ref u4, .int (nI k), .int (nI fo), .int (nI (lev + 1)), .int (nI low)])), (u0, .inl (z0, 802, .inl tv)), (u1, .inl (z1, 401, .inl ov)), (u2, .inl (z2, 401, .inl lv)), (u3, .inl (z3, 401, .inl rv)), (u4, .inl (z4, 402, .inl (upd sv (lev + 1) (nI k))))] H := hP
  have hD : va_D A [(t0, .inr (4, [.ref u0, .ref u1, .ref u2, .ref u3, .ref u4, .int (nI k), .int (nI fo), .int (nI (lev + 1)), .int (nI low)])), (u0, .inl (z0, 802, .inl tv)), (u1, .inl (z1, 401, .inl ov)), (u2, .inl (z2, 401, .inl lv)), (u3, .inl (z3, 401, .inl rv)), (u4, .inl (z4, 402, .inl (upd sv (lev + 1) (nI k))))] := hD
  refine lv_aload_n hx hb d_Tr_tryOut_23 rfl (lv_at hl 0 rfl) ?_
  refine lv_iload_n hx hb d_Tr_tryOut_24 rfl (lv_at hl 1 rfl) ?_
  refine lv_iconst (v := (-1)) hx hb d_Tr_tryOut_25 (by decide) ?_
  have hPc := hP.sub (ws' := [(t0, .inr (4, [.ref u0, .ref u1, .ref u2, .ref u3, .ref u4, .int (nI k), .int (nI fo), .int (nI (lev + 1)), .int (nI low)])), (u0, .inl (z0, 802, .inl tv)), (u1, .inl (z1, 401, .inl ov)), (u2, .inl (z2, 401, .inl lv)), (u3, .inl (z3, 401, .inl rv))]) [0, 1, 2, 3, 4] rfl
  have hDc := hD.sub (ws' := [(t0, .inr (4, [.ref u0, .ref u1, .ref u2, .ref u3, .ref u4, .int (nI k), .int (nI fo), .int (nI (lev + 1)), .int (nI low)])), (u0, .inl (z0, 802, .inl tv)), (u1, .inl (z1, 401, .inl ov)), (u2, .inl (z2, 401, .inl lv)), (u3, .inl (z3, 401, .inl rv))]) [0, 1, 2, 3, 4] (by decide) rfl
  have hKc := hK.sub (tys' := [(z0, .byte), (z1, .int), (z2, .int), (z3, .int)]) [0, 1, 2, 3] rfl
  have hFc := va_free (wc := [(t0, .inr (4, [.ref u0, .ref u1, .ref u2, .ref u3, .ref u4, .int (nI k), .int (nI fo), .int (nI (lev + 1)), .int (nI low)])), (u0, .inl (z0, 802, .inl tv)), (u1, .inl (z1, 401, .inl ov)), (u2, .inl (z2, 401, .inl lv)), (u3, .inl (z3, 401, .inl rv))]) hD hS hA [0, 1, 2, 3, 4] rfl
  refine va_callv (va_runV (As := [.int (nI c0), .int (-1)]) (rest := []) ⟨hx, hb, hml, hown, hw⟩ (c_Tr_put l dC dI t0 u0 u1 u2 u3 u4 z0 z1 z2 z3 H.size k fo (lev + 1) low tv ov lv rv c0 (-1) hc hf hk) (cb_V (C := R_Tr) 2 hw k_306 k_32 k_424 k_304 k_305 rfl rfl (by decide +kernel) ⟨Nat.le_of_ble_eq_true rfl, Nat.le_of_ble_eq_true rfl⟩) ⟨fun a U g mk q => by obtain ⟨q0, q1, qP, qK, qD⟩ := q; exact ⟨q0, q1, qP, va_K.moved (u := U) (U := U.calling g mk a) (Vm.Alike.refl U.vm) qK, qD⟩, va_recv hKc hPc (ci := 4) (q0 := 0) rfl rfl, fun U hU hW => ⟨rfl, by rw [hU], by rw [hU]; exact hPc, va_K.moved hW.alike hKc, hDc.weaken (fun _ _ _ _ => trivial)⟩⟩ rfl rfl hl.1 rfl (lv_room (Nat.le_of_ble_eq_true rfl)) d_Tr_tryOut_26 ⟨Nat.le_of_ble_eq_true rfl, Nat.le_of_ble_eq_true rfl⟩) hS (fun q _ h => hFc q h) hFc (fun u t H1 locs ht hvm hw9 hB hz1 hk1 hS => ?_)
  obtain ⟨hP1, hK1, hD1⟩ := hB
  rw [ht] at hP1
  have hK1 := va_K.moved hvm.symm hK1
  obtain ⟨hP, hD⟩ := va_join (wr := [(u4, .inl (z4, 402, .inl (upd sv (lev + 1) (nI k))))]) (w1 := [(t0, .inr (4, [.ref u0, .ref u1, .ref u2, .ref u3, .ref u4, .int (nI (k + 1)), .int (nI fo), .int (nI (lev + 1)), .int (nI low)])), (u0, .inl (z0, 802, .inl (upd (upd tv c0 1) (fl c0) 2))), (u1, .inl (z1, 401, .inl (upd ov k (nI c0)))), (u2, .inl (z2, 401, .inl (upd lv (c0 / 2) (nI (lev + 1))))), (u3, .inl (z3, 401, .inl (upd rv (c0 / 2) (-1))))]) hP hD [0, 1, 2, 3, 4] [5] rfl rfl (by decide) (by decide) hk1 hFc hP1 hD1
  generalize H1 = H at hP hS ⊢
  have hP : va_P (dC, dI) vwCl [(u4, .inl (z4, 402, .inl (upd sv (lev + 1) (nI k)))), (t0, .inr (4, [.ref u0, .ref u1, .ref u2, .ref u3, .ref u4, .int (nI (k + 1)), .int (nI fo), .int (nI (lev + 1)), .int (nI low)])), (u0, .inl (z0, 802, .inl (upd (upd tv c0 1) (fl c0) 2))), (u1, .inl (z1, 401, .inl (upd ov k (nI c0)))), (u2, .inl (z2, 401, .inl (upd lv (c0 / 2) (nI (lev + 1))))), (u3, .inl (z3, 401, .inl (upd rv (c0 / 2) (-1))))] H := hP
  have hD : va_D A [(u4, .inl (z4, 402, .inl (upd sv (lev + 1) (nI k)))), (t0, .inr (4, [.ref u0, .ref u1, .ref u2, .ref u3, .ref u4, .int (nI (k + 1)), .int (nI fo), .int (nI (lev + 1)), .int (nI low)])), (u0, .inl (z0, 802, .inl (upd (upd tv c0 1) (fl c0) 2))), (u1, .inl (z1, 401, .inl (upd ov k (nI c0)))), (u2, .inl (z2, 401, .inl (upd lv (c0 / 2) (nI (lev + 1))))), (u3, .inl (z3, 401, .inl (upd rv (c0 / 2) (-1))))] := hD
  refine W.widen (k := 0) (n := 0) (by decide) (by decide) ?_
  refine W.widen (k := 0) (n := 0) (by decide) (by decide) ?_
  exact W.vret hx hb hr (fun t ht hW => ⟨⟨(), rfl, trivial, by rw [ht]; exact hP, va_K.moved hW.alike hK, hD⟩, hS.F ht⟩) hS.2.2 d_Tr_tryOut_29

set_option maxHeartbeats 4000000 in
set_option maxRecDepth 100000 in
/-- the loop of shrink -/
theorem l_shrink {p : Program} {l : Launch} {e : Env} {R : Room} {s : State} {m : MethodId} {args : Array Value} {below : List Frame} {meth : Method} {c : Code} {dC : Nat → ClassId} {dI : Nat → Nat → Nat} {A : Nat → Prop} {Q : State → Prop} {cells slots : Nat} {H0 : Heap} {t0 u0 u1 u2 u3 u4 : Nat} {z0 z1 : ClassId} {k fo lev low j : Nat} {tv ov : Nat → Int32} {O : Nat → Nat} (hx : p.tables.exec = Jvm.exec) (hb : c.code = prog_6_method_6_code) (hml : c.maxLocals = 3) (hw : ∀ w ∈ bg_W, w.before args s = true) (hown : s.vm.findClass R_Tr = some m.cls) (hK : va_K (dC, dI) vwCl [(z0, .byte), (z1, .int)] s) (hR1 : 1 ≤ R.frames) (hR2 : 15 ≤ R.locals) (hR3 : cells ≤ R.cells) (hR4 : slots ≤ R.slots) (hk : k ≤ 401) (hlow : low ≤ 401) (hO : ∀ p, p < k → ov p = nI (O p) ∧ 2 ≤ O p ∧ O p < 802 ∧ fl (O p) < 802)
    (kk : ∀ (g : Nat → Int32) (lo : Nat) (H : Heap) (locs : List Loc) (ls : Array Slot), (∀ c, (∀ p, j ≤ p → p < k → O p ≠ c ∧ fl (O p) ≠ c) → g c = tv c) → (∀ p, j ≤ p → p < k → g (O p) = 0 ∧ g (fl (O p)) = 0) → 1 ≤ lo → lo ≤ low → va_P (dC, dI) vwCl [(t0, .inr (4, [.ref u0, .ref u1, .ref u2, .ref u3, .ref u4, .int (nI j), .int (nI fo), .int (nI lev), .int (nI lo)])), (u0, .inl (z0, 802, .inl g)), (u1, .inl (z1, 401, .inl ov))] H → va_D A [(t0, .inr (4, [.ref u0, .ref u1, .ref u2, .ref u3, .ref u4, .int (nI j), .int (nI fo), .int (nI lev), .int (nI lo)])), (u0, .inl (z0, 802, .inl g)), (u1, .inl (z1, 401, .inl ov))] → va_S A H0 H locs → lv_has ls 3 [(0, .ref t0), (1, .int (nI j))] → W p l e R s m args below meth c H locs cells slots Q (F0 m 63 ls [])) :
    ∀ (f i : Nat) (g : Nat → Int32) (lo : Nat) (H : Heap) (locs : List Loc) (ls : Array Slot), j ≤ i → i ≤ k → i + 1 ≤ j + f → (∀ c, (∀ p, i ≤ p → p < k → O p ≠ c ∧ fl (O p) ≠ c) → g c = tv c) → (∀ p, i ≤ p → p < k → g (O p) = 0 ∧ g (fl (O p)) = 0) → 1 ≤ lo → lo ≤ low → va_P (dC, dI) vwCl [(t0, .inr (4, [.ref u0, .ref u1, .ref u2, .ref u3, .ref u4, .int (nI i), .int (nI fo), .int (nI lev), .int (nI lo)])), (u0, .inl (z0, 802, .inl g)), (u1, .inl (z1, 401, .inl ov))] H → va_D A [(t0, .inr (4, [.ref u0, .ref u1, .ref u2, .ref u3, .ref u4, .int (nI i), .int (nI fo), .int (nI lev), .int (nI lo)])), (u0, .inl (z0, 802, .inl g)), (u1, .inl (z1, 401, .inl ov))] → va_S A H0 H locs → lv_has ls 3 [(0, .ref t0), (1, .int (nI j))] → W p l e R s m args below meth c H locs cells slots Q (F0 m 0 ls []) := by
  intro f
  induction f with
  | zero => intro i g lo H locs ls q1 q2 q3; exact absurd q3 (by omega)
  | succ f ih =>
    intro i g lo H locs ls q1 q2 q3 h1 h2 h3 h4 hP hD hS hl
    refine lv_aload_n hx hb d_Tr_shrink_0 rfl (lv_at hl 0 rfl) ?_
    refine va_get (D := (dC, dI)) (ci := 4) (v := .int (nI i)) (C := R_Tr) (T := F_Tr) (N := 9) hx hb hw in_Tr hown hK hP 0 rfl rfl 5 (by decide) (hw (Cond.fieldLink "ClauseSearch$Trail" 35 "ClauseSearch$Trail" "size" "I") k_110) (fun _ h9 => h9) rfl d_Tr_shrink_1 ?_
    refine lv_iload_n hx hb d_Tr_shrink_4 rfl (lv_at hl 1 rfl) ?_
    refine lv_icmp_le (tgt := 63) hx hb d_Tr_shrink_5 (by decide) (fun c_5 => ?_) (fun c_5 => ?_)
    · have c_5 : i ≤ j := (nI_leI (a := i) (b := j) (by omega) (by omega)).mp c_5
      obtain rfl : i = j := by omega
      exact kk g lo H locs ls h1 h2 h3 h4 hP hD hS (lv_sub hl [0, 1] rfl)
    · have c_5 : ¬ (i ≤ j) := fun qq9 => c_5 ((nI_leI (a := i) (b := j) (by omega) (by omega)).mpr qq9)
      obtain ⟨i, rfl⟩ : ∃ q, i = q + 1 := ⟨i - 1, by omega⟩
      obtain ⟨hO1, hO2, hO3, hO4⟩ := hO i (by omega)
      refine lv_aload_n hx hb d_Tr_shrink_8 rfl (lv_at hl 0 rfl) ?_
      refine va_get (D := (dC, dI)) (ci := 4) (v := .ref u1) (C := R_Tr) (T := F_Tr) (N := 9) hx hb hw in_Tr hown hK hP 0 rfl rfl 1 (by decide) (hw (Cond.fieldLink "ClauseSearch$Trail" 15 "ClauseSearch$Trail" "order" "[I") k_100) (fun _ h9 => h9) rfl d_Tr_shrink_9 ?_
      refine lv_aload_n hx hb d_Tr_shrink_12 rfl (lv_at hl 0 rfl) ?_
      refine va_get (D := (dC, dI)) (ci := 4) (v := .int (nI (i + 1))) (C := R_Tr) (T := F_Tr) (N := 9) hx hb hw in_Tr hown hK hP 0 rfl rfl 5 (by decide) (hw (Cond.fieldLink "ClauseSearch$Trail" 35 "ClauseSearch$Trail" "size" "I") k_110) (fun _ h9 => h9) rfl d_Tr_shrink_13 ?_
      refine lv_iconst (v := nI 1) hx hb d_Tr_shrink_16 (by decide) ?_
      refine lv_isub hx hb d_Tr_shrink_17 ?_
      refine lv_topi (fun y_1 ey_1 => ?_)
      obtain rfl : y_1 = nI (i + 1 - 1) := ey_1.trans (pk_sub (by omega))
      refine va_iald hx hb hK hP 2 1 rfl rfl (vp_in_nI (by omega) (by omega)) d_Tr_shrink_18 ?_
      refine lv_topi (fun y_2 ey_2 => ?_)
      rw [nI_clamp (by omega)] at ey_2
      rw [show i + 1 - 1 = i by omega, hO1] at ey_2
      subst ey_2
      refine lv_istore_n (lv' := [(2, .int (nI (O i))), (0, .ref t0), (1, .int (nI j))]) hx hb d_Tr_shrink_19 rfl hl (by decide) rfl (fun ls hl => ?_)
      refine lv_aload_n hx hb d_Tr_shrink_20 rfl (lv_at hl 1 rfl) ?_
      refine va_get (D := (dC, dI)) (ci := 4) (v := .ref u0) (C := R_Tr) (T := F_Tr) (N := 9) hx hb hw in_Tr hown hK hP 0 rfl rfl 0 (by decide) (hw (Cond.fieldLink "ClauseSearch$Trail" 9 "ClauseSearch$Trail" "truth" "[B") k_96) (fun _ h9 => h9) rfl d_Tr_shrink_21 ?_
      refine lv_iload_n hx hb d_Tr_shrink_24 rfl (lv_at hl 0 rfl) ?_
      refine lv_iconst (v := 0) hx hb d_Tr_shrink_25 (by decide) ?_
      have en_26 : vp_nar .byte 0 = 0 := rfl
      refine va_bast hx hb hK hP hD hS 1 0 rfl rfl (vp_in_nI (by omega) (by omega)) d_Tr_shrink_26 (fun H locs hP hD hS => ?_)
      rw [nI_clamp (n := O i) (by omega), en_26] at hP hD
      have hP : va_P (dC, dI) vwCl [(t0, .inr (4, [.ref u0, .ref u1, .ref u2, .ref u3, .ref u4, .int (nI (i + 1)), .int (nI fo), .int (nI lev), .int (nI lo)])), (u0, .inl (z0, 802, .inl (upd g (O i) 0))), (u1, .inl (z1, 401, .inl ov))] H := hP
      have hD : va_D A [(t0, .inr (4, [.ref u0, .ref u1, .ref u2, .ref u3, .ref u4, .int (nI (i + 1)), .int (nI fo), .int (nI lev), .int (nI lo)])), (u0, .inl (z0, 802, .inl (upd g (O i) 0))), (u1, .inl (z1, 401, .inl ov))] := hD
      refine lv_aload_n hx hb d_Tr_shrink_27 rfl (lv_at hl 1 rfl) ?_
      refine va_get (D := (dC, dI)) (ci := 4) (v := .ref u0) (C := R_Tr) (T := F_Tr) (N := 9) hx hb hw in_Tr hown hK hP 0 rfl rfl 0 (by decide) (hw (Cond.fieldLink "ClauseSearch$Trail" 9 "ClauseSearch$Trail" "truth" "[B") k_96) (fun _ h9 => h9) rfl d_Tr_shrink_28 ?_
      refine lv_iload_n hx hb d_Tr_shrink_31 rfl (lv_at hl 0 rfl) ?_
      refine lv_iconst (v := nI 1) hx hb d_Tr_shrink_32 (by decide) ?_
      refine lv_ixor hx hb d_Tr_shrink_33 ?_
      refine lv_topi (fun y_3 ey_3 => ?_)
      obtain rfl : y_3 = nI (fl (O i)) := ey_3.trans (ni_xor (O i) (by omega))
      refine lv_iconst (v := 0) hx hb d_Tr_shrink_34 (by decide) ?_
      have en_35 : vp_nar .byte 0 = 0 := rfl
      refine va_bast hx hb hK hP hD hS 1 0 rfl rfl (vp_in_nI (by omega) (by omega)) d_Tr_shrink_35 (fun H locs hP hD hS => ?_)
      rw [nI_clamp (n := fl (O i)) (by omega), en_35] at hP hD
      have hP : va_P (dC, dI) vwCl [(t0, .inr (4, [.ref u0, .ref u1, .ref u2, .ref u3, .ref u4, .int (nI (i + 1)), .int (nI fo), .int (nI lev), .int (nI lo)])), (u0, .inl (z0, 802, .inl (upd (upd g (O i) 0) (fl (O i)) 0))), (u1, .inl (z1, 401, .inl ov))] H := hP
      have hD : va_D A [(t0, .inr (4, [.ref u0, .ref u1, .ref u2, .ref u3, .ref u4, .int (nI (i + 1)), .int (nI fo), .int (nI lev), .int (nI lo)])), (u0, .inl (z0, 802, .inl (upd (upd g (O i) 0) (fl (O i)) 0))), (u1, .inl (z1, 401, .inl ov))] := hD
      refine lv_aload_n hx hb d_Tr_shrink_36 rfl (lv_at hl 1 rfl) ?_
      refine lv_aload_n hx hb d_Tr_shrink_37 rfl (lv_at hl 1 rfl) ?_
      refine va_get (D := (dC, dI)) (ci := 4) (v := .int (nI lo)) (C := R_Tr) (T := F_Tr) (N := 9) hx hb hw in_Tr hown hK hP 0 rfl rfl 8 (by decide) (hw (Cond.fieldLink "ClauseSearch$Trail" 28 "ClauseSearch$Trail" "lowest" "I") k_117) (fun _ h9 => h9) rfl d_Tr_shrink_38 ?_
      refine lv_iload_n hx hb d_Tr_shrink_41 rfl (lv_at hl 0 rfl) ?_
      refine lv_iconst (v := nI 1) hx hb d_Tr_shrink_42 (by decide) ?_
      refine lv_ishr hx hb d_Tr_shrink_43 ?_
      refine lv_topi (fun y_4 ey_4 => ?_)
      obtain rfl : y_4 = nI ((O i) / 2) := ey_4.trans (ni_shr (by omega))
      refine va_mmin hx hb (by rw [hml]; exact hl.1.symm) hown (hw (Cond.methodLink "ClauseSearch$Trail" 46 ⟨"java/lang/Math", "min", "(II)I"⟩) k_296) (hw (Cond.static ⟨"java/lang/Math", "min", "(II)I"⟩) k_297) (hw (Cond.initialized "java/lang/Math") k_44) (hw (Cond.code ⟨"java/lang/Math", "min", "(II)I"⟩ prog_15_method_69_code 2 (some .int)) k_298) (Nat.le_trans (Nat.le_of_ble_eq_true rfl) hR1) (Nat.le_trans (Nat.le_of_ble_eq_true rfl) hR2) (hR3) (hR4) d_Tr_shrink_44 ?_
      refine lv_topi (fun y_5 ey_5 => ?_)
      obtain rfl : y_5 = nI (min lo ((O i) / 2)) := ey_5.trans (ni_min (by omega) (by omega))
      refine va_put (D := (dC, dI)) (ci := 4) (v := .int (nI (min lo ((O i) / 2)))) (ty := .int) (C := R_Tr) (T := F_Tr) (N := 9) hx hb hw in_Tr t_Tr t_Tr_ok n_Tr hown hK hP hD hS 0 rfl rfl 8 (by decide) (hw (Cond.fieldLink "ClauseSearch$Trail" 28 "ClauseSearch$Trail" "lowest" "I") k_117) (fun _ h9 => h9) rfl (by decide +kernel) rfl rfl (Nat.le_of_ble_eq_true rfl) d_Tr_shrink_47 (fun H locs hP hD hS => ?_)
      have hP : va_P (dC, dI) vwCl [(t0, .inr (4, [.ref u0, .ref u1, .ref u2, .ref u3, .ref u4, .int (nI (i + 1)), .int (nI fo), .int (nI lev), .int (nI (min lo ((O i) / 2)))])), (u0, .inl (z0, 802, .inl (upd (upd g (O i) 0) (fl (O i)) 0))), (u1, .inl (z1, 401, .inl ov))] H := hP
      have hD : va_D A [(t0, .inr (4, [.ref u0, .ref u1, .ref u2, .ref u3, .ref u4, .int (nI (i + 1)), .int (nI fo), .int (nI lev), .int (nI (min lo ((O i) / 2)))])), (u0, .inl (z0, 802, .inl (upd (upd g (O i) 0) (fl (O i)) 0))), (u1, .inl (z1, 401, .inl ov))] := hD
      refine lv_aload_n hx hb d_Tr_shrink_50 rfl (lv_at hl 1 rfl) ?_
      refine lv_dup hx hb d_Tr_shrink_51 rfl ?_
      refine va_get (D := (dC, dI)) (ci := 4) (v := .int (nI (i + 1))) (C := R_Tr) (T := F_Tr) (N := 9) hx hb hw in_Tr hown hK hP 0 rfl rfl 5 (by decide) (hw (Cond.fieldLink "ClauseSearch$Trail" 35 "ClauseSearch$Trail" "size" "I") k_110) (fun _ h9 => h9) rfl d_Tr_shrink_52 ?_
      refine lv_iconst (v := nI 1) hx hb d_Tr_shrink_55 (by decide) ?_
      refine lv_isub hx hb d_Tr_shrink_56 ?_
      refine lv_topi (fun y_6 ey_6 => ?_)
      obtain rfl : y_6 = nI (i + 1 - 1) := ey_6.trans (pk_sub (by omega))
      refine va_put (D := (dC, dI)) (ci := 4) (v := .int (nI (i + 1 - 1))) (ty := .int) (C := R_Tr) (T := F_Tr) (N := 9) hx hb hw in_Tr t_Tr t_Tr_ok n_Tr hown hK hP hD hS 0 rfl rfl 5 (by decide) (hw (Cond.fieldLink "ClauseSearch$Trail" 35 "ClauseSearch$Trail" "size" "I") k_110) (fun _ h9 => h9) rfl (by decide +kernel) rfl rfl (Nat.le_of_ble_eq_true rfl) d_Tr_shrink_57 (fun H locs hP hD hS => ?_)
      have hP : va_P (dC, dI) vwCl [(t0, .inr (4, [.ref u0, .ref u1, .ref u2, .ref u3, .ref u4, .int (nI (i + 1 - 1)), .int (nI fo), .int (nI lev), .int (nI (min lo ((O i) / 2)))])), (u0, .inl (z0, 802, .inl (upd (upd g (O i) 0) (fl (O i)) 0))), (u1, .inl (z1, 401, .inl ov))] H := hP
      have hD : va_D A [(t0, .inr (4, [.ref u0, .ref u1, .ref u2, .ref u3, .ref u4, .int (nI (i + 1 - 1)), .int (nI fo), .int (nI lev), .int (nI (min lo ((O i) / 2)))])), (u0, .inl (z0, 802, .inl (upd (upd g (O i) 0) (fl (O i)) 0))), (u1, .inl (z1, 401, .inl ov))] := hD
      refine lv_goto (tgt := 0) hx hb d_Tr_shrink_60 (by decide) ?_
      rw [show i + 1 - 1 = i by omega] at hP hD
      exact ih i (upd (upd g (O i) 0) (fl (O i)) 0) (min lo (O i / 2)) _ _ ls (by omega) (by omega) (by omega) (sh_1 (by omega) h1) (sh_2 h2) (by omega) (by omega) hP hD hS (lv_sub hl [1, 2] rfl)

set_option maxHeartbeats 4000000 in
set_option maxRecDepth 100000 in
/-- shrink(newSize): the truths above are gone -/
theorem c_Tr_shrink (l : Launch) (dC : Nat → ClassId) (dI : Nat → Nat → Nat) (t0 : Nat) (u0 : Nat) (u1 : Nat) (u2 : Nat) (u3 : Nat) (u4 : Nat) (z0 : ClassId) (z1 : ClassId) (sz : Nat) (k : Nat) (fo : Nat) (lev : Nat) (low : Nat) (tv : Nat → Int32) (ov : Nat → Int32) (j : Nat) (O : Nat → Nat) (hk : k ≤ 401) (hlow : low ≤ 401) (hlo1 : 1 ≤ low) (hj : j ≤ k) (hfo : fo ≤ 401) (hO : ∀ p, p < k → ov p = nI (O p) ∧ 2 ≤ O p ∧ O p < 802 ∧ fl (O p) < 802) : Met l y_Tr_shrink (wq y_Tr_shrink prog_6_method_6_code 3 none) ({ frames := 1, cells := 0, slots := 0, locals := 15 }) (va_Pc [.ref t0, .int (nI j)] (fun U => U.heap.size = sz ∧ va_P (dC, dI) vwCl [(t0, .inr (4, [.ref u0, .ref u1, .ref u2, .ref u3, .ref u4, .int (nI k), .int (nI fo), .int (nI lev), .int (nI low)])), (u0, .inl (z0, 802, .inl tv)), (u1, .inl (z1, 401, .inl ov))] U.heap ∧ va_K (dC, dI) vwCl [(z0, .byte), (z1, .int)] U ∧ va_D (fun _ => True) [(t0, .inr (4, [.ref u0, .ref u1, .ref u2, .ref u3, .ref u4, .int (nI k), .int (nI fo), .int (nI lev), .int (nI low)])), (u0, .inl (z0, 802, .inl tv)), (u1, .inl (z1, 401, .inl ov))])) (va_Qv (fun _ : Unit => True) (fun (_ : Unit) t => ∃ (g_900 : Nat → Int32) (lo : Nat), ((∀ c, (∀ p, j ≤ p → p < k → O p ≠ c ∧ fl (O p) ≠ c) → g_900 c = tv c) ∧ (∀ p, j ≤ p → p < k → g_900 (O p) = 0 ∧ g_900 (fl (O p)) = 0) ∧ 1 ≤ lo ∧ lo ≤ low) ∧ va_P (dC, dI) vwCl [(t0, .inr (4, [.ref u0, .ref u1, .ref u2, .ref u3, .ref u4, .int (nI j), .int (nI (min fo j)), .int (nI lev), .int (nI lo)])), (u0, .inl (z0, 802, .inl g_900)), (u1, .inl (z1, 401, .inl ov))] t.heap ∧ va_K (dC, dI) vwCl [(z0, .byte), (z1, .int)] t ∧ va_D (va_A [(t0, .inr (4, [.ref u0, .ref u1, .ref u2, .ref u3, .ref u4, .int (nI k), .int (nI fo), .int (nI lev), .int (nI low)])), (u0, .inl (z0, 802, .inl tv)), (u1, .inl (z1, 401, .inl ov))] sz) [(t0, .inr (4, [.ref u0, .ref u1, .ref u2, .ref u3, .ref u4, .int (nI j), .int (nI (min fo j)), .int (nI lev), .int (nI lo)])), (u0, .inl (z0, 802, .inl g_900)), (u1, .inl (z1, 401, .inl ov))]) (va_A [(t0, .inr (4, [.ref u0, .ref u1, .ref u2, .ref u3, .ref u4, .int (nI k), .int (nI fo), .int (nI lev), .int (nI low)])), (u0, .inl (z0, 802, .inl tv)), (u1, .inl (z1, 401, .inl ov))] sz)) 0 0 (va_A [(t0, .inr (4, [.ref u0, .ref u1, .ref u2, .ref u3, .ref u4, .int (nI k), .int (nI fo), .int (nI lev), .int (nI low)])), (u0, .inl (z0, 802, .inl tv)), (u1, .inl (z1, 401, .inl ov))] sz) := by
  refine Met.ofW (cc := prog_6_method_6_code) (maxL := 3) (ret := none) (by decide) rfl ?_
  intro p e s m args below meth c s₁ B hml hv
  obtain ⟨rfl, hsz, hP, hK, hD0⟩ := hv
  have hx := B.exec
  have hb := B.bytes
  have hr := B.returns
  have hw : ∀ w ∈ bg_W, w.before #[Value.ref t0, Value.int (nI j)] s = true := fun w h => atoms_spec (ws := (wq y_Tr_shrink prog_6_method_6_code 3 none)) B.pre w (List.mem_cons_of_mem _ h)
  have hown : s.vm.findClass R_Tr = some m.cls := findClass_of_methodNamed B.named
  have hlocks := B.notSynchronized
  subst hsz
  have hD := hD0.self (sz := s.heap.size)
  generalize hAe : va_A [(t0, .inr (4, [.ref u0, .ref u1, .ref u2, .ref u3, .ref u4, .int (nI k), .int (nI fo), .int (nI lev), .int (nI low)])), (u0, .inl (z0, 802, .inl tv)), (u1, .inl (z1, 401, .inl ov))] s.heap.size = A at hD ⊢
  have hA : ∀ q : Nat, s.heap.size ≤ q → A q := fun q h => by rw [← hAe]; exact Or.inr h
  have hS : va_S A s.heap s.heap [] := va_S.rf
  have hP : va_P (dC, dI) vwCl [(t0, .inr (4, [.ref u0, .ref u1, .ref u2, .ref u3, .ref u4, .int (nI k), .int (nI fo), .int (nI lev), .int (nI low)])), (u0, .inl (z0, 802, .inl tv)), (u1, .inl (z1, 401, .inl ov))] s.heap := hP
  have hl := lv_entry ([.ref t0, .int (nI j)]) (n := 3) (Nat.le_of_ble_eq_true rfl)
  rw [lg_entry_eq]
  generalize (lg_sl ([.ref t0, .int (nI j)]) ++ List.replicate (3 - (lg_sl ([.ref t0, .int (nI j)])).length) Slot.unset).toArray = ls at hl ⊢
  have hl : lv_has ls 3 [(0, .ref t0), (1, .int (nI j))] := hl
  obtain ⟨H, hH⟩ : ∃ H : Heap, H = s.heap := ⟨_, rfl⟩
  rw [← hH] at hP
  have hS : va_S A s.heap H [] := by rw [hH]; exact va_S.rf
  show W p l e _ s m _ below meth c s.heap [] 0 0 _ _
  rw [← hH]
  refine l_shrink (O := O) hx hb hml hw hown (hK.sub (tys' := [(z0, .byte), (z1, .int)]) [0, 1] rfl) (Nat.le_of_ble_eq_true rfl) (Nat.le_of_ble_eq_true rfl) (Nat.le_of_ble_eq_true rfl) (Nat.le_of_ble_eq_true rfl) (by omega) hlow hO (fun g_900 lo H1 locs ls q1 q2 q3 q4 hP1 hD1 hS hl => ?_) (k + 1) k tv low _ _ ls hj (Nat.le_refl k) (by omega) (fun c _ => rfl) (fun p q1 q2 => absurd q1 (by omega)) hlo1 (Nat.le_refl low) hP hD hS (lv_sub hl [0, 1] rfl)
  have hP := hP1
  have hD := hD1
  generalize H1 = H at hP hS ⊢
  have hP : va_P (dC, dI) vwCl [(t0, .inr (4, [.ref u0, .ref u1, .ref u2, .ref u3, .ref u4, .int (nI j), .int (nI fo), .int (nI lev), .int (nI lo)])), (u0, .inl (z0, 802, .inl g_900)), (u1, .inl (z1, 401, .inl ov))] H := hP
  have hD : va_D A [(t0, .inr (4, [.ref u0, .ref u1, .ref u2, .ref u3, .ref u4, .int (nI j), .int (nI fo), .int (nI lev), .int (nI lo)])), (u0, .inl (z0, 802, .inl g_900)), (u1, .inl (z1, 401, .inl ov))] := hD
  refine lv_aload_n hx hb d_Tr_shrink_63 rfl (lv_at hl 0 rfl) ?_
  refine lv_aload_n hx hb d_Tr_shrink_64 rfl (lv_at hl 0 rfl) ?_
  refine va_get (D := (dC, dI)) (ci := 4) (v := .int (nI fo)) (C := R_Tr) (T := F_Tr) (N := 9) hx hb hw in_Tr hown hK hP 0 rfl rfl 6 (by decide) (hw (Cond.fieldLink "ClauseSearch$Trail" 52 "ClauseSearch$Trail" "followed" "I") k_113) (fun _ h9 => h9) rfl d_Tr_shrink_65 ?_
  refine lv_aload_n hx hb d_Tr_shrink_68 rfl (lv_at hl 0 rfl) ?_
  refine va_get (D := (dC, dI)) (ci := 4) (v := .int (nI j)) (C := R_Tr) (T := F_Tr) (N := 9) hx hb hw in_Tr hown hK hP 0 rfl rfl 5 (by decide) (hw (Cond.fieldLink "ClauseSearch$Trail" 35 "ClauseSearch$Trail" "size" "I") k_110) (fun _ h9 => h9) rfl d_Tr_shrink_69 ?_
  refine va_mmin hx hb (by rw [hml]; exact hl.1.symm) hown (hw (Cond.methodLink "ClauseSearch$Trail" 46 ⟨"java/lang/Math", "min", "(II)I"⟩) k_296) (hw (Cond.static ⟨"java/lang/Math", "min", "(II)I"⟩) k_297) (hw (Cond.initialized "java/lang/Math") k_44) (hw (Cond.code ⟨"java/lang/Math", "min", "(II)I"⟩ prog_15_method_69_code 2 (some .int)) k_298) (Nat.le_of_ble_eq_true rfl) (Nat.le_of_ble_eq_true rfl) (Nat.le_of_ble_eq_true rfl) (Nat.le_of_ble_eq_true rfl) d_Tr_shrink_72 ?_
  refine lv_topi (fun y_1 ey_1 => ?_)
  obtain rfl : y_1 = nI (min fo j) := ey_1.trans (ni_min (by omega) (by omega))
  refine va_put (D := (dC, dI)) (ci := 4) (v := .int (nI (min fo j))) (ty := .int) (C := R_Tr) (T := F_Tr) (N := 9) hx hb hw in_Tr t_Tr t_Tr_ok n_Tr hown hK hP hD hS 0 rfl rfl 6 (by decide) (hw (Cond.fieldLink "ClauseSearch$Trail" 52 "ClauseSearch$Trail" "followed" "I") k_113) (fun _ h9 => h9) rfl (by decide +kernel) rfl rfl (Nat.le_of_ble_eq_true rfl) d_Tr_shrink_75 (fun H locs hP hD hS => ?_)
  have hP : va_P (dC, dI) vwCl [(t0, .inr (4, [.ref u0, .ref u1, .ref u2, .ref u3, .ref u4, .int (nI j), .int (nI (min fo j)), .int (nI lev), .int (nI lo)])), (u0, .inl (z0, 802, .inl g_900)), (u1, .inl (z1, 401, .inl ov))] H := hP
  have hD : va_D A [(t0, .inr (4, [.ref u0, .ref u1, .ref u2, .ref u3, .ref u4, .int (nI j), .int (nI (min fo j)), .int (nI lev), .int (nI lo)])), (u0, .inl (z0, 802, .inl g_900)), (u1, .inl (z1, 401, .inl ov))] := hD
  refine W.widen (k := 0) (n := 0) (by decide) (by decide) ?_
  exact W.vret hx hb hr (fun t ht hW => ⟨⟨(), rfl, trivial, g_900, lo, ⟨q1, q2, q3, q4⟩, by rw [ht]; exact hP, va_K.moved hW.alike hK, hD⟩, hS.F ht⟩) hS.2.2 d_Tr_shrink_78

set_option maxHeartbeats 4000000 in
set_option maxRecDepth 100000 in
/-- clear() -/
theorem c_Tr_clear (l : Launch) (dC : Nat → ClassId) (dI : Nat → Nat → Nat) (t0 : Nat) (u0 : Nat) (u1 : Nat) (u2 : Nat) (u3 : Nat) (u4 : Nat) (z0 : ClassId) (z1 : ClassId) (sz : Nat) (k : Nat) (fo : Nat) (lev : Nat) (low : Nat) (tv : Nat → Int32) (ov : Nat → Int32) (O : Nat → Nat) (hk : k ≤ 401) (hlow : low ≤ 401) (hlo1 : 1 ≤ low) (hfo : fo ≤ 401) (hO : ∀ p, p < k → ov p = nI (O p) ∧ 2 ≤ O p ∧ O p < 802 ∧ fl (O p) < 802) : Met l y_Tr_clear (wq y_Tr_clear prog_6_method_5_code 1 none) ({ frames := 2, cells := 0, slots := 0, locals := 37 }) (va_Pc [.ref t0] (fun U => U.heap.size = sz ∧ va_P (dC, dI) vwCl [(t0, .inr (4, [.ref u0, .ref u1, .ref u2, .ref u3, .ref u4, .int (nI k), .int (nI fo), .int (nI lev), .int (nI low)])), (u0, .inl (z0, 802, .inl tv)), (u1, .inl (z1, 401, .inl ov))] U.heap ∧ va_K (dC, dI) vwCl [(z0, .byte), (z1, .int)] U ∧ va_D (fun _ => True) [(t0, .inr (4, [.ref u0, .ref u1, .ref u2, .ref u3, .ref u4, .int (nI k), .int (nI fo), .int (nI lev), .int (nI low)])), (u0, .inl (z0, 802, .inl tv)), (u1, .inl (z1, 401, .inl ov))])) (va_Qv (fun _ : Unit => True) (fun (_ : Unit) t => ∃ (g_1 : Nat → Int32) (n_2 : Nat), ((∀ c, (∀ p, 0 ≤ p → p < k → O p ≠ c ∧ fl (O p) ≠ c) → g_1 c = tv c) ∧ (∀ p, 0 ≤ p → p < k → g_1 (O p) = 0 ∧ g_1 (fl (O p)) = 0) ∧ 1 ≤ n_2 ∧ n_2 ≤ low) ∧ va_P (dC, dI) vwCl [(t0, .inr (4, [.ref u0, .ref u1, .ref u2, .ref u3, .ref u4, .int (nI 0), .int (nI (min fo 0)), .int (nI 0), .int (nI n_2)])), (u0, .inl (z0, 802, .inl g_1)), (u1, .inl (z1, 401, .inl ov))] t.heap ∧ va_K (dC, dI) vwCl [(z0, .byte), (z1, .int)] t ∧ va_D (va_A [(t0, .inr (4, [.ref u0, .ref u1, .ref u2, .ref u3, .ref u4, .int (nI k), .int (nI fo), .int (nI lev), .int (nI low)])), (u0, .inl (z0, 802, .inl tv)), (u1, .inl (z1, 401, .inl ov))] sz) [(t0, .inr (4, [.ref u0, .ref u1, .ref u2, .ref u3, .ref u4, .int (nI 0), .int (nI (min fo 0)), .int (nI 0), .int (nI n_2)])), (u0, .inl (z0, 802, .inl g_1)), (u1, .inl (z1, 401, .inl ov))]) (va_A [(t0, .inr (4, [.ref u0, .ref u1, .ref u2, .ref u3, .ref u4, .int (nI k), .int (nI fo), .int (nI lev), .int (nI low)])), (u0, .inl (z0, 802, .inl tv)), (u1, .inl (z1, 401, .inl ov))] sz)) 0 0 (va_A [(t0, .inr (4, [.ref u0, .ref u1, .ref u2, .ref u3, .ref u4, .int (nI k), .int (nI fo), .int (nI lev), .int (nI low)])), (u0, .inl (z0, 802, .inl tv)), (u1, .inl (z1, 401, .inl ov))] sz) := by
  refine Met.ofW (cc := prog_6_method_5_code) (maxL := 1) (ret := none) (by decide) rfl ?_
  intro p e s m args below meth c s₁ B hml hv
  obtain ⟨rfl, hsz, hP, hK, hD0⟩ := hv
  have hx := B.exec
  have hb := B.bytes
  have hr := B.returns
  have hw : ∀ w ∈ bg_W, w.before #[Value.ref t0] s = true := fun w h => atoms_spec (ws := (wq y_Tr_clear prog_6_method_5_code 1 none)) B.pre w (List.mem_cons_of_mem _ h)
  have hown : s.vm.findClass R_Tr = some m.cls := findClass_of_methodNamed B.named
  have hlocks := B.notSynchronized
  subst hsz
  have hD := hD0.self (sz := s.heap.size)
  generalize hAe : va_A [(t0, .inr (4, [.ref u0, .ref u1, .ref u2, .ref u3, .ref u4, .int (nI k), .int (nI fo), .int (nI lev), .int (nI low)])), (u0, .inl (z0, 802, .inl tv)), (u1, .inl (z1, 401, .inl ov))] s.heap.size = A at hD ⊢
  have hA : ∀ q : Nat, s.heap.size ≤ q → A q := fun q h => by rw [← hAe]; exact Or.inr h
  have hS : va_S A s.heap s.heap [] := va_S.rf
  have hP : va_P (dC, dI) vwCl [(t0, .inr (4, [.ref u0, .ref u1, .ref u2, .ref u3, .ref u4, .int (nI k), .int (nI fo), .int (nI lev), .int (nI low)])), (u0, .inl (z0, 802, .inl tv)), (u1, .inl (z1, 401, .inl ov))] s.heap := hP
  have hl := lv_entry ([.ref t0]) (n := 1) (Nat.le_of_ble_eq_true rfl)
  rw [lg_entry_eq]
  generalize (lg_sl ([.ref t0]) ++ List.replicate (1 - (lg_sl ([.ref t0])).length) Slot.unset).toArray = ls at hl ⊢
  have hl : lv_has ls 1 [(0, .ref t0)] := hl
  obtain ⟨H, hH⟩ : ∃ H : Heap, H = s.heap := ⟨_, rfl⟩
  rw [← hH] at hP
  have hS : va_S A s.heap H [] := by rw [hH]; exact va_S.rf
  show W p l e _ s m _ below meth c s.heap [] 0 0 _ _
  rw [← hH]
  refine lv_aload_n hx hb d_Tr_clear_0 rfl (lv_at hl 0 rfl) ?_
  refine lv_iconst (v := nI 0) hx hb d_Tr_clear_1 (by decide) ?_
  have hPc := hP.sub (ws' := [(t0, .inr (4, [.ref u0, .ref u1, .ref u2, .ref u3, .ref u4, .int (nI k), .int (nI fo), .int (nI lev), .int (nI low)])), (u0, .inl (z0, 802, .inl tv)), (u1, .inl (z1, 401, .inl ov))]) [0, 1, 2] rfl
  have hDc := hD.sub (ws' := [(t0, .inr (4, [.ref u0, .ref u1, .ref u2, .ref u3, .ref u4, .int (nI k), .int (nI fo), .int (nI lev), .int (nI low)])), (u0, .inl (z0, 802, .inl tv)), (u1, .inl (z1, 401, .inl ov))]) [0, 1, 2] (by decide) rfl
  have hKc := hK.sub (tys' := [(z0, .byte), (z1, .int)]) [0, 1] rfl
  have hFc := va_free (wc := [(t0, .inr (4, [.ref u0, .ref u1, .ref u2, .ref u3, .ref u4, .int (nI k), .int (nI fo), .int (nI lev), .int (nI low)])), (u0, .inl (z0, 802, .inl tv)), (u1, .inl (z1, 401, .inl ov))]) hD hS hA [0, 1, 2] rfl
  refine va_callv (va_runV (As := [.int (nI 0)]) (rest := []) ⟨hx, hb, hml, hown, hw⟩ (c_Tr_shrink l dC dI t0 u0 u1 u2 u3 u4 z0 z1 H.size k fo lev low tv ov 0 O hk hlow hlo1 (Nat.zero_le k) hfo hO) (cb_V (C := R_Tr) 1 hw k_295 k_32 k_292 k_294 k_0 rfl rfl (by decide +kernel) ⟨Nat.le_of_ble_eq_true rfl, Nat.le_of_ble_eq_true rfl⟩) ⟨fun a U g mk q => by obtain ⟨q0, q1, qP, qK, qD⟩ := q; exact ⟨q0, q1, qP, va_K.moved (u := U) (U := U.calling g mk a) (Vm.Alike.refl U.vm) qK, qD⟩, va_recv hKc hPc (ci := 4) (q0 := 0) rfl rfl, fun U hU hW => ⟨rfl, by rw [hU], by rw [hU]; exact hPc, va_K.moved hW.alike hKc, hDc.weaken (fun _ _ _ _ => trivial)⟩⟩ rfl rfl hl.1 rfl (lv_room (Nat.le_of_ble_eq_true rfl)) d_Tr_clear_2 ⟨Nat.le_of_ble_eq_true rfl, Nat.le_of_ble_eq_true rfl⟩) hS (fun q _ h => hFc q h) hFc (fun u t H1 locs ht hvm hw9 hB hz1 hk1 hS => ?_)
  obtain ⟨g_1, n_2, f_3, hP1, hK1, hD1⟩ := hB
  rw [ht] at hP1
  have hK1 := va_K.moved hvm.symm hK1
  obtain ⟨hP, hD⟩ := va_join (wr := []) (w1 := [(t0, .inr (4, [.ref u0, .ref u1, .ref u2, .ref u3, .ref u4, .int (nI 0), .int (nI (min fo 0)), .int (nI lev), .int (nI n_2)])), (u0, .inl (z0, 802, .inl g_1)), (u1, .inl (z1, 401, .inl ov))]) hP hD [0, 1, 2] [] rfl rfl (by decide) (by decide) hk1 hFc hP1 hD1
  generalize H1 = H at hP hS ⊢
  have hP : va_P (dC, dI) vwCl [(t0, .inr (4, [.ref u0, .ref u1, .ref u2, .ref u3, .ref u4, .int (nI 0), .int (nI (min fo 0)), .int (nI lev), .int (nI n_2)])), (u0, .inl (z0, 802, .inl g_1)), (u1, .inl (z1, 401, .inl ov))] H := hP
  have hD : va_D A [(t0, .inr (4, [.ref u0, .ref u1, .ref u2, .ref u3, .ref u4, .int (nI 0), .int (nI (min fo 0)), .int (nI lev), .int (nI n_2)])), (u0, .inl (z0, 802, .inl g_1)), (u1, .inl (z1, 401, .inl ov))] := hD
  refine W.widen (k := 0) (n := 0) (by decide) (by decide) ?_
  refine lv_aload_n hx hb d_Tr_clear_5 rfl (lv_at hl 0 rfl) ?_
  refine lv_iconst (v := nI 0) hx hb d_Tr_clear_6 (by decide) ?_
  refine va_put (D := (dC, dI)) (ci := 4) (v := .int (nI 0)) (ty := .int) (C := R_Tr) (T := F_Tr) (N := 9) hx hb hw in_Tr t_Tr t_Tr_ok n_Tr hown hK hP hD hS 0 rfl rfl 7 (by decide) (hw (Cond.fieldLink "ClauseSearch$Trail" 32 "ClauseSearch$Trail" "level" "I") k_114) (fun _ h9 => h9) rfl (by decide +kernel) rfl rfl (Nat.le_of_ble_eq_true rfl) d_Tr_clear_7 (fun H locs hP hD hS => ?_)
  have hP : va_P (dC, dI) vwCl [(t0, .inr (4, [.ref u0, .ref u1, .ref u2, .ref u3, .ref u4, .int (nI 0), .int (nI (min fo 0)), .int (nI 0), .int (nI n_2)])), (u0, .inl (z0, 802, .inl g_1)), (u1, .inl (z1, 401, .inl ov))] H := hP
  have hD : va_D A [(t0, .inr (4, [.ref u0, .ref u1, .ref u2, .ref u3, .ref u4, .int (nI 0), .int (nI (min fo 0)), .int (nI 0), .int (nI n_2)])), (u0, .inl (z0, 802, .inl g_1)), (u1, .inl (z1, 401, .inl ov))] := hD
  refine W.widen (k := 0) (n := 0) (by decide) (by decide) ?_
  exact W.vret hx hb hr (fun t ht hW => ⟨⟨(), rfl, trivial, g_1, n_2, f_3, by rw [ht]; exact hP, va_K.moved hW.alike hK, hD⟩, hS.F ht⟩) hS.2.2 d_Tr_clear_10

set_option maxHeartbeats 4000000 in
set_option maxRecDepth 100000 in
/-- backTo(lower), lower below the level -/
theorem c_Tr_backTo (l : Launch) (dC : Nat → ClassId) (dI : Nat → Nat → Nat) (t0 : Nat) (u0 : Nat) (u1 : Nat) (u2 : Nat) (u3 : Nat) (u4 : Nat) (z0 : ClassId) (z1 : ClassId) (z4 : ClassId) (sz : Nat) (k : Nat) (fo : Nat) (lev : Nat) (low : Nat) (tv : Nat → Int32) (ov : Nat → Int32) (sv : Nat → Int32) (lw : Nat) (j : Nat) (O : Nat → Nat) (hk : k ≤ 401) (hlow : low ≤ 401) (hlo1 : 1 ≤ low) (hfo : fo ≤ 401) (hO : ∀ p, p < k → ov p = nI (O p) ∧ 2 ≤ O p ∧ O p < 802 ∧ fl (O p) < 802) (hlv : lw < lev) (hlev : lev < 402) (hj : j ≤ k) (hsv : sv (lw + 1) = nI j) : Met l y_Tr_backTo (wq y_Tr_backTo prog_6_method_4_code 2 none) ({ frames := 2, cells := 0, slots := 0, locals := 37 }) (va_Pc [.ref t0, .int (nI lw)] (fun U => U.heap.size = sz ∧ va_P (dC, dI) vwCl [(t0, .inr (4, [.ref u0, .ref u1, .ref u2, .ref u3, .ref u4, .int (nI k), .int (nI fo), .int (nI lev), .int (nI low)])), (u0, .inl (z0, 802, .inl tv)), (u1, .inl (z1, 401, .inl ov)), (u4, .inl (z4, 402, .inl sv))] U.heap ∧ va_K (dC, dI) vwCl [(z0, .byte), (z1, .int), (z4, .int)] U ∧ va_D (fun _ => True) [(t0, .inr (4, [.ref u0, .ref u1, .ref u2, .ref u3, .ref u4, .int (nI k), .int (nI fo), .int (nI lev), .int (nI low)])), (u0, .inl (z0, 802, .inl tv)), (u1, .inl (z1, 401, .inl ov)), (u4, .inl (z4, 402, .inl sv))])) (va_Qv (fun _ : Unit => True) (fun (_ : Unit) t => ∃ (g_3 : Nat → Int32) (n_4 : Nat), ((∀ c, (∀ p, j ≤ p → p < k → O p ≠ c ∧ fl (O p) ≠ c) → g_3 c = tv c) ∧ (∀ p, j ≤ p → p < k → g_3 (O p) = 0 ∧ g_3 (fl (O p)) = 0) ∧ 1 ≤ n_4 ∧ n_4 ≤ low) ∧ va_P (dC, dI) vwCl [(u4, .inl (z4, 402, .inl sv)), (t0, .inr (4, [.ref u0, .ref u1, .ref u2, .ref u3, .ref u4, .int (nI j), .int (nI (min fo j)), .int (nI lw), .int (nI n_4)])), (u0, .inl (z0, 802, .inl g_3)), (u1, .inl (z1, 401, .inl ov))] t.heap ∧ va_K (dC, dI) vwCl [(z0, .byte), (z1, .int), (z4, .int)] t ∧ va_D (va_A [(t0, .inr (4, [.ref u0, .ref u1, .ref u2, .ref u3, .ref u4, .int (nI k), .int (nI fo), .int (nI lev), .int (nI low)])), (u0, .inl (z0, 802, .inl tv)), (u1, .inl (z1, 401, .inl ov)), (u4, .inl (z4, 402, .inl sv))] sz) [(u4, .inl (z4, 402, .inl sv)), (t0, .inr (4, [.ref u0, .ref u1, .ref u2, .ref u3, .ref u4, .int (nI j), .int (nI (min fo j)), .int (nI lw), .int (nI n_4)])), (u0, .inl (z0, 802, .inl g_3)), (u1, .inl (z1, 401, .inl ov))]) (va_A [(t0, .inr (4, [.ref u0, .ref u1, .ref u2, .ref u3, .ref u4, .int (nI k), .int (nI fo), .int (nI lev), .int (nI low)])), (u0, .inl (z0, 802, .inl tv)), (u1, .inl (z1, 401, .inl ov)), (u4, .inl (z4, 402, .inl sv))] sz)) 0 0 (va_A [(t0, .inr (4, [.ref u0, .ref u1, .ref u2, .ref u3, .ref u4, .int (nI k), .int (nI fo), .int (nI lev), .int (nI low)])), (u0, .inl (z0, 802, .inl tv)), (u1, .inl (z1, 401, .inl ov)), (u4, .inl (z4, 402, .inl sv))] sz) := by
  refine Met.ofW (cc := prog_6_method_4_code) (maxL := 2) (ret := none) (by decide) rfl ?_
  intro p e s m args below meth c s₁ B hml hv
  obtain ⟨rfl, hsz, hP, hK, hD0⟩ := hv
  have hx := B.exec
  have hb := B.bytes
  have hr := B.returns
  have hw : ∀ w ∈ bg_W, w.before #[Value.ref t0, Value.int (nI lw)] s = true := fun w h => atoms_spec (ws := (wq y_Tr_backTo prog_6_method_4_code 2 none)) B.pre w (List.mem_cons_of_mem _ h)
  have hown : s.vm.findClass R_Tr = some m.cls := findClass_of_methodNamed B.named
  have hlocks := B.notSynchronized
  subst hsz
  have hD := hD0.self (sz := s.heap.size)
  generalize hAe : va_A [(t0, .inr (4, [.ref u0, .ref u1, .ref u2, .ref u3, .ref u4, .int (nI k), .int (nI fo), .int (nI lev), .int (nI low)])), (u0, .inl (z0, 802, .inl tv)), (u1, .inl (z1, 401, .inl ov)), (u4, .inl (z4, 402, .inl sv))] s.heap.size = A at hD ⊢
  have hA : ∀ q : Nat, s.heap.size ≤ q → A q := fun q h => by rw [← hAe]; exact Or.inr h
  have hS : va_S A s.heap s.heap [] := va_S.rf
  have hP : va_P (dC, dI) vwCl [(t0, .inr (4, [.ref u0, .ref u1, .ref u2, .ref u3, .ref u4, .int (nI k), .int (nI fo), .int (nI lev), .int (nI low)])), (u0, .inl (z0, 802, .inl tv)), (u1, .inl (z1, 401, .inl ov)), (u4, .inl (z4, 402, .inl sv))] s.heap := hP
  have hl := lv_entry ([.ref t0, .int (nI lw)]) (n := 2) (Nat.le_of_ble_eq_true rfl)
  rw [lg_entry_eq]
  generalize (lg_sl ([.ref t0, .int (nI lw)]) ++ List.replicate (2 - (lg_sl ([.ref t0, .int (nI lw)])).length) Slot.unset).toArray = ls at hl ⊢
  have hl : lv_has ls 2 [(0, .ref t0), (1, .int (nI lw))] := hl
  obtain ⟨H, hH⟩ : ∃ H : Heap, H = s.heap := ⟨_, rfl⟩
  rw [← hH] at hP
  have hS : va_S A s.heap H [] := by rw [hH]; exact va_S.rf
  show W p l e _ s m _ below meth c s.heap [] 0 0 _ _
  rw [← hH]
  refine lv_iload_n hx hb d_Tr_backTo_0 rfl (lv_at hl 1 rfl) ?_
  refine lv_aload_n hx hb d_Tr_backTo_1 rfl (lv_at hl 0 rfl) ?_
  refine va_get (D := (dC, dI)) (ci := 4) (v := .int (nI lev)) (C := R_Tr) (T := F_Tr) (N := 9) hx hb hw in_Tr hown hK hP 0 rfl rfl 7 (by decide) (hw (Cond.fieldLink "ClauseSearch$Trail" 32 "ClauseSearch$Trail" "level" "I") k_114) (fun _ h9 => h9) rfl d_Tr_backTo_2 ?_
  refine lv_icmp_ge (tgt := 25) hx hb d_Tr_backTo_5 (by decide) (fun c_5 => by exfalso; have c_5 : lev ≤ lw := (nI_leI (a := lev) (b := lw) (by omega) (by omega)).mp c_5; omega) (fun c_5 => ?_)
  have c_5 : ¬ (lev ≤ lw) := fun qq9 => c_5 ((nI_leI (a := lev) (b := lw) (by omega) (by omega)).mpr qq9)
  refine lv_aload_n hx hb d_Tr_backTo_8 rfl (lv_at hl 0 rfl) ?_
  refine lv_aload_n hx hb d_Tr_backTo_9 rfl (lv_at hl 0 rfl) ?_
  refine va_get (D := (dC, dI)) (ci := 4) (v := .ref u4) (C := R_Tr) (T := F_Tr) (N := 9) hx hb hw in_Tr hown hK hP 0 rfl rfl 4 (by decide) (hw (Cond.fieldLink "ClauseSearch$Trail" 25 "ClauseSearch$Trail" "levelStart" "[I") k_108) (fun _ h9 => h9) rfl d_Tr_backTo_10 ?_
  refine lv_iload_n hx hb d_Tr_backTo_13 rfl (lv_at hl 1 rfl) ?_
  refine lv_iconst (v := nI 1) hx hb d_Tr_backTo_14 (by decide) ?_
  refine lv_iadd hx hb d_Tr_backTo_15 ?_
  refine lv_topi (fun y_1 ey_1 => ?_)
  obtain rfl : y_1 = nI (lw + 1) := ey_1.trans (nI_add lw 1)
  refine va_iald hx hb hK hP 3 2 rfl rfl (vp_in_nI (by omega) (by omega)) d_Tr_backTo_16 ?_
  refine lv_topi (fun y_2 ey_2 => ?_)
  rw [nI_clamp (by omega)] at ey_2
  rw [hsv] at ey_2
  subst ey_2
  have hPc := hP.sub (ws' := [(t0, .inr (4, [.ref u0, .ref u1, .ref u2, .ref u3, .ref u4, .int (nI k), .int (nI fo), .int (nI lev), .int (nI low)])), (u0, .inl (z0, 802, .inl tv)), (u1, .inl (z1, 401, .inl ov))]) [0, 1, 2] rfl
  have hDc := hD.sub (ws' := [(t0, .inr (4, [.ref u0, .ref u1, .ref u2, .ref u3, .ref u4, .int (nI k), .int (nI fo), .int (nI lev), .int (nI low)])), (u0, .inl (z0, 802, .inl tv)), (u1, .inl (z1, 401, .inl ov))]) [0, 1, 2] (by decide) rfl
  have hKc := hK.sub (tys' := [(z0, .byte), (z1, .int)]) [0, 1] rfl
  have hFc := va_free (wc := [(t0, .inr (4, [.ref u0, .ref u1, .ref u2, .ref u3, .ref u4, .int (nI k), .int (nI fo), .int (nI lev), .int (nI low)])), (u0, .inl (z0, 802, .inl tv)), (u1, .inl (z1, 401, .inl ov))]) hD hS hA [0, 1, 2] rfl
  refine va_callv (va_runV (As := [.int (nI j)]) (rest := []) ⟨hx, hb, hml, hown, hw⟩ (c_Tr_shrink l dC dI t0 u0 u1 u2 u3 u4 z0 z1 H.size k fo lev low tv ov j O hk hlow hlo1 hj hfo hO) (cb_V (C := R_Tr) 1 hw k_295 k_32 k_292 k_294 k_0 rfl rfl (by decide +kernel) ⟨Nat.le_of_ble_eq_true rfl, Nat.le_of_ble_eq_true rfl⟩) ⟨fun a U g mk q => by obtain ⟨q0, q1, qP, qK, qD⟩ := q; exact ⟨q0, q1, qP, va_K.moved (u := U) (U := U.calling g mk a) (Vm.Alike.refl U.vm) qK, qD⟩, va_recv hKc hPc (ci := 4) (q0 := 0) rfl rfl, fun U hU hW => ⟨rfl, by rw [hU], by rw [hU]; exact hPc, va_K.moved hW.alike hKc, hDc.weaken (fun _ _ _ _ => trivial)⟩⟩ rfl rfl hl.1 rfl (lv_room (Nat.le_of_ble_eq_true rfl)) d_Tr_backTo_17 ⟨Nat.le_of_ble_eq_true rfl, Nat.le_of_ble_eq_true rfl⟩) hS (fun q _ h => hFc q h) hFc (fun u t H1 locs ht hvm hw9 hB hz1 hk1 hS => ?_)
  obtain ⟨g_3, n_4, f_5, hP1, hK1, hD1⟩ := hB
  rw [ht] at hP1
  have hK1 := va_K.moved hvm.symm hK1
  obtain ⟨hP, hD⟩ := va_join (wr := [(u4, .inl (z4, 402, .inl sv))]) (w1 := [(t0, .inr (4, [.ref u0, .ref u1, .ref u2, .ref u3, .ref u4, .int (nI j), .int (nI (min fo j)), .int (nI lev), .int (nI n_4)])), (u0, .inl (z0, 802, .inl g_3)), (u1, .inl (z1, 401, .inl ov))]) hP hD [0, 1, 2] [3] rfl rfl (by decide) (by decide) hk1 hFc hP1 hD1
  generalize H1 = H at hP hS ⊢
  have hP : va_P (dC, dI) vwCl [(u4, .inl (z4, 402, .inl sv)), (t0, .inr (4, [.ref u0, .ref u1, .ref u2, .ref u3, .ref u4, .int (nI j), .int (nI (min fo j)), .int (nI lev), .int (nI n_4)])), (u0, .inl (z0, 802, .inl g_3)), (u1, .inl (z1, 401, .inl ov))] H := hP
  have hD : va_D A [(u4, .inl (z4, 402, .inl sv)), (t0, .inr (4, [.ref u0, .ref u1, .ref u2, .ref u3, .ref u4, .int (nI j), .int (nI (min fo j)), .int (nI lev), .int (nI n_4)])), (u0, .inl (z0, 802, .inl g_3)), (u1, .inl (z1, 401, .inl ov))] := hD
  refine W.widen (k := 0) (n := 0) (by decide) (by decide) ?_
  refine lv_aload_n hx hb d_Tr_backTo_20 rfl (lv_at hl 0 rfl) ?_
  refine lv_iload_n hx hb d_Tr_backTo_21 rfl (lv_at hl 1 rfl) ?_
  refine va_put (D := (dC, dI)) (ci := 4) (v := .int (nI lw)) (ty := .int) (C := R_Tr) (T := F_Tr) (N := 9) hx hb hw in_Tr t_Tr t_Tr_ok n_Tr hown hK hP hD hS 1 rfl rfl 7 (by decide) (hw (Cond.fieldLink "ClauseSearch$Trail" 32 "ClauseSearch$Trail" "level" "I") k_114) (fun _ h9 => h9) rfl (by decide +kernel) rfl rfl (Nat.le_of_ble_eq_true rfl) d_Tr_backTo_22 (fun H locs hP hD hS => ?_)
  have hP : va_P (dC, dI) vwCl [(u4, .inl (z4, 402, .inl sv)), (t0, .inr (4, [.ref u0, .ref u1, .ref u2, .ref u3, .ref u4, .int (nI j), .int (nI (min fo j)), .int (nI lw), .int (nI n_4)])), (u0, .inl (z0, 802, .inl g_3)), (u1, .inl (z1, 401, .inl ov))] H := hP
  have hD : va_D A [(u4, .inl (z4, 402, .inl sv)), (t0, .inr (4, [.ref u0, .ref u1, .ref u2, .ref u3, .ref u4, .int (nI j), .int (nI (min fo j)), .int (nI lw), .int (nI n_4)])), (u0, .inl (z0, 802, .inl g_3)), (u1, .inl (z1, 401, .inl ov))] := hD
  refine W.widen (k := 0) (n := 0) (by decide) (by decide) ?_
  exact W.vret hx hb hr (fun t ht hW => ⟨⟨(), rfl, trivial, g_3, n_4, f_5, by rw [ht]; exact hP, va_K.moved hW.alike hK, hD⟩, hS.F ht⟩) hS.2.2 d_Tr_backTo_25

set_option maxHeartbeats 4000000 in
set_option maxRecDepth 100000 in
/-- backTo(lower), lower not below the level -/
theorem c_Tr_backTo_0 (l : Launch) (dC : Nat → ClassId) (dI : Nat → Nat → Nat) (t0 : Nat) (u0 : Nat) (u1 : Nat) (u2 : Nat) (u3 : Nat) (u4 : Nat) (sz : Nat) (k : Nat) (fo : Nat) (lev : Nat) (low : Nat) (lw : Nat) (hlv : lev ≤ lw) (hlw : lw < 402) : Met l y_Tr_backTo (wq y_Tr_backTo prog_6_method_4_code 2 none) ({ frames := 0, cells := 0, slots := 0, locals := 0 }) (va_Pc [.ref t0, .int (nI lw)] (fun U => U.heap.size = sz ∧ va_P (dC, dI) vwCl [(t0, .inr (4, [.ref u0, .ref u1, .ref u2, .ref u3, .ref u4, .int (nI k), .int (nI fo), .int (nI lev), .int (nI low)]))] U.heap ∧ va_K (dC, dI) vwCl [] U ∧ va_D (fun _ => True) [(t0, .inr (4, [.ref u0, .ref u1, .ref u2, .ref u3, .ref u4, .int (nI k), .int (nI fo), .int (nI lev), .int (nI low)]))])) (va_Qv (fun _ : Unit => True) (fun (_ : Unit) t => va_P (dC, dI) vwCl [(t0, .inr (4, [.ref u0, .ref u1, .ref u2, .ref u3, .ref u4, .int (nI k), .int (nI fo), .int (nI lev), .int (nI low)]))] t.heap ∧ va_K (dC, dI) vwCl [] t ∧ va_D (va_A [(t0, .inr (4, [.ref u0, .ref u1, .ref u2, .ref u3, .ref u4, .int (nI k), .int (nI fo), .int (nI lev), .int (nI low)]))] sz) [(t0, .inr (4, [.ref u0, .ref u1, .ref u2, .ref u3, .ref u4, .int (nI k), .int (nI fo), .int (nI lev), .int (nI low)]))]) (va_A [(t0, .inr (4, [.ref u0, .ref u1, .ref u2, .ref u3, .ref u4, .int (nI k), .int (nI fo), .int (nI lev), .int (nI low)]))] sz)) 0 0 (va_A [(t0, .inr (4, [.ref u0, .ref u1, .ref u2, .ref u3, .ref u4, .int (nI k), .int (nI fo), .int (nI lev), .int (nI low)]))] sz) := by
  refine Met.ofW (cc := prog_6_method_4_code) (maxL := 2) (ret := none) (by decide) rfl ?_
  intro p e s m args below meth c s₁ B hml hv
  obtain ⟨rfl, hsz, hP, hK, hD0⟩ := hv
  have hx := B.exec
  have hb := B.bytes
  have hr := B.returns
  have hw : ∀ w ∈ bg_W, w.before #[Value.ref t0, Value.int (nI lw)] s = true := fun w h => atoms_spec (ws := (wq y_Tr_backTo prog_6_method_4_code 2 none)) B.pre w (List.mem_cons_of_mem _ h)
  have hown : s.vm.findClass R_Tr = some m.cls := findClass_of_methodNamed B.named
  have hlocks := B.notSynchronized
  subst hsz
  have hD := hD0.self (sz := s.heap.size)
  generalize hAe : va_A [(t0, .inr (4, [.ref u0, .ref u1, .ref u2, .ref u3, .ref u4, .int (nI k), .int (nI fo), .int (nI lev), .int (nI low)]))] s.heap.size = A at hD ⊢
  have hA : ∀ q : Nat, s.heap.size ≤ q → A q := fun q h => by rw [← hAe]; exact Or.inr h
  have hS : va_S A s.heap s.heap [] := va_S.rf
  have hP : va_P (dC, dI) vwCl [(t0, .inr (4, [.ref u0, .ref u1, .ref u2, .ref u3, .ref u4, .int (nI k), .int (nI fo), .int (nI lev), .int (nI low)]))] s.heap := hP
  have hl := lv_entry ([.ref t0, .int (nI lw)]) (n := 2) (Nat.le_of_ble_eq_true rfl)
  rw [lg_entry_eq]
  generalize (lg_sl ([.ref t0, .int (nI lw)]) ++ List.replicate (2 - (lg_sl ([.ref t0, .int (nI lw)])).length) Slot.unset).toArray = ls at hl ⊢
  have hl : lv_has ls 2 [(0, .ref t0), (1, .int (nI lw))] := hl
  obtain ⟨H, hH⟩ : ∃ H : Heap, H = s.heap := ⟨_, rfl⟩
  rw [← hH] at hP
  have hS : va_S A s.heap H [] := by rw [hH]; exact va_S.rf
  show W p l e _ s m _ below meth c s.heap [] 0 0 _ _
  rw [← hH]
  refine lv_iload_n hx hb d_Tr_backTo_0 rfl (lv_at hl 1 rfl) ?_
  refine lv_aload_n hx hb d_Tr_backTo_1 rfl (lv_at hl 0 rfl) ?_
  refine va_get (D := (dC, dI)) (ci := 4) (v := .int (nI lev)) (C := R_Tr) (T := F_Tr) (N := 9) hx hb hw in_Tr hown hK hP 0 rfl rfl 7 (by decide) (hw (Cond.fieldLink "ClauseSearch$Trail" 32 "ClauseSearch$Trail" "level" "I") k_114) (fun _ h9 => h9) rfl d_Tr_backTo_2 ?_
  refine lv_icmp_ge (tgt := 25) hx hb d_Tr_backTo_5 (by decide) (fun c_5 => ?_) (fun c_5 => by exfalso; have c_5 : ¬ (lev ≤ lw) := fun qq9 => c_5 ((nI_leI (a := lev) (b := lw) (by omega) (by omega)).mpr qq9); omega)
  have c_5 : lev ≤ lw := (nI_leI (a := lev) (b := lw) (by omega) (by omega)).mp c_5
  refine W.widen (k := 0) (n := 0) (by decide) (by decide) ?_
  exact W.vret hx hb hr (fun t ht hW => ⟨⟨(), rfl, trivial, by rw [ht]; exact hP, va_K.moved hW.alike hK, hD⟩, hS.F ht⟩) hS.2.2 d_Tr_backTo_25

set_option maxHeartbeats 4000000 in
set_option maxRecDepth 100000 in
/-- the loop of lowestUnknown -/
theorem l_lowest {p : Program} {l : Launch} {e : Env} {R : Room} {s : State} {m : MethodId} {args : Array Value} {below : List Frame} {meth : Method} {c : Code} {dC : Nat → ClassId} {dI : Nat → Nat → Nat} {A : Nat → Prop} {Q : State → Prop} {cells slots : Nat} {H0 : Heap} {t0 u0 u1 u2 u3 u4 : Nat} {z0 : ClassId} {k fo lev low v : Nat} {tv : Nat → Int32} (hx : p.tables.exec = Jvm.exec) (hb : c.code = prog_6_method_7_code) (hw : ∀ w ∈ bg_W, w.before args s = true) (hown : s.vm.findClass R_Tr = some m.cls) (hK : va_K (dC, dI) vwCl [(z0, .byte)] s) (hv : v ≤ 400) (hlow : low ≤ 401)
    (kk : ∀ (lo : Nat) (H : Heap) (locs : List Loc) (ls : Array Slot), low ≤ lo → lo ≤ max low (v + 1) → (lo ≤ v → tv (2 * lo) = 0) → va_P (dC, dI) vwCl [(t0, .inr (4, [.ref u0, .ref u1, .ref u2, .ref u3, .ref u4, .int (nI k), .int (nI fo), .int (nI lev), .int (nI lo)])), (u0, .inl (z0, 802, .inl tv))] H → va_D A [(t0, .inr (4, [.ref u0, .ref u1, .ref u2, .ref u3, .ref u4, .int (nI k), .int (nI fo), .int (nI lev), .int (nI lo)])), (u0, .inl (z0, 802, .inl tv))] → va_S A H0 H locs → lv_has ls 2 [(0, .ref t0), (1, .int (nI v))] → W p l e R s m args below meth c H locs cells slots Q (F0 m 35 ls [])) :
    ∀ (f lo : Nat) (H : Heap) (locs : List Loc) (ls : Array Slot), v + 1 < lo + f + 1 → low ≤ lo → lo ≤ max low (v + 1) → va_P (dC, dI) vwCl [(t0, .inr (4, [.ref u0, .ref u1, .ref u2, .ref u3, .ref u4, .int (nI k), .int (nI fo), .int (nI lev), .int (nI lo)])), (u0, .inl (z0, 802, .inl tv))] H → va_D A [(t0, .inr (4, [.ref u0, .ref u1, .ref u2, .ref u3, .ref u4, .int (nI k), .int (nI fo), .int (nI lev), .int (nI lo)])), (u0, .inl (z0, 802, .inl tv))] → va_S A H0 H locs → lv_has ls 2 [(0, .ref t0), (1, .int (nI v))] → W p l e R s m args below meth c H locs cells slots Q (F0 m 0 ls []) := by
  intro f
  induction f with
  | zero =>
    intro lo H locs ls q1 h1 h2 hP hD hS hl
    refine lv_aload_n hx hb d_Tr_lowestUnknown_0 rfl (lv_at hl 0 rfl) ?_
    refine va_get (D := (dC, dI)) (ci := 4) (v := .int (nI lo)) (C := R_Tr) (T := F_Tr) (N := 9) hx hb hw in_Tr hown hK hP 0 rfl rfl 8 (by decide) (hw (Cond.fieldLink "ClauseSearch$Trail" 28 "ClauseSearch$Trail" "lowest" "I") k_117) (fun _ h9 => h9) rfl d_Tr_lowestUnknown_1 ?_
    refine lv_iload_n hx hb d_Tr_lowestUnknown_4 rfl (lv_at hl 1 rfl) ?_
    refine lv_icmp_gt (tgt := 35) hx hb d_Tr_lowestUnknown_5 (by decide) (fun c_5 => ?_) (fun c_5 => by exfalso; have c_5 : ¬ (v < lo) := fun qq9 => c_5 ((nI_ltI (a := v) (b := lo) (by omega) (by omega)).mpr qq9); omega)
    have c_5 : v < lo := (nI_ltI (a := v) (b := lo) (by omega) (by omega)).mp c_5
    exact kk lo H locs ls h1 h2 (fun q => absurd q (by omega)) hP hD hS (lv_sub hl [0, 1] rfl)
  | succ f ih =>
    intro lo H locs ls q1 h1 h2 hP hD hS hl
    refine lv_aload_n hx hb d_Tr_lowestUnknown_0 rfl (lv_at hl 0 rfl) ?_
    refine va_get (D := (dC, dI)) (ci := 4) (v := .int (nI lo)) (C := R_Tr) (T := F_Tr) (N := 9) hx hb hw in_Tr hown hK hP 0 rfl rfl 8 (by decide) (hw (Cond.fieldLink "ClauseSearch$Trail" 28 "ClauseSearch$Trail" "lowest" "I") k_117) (fun _ h9 => h9) rfl d_Tr_lowestUnknown_1 ?_
    refine lv_iload_n hx hb d_Tr_lowestUnknown_4 rfl (lv_at hl 1 rfl) ?_
    refine lv_icmp_gt (tgt := 35) hx hb d_Tr_lowestUnknown_5 (by decide) (fun c_5 => ?_) (fun c_5 => ?_)
    · have c_5 : v < lo := (nI_ltI (a := v) (b := lo) (by omega) (by omega)).mp c_5
      exact kk lo H locs ls h1 h2 (fun q => absurd q (by omega)) hP hD hS (lv_sub hl [0, 1] rfl)
    · have c_5 : ¬ (v < lo) := fun qq9 => c_5 ((nI_ltI (a := v) (b := lo) (by omega) (by omega)).mpr qq9)
      refine lv_aload_n hx hb d_Tr_lowestUnknown_8 rfl (lv_at hl 0 rfl) ?_
      refine va_get (D := (dC, dI)) (ci := 4) (v := .ref u0) (C := R_Tr) (T := F_Tr) (N := 9) hx hb hw in_Tr hown hK hP 0 rfl rfl 0 (by decide) (hw (Cond.fieldLink "ClauseSearch$Trail" 9 "ClauseSearch$Trail" "truth" "[B") k_96) (fun _ h9 => h9) rfl d_Tr_lowestUnknown_9 ?_
      refine lv_iconst (v := nI 2) hx hb d_Tr_lowestUnknown_12 (by decide) ?_
      refine lv_aload_n hx hb d_Tr_lowestUnknown_13 rfl (lv_at hl 0 rfl) ?_
      refine va_get (D := (dC, dI)) (ci := 4) (v := .int (nI lo)) (C := R_Tr) (T := F_Tr) (N := 9) hx hb hw in_Tr hown hK hP 0 rfl rfl 8 (by decide) (hw (Cond.fieldLink "ClauseSearch$Trail" 28 "ClauseSearch$Trail" "lowest" "I") k_117) (fun _ h9 => h9) rfl d_Tr_lowestUnknown_14 ?_
      refine lv_imul hx hb d_Tr_lowestUnknown_17 ?_
      refine lv_topi (fun y_1 ey_1 => ?_)
      obtain rfl : y_1 = nI (2 * lo) := ey_1.trans (pk_mul 2 lo)
      refine va_bald hx hb hK hP 1 0 rfl rfl (vp_in_nI (by omega) (by omega)) d_Tr_lowestUnknown_18 ?_
      refine lv_topi (fun y_2 ey_2 => ?_)
      rw [nI_clamp (by omega)] at ey_2
      subst ey_2
      refine lv_if_eq (tgt := 35) hx hb d_Tr_lowestUnknown_19 (by decide) (fun c_19 => ?_) (fun c_19 => ?_)
      · exact kk lo H locs ls h1 h2 (fun _ => c_19) hP hD hS (lv_sub hl [0, 1] rfl)
      · refine lv_aload_n hx hb d_Tr_lowestUnknown_22 rfl (lv_at hl 0 rfl) ?_
        refine lv_dup hx hb d_Tr_lowestUnknown_23 rfl ?_
        refine va_get (D := (dC, dI)) (ci := 4) (v := .int (nI lo)) (C := R_Tr) (T := F_Tr) (N := 9) hx hb hw in_Tr hown hK hP 0 rfl rfl 8 (by decide) (hw (Cond.fieldLink "ClauseSearch$Trail" 28 "ClauseSearch$Trail" "lowest" "I") k_117) (fun _ h9 => h9) rfl d_Tr_lowestUnknown_24 ?_
        refine lv_iconst (v := nI 1) hx hb d_Tr_lowestUnknown_27 (by decide) ?_
        refine lv_iadd hx hb d_Tr_lowestUnknown_28 ?_
        refine lv_topi (fun y_3 ey_3 => ?_)
        obtain rfl : y_3 = nI (lo + 1) := ey_3.trans (nI_add lo 1)
        refine va_put (D := (dC, dI)) (ci := 4) (v := .int (nI (lo + 1))) (ty := .int) (C := R_Tr) (T := F_Tr) (N := 9) hx hb hw in_Tr t_Tr t_Tr_ok n_Tr hown hK hP hD hS 0 rfl rfl 8 (by decide) (hw (Cond.fieldLink "ClauseSearch$Trail" 28 "ClauseSearch$Trail" "lowest" "I") k_117) (fun _ h9 => h9) rfl (by decide +kernel) rfl rfl (Nat.le_of_ble_eq_true rfl) d_Tr_lowestUnknown_29 (fun H locs hP hD hS => ?_)
        have hP : va_P (dC, dI) vwCl [(t0, .inr (4, [.ref u0, .ref u1, .ref u2, .ref u3, .ref u4, .int (nI k), .int (nI fo), .int (nI lev), .int (nI (lo + 1))])), (u0, .inl (z0, 802, .inl tv))] H := hP
        have hD : va_D A [(t0, .inr (4, [.ref u0, .ref u1, .ref u2, .ref u3, .ref u4, .int (nI k), .int (nI fo), .int (nI lev), .int (nI (lo + 1))])), (u0, .inl (z0, 802, .inl tv))] := hD
        refine lv_goto (tgt := 0) hx hb d_Tr_lowestUnknown_32 (by decide) ?_
        exact ih (lo + 1) _ _ ls (by omega) (by omega) (by omega) hP hD hS (lv_sub hl [0, 1] rfl)

set_option maxHeartbeats 4000000 in
set_option maxRecDepth 100000 in
/-- lowestUnknown(variables) -/
theorem c_Tr_lowest (l : Launch) (dC : Nat → ClassId) (dI : Nat → Nat → Nat) (t0 : Nat) (u0 : Nat) (u1 : Nat) (u2 : Nat) (u3 : Nat) (u4 : Nat) (z0 : ClassId) (sz : Nat) (k : Nat) (fo : Nat) (lev : Nat) (low : Nat) (tv : Nat → Int32) (v : Nat) (hv : v ≤ 400) (hlow : low ≤ 401) : Met l y_Tr_lowestUnknown (wq y_Tr_lowestUnknown prog_6_method_7_code 2 (some .int)) ({ frames := 0, cells := 0, slots := 0, locals := 0 }) (va_Pc [.ref t0, .int (nI v)] (fun U => U.heap.size = sz ∧ va_P (dC, dI) vwCl [(t0, .inr (4, [.ref u0, .ref u1, .ref u2, .ref u3, .ref u4, .int (nI k), .int (nI fo), .int (nI lev), .int (nI low)])), (u0, .inl (z0, 802, .inl tv))] U.heap ∧ va_K (dC, dI) vwCl [(z0, .byte)] U ∧ va_D (fun _ => True) [(t0, .inr (4, [.ref u0, .ref u1, .ref u2, .ref u3, .ref u4, .int (nI k), .int (nI fo), .int (nI lev), .int (nI low)])), (u0, .inl (z0, 802, .inl tv))])) (va_Qi (fun (r : Int32) (r9 : Int32) => r = r9) (fun (r9 : Int32) t => ∃ (lo : Nat), r9 = nI lo ∧ (low ≤ lo ∧ lo ≤ max low (v + 1) ∧ (lo ≤ v → tv (2 * lo) = 0)) ∧ va_P (dC, dI) vwCl [(t0, .inr (4, [.ref u0, .ref u1, .ref u2, .ref u3, .ref u4, .int (nI k), .int (nI fo), .int (nI lev), .int (nI lo)])), (u0, .inl (z0, 802, .inl tv))] t.heap ∧ va_K (dC, dI) vwCl [(z0, .byte)] t ∧ va_D (va_A [(t0, .inr (4, [.ref u0, .ref u1, .ref u2, .ref u3, .ref u4, .int (nI k), .int (nI fo), .int (nI lev), .int (nI low)])), (u0, .inl (z0, 802, .inl tv))] sz) [(t0, .inr (4, [.ref u0, .ref u1, .ref u2, .ref u3, .ref u4, .int (nI k), .int (nI fo), .int (nI lev), .int (nI lo)])), (u0, .inl (z0, 802, .inl tv))]) (va_A [(t0, .inr (4, [.ref u0, .ref u1, .ref u2, .ref u3, .ref u4, .int (nI k), .int (nI fo), .int (nI lev), .int (nI low)])), (u0, .inl (z0, 802, .inl tv))] sz)) 0 0 (va_A [(t0, .inr (4, [.ref u0, .ref u1, .ref u2, .ref u3, .ref u4, .int (nI k), .int (nI fo), .int (nI lev), .int (nI low)])), (u0, .inl (z0, 802, .inl tv))] sz) := by
  refine Met.ofW (cc := prog_6_method_7_code) (maxL := 2) (ret := (some .int)) (by decide) rfl ?_
  intro p e s m args below meth c s₁ B hml hv
  obtain ⟨rfl, hsz, hP, hK, hD0⟩ := hv
  have hx := B.exec
  have hb := B.bytes
  have hr := B.returns
  have hw : ∀ w ∈ bg_W, w.before #[Value.ref t0, Value.int (nI v)] s = true := fun w h => atoms_spec (ws := (wq y_Tr_lowestUnknown prog_6_method_7_code 2 (some .int))) B.pre w (List.mem_cons_of_mem _ h)
  have hown : s.vm.findClass R_Tr = some m.cls := findClass_of_methodNamed B.named
  have hlocks := B.notSynchronized
  subst hsz
  have hD := hD0.self (sz := s.heap.size)
  generalize hAe : va_A [(t0, .inr (4, [.ref u0, .ref u1, .ref u2, .ref u3, .ref u4, .int (nI k), .int (nI fo), .int (nI lev), .int (nI low)])), (u0, .inl (z0, 802, .inl tv))] s.heap.size = A at hD ⊢
  have hA : ∀ q : Nat, s.heap.size ≤ q → A q := fun q h => by rw [← hAe]; exact Or.inr h
  have hS : va_S A s.heap s.heap [] := va_S.rf
  have hP : va_P (dC, dI) vwCl [(t0, .inr (4, [.ref u0, .ref u1, .ref u2, .ref u3, .ref u4, .int (nI k), .int (nI fo), .int (nI lev), .int (nI low)])), (u0, .inl (z0, 802, .inl tv))] s.heap := hP
  have hl := lv_entry ([.ref t0, .int (nI v)]) (n := 2) (Nat.le_of_ble_eq_true rfl)
  rw [lg_entry_eq]
  generalize (lg_sl ([.ref t0, .int (nI v)]) ++ List.replicate (2 - (lg_sl ([.ref t0, .int (nI v)])).length) Slot.unset).toArray = ls at hl ⊢
  have hl : lv_has ls 2 [(0, .ref t0), (1, .int (nI v))] := hl
  obtain ⟨H, hH⟩ : ∃ H : Heap, H = s.heap := ⟨_, rfl⟩
  rw [← hH] at hP
  have hS : va_S A s.heap H [] := by rw [hH]; exact va_S.rf
  show W p l e _ s m _ below meth c s.heap [] 0 0 _ _
  rw [← hH]
  refine l_lowest hx hb hw hown hK hv hlow (fun lo H1 locs ls q1 q2 q3 hP1 hD1 hS hl => ?_) (v + 1) low _ _ ls (by omega) (Nat.le_refl low) (by omega) hP hD hS (lv_sub hl [0, 1] rfl)
  have hP := hP1
  have hD := hD1
  generalize H1 = H at hP hS ⊢
  have hP : va_P (dC, dI) vwCl [(t0, .inr (4, [.ref u0, .ref u1, .ref u2, .ref u3, .ref u4, .int (nI k), .int (nI fo), .int (nI lev), .int (nI lo)])), (u0, .inl (z0, 802, .inl tv))] H := hP
  have hD : va_D A [(t0, .inr (4, [.ref u0, .ref u1, .ref u2, .ref u3, .ref u4, .int (nI k), .int (nI fo), .int (nI lev), .int (nI lo)])), (u0, .inl (z0, 802, .inl tv))] := hD
  refine lv_aload_n hx hb d_Tr_lowestUnknown_35 rfl (lv_at hl 0 rfl) ?_
  refine va_get (D := (dC, dI)) (ci := 4) (v := .int (nI lo)) (C := R_Tr) (T := F_Tr) (N := 9) hx hb hw in_Tr hown hK hP 0 rfl rfl 8 (by decide) (hw (Cond.fieldLink "ClauseSearch$Trail" 28 "ClauseSearch$Trail" "lowest" "I") k_117) (fun _ h9 => h9) rfl d_Tr_lowestUnknown_36 ?_
  refine W.widen (k := 0) (n := 0) (by decide) (by decide) ?_
  exact W.iret (v := nI lo) hx hb hr (fun t ht hW => ⟨⟨nI lo, nI lo, rfl, rfl, lo, rfl, ⟨q1, q2, q3⟩, by rw [ht]; exact hP, va_K.moved hW.alike hK, hD⟩, hS.F ht⟩) hS.2.2 d_Tr_lowestUnknown_39
