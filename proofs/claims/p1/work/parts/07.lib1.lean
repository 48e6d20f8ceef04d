theorem t_1 : Cond.initialized "ContentLibrary" ∈ x_big := x_bt 1 (by decide +kernel) (by decide +kernel)
theorem t_5 : Cond.initialized "ContentLibrary$Kept" ∈ x_big := x_bt 5 (by decide +kernel) (by decide +kernel)
theorem t_40 : Cond.fieldLink "ContentLibrary" 233 "ContentLibrary$Blocks" "count" "I" ∈ x_big := x_bt 40 (by decide +kernel) (by decide +kernel)
theorem t_67 : Cond.fieldLink "ContentLibrary" 80 "ContentLibrary$Picture" "there" "Z" ∈ x_big := x_bt 67 (by decide +kernel) (by decide +kernel)
theorem t_90 : Cond.fieldLink "ContentLibrary" 178 "ContentLibrary$Kept" "there" "Z" ∈ x_big := x_bt 90 (by decide +kernel) (by decide +kernel)
theorem t_93 : Cond.fieldLink "ContentLibrary$Kept" 22 "ContentLibrary$Kept" "digest" "[I" ∈ x_big := x_bt 93 (by decide +kernel) (by decide +kernel)
theorem t_98 : Cond.fieldLink "ContentLibrary" 195 "ContentLibrary$Kept" "recordBlocks" "I" ∈ x_big := x_bt 98 (by decide +kernel) (by decide +kernel)
theorem t_100 : Cond.fieldLink "ContentLibrary" 192 "ContentLibrary$Kept" "places" "[I" ∈ x_big := x_bt 100 (by decide +kernel) (by decide +kernel)
theorem t_130 : Cond.fieldLink "ContentLibrary" 23 "ContentLibrary" "blocks" "LContentLibrary$Blocks;" ∈ x_big := x_bt 130 (by decide +kernel) (by decide +kernel)
theorem t_131 : Cond.fieldLink "ContentLibrary" 27 "ContentLibrary" "used" "[Z" ∈ x_big := x_bt 131 (by decide +kernel) (by decide +kernel)
theorem t_132 : Cond.fieldLink "ContentLibrary" 33 "ContentLibrary" "made" "[LContentLibrary$Picture;" ∈ x_big := x_bt 132 (by decide +kernel) (by decide +kernel)
theorem t_133 : Cond.fieldLink "ContentLibrary" 40 "ContentLibrary" "kept" "[LContentLibrary$Kept;" ∈ x_big := x_bt 133 (by decide +kernel) (by decide +kernel)
theorem t_136 : Cond.fieldLink "ContentLibrary" 56 "ContentLibrary" "foundNumbers" "[I" ∈ x_big := x_bt 136 (by decide +kernel) (by decide +kernel)
theorem t_137 : Cond.fieldLink "ContentLibrary" 59 "ContentLibrary" "foundBits" "[I" ∈ x_big := x_bt 137 (by decide +kernel) (by decide +kernel)
theorem t_138 : Cond.fieldLink "ContentLibrary" 62 "ContentLibrary" "foundCount" "I" ∈ x_big := x_bt 138 (by decide +kernel) (by decide +kernel)
theorem t_162 : Cond.methodLink "ContentLibrary" 216 (⟨"ContentLibrary", "forget", "()V"⟩ : MethodName) ∈ x_big := x_bt 162 (by decide +kernel) (by decide +kernel)
theorem t_164 : Cond.instanceMethod (⟨"ContentLibrary", "forget", "()V"⟩ : MethodName) ∈ x_big := x_bt 164 (by decide +kernel) (by decide +kernel)
theorem t_165 : Cond.code (⟨"ContentLibrary", "forget", "()V"⟩ : MethodName) prog_1_method_34_code 2 none ∈ x_big := x_bt 165 (by decide +kernel) (by decide +kernel)
theorem t_277 : Cond.methodLink "ContentLibrary" 268 (⟨"ContentLibrary$Kept", "hasDigest", "([I)Z"⟩ : MethodName) ∈ x_big := x_bt 277 (by decide +kernel) (by decide +kernel)
theorem t_278 : Cond.instanceMethod (⟨"ContentLibrary$Kept", "hasDigest", "([I)Z"⟩ : MethodName) ∈ x_big := x_bt 278 (by decide +kernel) (by decide +kernel)
theorem t_279 : Cond.selects "ContentLibrary$Kept" (⟨"ContentLibrary$Kept", "hasDigest", "([I)Z"⟩ : MethodName) (⟨"ContentLibrary$Kept", "hasDigest", "([I)Z"⟩ : MethodName) ∈ x_big := x_bt 279 (by decide +kernel) (by decide +kernel)
theorem t_280 : Cond.code (⟨"ContentLibrary$Kept", "hasDigest", "([I)Z"⟩ : MethodName) prog_4_method_2_code 3 (some .boolean) ∈ x_big := x_bt 280 (by decide +kernel) (by decide +kernel)
theorem sel_ContentLibrary_forget : Cond.selects "ContentLibrary" (⟨"ContentLibrary", "forget", "()V"⟩ : MethodName) (⟨"ContentLibrary", "forget", "()V"⟩ : MethodName) ∈ x_big := x_bs 0 (by decide +kernel) (by decide +kernel)
theorem d_X_forget_0 : decode prog_1_method_34_code 0 = .ok (.iconst 0, 1) := by decide +kernel
theorem d_X_forget_1 : decode prog_1_method_34_code 1 = .ok (.istore_n 1, 1) := by decide +kernel
theorem d_X_forget_2 : decode prog_1_method_34_code 2 = .ok (.iload_n 1, 1) := by decide +kernel
theorem d_X_forget_3 : decode prog_1_method_34_code 3 = .ok (.bipush 8, 2) := by decide +kernel
theorem d_X_forget_5 : decode prog_1_method_34_code 5 = .ok (.if_icmp .ge 19, 3) := by decide +kernel
theorem d_X_forget_8 : decode prog_1_method_34_code 8 = .ok (.aload_n 0, 1) := by decide +kernel
theorem d_X_forget_9 : decode prog_1_method_34_code 9 = .ok (.getfield 33, 3) := by decide +kernel
theorem d_X_forget_12 : decode prog_1_method_34_code 12 = .ok (.iload_n 1, 1) := by decide +kernel
theorem d_X_forget_13 : decode prog_1_method_34_code 13 = .ok (.aaload, 1) := by decide +kernel
theorem d_X_forget_14 : decode prog_1_method_34_code 14 = .ok (.iconst 0, 1) := by decide +kernel
theorem d_X_forget_15 : decode prog_1_method_34_code 15 = .ok (.putfield 80, 3) := by decide +kernel
theorem d_X_forget_18 : decode prog_1_method_34_code 18 = .ok (.iinc 1 1, 3) := by decide +kernel
theorem d_X_forget_21 : decode prog_1_method_34_code 21 = .ok (.goto (-19), 3) := by decide +kernel
theorem d_X_forget_24 : decode prog_1_method_34_code 24 = .ok (.iconst 0, 1) := by decide +kernel
theorem d_X_forget_25 : decode prog_1_method_34_code 25 = .ok (.istore_n 1, 1) := by decide +kernel
theorem d_X_forget_26 : decode prog_1_method_34_code 26 = .ok (.iload_n 1, 1) := by decide +kernel
theorem d_X_forget_27 : decode prog_1_method_34_code 27 = .ok (.bipush 16, 2) := by decide +kernel
theorem d_X_forget_29 : decode prog_1_method_34_code 29 = .ok (.if_icmp .ge 19, 3) := by decide +kernel
theorem d_X_forget_32 : decode prog_1_method_34_code 32 = .ok (.aload_n 0, 1) := by decide +kernel
theorem d_X_forget_33 : decode prog_1_method_34_code 33 = .ok (.getfield 40, 3) := by decide +kernel
theorem d_X_forget_36 : decode prog_1_method_34_code 36 = .ok (.iload_n 1, 1) := by decide +kernel
theorem d_X_forget_37 : decode prog_1_method_34_code 37 = .ok (.aaload, 1) := by decide +kernel
theorem d_X_forget_38 : decode prog_1_method_34_code 38 = .ok (.iconst 0, 1) := by decide +kernel
theorem d_X_forget_39 : decode prog_1_method_34_code 39 = .ok (.putfield 178, 3) := by decide +kernel
theorem d_X_forget_42 : decode prog_1_method_34_code 42 = .ok (.iinc 1 1, 3) := by decide +kernel
theorem d_X_forget_45 : decode prog_1_method_34_code 45 = .ok (.goto (-19), 3) := by decide +kernel
theorem d_X_forget_48 : decode prog_1_method_34_code 48 = .ok (.iconst 0, 1) := by decide +kernel
theorem d_X_forget_49 : decode prog_1_method_34_code 49 = .ok (.istore_n 1, 1) := by decide +kernel
theorem d_X_forget_50 : decode prog_1_method_34_code 50 = .ok (.iload_n 1, 1) := by decide +kernel
theorem d_X_forget_51 : decode prog_1_method_34_code 51 = .ok (.aload_n 0, 1) := by decide +kernel
theorem d_X_forget_52 : decode prog_1_method_34_code 52 = .ok (.getfield 23, 3) := by decide +kernel
theorem d_X_forget_55 : decode prog_1_method_34_code 55 = .ok (.getfield 233, 3) := by decide +kernel
theorem d_X_forget_58 : decode prog_1_method_34_code 58 = .ok (.if_icmp .ge 16, 3) := by decide +kernel
theorem d_X_forget_61 : decode prog_1_method_34_code 61 = .ok (.aload_n 0, 1) := by decide +kernel
theorem d_X_forget_62 : decode prog_1_method_34_code 62 = .ok (.getfield 27, 3) := by decide +kernel
theorem d_X_forget_65 : decode prog_1_method_34_code 65 = .ok (.iload_n 1, 1) := by decide +kernel
theorem d_X_forget_66 : decode prog_1_method_34_code 66 = .ok (.iconst 0, 1) := by decide +kernel
theorem d_X_forget_67 : decode prog_1_method_34_code 67 = .ok (.bastore, 1) := by decide +kernel
theorem d_X_forget_68 : decode prog_1_method_34_code 68 = .ok (.iinc 1 1, 3) := by decide +kernel
theorem d_X_forget_71 : decode prog_1_method_34_code 71 = .ok (.goto (-21), 3) := by decide +kernel
theorem d_X_forget_74 : decode prog_1_method_34_code 74 = .ok (.aload_n 0, 1) := by decide +kernel
theorem d_X_forget_75 : decode prog_1_method_34_code 75 = .ok (.iconst 0, 1) := by decide +kernel
theorem d_X_forget_76 : decode prog_1_method_34_code 76 = .ok (.putfield 62, 3) := by decide +kernel
theorem d_X_forget_79 : decode prog_1_method_34_code 79 = .ok (.return_, 1) := by decide +kernel
theorem d_K_hasDigest_0 : decode prog_4_method_2_code 0 = .ok (.iconst 0, 1) := by decide +kernel
theorem d_K_hasDigest_1 : decode prog_4_method_2_code 1 = .ok (.istore_n 2, 1) := by decide +kernel
theorem d_K_hasDigest_2 : decode prog_4_method_2_code 2 = .ok (.iload_n 2, 1) := by decide +kernel
theorem d_K_hasDigest_3 : decode prog_4_method_2_code 3 = .ok (.bipush 8, 2) := by decide +kernel
theorem d_K_hasDigest_5 : decode prog_4_method_2_code 5 = .ok (.if_icmp .ge 23, 3) := by decide +kernel
theorem d_K_hasDigest_8 : decode prog_4_method_2_code 8 = .ok (.aload_n 0, 1) := by decide +kernel
theorem d_K_hasDigest_9 : decode prog_4_method_2_code 9 = .ok (.getfield 22, 3) := by decide +kernel
theorem d_K_hasDigest_12 : decode prog_4_method_2_code 12 = .ok (.iload_n 2, 1) := by decide +kernel
theorem d_K_hasDigest_13 : decode prog_4_method_2_code 13 = .ok (.iaload, 1) := by decide +kernel
theorem d_K_hasDigest_14 : decode prog_4_method_2_code 14 = .ok (.aload_n 1, 1) := by decide +kernel
theorem d_K_hasDigest_15 : decode prog_4_method_2_code 15 = .ok (.iload_n 2, 1) := by decide +kernel
theorem d_K_hasDigest_16 : decode prog_4_method_2_code 16 = .ok (.iaload, 1) := by decide +kernel
theorem d_K_hasDigest_17 : decode prog_4_method_2_code 17 = .ok (.if_icmp .eq 5, 3) := by decide +kernel
theorem d_K_hasDigest_20 : decode prog_4_method_2_code 20 = .ok (.iconst 0, 1) := by decide +kernel
theorem d_K_hasDigest_21 : decode prog_4_method_2_code 21 = .ok (.ireturn, 1) := by decide +kernel
theorem d_K_hasDigest_22 : decode prog_4_method_2_code 22 = .ok (.iinc 2 1, 3) := by decide +kernel
theorem d_K_hasDigest_25 : decode prog_4_method_2_code 25 = .ok (.goto (-23), 3) := by decide +kernel
theorem d_K_hasDigest_28 : decode prog_4_method_2_code 28 = .ok (.iconst 1, 1) := by decide +kernel
theorem d_K_hasDigest_29 : decode prog_4_method_2_code 29 = .ok (.ireturn, 1) := by decide +kernel
theorem d_X_numberWith_0 : decode prog_1_method_23_code 0 = .ok (.iconst 0, 1) := by decide +kernel
theorem d_X_numberWith_1 : decode prog_1_method_23_code 1 = .ok (.istore_n 3, 1) := by decide +kernel
theorem d_X_numberWith_2 : decode prog_1_method_23_code 2 = .ok (.iload_n 3, 1) := by decide +kernel
theorem d_X_numberWith_3 : decode prog_1_method_23_code 3 = .ok (.iload_n 2, 1) := by decide +kernel
theorem d_X_numberWith_4 : decode prog_1_method_23_code 4 = .ok (.if_icmp .ge 36, 3) := by decide +kernel
theorem d_X_numberWith_7 : decode prog_1_method_23_code 7 = .ok (.aload_n 0, 1) := by decide +kernel
theorem d_X_numberWith_8 : decode prog_1_method_23_code 8 = .ok (.getfield 40, 3) := by decide +kernel
theorem d_X_numberWith_11 : decode prog_1_method_23_code 11 = .ok (.iload_n 3, 1) := by decide +kernel
theorem d_X_numberWith_12 : decode prog_1_method_23_code 12 = .ok (.aaload, 1) := by decide +kernel
theorem d_X_numberWith_13 : decode prog_1_method_23_code 13 = .ok (.getfield 178, 3) := by decide +kernel
theorem d_X_numberWith_16 : decode prog_1_method_23_code 16 = .ok (.ifCond .eq 18, 3) := by decide +kernel
theorem d_X_numberWith_19 : decode prog_1_method_23_code 19 = .ok (.aload_n 0, 1) := by decide +kernel
theorem d_X_numberWith_20 : decode prog_1_method_23_code 20 = .ok (.getfield 40, 3) := by decide +kernel
theorem d_X_numberWith_23 : decode prog_1_method_23_code 23 = .ok (.iload_n 3, 1) := by decide +kernel
theorem d_X_numberWith_24 : decode prog_1_method_23_code 24 = .ok (.aaload, 1) := by decide +kernel
theorem d_X_numberWith_25 : decode prog_1_method_23_code 25 = .ok (.aload_n 1, 1) := by decide +kernel
theorem d_X_numberWith_26 : decode prog_1_method_23_code 26 = .ok (.invokevirtual 268, 3) := by decide +kernel
theorem d_X_numberWith_29 : decode prog_1_method_23_code 29 = .ok (.ifCond .eq 5, 3) := by decide +kernel
theorem d_X_numberWith_32 : decode prog_1_method_23_code 32 = .ok (.iload_n 3, 1) := by decide +kernel
theorem d_X_numberWith_33 : decode prog_1_method_23_code 33 = .ok (.ireturn, 1) := by decide +kernel
theorem d_X_numberWith_34 : decode prog_1_method_23_code 34 = .ok (.iinc 3 1, 3) := by decide +kernel
theorem d_X_numberWith_37 : decode prog_1_method_23_code 37 = .ok (.goto (-35), 3) := by decide +kernel
theorem d_X_numberWith_40 : decode prog_1_method_23_code 40 = .ok (.iconst (-1), 1) := by decide +kernel
theorem d_X_numberWith_41 : decode prog_1_method_23_code 41 = .ok (.ireturn, 1) := by decide +kernel
theorem d_X_setUsed_0 : decode prog_1_method_28_code 0 = .ok (.iconst 0, 1) := by decide +kernel
theorem d_X_setUsed_1 : decode prog_1_method_28_code 1 = .ok (.istore_n 3, 1) := by decide +kernel
theorem d_X_setUsed_2 : decode prog_1_method_28_code 2 = .ok (.iload_n 3, 1) := by decide +kernel
theorem d_X_setUsed_3 : decode prog_1_method_28_code 3 = .ok (.aload_n 1, 1) := by decide +kernel
theorem d_X_setUsed_4 : decode prog_1_method_28_code 4 = .ok (.getfield 195, 3) := by decide +kernel
theorem d_X_setUsed_7 : decode prog_1_method_28_code 7 = .ok (.if_icmp .gt 21, 3) := by decide +kernel
theorem d_X_setUsed_10 : decode prog_1_method_28_code 10 = .ok (.aload_n 0, 1) := by decide +kernel
theorem d_X_setUsed_11 : decode prog_1_method_28_code 11 = .ok (.getfield 27, 3) := by decide +kernel
theorem d_X_setUsed_14 : decode prog_1_method_28_code 14 = .ok (.aload_n 1, 1) := by decide +kernel
theorem d_X_setUsed_15 : decode prog_1_method_28_code 15 = .ok (.getfield 192, 3) := by decide +kernel
theorem d_X_setUsed_18 : decode prog_1_method_28_code 18 = .ok (.iload_n 3, 1) := by decide +kernel
theorem d_X_setUsed_19 : decode prog_1_method_28_code 19 = .ok (.iaload, 1) := by decide +kernel
theorem d_X_setUsed_20 : decode prog_1_method_28_code 20 = .ok (.iload_n 2, 1) := by decide +kernel
theorem d_X_setUsed_21 : decode prog_1_method_28_code 21 = .ok (.bastore, 1) := by decide +kernel
theorem d_X_setUsed_22 : decode prog_1_method_28_code 22 = .ok (.iinc 3 1, 3) := by decide +kernel
theorem d_X_setUsed_25 : decode prog_1_method_28_code 25 = .ok (.goto (-23), 3) := by decide +kernel
theorem d_X_setUsed_28 : decode prog_1_method_28_code 28 = .ok (.return_, 1) := by decide +kernel
theorem d_X_countKept_0 : decode prog_1_method_36_code 0 = .ok (.iconst 0, 1) := by decide +kernel
theorem d_X_countKept_1 : decode prog_1_method_36_code 1 = .ok (.istore_n 1, 1) := by decide +kernel
theorem d_X_countKept_2 : decode prog_1_method_36_code 2 = .ok (.iconst 0, 1) := by decide +kernel
theorem d_X_countKept_3 : decode prog_1_method_36_code 3 = .ok (.istore_n 2, 1) := by decide +kernel
theorem d_X_countKept_4 : decode prog_1_method_36_code 4 = .ok (.iload_n 2, 1) := by decide +kernel
theorem d_X_countKept_5 : decode prog_1_method_36_code 5 = .ok (.bipush 16, 2) := by decide +kernel
theorem d_X_countKept_7 : decode prog_1_method_36_code 7 = .ok (.if_icmp .ge 29, 3) := by decide +kernel
theorem d_X_countKept_10 : decode prog_1_method_36_code 10 = .ok (.iload_n 1, 1) := by decide +kernel
theorem d_X_countKept_11 : decode prog_1_method_36_code 11 = .ok (.aload_n 0, 1) := by decide +kernel
theorem d_X_countKept_12 : decode prog_1_method_36_code 12 = .ok (.getfield 40, 3) := by decide +kernel
theorem d_X_countKept_15 : decode prog_1_method_36_code 15 = .ok (.iload_n 2, 1) := by decide +kernel
theorem d_X_countKept_16 : decode prog_1_method_36_code 16 = .ok (.aaload, 1) := by decide +kernel
theorem d_X_countKept_17 : decode prog_1_method_36_code 17 = .ok (.getfield 178, 3) := by decide +kernel
theorem d_X_countKept_20 : decode prog_1_method_36_code 20 = .ok (.ifCond .eq 7, 3) := by decide +kernel
theorem d_X_countKept_23 : decode prog_1_method_36_code 23 = .ok (.iconst 1, 1) := by decide +kernel
theorem d_X_countKept_24 : decode prog_1_method_36_code 24 = .ok (.goto 4, 3) := by decide +kernel
theorem d_X_countKept_28 : decode prog_1_method_36_code 28 = .ok (.iadd, 1) := by decide +kernel
theorem d_X_countKept_29 : decode prog_1_method_36_code 29 = .ok (.istore_n 1, 1) := by decide +kernel
theorem d_X_countKept_30 : decode prog_1_method_36_code 30 = .ok (.iinc 2 1, 3) := by decide +kernel
theorem d_X_countKept_33 : decode prog_1_method_36_code 33 = .ok (.goto (-29), 3) := by decide +kernel
theorem d_X_countKept_27 : decode prog_1_method_36_code 27 = .ok (.iconst 0, 1) := by decide +kernel
theorem d_X_countKept_36 : decode prog_1_method_36_code 36 = .ok (.iload_n 1, 1) := by decide +kernel
theorem d_X_countKept_37 : decode prog_1_method_36_code 37 = .ok (.ireturn, 1) := by decide +kernel
theorem d_X_countFreeBlocks_0 : decode prog_1_method_35_code 0 = .ok (.iconst 0, 1) := by decide +kernel
theorem d_X_countFreeBlocks_1 : decode prog_1_method_35_code 1 = .ok (.istore_n 1, 1) := by decide +kernel
theorem d_X_countFreeBlocks_2 : decode prog_1_method_35_code 2 = .ok (.iconst 0, 1) := by decide +kernel
theorem d_X_countFreeBlocks_3 : decode prog_1_method_35_code 3 = .ok (.istore_n 2, 1) := by decide +kernel
theorem d_X_countFreeBlocks_4 : decode prog_1_method_35_code 4 = .ok (.iload_n 2, 1) := by decide +kernel
theorem d_X_countFreeBlocks_5 : decode prog_1_method_35_code 5 = .ok (.aload_n 0, 1) := by decide +kernel
theorem d_X_countFreeBlocks_6 : decode prog_1_method_35_code 6 = .ok (.getfield 23, 3) := by decide +kernel
theorem d_X_countFreeBlocks_9 : decode prog_1_method_35_code 9 = .ok (.getfield 233, 3) := by decide +kernel
theorem d_X_countFreeBlocks_12 : decode prog_1_method_35_code 12 = .ok (.if_icmp .ge 26, 3) := by decide +kernel
theorem d_X_countFreeBlocks_15 : decode prog_1_method_35_code 15 = .ok (.iload_n 1, 1) := by decide +kernel
theorem d_X_countFreeBlocks_16 : decode prog_1_method_35_code 16 = .ok (.aload_n 0, 1) := by decide +kernel
theorem d_X_countFreeBlocks_17 : decode prog_1_method_35_code 17 = .ok (.getfield 27, 3) := by decide +kernel
theorem d_X_countFreeBlocks_20 : decode prog_1_method_35_code 20 = .ok (.iload_n 2, 1) := by decide +kernel
theorem d_X_countFreeBlocks_21 : decode prog_1_method_35_code 21 = .ok (.baload, 1) := by decide +kernel
theorem d_X_countFreeBlocks_22 : decode prog_1_method_35_code 22 = .ok (.ifCond .eq 7, 3) := by decide +kernel
theorem d_X_countFreeBlocks_25 : decode prog_1_method_35_code 25 = .ok (.iconst 0, 1) := by decide +kernel
theorem d_X_countFreeBlocks_26 : decode prog_1_method_35_code 26 = .ok (.goto 4, 3) := by decide +kernel
theorem d_X_countFreeBlocks_30 : decode prog_1_method_35_code 30 = .ok (.iadd, 1) := by decide +kernel
theorem d_X_countFreeBlocks_31 : decode prog_1_method_35_code 31 = .ok (.istore_n 1, 1) := by decide +kernel
theorem d_X_countFreeBlocks_32 : decode prog_1_method_35_code 32 = .ok (.iinc 2 1, 3) := by decide +kernel
theorem d_X_countFreeBlocks_35 : decode prog_1_method_35_code 35 = .ok (.goto (-31), 3) := by decide +kernel
theorem d_X_countFreeBlocks_29 : decode prog_1_method_35_code 29 = .ok (.iconst 1, 1) := by decide +kernel
theorem d_X_countFreeBlocks_38 : decode prog_1_method_35_code 38 = .ok (.iload_n 1, 1) := by decide +kernel
theorem d_X_countFreeBlocks_39 : decode prog_1_method_35_code 39 = .ok (.ireturn, 1) := by decide +kernel
theorem d_X_countMade_0 : decode prog_1_method_37_code 0 = .ok (.iconst 0, 1) := by decide +kernel
theorem d_X_countMade_1 : decode prog_1_method_37_code 1 = .ok (.istore_n 1, 1) := by decide +kernel
theorem d_X_countMade_2 : decode prog_1_method_37_code 2 = .ok (.iconst 0, 1) := by decide +kernel
theorem d_X_countMade_3 : decode prog_1_method_37_code 3 = .ok (.istore_n 2, 1) := by decide +kernel
theorem d_X_countMade_4 : decode prog_1_method_37_code 4 = .ok (.iload_n 2, 1) := by decide +kernel
theorem d_X_countMade_5 : decode prog_1_method_37_code 5 = .ok (.bipush 8, 2) := by decide +kernel
theorem d_X_countMade_7 : decode prog_1_method_37_code 7 = .ok (.if_icmp .ge 29, 3) := by decide +kernel
theorem d_X_countMade_10 : decode prog_1_method_37_code 10 = .ok (.iload_n 1, 1) := by decide +kernel
theorem d_X_countMade_11 : decode prog_1_method_37_code 11 = .ok (.aload_n 0, 1) := by decide +kernel
theorem d_X_countMade_12 : decode prog_1_method_37_code 12 = .ok (.getfield 33, 3) := by decide +kernel
theorem d_X_countMade_15 : decode prog_1_method_37_code 15 = .ok (.iload_n 2, 1) := by decide +kernel
theorem d_X_countMade_16 : decode prog_1_method_37_code 16 = .ok (.aaload, 1) := by decide +kernel
theorem d_X_countMade_17 : decode prog_1_method_37_code 17 = .ok (.getfield 80, 3) := by decide +kernel
theorem d_X_countMade_20 : decode prog_1_method_37_code 20 = .ok (.ifCond .eq 7, 3) := by decide +kernel
theorem d_X_countMade_23 : decode prog_1_method_37_code 23 = .ok (.iconst 1, 1) := by decide +kernel
theorem d_X_countMade_24 : decode prog_1_method_37_code 24 = .ok (.goto 4, 3) := by decide +kernel
theorem d_X_countMade_28 : decode prog_1_method_37_code 28 = .ok (.iadd, 1) := by decide +kernel
theorem d_X_countMade_29 : decode prog_1_method_37_code 29 = .ok (.istore_n 1, 1) := by decide +kernel
theorem d_X_countMade_30 : decode prog_1_method_37_code 30 = .ok (.iinc 2 1, 3) := by decide +kernel
theorem d_X_countMade_33 : decode prog_1_method_37_code 33 = .ok (.goto (-29), 3) := by decide +kernel
theorem d_X_countMade_27 : decode prog_1_method_37_code 27 = .ok (.iconst 0, 1) := by decide +kernel
theorem d_X_countMade_36 : decode prog_1_method_37_code 36 = .ok (.iload_n 1, 1) := by decide +kernel
theorem d_X_countMade_37 : decode prog_1_method_37_code 37 = .ok (.ireturn, 1) := by decide +kernel
theorem d_X_freeNumber_0 : decode prog_1_method_24_code 0 = .ok (.iconst 0, 1) := by decide +kernel
theorem d_X_freeNumber_1 : decode prog_1_method_24_code 1 = .ok (.istore_n 1, 1) := by decide +kernel
theorem d_X_freeNumber_2 : decode prog_1_method_24_code 2 = .ok (.iload_n 1, 1) := by decide +kernel
theorem d_X_freeNumber_3 : decode prog_1_method_24_code 3 = .ok (.bipush 16, 2) := by decide +kernel
theorem d_X_freeNumber_5 : decode prog_1_method_24_code 5 = .ok (.if_icmp .ge 23, 3) := by decide +kernel
theorem d_X_freeNumber_8 : decode prog_1_method_24_code 8 = .ok (.aload_n 0, 1) := by decide +kernel
theorem d_X_freeNumber_9 : decode prog_1_method_24_code 9 = .ok (.getfield 40, 3) := by decide +kernel
theorem d_X_freeNumber_12 : decode prog_1_method_24_code 12 = .ok (.iload_n 1, 1) := by decide +kernel
theorem d_X_freeNumber_13 : decode prog_1_method_24_code 13 = .ok (.aaload, 1) := by decide +kernel
theorem d_X_freeNumber_14 : decode prog_1_method_24_code 14 = .ok (.getfield 178, 3) := by decide +kernel
theorem d_X_freeNumber_17 : decode prog_1_method_24_code 17 = .ok (.ifCond .ne 5, 3) := by decide +kernel
theorem d_X_freeNumber_20 : decode prog_1_method_24_code 20 = .ok (.iload_n 1, 1) := by decide +kernel
theorem d_X_freeNumber_21 : decode prog_1_method_24_code 21 = .ok (.ireturn, 1) := by decide +kernel
theorem d_X_freeNumber_22 : decode prog_1_method_24_code 22 = .ok (.iinc 1 1, 3) := by decide +kernel
theorem d_X_freeNumber_25 : decode prog_1_method_24_code 25 = .ok (.goto (-23), 3) := by decide +kernel
theorem d_X_freeNumber_28 : decode prog_1_method_24_code 28 = .ok (.iconst (-1), 1) := by decide +kernel
theorem d_X_freeNumber_29 : decode prog_1_method_24_code 29 = .ok (.ireturn, 1) := by decide +kernel
theorem d_X_choosePlaces_0 : decode prog_1_method_25_code 0 = .ok (.iconst 0, 1) := by decide +kernel
theorem d_X_choosePlaces_1 : decode prog_1_method_25_code 1 = .ok (.istore_n 3, 1) := by decide +kernel
theorem d_X_choosePlaces_2 : decode prog_1_method_25_code 2 = .ok (.iconst 0, 1) := by decide +kernel
theorem d_X_choosePlaces_3 : decode prog_1_method_25_code 3 = .ok (.istore 4, 2) := by decide +kernel
theorem d_X_choosePlaces_5 : decode prog_1_method_25_code 5 = .ok (.iload 4, 2) := by decide +kernel
theorem d_X_choosePlaces_7 : decode prog_1_method_25_code 7 = .ok (.aload_n 0, 1) := by decide +kernel
theorem d_X_choosePlaces_8 : decode prog_1_method_25_code 8 = .ok (.getfield 23, 3) := by decide +kernel
theorem d_X_choosePlaces_11 : decode prog_1_method_25_code 11 = .ok (.getfield 233, 3) := by decide +kernel
theorem d_X_choosePlaces_14 : decode prog_1_method_25_code 14 = .ok (.if_icmp .ge 35, 3) := by decide +kernel
theorem d_X_choosePlaces_17 : decode prog_1_method_25_code 17 = .ok (.iload_n 3, 1) := by decide +kernel
theorem d_X_choosePlaces_18 : decode prog_1_method_25_code 18 = .ok (.iload_n 2, 1) := by decide +kernel
theorem d_X_choosePlaces_19 : decode prog_1_method_25_code 19 = .ok (.if_icmp .gt 30, 3) := by decide +kernel
theorem d_X_choosePlaces_22 : decode prog_1_method_25_code 22 = .ok (.aload_n 0, 1) := by decide +kernel
theorem d_X_choosePlaces_23 : decode prog_1_method_25_code 23 = .ok (.getfield 27, 3) := by decide +kernel
theorem d_X_choosePlaces_26 : decode prog_1_method_25_code 26 = .ok (.iload 4, 2) := by decide +kernel
theorem d_X_choosePlaces_28 : decode prog_1_method_25_code 28 = .ok (.baload, 1) := by decide +kernel
theorem d_X_choosePlaces_29 : decode prog_1_method_25_code 29 = .ok (.ifCond .ne 14, 3) := by decide +kernel
theorem d_X_choosePlaces_32 : decode prog_1_method_25_code 32 = .ok (.aload_n 1, 1) := by decide +kernel
theorem d_X_choosePlaces_33 : decode prog_1_method_25_code 33 = .ok (.getfield 192, 3) := by decide +kernel
theorem d_X_choosePlaces_36 : decode prog_1_method_25_code 36 = .ok (.iload_n 3, 1) := by decide +kernel
theorem d_X_choosePlaces_37 : decode prog_1_method_25_code 37 = .ok (.iload 4, 2) := by decide +kernel
theorem d_X_choosePlaces_39 : decode prog_1_method_25_code 39 = .ok (.iastore, 1) := by decide +kernel
theorem d_X_choosePlaces_40 : decode prog_1_method_25_code 40 = .ok (.iinc 3 1, 3) := by decide +kernel
theorem d_X_choosePlaces_43 : decode prog_1_method_25_code 43 = .ok (.iinc 4 1, 3) := by decide +kernel
theorem d_X_choosePlaces_46 : decode prog_1_method_25_code 46 = .ok (.goto (-41), 3) := by decide +kernel
theorem d_X_choosePlaces_49 : decode prog_1_method_25_code 49 = .ok (.iload_n 3, 1) := by decide +kernel
theorem d_X_choosePlaces_50 : decode prog_1_method_25_code 50 = .ok (.iload_n 2, 1) := by decide +kernel
theorem d_X_choosePlaces_51 : decode prog_1_method_25_code 51 = .ok (.if_icmp .le 7, 3) := by decide +kernel
theorem d_X_choosePlaces_54 : decode prog_1_method_25_code 54 = .ok (.iconst 1, 1) := by decide +kernel
theorem d_X_choosePlaces_55 : decode prog_1_method_25_code 55 = .ok (.goto 4, 3) := by decide +kernel
theorem d_X_choosePlaces_59 : decode prog_1_method_25_code 59 = .ok (.ireturn, 1) := by decide +kernel
theorem d_X_choosePlaces_58 : decode prog_1_method_25_code 58 = .ok (.iconst 0, 1) := by decide +kernel
theorem d_X_enterFound_0 : decode prog_1_method_32_code 0 = .ok (.aload_n 0, 1) := by decide +kernel
theorem d_X_enterFound_1 : decode prog_1_method_32_code 1 = .ok (.getfield 62, 3) := by decide +kernel
theorem d_X_enterFound_4 : decode prog_1_method_32_code 4 = .ok (.istore_n 3, 1) := by decide +kernel
theorem d_X_enterFound_5 : decode prog_1_method_32_code 5 = .ok (.iload_n 3, 1) := by decide +kernel
theorem d_X_enterFound_6 : decode prog_1_method_32_code 6 = .ok (.ifCond .le 49, 3) := by decide +kernel
theorem d_X_enterFound_9 : decode prog_1_method_32_code 9 = .ok (.aload_n 0, 1) := by decide +kernel
theorem d_X_enterFound_10 : decode prog_1_method_32_code 10 = .ok (.getfield 59, 3) := by decide +kernel
theorem d_X_enterFound_13 : decode prog_1_method_32_code 13 = .ok (.iload_n 3, 1) := by decide +kernel
theorem d_X_enterFound_14 : decode prog_1_method_32_code 14 = .ok (.iconst 1, 1) := by decide +kernel
theorem d_X_enterFound_15 : decode prog_1_method_32_code 15 = .ok (.isub, 1) := by decide +kernel
theorem d_X_enterFound_16 : decode prog_1_method_32_code 16 = .ok (.iaload, 1) := by decide +kernel
theorem d_X_enterFound_17 : decode prog_1_method_32_code 17 = .ok (.iload_n 2, 1) := by decide +kernel
theorem d_X_enterFound_18 : decode prog_1_method_32_code 18 = .ok (.if_icmp .le 37, 3) := by decide +kernel
theorem d_X_enterFound_21 : decode prog_1_method_32_code 21 = .ok (.aload_n 0, 1) := by decide +kernel
theorem d_X_enterFound_22 : decode prog_1_method_32_code 22 = .ok (.getfield 56, 3) := by decide +kernel
theorem d_X_enterFound_25 : decode prog_1_method_32_code 25 = .ok (.iload_n 3, 1) := by decide +kernel
theorem d_X_enterFound_26 : decode prog_1_method_32_code 26 = .ok (.aload_n 0, 1) := by decide +kernel
theorem d_X_enterFound_27 : decode prog_1_method_32_code 27 = .ok (.getfield 56, 3) := by decide +kernel
theorem d_X_enterFound_30 : decode prog_1_method_32_code 30 = .ok (.iload_n 3, 1) := by decide +kernel
theorem d_X_enterFound_31 : decode prog_1_method_32_code 31 = .ok (.iconst 1, 1) := by decide +kernel
theorem d_X_enterFound_32 : decode prog_1_method_32_code 32 = .ok (.isub, 1) := by decide +kernel
theorem d_X_enterFound_33 : decode prog_1_method_32_code 33 = .ok (.iaload, 1) := by decide +kernel
theorem d_X_enterFound_34 : decode prog_1_method_32_code 34 = .ok (.iastore, 1) := by decide +kernel
theorem d_X_enterFound_35 : decode prog_1_method_32_code 35 = .ok (.aload_n 0, 1) := by decide +kernel
theorem d_X_enterFound_36 : decode prog_1_method_32_code 36 = .ok (.getfield 59, 3) := by decide +kernel
theorem d_X_enterFound_39 : decode prog_1_method_32_code 39 = .ok (.iload_n 3, 1) := by decide +kernel
theorem d_X_enterFound_40 : decode prog_1_method_32_code 40 = .ok (.aload_n 0, 1) := by decide +kernel
theorem d_X_enterFound_41 : decode prog_1_method_32_code 41 = .ok (.getfield 59, 3) := by decide +kernel
theorem d_X_enterFound_44 : decode prog_1_method_32_code 44 = .ok (.iload_n 3, 1) := by decide +kernel
theorem d_X_enterFound_45 : decode prog_1_method_32_code 45 = .ok (.iconst 1, 1) := by decide +kernel
theorem d_X_enterFound_46 : decode prog_1_method_32_code 46 = .ok (.isub, 1) := by decide +kernel
theorem d_X_enterFound_47 : decode prog_1_method_32_code 47 = .ok (.iaload, 1) := by decide +kernel
theorem d_X_enterFound_48 : decode prog_1_method_32_code 48 = .ok (.iastore, 1) := by decide +kernel
theorem d_X_enterFound_49 : decode prog_1_method_32_code 49 = .ok (.iinc 3 (-1), 3) := by decide +kernel
theorem d_X_enterFound_52 : decode prog_1_method_32_code 52 = .ok (.goto (-47), 3) := by decide +kernel
theorem d_X_enterFound_55 : decode prog_1_method_32_code 55 = .ok (.aload_n 0, 1) := by decide +kernel
theorem d_X_enterFound_56 : decode prog_1_method_32_code 56 = .ok (.getfield 56, 3) := by decide +kernel
theorem d_X_enterFound_59 : decode prog_1_method_32_code 59 = .ok (.iload_n 3, 1) := by decide +kernel
theorem d_X_enterFound_60 : decode prog_1_method_32_code 60 = .ok (.iload_n 1, 1) := by decide +kernel
theorem d_X_enterFound_61 : decode prog_1_method_32_code 61 = .ok (.iastore, 1) := by decide +kernel
theorem d_X_enterFound_62 : decode prog_1_method_32_code 62 = .ok (.aload_n 0, 1) := by decide +kernel
theorem d_X_enterFound_63 : decode prog_1_method_32_code 63 = .ok (.getfield 59, 3) := by decide +kernel
theorem d_X_enterFound_66 : decode prog_1_method_32_code 66 = .ok (.iload_n 3, 1) := by decide +kernel
theorem d_X_enterFound_67 : decode prog_1_method_32_code 67 = .ok (.iload_n 2, 1) := by decide +kernel
theorem d_X_enterFound_68 : decode prog_1_method_32_code 68 = .ok (.iastore, 1) := by decide +kernel
theorem d_X_enterFound_69 : decode prog_1_method_32_code 69 = .ok (.aload_n 0, 1) := by decide +kernel
theorem d_X_enterFound_70 : decode prog_1_method_32_code 70 = .ok (.dup, 1) := by decide +kernel
theorem d_X_enterFound_71 : decode prog_1_method_32_code 71 = .ok (.getfield 62, 3) := by decide +kernel
theorem d_X_enterFound_74 : decode prog_1_method_32_code 74 = .ok (.iconst 1, 1) := by decide +kernel
theorem d_X_enterFound_75 : decode prog_1_method_32_code 75 = .ok (.iadd, 1) := by decide +kernel
theorem d_X_enterFound_76 : decode prog_1_method_32_code 76 = .ok (.putfield 62, 3) := by decide +kernel
theorem d_X_enterFound_79 : decode prog_1_method_32_code 79 = .ok (.return_, 1) := by decide +kernel
theorem d_X_afterCut_0 : decode prog_1_method_33_code 0 = .ok (.aload_n 0, 1) := by decide +kernel
theorem d_X_afterCut_1 : decode prog_1_method_33_code 1 = .ok (.invokevirtual 216, 3) := by decide +kernel
theorem d_X_afterCut_4 : decode prog_1_method_33_code 4 = .ok (.bipush (-2), 2) := by decide +kernel
theorem d_X_afterCut_6 : decode prog_1_method_33_code 6 = .ok (.ireturn, 1) := by decide +kernel
def f_X_forget_74 (xn : Nat)  (z0 : x_St) : Option (Unit × x_St) :=
  (some ((), (x_put z0 0 8 (0 : Int32))))
def f_X_forget_50 (xn : Nat) : Nat → Int32 → x_St → Option (Unit × x_St)
  | 0, _, _ => none
  | fu + 1, a1, z0 =>
    (if (z0.1 1 0) ≤ a1 then
    (f_X_forget_74 xn z0)
    else
    (x_ck a1 xn
    (f_X_forget_50 xn fu (a1 + (1 : Int32)) (x_put z0 4 (a1).toNatClampNeg (vp_nar .boolean (0 : Int32))))))
def f_X_forget_48 (xn : Nat)  (z0 : x_St) : Option (Unit × x_St) :=
  (f_X_forget_50 xn x_FU (0 : Int32) z0)
def f_X_forget_26 (xn : Nat) : Nat → Int32 → x_St → Option (Unit × x_St)
  | 0, _, _ => none
  | fu + 1, a1, z0 =>
    (if (16 : Int32) ≤ a1 then
    (f_X_forget_48 xn z0)
    else
    (x_ck a1 16
    (f_X_forget_26 xn fu (a1 + (1 : Int32)) (x_put z0 (23 + 5 * (a1).toNatClampNeg) 0 (0 : Int32)))))
def f_X_forget_24 (xn : Nat)  (z0 : x_St) : Option (Unit × x_St) :=
  (f_X_forget_26 xn x_FU (0 : Int32) z0)
def f_X_forget_2 (xn : Nat) : Nat → Int32 → x_St → Option (Unit × x_St)
  | 0, _, _ => none
  | fu + 1, a1, z0 =>
    (if (8 : Int32) ≤ a1 then
    (f_X_forget_24 xn z0)
    else
    (x_ck a1 8
    (f_X_forget_2 xn fu (a1 + (1 : Int32)) (x_put z0 (6 + 2 * (a1).toNatClampNeg) 0 (0 : Int32)))))
def f_X_forget (xn : Nat)  (z0 : x_St) : Option (Unit × x_St) :=
  (f_X_forget_2 xn x_FU (0 : Int32) z0)
def f_K_hasDigest_2 (xn : Nat) : Nat → Nat → Nat → Int32 → x_St → Option (Int32 × x_St)
  | 0, _, _, _, _ => none
  | fu + 1, a0, a1, a2, z0 =>
    (if (8 : Int32) ≤ a2 then
    (some ((1 : Int32), z0))
    else
    (x_ck a2 (x_ln xn (a0 + 3))
    (x_ck a2 (x_ln xn a1)
    (if (z0.1 (a0 + 3) (a2).toNatClampNeg) = (z0.1 a1 (a2).toNatClampNeg) then
    (f_K_hasDigest_2 xn fu a0 a1 (a2 + (1 : Int32)) z0)
    else
    (some ((0 : Int32), z0))))))
def f_K_hasDigest (xn : Nat) (k0 : Nat) (k1 : Nat) (z0 : x_St) : Option (Int32 × x_St) :=
  (f_K_hasDigest_2 xn x_FU k0 k1 (0 : Int32) z0)
def f_X_numberWith_32 (xn : Nat) (a3 : Int32) (z0 : x_St) : Option (Int32 × x_St) :=
  (some (a3, z0))
def f_X_numberWith_2 (xn : Nat) : Nat → Nat → Int32 → Int32 → x_St → Option (Int32 × x_St)
  | 0, _, _, _, _ => none
  | fu + 1, a1, a2, a3, z0 =>
    (if a2 ≤ a3 then
    (some ((-1 : Int32), z0))
    else
    (x_ck a3 16
    (if (z0.1 (23 + 5 * (a3).toNatClampNeg) 0) = 0 then
    (f_X_numberWith_2 xn fu a1 a2 (a3 + (1 : Int32)) z0)
    else
    (x_ck a3 16
    (x_cl (f_K_hasDigest xn (23 + 5 * (a3).toNatClampNeg) a1 z0) (fun r5 z5 =>
    (if r5 = 0 then
    (f_X_numberWith_2 xn fu a1 a2 (a3 + (1 : Int32)) z5)
    else
    (f_X_numberWith_32 xn a3 z5))))))))
def f_X_numberWith (xn : Nat) (k1 : Nat) (p2 : Int32) (z0 : x_St) : Option (Int32 × x_St) :=
  (f_X_numberWith_2 xn x_FU k1 p2 (0 : Int32) z0)
def f_X_setUsed_2 (xn : Nat) : Nat → Nat → Int32 → Int32 → x_St → Option (Unit × x_St)
  | 0, _, _, _, _ => none
  | fu + 1, a1, a2, a3, z0 =>
    (if (z0.1 a1 4) < a3 then
    (some ((), z0))
    else
    (x_ck a3 (x_ln xn (a1 + 4))
    (x_ck (z0.1 (a1 + 4) (a3).toNatClampNeg) xn
    (f_X_setUsed_2 xn fu a1 a2 (a3 + (1 : Int32)) (x_put z0 4 ((z0.1 (a1 + 4) (a3).toNatClampNeg)).toNatClampNeg (vp_nar .boolean a2))))))
def f_X_setUsed (xn : Nat) (k1 : Nat) (p2 : Int32) (z0 : x_St) : Option (Unit × x_St) :=
  (f_X_setUsed_2 xn x_FU k1 p2 (0 : Int32) z0)
def f_X_countKept_36 (xn : Nat) (a1 : Int32) (z0 : x_St) : Option (Int32 × x_St) :=
  (some (a1, z0))
def f_X_countKept_4 (xn : Nat) : Nat → Int32 → Int32 → x_St → Option (Int32 × x_St)
  | 0, _, _, _ => none
  | fu + 1, a1, a2, z0 =>
    (if (16 : Int32) ≤ a2 then
    (f_X_countKept_36 xn a1 z0)
    else
    (x_ck a2 16
    (if (z0.1 (23 + 5 * (a2).toNatClampNeg) 0) = 0 then
    (f_X_countKept_4 xn fu (a1 + (0 : Int32)) (a2 + (1 : Int32)) z0)
    else
    (f_X_countKept_4 xn fu (a1 + (1 : Int32)) (a2 + (1 : Int32)) z0))))
def f_X_countKept (xn : Nat)  (z0 : x_St) : Option (Int32 × x_St) :=
  (f_X_countKept_4 xn x_FU (0 : Int32) (0 : Int32) z0)
def f_X_countFreeBlocks_38 (xn : Nat) (a1 : Int32) (z0 : x_St) : Option (Int32 × x_St) :=
  (some (a1, z0))
def f_X_countFreeBlocks_4 (xn : Nat) : Nat → Int32 → Int32 → x_St → Option (Int32 × x_St)
  | 0, _, _, _ => none
  | fu + 1, a1, a2, z0 =>
    (if (z0.1 1 0) ≤ a2 then
    (f_X_countFreeBlocks_38 xn a1 z0)
    else
    (x_ck a2 xn
    (if (z0.1 4 (a2).toNatClampNeg) = 0 then
    (f_X_countFreeBlocks_4 xn fu (a1 + (1 : Int32)) (a2 + (1 : Int32)) z0)
    else
    (f_X_countFreeBlocks_4 xn fu (a1 + (0 : Int32)) (a2 + (1 : Int32)) z0))))
def f_X_countFreeBlocks (xn : Nat)  (z0 : x_St) : Option (Int32 × x_St) :=
  (f_X_countFreeBlocks_4 xn x_FU (0 : Int32) (0 : Int32) z0)
def f_X_countMade_36 (xn : Nat) (a1 : Int32) (z0 : x_St) : Option (Int32 × x_St) :=
  (some (a1, z0))
def f_X_countMade_4 (xn : Nat) : Nat → Int32 → Int32 → x_St → Option (Int32 × x_St)
  | 0, _, _, _ => none
  | fu + 1, a1, a2, z0 =>
    (if (8 : Int32) ≤ a2 then
    (f_X_countMade_36 xn a1 z0)
    else
    (x_ck a2 8
    (if (z0.1 (6 + 2 * (a2).toNatClampNeg) 0) = 0 then
    (f_X_countMade_4 xn fu (a1 + (0 : Int32)) (a2 + (1 : Int32)) z0)
    else
    (f_X_countMade_4 xn fu (a1 + (1 : Int32)) (a2 + (1 : Int32)) z0))))
def f_X_countMade (xn : Nat)  (z0 : x_St) : Option (Int32 × x_St) :=
  (f_X_countMade_4 xn x_FU (0 : Int32) (0 : Int32) z0)
def f_X_freeNumber_20 (xn : Nat) (a1 : Int32) (z0 : x_St) : Option (Int32 × x_St) :=
  (some (a1, z0))
def f_X_freeNumber_2 (xn : Nat) : Nat → Int32 → x_St → Option (Int32 × x_St)
  | 0, _, _ => none
  | fu + 1, a1, z0 =>
    (if (16 : Int32) ≤ a1 then
    (some ((-1 : Int32), z0))
    else
    (x_ck a1 16
    (if (z0.1 (23 + 5 * (a1).toNatClampNeg) 0) = 0 then
    (f_X_freeNumber_20 xn a1 z0)
    else
    (f_X_freeNumber_2 xn fu (a1 + (1 : Int32)) z0))))
def f_X_freeNumber (xn : Nat)  (z0 : x_St) : Option (Int32 × x_St) :=
  (f_X_freeNumber_2 xn x_FU (0 : Int32) z0)
def f_X_choosePlaces_49 (xn : Nat) (a2 : Int32) (a3 : Int32) (z0 : x_St) : Option (Int32 × x_St) :=
  (if a3 ≤ a2 then
  (some ((0 : Int32), z0))
  else
  (some ((1 : Int32), z0)))
def f_X_choosePlaces_5 (xn : Nat) : Nat → Nat → Int32 → Int32 → Int32 → x_St → Option (Int32 × x_St)
  | 0, _, _, _, _, _ => none
  | fu + 1, a1, a2, a3, a4, z0 =>
    (if (z0.1 1 0) ≤ a4 then
    (f_X_choosePlaces_49 xn a2 a3 z0)
    else
    (if a2 < a3 then
    (f_X_choosePlaces_49 xn a2 a3 z0)
    else
    (x_ck a4 xn
    (if (z0.1 4 (a4).toNatClampNeg) = 0 then
    (x_ck a3 (x_ln xn (a1 + 4))
    (f_X_choosePlaces_5 xn fu a1 a2 (a3 + (1 : Int32)) (a4 + (1 : Int32)) (x_put z0 (a1 + 4) (a3).toNatClampNeg a4)))
    else
    (f_X_choosePlaces_5 xn fu a1 a2 a3 (a4 + (1 : Int32)) z0)))))
def f_X_choosePlaces (xn : Nat) (k1 : Nat) (p2 : Int32) (z0 : x_St) : Option (Int32 × x_St) :=
  (f_X_choosePlaces_5 xn x_FU k1 p2 (0 : Int32) (0 : Int32) z0)
def f_X_enterFound_55 (xn : Nat) (a1 : Int32) (a2 : Int32) (a3 : Int32) (z0 : x_St) : Option (Unit × x_St) :=
  (x_ck a3 (x_ln xn 108)
  (x_ck a3 (x_ln xn 109)
  (some ((), (x_put (x_put (x_put z0 108 (a3).toNatClampNeg a1) 109 (a3).toNatClampNeg a2) 0 8 (((x_put (x_put z0 108 (a3).toNatClampNeg a1) 109 (a3).toNatClampNeg a2).1 0 8) + (1 : Int32)))))))
def f_X_enterFound_5 (xn : Nat) : Nat → Int32 → Int32 → Int32 → x_St → Option (Unit × x_St)
  | 0, _, _, _, _ => none
  | fu + 1, a1, a2, a3, z0 =>
    (if a3 ≤ 0 then
    (f_X_enterFound_55 xn a1 a2 a3 z0)
    else
    (x_ck (a3 - (1 : Int32)) (x_ln xn 109)
    (if (z0.1 109 ((a3 - (1 : Int32))).toNatClampNeg) ≤ a2 then
    (f_X_enterFound_55 xn a1 a2 a3 z0)
    else
    (x_ck (a3 - (1 : Int32)) (x_ln xn 108)
    (x_ck a3 (x_ln xn 108)
    (x_ck (a3 - (1 : Int32)) (x_ln xn 109)
    (x_ck a3 (x_ln xn 109)
    (f_X_enterFound_5 xn fu a1 a2 (a3 + (-1 : Int32)) (x_put (x_put z0 108 (a3).toNatClampNeg (z0.1 108 ((a3 - (1 : Int32))).toNatClampNeg)) 109 (a3).toNatClampNeg ((x_put z0 108 (a3).toNatClampNeg (z0.1 108 ((a3 - (1 : Int32))).toNatClampNeg)).1 109 ((a3 - (1 : Int32))).toNatClampNeg))))))))))
def f_X_enterFound (xn : Nat) (p1 : Int32) (p2 : Int32) (z0 : x_St) : Option (Unit × x_St) :=
  (f_X_enterFound_5 xn x_FU p1 p2 (z0.1 0 8) z0)
def f_X_afterCut (xn : Nat)  (z0 : x_St) : Option (Int32 × x_St) :=
  (x_cl (f_X_forget xn z0) (fun r1 z1 =>
  (some ((-2 : Int32), z1))))
abbrev rm_X_forget : Room := { frames := 0, cells := 0, slots := 0, locals := 0 }
set_option maxHeartbeats 4000000 in
set_option maxRecDepth 100000 in
theorem w_X_forget_74 (l : Launch) (G : x_G) {p : Program} {e : Env} {s : State} {m : MethodId} {args : Array Value} {below : List Frame} {meth : Method} {c : Code} (C0 : x_Ctx G p s m args meth c prog_1_method_34_code "ContentLibrary" 2 none) (r : Unit) (zo : x_St) : ∀ (z0 : x_St), f_X_forget_74 (x_n G)  z0 = some (r, zo) → ∀ (H : Heap) (locs : List Loc) (ls : Array Slot), va_P (x_D G) vwCl (x_Wd G z0) H → va_D (x_A G) (x_Wd G z0) → va_S (x_A G) s.heap H locs → lv_has ls 2 [(0, .ref (x_ad G 0))] → W p l e rm_X_forget s m args below meth c H locs 0 0 (MQ below (va_Qv (fun u => r = () ∧ zo = u) (x_PW G) (x_A G)) args s 0 0 (x_A G)) (F0 m 74 ls []) := by
  obtain ⟨hx, hb, hr, hml, hown, hts, hlocks, hz, hK, hG⟩ := id C0
  intro  z0 hf H locs ls hP hD hS hl
  rw [f_X_forget_74] at hf
  refine lv_aload_n hx hb d_X_forget_74 rfl (lv_at hl 0 rfl) ?_
  refine lv_iconst (v := (0 : Int32)) hx hb d_X_forget_75 (by decide) ?_
  refine va_put (D := x_D G) (ci := 0) (v := .int (0 : Int32)) (ty := .int) (C := "ContentLibrary") (T := x_TX) (N := 9) hx hb hts x_inX x_tyX x_tyX_ok x_nmX hown hK hP hD hS 0 (x_lk_X G _) rfl 8 (by decide) (hts _ t_138) (fun _ h9 => h9) rfl (by decide +kernel) rfl rfl (Nat.le_of_ble_eq_true rfl) d_X_forget_76 (fun H locs hP hD hS => ?_)
  rw [x_st_X8 G _] at hP hD
  obtain ⟨rfl, rfl⟩ := x_ret hf
  exact W.vret hx hb hr (fun t ht hW => ⟨⟨_, rfl, ⟨rfl, rfl⟩, x_pw hP hD hK hG hS hz ht hW⟩, hS.F ht⟩) hS.2.2 d_X_forget_79
set_option maxHeartbeats 4000000 in
set_option maxRecDepth 100000 in
theorem w_X_forget_50 (l : Launch) (G : x_G) {p : Program} {e : Env} {s : State} {m : MethodId} {args : Array Value} {below : List Frame} {meth : Method} {c : Code} (C0 : x_Ctx G p s m args meth c prog_1_method_34_code "ContentLibrary" 2 none) (r : Unit) (zo : x_St) : ∀ (fu : Nat), ∀ (a1 : Int32) (z0 : x_St), f_X_forget_50 (x_n G) fu a1 z0 = some (r, zo) → ∀ (H : Heap) (locs : List Loc) (ls : Array Slot), va_P (x_D G) vwCl (x_Wd G z0) H → va_D (x_A G) (x_Wd G z0) → va_S (x_A G) s.heap H locs → lv_has ls 2 [(0, .ref (x_ad G 0)), (1, .int a1)] → W p l e rm_X_forget s m args below meth c H locs 0 0 (MQ below (va_Qv (fun u => r = () ∧ zo = u) (x_PW G) (x_A G)) args s 0 0 (x_A G)) (F0 m 50 ls []) := by
  obtain ⟨hx, hb, hr, hml, hown, hts, hlocks, hz, hK, hG⟩ := id C0
  intro fu
  induction fu with
  | zero =>
    intro a1 z0 hf
    rw [f_X_forget_50] at hf
    cases hf
  | succ fu ih =>
    intro a1 z0 hf H locs ls hP hD hS hl
    rw [f_X_forget_50] at hf
    refine lv_iload_n hx hb d_X_forget_50 rfl (lv_at hl 1 rfl) ?_
    refine lv_aload_n hx hb d_X_forget_51 rfl (lv_at hl 0 rfl) ?_
    refine va_get (D := x_D G) (ci := 0) (v := .ref (x_ad G 1)) (C := "ContentLibrary") (T := x_TX) (N := 9) hx hb hts x_inX hown hK hP 0 (x_lk_X G _) rfl 0 (by decide) (hts _ t_130) (fun _ h9 => h9) rfl d_X_forget_52 ?_
    refine va_get (D := x_D G) (ci := 1) (v := .int (z0.1 1 0)) (C := "ContentLibrary$Blocks") (T := x_TB) (N := 5) hx hb hts x_inB hown hK hP 1 (x_lk_B G _) rfl 0 (by decide) (hts _ t_40) (fun _ h9 => h9) rfl d_X_forget_55 ?_
    refine lv_icmp_ge (tgt := 74) hx hb d_X_forget_58 (by decide) (fun hc1 => ?_) (fun hc1 => ?_)
    · have hf := x_br_t hf hc1
      exact w_X_forget_74 l G C0 r zo z0 hf _ _ _ hP hD hS (lv_sub hl [0] rfl)
    · have hf := x_br_f hf hc1
      refine lv_aload_n hx hb d_X_forget_61 rfl (lv_at hl 0 rfl) ?_
      refine va_get (D := x_D G) (ci := 0) (v := .ref (x_ad G 4)) (C := "ContentLibrary") (T := x_TX) (N := 9) hx hb hts x_inX hown hK hP 0 (x_lk_X G _) rfl 1 (by decide) (hts _ t_131) (fun _ h9 => h9) rfl d_X_forget_62 ?_
      refine lv_iload_n hx hb d_X_forget_65 rfl (lv_at hl 1 rfl) ?_
      refine lv_iconst (v := (0 : Int32)) hx hb d_X_forget_66 (by decide) ?_
      obtain ⟨hin2, hf⟩ := x_ck_some hf
      refine va_zast hx hb hK hP hD hS 4 1 (x_lk_Z G _) rfl hin2 d_X_forget_67 (fun H locs hP hD hS => ?_)
      rw [x_st_Z G _] at hP hD
      refine lv_iinc (v := (a1 + (1 : Int32))) (lv' := [(1, .int (a1 + (1 : Int32))), (0, .ref (x_ad G 0))]) hx hb d_X_forget_68 hl (k := 1) rfl rfl (by decide) rfl (fun ls hl => ?_)
      refine lv_goto (tgt := 50) hx hb d_X_forget_71 (by decide) ?_
      exact ih (a1 + (1 : Int32)) (x_put z0 4 (a1).toNatClampNeg (vp_nar .boolean (0 : Int32))) hf _ _ _ hP hD hS (lv_sub hl [1, 0] rfl)
set_option maxHeartbeats 4000000 in
set_option maxRecDepth 100000 in
theorem w_X_forget_48 (l : Launch) (G : x_G) {p : Program} {e : Env} {s : State} {m : MethodId} {args : Array Value} {below : List Frame} {meth : Method} {c : Code} (C0 : x_Ctx G p s m args meth c prog_1_method_34_code "ContentLibrary" 2 none) (r : Unit) (zo : x_St) : ∀ (z0 : x_St), f_X_forget_48 (x_n G)  z0 = some (r, zo) → ∀ (H : Heap) (locs : List Loc) (ls : Array Slot), va_P (x_D G) vwCl (x_Wd G z0) H → va_D (x_A G) (x_Wd G z0) → va_S (x_A G) s.heap H locs → lv_has ls 2 [(0, .ref (x_ad G 0))] → W p l e rm_X_forget s m args below meth c H locs 0 0 (MQ below (va_Qv (fun u => r = () ∧ zo = u) (x_PW G) (x_A G)) args s 0 0 (x_A G)) (F0 m 48 ls []) := by
  obtain ⟨hx, hb, hr, hml, hown, hts, hlocks, hz, hK, hG⟩ := id C0
  intro  z0 hf H locs ls hP hD hS hl
  rw [f_X_forget_48] at hf
  refine lv_iconst (v := (0 : Int32)) hx hb d_X_forget_48 (by decide) ?_
  refine lv_istore_n (lv' := [(1, .int (0 : Int32)), (0, .ref (x_ad G 0))]) hx hb d_X_forget_49 rfl hl (by decide) rfl (fun ls hl => ?_)
  exact w_X_forget_50 l G C0 r zo x_FU (0 : Int32) z0 hf _ _ _ hP hD hS (lv_sub hl [1, 0] rfl)
set_option maxHeartbeats 4000000 in
set_option maxRecDepth 100000 in
theorem w_X_forget_26 (l : Launch) (G : x_G) {p : Program} {e : Env} {s : State} {m : MethodId} {args : Array Value} {below : List Frame} {meth : Method} {c : Code} (C0 : x_Ctx G p s m args meth c prog_1_method_34_code "ContentLibrary" 2 none) (r : Unit) (zo : x_St) : ∀ (fu : Nat), ∀ (a1 : Int32) (z0 : x_St), f_X_forget_26 (x_n G) fu a1 z0 = some (r, zo) → ∀ (H : Heap) (locs : List Loc) (ls : Array Slot), va_P (x_D G) vwCl (x_Wd G z0) H → va_D (x_A G) (x_Wd G z0) → va_S (x_A G) s.heap H locs → lv_has ls 2 [(0, .ref (x_ad G 0)), (1, .int a1)] → W p l e rm_X_forget s m args below meth c H locs 0 0 (MQ below (va_Qv (fun u => r = () ∧ zo = u) (x_PW G) (x_A G)) args s 0 0 (x_A G)) (F0 m 26 ls []) := by
  obtain ⟨hx, hb, hr, hml, hown, hts, hlocks, hz, hK, hG⟩ := id C0
  intro fu
  induction fu with
  | zero =>
    intro a1 z0 hf
    rw [f_X_forget_26] at hf
    cases hf
  | succ fu ih =>
    intro a1 z0 hf H locs ls hP hD hS hl
    rw [f_X_forget_26] at hf
    refine lv_iload_n hx hb d_X_forget_26 rfl (lv_at hl 1 rfl) ?_
    refine lv_bipush (v := (16 : Int32)) hx hb d_X_forget_27 (by decide) ?_
    refine lv_icmp_ge (tgt := 48) hx hb d_X_forget_29 (by decide) (fun hc3 => ?_) (fun hc3 => ?_)
    · have hf := x_br_t hf hc3
      exact w_X_forget_48 l G C0 r zo z0 hf _ _ _ hP hD hS (lv_sub hl [0] rfl)
    · have hf := x_br_f hf hc3
      refine lv_aload_n hx hb d_X_forget_32 rfl (lv_at hl 0 rfl) ?_
      refine va_get (D := x_D G) (ci := 0) (v := .ref (x_ad G 22)) (C := "ContentLibrary") (T := x_TX) (N := 9) hx hb hts x_inX hown hK hP 0 (x_lk_X G _) rfl 3 (by decide) (hts _ t_133) (fun _ h9 => h9) rfl d_X_forget_33 ?_
      refine lv_iload_n hx hb d_X_forget_36 rfl (lv_at hl 1 rfl) ?_
      obtain ⟨hin4, hf⟩ := x_ck_some hf
      refine va_aldq hx hb hK hP 22 3 (x_lk_kept G _) rfl hin4 d_X_forget_37 ?_
      refine W.eq (g2 := F0 m 38 ls [.ref (x_ad G (23 + 5 * (a1).toNatClampNeg))]) rfl ?_
      refine lv_iconst (v := (0 : Int32)) hx hb d_X_forget_38 (by decide) ?_
      refine va_put (D := x_D G) (ci := 3) (v := .int (0 : Int32)) (ty := .boolean) (C := "ContentLibrary$Kept") (T := x_TK) (N := 6) hx hb hts x_inK x_tyK x_tyK_ok x_nmK hown hK hP hD hS (23 + 5 * (a1).toNatClampNeg) (x_lk_K G _ (x_el_K hin4)) rfl 0 (by decide) (hts _ t_90) (fun _ h9 => h9) rfl (by decide +kernel) rfl rfl (Nat.le_of_ble_eq_true rfl) d_X_forget_39 (fun H locs hP hD hS => ?_)
      rw [x_st_K0 G _ (x_el_K hin4)] at hP hD
      refine lv_iinc (v := (a1 + (1 : Int32))) (lv' := [(1, .int (a1 + (1 : Int32))), (0, .ref (x_ad G 0))]) hx hb d_X_forget_42 hl (k := 1) rfl rfl (by decide) rfl (fun ls hl => ?_)
      refine lv_goto (tgt := 26) hx hb d_X_forget_45 (by decide) ?_
      exact ih (a1 + (1 : Int32)) (x_put z0 (23 + 5 * (a1).toNatClampNeg) 0 (0 : Int32)) hf _ _ _ hP hD hS (lv_sub hl [1, 0] rfl)
set_option maxHeartbeats 4000000 in
set_option maxRecDepth 100000 in
theorem w_X_forget_24 (l : Launch) (G : x_G) {p : Program} {e : Env} {s : State} {m : MethodId} {args : Array Value} {below : List Frame} {meth : Method} {c : Code} (C0 : x_Ctx G p s m args meth c prog_1_method_34_code "ContentLibrary" 2 none) (r : Unit) (zo : x_St) : ∀ (z0 : x_St), f_X_forget_24 (x_n G)  z0 = some (r, zo) → ∀ (H : Heap) (locs : List Loc) (ls : Array Slot), va_P (x_D G) vwCl (x_Wd G z0) H → va_D (x_A G) (x_Wd G z0) → va_S (x_A G) s.heap H locs → lv_has ls 2 [(0, .ref (x_ad G 0))] → W p l e rm_X_forget s m args below meth c H locs 0 0 (MQ below (va_Qv (fun u => r = () ∧ zo = u) (x_PW G) (x_A G)) args s 0 0 (x_A G)) (F0 m 24 ls []) := by
  obtain ⟨hx, hb, hr, hml, hown, hts, hlocks, hz, hK, hG⟩ := id C0
  intro  z0 hf H locs ls hP hD hS hl
  rw [f_X_forget_24] at hf
  refine lv_iconst (v := (0 : Int32)) hx hb d_X_forget_24 (by decide) ?_
  refine lv_istore_n (lv' := [(1, .int (0 : Int32)), (0, .ref (x_ad G 0))]) hx hb d_X_forget_25 rfl hl (by decide) rfl (fun ls hl => ?_)
  exact w_X_forget_26 l G C0 r zo x_FU (0 : Int32) z0 hf _ _ _ hP hD hS (lv_sub hl [1, 0] rfl)
set_option maxHeartbeats 4000000 in
set_option maxRecDepth 100000 in
theorem w_X_forget_2 (l : Launch) (G : x_G) {p : Program} {e : Env} {s : State} {m : MethodId} {args : Array Value} {below : List Frame} {meth : Method} {c : Code} (C0 : x_Ctx G p s m args meth c prog_1_method_34_code "ContentLibrary" 2 none) (r : Unit) (zo : x_St) : ∀ (fu : Nat), ∀ (a1 : Int32) (z0 : x_St), f_X_forget_2 (x_n G) fu a1 z0 = some (r, zo) → ∀ (H : Heap) (locs : List Loc) (ls : Array Slot), va_P (x_D G) vwCl (x_Wd G z0) H → va_D (x_A G) (x_Wd G z0) → va_S (x_A G) s.heap H locs → lv_has ls 2 [(0, .ref (x_ad G 0)), (1, .int a1)] → W p l e rm_X_forget s m args below meth c H locs 0 0 (MQ below (va_Qv (fun u => r = () ∧ zo = u) (x_PW G) (x_A G)) args s 0 0 (x_A G)) (F0 m 2 ls []) := by
  obtain ⟨hx, hb, hr, hml, hown, hts, hlocks, hz, hK, hG⟩ := id C0
  intro fu
  induction fu with
  | zero =>
    intro a1 z0 hf
    rw [f_X_forget_2] at hf
    cases hf
  | succ fu ih =>
    intro a1 z0 hf H locs ls hP hD hS hl
    rw [f_X_forget_2] at hf
    refine lv_iload_n hx hb d_X_forget_2 rfl (lv_at hl 1 rfl) ?_
    refine lv_bipush (v := (8 : Int32)) hx hb d_X_forget_3 (by decide) ?_
    refine lv_icmp_ge (tgt := 24) hx hb d_X_forget_5 (by decide) (fun hc5 => ?_) (fun hc5 => ?_)
    · have hf := x_br_t hf hc5
      exact w_X_forget_24 l G C0 r zo z0 hf _ _ _ hP hD hS (lv_sub hl [0] rfl)
    · have hf := x_br_f hf hc5
      refine lv_aload_n hx hb d_X_forget_8 rfl (lv_at hl 0 rfl) ?_
      refine va_get (D := x_D G) (ci := 0) (v := .ref (x_ad G 5)) (C := "ContentLibrary") (T := x_TX) (N := 9) hx hb hts x_inX hown hK hP 0 (x_lk_X G _) rfl 2 (by decide) (hts _ t_132) (fun _ h9 => h9) rfl d_X_forget_9 ?_
      refine lv_iload_n hx hb d_X_forget_12 rfl (lv_at hl 1 rfl) ?_
      obtain ⟨hin6, hf⟩ := x_ck_some hf
      refine va_aldq hx hb hK hP 5 2 (x_lk_made G _) rfl hin6 d_X_forget_13 ?_
      refine W.eq (g2 := F0 m 14 ls [.ref (x_ad G (6 + 2 * (a1).toNatClampNeg))]) rfl ?_
      refine lv_iconst (v := (0 : Int32)) hx hb d_X_forget_14 (by decide) ?_
      refine va_put (D := x_D G) (ci := 2) (v := .int (0 : Int32)) (ty := .boolean) (C := "ContentLibrary$Picture") (T := x_TP) (N := 3) hx hb hts x_inP x_tyP x_tyP_ok x_nmP hown hK hP hD hS (6 + 2 * (a1).toNatClampNeg) (x_lk_P G _ (x_el_P hin6)) rfl 0 (by decide) (hts _ t_67) (fun _ h9 => h9) rfl (by decide +kernel) rfl rfl (Nat.le_of_ble_eq_true rfl) d_X_forget_15 (fun H locs hP hD hS => ?_)
      rw [x_st_P0 G _ (x_el_P hin6)] at hP hD
      refine lv_iinc (v := (a1 + (1 : Int32))) (lv' := [(1, .int (a1 + (1 : Int32))), (0, .ref (x_ad G 0))]) hx hb d_X_forget_18 hl (k := 1) rfl rfl (by decide) rfl (fun ls hl => ?_)
      refine lv_goto (tgt := 2) hx hb d_X_forget_21 (by decide) ?_
      exact ih (a1 + (1 : Int32)) (x_put z0 (6 + 2 * (a1).toNatClampNeg) 0 (0 : Int32)) hf _ _ _ hP hD hS (lv_sub hl [1, 0] rfl)
set_option maxHeartbeats 4000000 in
set_option maxRecDepth 100000 in
theorem c_X_forget (l : Launch) (G : x_G)  (z0 : x_St) (r : Unit) (zo : x_St) (hf : f_X_forget (x_n G)  z0 = some (r, zo)) : Met l (⟨"ContentLibrary", "forget", "()V"⟩ : MethodName) (x_ws (⟨"ContentLibrary", "forget", "()V"⟩ : MethodName) prog_1_method_34_code 2 none) rm_X_forget (va_Pc [.ref (x_ad G 0)] (x_PW G z0)) (va_Qv (fun u => r = () ∧ zo = u) (x_PW G) (x_A G)) 0 0 (x_A G) := by
  refine Met.ofW (cc := prog_1_method_34_code) (maxL := 2) (ret := none) (by decide) rfl ?_
  intro p e s m args below meth c s₁ B hml hv
  obtain ⟨rfl, hz, hP, hD, hK, hG⟩ := hv
  have C0 : x_Ctx G p s m _ meth c prog_1_method_34_code "ContentLibrary" 2 none := ⟨B.exec, B.bytes, B.returns, hml, findClass_of_methodNamed B.named, fun w h => atoms_spec (ws := (x_ws (⟨"ContentLibrary", "forget", "()V"⟩ : MethodName) prog_1_method_34_code 2 none)) B.pre w (List.mem_cons_of_mem _ h), B.notSynchronized, hz, hK, hG⟩
  obtain ⟨hx, hb, hr, hml, hown, hts, hlocks, hz, hK, hG⟩ := id C0
  have hS : va_S (x_A G) s.heap s.heap [] := va_S.rf
  have hl := lv_entry ([.ref (x_ad G 0)]) (n := 2) (Nat.le_of_ble_eq_true rfl)
  rw [lg_entry_eq]
  generalize (lg_sl ([.ref (x_ad G 0)]) ++ List.replicate (2 - (lg_sl ([.ref (x_ad G 0)])).length) Slot.unset).toArray = ls at hl ⊢
  have hl : lv_has ls 2 [(0, .ref (x_ad G 0))] := hl
  rw [f_X_forget] at hf
  refine lv_iconst (v := (0 : Int32)) hx hb d_X_forget_0 (by decide) ?_
  refine lv_istore_n (lv' := [(1, .int (0 : Int32)), (0, .ref (x_ad G 0))]) hx hb d_X_forget_1 rfl hl (by decide) rfl (fun ls hl => ?_)
  exact w_X_forget_2 l G C0 r zo x_FU (0 : Int32) z0 hf _ _ _ hP hD hS (lv_sub hl [1, 0] rfl)
abbrev rm_K_hasDigest : Room := { frames := 0, cells := 0, slots := 0, locals := 0 }
set_option maxHeartbeats 4000000 in
set_option maxRecDepth 100000 in
theorem w_K_hasDigest_2 (l : Launch) (G : x_G) {p : Program} {e : Env} {s : State} {m : MethodId} {args : Array Value} {below : List Frame} {meth : Method} {c : Code} (C0 : x_Ctx G p s m args meth c prog_4_method_2_code "ContentLibrary$Kept" 3 (some .boolean)) (r : Int32) (zo : x_St) : ∀ (fu : Nat), ∀ (a0 : Nat) (ha0 : x_isK a0 = true) (a1 : Nat) (ha1 : x_isA a1 = true) (a2 : Int32) (z0 : x_St), f_K_hasDigest_2 (x_n G) fu a0 a1 a2 z0 = some (r, zo) → ∀ (H : Heap) (locs : List Loc) (ls : Array Slot), va_P (x_D G) vwCl (x_Wd G z0) H → va_D (x_A G) (x_Wd G z0) → va_S (x_A G) s.heap H locs → lv_has ls 3 [(0, .ref (x_ad G a0)), (1, .ref (x_ad G a1)), (2, .int a2)] → W p l e rm_K_hasDigest s m args below meth c H locs 0 0 (MQ below (va_Qi (fun a u => r = a ∧ zo = u) (x_PW G) (x_A G)) args s 0 0 (x_A G)) (F0 m 2 ls []) := by
  obtain ⟨hx, hb, hr, hml, hown, hts, hlocks, hz, hK, hG⟩ := id C0
  intro fu
  induction fu with
  | zero =>
    intro a0 ha0 a1 ha1 a2 z0 hf
    rw [f_K_hasDigest_2] at hf
    cases hf
  | succ fu ih =>
    intro a0 ha0 a1 ha1 a2 z0 hf H locs ls hP hD hS hl
    rw [f_K_hasDigest_2] at hf
    refine lv_iload_n hx hb d_K_hasDigest_2 rfl (lv_at hl 2 rfl) ?_
    refine lv_bipush (v := (8 : Int32)) hx hb d_K_hasDigest_3 (by decide) ?_
    refine lv_icmp_ge (tgt := 28) hx hb d_K_hasDigest_5 (by decide) (fun hc1 => ?_) (fun hc1 => ?_)
    · have hf := x_br_t hf hc1
      refine lv_iconst (v := (1 : Int32)) hx hb d_K_hasDigest_28 (by decide) ?_
      obtain ⟨rfl, rfl⟩ := x_ret hf
      exact W.zret (v := (1 : Int32)) hx hb hr rfl (fun t ht hW => ⟨⟨_, _, rfl, ⟨rfl, rfl⟩, x_pw hP hD hK hG hS hz ht hW⟩, hS.F ht⟩) hS.2.2 d_K_hasDigest_29
    · have hf := x_br_f hf hc1
      refine lv_aload_n hx hb d_K_hasDigest_8 rfl (lv_at hl 0 rfl) ?_
      refine va_get (D := x_D G) (ci := 3) (v := .ref (x_ad G (a0 + 3))) (C := "ContentLibrary$Kept") (T := x_TK) (N := 6) hx hb hts x_inK hown hK hP a0 (x_lk_K G _ ha0) rfl 2 (by decide) (hts _ t_93) (fun _ h9 => h9) rfl d_K_hasDigest_9 ?_
      refine lv_iload_n hx hb d_K_hasDigest_12 rfl (lv_at hl 2 rfl) ?_
      obtain ⟨hin2, hf⟩ := x_ck_some hf
      refine va_iald hx hb hK hP (a0 + 3) 0 (x_lk_A G _ (x_K_A3 ha0)) rfl hin2 d_K_hasDigest_13 ?_
      refine lv_aload_n hx hb d_K_hasDigest_14 rfl (lv_at hl 1 rfl) ?_
      refine lv_iload_n hx hb d_K_hasDigest_15 rfl (lv_at hl 2 rfl) ?_
      obtain ⟨hin3, hf⟩ := x_ck_some hf
      refine va_iald hx hb hK hP a1 0 (x_lk_A G _ ha1) rfl hin3 d_K_hasDigest_16 ?_
      refine lv_icmp_eq (tgt := 22) hx hb d_K_hasDigest_17 (by decide) (fun hc4 => ?_) (fun hc4 => ?_)
      · have hf := x_br_t hf hc4
        refine lv_iinc (v := (a2 + (1 : Int32))) (lv' := [(2, .int (a2 + (1 : Int32))), (0, .ref (x_ad G a0)), (1, .ref (x_ad G a1))]) hx hb d_K_hasDigest_22 hl (k := 2) rfl rfl (by decide) rfl (fun ls hl => ?_)
        refine lv_goto (tgt := 2) hx hb d_K_hasDigest_25 (by decide) ?_
        exact ih a0 ha0 a1 ha1 (a2 + (1 : Int32)) z0 hf _ _ _ hP hD hS (lv_sub hl [1, 2, 0] rfl)
      · have hf := x_br_f hf hc4
        refine lv_iconst (v := (0 : Int32)) hx hb d_K_hasDigest_20 (by decide) ?_
        obtain ⟨rfl, rfl⟩ := x_ret hf
        exact W.zret (v := (0 : Int32)) hx hb hr rfl (fun t ht hW => ⟨⟨_, _, rfl, ⟨rfl, rfl⟩, x_pw hP hD hK hG hS hz ht hW⟩, hS.F ht⟩) hS.2.2 d_K_hasDigest_21
set_option maxHeartbeats 4000000 in
set_option maxRecDepth 100000 in
theorem c_K_hasDigest (l : Launch) (G : x_G) (k0 : Nat) (hk0 : x_isK k0 = true) (k1 : Nat) (hk1 : x_isA k1 = true) (z0 : x_St) (r : Int32) (zo : x_St) (hf : f_K_hasDigest (x_n G) k0 k1 z0 = some (r, zo)) : Met l (⟨"ContentLibrary$Kept", "hasDigest", "([I)Z"⟩ : MethodName) (x_ws (⟨"ContentLibrary$Kept", "hasDigest", "([I)Z"⟩ : MethodName) prog_4_method_2_code 3 (some .boolean)) rm_K_hasDigest (va_Pc [.ref (x_ad G k0), .ref (x_ad G k1)] (x_PW G z0)) (va_Qi (fun a u => r = a ∧ zo = u) (x_PW G) (x_A G)) 0 0 (x_A G) := by
  refine Met.ofW (cc := prog_4_method_2_code) (maxL := 3) (ret := (some .boolean)) (by decide) rfl ?_
  intro p e s m args below meth c s₁ B hml hv
  obtain ⟨rfl, hz, hP, hD, hK, hG⟩ := hv
  have C0 : x_Ctx G p s m _ meth c prog_4_method_2_code "ContentLibrary$Kept" 3 (some .boolean) := ⟨B.exec, B.bytes, B.returns, hml, findClass_of_methodNamed B.named, fun w h => atoms_spec (ws := (x_ws (⟨"ContentLibrary$Kept", "hasDigest", "([I)Z"⟩ : MethodName) prog_4_method_2_code 3 (some .boolean))) B.pre w (List.mem_cons_of_mem _ h), B.notSynchronized, hz, hK, hG⟩
  obtain ⟨hx, hb, hr, hml, hown, hts, hlocks, hz, hK, hG⟩ := id C0
  have hS : va_S (x_A G) s.heap s.heap [] := va_S.rf
  have hl := lv_entry ([.ref (x_ad G k0), .ref (x_ad G k1)]) (n := 3) (Nat.le_of_ble_eq_true rfl)
  rw [lg_entry_eq]
  generalize (lg_sl ([.ref (x_ad G k0), .ref (x_ad G k1)]) ++ List.replicate (3 - (lg_sl ([.ref (x_ad G k0), .ref (x_ad G k1)])).length) Slot.unset).toArray = ls at hl ⊢
  have hl : lv_has ls 3 [(0, .ref (x_ad G k0)), (1, .ref (x_ad G k1))] := hl
  rw [f_K_hasDigest] at hf
  refine lv_iconst (v := (0 : Int32)) hx hb d_K_hasDigest_0 (by decide) ?_
  refine lv_istore_n (lv' := [(2, .int (0 : Int32)), (0, .ref (x_ad G k0)), (1, .ref (x_ad G k1))]) hx hb d_K_hasDigest_1 rfl hl (by decide) rfl (fun ls hl => ?_)
  exact w_K_hasDigest_2 l G C0 r zo x_FU k0 hk0 k1 hk1 (0 : Int32) z0 hf _ _ _ hP hD hS (lv_sub hl [1, 2, 0] rfl)
abbrev rm_X_numberWith : Room := { frames := 1, cells := 0, slots := 0, locals := 22 }
set_option maxHeartbeats 4000000 in
set_option maxRecDepth 100000 in
theorem w_X_numberWith_32 (l : Launch) (G : x_G) {p : Program} {e : Env} {s : State} {m : MethodId} {args : Array Value} {below : List Frame} {meth : Method} {c : Code} (C0 : x_Ctx G p s m args meth c prog_1_method_23_code "ContentLibrary" 4 (some .int)) (r : Int32) (zo : x_St) : ∀ (a3 : Int32) (z0 : x_St), f_X_numberWith_32 (x_n G) a3 z0 = some (r, zo) → ∀ (H : Heap) (locs : List Loc) (ls : Array Slot), va_P (x_D G) vwCl (x_Wd G z0) H → va_D (x_A G) (x_Wd G z0) → va_S (x_A G) s.heap H locs → lv_has ls 4 [(3, .int a3)] → W p l e rm_X_numberWith s m args below meth c H locs 0 0 (MQ below (va_Qi (fun a u => r = a ∧ zo = u) (x_PW G) (x_A G)) args s 0 0 (x_A G)) (F0 m 32 ls []) := by
  obtain ⟨hx, hb, hr, hml, hown, hts, hlocks, hz, hK, hG⟩ := id C0
  intro a3 z0 hf H locs ls hP hD hS hl
  rw [f_X_numberWith_32] at hf
  refine lv_iload_n hx hb d_X_numberWith_32 rfl (lv_at hl 0 rfl) ?_
  obtain ⟨rfl, rfl⟩ := x_ret hf
  exact W.iret (v := a3) hx hb hr (fun t ht hW => ⟨⟨_, _, rfl, ⟨rfl, rfl⟩, x_pw hP hD hK hG hS hz ht hW⟩, hS.F ht⟩) hS.2.2 d_X_numberWith_33
set_option maxHeartbeats 4000000 in
set_option maxRecDepth 100000 in
theorem w_X_numberWith_2 (l : Launch) (G : x_G) {p : Program} {e : Env} {s : State} {m : MethodId} {args : Array Value} {below : List Frame} {meth : Method} {c : Code} (C0 : x_Ctx G p s m args meth c prog_1_method_23_code "ContentLibrary" 4 (some .int)) (r : Int32) (zo : x_St) : ∀ (fu : Nat), ∀ (a1 : Nat) (ha1 : x_isA a1 = true) (a2 : Int32) (a3 : Int32) (z0 : x_St), f_X_numberWith_2 (x_n G) fu a1 a2 a3 z0 = some (r, zo) → ∀ (H : Heap) (locs : List Loc) (ls : Array Slot), va_P (x_D G) vwCl (x_Wd G z0) H → va_D (x_A G) (x_Wd G z0) → va_S (x_A G) s.heap H locs → lv_has ls 4 [(0, .ref (x_ad G 0)), (1, .ref (x_ad G a1)), (2, .int a2), (3, .int a3)] → W p l e rm_X_numberWith s m args below meth c H locs 0 0 (MQ below (va_Qi (fun a u => r = a ∧ zo = u) (x_PW G) (x_A G)) args s 0 0 (x_A G)) (F0 m 2 ls []) := by
  obtain ⟨hx, hb, hr, hml, hown, hts, hlocks, hz, hK, hG⟩ := id C0
  intro fu
  induction fu with
  | zero =>
    intro a1 ha1 a2 a3 z0 hf
    rw [f_X_numberWith_2] at hf
    cases hf
  | succ fu ih =>
    intro a1 ha1 a2 a3 z0 hf H locs ls hP hD hS hl
    rw [f_X_numberWith_2] at hf
    refine lv_iload_n hx hb d_X_numberWith_2 rfl (lv_at hl 3 rfl) ?_
    refine lv_iload_n hx hb d_X_numberWith_3 rfl (lv_at hl 2 rfl) ?_
    refine lv_icmp_ge (tgt := 40) hx hb d_X_numberWith_4 (by decide) (fun hc1 => ?_) (fun hc1 => ?_)
    · have hf := x_br_t hf hc1
      refine lv_iconst (v := (-1 : Int32)) hx hb d_X_numberWith_40 (by decide) ?_
      obtain ⟨rfl, rfl⟩ := x_ret hf
      exact W.iret (v := (-1 : Int32)) hx hb hr (fun t ht hW => ⟨⟨_, _, rfl, ⟨rfl, rfl⟩, x_pw hP hD hK hG hS hz ht hW⟩, hS.F ht⟩) hS.2.2 d_X_numberWith_41
    · have hf := x_br_f hf hc1
      refine lv_aload_n hx hb d_X_numberWith_7 rfl (lv_at hl 0 rfl) ?_
      refine va_get (D := x_D G) (ci := 0) (v := .ref (x_ad G 22)) (C := "ContentLibrary") (T := x_TX) (N := 9) hx hb hts x_inX hown hK hP 0 (x_lk_X G _) rfl 3 (by decide) (hts _ t_133) (fun _ h9 => h9) rfl d_X_numberWith_8 ?_
      refine lv_iload_n hx hb d_X_numberWith_11 rfl (lv_at hl 3 rfl) ?_
      obtain ⟨hin2, hf⟩ := x_ck_some hf
      refine va_aldq hx hb hK hP 22 3 (x_lk_kept G _) rfl hin2 d_X_numberWith_12 ?_
      refine W.eq (g2 := F0 m 13 ls [.ref (x_ad G (23 + 5 * (a3).toNatClampNeg))]) rfl ?_
      refine va_get (D := x_D G) (ci := 3) (v := .int (z0.1 (23 + 5 * (a3).toNatClampNeg) 0)) (C := "ContentLibrary$Kept") (T := x_TK) (N := 6) hx hb hts x_inK hown hK hP (23 + 5 * (a3).toNatClampNeg) (x_lk_K G _ (x_el_K hin2)) rfl 0 (by decide) (hts _ t_90) (fun _ h9 => h9) rfl d_X_numberWith_13 ?_
      refine lv_if_eq (tgt := 34) hx hb d_X_numberWith_16 (by decide) (fun hc3 => ?_) (fun hc3 => ?_)
      · have hf := x_br_t hf hc3
        refine lv_iinc (v := (a3 + (1 : Int32))) (lv' := [(3, .int (a3 + (1 : Int32))), (0, .ref (x_ad G 0)), (1, .ref (x_ad G a1)), (2, .int a2)]) hx hb d_X_numberWith_34 hl (k := 3) rfl rfl (by decide) rfl (fun ls hl => ?_)
        refine lv_goto (tgt := 2) hx hb d_X_numberWith_37 (by decide) ?_
        exact ih a1 ha1 a2 (a3 + (1 : Int32)) z0 hf _ _ _ hP hD hS (lv_sub hl [1, 2, 3, 0] rfl)
      · have hf := x_br_f hf hc3
        refine lv_aload_n hx hb d_X_numberWith_19 rfl (lv_at hl 0 rfl) ?_
        refine va_get (D := x_D G) (ci := 0) (v := .ref (x_ad G 22)) (C := "ContentLibrary") (T := x_TX) (N := 9) hx hb hts x_inX hown hK hP 0 (x_lk_X G _) rfl 3 (by decide) (hts _ t_133) (fun _ h9 => h9) rfl d_X_numberWith_20 ?_
        refine lv_iload_n hx hb d_X_numberWith_23 rfl (lv_at hl 3 rfl) ?_
        obtain ⟨hin4, hf⟩ := x_ck_some hf
        refine va_aldq hx hb hK hP 22 3 (x_lk_kept G _) rfl hin4 d_X_numberWith_24 ?_
        refine W.eq (g2 := F0 m 25 ls [.ref (x_ad G (23 + 5 * (a3).toNatClampNeg))]) rfl ?_
        refine lv_aload_n hx hb d_X_numberWith_25 rfl (lv_at hl 1 rfl) ?_
        obtain ⟨r5, z5, hq6, hf⟩ := x_cl_some hf
        refine va_calli (va_runV (As := [.ref (x_ad G a1)]) (rest := []) ⟨hx, hb, hml, hown, hts⟩ (c_K_hasDigest l G (23 + 5 * (a3).toNatClampNeg) (x_el_K hin4) a1 ha1 z0 r5 z5 hq6) (cwV 1 hts (x_gV t_277 t_278 t_279 t_5 t_280) rfl rfl rfl (by decide +kernel) ⟨Nat.le_of_ble_eq_true rfl, Nat.le_of_ble_eq_true rfl⟩) ⟨x_blind _ _ _, va_recv hK hP (ci := 3) (q0 := (23 + 5 * (a3).toNatClampNeg)) rfl (x_lk_K G _ (x_el_K hin4)), fun U hU hW => ⟨rfl, x_pw hP hD hK hG hS hz hU hW⟩⟩ rfl rfl hl.1 rfl (lv_room (Nat.le_of_ble_eq_true rfl)) d_X_numberWith_26 ⟨Nat.le_of_ble_eq_true rfl, Nat.le_of_ble_eq_true rfl⟩) hS (fun q _ h => h) (fun q h => h) (fun ra u t H locs ht hvm hw hB _ _ hS => ?_)
        obtain ⟨rfl, rfl⟩ := hw
        obtain ⟨hP, hD⟩ := x_back hB ht
        refine lv_if_eq (tgt := 34) hx hb d_X_numberWith_29 (by decide) (fun hc7 => ?_) (fun hc7 => ?_)
        · have hf := x_br_t hf hc7
          refine lv_iinc (v := (a3 + (1 : Int32))) (lv' := [(3, .int (a3 + (1 : Int32))), (0, .ref (x_ad G 0)), (1, .ref (x_ad G a1)), (2, .int a2)]) hx hb d_X_numberWith_34 hl (k := 3) rfl rfl (by decide) rfl (fun ls hl => ?_)
          refine lv_goto (tgt := 2) hx hb d_X_numberWith_37 (by decide) ?_
          exact ih a1 ha1 a2 (a3 + (1 : Int32)) z5 hf _ _ _ hP hD hS (lv_sub hl [1, 2, 3, 0] rfl)
        · have hf := x_br_f hf hc7
          exact w_X_numberWith_32 l G C0 r zo a3 z5 hf _ _ _ hP hD hS (lv_sub hl [3] rfl)
set_option maxHeartbeats 4000000 in
set_option maxRecDepth 100000 in
theorem c_X_numberWith (l : Launch) (G : x_G) (k1 : Nat) (hk1 : x_isA k1 = true) (p2 : Int32) (z0 : x_St) (r : Int32) (zo : x_St) (hf : f_X_numberWith (x_n G) k1 p2 z0 = some (r, zo)) : Met l (⟨"ContentLibrary", "numberWith", "([II)I"⟩ : MethodName) (x_ws (⟨"ContentLibrary", "numberWith", "([II)I"⟩ : MethodName) prog_1_method_23_code 4 (some .int)) rm_X_numberWith (va_Pc [.ref (x_ad G 0), .ref (x_ad G k1), .int p2] (x_PW G z0)) (va_Qi (fun a u => r = a ∧ zo = u) (x_PW G) (x_A G)) 0 0 (x_A G) := by
  refine Met.ofW (cc := prog_1_method_23_code) (maxL := 4) (ret := (some .int)) (by decide) rfl ?_
  intro p e s m args below meth c s₁ B hml hv
  obtain ⟨rfl, hz, hP, hD, hK, hG⟩ := hv
  have C0 : x_Ctx G p s m _ meth c prog_1_method_23_code "ContentLibrary" 4 (some .int) := ⟨B.exec, B.bytes, B.returns, hml, findClass_of_methodNamed B.named, fun w h => atoms_spec (ws := (x_ws (⟨"ContentLibrary", "numberWith", "([II)I"⟩ : MethodName) prog_1_method_23_code 4 (some .int))) B.pre w (List.mem_cons_of_mem _ h), B.notSynchronized, hz, hK, hG⟩
  obtain ⟨hx, hb, hr, hml, hown, hts, hlocks, hz, hK, hG⟩ := id C0
  have hS : va_S (x_A G) s.heap s.heap [] := va_S.rf
  have hl := lv_entry ([.ref (x_ad G 0), .ref (x_ad G k1), .int p2]) (n := 4) (Nat.le_of_ble_eq_true rfl)
  rw [lg_entry_eq]
  generalize (lg_sl ([.ref (x_ad G 0), .ref (x_ad G k1), .int p2]) ++ List.replicate (4 - (lg_sl ([.ref (x_ad G 0), .ref (x_ad G k1), .int p2])).length) Slot.unset).toArray = ls at hl ⊢
  have hl : lv_has ls 4 [(0, .ref (x_ad G 0)), (1, .ref (x_ad G k1)), (2, .int p2)] := hl
  rw [f_X_numberWith] at hf
  refine lv_iconst (v := (0 : Int32)) hx hb d_X_numberWith_0 (by decide) ?_
  refine lv_istore_n (lv' := [(3, .int (0 : Int32)), (0, .ref (x_ad G 0)), (1, .ref (x_ad G k1)), (2, .int p2)]) hx hb d_X_numberWith_1 rfl hl (by decide) rfl (fun ls hl => ?_)
  exact w_X_numberWith_2 l G C0 r zo x_FU k1 hk1 p2 (0 : Int32) z0 hf _ _ _ hP hD hS (lv_sub hl [1, 2, 3, 0] rfl)
abbrev rm_X_setUsed : Room := { frames := 0, cells := 0, slots := 0, locals := 0 }
set_option maxHeartbeats 4000000 in
set_option maxRecDepth 100000 in
theorem w_X_setUsed_2 (l : Launch) (G : x_G) {p : Program} {e : Env} {s : State} {m : MethodId} {args : Array Value} {below : List Frame} {meth : Method} {c : Code} (C0 : x_Ctx G p s m args meth c prog_1_method_28_code "ContentLibrary" 4 none) (r : Unit) (zo : x_St) : ∀ (fu : Nat), ∀ (a1 : Nat) (ha1 : x_isK a1 = true) (a2 : Int32) (a3 : Int32) (z0 : x_St), f_X_setUsed_2 (x_n G) fu a1 a2 a3 z0 = some (r, zo) → ∀ (H : Heap) (locs : List Loc) (ls : Array Slot), va_P (x_D G) vwCl (x_Wd G z0) H → va_D (x_A G) (x_Wd G z0) → va_S (x_A G) s.heap H locs → lv_has ls 4 [(0, .ref (x_ad G 0)), (1, .ref (x_ad G a1)), (2, .int a2), (3, .int a3)] → W p l e rm_X_setUsed s m args below meth c H locs 0 0 (MQ below (va_Qv (fun u => r = () ∧ zo = u) (x_PW G) (x_A G)) args s 0 0 (x_A G)) (F0 m 2 ls []) := by
  obtain ⟨hx, hb, hr, hml, hown, hts, hlocks, hz, hK, hG⟩ := id C0
  intro fu
  induction fu with
  | zero =>
    intro a1 ha1 a2 a3 z0 hf
    rw [f_X_setUsed_2] at hf
    cases hf
  | succ fu ih =>
    intro a1 ha1 a2 a3 z0 hf H locs ls hP hD hS hl
    rw [f_X_setUsed_2] at hf
    refine lv_iload_n hx hb d_X_setUsed_2 rfl (lv_at hl 3 rfl) ?_
    refine lv_aload_n hx hb d_X_setUsed_3 rfl (lv_at hl 1 rfl) ?_
    refine va_get (D := x_D G) (ci := 3) (v := .int (z0.1 a1 4)) (C := "ContentLibrary$Kept") (T := x_TK) (N := 6) hx hb hts x_inK hown hK hP a1 (x_lk_K G _ ha1) rfl 4 (by decide) (hts _ t_98) (fun _ h9 => h9) rfl d_X_setUsed_4 ?_
    refine lv_icmp_gt (tgt := 28) hx hb d_X_setUsed_7 (by decide) (fun hc1 => ?_) (fun hc1 => ?_)
    · have hf := x_br_t hf hc1
      obtain ⟨rfl, rfl⟩ := x_ret hf
      exact W.vret hx hb hr (fun t ht hW => ⟨⟨_, rfl, ⟨rfl, rfl⟩, x_pw hP hD hK hG hS hz ht hW⟩, hS.F ht⟩) hS.2.2 d_X_setUsed_28
    · have hf := x_br_f hf hc1
      refine lv_aload_n hx hb d_X_setUsed_10 rfl (lv_at hl 0 rfl) ?_
      refine va_get (D := x_D G) (ci := 0) (v := .ref (x_ad G 4)) (C := "ContentLibrary") (T := x_TX) (N := 9) hx hb hts x_inX hown hK hP 0 (x_lk_X G _) rfl 1 (by decide) (hts _ t_131) (fun _ h9 => h9) rfl d_X_setUsed_11 ?_
      refine lv_aload_n hx hb d_X_setUsed_14 rfl (lv_at hl 1 rfl) ?_
      refine va_get (D := x_D G) (ci := 3) (v := .ref (x_ad G (a1 + 4))) (C := "ContentLibrary$Kept") (T := x_TK) (N := 6) hx hb hts x_inK hown hK hP a1 (x_lk_K G _ ha1) rfl 5 (by decide) (hts _ t_100) (fun _ h9 => h9) rfl d_X_setUsed_15 ?_
      refine lv_iload_n hx hb d_X_setUsed_18 rfl (lv_at hl 3 rfl) ?_
      obtain ⟨hin2, hf⟩ := x_ck_some hf
      refine va_iald hx hb hK hP (a1 + 4) 0 (x_lk_A G _ (x_K_A4 ha1)) rfl hin2 d_X_setUsed_19 ?_
      refine lv_iload_n hx hb d_X_setUsed_20 rfl (lv_at hl 2 rfl) ?_
      obtain ⟨hin3, hf⟩ := x_ck_some hf
      refine va_zast hx hb hK hP hD hS 4 1 (x_lk_Z G _) rfl hin3 d_X_setUsed_21 (fun H locs hP hD hS => ?_)
      rw [x_st_Z G _] at hP hD
      refine lv_iinc (v := (a3 + (1 : Int32))) (lv' := [(3, .int (a3 + (1 : Int32))), (0, .ref (x_ad G 0)), (1, .ref (x_ad G a1)), (2, .int a2)]) hx hb d_X_setUsed_22 hl (k := 3) rfl rfl (by decide) rfl (fun ls hl => ?_)
      refine lv_goto (tgt := 2) hx hb d_X_setUsed_25 (by decide) ?_
      exact ih a1 ha1 a2 (a3 + (1 : Int32)) (x_put z0 4 ((z0.1 (a1 + 4) (a3).toNatClampNeg)).toNatClampNeg (vp_nar .boolean a2)) hf _ _ _ hP hD hS (lv_sub hl [1, 2, 3, 0] rfl)
set_option maxHeartbeats 4000000 in
set_option maxRecDepth 100000 in
theorem c_X_setUsed (l : Launch) (G : x_G) (k1 : Nat) (hk1 : x_isK k1 = true) (p2 : Int32) (z0 : x_St) (r : Unit) (zo : x_St) (hf : f_X_setUsed (x_n G) k1 p2 z0 = some (r, zo)) : Met l (⟨"ContentLibrary", "setUsed", "(LContentLibrary$Kept;Z)V"⟩ : MethodName) (x_ws (⟨"ContentLibrary", "setUsed", "(LContentLibrary$Kept;Z)V"⟩ : MethodName) prog_1_method_28_code 4 none) rm_X_setUsed (va_Pc [.ref (x_ad G 0), .ref (x_ad G k1), .int p2] (x_PW G z0)) (va_Qv (fun u => r = () ∧ zo = u) (x_PW G) (x_A G)) 0 0 (x_A G) := by
  refine Met.ofW (cc := prog_1_method_28_code) (maxL := 4) (ret := none) (by decide) rfl ?_
  intro p e s m args below meth c s₁ B hml hv
  obtain ⟨rfl, hz, hP, hD, hK, hG⟩ := hv
  have C0 : x_Ctx G p s m _ meth c prog_1_method_28_code "ContentLibrary" 4 none := ⟨B.exec, B.bytes, B.returns, hml, findClass_of_methodNamed B.named, fun w h => atoms_spec (ws := (x_ws (⟨"ContentLibrary", "setUsed", "(LContentLibrary$Kept;Z)V"⟩ : MethodName) prog_1_method_28_code 4 none)) B.pre w (List.mem_cons_of_mem _ h), B.notSynchronized, hz, hK, hG⟩
  obtain ⟨hx, hb, hr, hml, hown, hts, hlocks, hz, hK, hG⟩ := id C0
  have hS : va_S (x_A G) s.heap s.heap [] := va_S.rf
  have hl := lv_entry ([.ref (x_ad G 0), .ref (x_ad G k1), .int p2]) (n := 4) (Nat.le_of_ble_eq_true rfl)
  rw [lg_entry_eq]
  generalize (lg_sl ([.ref (x_ad G 0), .ref (x_ad G k1), .int p2]) ++ List.replicate (4 - (lg_sl ([.ref (x_ad G 0), .ref (x_ad G k1), .int p2])).length) Slot.unset).toArray = ls at hl ⊢
  have hl : lv_has ls 4 [(0, .ref (x_ad G 0)), (1, .ref (x_ad G k1)), (2, .int p2)] := hl
  rw [f_X_setUsed] at hf
  refine lv_iconst (v := (0 : Int32)) hx hb d_X_setUsed_0 (by decide) ?_
  refine lv_istore_n (lv' := [(3, .int (0 : Int32)), (0, .ref (x_ad G 0)), (1, .ref (x_ad G k1)), (2, .int p2)]) hx hb d_X_setUsed_1 rfl hl (by decide) rfl (fun ls hl => ?_)
  exact w_X_setUsed_2 l G C0 r zo x_FU k1 hk1 p2 (0 : Int32) z0 hf _ _ _ hP hD hS (lv_sub hl [1, 2, 3, 0] rfl)
abbrev rm_X_countKept : Room := { frames := 0, cells := 0, slots := 0, locals := 0 }
set_option maxHeartbeats 4000000 in
set_option maxRecDepth 100000 in
theorem w_X_countKept_36 (l : Launch) (G : x_G) {p : Program} {e : Env} {s : State} {m : MethodId} {args : Array Value} {below : List Frame} {meth : Method} {c : Code} (C0 : x_Ctx G p s m args meth c prog_1_method_36_code "ContentLibrary" 3 (some .int)) (r : Int32) (zo : x_St) : ∀ (a1 : Int32) (z0 : x_St), f_X_countKept_36 (x_n G) a1 z0 = some (r, zo) → ∀ (H : Heap) (locs : List Loc) (ls : Array Slot), va_P (x_D G) vwCl (x_Wd G z0) H → va_D (x_A G) (x_Wd G z0) → va_S (x_A G) s.heap H locs → lv_has ls 3 [(1, .int a1)] → W p l e rm_X_countKept s m args below meth c H locs 0 0 (MQ below (va_Qi (fun a u => r = a ∧ zo = u) (x_PW G) (x_A G)) args s 0 0 (x_A G)) (F0 m 36 ls []) := by
  obtain ⟨hx, hb, hr, hml, hown, hts, hlocks, hz, hK, hG⟩ := id C0
  intro a1 z0 hf H locs ls hP hD hS hl
  rw [f_X_countKept_36] at hf
  refine lv_iload_n hx hb d_X_countKept_36 rfl (lv_at hl 0 rfl) ?_
  obtain ⟨rfl, rfl⟩ := x_ret hf
  exact W.iret (v := a1) hx hb hr (fun t ht hW => ⟨⟨_, _, rfl, ⟨rfl, rfl⟩, x_pw hP hD hK hG hS hz ht hW⟩, hS.F ht⟩) hS.2.2 d_X_countKept_37
set_option maxHeartbeats 4000000 in
set_option maxRecDepth 100000 in
theorem w_X_countKept_4 (l : Launch) (G : x_G) {p : Program} {e : Env} {s : State} {m : MethodId} {args : Array Value} {below : List Frame} {meth : Method} {c : Code} (C0 : x_Ctx G p s m args meth c prog_1_method_36_code "ContentLibrary" 3 (some .int)) (r : Int32) (zo : x_St) : ∀ (fu : Nat), ∀ (a1 : Int32) (a2 : Int32) (z0 : x_St), f_X_countKept_4 (x_n G) fu a1 a2 z0 = some (r, zo) → ∀ (H : Heap) (locs : List Loc) (ls : Array Slot), va_P (x_D G) vwCl (x_Wd G z0) H → va_D (x_A G) (x_Wd G z0) → va_S (x_A G) s.heap H locs → lv_has ls 3 [(0, .ref (x_ad G 0)), (1, .int a1), (2, .int a2)] → W p l e rm_X_countKept s m args below meth c H locs 0 0 (MQ below (va_Qi (fun a u => r = a ∧ zo = u) (x_PW G) (x_A G)) args s 0 0 (x_A G)) (F0 m 4 ls []) := by
  obtain ⟨hx, hb, hr, hml, hown, hts, hlocks, hz, hK, hG⟩ := id C0
  intro fu
  induction fu with
  | zero =>
    intro a1 a2 z0 hf
    rw [f_X_countKept_4] at hf
    cases hf
  | succ fu ih =>
    intro a1 a2 z0 hf H locs ls hP hD hS hl
    rw [f_X_countKept_4] at hf
    refine lv_iload_n hx hb d_X_countKept_4 rfl (lv_at hl 2 rfl) ?_
    refine lv_bipush (v := (16 : Int32)) hx hb d_X_countKept_5 (by decide) ?_
    refine lv_icmp_ge (tgt := 36) hx hb d_X_countKept_7 (by decide) (fun hc1 => ?_) (fun hc1 => ?_)
    · have hf := x_br_t hf hc1
      exact w_X_countKept_36 l G C0 r zo a1 z0 hf _ _ _ hP hD hS (lv_sub hl [1] rfl)
    · have hf := x_br_f hf hc1
      refine lv_iload_n hx hb d_X_countKept_10 rfl (lv_at hl 1 rfl) ?_
      refine lv_aload_n hx hb d_X_countKept_11 rfl (lv_at hl 0 rfl) ?_
      refine va_get (D := x_D G) (ci := 0) (v := .ref (x_ad G 22)) (C := "ContentLibrary") (T := x_TX) (N := 9) hx hb hts x_inX hown hK hP 0 (x_lk_X G _) rfl 3 (by decide) (hts _ t_133) (fun _ h9 => h9) rfl d_X_countKept_12 ?_
      refine lv_iload_n hx hb d_X_countKept_15 rfl (lv_at hl 2 rfl) ?_
      obtain ⟨hin2, hf⟩ := x_ck_some hf
      refine va_aldq hx hb hK hP 22 3 (x_lk_kept G _) rfl hin2 d_X_countKept_16 ?_
      refine W.eq (g2 := F0 m 17 ls [.ref (x_ad G (23 + 5 * (a2).toNatClampNeg)), .int a1]) rfl ?_
      refine va_get (D := x_D G) (ci := 3) (v := .int (z0.1 (23 + 5 * (a2).toNatClampNeg) 0)) (C := "ContentLibrary$Kept") (T := x_TK) (N := 6) hx hb hts x_inK hown hK hP (23 + 5 * (a2).toNatClampNeg) (x_lk_K G _ (x_el_K hin2)) rfl 0 (by decide) (hts _ t_90) (fun _ h9 => h9) rfl d_X_countKept_17 ?_
      refine lv_if_eq (tgt := 27) hx hb d_X_countKept_20 (by decide) (fun hc3 => ?_) (fun hc3 => ?_)
      · have hf := x_br_t hf hc3
        refine lv_iconst (v := (0 : Int32)) hx hb d_X_countKept_27 (by decide) ?_
        refine lv_iadd hx hb d_X_countKept_28 ?_
        refine lv_istore_n (lv' := [(1, .int (a1 + (0 : Int32))), (0, .ref (x_ad G 0)), (2, .int a2)]) hx hb d_X_countKept_29 rfl hl (by decide) rfl (fun ls hl => ?_)
        refine lv_iinc (v := (a2 + (1 : Int32))) (lv' := [(2, .int (a2 + (1 : Int32))), (1, .int (a1 + (0 : Int32))), (0, .ref (x_ad G 0))]) hx hb d_X_countKept_30 hl (k := 2) rfl rfl (by decide) rfl (fun ls hl => ?_)
        refine lv_goto (tgt := 4) hx hb d_X_countKept_33 (by decide) ?_
        exact ih (a1 + (0 : Int32)) (a2 + (1 : Int32)) z0 hf _ _ _ hP hD hS (lv_sub hl [2, 1, 0] rfl)
      · have hf := x_br_f hf hc3
        refine lv_iconst (v := (1 : Int32)) hx hb d_X_countKept_23 (by decide) ?_
        refine lv_goto (tgt := 28) hx hb d_X_countKept_24 (by decide) ?_
        refine lv_iadd hx hb d_X_countKept_28 ?_
        refine lv_istore_n (lv' := [(1, .int (a1 + (1 : Int32))), (0, .ref (x_ad G 0)), (2, .int a2)]) hx hb d_X_countKept_29 rfl hl (by decide) rfl (fun ls hl => ?_)
        refine lv_iinc (v := (a2 + (1 : Int32))) (lv' := [(2, .int (a2 + (1 : Int32))), (1, .int (a1 + (1 : Int32))), (0, .ref (x_ad G 0))]) hx hb d_X_countKept_30 hl (k := 2) rfl rfl (by decide) rfl (fun ls hl => ?_)
        refine lv_goto (tgt := 4) hx hb d_X_countKept_33 (by decide) ?_
        exact ih (a1 + (1 : Int32)) (a2 + (1 : Int32)) z0 hf _ _ _ hP hD hS (lv_sub hl [2, 1, 0] rfl)
set_option maxHeartbeats 4000000 in
set_option maxRecDepth 100000 in
theorem c_X_countKept (l : Launch) (G : x_G)  (z0 : x_St) (r : Int32) (zo : x_St) (hf : f_X_countKept (x_n G)  z0 = some (r, zo)) : Met l (⟨"ContentLibrary", "countKept", "()I"⟩ : MethodName) (x_ws (⟨"ContentLibrary", "countKept", "()I"⟩ : MethodName) prog_1_method_36_code 3 (some .int)) rm_X_countKept (va_Pc [.ref (x_ad G 0)] (x_PW G z0)) (va_Qi (fun a u => r = a ∧ zo = u) (x_PW G) (x_A G)) 0 0 (x_A G) := by
  refine Met.ofW (cc := prog_1_method_36_code) (maxL := 3) (ret := (some .int)) (by decide) rfl ?_
  intro p e s m args below meth c s₁ B hml hv
  obtain ⟨rfl, hz, hP, hD, hK, hG⟩ := hv
  have C0 : x_Ctx G p s m _ meth c prog_1_method_36_code "ContentLibrary" 3 (some .int) := ⟨B.exec, B.bytes, B.returns, hml, findClass_of_methodNamed B.named, fun w h => atoms_spec (ws := (x_ws (⟨"ContentLibrary", "countKept", "()I"⟩ : MethodName) prog_1_method_36_code 3 (some .int))) B.pre w (List.mem_cons_of_mem _ h), B.notSynchronized, hz, hK, hG⟩
  obtain ⟨hx, hb, hr, hml, hown, hts, hlocks, hz, hK, hG⟩ := id C0
  have hS : va_S (x_A G) s.heap s.heap [] := va_S.rf
  have hl := lv_entry ([.ref (x_ad G 0)]) (n := 3) (Nat.le_of_ble_eq_true rfl)
  rw [lg_entry_eq]
  generalize (lg_sl ([.ref (x_ad G 0)]) ++ List.replicate (3 - (lg_sl ([.ref (x_ad G 0)])).length) Slot.unset).toArray = ls at hl ⊢
  have hl : lv_has ls 3 [(0, .ref (x_ad G 0))] := hl
  rw [f_X_countKept] at hf
  refine lv_iconst (v := (0 : Int32)) hx hb d_X_countKept_0 (by decide) ?_
  refine lv_istore_n (lv' := [(1, .int (0 : Int32)), (0, .ref (x_ad G 0))]) hx hb d_X_countKept_1 rfl hl (by decide) rfl (fun ls hl => ?_)
  refine lv_iconst (v := (0 : Int32)) hx hb d_X_countKept_2 (by decide) ?_
  refine lv_istore_n (lv' := [(2, .int (0 : Int32)), (1, .int (0 : Int32)), (0, .ref (x_ad G 0))]) hx hb d_X_countKept_3 rfl hl (by decide) rfl (fun ls hl => ?_)
  exact w_X_countKept_4 l G C0 r zo x_FU (0 : Int32) (0 : Int32) z0 hf _ _ _ hP hD hS (lv_sub hl [2, 1, 0] rfl)
abbrev rm_X_countFreeBlocks : Room := { frames := 0, cells := 0, slots := 0, locals := 0 }
set_option maxHeartbeats 4000000 in
set_option maxRecDepth 100000 in
theorem w_X_countFreeBlocks_38 (l : Launch) (G : x_G) {p : Program} {e : Env} {s : State} {m : MethodId} {args : Array Value} {below : List Frame} {meth : Method} {c : Code} (C0 : x_Ctx G p s m args meth c prog_1_method_35_code "ContentLibrary" 3 (some .int)) (r : Int32) (zo : x_St) : ∀ (a1 : Int32) (z0 : x_St), f_X_countFreeBlocks_38 (x_n G) a1 z0 = some (r, zo) → ∀ (H : Heap) (locs : List Loc) (ls : Array Slot), va_P (x_D G) vwCl (x_Wd G z0) H → va_D (x_A G) (x_Wd G z0) → va_S (x_A G) s.heap H locs → lv_has ls 3 [(1, .int a1)] → W p l e rm_X_countFreeBlocks s m args below meth c H locs 0 0 (MQ below (va_Qi (fun a u => r = a ∧ zo = u) (x_PW G) (x_A G)) args s 0 0 (x_A G)) (F0 m 38 ls []) := by
  obtain ⟨hx, hb, hr, hml, hown, hts, hlocks, hz, hK, hG⟩ := id C0
  intro a1 z0 hf H locs ls hP hD hS hl
  rw [f_X_countFreeBlocks_38] at hf
  refine lv_iload_n hx hb d_X_countFreeBlocks_38 rfl (lv_at hl 0 rfl) ?_
  obtain ⟨rfl, rfl⟩ := x_ret hf
  exact W.iret (v := a1) hx hb hr (fun t ht hW => ⟨⟨_, _, rfl, ⟨rfl, rfl⟩, x_pw hP hD hK hG hS hz ht hW⟩, hS.F ht⟩) hS.2.2 d_X_countFreeBlocks_39
set_option maxHeartbeats 4000000 in
set_option maxRecDepth 100000 in
theorem w_X_countFreeBlocks_4 (l : Launch) (G : x_G) {p : Program} {e : Env} {s : State} {m : MethodId} {args : Array Value} {below : List Frame} {meth : Method} {c : Code} (C0 : x_Ctx G p s m args meth c prog_1_method_35_code "ContentLibrary" 3 (some .int)) (r : Int32) (zo : x_St) : ∀ (fu : Nat), ∀ (a1 : Int32) (a2 : Int32) (z0 : x_St), f_X_countFreeBlocks_4 (x_n G) fu a1 a2 z0 = some (r, zo) → ∀ (H : Heap) (locs : List Loc) (ls : Array Slot), va_P (x_D G) vwCl (x_Wd G z0) H → va_D (x_A G) (x_Wd G z0) → va_S (x_A G) s.heap H locs → lv_has ls 3 [(0, .ref (x_ad G 0)), (1, .int a1), (2, .int a2)] → W p l e rm_X_countFreeBlocks s m args below meth c H locs 0 0 (MQ below (va_Qi (fun a u => r = a ∧ zo = u) (x_PW G) (x_A G)) args s 0 0 (x_A G)) (F0 m 4 ls []) := by
  obtain ⟨hx, hb, hr, hml, hown, hts, hlocks, hz, hK, hG⟩ := id C0
  intro fu
  induction fu with
  | zero =>
    intro a1 a2 z0 hf
    rw [f_X_countFreeBlocks_4] at hf
    cases hf
  | succ fu ih =>
    intro a1 a2 z0 hf H locs ls hP hD hS hl
    rw [f_X_countFreeBlocks_4] at hf
    refine lv_iload_n hx hb d_X_countFreeBlocks_4 rfl (lv_at hl 2 rfl) ?_
    refine lv_aload_n hx hb d_X_countFreeBlocks_5 rfl (lv_at hl 0 rfl) ?_
    refine va_get (D := x_D G) (ci := 0) (v := .ref (x_ad G 1)) (C := "ContentLibrary") (T := x_TX) (N := 9) hx hb hts x_inX hown hK hP 0 (x_lk_X G _) rfl 0 (by decide) (hts _ t_130) (fun _ h9 => h9) rfl d_X_countFreeBlocks_6 ?_
    refine va_get (D := x_D G) (ci := 1) (v := .int (z0.1 1 0)) (C := "ContentLibrary$Blocks") (T := x_TB) (N := 5) hx hb hts x_inB hown hK hP 1 (x_lk_B G _) rfl 0 (by decide) (hts _ t_40) (fun _ h9 => h9) rfl d_X_countFreeBlocks_9 ?_
    refine lv_icmp_ge (tgt := 38) hx hb d_X_countFreeBlocks_12 (by decide) (fun hc1 => ?_) (fun hc1 => ?_)
    · have hf := x_br_t hf hc1
      exact w_X_countFreeBlocks_38 l G C0 r zo a1 z0 hf _ _ _ hP hD hS (lv_sub hl [1] rfl)
    · have hf := x_br_f hf hc1
      refine lv_iload_n hx hb d_X_countFreeBlocks_15 rfl (lv_at hl 1 rfl) ?_
      refine lv_aload_n hx hb d_X_countFreeBlocks_16 rfl (lv_at hl 0 rfl) ?_
      refine va_get (D := x_D G) (ci := 0) (v := .ref (x_ad G 4)) (C := "ContentLibrary") (T := x_TX) (N := 9) hx hb hts x_inX hown hK hP 0 (x_lk_X G _) rfl 1 (by decide) (hts _ t_131) (fun _ h9 => h9) rfl d_X_countFreeBlocks_17 ?_
      refine lv_iload_n hx hb d_X_countFreeBlocks_20 rfl (lv_at hl 2 rfl) ?_
      obtain ⟨hin2, hf⟩ := x_ck_some hf
      refine va_zald hx hb hK hP 4 1 (x_lk_Z G _) rfl hin2 d_X_countFreeBlocks_21 ?_
      refine lv_if_eq (tgt := 29) hx hb d_X_countFreeBlocks_22 (by decide) (fun hc3 => ?_) (fun hc3 => ?_)
      · have hf := x_br_t hf hc3
        refine lv_iconst (v := (1 : Int32)) hx hb d_X_countFreeBlocks_29 (by decide) ?_
        refine lv_iadd hx hb d_X_countFreeBlocks_30 ?_
        refine lv_istore_n (lv' := [(1, .int (a1 + (1 : Int32))), (0, .ref (x_ad G 0)), (2, .int a2)]) hx hb d_X_countFreeBlocks_31 rfl hl (by decide) rfl (fun ls hl => ?_)
        refine lv_iinc (v := (a2 + (1 : Int32))) (lv' := [(2, .int (a2 + (1 : Int32))), (1, .int (a1 + (1 : Int32))), (0, .ref (x_ad G 0))]) hx hb d_X_countFreeBlocks_32 hl (k := 2) rfl rfl (by decide) rfl (fun ls hl => ?_)
        refine lv_goto (tgt := 4) hx hb d_X_countFreeBlocks_35 (by decide) ?_
        exact ih (a1 + (1 : Int32)) (a2 + (1 : Int32)) z0 hf _ _ _ hP hD hS (lv_sub hl [2, 1, 0] rfl)
      · have hf := x_br_f hf hc3
        refine lv_iconst (v := (0 : Int32)) hx hb d_X_countFreeBlocks_25 (by decide) ?_
        refine lv_goto (tgt := 30) hx hb d_X_countFreeBlocks_26 (by decide) ?_
        refine lv_iadd hx hb d_X_countFreeBlocks_30 ?_
        refine lv_istore_n (lv' := [(1, .int (a1 + (0 : Int32))), (0, .ref (x_ad G 0)), (2, .int a2)]) hx hb d_X_countFreeBlocks_31 rfl hl (by decide) rfl (fun ls hl => ?_)
        refine lv_iinc (v := (a2 + (1 : Int32))) (lv' := [(2, .int (a2 + (1 : Int32))), (1, .int (a1 + (0 : Int32))), (0, .ref (x_ad G 0))]) hx hb d_X_countFreeBlocks_32 hl (k := 2) rfl rfl (by decide) rfl (fun ls hl => ?_)
        refine lv_goto (tgt := 4) hx hb d_X_countFreeBlocks_35 (by decide) ?_
        exact ih (a1 + (0 : Int32)) (a2 + (1 : Int32)) z0 hf _ _ _ hP hD hS (lv_sub hl [2, 1, 0] rfl)
set_option maxHeartbeats 4000000 in
set_option maxRecDepth 100000 in
theorem c_X_countFreeBlocks (l : Launch) (G : x_G)  (z0 : x_St) (r : Int32) (zo : x_St) (hf : f_X_countFreeBlocks (x_n G)  z0 = some (r, zo)) : Met l (⟨"ContentLibrary", "countFreeBlocks", "()I"⟩ : MethodName) (x_ws (⟨"ContentLibrary", "countFreeBlocks", "()I"⟩ : MethodName) prog_1_method_35_code 3 (some .int)) rm_X_countFreeBlocks (va_Pc [.ref (x_ad G 0)] (x_PW G z0)) (va_Qi (fun a u => r = a ∧ zo = u) (x_PW G) (x_A G)) 0 0 (x_A G) := by
  refine Met.ofW (cc := prog_1_method_35_code) (maxL := 3) (ret := (some .int)) (by decide) rfl ?_
  intro p e s m args below meth c s₁ B hml hv
  obtain ⟨rfl, hz, hP, hD, hK, hG⟩ := hv
  have C0 : x_Ctx G p s m _ meth c prog_1_method_35_code "ContentLibrary" 3 (some .int) := ⟨B.exec, B.bytes, B.returns, hml, findClass_of_methodNamed B.named, fun w h => atoms_spec (ws := (x_ws (⟨"ContentLibrary", "countFreeBlocks", "()I"⟩ : MethodName) prog_1_method_35_code 3 (some .int))) B.pre w (List.mem_cons_of_mem _ h), B.notSynchronized, hz, hK, hG⟩
  obtain ⟨hx, hb, hr, hml, hown, hts, hlocks, hz, hK, hG⟩ := id C0
  have hS : va_S (x_A G) s.heap s.heap [] := va_S.rf
  have hl := lv_entry ([.ref (x_ad G 0)]) (n := 3) (Nat.le_of_ble_eq_true rfl)
  rw [lg_entry_eq]
  generalize (lg_sl ([.ref (x_ad G 0)]) ++ List.replicate (3 - (lg_sl ([.ref (x_ad G 0)])).length) Slot.unset).toArray = ls at hl ⊢
  have hl : lv_has ls 3 [(0, .ref (x_ad G 0))] := hl
  rw [f_X_countFreeBlocks] at hf
  refine lv_iconst (v := (0 : Int32)) hx hb d_X_countFreeBlocks_0 (by decide) ?_
  refine lv_istore_n (lv' := [(1, .int (0 : Int32)), (0, .ref (x_ad G 0))]) hx hb d_X_countFreeBlocks_1 rfl hl (by decide) rfl (fun ls hl => ?_)
  refine lv_iconst (v := (0 : Int32)) hx hb d_X_countFreeBlocks_2 (by decide) ?_
  refine lv_istore_n (lv' := [(2, .int (0 : Int32)), (1, .int (0 : Int32)), (0, .ref (x_ad G 0))]) hx hb d_X_countFreeBlocks_3 rfl hl (by decide) rfl (fun ls hl => ?_)
  exact w_X_countFreeBlocks_4 l G C0 r zo x_FU (0 : Int32) (0 : Int32) z0 hf _ _ _ hP hD hS (lv_sub hl [2, 1, 0] rfl)
abbrev rm_X_countMade : Room := { frames := 0, cells := 0, slots := 0, locals := 0 }
set_option maxHeartbeats 4000000 in
set_option maxRecDepth 100000 in
theorem w_X_countMade_36 (l : Launch) (G : x_G) {p : Program} {e : Env} {s : State} {m : MethodId} {args : Array Value} {below : List Frame} {meth : Method} {c : Code} (C0 : x_Ctx G p s m args meth c prog_1_method_37_code "ContentLibrary" 3 (some .int)) (r : Int32) (zo : x_St) : ∀ (a1 : Int32) (z0 : x_St), f_X_countMade_36 (x_n G) a1 z0 = some (r, zo) → ∀ (H : Heap) (locs : List Loc) (ls : Array Slot), va_P (x_D G) vwCl (x_Wd G z0) H → va_D (x_A G) (x_Wd G z0) → va_S (x_A G) s.heap H locs → lv_has ls 3 [(1, .int a1)] → W p l e rm_X_countMade s m args below meth c H locs 0 0 (MQ below (va_Qi (fun a u => r = a ∧ zo = u) (x_PW G) (x_A G)) args s 0 0 (x_A G)) (F0 m 36 ls []) := by
  obtain ⟨hx, hb, hr, hml, hown, hts, hlocks, hz, hK, hG⟩ := id C0
  intro a1 z0 hf H locs ls hP hD hS hl
  rw [f_X_countMade_36] at hf
  refine lv_iload_n hx hb d_X_countMade_36 rfl (lv_at hl 0 rfl) ?_
  obtain ⟨rfl, rfl⟩ := x_ret hf
  exact W.iret (v := a1) hx hb hr (fun t ht hW => ⟨⟨_, _, rfl, ⟨rfl, rfl⟩, x_pw hP hD hK hG hS hz ht hW⟩, hS.F ht⟩) hS.2.2 d_X_countMade_37
set_option maxHeartbeats 4000000 in
set_option maxRecDepth 100000 in
theorem w_X_countMade_4 (l : Launch) (G : x_G) {p : Program} {e : Env} {s : State} {m : MethodId} {args : Array Value} {below : List Frame} {meth : Method} {c : Code} (C0 : x_Ctx G p s m args meth c prog_1_method_37_code "ContentLibrary" 3 (some .int)) (r : Int32) (zo : x_St) : ∀ (fu : Nat), ∀ (a1 : Int32) (a2 : Int32) (z0 : x_St), f_X_countMade_4 (x_n G) fu a1 a2 z0 = some (r, zo) → ∀ (H : Heap) (locs : List Loc) (ls : Array Slot), va_P (x_D G) vwCl (x_Wd G z0) H → va_D (x_A G) (x_Wd G z0) → va_S (x_A G) s.heap H locs → lv_has ls 3 [(0, .ref (x_ad G 0)), (1, .int a1), (2, .int a2)] → W p l e rm_X_countMade s m args below meth c H locs 0 0 (MQ below (va_Qi (fun a u => r = a ∧ zo = u) (x_PW G) (x_A G)) args s 0 0 (x_A G)) (F0 m 4 ls []) := by
  obtain ⟨hx, hb, hr, hml, hown, hts, hlocks, hz, hK, hG⟩ := id C0
  intro fu
  induction fu with
  | zero =>
    intro a1 a2 z0 hf
    rw [f_X_countMade_4] at hf
    cases hf
  | succ fu ih =>
    intro a1 a2 z0 hf H locs ls hP hD hS hl
    rw [f_X_countMade_4] at hf
    refine lv_iload_n hx hb d_X_countMade_4 rfl (lv_at hl 2 rfl) ?_
    refine lv_bipush (v := (8 : Int32)) hx hb d_X_countMade_5 (by decide) ?_
    refine lv_icmp_ge (tgt := 36) hx hb d_X_countMade_7 (by decide) (fun hc1 => ?_) (fun hc1 => ?_)
    · have hf := x_br_t hf hc1
      exact w_X_countMade_36 l G C0 r zo a1 z0 hf _ _ _ hP hD hS (lv_sub hl [1] rfl)
    · have hf := x_br_f hf hc1
      refine lv_iload_n hx hb d_X_countMade_10 rfl (lv_at hl 1 rfl) ?_
      refine lv_aload_n hx hb d_X_countMade_11 rfl (lv_at hl 0 rfl) ?_
      refine va_get (D := x_D G) (ci := 0) (v := .ref (x_ad G 5)) (C := "ContentLibrary") (T := x_TX) (N := 9) hx hb hts x_inX hown hK hP 0 (x_lk_X G _) rfl 2 (by decide) (hts _ t_132) (fun _ h9 => h9) rfl d_X_countMade_12 ?_
      refine lv_iload_n hx hb d_X_countMade_15 rfl (lv_at hl 2 rfl) ?_
      obtain ⟨hin2, hf⟩ := x_ck_some hf
      refine va_aldq hx hb hK hP 5 2 (x_lk_made G _) rfl hin2 d_X_countMade_16 ?_
      refine W.eq (g2 := F0 m 17 ls [.ref (x_ad G (6 + 2 * (a2).toNatClampNeg)), .int a1]) rfl ?_
      refine va_get (D := x_D G) (ci := 2) (v := .int (z0.1 (6 + 2 * (a2).toNatClampNeg) 0)) (C := "ContentLibrary$Picture") (T := x_TP) (N := 3) hx hb hts x_inP hown hK hP (6 + 2 * (a2).toNatClampNeg) (x_lk_P G _ (x_el_P hin2)) rfl 0 (by decide) (hts _ t_67) (fun _ h9 => h9) rfl d_X_countMade_17 ?_
      refine lv_if_eq (tgt := 27) hx hb d_X_countMade_20 (by decide) (fun hc3 => ?_) (fun hc3 => ?_)
      · have hf := x_br_t hf hc3
        refine lv_iconst (v := (0 : Int32)) hx hb d_X_countMade_27 (by decide) ?_
        refine lv_iadd hx hb d_X_countMade_28 ?_
        refine lv_istore_n (lv' := [(1, .int (a1 + (0 : Int32))), (0, .ref (x_ad G 0)), (2, .int a2)]) hx hb d_X_countMade_29 rfl hl (by decide) rfl (fun ls hl => ?_)
        refine lv_iinc (v := (a2 + (1 : Int32))) (lv' := [(2, .int (a2 + (1 : Int32))), (1, .int (a1 + (0 : Int32))), (0, .ref (x_ad G 0))]) hx hb d_X_countMade_30 hl (k := 2) rfl rfl (by decide) rfl (fun ls hl => ?_)
        refine lv_goto (tgt := 4) hx hb d_X_countMade_33 (by decide) ?_
        exact ih (a1 + (0 : Int32)) (a2 + (1 : Int32)) z0 hf _ _ _ hP hD hS (lv_sub hl [2, 1, 0] rfl)
      · have hf := x_br_f hf hc3
        refine lv_iconst (v := (1 : Int32)) hx hb d_X_countMade_23 (by decide) ?_
        refine lv_goto (tgt := 28) hx hb d_X_countMade_24 (by decide) ?_
        refine lv_iadd hx hb d_X_countMade_28 ?_
        refine lv_istore_n (lv' := [(1, .int (a1 + (1 : Int32))), (0, .ref (x_ad G 0)), (2, .int a2)]) hx hb d_X_countMade_29 rfl hl (by decide) rfl (fun ls hl => ?_)
        refine lv_iinc (v := (a2 + (1 : Int32))) (lv' := [(2, .int (a2 + (1 : Int32))), (1, .int (a1 + (1 : Int32))), (0, .ref (x_ad G 0))]) hx hb d_X_countMade_30 hl (k := 2) rfl rfl (by decide) rfl (fun ls hl => ?_)
        refine lv_goto (tgt := 4) hx hb d_X_countMade_33 (by decide) ?_
        exact ih (a1 + (1 : Int32)) (a2 + (1 : Int32)) z0 hf _ _ _ hP hD hS (lv_sub hl [2, 1, 0] rfl)
set_option maxHeartbeats 4000000 in
set_option maxRecDepth 100000 in
theorem c_X_countMade (l : Launch) (G : x_G)  (z0 : x_St) (r : Int32) (zo : x_St) (hf : f_X_countMade (x_n G)  z0 = some (r, zo)) : Met l (⟨"ContentLibrary", "countMade", "()I"⟩ : MethodName) (x_ws (⟨"ContentLibrary", "countMade", "()I"⟩ : MethodName) prog_1_method_37_code 3 (some .int)) rm_X_countMade (va_Pc [.ref (x_ad G 0)] (x_PW G z0)) (va_Qi (fun a u => r = a ∧ zo = u) (x_PW G) (x_A G)) 0 0 (x_A G) := by
  refine Met.ofW (cc := prog_1_method_37_code) (maxL := 3) (ret := (some .int)) (by decide) rfl ?_
  intro p e s m args below meth c s₁ B hml hv
  obtain ⟨rfl, hz, hP, hD, hK, hG⟩ := hv
  have C0 : x_Ctx G p s m _ meth c prog_1_method_37_code "ContentLibrary" 3 (some .int) := ⟨B.exec, B.bytes, B.returns, hml, findClass_of_methodNamed B.named, fun w h => atoms_spec (ws := (x_ws (⟨"ContentLibrary", "countMade", "()I"⟩ : MethodName) prog_1_method_37_code 3 (some .int))) B.pre w (List.mem_cons_of_mem _ h), B.notSynchronized, hz, hK, hG⟩
  obtain ⟨hx, hb, hr, hml, hown, hts, hlocks, hz, hK, hG⟩ := id C0
  have hS : va_S (x_A G) s.heap s.heap [] := va_S.rf
  have hl := lv_entry ([.ref (x_ad G 0)]) (n := 3) (Nat.le_of_ble_eq_true rfl)
  rw [lg_entry_eq]
  generalize (lg_sl ([.ref (x_ad G 0)]) ++ List.replicate (3 - (lg_sl ([.ref (x_ad G 0)])).length) Slot.unset).toArray = ls at hl ⊢
  have hl : lv_has ls 3 [(0, .ref (x_ad G 0))] := hl
  rw [f_X_countMade] at hf
  refine lv_iconst (v := (0 : Int32)) hx hb d_X_countMade_0 (by decide) ?_
  refine lv_istore_n (lv' := [(1, .int (0 : Int32)), (0, .ref (x_ad G 0))]) hx hb d_X_countMade_1 rfl hl (by decide) rfl (fun ls hl => ?_)
  refine lv_iconst (v := (0 : Int32)) hx hb d_X_countMade_2 (by decide) ?_
  refine lv_istore_n (lv' := [(2, .int (0 : Int32)), (1, .int (0 : Int32)), (0, .ref (x_ad G 0))]) hx hb d_X_countMade_3 rfl hl (by decide) rfl (fun ls hl => ?_)
  exact w_X_countMade_4 l G C0 r zo x_FU (0 : Int32) (0 : Int32) z0 hf _ _ _ hP hD hS (lv_sub hl [2, 1, 0] rfl)
abbrev rm_X_freeNumber : Room := { frames := 0, cells := 0, slots := 0, locals := 0 }
set_option maxHeartbeats 4000000 in
set_option maxRecDepth 100000 in
theorem w_X_freeNumber_20 (l : Launch) (G : x_G) {p : Program} {e : Env} {s : State} {m : MethodId} {args : Array Value} {below : List Frame} {meth : Method} {c : Code} (C0 : x_Ctx G p s m args meth c prog_1_method_24_code "ContentLibrary" 2 (some .int)) (r : Int32) (zo : x_St) : ∀ (a1 : Int32) (z0 : x_St), f_X_freeNumber_20 (x_n G) a1 z0 = some (r, zo) → ∀ (H : Heap) (locs : List Loc) (ls : Array Slot), va_P (x_D G) vwCl (x_Wd G z0) H → va_D (x_A G) (x_Wd G z0) → va_S (x_A G) s.heap H locs → lv_has ls 2 [(1, .int a1)] → W p l e rm_X_freeNumber s m args below meth c H locs 0 0 (MQ below (va_Qi (fun a u => r = a ∧ zo = u) (x_PW G) (x_A G)) args s 0 0 (x_A G)) (F0 m 20 ls []) := by
  obtain ⟨hx, hb, hr, hml, hown, hts, hlocks, hz, hK, hG⟩ := id C0
  intro a1 z0 hf H locs ls hP hD hS hl
  rw [f_X_freeNumber_20] at hf
  refine lv_iload_n hx hb d_X_freeNumber_20 rfl (lv_at hl 0 rfl) ?_
  obtain ⟨rfl, rfl⟩ := x_ret hf
  exact W.iret (v := a1) hx hb hr (fun t ht hW => ⟨⟨_, _, rfl, ⟨rfl, rfl⟩, x_pw hP hD hK hG hS hz ht hW⟩, hS.F ht⟩) hS.2.2 d_X_freeNumber_21
set_option maxHeartbeats 4000000 in
set_option maxRecDepth 100000 in
theorem w_X_freeNumber_2 (l : Launch) (G : x_G) {p : Program} {e : Env} {s : State} {m : MethodId} {args : Array Value} {below : List Frame} {meth : Method} {c : Code} (C0 : x_Ctx G p s m args meth c prog_1_method_24_code "ContentLibrary" 2 (some .int)) (r : Int32) (zo : x_St) : ∀ (fu : Nat), ∀ (a1 : Int32) (z0 : x_St), f_X_freeNumber_2 (x_n G) fu a1 z0 = some (r, zo) → ∀ (H : Heap) (locs : List Loc) (ls : Array Slot), va_P (x_D G) vwCl (x_Wd G z0) H → va_D (x_A G) (x_Wd G z0) → va_S (x_A G) s.heap H locs → lv_has ls 2 [(0, .ref (x_ad G 0)), (1, .int a1)] → W p l e rm_X_freeNumber s m args below meth c H locs 0 0 (MQ below (va_Qi (fun a u => r = a ∧ zo = u) (x_PW G) (x_A G)) args s 0 0 (x_A G)) (F0 m 2 ls []) := by
  obtain ⟨hx, hb, hr, hml, hown, hts, hlocks, hz, hK, hG⟩ := id C0
  intro fu
  induction fu with
  | zero =>
    intro a1 z0 hf
    rw [f_X_freeNumber_2] at hf
    cases hf
  | succ fu ih =>
    intro a1 z0 hf H locs ls hP hD hS hl
    rw [f_X_freeNumber_2] at hf
    refine lv_iload_n hx hb d_X_freeNumber_2 rfl (lv_at hl 1 rfl) ?_
    refine lv_bipush (v := (16 : Int32)) hx hb d_X_freeNumber_3 (by decide) ?_
    refine lv_icmp_ge (tgt := 28) hx hb d_X_freeNumber_5 (by decide) (fun hc1 => ?_) (fun hc1 => ?_)
    · have hf := x_br_t hf hc1
      refine lv_iconst (v := (-1 : Int32)) hx hb d_X_freeNumber_28 (by decide) ?_
      obtain ⟨rfl, rfl⟩ := x_ret hf
      exact W.iret (v := (-1 : Int32)) hx hb hr (fun t ht hW => ⟨⟨_, _, rfl, ⟨rfl, rfl⟩, x_pw hP hD hK hG hS hz ht hW⟩, hS.F ht⟩) hS.2.2 d_X_freeNumber_29
    · have hf := x_br_f hf hc1
      refine lv_aload_n hx hb d_X_freeNumber_8 rfl (lv_at hl 0 rfl) ?_
      refine va_get (D := x_D G) (ci := 0) (v := .ref (x_ad G 22)) (C := "ContentLibrary") (T := x_TX) (N := 9) hx hb hts x_inX hown hK hP 0 (x_lk_X G _) rfl 3 (by decide) (hts _ t_133) (fun _ h9 => h9) rfl d_X_freeNumber_9 ?_
      refine lv_iload_n hx hb d_X_freeNumber_12 rfl (lv_at hl 1 rfl) ?_
      obtain ⟨hin2, hf⟩ := x_ck_some hf
      refine va_aldq hx hb hK hP 22 3 (x_lk_kept G _) rfl hin2 d_X_freeNumber_13 ?_
      refine W.eq (g2 := F0 m 14 ls [.ref (x_ad G (23 + 5 * (a1).toNatClampNeg))]) rfl ?_
      refine va_get (D := x_D G) (ci := 3) (v := .int (z0.1 (23 + 5 * (a1).toNatClampNeg) 0)) (C := "ContentLibrary$Kept") (T := x_TK) (N := 6) hx hb hts x_inK hown hK hP (23 + 5 * (a1).toNatClampNeg) (x_lk_K G _ (x_el_K hin2)) rfl 0 (by decide) (hts _ t_90) (fun _ h9 => h9) rfl d_X_freeNumber_14 ?_
      refine lv_if_ne (tgt := 22) hx hb d_X_freeNumber_17 (by decide) (fun hc3 => ?_) (fun hc3 => ?_)
      · have hf := x_br_f hf hc3
        refine lv_iinc (v := (a1 + (1 : Int32))) (lv' := [(1, .int (a1 + (1 : Int32))), (0, .ref (x_ad G 0))]) hx hb d_X_freeNumber_22 hl (k := 1) rfl rfl (by decide) rfl (fun ls hl => ?_)
        refine lv_goto (tgt := 2) hx hb d_X_freeNumber_25 (by decide) ?_
        exact ih (a1 + (1 : Int32)) z0 hf _ _ _ hP hD hS (lv_sub hl [1, 0] rfl)
      · have hf := x_br_t hf hc3
        exact w_X_freeNumber_20 l G C0 r zo a1 z0 hf _ _ _ hP hD hS (lv_sub hl [1] rfl)
set_option maxHeartbeats 4000000 in
set_option maxRecDepth 100000 in
theorem c_X_freeNumber (l : Launch) (G : x_G)  (z0 : x_St) (r : Int32) (zo : x_St) (hf : f_X_freeNumber (x_n G)  z0 = some (r, zo)) : Met l (⟨"ContentLibrary", "freeNumber", "()I"⟩ : MethodName) (x_ws (⟨"ContentLibrary", "freeNumber", "()I"⟩ : MethodName) prog_1_method_24_code 2 (some .int)) rm_X_freeNumber (va_Pc [.ref (x_ad G 0)] (x_PW G z0)) (va_Qi (fun a u => r = a ∧ zo = u) (x_PW G) (x_A G)) 0 0 (x_A G) := by
  refine Met.ofW (cc := prog_1_method_24_code) (maxL := 2) (ret := (some .int)) (by decide) rfl ?_
  intro p e s m args below meth c s₁ B hml hv
  obtain ⟨rfl, hz, hP, hD, hK, hG⟩ := hv
  have C0 : x_Ctx G p s m _ meth c prog_1_method_24_code "ContentLibrary" 2 (some .int) := ⟨B.exec, B.bytes, B.returns, hml, findClass_of_methodNamed B.named, fun w h => atoms_spec (ws := (x_ws (⟨"ContentLibrary", "freeNumber", "()I"⟩ : MethodName) prog_1_method_24_code 2 (some .int))) B.pre w (List.mem_cons_of_mem _ h), B.notSynchronized, hz, hK, hG⟩
  obtain ⟨hx, hb, hr, hml, hown, hts, hlocks, hz, hK, hG⟩ := id C0
  have hS : va_S (x_A G) s.heap s.heap [] := va_S.rf
  have hl := lv_entry ([.ref (x_ad G 0)]) (n := 2) (Nat.le_of_ble_eq_true rfl)
  rw [lg_entry_eq]
  generalize (lg_sl ([.ref (x_ad G 0)]) ++ List.replicate (2 - (lg_sl ([.ref (x_ad G 0)])).length) Slot.unset).toArray = ls at hl ⊢
  have hl : lv_has ls 2 [(0, .ref (x_ad G 0))] := hl
  rw [f_X_freeNumber] at hf
  refine lv_iconst (v := (0 : Int32)) hx hb d_X_freeNumber_0 (by decide) ?_
  refine lv_istore_n (lv' := [(1, .int (0 : Int32)), (0, .ref (x_ad G 0))]) hx hb d_X_freeNumber_1 rfl hl (by decide) rfl (fun ls hl => ?_)
  exact w_X_freeNumber_2 l G C0 r zo x_FU (0 : Int32) z0 hf _ _ _ hP hD hS (lv_sub hl [1, 0] rfl)
abbrev rm_X_choosePlaces : Room := { frames := 0, cells := 0, slots := 0, locals := 0 }
set_option maxHeartbeats 4000000 in
set_option maxRecDepth 100000 in
theorem w_X_choosePlaces_49 (l : Launch) (G : x_G) {p : Program} {e : Env} {s : State} {m : MethodId} {args : Array Value} {below : List Frame} {meth : Method} {c : Code} (C0 : x_Ctx G p s m args meth c prog_1_method_25_code "ContentLibrary" 5 (some .boolean)) (r : Int32) (zo : x_St) : ∀ (a2 : Int32) (a3 : Int32) (z0 : x_St), f_X_choosePlaces_49 (x_n G) a2 a3 z0 = some (r, zo) → ∀ (H : Heap) (locs : List Loc) (ls : Array Slot), va_P (x_D G) vwCl (x_Wd G z0) H → va_D (x_A G) (x_Wd G z0) → va_S (x_A G) s.heap H locs → lv_has ls 5 [(2, .int a2), (3, .int a3)] → W p l e rm_X_choosePlaces s m args below meth c H locs 0 0 (MQ below (va_Qi (fun a u => r = a ∧ zo = u) (x_PW G) (x_A G)) args s 0 0 (x_A G)) (F0 m 49 ls []) := by
  obtain ⟨hx, hb, hr, hml, hown, hts, hlocks, hz, hK, hG⟩ := id C0
  intro a2 a3 z0 hf H locs ls hP hD hS hl
  rw [f_X_choosePlaces_49] at hf
  refine lv_iload_n hx hb d_X_choosePlaces_49 rfl (lv_at hl 1 rfl) ?_
  refine lv_iload_n hx hb d_X_choosePlaces_50 rfl (lv_at hl 0 rfl) ?_
  refine lv_icmp_le (tgt := 58) hx hb d_X_choosePlaces_51 (by decide) (fun hc1 => ?_) (fun hc1 => ?_)
  · have hf := x_br_t hf hc1
    refine lv_iconst (v := (0 : Int32)) hx hb d_X_choosePlaces_58 (by decide) ?_
    obtain ⟨rfl, rfl⟩ := x_ret hf
    exact W.zret (v := (0 : Int32)) hx hb hr rfl (fun t ht hW => ⟨⟨_, _, rfl, ⟨rfl, rfl⟩, x_pw hP hD hK hG hS hz ht hW⟩, hS.F ht⟩) hS.2.2 d_X_choosePlaces_59
  · have hf := x_br_f hf hc1
    refine lv_iconst (v := (1 : Int32)) hx hb d_X_choosePlaces_54 (by decide) ?_
    refine lv_goto (tgt := 59) hx hb d_X_choosePlaces_55 (by decide) ?_
    obtain ⟨rfl, rfl⟩ := x_ret hf
    exact W.zret (v := (1 : Int32)) hx hb hr rfl (fun t ht hW => ⟨⟨_, _, rfl, ⟨rfl, rfl⟩, x_pw hP hD hK hG hS hz ht hW⟩, hS.F ht⟩) hS.2.2 d_X_choosePlaces_59
set_option maxHeartbeats 4000000 in
set_option maxRecDepth 100000 in
theorem w_X_choosePlaces_5 (l : Launch) (G : x_G) {p : Program} {e : Env} {s : State} {m : MethodId} {args : Array Value} {below : List Frame} {meth : Method} {c : Code} (C0 : x_Ctx G p s m args meth c prog_1_method_25_code "ContentLibrary" 5 (some .boolean)) (r : Int32) (zo : x_St) : ∀ (fu : Nat), ∀ (a1 : Nat) (ha1 : x_isK a1 = true) (a2 : Int32) (a3 : Int32) (a4 : Int32) (z0 : x_St), f_X_choosePlaces_5 (x_n G) fu a1 a2 a3 a4 z0 = some (r, zo) → ∀ (H : Heap) (locs : List Loc) (ls : Array Slot), va_P (x_D G) vwCl (x_Wd G z0) H → va_D (x_A G) (x_Wd G z0) → va_S (x_A G) s.heap H locs → lv_has ls 5 [(0, .ref (x_ad G 0)), (1, .ref (x_ad G a1)), (2, .int a2), (3, .int a3), (4, .int a4)] → W p l e rm_X_choosePlaces s m args below meth c H locs 0 0 (MQ below (va_Qi (fun a u => r = a ∧ zo = u) (x_PW G) (x_A G)) args s 0 0 (x_A G)) (F0 m 5 ls []) := by
  obtain ⟨hx, hb, hr, hml, hown, hts, hlocks, hz, hK, hG⟩ := id C0
  intro fu
  induction fu with
  | zero =>
    intro a1 ha1 a2 a3 a4 z0 hf
    rw [f_X_choosePlaces_5] at hf
    cases hf
  | succ fu ih =>
    intro a1 ha1 a2 a3 a4 z0 hf H locs ls hP hD hS hl
    rw [f_X_choosePlaces_5] at hf
    refine lv_iload hx hb d_X_choosePlaces_5 (lv_at hl 4 rfl) ?_
    refine lv_aload_n hx hb d_X_choosePlaces_7 rfl (lv_at hl 0 rfl) ?_
    refine va_get (D := x_D G) (ci := 0) (v := .ref (x_ad G 1)) (C := "ContentLibrary") (T := x_TX) (N := 9) hx hb hts x_inX hown hK hP 0 (x_lk_X G _) rfl 0 (by decide) (hts _ t_130) (fun _ h9 => h9) rfl d_X_choosePlaces_8 ?_
    refine va_get (D := x_D G) (ci := 1) (v := .int (z0.1 1 0)) (C := "ContentLibrary$Blocks") (T := x_TB) (N := 5) hx hb hts x_inB hown hK hP 1 (x_lk_B G _) rfl 0 (by decide) (hts _ t_40) (fun _ h9 => h9) rfl d_X_choosePlaces_11 ?_
    refine lv_icmp_ge (tgt := 49) hx hb d_X_choosePlaces_14 (by decide) (fun hc2 => ?_) (fun hc2 => ?_)
    · have hf := x_br_t hf hc2
      exact w_X_choosePlaces_49 l G C0 r zo a2 a3 z0 hf _ _ _ hP hD hS (lv_sub hl [2, 3] rfl)
    · have hf := x_br_f hf hc2
      refine lv_iload_n hx hb d_X_choosePlaces_17 rfl (lv_at hl 3 rfl) ?_
      refine lv_iload_n hx hb d_X_choosePlaces_18 rfl (lv_at hl 2 rfl) ?_
      refine lv_icmp_gt (tgt := 49) hx hb d_X_choosePlaces_19 (by decide) (fun hc3 => ?_) (fun hc3 => ?_)
      · have hf := x_br_t hf hc3
        exact w_X_choosePlaces_49 l G C0 r zo a2 a3 z0 hf _ _ _ hP hD hS (lv_sub hl [2, 3] rfl)
      · have hf := x_br_f hf hc3
        refine lv_aload_n hx hb d_X_choosePlaces_22 rfl (lv_at hl 0 rfl) ?_
        refine va_get (D := x_D G) (ci := 0) (v := .ref (x_ad G 4)) (C := "ContentLibrary") (T := x_TX) (N := 9) hx hb hts x_inX hown hK hP 0 (x_lk_X G _) rfl 1 (by decide) (hts _ t_131) (fun _ h9 => h9) rfl d_X_choosePlaces_23 ?_
        refine lv_iload hx hb d_X_choosePlaces_26 (lv_at hl 4 rfl) ?_
        obtain ⟨hin4, hf⟩ := x_ck_some hf
        refine va_zald hx hb hK hP 4 1 (x_lk_Z G _) rfl hin4 d_X_choosePlaces_28 ?_
        refine lv_if_ne (tgt := 43) hx hb d_X_choosePlaces_29 (by decide) (fun hc5 => ?_) (fun hc5 => ?_)
        · have hf := x_br_f hf hc5
          refine lv_iinc (v := (a4 + (1 : Int32))) (lv' := [(4, .int (a4 + (1 : Int32))), (0, .ref (x_ad G 0)), (1, .ref (x_ad G a1)), (2, .int a2), (3, .int a3)]) hx hb d_X_choosePlaces_43 hl (k := 4) rfl rfl (by decide) rfl (fun ls hl => ?_)
          refine lv_goto (tgt := 5) hx hb d_X_choosePlaces_46 (by decide) ?_
          exact ih a1 ha1 a2 a3 (a4 + (1 : Int32)) z0 hf _ _ _ hP hD hS (lv_sub hl [1, 2, 3, 4, 0] rfl)
        · have hf := x_br_t hf hc5
          refine lv_aload_n hx hb d_X_choosePlaces_32 rfl (lv_at hl 1 rfl) ?_
          refine va_get (D := x_D G) (ci := 3) (v := .ref (x_ad G (a1 + 4))) (C := "ContentLibrary$Kept") (T := x_TK) (N := 6) hx hb hts x_inK hown hK hP a1 (x_lk_K G _ ha1) rfl 5 (by decide) (hts _ t_100) (fun _ h9 => h9) rfl d_X_choosePlaces_33 ?_
          refine lv_iload_n hx hb d_X_choosePlaces_36 rfl (lv_at hl 3 rfl) ?_
          refine lv_iload hx hb d_X_choosePlaces_37 (lv_at hl 4 rfl) ?_
          obtain ⟨hin6, hf⟩ := x_ck_some hf
          refine va_iast hx hb hK hP hD hS (a1 + 4) 0 (x_lk_A G _ (x_K_A4 ha1)) rfl hin6 d_X_choosePlaces_39 (fun H locs hP hD hS => ?_)
          rw [x_st_A G _ (x_K_A4 ha1)] at hP hD
          refine lv_iinc (v := (a3 + (1 : Int32))) (lv' := [(3, .int (a3 + (1 : Int32))), (0, .ref (x_ad G 0)), (1, .ref (x_ad G a1)), (2, .int a2), (4, .int a4)]) hx hb d_X_choosePlaces_40 hl (k := 3) rfl rfl (by decide) rfl (fun ls hl => ?_)
          refine lv_iinc (v := (a4 + (1 : Int32))) (lv' := [(4, .int (a4 + (1 : Int32))), (3, .int (a3 + (1 : Int32))), (0, .ref (x_ad G 0)), (1, .ref (x_ad G a1)), (2, .int a2)]) hx hb d_X_choosePlaces_43 hl (k := 4) rfl rfl (by decide) rfl (fun ls hl => ?_)
          refine lv_goto (tgt := 5) hx hb d_X_choosePlaces_46 (by decide) ?_
          exact ih a1 ha1 a2 (a3 + (1 : Int32)) (a4 + (1 : Int32)) (x_put z0 (a1 + 4) (a3).toNatClampNeg a4) hf _ _ _ hP hD hS (lv_sub hl [2, 3, 4, 1, 0] rfl)
set_option maxHeartbeats 4000000 in
set_option maxRecDepth 100000 in
theorem c_X_choosePlaces (l : Launch) (G : x_G) (k1 : Nat) (hk1 : x_isK k1 = true) (p2 : Int32) (z0 : x_St) (r : Int32) (zo : x_St) (hf : f_X_choosePlaces (x_n G) k1 p2 z0 = some (r, zo)) : Met l (⟨"ContentLibrary", "choosePlaces", "(LContentLibrary$Kept;I)Z"⟩ : MethodName) (x_ws (⟨"ContentLibrary", "choosePlaces", "(LContentLibrary$Kept;I)Z"⟩ : MethodName) prog_1_method_25_code 5 (some .boolean)) rm_X_choosePlaces (va_Pc [.ref (x_ad G 0), .ref (x_ad G k1), .int p2] (x_PW G z0)) (va_Qi (fun a u => r = a ∧ zo = u) (x_PW G) (x_A G)) 0 0 (x_A G) := by
  refine Met.ofW (cc := prog_1_method_25_code) (maxL := 5) (ret := (some .boolean)) (by decide) rfl ?_
  intro p e s m args below meth c s₁ B hml hv
  obtain ⟨rfl, hz, hP, hD, hK, hG⟩ := hv
  have C0 : x_Ctx G p s m _ meth c prog_1_method_25_code "ContentLibrary" 5 (some .boolean) := ⟨B.exec, B.bytes, B.returns, hml, findClass_of_methodNamed B.named, fun w h => atoms_spec (ws := (x_ws (⟨"ContentLibrary", "choosePlaces", "(LContentLibrary$Kept;I)Z"⟩ : MethodName) prog_1_method_25_code 5 (some .boolean))) B.pre w (List.mem_cons_of_mem _ h), B.notSynchronized, hz, hK, hG⟩
  obtain ⟨hx, hb, hr, hml, hown, hts, hlocks, hz, hK, hG⟩ := id C0
  have hS : va_S (x_A G) s.heap s.heap [] := va_S.rf
  have hl := lv_entry ([.ref (x_ad G 0), .ref (x_ad G k1), .int p2]) (n := 5) (Nat.le_of_ble_eq_true rfl)
  rw [lg_entry_eq]
  generalize (lg_sl ([.ref (x_ad G 0), .ref (x_ad G k1), .int p2]) ++ List.replicate (5 - (lg_sl ([.ref (x_ad G 0), .ref (x_ad G k1), .int p2])).length) Slot.unset).toArray = ls at hl ⊢
  have hl : lv_has ls 5 [(0, .ref (x_ad G 0)), (1, .ref (x_ad G k1)), (2, .int p2)] := hl
  rw [f_X_choosePlaces] at hf
  refine lv_iconst (v := (0 : Int32)) hx hb d_X_choosePlaces_0 (by decide) ?_
  refine lv_istore_n (lv' := [(3, .int (0 : Int32)), (0, .ref (x_ad G 0)), (1, .ref (x_ad G k1)), (2, .int p2)]) hx hb d_X_choosePlaces_1 rfl hl (by decide) rfl (fun ls hl => ?_)
  refine lv_iconst (v := (0 : Int32)) hx hb d_X_choosePlaces_2 (by decide) ?_
  refine lv_istore (lv' := [(4, .int (0 : Int32)), (3, .int (0 : Int32)), (0, .ref (x_ad G 0)), (1, .ref (x_ad G k1)), (2, .int p2)]) hx hb d_X_choosePlaces_3 hl (by decide) rfl (fun ls hl => ?_)
  exact w_X_choosePlaces_5 l G C0 r zo x_FU k1 hk1 p2 (0 : Int32) (0 : Int32) z0 hf _ _ _ hP hD hS (lv_sub hl [2, 3, 4, 1, 0] rfl)
abbrev rm_X_enterFound : Room := { frames := 0, cells := 0, slots := 0, locals := 0 }
set_option maxHeartbeats 4000000 in
set_option maxRecDepth 100000 in
theorem w_X_enterFound_55 (l : Launch) (G : x_G) {p : Program} {e : Env} {s : State} {m : MethodId} {args : Array Value} {below : List Frame} {meth : Method} {c : Code} (C0 : x_Ctx G p s m args meth c prog_1_method_32_code "ContentLibrary" 4 none) (r : Unit) (zo : x_St) : ∀ (a1 : Int32) (a2 : Int32) (a3 : Int32) (z0 : x_St), f_X_enterFound_55 (x_n G) a1 a2 a3 z0 = some (r, zo) → ∀ (H : Heap) (locs : List Loc) (ls : Array Slot), va_P (x_D G) vwCl (x_Wd G z0) H → va_D (x_A G) (x_Wd G z0) → va_S (x_A G) s.heap H locs → lv_has ls 4 [(0, .ref (x_ad G 0)), (1, .int a1), (2, .int a2), (3, .int a3)] → W p l e rm_X_enterFound s m args below meth c H locs 0 0 (MQ below (va_Qv (fun u => r = () ∧ zo = u) (x_PW G) (x_A G)) args s 0 0 (x_A G)) (F0 m 55 ls []) := by
  obtain ⟨hx, hb, hr, hml, hown, hts, hlocks, hz, hK, hG⟩ := id C0
  intro a1 a2 a3 z0 hf H locs ls hP hD hS hl
  rw [f_X_enterFound_55] at hf
  refine lv_aload_n hx hb d_X_enterFound_55 rfl (lv_at hl 0 rfl) ?_
  refine va_get (D := x_D G) (ci := 0) (v := .ref (x_ad G 108)) (C := "ContentLibrary") (T := x_TX) (N := 9) hx hb hts x_inX hown hK hP 0 (x_lk_X G _) rfl 6 (by decide) (hts _ t_136) (fun _ h9 => h9) rfl d_X_enterFound_56 ?_
  refine lv_iload_n hx hb d_X_enterFound_59 rfl (lv_at hl 3 rfl) ?_
  refine lv_iload_n hx hb d_X_enterFound_60 rfl (lv_at hl 1 rfl) ?_
  obtain ⟨hin1, hf⟩ := x_ck_some hf
  refine va_iast hx hb hK hP hD hS 108 0 (x_lk_A G _ rfl) rfl hin1 d_X_enterFound_61 (fun H locs hP hD hS => ?_)
  rw [x_st_A G _ (k := 108) rfl] at hP hD
  refine lv_aload_n hx hb d_X_enterFound_62 rfl (lv_at hl 0 rfl) ?_
  refine va_get (D := x_D G) (ci := 0) (v := .ref (x_ad G 109)) (C := "ContentLibrary") (T := x_TX) (N := 9) hx hb hts x_inX hown hK hP 0 (x_lk_X G _) rfl 7 (by decide) (hts _ t_137) (fun _ h9 => h9) rfl d_X_enterFound_63 ?_
  refine lv_iload_n hx hb d_X_enterFound_66 rfl (lv_at hl 3 rfl) ?_
  refine lv_iload_n hx hb d_X_enterFound_67 rfl (lv_at hl 2 rfl) ?_
  obtain ⟨hin2, hf⟩ := x_ck_some hf
  refine va_iast hx hb hK hP hD hS 109 0 (x_lk_A G _ rfl) rfl hin2 d_X_enterFound_68 (fun H locs hP hD hS => ?_)
  rw [x_st_A G _ (k := 109) rfl] at hP hD
  refine lv_aload_n hx hb d_X_enterFound_69 rfl (lv_at hl 0 rfl) ?_
  refine lv_dup hx hb d_X_enterFound_70 rfl ?_
  refine va_get (D := x_D G) (ci := 0) (v := .int ((x_put (x_put z0 108 (a3).toNatClampNeg a1) 109 (a3).toNatClampNeg a2).1 0 8)) (C := "ContentLibrary") (T := x_TX) (N := 9) hx hb hts x_inX hown hK hP 0 (x_lk_X G _) rfl 8 (by decide) (hts _ t_138) (fun _ h9 => h9) rfl d_X_enterFound_71 ?_
  refine lv_iconst (v := (1 : Int32)) hx hb d_X_enterFound_74 (by decide) ?_
  refine lv_iadd hx hb d_X_enterFound_75 ?_
  refine va_put (D := x_D G) (ci := 0) (v := .int (((x_put (x_put z0 108 (a3).toNatClampNeg a1) 109 (a3).toNatClampNeg a2).1 0 8) + (1 : Int32))) (ty := .int) (C := "ContentLibrary") (T := x_TX) (N := 9) hx hb hts x_inX x_tyX x_tyX_ok x_nmX hown hK hP hD hS 0 (x_lk_X G _) rfl 8 (by decide) (hts _ t_138) (fun _ h9 => h9) rfl (by decide +kernel) rfl rfl (Nat.le_of_ble_eq_true rfl) d_X_enterFound_76 (fun H locs hP hD hS => ?_)
  rw [x_st_X8 G _] at hP hD
  obtain ⟨rfl, rfl⟩ := x_ret hf
  exact W.vret hx hb hr (fun t ht hW => ⟨⟨_, rfl, ⟨rfl, rfl⟩, x_pw hP hD hK hG hS hz ht hW⟩, hS.F ht⟩) hS.2.2 d_X_enterFound_79
set_option maxHeartbeats 4000000 in
set_option maxRecDepth 100000 in
theorem w_X_enterFound_5 (l : Launch) (G : x_G) {p : Program} {e : Env} {s : State} {m : MethodId} {args : Array Value} {below : List Frame} {meth : Method} {c : Code} (C0 : x_Ctx G p s m args meth c prog_1_method_32_code "ContentLibrary" 4 none) (r : Unit) (zo : x_St) : ∀ (fu : Nat), ∀ (a1 : Int32) (a2 : Int32) (a3 : Int32) (z0 : x_St), f_X_enterFound_5 (x_n G) fu a1 a2 a3 z0 = some (r, zo) → ∀ (H : Heap) (locs : List Loc) (ls : Array Slot), va_P (x_D G) vwCl (x_Wd G z0) H → va_D (x_A G) (x_Wd G z0) → va_S (x_A G) s.heap H locs → lv_has ls 4 [(0, .ref (x_ad G 0)), (1, .int a1), (2, .int a2), (3, .int a3)] → W p l e rm_X_enterFound s m args below meth c H locs 0 0 (MQ below (va_Qv (fun u => r = () ∧ zo = u) (x_PW G) (x_A G)) args s 0 0 (x_A G)) (F0 m 5 ls []) := by
  obtain ⟨hx, hb, hr, hml, hown, hts, hlocks, hz, hK, hG⟩ := id C0
  intro fu
  induction fu with
  | zero =>
    intro a1 a2 a3 z0 hf
    rw [f_X_enterFound_5] at hf
    cases hf
  | succ fu ih =>
    intro a1 a2 a3 z0 hf H locs ls hP hD hS hl
    rw [f_X_enterFound_5] at hf
    refine lv_iload_n hx hb d_X_enterFound_5 rfl (lv_at hl 3 rfl) ?_
    refine lv_if_le (tgt := 55) hx hb d_X_enterFound_6 (by decide) (fun hc3 => ?_) (fun hc3 => ?_)
    · have hf := x_br_t hf hc3
      exact w_X_enterFound_55 l G C0 r zo a1 a2 a3 z0 hf _ _ _ hP hD hS (lv_sub hl [0, 1, 2, 3] rfl)
    · have hf := x_br_f hf hc3
      refine lv_aload_n hx hb d_X_enterFound_9 rfl (lv_at hl 0 rfl) ?_
      refine va_get (D := x_D G) (ci := 0) (v := .ref (x_ad G 109)) (C := "ContentLibrary") (T := x_TX) (N := 9) hx hb hts x_inX hown hK hP 0 (x_lk_X G _) rfl 7 (by decide) (hts _ t_137) (fun _ h9 => h9) rfl d_X_enterFound_10 ?_
      refine lv_iload_n hx hb d_X_enterFound_13 rfl (lv_at hl 3 rfl) ?_
      refine lv_iconst (v := (1 : Int32)) hx hb d_X_enterFound_14 (by decide) ?_
      refine lv_isub hx hb d_X_enterFound_15 ?_
      obtain ⟨hin4, hf⟩ := x_ck_some hf
      refine va_iald hx hb hK hP 109 0 (x_lk_A G _ rfl) rfl hin4 d_X_enterFound_16 ?_
      refine lv_iload_n hx hb d_X_enterFound_17 rfl (lv_at hl 2 rfl) ?_
      refine lv_icmp_le (tgt := 55) hx hb d_X_enterFound_18 (by decide) (fun hc5 => ?_) (fun hc5 => ?_)
      · have hf := x_br_t hf hc5
        exact w_X_enterFound_55 l G C0 r zo a1 a2 a3 z0 hf _ _ _ hP hD hS (lv_sub hl [0, 1, 2, 3] rfl)
      · have hf := x_br_f hf hc5
        refine lv_aload_n hx hb d_X_enterFound_21 rfl (lv_at hl 0 rfl) ?_
        refine va_get (D := x_D G) (ci := 0) (v := .ref (x_ad G 108)) (C := "ContentLibrary") (T := x_TX) (N := 9) hx hb hts x_inX hown hK hP 0 (x_lk_X G _) rfl 6 (by decide) (hts _ t_136) (fun _ h9 => h9) rfl d_X_enterFound_22 ?_
        refine lv_iload_n hx hb d_X_enterFound_25 rfl (lv_at hl 3 rfl) ?_
        refine lv_aload_n hx hb d_X_enterFound_26 rfl (lv_at hl 0 rfl) ?_
        refine va_get (D := x_D G) (ci := 0) (v := .ref (x_ad G 108)) (C := "ContentLibrary") (T := x_TX) (N := 9) hx hb hts x_inX hown hK hP 0 (x_lk_X G _) rfl 6 (by decide) (hts _ t_136) (fun _ h9 => h9) rfl d_X_enterFound_27 ?_
        refine lv_iload_n hx hb d_X_enterFound_30 rfl (lv_at hl 3 rfl) ?_
        refine lv_iconst (v := (1 : Int32)) hx hb d_X_enterFound_31 (by decide) ?_
        refine lv_isub hx hb d_X_enterFound_32 ?_
        obtain ⟨hin6, hf⟩ := x_ck_some hf
        refine va_iald hx hb hK hP 108 0 (x_lk_A G _ rfl) rfl hin6 d_X_enterFound_33 ?_
        obtain ⟨hin7, hf⟩ := x_ck_some hf
        refine va_iast hx hb hK hP hD hS 108 0 (x_lk_A G _ rfl) rfl hin7 d_X_enterFound_34 (fun H locs hP hD hS => ?_)
        rw [x_st_A G _ (k := 108) rfl] at hP hD
        refine lv_aload_n hx hb d_X_enterFound_35 rfl (lv_at hl 0 rfl) ?_
        refine va_get (D := x_D G) (ci := 0) (v := .ref (x_ad G 109)) (C := "ContentLibrary") (T := x_TX) (N := 9) hx hb hts x_inX hown hK hP 0 (x_lk_X G _) rfl 7 (by decide) (hts _ t_137) (fun _ h9 => h9) rfl d_X_enterFound_36 ?_
        refine lv_iload_n hx hb d_X_enterFound_39 rfl (lv_at hl 3 rfl) ?_
        refine lv_aload_n hx hb d_X_enterFound_40 rfl (lv_at hl 0 rfl) ?_
        refine va_get (D := x_D G) (ci := 0) (v := .ref (x_ad G 109)) (C := "ContentLibrary") (T := x_TX) (N := 9) hx hb hts x_inX hown hK hP 0 (x_lk_X G _) rfl 7 (by decide) (hts _ t_137) (fun _ h9 => h9) rfl d_X_enterFound_41 ?_
        refine lv_iload_n hx hb d_X_enterFound_44 rfl (lv_at hl 3 rfl) ?_
        refine lv_iconst (v := (1 : Int32)) hx hb d_X_enterFound_45 (by decide) ?_
        refine lv_isub hx hb d_X_enterFound_46 ?_
        obtain ⟨hin8, hf⟩ := x_ck_some hf
        refine va_iald hx hb hK hP 109 0 (x_lk_A G _ rfl) rfl hin8 d_X_enterFound_47 ?_
        obtain ⟨hin9, hf⟩ := x_ck_some hf
        refine va_iast hx hb hK hP hD hS 109 0 (x_lk_A G _ rfl) rfl hin9 d_X_enterFound_48 (fun H locs hP hD hS => ?_)
        rw [x_st_A G _ (k := 109) rfl] at hP hD
        refine lv_iinc (v := (a3 + (-1 : Int32))) (lv' := [(3, .int (a3 + (-1 : Int32))), (0, .ref (x_ad G 0)), (1, .int a1), (2, .int a2)]) hx hb d_X_enterFound_49 hl (k := 3) rfl rfl (by decide) rfl (fun ls hl => ?_)
        refine lv_goto (tgt := 5) hx hb d_X_enterFound_52 (by decide) ?_
        exact ih a1 a2 (a3 + (-1 : Int32)) (x_put (x_put z0 108 (a3).toNatClampNeg (z0.1 108 ((a3 - (1 : Int32))).toNatClampNeg)) 109 (a3).toNatClampNeg ((x_put z0 108 (a3).toNatClampNeg (z0.1 108 ((a3 - (1 : Int32))).toNatClampNeg)).1 109 ((a3 - (1 : Int32))).toNatClampNeg)) hf _ _ _ hP hD hS (lv_sub hl [1, 2, 3, 0] rfl)
set_option maxHeartbeats 4000000 in
set_option maxRecDepth 100000 in
theorem c_X_enterFound (l : Launch) (G : x_G) (p1 : Int32) (p2 : Int32) (z0 : x_St) (r : Unit) (zo : x_St) (hf : f_X_enterFound (x_n G) p1 p2 z0 = some (r, zo)) : Met l (⟨"ContentLibrary", "enterFound", "(II)V"⟩ : MethodName) (x_ws (⟨"ContentLibrary", "enterFound", "(II)V"⟩ : MethodName) prog_1_method_32_code 4 none) rm_X_enterFound (va_Pc [.ref (x_ad G 0), .int p1, .int p2] (x_PW G z0)) (va_Qv (fun u => r = () ∧ zo = u) (x_PW G) (x_A G)) 0 0 (x_A G) := by
  refine Met.ofW (cc := prog_1_method_32_code) (maxL := 4) (ret := none) (by decide) rfl ?_
  intro p e s m args below meth c s₁ B hml hv
  obtain ⟨rfl, hz, hP, hD, hK, hG⟩ := hv
  have C0 : x_Ctx G p s m _ meth c prog_1_method_32_code "ContentLibrary" 4 none := ⟨B.exec, B.bytes, B.returns, hml, findClass_of_methodNamed B.named, fun w h => atoms_spec (ws := (x_ws (⟨"ContentLibrary", "enterFound", "(II)V"⟩ : MethodName) prog_1_method_32_code 4 none)) B.pre w (List.mem_cons_of_mem _ h), B.notSynchronized, hz, hK, hG⟩
  obtain ⟨hx, hb, hr, hml, hown, hts, hlocks, hz, hK, hG⟩ := id C0
  have hS : va_S (x_A G) s.heap s.heap [] := va_S.rf
  have hl := lv_entry ([.ref (x_ad G 0), .int p1, .int p2]) (n := 4) (Nat.le_of_ble_eq_true rfl)
  rw [lg_entry_eq]
  generalize (lg_sl ([.ref (x_ad G 0), .int p1, .int p2]) ++ List.replicate (4 - (lg_sl ([.ref (x_ad G 0), .int p1, .int p2])).length) Slot.unset).toArray = ls at hl ⊢
  have hl : lv_has ls 4 [(0, .ref (x_ad G 0)), (1, .int p1), (2, .int p2)] := hl
  rw [f_X_enterFound] at hf
  refine lv_aload_n hx hb d_X_enterFound_0 rfl (lv_at hl 0 rfl) ?_
  refine va_get (D := x_D G) (ci := 0) (v := .int (z0.1 0 8)) (C := "ContentLibrary") (T := x_TX) (N := 9) hx hb hts x_inX hown hK hP 0 (x_lk_X G _) rfl 8 (by decide) (hts _ t_138) (fun _ h9 => h9) rfl d_X_enterFound_1 ?_
  refine lv_istore_n (lv' := [(3, .int (z0.1 0 8)), (0, .ref (x_ad G 0)), (1, .int p1), (2, .int p2)]) hx hb d_X_enterFound_4 rfl hl (by decide) rfl (fun ls hl => ?_)
  exact w_X_enterFound_5 l G C0 r zo x_FU p1 p2 (z0.1 0 8) z0 hf _ _ _ hP hD hS (lv_sub hl [1, 2, 3, 0] rfl)
abbrev rm_X_afterCut : Room := { frames := 1, cells := 0, slots := 0, locals := 21 }
set_option maxHeartbeats 4000000 in
set_option maxRecDepth 100000 in
theorem c_X_afterCut (l : Launch) (G : x_G)  (z0 : x_St) (r : Int32) (zo : x_St) (hf : f_X_afterCut (x_n G)  z0 = some (r, zo)) : Met l (⟨"ContentLibrary", "afterCut", "()I"⟩ : MethodName) (x_ws (⟨"ContentLibrary", "afterCut", "()I"⟩ : MethodName) prog_1_method_33_code 1 (some .int)) rm_X_afterCut (va_Pc [.ref (x_ad G 0)] (x_PW G z0)) (va_Qi (fun a u => r = a ∧ zo = u) (x_PW G) (x_A G)) 0 0 (x_A G) := by
  refine Met.ofW (cc := prog_1_method_33_code) (maxL := 1) (ret := (some .int)) (by decide) rfl ?_
  intro p e s m args below meth c s₁ B hml hv
  obtain ⟨rfl, hz, hP, hD, hK, hG⟩ := hv
  have C0 : x_Ctx G p s m _ meth c prog_1_method_33_code "ContentLibrary" 1 (some .int) := ⟨B.exec, B.bytes, B.returns, hml, findClass_of_methodNamed B.named, fun w h => atoms_spec (ws := (x_ws (⟨"ContentLibrary", "afterCut", "()I"⟩ : MethodName) prog_1_method_33_code 1 (some .int))) B.pre w (List.mem_cons_of_mem _ h), B.notSynchronized, hz, hK, hG⟩
  obtain ⟨hx, hb, hr, hml, hown, hts, hlocks, hz, hK, hG⟩ := id C0
  have hS : va_S (x_A G) s.heap s.heap [] := va_S.rf
  have hl := lv_entry ([.ref (x_ad G 0)]) (n := 1) (Nat.le_of_ble_eq_true rfl)
  rw [lg_entry_eq]
  generalize (lg_sl ([.ref (x_ad G 0)]) ++ List.replicate (1 - (lg_sl ([.ref (x_ad G 0)])).length) Slot.unset).toArray = ls at hl ⊢
  have hl : lv_has ls 1 [(0, .ref (x_ad G 0))] := hl
  rw [f_X_afterCut] at hf
  refine lv_aload_n hx hb d_X_afterCut_0 rfl (lv_at hl 0 rfl) ?_
  obtain ⟨r1, z1, hq2, hf⟩ := x_cl_some hf
  refine va_callv (va_runV (As := []) (rest := []) ⟨hx, hb, hml, hown, hts⟩ (c_X_forget l G z0 r1 z1 hq2) (cwV 0 hts (x_gV t_162 t_164 sel_ContentLibrary_forget t_1 t_165) rfl rfl rfl (by decide +kernel) ⟨Nat.le_of_ble_eq_true rfl, Nat.le_of_ble_eq_true rfl⟩) ⟨x_blind _ _ _, va_recv hK hP (ci := 0) (q0 := 0) rfl (x_lk_X G _), fun U hU hW => ⟨rfl, x_pw hP hD hK hG hS hz hU hW⟩⟩ rfl rfl hl.1 rfl (lv_room (Nat.le_of_ble_eq_true rfl)) d_X_afterCut_1 ⟨Nat.le_of_ble_eq_true rfl, Nat.le_of_ble_eq_true rfl⟩) hS (fun q _ h => h) (fun q h => h) (fun u t H locs ht hvm hw hB _ _ hS => ?_)
  obtain ⟨rfl, rfl⟩ := hw
  obtain ⟨hP, hD⟩ := x_back hB ht
  refine lv_bipush (v := (-2 : Int32)) hx hb d_X_afterCut_4 (by decide) ?_
  obtain ⟨rfl, rfl⟩ := x_ret hf
  exact W.iret (v := (-2 : Int32)) hx hb hr (fun t ht hW => ⟨⟨_, _, rfl, ⟨rfl, rfl⟩, x_pw hP hD hK hG hS hz ht hW⟩, hS.F ht⟩) hS.2.2 d_X_afterCut_6
