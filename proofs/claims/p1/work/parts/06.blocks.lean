theorem t_3 : Cond.initialized "ContentLibrary$Blocks" ∈ x_big := x_bt 3 (by decide +kernel) (by decide +kernel)
theorem t_15 : Cond.initialized "java/util/Arrays" ∈ x_big := x_bt 15 (by decide +kernel) (by decide +kernel)
theorem t_17 : Cond.initialized "java/lang/Integer" ∈ x_big := x_bt 17 (by decide +kernel) (by decide +kernel)
theorem t_39 : Cond.fieldLink "ContentLibrary$Blocks" 11 "ContentLibrary$Blocks" "count" "I" ∈ x_big := x_bt 39 (by decide +kernel) (by decide +kernel)
theorem t_41 : Cond.fieldLink "ContentLibrary$Blocks" 15 "ContentLibrary$Blocks" "fuse" "I" ∈ x_big := x_bt 41 (by decide +kernel) (by decide +kernel)
theorem t_43 : Cond.fieldLink "ContentLibrary$Blocks" 18 "ContentLibrary$Blocks" "cut" "Z" ∈ x_big := x_bt 43 (by decide +kernel) (by decide +kernel)
theorem t_45 : Cond.fieldLink "ContentLibrary$Blocks" 22 "ContentLibrary$Blocks" "bytes" "[I" ∈ x_big := x_bt 45 (by decide +kernel) (by decide +kernel)
theorem t_46 : Cond.fieldLink "ContentLibrary$Blocks" 26 "ContentLibrary$Blocks" "image" "[I" ∈ x_big := x_bt 46 (by decide +kernel) (by decide +kernel)
theorem t_70 : Cond.fieldLink "ContentLibrary$Blocks" 78 "ContentLibrary$Picture" "message" "[I" ∈ x_big := x_bt 70 (by decide +kernel) (by decide +kernel)
theorem t_174 : Cond.methodLink "ContentLibrary$Blocks" 29 (⟨"ContentLibrary$Blocks", "get", "(II)I"⟩ : MethodName) ∈ x_big := x_bt 174 (by decide +kernel) (by decide +kernel)
theorem t_175 : Cond.instanceMethod (⟨"ContentLibrary$Blocks", "get", "(II)I"⟩ : MethodName) ∈ x_big := x_bt 175 (by decide +kernel) (by decide +kernel)
theorem t_176 : Cond.selects "ContentLibrary$Blocks" (⟨"ContentLibrary$Blocks", "get", "(II)I"⟩ : MethodName) (⟨"ContentLibrary$Blocks", "get", "(II)I"⟩ : MethodName) ∈ x_big := x_bt 176 (by decide +kernel) (by decide +kernel)
theorem t_177 : Cond.code (⟨"ContentLibrary$Blocks", "get", "(II)I"⟩ : MethodName) prog_2_method_3_code 3 (some .int) ∈ x_big := x_bt 177 (by decide +kernel) (by decide +kernel)
theorem t_178 : Cond.methodLink "ContentLibrary$Blocks" 50 (⟨"ContentLibrary$Blocks", "isGood", "(I)Z"⟩ : MethodName) ∈ x_big := x_bt 178 (by decide +kernel) (by decide +kernel)
theorem t_179 : Cond.instanceMethod (⟨"ContentLibrary$Blocks", "isGood", "(I)Z"⟩ : MethodName) ∈ x_big := x_bt 179 (by decide +kernel) (by decide +kernel)
theorem t_180 : Cond.selects "ContentLibrary$Blocks" (⟨"ContentLibrary$Blocks", "isGood", "(I)Z"⟩ : MethodName) (⟨"ContentLibrary$Blocks", "isGood", "(I)Z"⟩ : MethodName) ∈ x_big := x_bt 180 (by decide +kernel) (by decide +kernel)
theorem t_181 : Cond.code (⟨"ContentLibrary$Blocks", "isGood", "(I)Z"⟩ : MethodName) prog_2_method_6_code 3 (some .boolean) ∈ x_big := x_bt 181 (by decide +kernel) (by decide +kernel)
theorem t_182 : Cond.methodLink "ContentLibrary$Blocks" 33 (⟨"ContentLibrary$Blocks", "hasRightSum", "(I)Z"⟩ : MethodName) ∈ x_big := x_bt 182 (by decide +kernel) (by decide +kernel)
theorem t_184 : Cond.instanceMethod (⟨"ContentLibrary$Blocks", "hasRightSum", "(I)Z"⟩ : MethodName) ∈ x_big := x_bt 184 (by decide +kernel) (by decide +kernel)
theorem t_185 : Cond.code (⟨"ContentLibrary$Blocks", "hasRightSum", "(I)Z"⟩ : MethodName) prog_2_method_7_code 4 (some .boolean) ∈ x_big := x_bt 185 (by decide +kernel) (by decide +kernel)
theorem t_186 : Cond.methodLink "ContentLibrary$Blocks" 37 (⟨"ContentLibrary$Blocks", "sumOf", "(I[II)I"⟩ : MethodName) ∈ x_big := x_bt 186 (by decide +kernel) (by decide +kernel)
theorem t_187 : Cond.static (⟨"ContentLibrary$Blocks", "sumOf", "(I[II)I"⟩ : MethodName) ∈ x_big := x_bt 187 (by decide +kernel) (by decide +kernel)
theorem t_188 : Cond.code (⟨"ContentLibrary$Blocks", "sumOf", "(I[II)I"⟩ : MethodName) prog_2_method_8_code 5 (some .int) ∈ x_big := x_bt 188 (by decide +kernel) (by decide +kernel)
theorem t_189 : Cond.methodLink "ContentLibrary$Blocks" 44 (⟨"java/lang/Integer", "rotateLeft", "(II)I"⟩ : MethodName) ∈ x_big := x_bt 189 (by decide +kernel) (by decide +kernel)
theorem t_190 : Cond.static (⟨"java/lang/Integer", "rotateLeft", "(II)I"⟩ : MethodName) ∈ x_big := x_bt 190 (by decide +kernel) (by decide +kernel)
theorem t_191 : Cond.code (⟨"java/lang/Integer", "rotateLeft", "(II)I"⟩ : MethodName) prog_12_method_50_code 2 (some .int) ∈ x_big := x_bt 191 (by decide +kernel) (by decide +kernel)
theorem t_192 : Cond.constant "ContentLibrary$Blocks" 49 374761393 ∈ x_big := x_bt 192 (by decide +kernel) (by decide +kernel)
theorem t_193 : Cond.methodLink "ContentLibrary$Blocks" 41 (⟨"ContentLibrary$Blocks", "byteOfSum", "(II)I"⟩ : MethodName) ∈ x_big := x_bt 193 (by decide +kernel) (by decide +kernel)
theorem t_194 : Cond.static (⟨"ContentLibrary$Blocks", "byteOfSum", "(II)I"⟩ : MethodName) ∈ x_big := x_bt 194 (by decide +kernel) (by decide +kernel)
theorem t_195 : Cond.code (⟨"ContentLibrary$Blocks", "byteOfSum", "(II)I"⟩ : MethodName) prog_2_method_9_code 2 (some .int) ∈ x_big := x_bt 195 (by decide +kernel) (by decide +kernel)
theorem t_206 : Cond.static (⟨"ContentLibrary$Blocks", "kindOf", "(I)I"⟩ : MethodName) ∈ x_big := x_bt 206 (by decide +kernel) (by decide +kernel)
theorem t_207 : Cond.code (⟨"ContentLibrary$Blocks", "kindOf", "(I)I"⟩ : MethodName) prog_2_method_2_code 1 (some .int) ∈ x_big := x_bt 207 (by decide +kernel) (by decide +kernel)
theorem t_212 : Cond.methodLink "ContentLibrary$Blocks" 53 (⟨"java/lang/System", "arraycopy", "(Ljava/lang/Object;ILjava/lang/Object;II)V"⟩ : MethodName) ∈ x_big := x_bt 212 (by decide +kernel) (by decide +kernel)
theorem t_251 : Cond.static (⟨"java/util/Arrays", "fill", "([II)V"⟩ : MethodName) ∈ x_big := x_bt 251 (by decide +kernel) (by decide +kernel)
theorem t_252 : Cond.code (⟨"java/util/Arrays", "fill", "([II)V"⟩ : MethodName) prog_20_method_103_code 4 none ∈ x_big := x_bt 252 (by decide +kernel) (by decide +kernel)
theorem t_517 : Cond.methodLink "ContentLibrary$Blocks" 90 (⟨"ContentLibrary$Blocks", "put", "(III)Z"⟩ : MethodName) ∈ x_big := x_bt 517 (by decide +kernel) (by decide +kernel)
theorem t_519 : Cond.instanceMethod (⟨"ContentLibrary$Blocks", "put", "(III)Z"⟩ : MethodName) ∈ x_big := x_bt 519 (by decide +kernel) (by decide +kernel)
theorem t_520 : Cond.code (⟨"ContentLibrary$Blocks", "put", "(III)Z"⟩ : MethodName) prog_2_method_18_code 4 (some .boolean) ∈ x_big := x_bt 520 (by decide +kernel) (by decide +kernel)
theorem t_525 : Cond.methodLink "ContentLibrary$Blocks" 59 (⟨"ContentLibrary$Picture", "length", "()I"⟩ : MethodName) ∈ x_big := x_bt 525 (by decide +kernel) (by decide +kernel)
theorem t_526 : Cond.methodLink "ContentLibrary$Blocks" 65 (⟨"java/lang/Math", "min", "(II)I"⟩ : MethodName) ∈ x_big := x_bt 526 (by decide +kernel) (by decide +kernel)
theorem t_527 : Cond.methodLink "ContentLibrary$Blocks" 70 (⟨"ContentLibrary$Blocks", "kindOf", "(I)I"⟩ : MethodName) ∈ x_big := x_bt 527 (by decide +kernel) (by decide +kernel)
theorem t_528 : Cond.methodLink "ContentLibrary$Blocks" 74 (⟨"ContentLibrary$Blocks", "beginImage", "(IIII)V"⟩ : MethodName) ∈ x_big := x_bt 528 (by decide +kernel) (by decide +kernel)
theorem t_530 : Cond.instanceMethod (⟨"ContentLibrary$Blocks", "beginImage", "(IIII)V"⟩ : MethodName) ∈ x_big := x_bt 530 (by decide +kernel) (by decide +kernel)
theorem t_531 : Cond.code (⟨"ContentLibrary$Blocks", "beginImage", "(IIII)V"⟩ : MethodName) prog_2_method_15_code 5 none ∈ x_big := x_bt 531 (by decide +kernel) (by decide +kernel)
theorem t_532 : Cond.methodLink "ContentLibrary$Blocks" 84 (⟨"java/util/Arrays", "fill", "([II)V"⟩ : MethodName) ∈ x_big := x_bt 532 (by decide +kernel) (by decide +kernel)
theorem t_533 : Cond.methodLink "ContentLibrary$Blocks" 81 (⟨"ContentLibrary$Blocks", "writeImage", "(I)Z"⟩ : MethodName) ∈ x_big := x_bt 533 (by decide +kernel) (by decide +kernel)
theorem t_535 : Cond.instanceMethod (⟨"ContentLibrary$Blocks", "writeImage", "(I)Z"⟩ : MethodName) ∈ x_big := x_bt 535 (by decide +kernel) (by decide +kernel)
theorem t_536 : Cond.code (⟨"ContentLibrary$Blocks", "writeImage", "(I)Z"⟩ : MethodName) prog_2_method_16_code 5 (some .boolean) ∈ x_big := x_bt 536 (by decide +kernel) (by decide +kernel)
theorem sel_ContentLibrary_Blocks_beginImage : Cond.selects "ContentLibrary$Blocks" (⟨"ContentLibrary$Blocks", "beginImage", "(IIII)V"⟩ : MethodName) (⟨"ContentLibrary$Blocks", "beginImage", "(IIII)V"⟩ : MethodName) ∈ x_big := x_bs 21 (by decide +kernel) (by decide +kernel)
theorem sel_ContentLibrary_Blocks_hasRightSum : Cond.selects "ContentLibrary$Blocks" (⟨"ContentLibrary$Blocks", "hasRightSum", "(I)Z"⟩ : MethodName) (⟨"ContentLibrary$Blocks", "hasRightSum", "(I)Z"⟩ : MethodName) ∈ x_big := x_bs 2 (by decide +kernel) (by decide +kernel)
theorem sel_ContentLibrary_Blocks_put : Cond.selects "ContentLibrary$Blocks" (⟨"ContentLibrary$Blocks", "put", "(III)Z"⟩ : MethodName) (⟨"ContentLibrary$Blocks", "put", "(III)Z"⟩ : MethodName) ∈ x_big := x_bs 20 (by decide +kernel) (by decide +kernel)
theorem sel_ContentLibrary_Blocks_writeImage : Cond.selects "ContentLibrary$Blocks" (⟨"ContentLibrary$Blocks", "writeImage", "(I)Z"⟩ : MethodName) (⟨"ContentLibrary$Blocks", "writeImage", "(I)Z"⟩ : MethodName) ∈ x_big := x_bs 22 (by decide +kernel) (by decide +kernel)
theorem d_B_kindOf_0 : decode prog_2_method_2_code 0 = .ok (.iload_n 0, 1) := by decide +kernel
theorem d_B_kindOf_1 : decode prog_2_method_2_code 1 = .ok (.ifCond .ne 7, 3) := by decide +kernel
theorem d_B_kindOf_4 : decode prog_2_method_2_code 4 = .ok (.iconst 1, 1) := by decide +kernel
theorem d_B_kindOf_5 : decode prog_2_method_2_code 5 = .ok (.goto 4, 3) := by decide +kernel
theorem d_B_kindOf_9 : decode prog_2_method_2_code 9 = .ok (.ireturn, 1) := by decide +kernel
theorem d_B_kindOf_8 : decode prog_2_method_2_code 8 = .ok (.iconst 2, 1) := by decide +kernel
theorem d_B_get_0 : decode prog_2_method_3_code 0 = .ok (.aload_n 0, 1) := by decide +kernel
theorem d_B_get_1 : decode prog_2_method_3_code 1 = .ok (.getfield 22, 3) := by decide +kernel
theorem d_B_get_4 : decode prog_2_method_3_code 4 = .ok (.iload_n 1, 1) := by decide +kernel
theorem d_B_get_5 : decode prog_2_method_3_code 5 = .ok (.bipush 64, 2) := by decide +kernel
theorem d_B_get_7 : decode prog_2_method_3_code 7 = .ok (.imul, 1) := by decide +kernel
theorem d_B_get_8 : decode prog_2_method_3_code 8 = .ok (.iload_n 2, 1) := by decide +kernel
theorem d_B_get_9 : decode prog_2_method_3_code 9 = .ok (.iadd, 1) := by decide +kernel
theorem d_B_get_10 : decode prog_2_method_3_code 10 = .ok (.iaload, 1) := by decide +kernel
theorem d_B_get_11 : decode prog_2_method_3_code 11 = .ok (.ireturn, 1) := by decide +kernel
theorem d_B_turn_0 : decode prog_2_method_4_code 0 = .ok (.aload_n 0, 1) := by decide +kernel
theorem d_B_turn_1 : decode prog_2_method_4_code 1 = .ok (.getfield 22, 3) := by decide +kernel
theorem d_B_turn_4 : decode prog_2_method_4_code 4 = .ok (.iload_n 1, 1) := by decide +kernel
theorem d_B_turn_5 : decode prog_2_method_4_code 5 = .ok (.bipush 64, 2) := by decide +kernel
theorem d_B_turn_7 : decode prog_2_method_4_code 7 = .ok (.imul, 1) := by decide +kernel
theorem d_B_turn_8 : decode prog_2_method_4_code 8 = .ok (.iload_n 2, 1) := by decide +kernel
theorem d_B_turn_9 : decode prog_2_method_4_code 9 = .ok (.iadd, 1) := by decide +kernel
theorem d_B_turn_10 : decode prog_2_method_4_code 10 = .ok (.dup2, 1) := by decide +kernel
theorem d_B_turn_11 : decode prog_2_method_4_code 11 = .ok (.iaload, 1) := by decide +kernel
theorem d_B_turn_12 : decode prog_2_method_4_code 12 = .ok (.iload_n 3, 1) := by decide +kernel
theorem d_B_turn_13 : decode prog_2_method_4_code 13 = .ok (.ixor, 1) := by decide +kernel
theorem d_B_turn_14 : decode prog_2_method_4_code 14 = .ok (.iastore, 1) := by decide +kernel
theorem d_B_turn_15 : decode prog_2_method_4_code 15 = .ok (.aload_n 0, 1) := by decide +kernel
theorem d_B_turn_16 : decode prog_2_method_4_code 16 = .ok (.iload_n 1, 1) := by decide +kernel
theorem d_B_turn_17 : decode prog_2_method_4_code 17 = .ok (.iload_n 2, 1) := by decide +kernel
theorem d_B_turn_18 : decode prog_2_method_4_code 18 = .ok (.invokevirtual 29, 3) := by decide +kernel
theorem d_B_turn_21 : decode prog_2_method_4_code 21 = .ok (.ireturn, 1) := by decide +kernel
theorem d_B_isBlank_0 : decode prog_2_method_5_code 0 = .ok (.iconst 0, 1) := by decide +kernel
theorem d_B_isBlank_1 : decode prog_2_method_5_code 1 = .ok (.istore_n 2, 1) := by decide +kernel
theorem d_B_isBlank_2 : decode prog_2_method_5_code 2 = .ok (.iload_n 2, 1) := by decide +kernel
theorem d_B_isBlank_3 : decode prog_2_method_5_code 3 = .ok (.bipush 64, 2) := by decide +kernel
theorem d_B_isBlank_5 : decode prog_2_method_5_code 5 = .ok (.if_icmp .ge 20, 3) := by decide +kernel
theorem d_B_isBlank_8 : decode prog_2_method_5_code 8 = .ok (.aload_n 0, 1) := by decide +kernel
theorem d_B_isBlank_9 : decode prog_2_method_5_code 9 = .ok (.iload_n 1, 1) := by decide +kernel
theorem d_B_isBlank_10 : decode prog_2_method_5_code 10 = .ok (.iload_n 2, 1) := by decide +kernel
theorem d_B_isBlank_11 : decode prog_2_method_5_code 11 = .ok (.invokevirtual 29, 3) := by decide +kernel
theorem d_B_isBlank_14 : decode prog_2_method_5_code 14 = .ok (.ifCond .eq 5, 3) := by decide +kernel
theorem d_B_isBlank_17 : decode prog_2_method_5_code 17 = .ok (.iconst 0, 1) := by decide +kernel
theorem d_B_isBlank_18 : decode prog_2_method_5_code 18 = .ok (.ireturn, 1) := by decide +kernel
theorem d_B_isBlank_19 : decode prog_2_method_5_code 19 = .ok (.iinc 2 1, 3) := by decide +kernel
theorem d_B_isBlank_22 : decode prog_2_method_5_code 22 = .ok (.goto (-20), 3) := by decide +kernel
theorem d_B_isBlank_25 : decode prog_2_method_5_code 25 = .ok (.iconst 1, 1) := by decide +kernel
theorem d_B_isBlank_26 : decode prog_2_method_5_code 26 = .ok (.ireturn, 1) := by decide +kernel
theorem d_B_sumOf_0 : decode prog_2_method_8_code 0 = .ok (.iload_n 0, 1) := by decide +kernel
theorem d_B_sumOf_1 : decode prog_2_method_8_code 1 = .ok (.sipush 256, 3) := by decide +kernel
theorem d_B_sumOf_4 : decode prog_2_method_8_code 4 = .ok (.iadd, 1) := by decide +kernel
theorem d_B_sumOf_5 : decode prog_2_method_8_code 5 = .ok (.istore_n 3, 1) := by decide +kernel
theorem d_B_sumOf_6 : decode prog_2_method_8_code 6 = .ok (.iconst 4, 1) := by decide +kernel
theorem d_B_sumOf_7 : decode prog_2_method_8_code 7 = .ok (.istore 4, 2) := by decide +kernel
theorem d_B_sumOf_9 : decode prog_2_method_8_code 9 = .ok (.iload 4, 2) := by decide +kernel
theorem d_B_sumOf_11 : decode prog_2_method_8_code 11 = .ok (.bipush 64, 2) := by decide +kernel
theorem d_B_sumOf_13 : decode prog_2_method_8_code 13 = .ok (.if_icmp .ge 26, 3) := by decide +kernel
theorem d_B_sumOf_16 : decode prog_2_method_8_code 16 = .ok (.iload_n 3, 1) := by decide +kernel
theorem d_B_sumOf_17 : decode prog_2_method_8_code 17 = .ok (.aload_n 1, 1) := by decide +kernel
theorem d_B_sumOf_18 : decode prog_2_method_8_code 18 = .ok (.iload_n 2, 1) := by decide +kernel
theorem d_B_sumOf_19 : decode prog_2_method_8_code 19 = .ok (.iload 4, 2) := by decide +kernel
theorem d_B_sumOf_21 : decode prog_2_method_8_code 21 = .ok (.iadd, 1) := by decide +kernel
theorem d_B_sumOf_22 : decode prog_2_method_8_code 22 = .ok (.iaload, 1) := by decide +kernel
theorem d_B_sumOf_23 : decode prog_2_method_8_code 23 = .ok (.ixor, 1) := by decide +kernel
theorem d_B_sumOf_24 : decode prog_2_method_8_code 24 = .ok (.bipush 7, 2) := by decide +kernel
theorem d_B_sumOf_26 : decode prog_2_method_8_code 26 = .ok (.invokestatic 44, 3) := by decide +kernel
theorem d_B_sumOf_29 : decode prog_2_method_8_code 29 = .ok (.ldc 49, 2) := by decide +kernel
theorem d_B_sumOf_31 : decode prog_2_method_8_code 31 = .ok (.imul, 1) := by decide +kernel
theorem d_B_sumOf_32 : decode prog_2_method_8_code 32 = .ok (.istore_n 3, 1) := by decide +kernel
theorem d_B_sumOf_33 : decode prog_2_method_8_code 33 = .ok (.iinc 4 1, 3) := by decide +kernel
theorem d_B_sumOf_36 : decode prog_2_method_8_code 36 = .ok (.goto (-27), 3) := by decide +kernel
theorem d_B_sumOf_39 : decode prog_2_method_8_code 39 = .ok (.iload_n 3, 1) := by decide +kernel
theorem d_B_sumOf_40 : decode prog_2_method_8_code 40 = .ok (.ireturn, 1) := by decide +kernel
theorem d_B_byteOfSum_0 : decode prog_2_method_9_code 0 = .ok (.iload_n 0, 1) := by decide +kernel
theorem d_B_byteOfSum_1 : decode prog_2_method_9_code 1 = .ok (.bipush 8, 2) := by decide +kernel
theorem d_B_byteOfSum_3 : decode prog_2_method_9_code 3 = .ok (.iload_n 1, 1) := by decide +kernel
theorem d_B_byteOfSum_4 : decode prog_2_method_9_code 4 = .ok (.imul, 1) := by decide +kernel
theorem d_B_byteOfSum_5 : decode prog_2_method_9_code 5 = .ok (.iushr, 1) := by decide +kernel
theorem d_B_byteOfSum_6 : decode prog_2_method_9_code 6 = .ok (.sipush 255, 3) := by decide +kernel
theorem d_B_byteOfSum_9 : decode prog_2_method_9_code 9 = .ok (.iand, 1) := by decide +kernel
theorem d_B_byteOfSum_10 : decode prog_2_method_9_code 10 = .ok (.ireturn, 1) := by decide +kernel
theorem d_B_hasRightSum_0 : decode prog_2_method_7_code 0 = .ok (.iload_n 1, 1) := by decide +kernel
theorem d_B_hasRightSum_1 : decode prog_2_method_7_code 1 = .ok (.aload_n 0, 1) := by decide +kernel
theorem d_B_hasRightSum_2 : decode prog_2_method_7_code 2 = .ok (.getfield 22, 3) := by decide +kernel
theorem d_B_hasRightSum_5 : decode prog_2_method_7_code 5 = .ok (.iload_n 1, 1) := by decide +kernel
theorem d_B_hasRightSum_6 : decode prog_2_method_7_code 6 = .ok (.bipush 64, 2) := by decide +kernel
theorem d_B_hasRightSum_8 : decode prog_2_method_7_code 8 = .ok (.imul, 1) := by decide +kernel
theorem d_B_hasRightSum_9 : decode prog_2_method_7_code 9 = .ok (.invokestatic 37, 3) := by decide +kernel
theorem d_B_hasRightSum_12 : decode prog_2_method_7_code 12 = .ok (.istore_n 2, 1) := by decide +kernel
theorem d_B_hasRightSum_13 : decode prog_2_method_7_code 13 = .ok (.iconst 0, 1) := by decide +kernel
theorem d_B_hasRightSum_14 : decode prog_2_method_7_code 14 = .ok (.istore_n 3, 1) := by decide +kernel
theorem d_B_hasRightSum_15 : decode prog_2_method_7_code 15 = .ok (.iload_n 3, 1) := by decide +kernel
theorem d_B_hasRightSum_16 : decode prog_2_method_7_code 16 = .ok (.iconst 4, 1) := by decide +kernel
theorem d_B_hasRightSum_17 : decode prog_2_method_7_code 17 = .ok (.if_icmp .ge 25, 3) := by decide +kernel
theorem d_B_hasRightSum_20 : decode prog_2_method_7_code 20 = .ok (.aload_n 0, 1) := by decide +kernel
theorem d_B_hasRightSum_21 : decode prog_2_method_7_code 21 = .ok (.iload_n 1, 1) := by decide +kernel
theorem d_B_hasRightSum_22 : decode prog_2_method_7_code 22 = .ok (.iload_n 3, 1) := by decide +kernel
theorem d_B_hasRightSum_23 : decode prog_2_method_7_code 23 = .ok (.invokevirtual 29, 3) := by decide +kernel
theorem d_B_hasRightSum_26 : decode prog_2_method_7_code 26 = .ok (.iload_n 2, 1) := by decide +kernel
theorem d_B_hasRightSum_27 : decode prog_2_method_7_code 27 = .ok (.iload_n 3, 1) := by decide +kernel
theorem d_B_hasRightSum_28 : decode prog_2_method_7_code 28 = .ok (.invokestatic 41, 3) := by decide +kernel
theorem d_B_hasRightSum_31 : decode prog_2_method_7_code 31 = .ok (.if_icmp .eq 5, 3) := by decide +kernel
theorem d_B_hasRightSum_34 : decode prog_2_method_7_code 34 = .ok (.iconst 0, 1) := by decide +kernel
theorem d_B_hasRightSum_35 : decode prog_2_method_7_code 35 = .ok (.ireturn, 1) := by decide +kernel
theorem d_B_hasRightSum_36 : decode prog_2_method_7_code 36 = .ok (.iinc 3 1, 3) := by decide +kernel
theorem d_B_hasRightSum_39 : decode prog_2_method_7_code 39 = .ok (.goto (-24), 3) := by decide +kernel
theorem d_B_hasRightSum_42 : decode prog_2_method_7_code 42 = .ok (.iconst 1, 1) := by decide +kernel
theorem d_B_hasRightSum_43 : decode prog_2_method_7_code 43 = .ok (.ireturn, 1) := by decide +kernel
theorem d_B_isGood_0 : decode prog_2_method_6_code 0 = .ok (.aload_n 0, 1) := by decide +kernel
theorem d_B_isGood_1 : decode prog_2_method_6_code 1 = .ok (.iload_n 1, 1) := by decide +kernel
theorem d_B_isGood_2 : decode prog_2_method_6_code 2 = .ok (.iconst 4, 1) := by decide +kernel
theorem d_B_isGood_3 : decode prog_2_method_6_code 3 = .ok (.invokevirtual 29, 3) := by decide +kernel
theorem d_B_isGood_6 : decode prog_2_method_6_code 6 = .ok (.istore_n 2, 1) := by decide +kernel
theorem d_B_isGood_7 : decode prog_2_method_6_code 7 = .ok (.iload_n 2, 1) := by decide +kernel
theorem d_B_isGood_8 : decode prog_2_method_6_code 8 = .ok (.iconst 1, 1) := by decide +kernel
theorem d_B_isGood_9 : decode prog_2_method_6_code 9 = .ok (.if_icmp .lt 43, 3) := by decide +kernel
theorem d_B_isGood_12 : decode prog_2_method_6_code 12 = .ok (.iload_n 2, 1) := by decide +kernel
theorem d_B_isGood_13 : decode prog_2_method_6_code 13 = .ok (.iconst 3, 1) := by decide +kernel
theorem d_B_isGood_14 : decode prog_2_method_6_code 14 = .ok (.if_icmp .gt 38, 3) := by decide +kernel
theorem d_B_isGood_17 : decode prog_2_method_6_code 17 = .ok (.aload_n 0, 1) := by decide +kernel
theorem d_B_isGood_18 : decode prog_2_method_6_code 18 = .ok (.iload_n 1, 1) := by decide +kernel
theorem d_B_isGood_19 : decode prog_2_method_6_code 19 = .ok (.iconst 5, 1) := by decide +kernel
theorem d_B_isGood_20 : decode prog_2_method_6_code 20 = .ok (.invokevirtual 29, 3) := by decide +kernel
theorem d_B_isGood_23 : decode prog_2_method_6_code 23 = .ok (.bipush 16, 2) := by decide +kernel
theorem d_B_isGood_25 : decode prog_2_method_6_code 25 = .ok (.if_icmp .ge 27, 3) := by decide +kernel
theorem d_B_isGood_28 : decode prog_2_method_6_code 28 = .ok (.aload_n 0, 1) := by decide +kernel
theorem d_B_isGood_29 : decode prog_2_method_6_code 29 = .ok (.iload_n 1, 1) := by decide +kernel
theorem d_B_isGood_30 : decode prog_2_method_6_code 30 = .ok (.bipush 7, 2) := by decide +kernel
theorem d_B_isGood_32 : decode prog_2_method_6_code 32 = .ok (.invokevirtual 29, 3) := by decide +kernel
theorem d_B_isGood_35 : decode prog_2_method_6_code 35 = .ok (.bipush 56, 2) := by decide +kernel
theorem d_B_isGood_37 : decode prog_2_method_6_code 37 = .ok (.if_icmp .gt 15, 3) := by decide +kernel
theorem d_B_isGood_40 : decode prog_2_method_6_code 40 = .ok (.aload_n 0, 1) := by decide +kernel
theorem d_B_isGood_41 : decode prog_2_method_6_code 41 = .ok (.iload_n 1, 1) := by decide +kernel
theorem d_B_isGood_42 : decode prog_2_method_6_code 42 = .ok (.invokevirtual 33, 3) := by decide +kernel
theorem d_B_isGood_45 : decode prog_2_method_6_code 45 = .ok (.ifCond .eq 7, 3) := by decide +kernel
theorem d_B_isGood_48 : decode prog_2_method_6_code 48 = .ok (.iconst 1, 1) := by decide +kernel
theorem d_B_isGood_49 : decode prog_2_method_6_code 49 = .ok (.goto 4, 3) := by decide +kernel
theorem d_B_isGood_53 : decode prog_2_method_6_code 53 = .ok (.ireturn, 1) := by decide +kernel
theorem d_B_isGood_52 : decode prog_2_method_6_code 52 = .ok (.iconst 0, 1) := by decide +kernel
theorem d_B_onlyGood_0 : decode prog_2_method_10_code 0 = .ok (.iconst (-1), 1) := by decide +kernel
theorem d_B_onlyGood_1 : decode prog_2_method_10_code 1 = .ok (.istore 4, 2) := by decide +kernel
theorem d_B_onlyGood_3 : decode prog_2_method_10_code 3 = .ok (.iconst 0, 1) := by decide +kernel
theorem d_B_onlyGood_4 : decode prog_2_method_10_code 4 = .ok (.istore 5, 2) := by decide +kernel
theorem d_B_onlyGood_6 : decode prog_2_method_10_code 6 = .ok (.iload 5, 2) := by decide +kernel
theorem d_B_onlyGood_8 : decode prog_2_method_10_code 8 = .ok (.aload_n 0, 1) := by decide +kernel
theorem d_B_onlyGood_9 : decode prog_2_method_10_code 9 = .ok (.getfield 11, 3) := by decide +kernel
theorem d_B_onlyGood_12 : decode prog_2_method_10_code 12 = .ok (.if_icmp .ge 81, 3) := by decide +kernel
theorem d_B_onlyGood_15 : decode prog_2_method_10_code 15 = .ok (.aload_n 0, 1) := by decide +kernel
theorem d_B_onlyGood_16 : decode prog_2_method_10_code 16 = .ok (.iload 5, 2) := by decide +kernel
theorem d_B_onlyGood_18 : decode prog_2_method_10_code 18 = .ok (.iconst 4, 1) := by decide +kernel
theorem d_B_onlyGood_19 : decode prog_2_method_10_code 19 = .ok (.invokevirtual 29, 3) := by decide +kernel
theorem d_B_onlyGood_22 : decode prog_2_method_10_code 22 = .ok (.iload_n 1, 1) := by decide +kernel
theorem d_B_onlyGood_23 : decode prog_2_method_10_code 23 = .ok (.if_icmp .ne 35, 3) := by decide +kernel
theorem d_B_onlyGood_26 : decode prog_2_method_10_code 26 = .ok (.aload_n 0, 1) := by decide +kernel
theorem d_B_onlyGood_27 : decode prog_2_method_10_code 27 = .ok (.iload 5, 2) := by decide +kernel
theorem d_B_onlyGood_29 : decode prog_2_method_10_code 29 = .ok (.iconst 5, 1) := by decide +kernel
theorem d_B_onlyGood_30 : decode prog_2_method_10_code 30 = .ok (.invokevirtual 29, 3) := by decide +kernel
theorem d_B_onlyGood_33 : decode prog_2_method_10_code 33 = .ok (.iload_n 2, 1) := by decide +kernel
theorem d_B_onlyGood_34 : decode prog_2_method_10_code 34 = .ok (.if_icmp .ne 24, 3) := by decide +kernel
theorem d_B_onlyGood_37 : decode prog_2_method_10_code 37 = .ok (.iload_n 3, 1) := by decide +kernel
theorem d_B_onlyGood_38 : decode prog_2_method_10_code 38 = .ok (.iconst (-1), 1) := by decide +kernel
theorem d_B_onlyGood_39 : decode prog_2_method_10_code 39 = .ok (.if_icmp .eq 15, 3) := by decide +kernel
theorem d_B_onlyGood_42 : decode prog_2_method_10_code 42 = .ok (.aload_n 0, 1) := by decide +kernel
theorem d_B_onlyGood_43 : decode prog_2_method_10_code 43 = .ok (.iload 5, 2) := by decide +kernel
theorem d_B_onlyGood_45 : decode prog_2_method_10_code 45 = .ok (.bipush 6, 2) := by decide +kernel
theorem d_B_onlyGood_47 : decode prog_2_method_10_code 47 = .ok (.invokevirtual 29, 3) := by decide +kernel
theorem d_B_onlyGood_50 : decode prog_2_method_10_code 50 = .ok (.iload_n 3, 1) := by decide +kernel
theorem d_B_onlyGood_51 : decode prog_2_method_10_code 51 = .ok (.if_icmp .ne 7, 3) := by decide +kernel
theorem d_B_onlyGood_54 : decode prog_2_method_10_code 54 = .ok (.iconst 1, 1) := by decide +kernel
theorem d_B_onlyGood_55 : decode prog_2_method_10_code 55 = .ok (.goto 4, 3) := by decide +kernel
theorem d_B_onlyGood_59 : decode prog_2_method_10_code 59 = .ok (.istore 6, 2) := by decide +kernel
theorem d_B_onlyGood_61 : decode prog_2_method_10_code 61 = .ok (.iload 6, 2) := by decide +kernel
theorem d_B_onlyGood_63 : decode prog_2_method_10_code 63 = .ok (.ifCond .eq 24, 3) := by decide +kernel
theorem d_B_onlyGood_66 : decode prog_2_method_10_code 66 = .ok (.aload_n 0, 1) := by decide +kernel
theorem d_B_onlyGood_67 : decode prog_2_method_10_code 67 = .ok (.iload 5, 2) := by decide +kernel
theorem d_B_onlyGood_69 : decode prog_2_method_10_code 69 = .ok (.invokevirtual 50, 3) := by decide +kernel
theorem d_B_onlyGood_72 : decode prog_2_method_10_code 72 = .ok (.ifCond .eq 15, 3) := by decide +kernel
theorem d_B_onlyGood_75 : decode prog_2_method_10_code 75 = .ok (.iload 4, 2) := by decide +kernel
theorem d_B_onlyGood_77 : decode prog_2_method_10_code 77 = .ok (.iconst (-1), 1) := by decide +kernel
theorem d_B_onlyGood_78 : decode prog_2_method_10_code 78 = .ok (.if_icmp .eq 5, 3) := by decide +kernel
theorem d_B_onlyGood_81 : decode prog_2_method_10_code 81 = .ok (.iconst (-1), 1) := by decide +kernel
theorem d_B_onlyGood_82 : decode prog_2_method_10_code 82 = .ok (.ireturn, 1) := by decide +kernel
theorem d_B_onlyGood_83 : decode prog_2_method_10_code 83 = .ok (.iload 5, 2) := by decide +kernel
theorem d_B_onlyGood_85 : decode prog_2_method_10_code 85 = .ok (.istore 4, 2) := by decide +kernel
theorem d_B_onlyGood_87 : decode prog_2_method_10_code 87 = .ok (.iinc 5 1, 3) := by decide +kernel
theorem d_B_onlyGood_90 : decode prog_2_method_10_code 90 = .ok (.goto (-84), 3) := by decide +kernel
theorem d_B_onlyGood_58 : decode prog_2_method_10_code 58 = .ok (.iconst 0, 1) := by decide +kernel
theorem d_B_onlyGood_93 : decode prog_2_method_10_code 93 = .ok (.iload 4, 2) := by decide +kernel
theorem d_B_onlyGood_95 : decode prog_2_method_10_code 95 = .ok (.ireturn, 1) := by decide +kernel
theorem d_B_isMarkAsTold_0 : decode prog_2_method_11_code 0 = .ok (.aload_n 0, 1) := by decide +kernel
theorem d_B_isMarkAsTold_1 : decode prog_2_method_11_code 1 = .ok (.iload_n 1, 1) := by decide +kernel
theorem d_B_isMarkAsTold_2 : decode prog_2_method_11_code 2 = .ok (.bipush 8, 2) := by decide +kernel
theorem d_B_isMarkAsTold_4 : decode prog_2_method_11_code 4 = .ok (.invokevirtual 29, 3) := by decide +kernel
theorem d_B_isMarkAsTold_7 : decode prog_2_method_11_code 7 = .ok (.istore_n 2, 1) := by decide +kernel
theorem d_B_isMarkAsTold_8 : decode prog_2_method_11_code 8 = .ok (.aload_n 0, 1) := by decide +kernel
theorem d_B_isMarkAsTold_9 : decode prog_2_method_11_code 9 = .ok (.iload_n 1, 1) := by decide +kernel
theorem d_B_isMarkAsTold_10 : decode prog_2_method_11_code 10 = .ok (.bipush 6, 2) := by decide +kernel
theorem d_B_isMarkAsTold_12 : decode prog_2_method_11_code 12 = .ok (.invokevirtual 29, 3) := by decide +kernel
theorem d_B_isMarkAsTold_15 : decode prog_2_method_11_code 15 = .ok (.ifCond .ne 28, 3) := by decide +kernel
theorem d_B_isMarkAsTold_18 : decode prog_2_method_11_code 18 = .ok (.aload_n 0, 1) := by decide +kernel
theorem d_B_isMarkAsTold_19 : decode prog_2_method_11_code 19 = .ok (.iload_n 1, 1) := by decide +kernel
theorem d_B_isMarkAsTold_20 : decode prog_2_method_11_code 20 = .ok (.bipush 7, 2) := by decide +kernel
theorem d_B_isMarkAsTold_22 : decode prog_2_method_11_code 22 = .ok (.invokevirtual 29, 3) := by decide +kernel
theorem d_B_isMarkAsTold_25 : decode prog_2_method_11_code 25 = .ok (.iconst 1, 1) := by decide +kernel
theorem d_B_isMarkAsTold_26 : decode prog_2_method_11_code 26 = .ok (.if_icmp .ne 17, 3) := by decide +kernel
theorem d_B_isMarkAsTold_29 : decode prog_2_method_11_code 29 = .ok (.iload_n 2, 1) := by decide +kernel
theorem d_B_isMarkAsTold_30 : decode prog_2_method_11_code 30 = .ok (.iconst 1, 1) := by decide +kernel
theorem d_B_isMarkAsTold_31 : decode prog_2_method_11_code 31 = .ok (.if_icmp .lt 12, 3) := by decide +kernel
theorem d_B_isMarkAsTold_34 : decode prog_2_method_11_code 34 = .ok (.iload_n 2, 1) := by decide +kernel
theorem d_B_isMarkAsTold_35 : decode prog_2_method_11_code 35 = .ok (.iconst 2, 1) := by decide +kernel
theorem d_B_isMarkAsTold_36 : decode prog_2_method_11_code 36 = .ok (.if_icmp .gt 7, 3) := by decide +kernel
theorem d_B_isMarkAsTold_39 : decode prog_2_method_11_code 39 = .ok (.iconst 1, 1) := by decide +kernel
theorem d_B_isMarkAsTold_40 : decode prog_2_method_11_code 40 = .ok (.goto 4, 3) := by decide +kernel
theorem d_B_isMarkAsTold_44 : decode prog_2_method_11_code 44 = .ok (.ireturn, 1) := by decide +kernel
theorem d_B_isMarkAsTold_43 : decode prog_2_method_11_code 43 = .ok (.iconst 0, 1) := by decide +kernel
theorem d_B_copyData_0 : decode prog_2_method_12_code 0 = .ok (.aload_n 0, 1) := by decide +kernel
theorem d_B_copyData_1 : decode prog_2_method_12_code 1 = .ok (.getfield 22, 3) := by decide +kernel
theorem d_B_copyData_4 : decode prog_2_method_12_code 4 = .ok (.iload_n 1, 1) := by decide +kernel
theorem d_B_copyData_5 : decode prog_2_method_12_code 5 = .ok (.bipush 64, 2) := by decide +kernel
theorem d_B_copyData_7 : decode prog_2_method_12_code 7 = .ok (.imul, 1) := by decide +kernel
theorem d_B_copyData_8 : decode prog_2_method_12_code 8 = .ok (.bipush 8, 2) := by decide +kernel
theorem d_B_copyData_10 : decode prog_2_method_12_code 10 = .ok (.iadd, 1) := by decide +kernel
theorem d_B_copyData_11 : decode prog_2_method_12_code 11 = .ok (.aload_n 3, 1) := by decide +kernel
theorem d_B_copyData_12 : decode prog_2_method_12_code 12 = .ok (.iload 4, 2) := by decide +kernel
theorem d_B_copyData_14 : decode prog_2_method_12_code 14 = .ok (.iload_n 2, 1) := by decide +kernel
theorem d_B_copyData_15 : decode prog_2_method_12_code 15 = .ok (.invokestatic 53, 3) := by decide +kernel
theorem d_B_copyData_18 : decode prog_2_method_12_code 18 = .ok (.return_, 1) := by decide +kernel
theorem d_B_beginImage_0 : decode prog_2_method_15_code 0 = .ok (.aload_n 0, 1) := by decide +kernel
theorem d_B_beginImage_1 : decode prog_2_method_15_code 1 = .ok (.getfield 26, 3) := by decide +kernel
theorem d_B_beginImage_4 : decode prog_2_method_15_code 4 = .ok (.iconst 0, 1) := by decide +kernel
theorem d_B_beginImage_5 : decode prog_2_method_15_code 5 = .ok (.invokestatic 84, 3) := by decide +kernel
theorem d_B_beginImage_8 : decode prog_2_method_15_code 8 = .ok (.aload_n 0, 1) := by decide +kernel
theorem d_B_beginImage_9 : decode prog_2_method_15_code 9 = .ok (.getfield 26, 3) := by decide +kernel
theorem d_B_beginImage_12 : decode prog_2_method_15_code 12 = .ok (.iconst 4, 1) := by decide +kernel
theorem d_B_beginImage_13 : decode prog_2_method_15_code 13 = .ok (.iload_n 1, 1) := by decide +kernel
theorem d_B_beginImage_14 : decode prog_2_method_15_code 14 = .ok (.iastore, 1) := by decide +kernel
theorem d_B_beginImage_15 : decode prog_2_method_15_code 15 = .ok (.aload_n 0, 1) := by decide +kernel
theorem d_B_beginImage_16 : decode prog_2_method_15_code 16 = .ok (.getfield 26, 3) := by decide +kernel
theorem d_B_beginImage_19 : decode prog_2_method_15_code 19 = .ok (.iconst 5, 1) := by decide +kernel
theorem d_B_beginImage_20 : decode prog_2_method_15_code 20 = .ok (.iload_n 2, 1) := by decide +kernel
theorem d_B_beginImage_21 : decode prog_2_method_15_code 21 = .ok (.iastore, 1) := by decide +kernel
theorem d_B_beginImage_22 : decode prog_2_method_15_code 22 = .ok (.aload_n 0, 1) := by decide +kernel
theorem d_B_beginImage_23 : decode prog_2_method_15_code 23 = .ok (.getfield 26, 3) := by decide +kernel
theorem d_B_beginImage_26 : decode prog_2_method_15_code 26 = .ok (.bipush 6, 2) := by decide +kernel
theorem d_B_beginImage_28 : decode prog_2_method_15_code 28 = .ok (.iload_n 3, 1) := by decide +kernel
theorem d_B_beginImage_29 : decode prog_2_method_15_code 29 = .ok (.iastore, 1) := by decide +kernel
theorem d_B_beginImage_30 : decode prog_2_method_15_code 30 = .ok (.aload_n 0, 1) := by decide +kernel
theorem d_B_beginImage_31 : decode prog_2_method_15_code 31 = .ok (.getfield 26, 3) := by decide +kernel
theorem d_B_beginImage_34 : decode prog_2_method_15_code 34 = .ok (.bipush 7, 2) := by decide +kernel
theorem d_B_beginImage_36 : decode prog_2_method_15_code 36 = .ok (.iload 4, 2) := by decide +kernel
theorem d_B_beginImage_38 : decode prog_2_method_15_code 38 = .ok (.iastore, 1) := by decide +kernel
theorem d_B_beginImage_39 : decode prog_2_method_15_code 39 = .ok (.return_, 1) := by decide +kernel
theorem d_B_put_0 : decode prog_2_method_18_code 0 = .ok (.aload_n 0, 1) := by decide +kernel
theorem d_B_put_1 : decode prog_2_method_18_code 1 = .ok (.getfield 15, 3) := by decide +kernel
theorem d_B_put_4 : decode prog_2_method_18_code 4 = .ok (.ifCond .ne 10, 3) := by decide +kernel
theorem d_B_put_7 : decode prog_2_method_18_code 7 = .ok (.aload_n 0, 1) := by decide +kernel
theorem d_B_put_8 : decode prog_2_method_18_code 8 = .ok (.iconst 1, 1) := by decide +kernel
theorem d_B_put_9 : decode prog_2_method_18_code 9 = .ok (.putfield 18, 3) := by decide +kernel
theorem d_B_put_12 : decode prog_2_method_18_code 12 = .ok (.iconst 0, 1) := by decide +kernel
theorem d_B_put_13 : decode prog_2_method_18_code 13 = .ok (.ireturn, 1) := by decide +kernel
theorem d_B_put_14 : decode prog_2_method_18_code 14 = .ok (.aload_n 0, 1) := by decide +kernel
theorem d_B_put_15 : decode prog_2_method_18_code 15 = .ok (.getfield 15, 3) := by decide +kernel
theorem d_B_put_18 : decode prog_2_method_18_code 18 = .ok (.iconst (-1), 1) := by decide +kernel
theorem d_B_put_19 : decode prog_2_method_18_code 19 = .ok (.if_icmp .eq 13, 3) := by decide +kernel
theorem d_B_put_22 : decode prog_2_method_18_code 22 = .ok (.aload_n 0, 1) := by decide +kernel
theorem d_B_put_23 : decode prog_2_method_18_code 23 = .ok (.dup, 1) := by decide +kernel
theorem d_B_put_24 : decode prog_2_method_18_code 24 = .ok (.getfield 15, 3) := by decide +kernel
theorem d_B_put_27 : decode prog_2_method_18_code 27 = .ok (.iconst 1, 1) := by decide +kernel
theorem d_B_put_28 : decode prog_2_method_18_code 28 = .ok (.isub, 1) := by decide +kernel
theorem d_B_put_29 : decode prog_2_method_18_code 29 = .ok (.putfield 15, 3) := by decide +kernel
theorem d_B_put_32 : decode prog_2_method_18_code 32 = .ok (.aload_n 0, 1) := by decide +kernel
theorem d_B_put_33 : decode prog_2_method_18_code 33 = .ok (.getfield 22, 3) := by decide +kernel
theorem d_B_put_36 : decode prog_2_method_18_code 36 = .ok (.iload_n 1, 1) := by decide +kernel
theorem d_B_put_37 : decode prog_2_method_18_code 37 = .ok (.bipush 64, 2) := by decide +kernel
theorem d_B_put_39 : decode prog_2_method_18_code 39 = .ok (.imul, 1) := by decide +kernel
theorem d_B_put_40 : decode prog_2_method_18_code 40 = .ok (.iload_n 2, 1) := by decide +kernel
theorem d_B_put_41 : decode prog_2_method_18_code 41 = .ok (.iadd, 1) := by decide +kernel
theorem d_B_put_42 : decode prog_2_method_18_code 42 = .ok (.iload_n 3, 1) := by decide +kernel
theorem d_B_put_43 : decode prog_2_method_18_code 43 = .ok (.iastore, 1) := by decide +kernel
theorem d_B_put_44 : decode prog_2_method_18_code 44 = .ok (.iconst 1, 1) := by decide +kernel
theorem d_B_put_45 : decode prog_2_method_18_code 45 = .ok (.ireturn, 1) := by decide +kernel
theorem d_B_writeImage_0 : decode prog_2_method_16_code 0 = .ok (.iload_n 1, 1) := by decide +kernel
theorem d_B_writeImage_1 : decode prog_2_method_16_code 1 = .ok (.aload_n 0, 1) := by decide +kernel
theorem d_B_writeImage_2 : decode prog_2_method_16_code 2 = .ok (.getfield 26, 3) := by decide +kernel
theorem d_B_writeImage_5 : decode prog_2_method_16_code 5 = .ok (.iconst 0, 1) := by decide +kernel
theorem d_B_writeImage_6 : decode prog_2_method_16_code 6 = .ok (.invokestatic 37, 3) := by decide +kernel
theorem d_B_writeImage_9 : decode prog_2_method_16_code 9 = .ok (.istore_n 2, 1) := by decide +kernel
theorem d_B_writeImage_10 : decode prog_2_method_16_code 10 = .ok (.aload_n 0, 1) := by decide +kernel
theorem d_B_writeImage_11 : decode prog_2_method_16_code 11 = .ok (.iload_n 1, 1) := by decide +kernel
theorem d_B_writeImage_12 : decode prog_2_method_16_code 12 = .ok (.iconst 4, 1) := by decide +kernel
theorem d_B_writeImage_13 : decode prog_2_method_16_code 13 = .ok (.iconst 0, 1) := by decide +kernel
theorem d_B_writeImage_14 : decode prog_2_method_16_code 14 = .ok (.invokevirtual 90, 3) := by decide +kernel
theorem d_B_writeImage_17 : decode prog_2_method_16_code 17 = .ok (.istore_n 3, 1) := by decide +kernel
theorem d_B_writeImage_18 : decode prog_2_method_16_code 18 = .ok (.iconst 5, 1) := by decide +kernel
theorem d_B_writeImage_19 : decode prog_2_method_16_code 19 = .ok (.istore 4, 2) := by decide +kernel
theorem d_B_writeImage_21 : decode prog_2_method_16_code 21 = .ok (.iload 4, 2) := by decide +kernel
theorem d_B_writeImage_23 : decode prog_2_method_16_code 23 = .ok (.bipush 64, 2) := by decide +kernel
theorem d_B_writeImage_25 : decode prog_2_method_16_code 25 = .ok (.if_icmp .ge 28, 3) := by decide +kernel
theorem d_B_writeImage_28 : decode prog_2_method_16_code 28 = .ok (.iload_n 3, 1) := by decide +kernel
theorem d_B_writeImage_29 : decode prog_2_method_16_code 29 = .ok (.ifCond .eq 24, 3) := by decide +kernel
theorem d_B_writeImage_32 : decode prog_2_method_16_code 32 = .ok (.aload_n 0, 1) := by decide +kernel
theorem d_B_writeImage_33 : decode prog_2_method_16_code 33 = .ok (.iload_n 1, 1) := by decide +kernel
theorem d_B_writeImage_34 : decode prog_2_method_16_code 34 = .ok (.iload 4, 2) := by decide +kernel
theorem d_B_writeImage_36 : decode prog_2_method_16_code 36 = .ok (.aload_n 0, 1) := by decide +kernel
theorem d_B_writeImage_37 : decode prog_2_method_16_code 37 = .ok (.getfield 26, 3) := by decide +kernel
theorem d_B_writeImage_40 : decode prog_2_method_16_code 40 = .ok (.iload 4, 2) := by decide +kernel
theorem d_B_writeImage_42 : decode prog_2_method_16_code 42 = .ok (.iaload, 1) := by decide +kernel
theorem d_B_writeImage_43 : decode prog_2_method_16_code 43 = .ok (.invokevirtual 90, 3) := by decide +kernel
theorem d_B_writeImage_46 : decode prog_2_method_16_code 46 = .ok (.istore_n 3, 1) := by decide +kernel
theorem d_B_writeImage_47 : decode prog_2_method_16_code 47 = .ok (.iinc 4 1, 3) := by decide +kernel
theorem d_B_writeImage_50 : decode prog_2_method_16_code 50 = .ok (.goto (-29), 3) := by decide +kernel
theorem d_B_writeImage_53 : decode prog_2_method_16_code 53 = .ok (.iconst 0, 1) := by decide +kernel
theorem d_B_writeImage_54 : decode prog_2_method_16_code 54 = .ok (.istore 4, 2) := by decide +kernel
theorem d_B_writeImage_56 : decode prog_2_method_16_code 56 = .ok (.iload 4, 2) := by decide +kernel
theorem d_B_writeImage_58 : decode prog_2_method_16_code 58 = .ok (.iconst 4, 1) := by decide +kernel
theorem d_B_writeImage_59 : decode prog_2_method_16_code 59 = .ok (.if_icmp .ge 27, 3) := by decide +kernel
theorem d_B_writeImage_62 : decode prog_2_method_16_code 62 = .ok (.iload_n 3, 1) := by decide +kernel
theorem d_B_writeImage_63 : decode prog_2_method_16_code 63 = .ok (.ifCond .eq 23, 3) := by decide +kernel
theorem d_B_writeImage_66 : decode prog_2_method_16_code 66 = .ok (.aload_n 0, 1) := by decide +kernel
theorem d_B_writeImage_67 : decode prog_2_method_16_code 67 = .ok (.iload_n 1, 1) := by decide +kernel
theorem d_B_writeImage_68 : decode prog_2_method_16_code 68 = .ok (.iload 4, 2) := by decide +kernel
theorem d_B_writeImage_70 : decode prog_2_method_16_code 70 = .ok (.iload_n 2, 1) := by decide +kernel
theorem d_B_writeImage_71 : decode prog_2_method_16_code 71 = .ok (.iload 4, 2) := by decide +kernel
theorem d_B_writeImage_73 : decode prog_2_method_16_code 73 = .ok (.invokestatic 41, 3) := by decide +kernel
theorem d_B_writeImage_76 : decode prog_2_method_16_code 76 = .ok (.invokevirtual 90, 3) := by decide +kernel
theorem d_B_writeImage_79 : decode prog_2_method_16_code 79 = .ok (.istore_n 3, 1) := by decide +kernel
theorem d_B_writeImage_80 : decode prog_2_method_16_code 80 = .ok (.iinc 4 1, 3) := by decide +kernel
theorem d_B_writeImage_83 : decode prog_2_method_16_code 83 = .ok (.goto (-27), 3) := by decide +kernel
theorem d_B_writeImage_86 : decode prog_2_method_16_code 86 = .ok (.iload_n 3, 1) := by decide +kernel
theorem d_B_writeImage_87 : decode prog_2_method_16_code 87 = .ok (.ifCond .eq 22, 3) := by decide +kernel
theorem d_B_writeImage_90 : decode prog_2_method_16_code 90 = .ok (.aload_n 0, 1) := by decide +kernel
theorem d_B_writeImage_91 : decode prog_2_method_16_code 91 = .ok (.iload_n 1, 1) := by decide +kernel
theorem d_B_writeImage_92 : decode prog_2_method_16_code 92 = .ok (.iconst 4, 1) := by decide +kernel
theorem d_B_writeImage_93 : decode prog_2_method_16_code 93 = .ok (.aload_n 0, 1) := by decide +kernel
theorem d_B_writeImage_94 : decode prog_2_method_16_code 94 = .ok (.getfield 26, 3) := by decide +kernel
theorem d_B_writeImage_97 : decode prog_2_method_16_code 97 = .ok (.iconst 4, 1) := by decide +kernel
theorem d_B_writeImage_98 : decode prog_2_method_16_code 98 = .ok (.iaload, 1) := by decide +kernel
theorem d_B_writeImage_99 : decode prog_2_method_16_code 99 = .ok (.invokevirtual 90, 3) := by decide +kernel
theorem d_B_writeImage_102 : decode prog_2_method_16_code 102 = .ok (.ifCond .eq 7, 3) := by decide +kernel
theorem d_B_writeImage_105 : decode prog_2_method_16_code 105 = .ok (.iconst 1, 1) := by decide +kernel
theorem d_B_writeImage_106 : decode prog_2_method_16_code 106 = .ok (.goto 4, 3) := by decide +kernel
theorem d_B_writeImage_110 : decode prog_2_method_16_code 110 = .ok (.ireturn, 1) := by decide +kernel
theorem d_B_writeImage_109 : decode prog_2_method_16_code 109 = .ok (.iconst 0, 1) := by decide +kernel
theorem d_B_writeRecordBlock_0 : decode prog_2_method_13_code 0 = .ok (.iload_n 3, 1) := by decide +kernel
theorem d_B_writeRecordBlock_1 : decode prog_2_method_13_code 1 = .ok (.bipush 56, 2) := by decide +kernel
theorem d_B_writeRecordBlock_3 : decode prog_2_method_13_code 3 = .ok (.imul, 1) := by decide +kernel
theorem d_B_writeRecordBlock_4 : decode prog_2_method_13_code 4 = .ok (.istore 5, 2) := by decide +kernel
theorem d_B_writeRecordBlock_6 : decode prog_2_method_13_code 6 = .ok (.bipush 56, 2) := by decide +kernel
theorem d_B_writeRecordBlock_8 : decode prog_2_method_13_code 8 = .ok (.aload 4, 2) := by decide +kernel
theorem d_B_writeRecordBlock_10 : decode prog_2_method_13_code 10 = .ok (.invokevirtual 59, 3) := by decide +kernel
theorem d_B_writeRecordBlock_13 : decode prog_2_method_13_code 13 = .ok (.iload 5, 2) := by decide +kernel
theorem d_B_writeRecordBlock_15 : decode prog_2_method_13_code 15 = .ok (.isub, 1) := by decide +kernel
theorem d_B_writeRecordBlock_16 : decode prog_2_method_13_code 16 = .ok (.invokestatic 65, 3) := by decide +kernel
theorem d_B_writeRecordBlock_19 : decode prog_2_method_13_code 19 = .ok (.istore 6, 2) := by decide +kernel
theorem d_B_writeRecordBlock_21 : decode prog_2_method_13_code 21 = .ok (.aload_n 0, 1) := by decide +kernel
theorem d_B_writeRecordBlock_22 : decode prog_2_method_13_code 22 = .ok (.iload_n 3, 1) := by decide +kernel
theorem d_B_writeRecordBlock_23 : decode prog_2_method_13_code 23 = .ok (.invokestatic 70, 3) := by decide +kernel
theorem d_B_writeRecordBlock_26 : decode prog_2_method_13_code 26 = .ok (.iload_n 2, 1) := by decide +kernel
theorem d_B_writeRecordBlock_27 : decode prog_2_method_13_code 27 = .ok (.iload_n 3, 1) := by decide +kernel
theorem d_B_writeRecordBlock_28 : decode prog_2_method_13_code 28 = .ok (.iload 6, 2) := by decide +kernel
theorem d_B_writeRecordBlock_30 : decode prog_2_method_13_code 30 = .ok (.invokevirtual 74, 3) := by decide +kernel
theorem d_B_writeRecordBlock_33 : decode prog_2_method_13_code 33 = .ok (.aload 4, 2) := by decide +kernel
theorem d_B_writeRecordBlock_35 : decode prog_2_method_13_code 35 = .ok (.getfield 78, 3) := by decide +kernel
theorem d_B_writeRecordBlock_38 : decode prog_2_method_13_code 38 = .ok (.iload 5, 2) := by decide +kernel
theorem d_B_writeRecordBlock_40 : decode prog_2_method_13_code 40 = .ok (.aload_n 0, 1) := by decide +kernel
theorem d_B_writeRecordBlock_41 : decode prog_2_method_13_code 41 = .ok (.getfield 26, 3) := by decide +kernel
theorem d_B_writeRecordBlock_44 : decode prog_2_method_13_code 44 = .ok (.bipush 8, 2) := by decide +kernel
theorem d_B_writeRecordBlock_46 : decode prog_2_method_13_code 46 = .ok (.iload 6, 2) := by decide +kernel
theorem d_B_writeRecordBlock_48 : decode prog_2_method_13_code 48 = .ok (.invokestatic 53, 3) := by decide +kernel
theorem d_B_writeRecordBlock_51 : decode prog_2_method_13_code 51 = .ok (.aload_n 0, 1) := by decide +kernel
theorem d_B_writeRecordBlock_52 : decode prog_2_method_13_code 52 = .ok (.iload_n 1, 1) := by decide +kernel
theorem d_B_writeRecordBlock_53 : decode prog_2_method_13_code 53 = .ok (.invokevirtual 81, 3) := by decide +kernel
theorem d_B_writeRecordBlock_56 : decode prog_2_method_13_code 56 = .ok (.ireturn, 1) := by decide +kernel
theorem d_B_writeMark_0 : decode prog_2_method_14_code 0 = .ok (.aload_n 0, 1) := by decide +kernel
theorem d_B_writeMark_1 : decode prog_2_method_14_code 1 = .ok (.iconst 3, 1) := by decide +kernel
theorem d_B_writeMark_2 : decode prog_2_method_14_code 2 = .ok (.iload_n 2, 1) := by decide +kernel
theorem d_B_writeMark_3 : decode prog_2_method_14_code 3 = .ok (.iconst 0, 1) := by decide +kernel
theorem d_B_writeMark_4 : decode prog_2_method_14_code 4 = .ok (.iconst 1, 1) := by decide +kernel
theorem d_B_writeMark_5 : decode prog_2_method_14_code 5 = .ok (.invokevirtual 74, 3) := by decide +kernel
theorem d_B_writeMark_8 : decode prog_2_method_14_code 8 = .ok (.aload_n 0, 1) := by decide +kernel
theorem d_B_writeMark_9 : decode prog_2_method_14_code 9 = .ok (.getfield 26, 3) := by decide +kernel
theorem d_B_writeMark_12 : decode prog_2_method_14_code 12 = .ok (.bipush 8, 2) := by decide +kernel
theorem d_B_writeMark_14 : decode prog_2_method_14_code 14 = .ok (.iload_n 3, 1) := by decide +kernel
theorem d_B_writeMark_15 : decode prog_2_method_14_code 15 = .ok (.iastore, 1) := by decide +kernel
theorem d_B_writeMark_16 : decode prog_2_method_14_code 16 = .ok (.aload_n 0, 1) := by decide +kernel
theorem d_B_writeMark_17 : decode prog_2_method_14_code 17 = .ok (.iload_n 1, 1) := by decide +kernel
theorem d_B_writeMark_18 : decode prog_2_method_14_code 18 = .ok (.invokevirtual 81, 3) := by decide +kernel
theorem d_B_writeMark_21 : decode prog_2_method_14_code 21 = .ok (.ireturn, 1) := by decide +kernel
theorem d_B_wipe_0 : decode prog_2_method_17_code 0 = .ok (.aload_n 0, 1) := by decide +kernel
theorem d_B_wipe_1 : decode prog_2_method_17_code 1 = .ok (.iload_n 1, 1) := by decide +kernel
theorem d_B_wipe_2 : decode prog_2_method_17_code 2 = .ok (.iconst 4, 1) := by decide +kernel
theorem d_B_wipe_3 : decode prog_2_method_17_code 3 = .ok (.iconst 0, 1) := by decide +kernel
theorem d_B_wipe_4 : decode prog_2_method_17_code 4 = .ok (.invokevirtual 90, 3) := by decide +kernel
theorem d_B_wipe_7 : decode prog_2_method_17_code 7 = .ok (.istore_n 2, 1) := by decide +kernel
theorem d_B_wipe_8 : decode prog_2_method_17_code 8 = .ok (.iconst 0, 1) := by decide +kernel
theorem d_B_wipe_9 : decode prog_2_method_17_code 9 = .ok (.istore_n 3, 1) := by decide +kernel
theorem d_B_wipe_10 : decode prog_2_method_17_code 10 = .ok (.iload_n 3, 1) := by decide +kernel
theorem d_B_wipe_11 : decode prog_2_method_17_code 11 = .ok (.bipush 64, 2) := by decide +kernel
theorem d_B_wipe_13 : decode prog_2_method_17_code 13 = .ok (.if_icmp .ge 26, 3) := by decide +kernel
theorem d_B_wipe_16 : decode prog_2_method_17_code 16 = .ok (.iload_n 2, 1) := by decide +kernel
theorem d_B_wipe_17 : decode prog_2_method_17_code 17 = .ok (.ifCond .eq 22, 3) := by decide +kernel
theorem d_B_wipe_20 : decode prog_2_method_17_code 20 = .ok (.iload_n 3, 1) := by decide +kernel
theorem d_B_wipe_21 : decode prog_2_method_17_code 21 = .ok (.iconst 4, 1) := by decide +kernel
theorem d_B_wipe_22 : decode prog_2_method_17_code 22 = .ok (.if_icmp .eq 11, 3) := by decide +kernel
theorem d_B_wipe_25 : decode prog_2_method_17_code 25 = .ok (.aload_n 0, 1) := by decide +kernel
theorem d_B_wipe_26 : decode prog_2_method_17_code 26 = .ok (.iload_n 1, 1) := by decide +kernel
theorem d_B_wipe_27 : decode prog_2_method_17_code 27 = .ok (.iload_n 3, 1) := by decide +kernel
theorem d_B_wipe_28 : decode prog_2_method_17_code 28 = .ok (.iconst 0, 1) := by decide +kernel
theorem d_B_wipe_29 : decode prog_2_method_17_code 29 = .ok (.invokevirtual 90, 3) := by decide +kernel
theorem d_B_wipe_32 : decode prog_2_method_17_code 32 = .ok (.istore_n 2, 1) := by decide +kernel
theorem d_B_wipe_33 : decode prog_2_method_17_code 33 = .ok (.iinc 3 1, 3) := by decide +kernel
theorem d_B_wipe_36 : decode prog_2_method_17_code 36 = .ok (.goto (-26), 3) := by decide +kernel
theorem d_B_wipe_39 : decode prog_2_method_17_code 39 = .ok (.iload_n 2, 1) := by decide +kernel
theorem d_B_wipe_40 : decode prog_2_method_17_code 40 = .ok (.ireturn, 1) := by decide +kernel
def f_B_kindOf (xn : Nat) (p1 : Int32) (z0 : x_St) : Option (Int32 × x_St) :=
  (if p1 = 0 then
  (some ((1 : Int32), z0))
  else
  (some ((2 : Int32), z0)))
def f_B_get (xn : Nat) (p1 : Int32) (p2 : Int32) (z0 : x_St) : Option (Int32 × x_St) :=
  (x_ck ((p1 * (64 : Int32)) + p2) (x_ln xn 2)
  (some ((z0.1 2 (((p1 * (64 : Int32)) + p2)).toNatClampNeg), z0)))
def f_B_turn (xn : Nat) (p1 : Int32) (p2 : Int32) (p3 : Int32) (z0 : x_St) : Option (Int32 × x_St) :=
  (x_ck ((p1 * (64 : Int32)) + p2) (x_ln xn 2)
  (x_ck ((p1 * (64 : Int32)) + p2) (x_ln xn 2)
  (x_cl (f_B_get xn p1 p2 (x_put z0 2 (((p1 * (64 : Int32)) + p2)).toNatClampNeg ((z0.1 2 (((p1 * (64 : Int32)) + p2)).toNatClampNeg) ^^^ p3))) (fun r3 z3 =>
  (some (r3, z3))))))
def f_B_isBlank_2 (xn : Nat) : Nat → Int32 → Int32 → x_St → Option (Int32 × x_St)
  | 0, _, _, _ => none
  | fu + 1, a1, a2, z0 =>
    (if (64 : Int32) ≤ a2 then
    (some ((1 : Int32), z0))
    else
    (x_cl (f_B_get xn a1 a2 z0) (fun r2 z2 =>
    (if r2 = 0 then
    (f_B_isBlank_2 xn fu a1 (a2 + (1 : Int32)) z2)
    else
    (some ((0 : Int32), z2))))))
def f_B_isBlank (xn : Nat) (p1 : Int32) (z0 : x_St) : Option (Int32 × x_St) :=
  (f_B_isBlank_2 xn x_FU p1 (0 : Int32) z0)
def f_B_sumOf_39 (xn : Nat) (a3 : Int32) (z0 : x_St) : Option (Int32 × x_St) :=
  (some (a3, z0))
def f_B_sumOf_9 (xn : Nat) : Nat → Nat → Int32 → Int32 → Int32 → x_St → Option (Int32 × x_St)
  | 0, _, _, _, _, _ => none
  | fu + 1, a1, a2, a3, a4, z0 =>
    (if (64 : Int32) ≤ a4 then
    (f_B_sumOf_39 xn a3 z0)
    else
    (x_ck (a2 + a4) (x_ln xn a1)
    (x_cl (f_Integer_rotateLeft xn (a3 ^^^ (z0.1 a1 ((a2 + a4)).toNatClampNeg)) (7 : Int32) z0) (fun r3 z3 =>
    (f_B_sumOf_9 xn fu a1 a2 (r3 * (374761393 : Int32)) (a4 + (1 : Int32)) z3)))))
def f_B_sumOf (xn : Nat) (p1 : Int32) (k2 : Nat) (p3 : Int32) (z0 : x_St) : Option (Int32 × x_St) :=
  (f_B_sumOf_9 xn x_FU k2 p3 (p1 + (256 : Int32)) (4 : Int32) z0)
def f_B_byteOfSum (xn : Nat) (p1 : Int32) (p2 : Int32) (z0 : x_St) : Option (Int32 × x_St) :=
  (some (((x_ushr p1 ((8 : Int32) * p2)) &&& (255 : Int32)), z0))
def f_B_hasRightSum_15 (xn : Nat) : Nat → Int32 → Int32 → Int32 → x_St → Option (Int32 × x_St)
  | 0, _, _, _, _ => none
  | fu + 1, a1, a2, a3, z0 =>
    (if (4 : Int32) ≤ a3 then
    (some ((1 : Int32), z0))
    else
    (x_cl (f_B_get xn a1 a3 z0) (fun r2 z2 =>
    (x_cl (f_B_byteOfSum xn a2 a3 z2) (fun r4 z4 =>
    (if r2 = r4 then
    (f_B_hasRightSum_15 xn fu a1 a2 (a3 + (1 : Int32)) z4)
    else
    (some ((0 : Int32), z4))))))))
def f_B_hasRightSum (xn : Nat) (p1 : Int32) (z0 : x_St) : Option (Int32 × x_St) :=
  (x_cl (f_B_sumOf xn p1 2 (p1 * (64 : Int32)) z0) (fun r7 z7 =>
  (f_B_hasRightSum_15 xn x_FU p1 r7 (0 : Int32) z7)))
def f_B_isGood (xn : Nat) (p1 : Int32) (z0 : x_St) : Option (Int32 × x_St) :=
  (x_cl (f_B_get xn p1 (4 : Int32) z0) (fun r1 z1 =>
  (if r1 < (1 : Int32) then
  (some ((0 : Int32), z1))
  else
  (if (3 : Int32) < r1 then
  (some ((0 : Int32), z1))
  else
  (x_cl (f_B_get xn p1 (5 : Int32) z1) (fun r5 z5 =>
  (if (16 : Int32) ≤ r5 then
  (some ((0 : Int32), z5))
  else
  (x_cl (f_B_get xn p1 (7 : Int32) z5) (fun r8 z8 =>
  (if (56 : Int32) < r8 then
  (some ((0 : Int32), z8))
  else
  (x_cl (f_B_hasRightSum xn p1 z8) (fun r11 z11 =>
  (if r11 = 0 then
  (some ((0 : Int32), z11))
  else
  (some ((1 : Int32), z11)))))))))))))))
def f_B_onlyGood_93 (xn : Nat) (a4 : Int32) (z0 : x_St) : Option (Int32 × x_St) :=
  (some (a4, z0))
def f_B_onlyGood_6 (xn : Nat) : Nat → Int32 → Int32 → Int32 → Int32 → Int32 → x_St → Option (Int32 × x_St)
  | 0, _, _, _, _, _, _ => none
  | fu + 1, a1, a2, a3, a4, a5, z0 =>
    (if (z0.1 1 0) ≤ a5 then
    (f_B_onlyGood_93 xn a4 z0)
    else
    (x_cl (f_B_get xn a5 (4 : Int32) z0) (fun r2 z2 =>
    (if r2 = a1 then
    (x_cl (f_B_get xn a5 (5 : Int32) z2) (fun r5 z5 =>
    (if r5 = a2 then
    (if a3 = (-1 : Int32) then
    (x_cl (f_B_isGood xn a5 z5) (fun r9 z9 =>
    (if r9 = 0 then
    (f_B_onlyGood_6 xn fu a1 a2 a3 a4 (a5 + (1 : Int32)) z9)
    else
    (if a4 = (-1 : Int32) then
    (f_B_onlyGood_6 xn fu a1 a2 a3 a5 (a5 + (1 : Int32)) z9)
    else
    (some ((-1 : Int32), z9))))))
    else
    (x_cl (f_B_get xn a5 (6 : Int32) z5) (fun r13 z13 =>
    (if r13 = a3 then
    (x_cl (f_B_isGood xn a5 z13) (fun r16 z16 =>
    (if r16 = 0 then
    (f_B_onlyGood_6 xn fu a1 a2 a3 a4 (a5 + (1 : Int32)) z16)
    else
    (if a4 = (-1 : Int32) then
    (f_B_onlyGood_6 xn fu a1 a2 a3 a5 (a5 + (1 : Int32)) z16)
    else
    (some ((-1 : Int32), z16))))))
    else
    (f_B_onlyGood_6 xn fu a1 a2 a3 a4 (a5 + (1 : Int32)) z13)))))
    else
    (f_B_onlyGood_6 xn fu a1 a2 a3 a4 (a5 + (1 : Int32)) z5))))
    else
    (f_B_onlyGood_6 xn fu a1 a2 a3 a4 (a5 + (1 : Int32)) z2)))))
def f_B_onlyGood (xn : Nat) (p1 : Int32) (p2 : Int32) (p3 : Int32) (z0 : x_St) : Option (Int32 × x_St) :=
  (f_B_onlyGood_6 xn x_FU p1 p2 p3 (-1 : Int32) (0 : Int32) z0)
def f_B_isMarkAsTold (xn : Nat) (p1 : Int32) (z0 : x_St) : Option (Int32 × x_St) :=
  (x_cl (f_B_get xn p1 (8 : Int32) z0) (fun r1 z1 =>
  (x_cl (f_B_get xn p1 (6 : Int32) z1) (fun r3 z3 =>
  (if r3 = 0 then
  (x_cl (f_B_get xn p1 (7 : Int32) z3) (fun r6 z6 =>
  (if r6 = (1 : Int32) then
  (if r1 < (1 : Int32) then
  (some ((0 : Int32), z6))
  else
  (if (2 : Int32) < r1 then
  (some ((0 : Int32), z6))
  else
  (some ((1 : Int32), z6))))
  else
  (some ((0 : Int32), z6)))))
  else
  (some ((0 : Int32), z3)))))))
def f_B_copyData (xn : Nat) (p1 : Int32) (p2 : Int32) (k3 : Nat) (p4 : Int32) (z0 : x_St) : Option (Unit × x_St) :=
  (x_ckc ((p1 * (64 : Int32)) + (8 : Int32)) p4 p2 (x_ln xn 2) (x_ln xn k3)
  (some ((), (x_cpy z0 2 (((p1 * (64 : Int32)) + (8 : Int32))).toNatClampNeg k3 (p4).toNatClampNeg (p2).toNatClampNeg))))
def f_B_beginImage (xn : Nat) (p1 : Int32) (p2 : Int32) (p3 : Int32) (p4 : Int32) (z0 : x_St) : Option (Unit × x_St) :=
  (x_cl (f_Arrays_fill xn 3 (0 : Int32) z0) (fun r1 z1 =>
  (x_ck (4 : Int32) (x_ln xn 3)
  (x_ck (5 : Int32) (x_ln xn 3)
  (x_ck (6 : Int32) (x_ln xn 3)
  (x_ck (7 : Int32) (x_ln xn 3)
  (some ((), (x_put (x_put (x_put (x_put z1 3 ((4 : Int32)).toNatClampNeg p1) 3 ((5 : Int32)).toNatClampNeg p2) 3 ((6 : Int32)).toNatClampNeg p3) 3 ((7 : Int32)).toNatClampNeg p4)))))))))
def f_B_put_32 (xn : Nat) (a1 : Int32) (a2 : Int32) (a3 : Int32) (z0 : x_St) : Option (Int32 × x_St) :=
  (x_ck ((a1 * (64 : Int32)) + a2) (x_ln xn 2)
  (some ((1 : Int32), (x_put z0 2 (((a1 * (64 : Int32)) + a2)).toNatClampNeg a3))))
def f_B_put (xn : Nat) (p1 : Int32) (p2 : Int32) (p3 : Int32) (z0 : x_St) : Option (Int32 × x_St) :=
  (if (z0.1 1 1) = 0 then
  (some ((0 : Int32), (x_put z0 1 2 (1 : Int32))))
  else
  (if (z0.1 1 1) = (-1 : Int32) then
  (f_B_put_32 xn p1 p2 p3 z0)
  else
  (f_B_put_32 xn p1 p2 p3 (x_put z0 1 1 ((z0.1 1 1) - (1 : Int32))))))
def f_B_writeImage_86 (xn : Nat) (a1 : Int32) (a3 : Int32) (z0 : x_St) : Option (Int32 × x_St) :=
  (if a3 = 0 then
  (some ((0 : Int32), z0))
  else
  (x_ck (4 : Int32) (x_ln xn 3)
  (x_cl (f_B_put xn a1 (4 : Int32) (z0.1 3 ((4 : Int32)).toNatClampNeg) z0) (fun r3 z3 =>
  (if r3 = 0 then
  (some ((0 : Int32), z3))
  else
  (some ((1 : Int32), z3)))))))
def f_B_writeImage_56 (xn : Nat) : Nat → Int32 → Int32 → Int32 → Int32 → x_St → Option (Int32 × x_St)
  | 0, _, _, _, _, _ => none
  | fu + 1, a1, a2, a3, a4, z0 =>
    (if (4 : Int32) ≤ a4 then
    (f_B_writeImage_86 xn a1 a3 z0)
    else
    (if a3 = 0 then
    (f_B_writeImage_86 xn a1 a3 z0)
    else
    (x_cl (f_B_byteOfSum xn a2 a4 z0) (fun r8 z8 =>
    (x_cl (f_B_put xn a1 a4 r8 z8) (fun r10 z10 =>
    (f_B_writeImage_56 xn fu a1 a2 r10 (a4 + (1 : Int32)) z10)))))))
def f_B_writeImage_53 (xn : Nat) (a1 : Int32) (a2 : Int32) (a3 : Int32) (z0 : x_St) : Option (Int32 × x_St) :=
  (f_B_writeImage_56 xn x_FU a1 a2 a3 (0 : Int32) z0)
def f_B_writeImage_21 (xn : Nat) : Nat → Int32 → Int32 → Int32 → Int32 → x_St → Option (Int32 × x_St)
  | 0, _, _, _, _, _ => none
  | fu + 1, a1, a2, a3, a4, z0 =>
    (if (64 : Int32) ≤ a4 then
    (f_B_writeImage_53 xn a1 a2 a3 z0)
    else
    (if a3 = 0 then
    (f_B_writeImage_53 xn a1 a2 a3 z0)
    else
    (x_ck a4 (x_ln xn 3)
    (x_cl (f_B_put xn a1 a4 (z0.1 3 (a4).toNatClampNeg) z0) (fun r15 z15 =>
    (f_B_writeImage_21 xn fu a1 a2 r15 (a4 + (1 : Int32)) z15))))))
def f_B_writeImage (xn : Nat) (p1 : Int32) (z0 : x_St) : Option (Int32 × x_St) :=
  (x_cl (f_B_sumOf xn p1 3 (0 : Int32) z0) (fun r17 z17 =>
  (x_cl (f_B_put xn p1 (4 : Int32) (0 : Int32) z17) (fun r19 z19 =>
  (f_B_writeImage_21 xn x_FU p1 r17 r19 (5 : Int32) z19)))))
def f_B_writeRecordBlock (xn : Nat) (p1 : Int32) (p2 : Int32) (p3 : Int32) (k4 : Nat) (z0 : x_St) : Option (Int32 × x_St) :=
  (x_cl (f_P_length xn k4 z0) (fun r1 z1 =>
  (x_cl (f_B_kindOf xn p3 z1) (fun r3 z3 =>
  (x_cl (f_B_beginImage xn r3 p2 p3 (if (r1 - (p3 * (56 : Int32))) < (56 : Int32) then (r1 - (p3 * (56 : Int32))) else (56 : Int32)) z3) (fun r5 z5 =>
  (x_ckc (p3 * (56 : Int32)) (8 : Int32) (if (r1 - (p3 * (56 : Int32))) < (56 : Int32) then (r1 - (p3 * (56 : Int32))) else (56 : Int32)) (x_ln xn (k4 + 1)) (x_ln xn 3)
  (x_cl (f_B_writeImage xn p1 (x_cpy z5 (k4 + 1) ((p3 * (56 : Int32))).toNatClampNeg 3 ((8 : Int32)).toNatClampNeg ((if (r1 - (p3 * (56 : Int32))) < (56 : Int32) then (r1 - (p3 * (56 : Int32))) else (56 : Int32))).toNatClampNeg)) (fun r7 z7 =>
  (x_ckb r7
  (some (r7, z7))))))))))))
def f_B_writeMark (xn : Nat) (p1 : Int32) (p2 : Int32) (p3 : Int32) (z0 : x_St) : Option (Int32 × x_St) :=
  (x_cl (f_B_beginImage xn (3 : Int32) p2 (0 : Int32) (1 : Int32) z0) (fun r1 z1 =>
  (x_ck (8 : Int32) (x_ln xn 3)
  (x_cl (f_B_writeImage xn p1 (x_put z1 3 ((8 : Int32)).toNatClampNeg p3)) (fun r4 z4 =>
  (x_ckb r4
  (some (r4, z4))))))))
def f_B_wipe_39 (xn : Nat) (a2 : Int32) (z0 : x_St) : Option (Int32 × x_St) :=
  (x_ckb a2
  (some (a2, z0)))
def f_B_wipe_10 (xn : Nat) : Nat → Int32 → Int32 → Int32 → x_St → Option (Int32 × x_St)
  | 0, _, _, _, _ => none
  | fu + 1, a1, a2, a3, z0 =>
    (if (64 : Int32) ≤ a3 then
    (f_B_wipe_39 xn a2 z0)
    else
    (if a2 = 0 then
    (f_B_wipe_39 xn a2 z0)
    else
    (if a3 = (4 : Int32) then
    (f_B_wipe_10 xn fu a1 a2 (a3 + (1 : Int32)) z0)
    else
    (x_cl (f_B_put xn a1 a3 (0 : Int32) z0) (fun r4 z4 =>
    (f_B_wipe_10 xn fu a1 r4 (a3 + (1 : Int32)) z4))))))
def f_B_wipe (xn : Nat) (p1 : Int32) (z0 : x_St) : Option (Int32 × x_St) :=
  (x_cl (f_B_put xn p1 (4 : Int32) (0 : Int32) z0) (fun r6 z6 =>
  (f_B_wipe_10 xn x_FU p1 r6 (0 : Int32) z6)))
abbrev rm_B_kindOf : Room := { frames := 0, cells := 0, slots := 0, locals := 0 }
set_option maxHeartbeats 4000000 in
set_option maxRecDepth 100000 in
theorem c_B_kindOf (l : Launch) (G : x_G) (p1 : Int32) (z0 : x_St) (r : Int32) (zo : x_St) (hf : f_B_kindOf (x_n G) p1 z0 = some (r, zo)) : Met l (⟨"ContentLibrary$Blocks", "kindOf", "(I)I"⟩ : MethodName) (x_ws (⟨"ContentLibrary$Blocks", "kindOf", "(I)I"⟩ : MethodName) prog_2_method_2_code 1 (some .int)) rm_B_kindOf (va_Pc [.int p1] (x_PW G z0)) (va_Qi (fun a u => r = a ∧ zo = u) (x_PW G) (x_A G)) 0 0 (x_A G) := by
  refine Met.ofW (cc := prog_2_method_2_code) (maxL := 1) (ret := (some .int)) (by decide) rfl ?_
  intro p e s m args below meth c s₁ B hml hv
  obtain ⟨rfl, hz, hP, hD, hK, hG⟩ := hv
  have C0 : x_Ctx G p s m _ meth c prog_2_method_2_code "ContentLibrary$Blocks" 1 (some .int) := ⟨B.exec, B.bytes, B.returns, hml, findClass_of_methodNamed B.named, fun w h => atoms_spec (ws := (x_ws (⟨"ContentLibrary$Blocks", "kindOf", "(I)I"⟩ : MethodName) prog_2_method_2_code 1 (some .int))) B.pre w (List.mem_cons_of_mem _ h), B.notSynchronized, hz, hK, hG⟩
  obtain ⟨hx, hb, hr, hml, hown, hts, hlocks, hz, hK, hG⟩ := id C0
  have hS : va_S (x_A G) s.heap s.heap [] := va_S.rf
  have hl := lv_entry ([.int p1]) (n := 1) (Nat.le_of_ble_eq_true rfl)
  rw [lg_entry_eq]
  generalize (lg_sl ([.int p1]) ++ List.replicate (1 - (lg_sl ([.int p1])).length) Slot.unset).toArray = ls at hl ⊢
  have hl : lv_has ls 1 [(0, .int p1)] := hl
  rw [f_B_kindOf] at hf
  refine lv_iload_n hx hb d_B_kindOf_0 rfl (lv_at hl 0 rfl) ?_
  refine lv_if_ne (tgt := 8) hx hb d_B_kindOf_1 (by decide) (fun hc1 => ?_) (fun hc1 => ?_)
  · have hf := x_br_f hf hc1
    refine lv_iconst (v := (2 : Int32)) hx hb d_B_kindOf_8 (by decide) ?_
    obtain ⟨rfl, rfl⟩ := x_ret hf
    exact W.iret (v := (2 : Int32)) hx hb hr (fun t ht hW => ⟨⟨_, _, rfl, ⟨rfl, rfl⟩, x_pw hP hD hK hG hS hz ht hW⟩, hS.F ht⟩) hS.2.2 d_B_kindOf_9
  · have hf := x_br_t hf hc1
    refine lv_iconst (v := (1 : Int32)) hx hb d_B_kindOf_4 (by decide) ?_
    refine lv_goto (tgt := 9) hx hb d_B_kindOf_5 (by decide) ?_
    obtain ⟨rfl, rfl⟩ := x_ret hf
    exact W.iret (v := (1 : Int32)) hx hb hr (fun t ht hW => ⟨⟨_, _, rfl, ⟨rfl, rfl⟩, x_pw hP hD hK hG hS hz ht hW⟩, hS.F ht⟩) hS.2.2 d_B_kindOf_9
abbrev rm_B_get : Room := { frames := 0, cells := 0, slots := 0, locals := 0 }
set_option maxHeartbeats 4000000 in
set_option maxRecDepth 100000 in
theorem c_B_get (l : Launch) (G : x_G) (p1 : Int32) (p2 : Int32) (z0 : x_St) (r : Int32) (zo : x_St) (hf : f_B_get (x_n G) p1 p2 z0 = some (r, zo)) : Met l (⟨"ContentLibrary$Blocks", "get", "(II)I"⟩ : MethodName) (x_ws (⟨"ContentLibrary$Blocks", "get", "(II)I"⟩ : MethodName) prog_2_method_3_code 3 (some .int)) rm_B_get (va_Pc [.ref (x_ad G 1), .int p1, .int p2] (x_PW G z0)) (va_Qi (fun a u => r = a ∧ zo = u) (x_PW G) (x_A G)) 0 0 (x_A G) := by
  refine Met.ofW (cc := prog_2_method_3_code) (maxL := 3) (ret := (some .int)) (by decide) rfl ?_
  intro p e s m args below meth c s₁ B hml hv
  obtain ⟨rfl, hz, hP, hD, hK, hG⟩ := hv
  have C0 : x_Ctx G p s m _ meth c prog_2_method_3_code "ContentLibrary$Blocks" 3 (some .int) := ⟨B.exec, B.bytes, B.returns, hml, findClass_of_methodNamed B.named, fun w h => atoms_spec (ws := (x_ws (⟨"ContentLibrary$Blocks", "get", "(II)I"⟩ : MethodName) prog_2_method_3_code 3 (some .int))) B.pre w (List.mem_cons_of_mem _ h), B.notSynchronized, hz, hK, hG⟩
  obtain ⟨hx, hb, hr, hml, hown, hts, hlocks, hz, hK, hG⟩ := id C0
  have hS : va_S (x_A G) s.heap s.heap [] := va_S.rf
  have hl := lv_entry ([.ref (x_ad G 1), .int p1, .int p2]) (n := 3) (Nat.le_of_ble_eq_true rfl)
  rw [lg_entry_eq]
  generalize (lg_sl ([.ref (x_ad G 1), .int p1, .int p2]) ++ List.replicate (3 - (lg_sl ([.ref (x_ad G 1), .int p1, .int p2])).length) Slot.unset).toArray = ls at hl ⊢
  have hl : lv_has ls 3 [(0, .ref (x_ad G 1)), (1, .int p1), (2, .int p2)] := hl
  rw [f_B_get] at hf
  refine lv_aload_n hx hb d_B_get_0 rfl (lv_at hl 0 rfl) ?_
  refine va_get (D := x_D G) (ci := 1) (v := .ref (x_ad G 2)) (C := "ContentLibrary$Blocks") (T := x_TB) (N := 5) hx hb hts x_inB hown hK hP 1 (x_lk_B G _) rfl 3 (by decide) (hts _ t_45) (fun _ h9 => h9) rfl d_B_get_1 ?_
  refine lv_iload_n hx hb d_B_get_4 rfl (lv_at hl 1 rfl) ?_
  refine lv_bipush (v := (64 : Int32)) hx hb d_B_get_5 (by decide) ?_
  refine lv_imul hx hb d_B_get_7 ?_
  refine lv_iload_n hx hb d_B_get_8 rfl (lv_at hl 2 rfl) ?_
  refine lv_iadd hx hb d_B_get_9 ?_
  obtain ⟨hin1, hf⟩ := x_ck_some hf
  refine va_iald hx hb hK hP 2 0 (x_lk_A G _ rfl) rfl hin1 d_B_get_10 ?_
  obtain ⟨rfl, rfl⟩ := x_ret hf
  exact W.iret (v := (z0.1 2 (((p1 * (64 : Int32)) + p2)).toNatClampNeg)) hx hb hr (fun t ht hW => ⟨⟨_, _, rfl, ⟨rfl, rfl⟩, x_pw hP hD hK hG hS hz ht hW⟩, hS.F ht⟩) hS.2.2 d_B_get_11
abbrev rm_B_turn : Room := { frames := 1, cells := 0, slots := 0, locals := 22 }
set_option maxHeartbeats 4000000 in
set_option maxRecDepth 100000 in
theorem c_B_turn (l : Launch) (G : x_G) (p1 : Int32) (p2 : Int32) (p3 : Int32) (z0 : x_St) (r : Int32) (zo : x_St) (hf : f_B_turn (x_n G) p1 p2 p3 z0 = some (r, zo)) : Met l (⟨"ContentLibrary$Blocks", "turn", "(III)I"⟩ : MethodName) (x_ws (⟨"ContentLibrary$Blocks", "turn", "(III)I"⟩ : MethodName) prog_2_method_4_code 4 (some .int)) rm_B_turn (va_Pc [.ref (x_ad G 1), .int p1, .int p2, .int p3] (x_PW G z0)) (va_Qi (fun a u => r = a ∧ zo = u) (x_PW G) (x_A G)) 0 0 (x_A G) := by
  refine Met.ofW (cc := prog_2_method_4_code) (maxL := 4) (ret := (some .int)) (by decide) rfl ?_
  intro p e s m args below meth c s₁ B hml hv
  obtain ⟨rfl, hz, hP, hD, hK, hG⟩ := hv
  have C0 : x_Ctx G p s m _ meth c prog_2_method_4_code "ContentLibrary$Blocks" 4 (some .int) := ⟨B.exec, B.bytes, B.returns, hml, findClass_of_methodNamed B.named, fun w h => atoms_spec (ws := (x_ws (⟨"ContentLibrary$Blocks", "turn", "(III)I"⟩ : MethodName) prog_2_method_4_code 4 (some .int))) B.pre w (List.mem_cons_of_mem _ h), B.notSynchronized, hz, hK, hG⟩
  obtain ⟨hx, hb, hr, hml, hown, hts, hlocks, hz, hK, hG⟩ := id C0
  have hS : va_S (x_A G) s.heap s.heap [] := va_S.rf
  have hl := lv_entry ([.ref (x_ad G 1), .int p1, .int p2, .int p3]) (n := 4) (Nat.le_of_ble_eq_true rfl)
  rw [lg_entry_eq]
  generalize (lg_sl ([.ref (x_ad G 1), .int p1, .int p2, .int p3]) ++ List.replicate (4 - (lg_sl ([.ref (x_ad G 1), .int p1, .int p2, .int p3])).length) Slot.unset).toArray = ls at hl ⊢
  have hl : lv_has ls 4 [(0, .ref (x_ad G 1)), (1, .int p1), (2, .int p2), (3, .int p3)] := hl
  rw [f_B_turn] at hf
  refine lv_aload_n hx hb d_B_turn_0 rfl (lv_at hl 0 rfl) ?_
  refine va_get (D := x_D G) (ci := 1) (v := .ref (x_ad G 2)) (C := "ContentLibrary$Blocks") (T := x_TB) (N := 5) hx hb hts x_inB hown hK hP 1 (x_lk_B G _) rfl 3 (by decide) (hts _ t_45) (fun _ h9 => h9) rfl d_B_turn_1 ?_
  refine lv_iload_n hx hb d_B_turn_4 rfl (lv_at hl 1 rfl) ?_
  refine lv_bipush (v := (64 : Int32)) hx hb d_B_turn_5 (by decide) ?_
  refine lv_imul hx hb d_B_turn_7 ?_
  refine lv_iload_n hx hb d_B_turn_8 rfl (lv_at hl 2 rfl) ?_
  refine lv_iadd hx hb d_B_turn_9 ?_
  refine lv_dup2_11 hx hb d_B_turn_10 rfl rfl ?_
  obtain ⟨hin1, hf⟩ := x_ck_some hf
  refine va_iald hx hb hK hP 2 0 (x_lk_A G _ rfl) rfl hin1 d_B_turn_11 ?_
  refine lv_iload_n hx hb d_B_turn_12 rfl (lv_at hl 3 rfl) ?_
  refine lv_ixor hx hb d_B_turn_13 ?_
  obtain ⟨hin2, hf⟩ := x_ck_some hf
  refine va_iast hx hb hK hP hD hS 2 0 (x_lk_A G _ rfl) rfl hin2 d_B_turn_14 (fun H locs hP hD hS => ?_)
  rw [x_st_A G _ (k := 2) rfl] at hP hD
  refine lv_aload_n hx hb d_B_turn_15 rfl (lv_at hl 0 rfl) ?_
  refine lv_iload_n hx hb d_B_turn_16 rfl (lv_at hl 1 rfl) ?_
  refine lv_iload_n hx hb d_B_turn_17 rfl (lv_at hl 2 rfl) ?_
  obtain ⟨r3, z3, hq4, hf⟩ := x_cl_some hf
  refine va_calli (va_runV (As := [.int p1, .int p2]) (rest := []) ⟨hx, hb, hml, hown, hts⟩ (c_B_get l G p1 p2 (x_put z0 2 (((p1 * (64 : Int32)) + p2)).toNatClampNeg ((z0.1 2 (((p1 * (64 : Int32)) + p2)).toNatClampNeg) ^^^ p3)) r3 z3 hq4) (cwV 2 hts (x_gV t_174 t_175 t_176 t_3 t_177) rfl rfl rfl (by decide +kernel) ⟨Nat.le_of_ble_eq_true rfl, Nat.le_of_ble_eq_true rfl⟩) ⟨x_blind _ _ _, va_recv hK hP (ci := 1) (q0 := 1) rfl (x_lk_B G _), fun U hU hW => ⟨rfl, x_pw hP hD hK hG hS hz hU hW⟩⟩ rfl rfl hl.1 rfl (lv_room (Nat.le_of_ble_eq_true rfl)) d_B_turn_18 ⟨Nat.le_of_ble_eq_true rfl, Nat.le_of_ble_eq_true rfl⟩) hS (fun q _ h => h) (fun q h => h) (fun ra u t H locs ht hvm hw hB _ _ hS => ?_)
  obtain ⟨rfl, rfl⟩ := hw
  obtain ⟨hP, hD⟩ := x_back hB ht
  obtain ⟨rfl, rfl⟩ := x_ret hf
  exact W.iret (v := r3) hx hb hr (fun t ht hW => ⟨⟨_, _, rfl, ⟨rfl, rfl⟩, x_pw hP hD hK hG hS hz ht hW⟩, hS.F ht⟩) hS.2.2 d_B_turn_21
abbrev rm_B_isBlank : Room := { frames := 1, cells := 0, slots := 0, locals := 22 }
set_option maxHeartbeats 4000000 in
set_option maxRecDepth 100000 in
theorem w_B_isBlank_2 (l : Launch) (G : x_G) {p : Program} {e : Env} {s : State} {m : MethodId} {args : Array Value} {below : List Frame} {meth : Method} {c : Code} (C0 : x_Ctx G p s m args meth c prog_2_method_5_code "ContentLibrary$Blocks" 3 (some .boolean)) (r : Int32) (zo : x_St) : ∀ (fu : Nat), ∀ (a1 : Int32) (a2 : Int32) (z0 : x_St), f_B_isBlank_2 (x_n G) fu a1 a2 z0 = some (r, zo) → ∀ (H : Heap) (locs : List Loc) (ls : Array Slot), va_P (x_D G) vwCl (x_Wd G z0) H → va_D (x_A G) (x_Wd G z0) → va_S (x_A G) s.heap H locs → lv_has ls 3 [(0, .ref (x_ad G 1)), (1, .int a1), (2, .int a2)] → W p l e rm_B_isBlank s m args below meth c H locs 0 0 (MQ below (va_Qi (fun a u => r = a ∧ zo = u) (x_PW G) (x_A G)) args s 0 0 (x_A G)) (F0 m 2 ls []) := by
  obtain ⟨hx, hb, hr, hml, hown, hts, hlocks, hz, hK, hG⟩ := id C0
  intro fu
  induction fu with
  | zero =>
    intro a1 a2 z0 hf
    rw [f_B_isBlank_2] at hf
    cases hf
  | succ fu ih =>
    intro a1 a2 z0 hf H locs ls hP hD hS hl
    rw [f_B_isBlank_2] at hf
    refine lv_iload_n hx hb d_B_isBlank_2 rfl (lv_at hl 2 rfl) ?_
    refine lv_bipush (v := (64 : Int32)) hx hb d_B_isBlank_3 (by decide) ?_
    refine lv_icmp_ge (tgt := 25) hx hb d_B_isBlank_5 (by decide) (fun hc1 => ?_) (fun hc1 => ?_)
    · have hf := x_br_t hf hc1
      refine lv_iconst (v := (1 : Int32)) hx hb d_B_isBlank_25 (by decide) ?_
      obtain ⟨rfl, rfl⟩ := x_ret hf
      exact W.zret (v := (1 : Int32)) hx hb hr rfl (fun t ht hW => ⟨⟨_, _, rfl, ⟨rfl, rfl⟩, x_pw hP hD hK hG hS hz ht hW⟩, hS.F ht⟩) hS.2.2 d_B_isBlank_26
    · have hf := x_br_f hf hc1
      refine lv_aload_n hx hb d_B_isBlank_8 rfl (lv_at hl 0 rfl) ?_
      refine lv_iload_n hx hb d_B_isBlank_9 rfl (lv_at hl 1 rfl) ?_
      refine lv_iload_n hx hb d_B_isBlank_10 rfl (lv_at hl 2 rfl) ?_
      obtain ⟨r2, z2, hq3, hf⟩ := x_cl_some hf
      refine va_calli (va_runV (As := [.int a1, .int a2]) (rest := []) ⟨hx, hb, hml, hown, hts⟩ (c_B_get l G a1 a2 z0 r2 z2 hq3) (cwV 2 hts (x_gV t_174 t_175 t_176 t_3 t_177) rfl rfl rfl (by decide +kernel) ⟨Nat.le_of_ble_eq_true rfl, Nat.le_of_ble_eq_true rfl⟩) ⟨x_blind _ _ _, va_recv hK hP (ci := 1) (q0 := 1) rfl (x_lk_B G _), fun U hU hW => ⟨rfl, x_pw hP hD hK hG hS hz hU hW⟩⟩ rfl rfl hl.1 rfl (lv_room (Nat.le_of_ble_eq_true rfl)) d_B_isBlank_11 ⟨Nat.le_of_ble_eq_true rfl, Nat.le_of_ble_eq_true rfl⟩) hS (fun q _ h => h) (fun q h => h) (fun ra u t H locs ht hvm hw hB _ _ hS => ?_)
      obtain ⟨rfl, rfl⟩ := hw
      obtain ⟨hP, hD⟩ := x_back hB ht
      refine lv_if_eq (tgt := 19) hx hb d_B_isBlank_14 (by decide) (fun hc4 => ?_) (fun hc4 => ?_)
      · have hf := x_br_t hf hc4
        refine lv_iinc (v := (a2 + (1 : Int32))) (lv' := [(2, .int (a2 + (1 : Int32))), (0, .ref (x_ad G 1)), (1, .int a1)]) hx hb d_B_isBlank_19 hl (k := 2) rfl rfl (by decide) rfl (fun ls hl => ?_)
        refine lv_goto (tgt := 2) hx hb d_B_isBlank_22 (by decide) ?_
        exact ih a1 (a2 + (1 : Int32)) z2 hf _ _ _ hP hD hS (lv_sub hl [1, 2, 0] rfl)
      · have hf := x_br_f hf hc4
        refine lv_iconst (v := (0 : Int32)) hx hb d_B_isBlank_17 (by decide) ?_
        obtain ⟨rfl, rfl⟩ := x_ret hf
        exact W.zret (v := (0 : Int32)) hx hb hr rfl (fun t ht hW => ⟨⟨_, _, rfl, ⟨rfl, rfl⟩, x_pw hP hD hK hG hS hz ht hW⟩, hS.F ht⟩) hS.2.2 d_B_isBlank_18
set_option maxHeartbeats 4000000 in
set_option maxRecDepth 100000 in
theorem c_B_isBlank (l : Launch) (G : x_G) (p1 : Int32) (z0 : x_St) (r : Int32) (zo : x_St) (hf : f_B_isBlank (x_n G) p1 z0 = some (r, zo)) : Met l (⟨"ContentLibrary$Blocks", "isBlank", "(I)Z"⟩ : MethodName) (x_ws (⟨"ContentLibrary$Blocks", "isBlank", "(I)Z"⟩ : MethodName) prog_2_method_5_code 3 (some .boolean)) rm_B_isBlank (va_Pc [.ref (x_ad G 1), .int p1] (x_PW G z0)) (va_Qi (fun a u => r = a ∧ zo = u) (x_PW G) (x_A G)) 0 0 (x_A G) := by
  refine Met.ofW (cc := prog_2_method_5_code) (maxL := 3) (ret := (some .boolean)) (by decide) rfl ?_
  intro p e s m args below meth c s₁ B hml hv
  obtain ⟨rfl, hz, hP, hD, hK, hG⟩ := hv
  have C0 : x_Ctx G p s m _ meth c prog_2_method_5_code "ContentLibrary$Blocks" 3 (some .boolean) := ⟨B.exec, B.bytes, B.returns, hml, findClass_of_methodNamed B.named, fun w h => atoms_spec (ws := (x_ws (⟨"ContentLibrary$Blocks", "isBlank", "(I)Z"⟩ : MethodName) prog_2_method_5_code 3 (some .boolean))) B.pre w (List.mem_cons_of_mem _ h), B.notSynchronized, hz, hK, hG⟩
  obtain ⟨hx, hb, hr, hml, hown, hts, hlocks, hz, hK, hG⟩ := id C0
  have hS : va_S (x_A G) s.heap s.heap [] := va_S.rf
  have hl := lv_entry ([.ref (x_ad G 1), .int p1]) (n := 3) (Nat.le_of_ble_eq_true rfl)
  rw [lg_entry_eq]
  generalize (lg_sl ([.ref (x_ad G 1), .int p1]) ++ List.replicate (3 - (lg_sl ([.ref (x_ad G 1), .int p1])).length) Slot.unset).toArray = ls at hl ⊢
  have hl : lv_has ls 3 [(0, .ref (x_ad G 1)), (1, .int p1)] := hl
  rw [f_B_isBlank] at hf
  refine lv_iconst (v := (0 : Int32)) hx hb d_B_isBlank_0 (by decide) ?_
  refine lv_istore_n (lv' := [(2, .int (0 : Int32)), (0, .ref (x_ad G 1)), (1, .int p1)]) hx hb d_B_isBlank_1 rfl hl (by decide) rfl (fun ls hl => ?_)
  exact w_B_isBlank_2 l G C0 r zo x_FU p1 (0 : Int32) z0 hf _ _ _ hP hD hS (lv_sub hl [1, 2, 0] rfl)
abbrev rm_B_sumOf : Room := { frames := 1, cells := 0, slots := 0, locals := 21 }
set_option maxHeartbeats 4000000 in
set_option maxRecDepth 100000 in
theorem w_B_sumOf_39 (l : Launch) (G : x_G) {p : Program} {e : Env} {s : State} {m : MethodId} {args : Array Value} {below : List Frame} {meth : Method} {c : Code} (C0 : x_Ctx G p s m args meth c prog_2_method_8_code "ContentLibrary$Blocks" 5 (some .int)) (r : Int32) (zo : x_St) : ∀ (a3 : Int32) (z0 : x_St), f_B_sumOf_39 (x_n G) a3 z0 = some (r, zo) → ∀ (H : Heap) (locs : List Loc) (ls : Array Slot), va_P (x_D G) vwCl (x_Wd G z0) H → va_D (x_A G) (x_Wd G z0) → va_S (x_A G) s.heap H locs → lv_has ls 5 [(3, .int a3)] → W p l e rm_B_sumOf s m args below meth c H locs 0 0 (MQ below (va_Qi (fun a u => r = a ∧ zo = u) (x_PW G) (x_A G)) args s 0 0 (x_A G)) (F0 m 39 ls []) := by
  obtain ⟨hx, hb, hr, hml, hown, hts, hlocks, hz, hK, hG⟩ := id C0
  intro a3 z0 hf H locs ls hP hD hS hl
  rw [f_B_sumOf_39] at hf
  refine lv_iload_n hx hb d_B_sumOf_39 rfl (lv_at hl 0 rfl) ?_
  obtain ⟨rfl, rfl⟩ := x_ret hf
  exact W.iret (v := a3) hx hb hr (fun t ht hW => ⟨⟨_, _, rfl, ⟨rfl, rfl⟩, x_pw hP hD hK hG hS hz ht hW⟩, hS.F ht⟩) hS.2.2 d_B_sumOf_40
set_option maxHeartbeats 4000000 in
set_option maxRecDepth 100000 in
theorem w_B_sumOf_9 (l : Launch) (G : x_G) {p : Program} {e : Env} {s : State} {m : MethodId} {args : Array Value} {below : List Frame} {meth : Method} {c : Code} (C0 : x_Ctx G p s m args meth c prog_2_method_8_code "ContentLibrary$Blocks" 5 (some .int)) (r : Int32) (zo : x_St) : ∀ (fu : Nat), ∀ (a1 : Nat) (ha1 : x_isA a1 = true) (a2 : Int32) (a3 : Int32) (a4 : Int32) (z0 : x_St), f_B_sumOf_9 (x_n G) fu a1 a2 a3 a4 z0 = some (r, zo) → ∀ (H : Heap) (locs : List Loc) (ls : Array Slot), va_P (x_D G) vwCl (x_Wd G z0) H → va_D (x_A G) (x_Wd G z0) → va_S (x_A G) s.heap H locs → lv_has ls 5 [(1, .ref (x_ad G a1)), (2, .int a2), (3, .int a3), (4, .int a4)] → W p l e rm_B_sumOf s m args below meth c H locs 0 0 (MQ below (va_Qi (fun a u => r = a ∧ zo = u) (x_PW G) (x_A G)) args s 0 0 (x_A G)) (F0 m 9 ls []) := by
  obtain ⟨hx, hb, hr, hml, hown, hts, hlocks, hz, hK, hG⟩ := id C0
  intro fu
  induction fu with
  | zero =>
    intro a1 ha1 a2 a3 a4 z0 hf
    rw [f_B_sumOf_9] at hf
    cases hf
  | succ fu ih =>
    intro a1 ha1 a2 a3 a4 z0 hf H locs ls hP hD hS hl
    rw [f_B_sumOf_9] at hf
    refine lv_iload hx hb d_B_sumOf_9 (lv_at hl 3 rfl) ?_
    refine lv_bipush (v := (64 : Int32)) hx hb d_B_sumOf_11 (by decide) ?_
    refine lv_icmp_ge (tgt := 39) hx hb d_B_sumOf_13 (by decide) (fun hc1 => ?_) (fun hc1 => ?_)
    · have hf := x_br_t hf hc1
      exact w_B_sumOf_39 l G C0 r zo a3 z0 hf _ _ _ hP hD hS (lv_sub hl [2] rfl)
    · have hf := x_br_f hf hc1
      refine lv_iload_n hx hb d_B_sumOf_16 rfl (lv_at hl 2 rfl) ?_
      refine lv_aload_n hx hb d_B_sumOf_17 rfl (lv_at hl 0 rfl) ?_
      refine lv_iload_n hx hb d_B_sumOf_18 rfl (lv_at hl 1 rfl) ?_
      refine lv_iload hx hb d_B_sumOf_19 (lv_at hl 3 rfl) ?_
      refine lv_iadd hx hb d_B_sumOf_21 ?_
      obtain ⟨hin2, hf⟩ := x_ck_some hf
      refine va_iald hx hb hK hP a1 0 (x_lk_A G _ ha1) rfl hin2 d_B_sumOf_22 ?_
      refine lv_ixor hx hb d_B_sumOf_23 ?_
      refine lv_bipush (v := (7 : Int32)) hx hb d_B_sumOf_24 (by decide) ?_
      obtain ⟨r3, z3, hq4, hf⟩ := x_cl_some hf
      refine va_calli (va_runS (As := [.int (a3 ^^^ (z0.1 a1 ((a2 + a4)).toNatClampNeg)), .int (7 : Int32)]) (rest := []) ⟨hx, hb, hml, hown, hts⟩ (c_Integer_rotateLeft l G (a3 ^^^ (z0.1 a1 ((a2 + a4)).toNatClampNeg)) (7 : Int32) z0 r3 z3 hq4) (va_cwS 2 hts (x_gS t_189 t_190 t_17 t_191) rfl rfl rfl (by decide +kernel) ⟨Nat.le_of_ble_eq_true rfl, Nat.le_of_ble_eq_true rfl⟩) ⟨x_blind _ _ _, fun U hU hW => ⟨rfl, x_pw hP hD hK hG hS hz hU hW⟩⟩ rfl rfl hl.1 rfl (lv_room (Nat.le_of_ble_eq_true rfl)) d_B_sumOf_26 ⟨Nat.le_of_ble_eq_true rfl, Nat.le_of_ble_eq_true rfl⟩) hS (fun q _ h => h) (fun q h => h) (fun ra u t H locs ht hvm hw hB _ _ hS => ?_)
      obtain ⟨rfl, rfl⟩ := hw
      obtain ⟨hP, hD⟩ := x_back hB ht
      refine lv_ldc (v := (374761393 : Int32)) hx hb hown (hts _ t_192) d_B_sumOf_29 ?_
      refine lv_imul hx hb d_B_sumOf_31 ?_
      refine lv_istore_n (lv' := [(3, .int (r3 * (374761393 : Int32))), (1, .ref (x_ad G a1)), (2, .int a2), (4, .int a4)]) hx hb d_B_sumOf_32 rfl hl (by decide) rfl (fun ls hl => ?_)
      refine lv_iinc (v := (a4 + (1 : Int32))) (lv' := [(4, .int (a4 + (1 : Int32))), (3, .int (r3 * (374761393 : Int32))), (1, .ref (x_ad G a1)), (2, .int a2)]) hx hb d_B_sumOf_33 hl (k := 3) rfl rfl (by decide) rfl (fun ls hl => ?_)
      refine lv_goto (tgt := 9) hx hb d_B_sumOf_36 (by decide) ?_
      exact ih a1 ha1 a2 (r3 * (374761393 : Int32)) (a4 + (1 : Int32)) z3 hf _ _ _ hP hD hS (lv_sub hl [2, 3, 1, 0] rfl)
set_option maxHeartbeats 4000000 in
set_option maxRecDepth 100000 in
theorem c_B_sumOf (l : Launch) (G : x_G) (p1 : Int32) (k2 : Nat) (hk2 : x_isA k2 = true) (p3 : Int32) (z0 : x_St) (r : Int32) (zo : x_St) (hf : f_B_sumOf (x_n G) p1 k2 p3 z0 = some (r, zo)) : Met l (⟨"ContentLibrary$Blocks", "sumOf", "(I[II)I"⟩ : MethodName) (x_ws (⟨"ContentLibrary$Blocks", "sumOf", "(I[II)I"⟩ : MethodName) prog_2_method_8_code 5 (some .int)) rm_B_sumOf (va_Pc [.int p1, .ref (x_ad G k2), .int p3] (x_PW G z0)) (va_Qi (fun a u => r = a ∧ zo = u) (x_PW G) (x_A G)) 0 0 (x_A G) := by
  refine Met.ofW (cc := prog_2_method_8_code) (maxL := 5) (ret := (some .int)) (by decide) rfl ?_
  intro p e s m args below meth c s₁ B hml hv
  obtain ⟨rfl, hz, hP, hD, hK, hG⟩ := hv
  have C0 : x_Ctx G p s m _ meth c prog_2_method_8_code "ContentLibrary$Blocks" 5 (some .int) := ⟨B.exec, B.bytes, B.returns, hml, findClass_of_methodNamed B.named, fun w h => atoms_spec (ws := (x_ws (⟨"ContentLibrary$Blocks", "sumOf", "(I[II)I"⟩ : MethodName) prog_2_method_8_code 5 (some .int))) B.pre w (List.mem_cons_of_mem _ h), B.notSynchronized, hz, hK, hG⟩
  obtain ⟨hx, hb, hr, hml, hown, hts, hlocks, hz, hK, hG⟩ := id C0
  have hS : va_S (x_A G) s.heap s.heap [] := va_S.rf
  have hl := lv_entry ([.int p1, .ref (x_ad G k2), .int p3]) (n := 5) (Nat.le_of_ble_eq_true rfl)
  rw [lg_entry_eq]
  generalize (lg_sl ([.int p1, .ref (x_ad G k2), .int p3]) ++ List.replicate (5 - (lg_sl ([.int p1, .ref (x_ad G k2), .int p3])).length) Slot.unset).toArray = ls at hl ⊢
  have hl : lv_has ls 5 [(0, .int p1), (1, .ref (x_ad G k2)), (2, .int p3)] := hl
  rw [f_B_sumOf] at hf
  refine lv_iload_n hx hb d_B_sumOf_0 rfl (lv_at hl 0 rfl) ?_
  refine lv_sipush (v := (256 : Int32)) hx hb d_B_sumOf_1 (by decide) ?_
  refine lv_iadd hx hb d_B_sumOf_4 ?_
  refine lv_istore_n (lv' := [(3, .int (p1 + (256 : Int32))), (0, .int p1), (1, .ref (x_ad G k2)), (2, .int p3)]) hx hb d_B_sumOf_5 rfl hl (by decide) rfl (fun ls hl => ?_)
  refine lv_iconst (v := (4 : Int32)) hx hb d_B_sumOf_6 (by decide) ?_
  refine lv_istore (lv' := [(4, .int (4 : Int32)), (3, .int (p1 + (256 : Int32))), (0, .int p1), (1, .ref (x_ad G k2)), (2, .int p3)]) hx hb d_B_sumOf_7 hl (by decide) rfl (fun ls hl => ?_)
  exact w_B_sumOf_9 l G C0 r zo x_FU k2 hk2 p3 (p1 + (256 : Int32)) (4 : Int32) z0 hf _ _ _ hP hD hS (lv_sub hl [3, 4, 1, 0] rfl)
abbrev rm_B_byteOfSum : Room := { frames := 0, cells := 0, slots := 0, locals := 0 }
set_option maxHeartbeats 4000000 in
set_option maxRecDepth 100000 in
theorem c_B_byteOfSum (l : Launch) (G : x_G) (p1 : Int32) (p2 : Int32) (z0 : x_St) (r : Int32) (zo : x_St) (hf : f_B_byteOfSum (x_n G) p1 p2 z0 = some (r, zo)) : Met l (⟨"ContentLibrary$Blocks", "byteOfSum", "(II)I"⟩ : MethodName) (x_ws (⟨"ContentLibrary$Blocks", "byteOfSum", "(II)I"⟩ : MethodName) prog_2_method_9_code 2 (some .int)) rm_B_byteOfSum (va_Pc [.int p1, .int p2] (x_PW G z0)) (va_Qi (fun a u => r = a ∧ zo = u) (x_PW G) (x_A G)) 0 0 (x_A G) := by
  refine Met.ofW (cc := prog_2_method_9_code) (maxL := 2) (ret := (some .int)) (by decide) rfl ?_
  intro p e s m args below meth c s₁ B hml hv
  obtain ⟨rfl, hz, hP, hD, hK, hG⟩ := hv
  have C0 : x_Ctx G p s m _ meth c prog_2_method_9_code "ContentLibrary$Blocks" 2 (some .int) := ⟨B.exec, B.bytes, B.returns, hml, findClass_of_methodNamed B.named, fun w h => atoms_spec (ws := (x_ws (⟨"ContentLibrary$Blocks", "byteOfSum", "(II)I"⟩ : MethodName) prog_2_method_9_code 2 (some .int))) B.pre w (List.mem_cons_of_mem _ h), B.notSynchronized, hz, hK, hG⟩
  obtain ⟨hx, hb, hr, hml, hown, hts, hlocks, hz, hK, hG⟩ := id C0
  have hS : va_S (x_A G) s.heap s.heap [] := va_S.rf
  have hl := lv_entry ([.int p1, .int p2]) (n := 2) (Nat.le_of_ble_eq_true rfl)
  rw [lg_entry_eq]
  generalize (lg_sl ([.int p1, .int p2]) ++ List.replicate (2 - (lg_sl ([.int p1, .int p2])).length) Slot.unset).toArray = ls at hl ⊢
  have hl : lv_has ls 2 [(0, .int p1), (1, .int p2)] := hl
  rw [f_B_byteOfSum] at hf
  refine lv_iload_n hx hb d_B_byteOfSum_0 rfl (lv_at hl 0 rfl) ?_
  refine lv_bipush (v := (8 : Int32)) hx hb d_B_byteOfSum_1 (by decide) ?_
  refine lv_iload_n hx hb d_B_byteOfSum_3 rfl (lv_at hl 1 rfl) ?_
  refine lv_imul hx hb d_B_byteOfSum_4 ?_
  refine lv_iushr (v := (x_ushr p1 ((8 : Int32) * p2))) hx hb d_B_byteOfSum_5 rfl ?_
  refine lv_sipush (v := (255 : Int32)) hx hb d_B_byteOfSum_6 (by decide) ?_
  refine lv_iand hx hb d_B_byteOfSum_9 ?_
  obtain ⟨rfl, rfl⟩ := x_ret hf
  exact W.iret (v := ((x_ushr p1 ((8 : Int32) * p2)) &&& (255 : Int32))) hx hb hr (fun t ht hW => ⟨⟨_, _, rfl, ⟨rfl, rfl⟩, x_pw hP hD hK hG hS hz ht hW⟩, hS.F ht⟩) hS.2.2 d_B_byteOfSum_10
abbrev rm_B_hasRightSum : Room := { frames := 2, cells := 0, slots := 0, locals := 45 }
set_option maxHeartbeats 4000000 in
set_option maxRecDepth 100000 in
theorem w_B_hasRightSum_15 (l : Launch) (G : x_G) {p : Program} {e : Env} {s : State} {m : MethodId} {args : Array Value} {below : List Frame} {meth : Method} {c : Code} (C0 : x_Ctx G p s m args meth c prog_2_method_7_code "ContentLibrary$Blocks" 4 (some .boolean)) (r : Int32) (zo : x_St) : ∀ (fu : Nat), ∀ (a1 : Int32) (a2 : Int32) (a3 : Int32) (z0 : x_St), f_B_hasRightSum_15 (x_n G) fu a1 a2 a3 z0 = some (r, zo) → ∀ (H : Heap) (locs : List Loc) (ls : Array Slot), va_P (x_D G) vwCl (x_Wd G z0) H → va_D (x_A G) (x_Wd G z0) → va_S (x_A G) s.heap H locs → lv_has ls 4 [(0, .ref (x_ad G 1)), (1, .int a1), (2, .int a2), (3, .int a3)] → W p l e rm_B_hasRightSum s m args below meth c H locs 0 0 (MQ below (va_Qi (fun a u => r = a ∧ zo = u) (x_PW G) (x_A G)) args s 0 0 (x_A G)) (F0 m 15 ls []) := by
  obtain ⟨hx, hb, hr, hml, hown, hts, hlocks, hz, hK, hG⟩ := id C0
  intro fu
  induction fu with
  | zero =>
    intro a1 a2 a3 z0 hf
    rw [f_B_hasRightSum_15] at hf
    cases hf
  | succ fu ih =>
    intro a1 a2 a3 z0 hf H locs ls hP hD hS hl
    rw [f_B_hasRightSum_15] at hf
    refine lv_iload_n hx hb d_B_hasRightSum_15 rfl (lv_at hl 3 rfl) ?_
    refine lv_iconst (v := (4 : Int32)) hx hb d_B_hasRightSum_16 (by decide) ?_
    refine lv_icmp_ge (tgt := 42) hx hb d_B_hasRightSum_17 (by decide) (fun hc1 => ?_) (fun hc1 => ?_)
    · have hf := x_br_t hf hc1
      refine lv_iconst (v := (1 : Int32)) hx hb d_B_hasRightSum_42 (by decide) ?_
      obtain ⟨rfl, rfl⟩ := x_ret hf
      exact W.zret (v := (1 : Int32)) hx hb hr rfl (fun t ht hW => ⟨⟨_, _, rfl, ⟨rfl, rfl⟩, x_pw hP hD hK hG hS hz ht hW⟩, hS.F ht⟩) hS.2.2 d_B_hasRightSum_43
    · have hf := x_br_f hf hc1
      refine lv_aload_n hx hb d_B_hasRightSum_20 rfl (lv_at hl 0 rfl) ?_
      refine lv_iload_n hx hb d_B_hasRightSum_21 rfl (lv_at hl 1 rfl) ?_
      refine lv_iload_n hx hb d_B_hasRightSum_22 rfl (lv_at hl 3 rfl) ?_
      obtain ⟨r2, z2, hq3, hf⟩ := x_cl_some hf
      refine va_calli (va_runV (As := [.int a1, .int a3]) (rest := []) ⟨hx, hb, hml, hown, hts⟩ (c_B_get l G a1 a3 z0 r2 z2 hq3) (cwV 2 hts (x_gV t_174 t_175 t_176 t_3 t_177) rfl rfl rfl (by decide +kernel) ⟨Nat.le_of_ble_eq_true rfl, Nat.le_of_ble_eq_true rfl⟩) ⟨x_blind _ _ _, va_recv hK hP (ci := 1) (q0 := 1) rfl (x_lk_B G _), fun U hU hW => ⟨rfl, x_pw hP hD hK hG hS hz hU hW⟩⟩ rfl rfl hl.1 rfl (lv_room (Nat.le_of_ble_eq_true rfl)) d_B_hasRightSum_23 ⟨Nat.le_of_ble_eq_true rfl, Nat.le_of_ble_eq_true rfl⟩) hS (fun q _ h => h) (fun q h => h) (fun ra u t H locs ht hvm hw hB _ _ hS => ?_)
      obtain ⟨rfl, rfl⟩ := hw
      obtain ⟨hP, hD⟩ := x_back hB ht
      refine lv_iload_n hx hb d_B_hasRightSum_26 rfl (lv_at hl 2 rfl) ?_
      refine lv_iload_n hx hb d_B_hasRightSum_27 rfl (lv_at hl 3 rfl) ?_
      obtain ⟨r4, z4, hq5, hf⟩ := x_cl_some hf
      refine va_calli (va_runS (As := [.int a2, .int a3]) (rest := [.int r2]) ⟨hx, hb, hml, hown, hts⟩ (c_B_byteOfSum l G a2 a3 z2 r4 z4 hq5) (va_cwS 2 hts (x_gS t_193 t_194 t_3 t_195) rfl rfl rfl (by decide +kernel) ⟨Nat.le_of_ble_eq_true rfl, Nat.le_of_ble_eq_true rfl⟩) ⟨x_blind _ _ _, fun U hU hW => ⟨rfl, x_pw hP hD hK hG hS hz hU hW⟩⟩ rfl rfl hl.1 rfl (lv_room (Nat.le_of_ble_eq_true rfl)) d_B_hasRightSum_28 ⟨Nat.le_of_ble_eq_true rfl, Nat.le_of_ble_eq_true rfl⟩) hS (fun q _ h => h) (fun q h => h) (fun ra u t H locs ht hvm hw hB _ _ hS => ?_)
      obtain ⟨rfl, rfl⟩ := hw
      obtain ⟨hP, hD⟩ := x_back hB ht
      refine lv_icmp_eq (tgt := 36) hx hb d_B_hasRightSum_31 (by decide) (fun hc6 => ?_) (fun hc6 => ?_)
      · have hf := x_br_t hf hc6
        refine lv_iinc (v := (a3 + (1 : Int32))) (lv' := [(3, .int (a3 + (1 : Int32))), (0, .ref (x_ad G 1)), (1, .int a1), (2, .int a2)]) hx hb d_B_hasRightSum_36 hl (k := 3) rfl rfl (by decide) rfl (fun ls hl => ?_)
        refine lv_goto (tgt := 15) hx hb d_B_hasRightSum_39 (by decide) ?_
        exact ih a1 a2 (a3 + (1 : Int32)) z4 hf _ _ _ hP hD hS (lv_sub hl [1, 2, 3, 0] rfl)
      · have hf := x_br_f hf hc6
        refine lv_iconst (v := (0 : Int32)) hx hb d_B_hasRightSum_34 (by decide) ?_
        obtain ⟨rfl, rfl⟩ := x_ret hf
        exact W.zret (v := (0 : Int32)) hx hb hr rfl (fun t ht hW => ⟨⟨_, _, rfl, ⟨rfl, rfl⟩, x_pw hP hD hK hG hS hz ht hW⟩, hS.F ht⟩) hS.2.2 d_B_hasRightSum_35
set_option maxHeartbeats 4000000 in
set_option maxRecDepth 100000 in
theorem c_B_hasRightSum (l : Launch) (G : x_G) (p1 : Int32) (z0 : x_St) (r : Int32) (zo : x_St) (hf : f_B_hasRightSum (x_n G) p1 z0 = some (r, zo)) : Met l (⟨"ContentLibrary$Blocks", "hasRightSum", "(I)Z"⟩ : MethodName) (x_ws (⟨"ContentLibrary$Blocks", "hasRightSum", "(I)Z"⟩ : MethodName) prog_2_method_7_code 4 (some .boolean)) rm_B_hasRightSum (va_Pc [.ref (x_ad G 1), .int p1] (x_PW G z0)) (va_Qi (fun a u => r = a ∧ zo = u) (x_PW G) (x_A G)) 0 0 (x_A G) := by
  refine Met.ofW (cc := prog_2_method_7_code) (maxL := 4) (ret := (some .boolean)) (by decide) rfl ?_
  intro p e s m args below meth c s₁ B hml hv
  obtain ⟨rfl, hz, hP, hD, hK, hG⟩ := hv
  have C0 : x_Ctx G p s m _ meth c prog_2_method_7_code "ContentLibrary$Blocks" 4 (some .boolean) := ⟨B.exec, B.bytes, B.returns, hml, findClass_of_methodNamed B.named, fun w h => atoms_spec (ws := (x_ws (⟨"ContentLibrary$Blocks", "hasRightSum", "(I)Z"⟩ : MethodName) prog_2_method_7_code 4 (some .boolean))) B.pre w (List.mem_cons_of_mem _ h), B.notSynchronized, hz, hK, hG⟩
  obtain ⟨hx, hb, hr, hml, hown, hts, hlocks, hz, hK, hG⟩ := id C0
  have hS : va_S (x_A G) s.heap s.heap [] := va_S.rf
  have hl := lv_entry ([.ref (x_ad G 1), .int p1]) (n := 4) (Nat.le_of_ble_eq_true rfl)
  rw [lg_entry_eq]
  generalize (lg_sl ([.ref (x_ad G 1), .int p1]) ++ List.replicate (4 - (lg_sl ([.ref (x_ad G 1), .int p1])).length) Slot.unset).toArray = ls at hl ⊢
  have hl : lv_has ls 4 [(0, .ref (x_ad G 1)), (1, .int p1)] := hl
  rw [f_B_hasRightSum] at hf
  refine lv_iload_n hx hb d_B_hasRightSum_0 rfl (lv_at hl 1 rfl) ?_
  refine lv_aload_n hx hb d_B_hasRightSum_1 rfl (lv_at hl 0 rfl) ?_
  refine va_get (D := x_D G) (ci := 1) (v := .ref (x_ad G 2)) (C := "ContentLibrary$Blocks") (T := x_TB) (N := 5) hx hb hts x_inB hown hK hP 1 (x_lk_B G _) rfl 3 (by decide) (hts _ t_45) (fun _ h9 => h9) rfl d_B_hasRightSum_2 ?_
  refine lv_iload_n hx hb d_B_hasRightSum_5 rfl (lv_at hl 1 rfl) ?_
  refine lv_bipush (v := (64 : Int32)) hx hb d_B_hasRightSum_6 (by decide) ?_
  refine lv_imul hx hb d_B_hasRightSum_8 ?_
  obtain ⟨r7, z7, hq8, hf⟩ := x_cl_some hf
  refine va_calli (va_runS (As := [.int p1, .ref (x_ad G 2), .int (p1 * (64 : Int32))]) (rest := []) ⟨hx, hb, hml, hown, hts⟩ (c_B_sumOf l G p1 2 (by decide) (p1 * (64 : Int32)) z0 r7 z7 hq8) (va_cwS 3 hts (x_gS t_186 t_187 t_3 t_188) rfl rfl rfl (by decide +kernel) ⟨Nat.le_of_ble_eq_true rfl, Nat.le_of_ble_eq_true rfl⟩) ⟨x_blind _ _ _, fun U hU hW => ⟨rfl, x_pw hP hD hK hG hS hz hU hW⟩⟩ rfl rfl hl.1 rfl (lv_room (Nat.le_of_ble_eq_true rfl)) d_B_hasRightSum_9 ⟨Nat.le_of_ble_eq_true rfl, Nat.le_of_ble_eq_true rfl⟩) hS (fun q _ h => h) (fun q h => h) (fun ra u t H locs ht hvm hw hB _ _ hS => ?_)
  obtain ⟨rfl, rfl⟩ := hw
  obtain ⟨hP, hD⟩ := x_back hB ht
  refine lv_istore_n (lv' := [(2, .int r7), (0, .ref (x_ad G 1)), (1, .int p1)]) hx hb d_B_hasRightSum_12 rfl hl (by decide) rfl (fun ls hl => ?_)
  refine lv_iconst (v := (0 : Int32)) hx hb d_B_hasRightSum_13 (by decide) ?_
  refine lv_istore_n (lv' := [(3, .int (0 : Int32)), (2, .int r7), (0, .ref (x_ad G 1)), (1, .int p1)]) hx hb d_B_hasRightSum_14 rfl hl (by decide) rfl (fun ls hl => ?_)
  exact w_B_hasRightSum_15 l G C0 r zo x_FU p1 r7 (0 : Int32) z7 hf _ _ _ hP hD hS (lv_sub hl [2, 3, 1, 0] rfl)
abbrev rm_B_isGood : Room := { frames := 3, cells := 0, slots := 0, locals := 68 }
set_option maxHeartbeats 4000000 in
set_option maxRecDepth 100000 in
theorem c_B_isGood (l : Launch) (G : x_G) (p1 : Int32) (z0 : x_St) (r : Int32) (zo : x_St) (hf : f_B_isGood (x_n G) p1 z0 = some (r, zo)) : Met l (⟨"ContentLibrary$Blocks", "isGood", "(I)Z"⟩ : MethodName) (x_ws (⟨"ContentLibrary$Blocks", "isGood", "(I)Z"⟩ : MethodName) prog_2_method_6_code 3 (some .boolean)) rm_B_isGood (va_Pc [.ref (x_ad G 1), .int p1] (x_PW G z0)) (va_Qi (fun a u => r = a ∧ zo = u) (x_PW G) (x_A G)) 0 0 (x_A G) := by
  refine Met.ofW (cc := prog_2_method_6_code) (maxL := 3) (ret := (some .boolean)) (by decide) rfl ?_
  intro p e s m args below meth c s₁ B hml hv
  obtain ⟨rfl, hz, hP, hD, hK, hG⟩ := hv
  have C0 : x_Ctx G p s m _ meth c prog_2_method_6_code "ContentLibrary$Blocks" 3 (some .boolean) := ⟨B.exec, B.bytes, B.returns, hml, findClass_of_methodNamed B.named, fun w h => atoms_spec (ws := (x_ws (⟨"ContentLibrary$Blocks", "isGood", "(I)Z"⟩ : MethodName) prog_2_method_6_code 3 (some .boolean))) B.pre w (List.mem_cons_of_mem _ h), B.notSynchronized, hz, hK, hG⟩
  obtain ⟨hx, hb, hr, hml, hown, hts, hlocks, hz, hK, hG⟩ := id C0
  have hS : va_S (x_A G) s.heap s.heap [] := va_S.rf
  have hl := lv_entry ([.ref (x_ad G 1), .int p1]) (n := 3) (Nat.le_of_ble_eq_true rfl)
  rw [lg_entry_eq]
  generalize (lg_sl ([.ref (x_ad G 1), .int p1]) ++ List.replicate (3 - (lg_sl ([.ref (x_ad G 1), .int p1])).length) Slot.unset).toArray = ls at hl ⊢
  have hl : lv_has ls 3 [(0, .ref (x_ad G 1)), (1, .int p1)] := hl
  rw [f_B_isGood] at hf
  refine lv_aload_n hx hb d_B_isGood_0 rfl (lv_at hl 0 rfl) ?_
  refine lv_iload_n hx hb d_B_isGood_1 rfl (lv_at hl 1 rfl) ?_
  refine lv_iconst (v := (4 : Int32)) hx hb d_B_isGood_2 (by decide) ?_
  obtain ⟨r1, z1, hq2, hf⟩ := x_cl_some hf
  refine va_calli (va_runV (As := [.int p1, .int (4 : Int32)]) (rest := []) ⟨hx, hb, hml, hown, hts⟩ (c_B_get l G p1 (4 : Int32) z0 r1 z1 hq2) (cwV 2 hts (x_gV t_174 t_175 t_176 t_3 t_177) rfl rfl rfl (by decide +kernel) ⟨Nat.le_of_ble_eq_true rfl, Nat.le_of_ble_eq_true rfl⟩) ⟨x_blind _ _ _, va_recv hK hP (ci := 1) (q0 := 1) rfl (x_lk_B G _), fun U hU hW => ⟨rfl, x_pw hP hD hK hG hS hz hU hW⟩⟩ rfl rfl hl.1 rfl (lv_room (Nat.le_of_ble_eq_true rfl)) d_B_isGood_3 ⟨Nat.le_of_ble_eq_true rfl, Nat.le_of_ble_eq_true rfl⟩) hS (fun q _ h => h) (fun q h => h) (fun ra u t H locs ht hvm hw hB _ _ hS => ?_)
  obtain ⟨rfl, rfl⟩ := hw
  obtain ⟨hP, hD⟩ := x_back hB ht
  refine lv_istore_n (lv' := [(2, .int r1), (0, .ref (x_ad G 1)), (1, .int p1)]) hx hb d_B_isGood_6 rfl hl (by decide) rfl (fun ls hl => ?_)
  refine lv_iload_n hx hb d_B_isGood_7 rfl (lv_at hl 0 rfl) ?_
  refine lv_iconst (v := (1 : Int32)) hx hb d_B_isGood_8 (by decide) ?_
  refine lv_icmp_lt (tgt := 52) hx hb d_B_isGood_9 (by decide) (fun hc3 => ?_) (fun hc3 => ?_)
  · have hf := x_br_t hf hc3
    refine lv_iconst (v := (0 : Int32)) hx hb d_B_isGood_52 (by decide) ?_
    obtain ⟨rfl, rfl⟩ := x_ret hf
    exact W.zret (v := (0 : Int32)) hx hb hr rfl (fun t ht hW => ⟨⟨_, _, rfl, ⟨rfl, rfl⟩, x_pw hP hD hK hG hS hz ht hW⟩, hS.F ht⟩) hS.2.2 d_B_isGood_53
  · have hf := x_br_f hf hc3
    refine lv_iload_n hx hb d_B_isGood_12 rfl (lv_at hl 0 rfl) ?_
    refine lv_iconst (v := (3 : Int32)) hx hb d_B_isGood_13 (by decide) ?_
    refine lv_icmp_gt (tgt := 52) hx hb d_B_isGood_14 (by decide) (fun hc4 => ?_) (fun hc4 => ?_)
    · have hf := x_br_t hf hc4
      refine lv_iconst (v := (0 : Int32)) hx hb d_B_isGood_52 (by decide) ?_
      obtain ⟨rfl, rfl⟩ := x_ret hf
      exact W.zret (v := (0 : Int32)) hx hb hr rfl (fun t ht hW => ⟨⟨_, _, rfl, ⟨rfl, rfl⟩, x_pw hP hD hK hG hS hz ht hW⟩, hS.F ht⟩) hS.2.2 d_B_isGood_53
    · have hf := x_br_f hf hc4
      refine lv_aload_n hx hb d_B_isGood_17 rfl (lv_at hl 1 rfl) ?_
      refine lv_iload_n hx hb d_B_isGood_18 rfl (lv_at hl 2 rfl) ?_
      refine lv_iconst (v := (5 : Int32)) hx hb d_B_isGood_19 (by decide) ?_
      obtain ⟨r5, z5, hq6, hf⟩ := x_cl_some hf
      refine va_calli (va_runV (As := [.int p1, .int (5 : Int32)]) (rest := []) ⟨hx, hb, hml, hown, hts⟩ (c_B_get l G p1 (5 : Int32) z1 r5 z5 hq6) (cwV 2 hts (x_gV t_174 t_175 t_176 t_3 t_177) rfl rfl rfl (by decide +kernel) ⟨Nat.le_of_ble_eq_true rfl, Nat.le_of_ble_eq_true rfl⟩) ⟨x_blind _ _ _, va_recv hK hP (ci := 1) (q0 := 1) rfl (x_lk_B G _), fun U hU hW => ⟨rfl, x_pw hP hD hK hG hS hz hU hW⟩⟩ rfl rfl hl.1 rfl (lv_room (Nat.le_of_ble_eq_true rfl)) d_B_isGood_20 ⟨Nat.le_of_ble_eq_true rfl, Nat.le_of_ble_eq_true rfl⟩) hS (fun q _ h => h) (fun q h => h) (fun ra u t H locs ht hvm hw hB _ _ hS => ?_)
      obtain ⟨rfl, rfl⟩ := hw
      obtain ⟨hP, hD⟩ := x_back hB ht
      refine lv_bipush (v := (16 : Int32)) hx hb d_B_isGood_23 (by decide) ?_
      refine lv_icmp_ge (tgt := 52) hx hb d_B_isGood_25 (by decide) (fun hc7 => ?_) (fun hc7 => ?_)
      · have hf := x_br_t hf hc7
        refine lv_iconst (v := (0 : Int32)) hx hb d_B_isGood_52 (by decide) ?_
        obtain ⟨rfl, rfl⟩ := x_ret hf
        exact W.zret (v := (0 : Int32)) hx hb hr rfl (fun t ht hW => ⟨⟨_, _, rfl, ⟨rfl, rfl⟩, x_pw hP hD hK hG hS hz ht hW⟩, hS.F ht⟩) hS.2.2 d_B_isGood_53
      · have hf := x_br_f hf hc7
        refine lv_aload_n hx hb d_B_isGood_28 rfl (lv_at hl 1 rfl) ?_
        refine lv_iload_n hx hb d_B_isGood_29 rfl (lv_at hl 2 rfl) ?_
        refine lv_bipush (v := (7 : Int32)) hx hb d_B_isGood_30 (by decide) ?_
        obtain ⟨r8, z8, hq9, hf⟩ := x_cl_some hf
        refine va_calli (va_runV (As := [.int p1, .int (7 : Int32)]) (rest := []) ⟨hx, hb, hml, hown, hts⟩ (c_B_get l G p1 (7 : Int32) z5 r8 z8 hq9) (cwV 2 hts (x_gV t_174 t_175 t_176 t_3 t_177) rfl rfl rfl (by decide +kernel) ⟨Nat.le_of_ble_eq_true rfl, Nat.le_of_ble_eq_true rfl⟩) ⟨x_blind _ _ _, va_recv hK hP (ci := 1) (q0 := 1) rfl (x_lk_B G _), fun U hU hW => ⟨rfl, x_pw hP hD hK hG hS hz hU hW⟩⟩ rfl rfl hl.1 rfl (lv_room (Nat.le_of_ble_eq_true rfl)) d_B_isGood_32 ⟨Nat.le_of_ble_eq_true rfl, Nat.le_of_ble_eq_true rfl⟩) hS (fun q _ h => h) (fun q h => h) (fun ra u t H locs ht hvm hw hB _ _ hS => ?_)
        obtain ⟨rfl, rfl⟩ := hw
        obtain ⟨hP, hD⟩ := x_back hB ht
        refine lv_bipush (v := (56 : Int32)) hx hb d_B_isGood_35 (by decide) ?_
        refine lv_icmp_gt (tgt := 52) hx hb d_B_isGood_37 (by decide) (fun hc10 => ?_) (fun hc10 => ?_)
        · have hf := x_br_t hf hc10
          refine lv_iconst (v := (0 : Int32)) hx hb d_B_isGood_52 (by decide) ?_
          obtain ⟨rfl, rfl⟩ := x_ret hf
          exact W.zret (v := (0 : Int32)) hx hb hr rfl (fun t ht hW => ⟨⟨_, _, rfl, ⟨rfl, rfl⟩, x_pw hP hD hK hG hS hz ht hW⟩, hS.F ht⟩) hS.2.2 d_B_isGood_53
        · have hf := x_br_f hf hc10
          refine lv_aload_n hx hb d_B_isGood_40 rfl (lv_at hl 1 rfl) ?_
          refine lv_iload_n hx hb d_B_isGood_41 rfl (lv_at hl 2 rfl) ?_
          obtain ⟨r11, z11, hq12, hf⟩ := x_cl_some hf
          refine va_calli (va_runV (As := [.int p1]) (rest := []) ⟨hx, hb, hml, hown, hts⟩ (c_B_hasRightSum l G p1 z8 r11 z11 hq12) (cwV 1 hts (x_gV t_182 t_184 sel_ContentLibrary_Blocks_hasRightSum t_3 t_185) rfl rfl rfl (by decide +kernel) ⟨Nat.le_of_ble_eq_true rfl, Nat.le_of_ble_eq_true rfl⟩) ⟨x_blind _ _ _, va_recv hK hP (ci := 1) (q0 := 1) rfl (x_lk_B G _), fun U hU hW => ⟨rfl, x_pw hP hD hK hG hS hz hU hW⟩⟩ rfl rfl hl.1 rfl (lv_room (Nat.le_of_ble_eq_true rfl)) d_B_isGood_42 ⟨Nat.le_of_ble_eq_true rfl, Nat.le_of_ble_eq_true rfl⟩) hS (fun q _ h => h) (fun q h => h) (fun ra u t H locs ht hvm hw hB _ _ hS => ?_)
          obtain ⟨rfl, rfl⟩ := hw
          obtain ⟨hP, hD⟩ := x_back hB ht
          refine lv_if_eq (tgt := 52) hx hb d_B_isGood_45 (by decide) (fun hc13 => ?_) (fun hc13 => ?_)
          · have hf := x_br_t hf hc13
            refine lv_iconst (v := (0 : Int32)) hx hb d_B_isGood_52 (by decide) ?_
            obtain ⟨rfl, rfl⟩ := x_ret hf
            exact W.zret (v := (0 : Int32)) hx hb hr rfl (fun t ht hW => ⟨⟨_, _, rfl, ⟨rfl, rfl⟩, x_pw hP hD hK hG hS hz ht hW⟩, hS.F ht⟩) hS.2.2 d_B_isGood_53
          · have hf := x_br_f hf hc13
            refine lv_iconst (v := (1 : Int32)) hx hb d_B_isGood_48 (by decide) ?_
            refine lv_goto (tgt := 53) hx hb d_B_isGood_49 (by decide) ?_
            obtain ⟨rfl, rfl⟩ := x_ret hf
            exact W.zret (v := (1 : Int32)) hx hb hr rfl (fun t ht hW => ⟨⟨_, _, rfl, ⟨rfl, rfl⟩, x_pw hP hD hK hG hS hz ht hW⟩, hS.F ht⟩) hS.2.2 d_B_isGood_53
abbrev rm_B_onlyGood : Room := { frames := 4, cells := 0, slots := 0, locals := 90 }
set_option maxHeartbeats 4000000 in
set_option maxRecDepth 100000 in
theorem w_B_onlyGood_93 (l : Launch) (G : x_G) {p : Program} {e : Env} {s : State} {m : MethodId} {args : Array Value} {below : List Frame} {meth : Method} {c : Code} (C0 : x_Ctx G p s m args meth c prog_2_method_10_code "ContentLibrary$Blocks" 7 (some .int)) (r : Int32) (zo : x_St) : ∀ (a4 : Int32) (z0 : x_St), f_B_onlyGood_93 (x_n G) a4 z0 = some (r, zo) → ∀ (H : Heap) (locs : List Loc) (ls : Array Slot), va_P (x_D G) vwCl (x_Wd G z0) H → va_D (x_A G) (x_Wd G z0) → va_S (x_A G) s.heap H locs → lv_has ls 7 [(4, .int a4)] → W p l e rm_B_onlyGood s m args below meth c H locs 0 0 (MQ below (va_Qi (fun a u => r = a ∧ zo = u) (x_PW G) (x_A G)) args s 0 0 (x_A G)) (F0 m 93 ls []) := by
  obtain ⟨hx, hb, hr, hml, hown, hts, hlocks, hz, hK, hG⟩ := id C0
  intro a4 z0 hf H locs ls hP hD hS hl
  rw [f_B_onlyGood_93] at hf
  refine lv_iload hx hb d_B_onlyGood_93 (lv_at hl 0 rfl) ?_
  obtain ⟨rfl, rfl⟩ := x_ret hf
  exact W.iret (v := a4) hx hb hr (fun t ht hW => ⟨⟨_, _, rfl, ⟨rfl, rfl⟩, x_pw hP hD hK hG hS hz ht hW⟩, hS.F ht⟩) hS.2.2 d_B_onlyGood_95
set_option maxHeartbeats 4000000 in
set_option maxRecDepth 100000 in
theorem w_B_onlyGood_6 (l : Launch) (G : x_G) {p : Program} {e : Env} {s : State} {m : MethodId} {args : Array Value} {below : List Frame} {meth : Method} {c : Code} (C0 : x_Ctx G p s m args meth c prog_2_method_10_code "ContentLibrary$Blocks" 7 (some .int)) (r : Int32) (zo : x_St) : ∀ (fu : Nat), ∀ (a1 : Int32) (a2 : Int32) (a3 : Int32) (a4 : Int32) (a5 : Int32) (z0 : x_St), f_B_onlyGood_6 (x_n G) fu a1 a2 a3 a4 a5 z0 = some (r, zo) → ∀ (H : Heap) (locs : List Loc) (ls : Array Slot), va_P (x_D G) vwCl (x_Wd G z0) H → va_D (x_A G) (x_Wd G z0) → va_S (x_A G) s.heap H locs → lv_has ls 7 [(0, .ref (x_ad G 1)), (1, .int a1), (2, .int a2), (3, .int a3), (4, .int a4), (5, .int a5)] → W p l e rm_B_onlyGood s m args below meth c H locs 0 0 (MQ below (va_Qi (fun a u => r = a ∧ zo = u) (x_PW G) (x_A G)) args s 0 0 (x_A G)) (F0 m 6 ls []) := by
  obtain ⟨hx, hb, hr, hml, hown, hts, hlocks, hz, hK, hG⟩ := id C0
  intro fu
  induction fu with
  | zero =>
    intro a1 a2 a3 a4 a5 z0 hf
    rw [f_B_onlyGood_6] at hf
    cases hf
  | succ fu ih =>
    intro a1 a2 a3 a4 a5 z0 hf H locs ls hP hD hS hl
    rw [f_B_onlyGood_6] at hf
    refine lv_iload hx hb d_B_onlyGood_6 (lv_at hl 5 rfl) ?_
    refine lv_aload_n hx hb d_B_onlyGood_8 rfl (lv_at hl 0 rfl) ?_
    refine va_get (D := x_D G) (ci := 1) (v := .int (z0.1 1 0)) (C := "ContentLibrary$Blocks") (T := x_TB) (N := 5) hx hb hts x_inB hown hK hP 1 (x_lk_B G _) rfl 0 (by decide) (hts _ t_39) (fun _ h9 => h9) rfl d_B_onlyGood_9 ?_
    refine lv_icmp_ge (tgt := 93) hx hb d_B_onlyGood_12 (by decide) (fun hc1 => ?_) (fun hc1 => ?_)
    · have hf := x_br_t hf hc1
      exact w_B_onlyGood_93 l G C0 r zo a4 z0 hf _ _ _ hP hD hS (lv_sub hl [4] rfl)
    · have hf := x_br_f hf hc1
      refine lv_aload_n hx hb d_B_onlyGood_15 rfl (lv_at hl 0 rfl) ?_
      refine lv_iload hx hb d_B_onlyGood_16 (lv_at hl 5 rfl) ?_
      refine lv_iconst (v := (4 : Int32)) hx hb d_B_onlyGood_18 (by decide) ?_
      obtain ⟨r2, z2, hq3, hf⟩ := x_cl_some hf
      refine va_calli (va_runV (As := [.int a5, .int (4 : Int32)]) (rest := []) ⟨hx, hb, hml, hown, hts⟩ (c_B_get l G a5 (4 : Int32) z0 r2 z2 hq3) (cwV 2 hts (x_gV t_174 t_175 t_176 t_3 t_177) rfl rfl rfl (by decide +kernel) ⟨Nat.le_of_ble_eq_true rfl, Nat.le_of_ble_eq_true rfl⟩) ⟨x_blind _ _ _, va_recv hK hP (ci := 1) (q0 := 1) rfl (x_lk_B G _), fun U hU hW => ⟨rfl, x_pw hP hD hK hG hS hz hU hW⟩⟩ rfl rfl hl.1 rfl (lv_room (Nat.le_of_ble_eq_true rfl)) d_B_onlyGood_19 ⟨Nat.le_of_ble_eq_true rfl, Nat.le_of_ble_eq_true rfl⟩) hS (fun q _ h => h) (fun q h => h) (fun ra u t H locs ht hvm hw hB _ _ hS => ?_)
      obtain ⟨rfl, rfl⟩ := hw
      obtain ⟨hP, hD⟩ := x_back hB ht
      refine lv_iload_n hx hb d_B_onlyGood_22 rfl (lv_at hl 1 rfl) ?_
      refine lv_icmp_ne (tgt := 58) hx hb d_B_onlyGood_23 (by decide) (fun hc4 => ?_) (fun hc4 => ?_)
      · have hf := x_br_f hf hc4
        refine lv_iconst (v := (0 : Int32)) hx hb d_B_onlyGood_58 (by decide) ?_
        refine lv_istore (lv' := [(6, .int (0 : Int32)), (0, .ref (x_ad G 1)), (1, .int a1), (2, .int a2), (3, .int a3), (4, .int a4), (5, .int a5)]) hx hb d_B_onlyGood_59 hl (by decide) rfl (fun ls hl => ?_)
        refine lv_iload hx hb d_B_onlyGood_61 (lv_at hl 0 rfl) ?_
        refine lv_if_eq (tgt := 87) hx hb d_B_onlyGood_63 (by decide) (fun _ => ?_) (fun hc => absurd hc (by decide))
        refine lv_iinc (v := (a5 + (1 : Int32))) (lv' := [(5, .int (a5 + (1 : Int32))), (6, .int (0 : Int32)), (0, .ref (x_ad G 1)), (1, .int a1), (2, .int a2), (3, .int a3), (4, .int a4)]) hx hb d_B_onlyGood_87 hl (k := 6) rfl rfl (by decide) rfl (fun ls hl => ?_)
        refine lv_goto (tgt := 6) hx hb d_B_onlyGood_90 (by decide) ?_
        exact ih a1 a2 a3 a4 (a5 + (1 : Int32)) z2 hf _ _ _ hP hD hS (lv_sub hl [2, 3, 4, 5, 6, 0] rfl)
      · have hf := x_br_t hf hc4
        refine lv_aload_n hx hb d_B_onlyGood_26 rfl (lv_at hl 0 rfl) ?_
        refine lv_iload hx hb d_B_onlyGood_27 (lv_at hl 5 rfl) ?_
        refine lv_iconst (v := (5 : Int32)) hx hb d_B_onlyGood_29 (by decide) ?_
        obtain ⟨r5, z5, hq6, hf⟩ := x_cl_some hf
        refine va_calli (va_runV (As := [.int a5, .int (5 : Int32)]) (rest := []) ⟨hx, hb, hml, hown, hts⟩ (c_B_get l G a5 (5 : Int32) z2 r5 z5 hq6) (cwV 2 hts (x_gV t_174 t_175 t_176 t_3 t_177) rfl rfl rfl (by decide +kernel) ⟨Nat.le_of_ble_eq_true rfl, Nat.le_of_ble_eq_true rfl⟩) ⟨x_blind _ _ _, va_recv hK hP (ci := 1) (q0 := 1) rfl (x_lk_B G _), fun U hU hW => ⟨rfl, x_pw hP hD hK hG hS hz hU hW⟩⟩ rfl rfl hl.1 rfl (lv_room (Nat.le_of_ble_eq_true rfl)) d_B_onlyGood_30 ⟨Nat.le_of_ble_eq_true rfl, Nat.le_of_ble_eq_true rfl⟩) hS (fun q _ h => h) (fun q h => h) (fun ra u t H locs ht hvm hw hB _ _ hS => ?_)
        obtain ⟨rfl, rfl⟩ := hw
        obtain ⟨hP, hD⟩ := x_back hB ht
        refine lv_iload_n hx hb d_B_onlyGood_33 rfl (lv_at hl 2 rfl) ?_
        refine lv_icmp_ne (tgt := 58) hx hb d_B_onlyGood_34 (by decide) (fun hc7 => ?_) (fun hc7 => ?_)
        · have hf := x_br_f hf hc7
          refine lv_iconst (v := (0 : Int32)) hx hb d_B_onlyGood_58 (by decide) ?_
          refine lv_istore (lv' := [(6, .int (0 : Int32)), (0, .ref (x_ad G 1)), (1, .int a1), (2, .int a2), (3, .int a3), (4, .int a4), (5, .int a5)]) hx hb d_B_onlyGood_59 hl (by decide) rfl (fun ls hl => ?_)
          refine lv_iload hx hb d_B_onlyGood_61 (lv_at hl 0 rfl) ?_
          refine lv_if_eq (tgt := 87) hx hb d_B_onlyGood_63 (by decide) (fun _ => ?_) (fun hc => absurd hc (by decide))
          refine lv_iinc (v := (a5 + (1 : Int32))) (lv' := [(5, .int (a5 + (1 : Int32))), (6, .int (0 : Int32)), (0, .ref (x_ad G 1)), (1, .int a1), (2, .int a2), (3, .int a3), (4, .int a4)]) hx hb d_B_onlyGood_87 hl (k := 6) rfl rfl (by decide) rfl (fun ls hl => ?_)
          refine lv_goto (tgt := 6) hx hb d_B_onlyGood_90 (by decide) ?_
          exact ih a1 a2 a3 a4 (a5 + (1 : Int32)) z5 hf _ _ _ hP hD hS (lv_sub hl [2, 3, 4, 5, 6, 0] rfl)
        · have hf := x_br_t hf hc7
          refine lv_iload_n hx hb d_B_onlyGood_37 rfl (lv_at hl 3 rfl) ?_
          refine lv_iconst (v := (-1 : Int32)) hx hb d_B_onlyGood_38 (by decide) ?_
          refine lv_icmp_eq (tgt := 54) hx hb d_B_onlyGood_39 (by decide) (fun hc8 => ?_) (fun hc8 => ?_)
          · have hf := x_br_t hf hc8
            refine lv_iconst (v := (1 : Int32)) hx hb d_B_onlyGood_54 (by decide) ?_
            refine lv_goto (tgt := 59) hx hb d_B_onlyGood_55 (by decide) ?_
            refine lv_istore (lv' := [(6, .int (1 : Int32)), (0, .ref (x_ad G 1)), (1, .int a1), (2, .int a2), (3, .int a3), (4, .int a4), (5, .int a5)]) hx hb d_B_onlyGood_59 hl (by decide) rfl (fun ls hl => ?_)
            refine lv_iload hx hb d_B_onlyGood_61 (lv_at hl 0 rfl) ?_
            refine lv_if_eq (tgt := 87) hx hb d_B_onlyGood_63 (by decide) (fun hc => absurd hc (by decide)) (fun _ => ?_)
            refine lv_aload_n hx hb d_B_onlyGood_66 rfl (lv_at hl 1 rfl) ?_
            refine lv_iload hx hb d_B_onlyGood_67 (lv_at hl 6 rfl) ?_
            obtain ⟨r9, z9, hq10, hf⟩ := x_cl_some hf
            refine va_calli (va_runV (As := [.int a5]) (rest := []) ⟨hx, hb, hml, hown, hts⟩ (c_B_isGood l G a5 z5 r9 z9 hq10) (cwV 1 hts (x_gV t_178 t_179 t_180 t_3 t_181) rfl rfl rfl (by decide +kernel) ⟨Nat.le_of_ble_eq_true rfl, Nat.le_of_ble_eq_true rfl⟩) ⟨x_blind _ _ _, va_recv hK hP (ci := 1) (q0 := 1) rfl (x_lk_B G _), fun U hU hW => ⟨rfl, x_pw hP hD hK hG hS hz hU hW⟩⟩ rfl rfl hl.1 rfl (lv_room (Nat.le_of_ble_eq_true rfl)) d_B_onlyGood_69 ⟨Nat.le_of_ble_eq_true rfl, Nat.le_of_ble_eq_true rfl⟩) hS (fun q _ h => h) (fun q h => h) (fun ra u t H locs ht hvm hw hB _ _ hS => ?_)
            obtain ⟨rfl, rfl⟩ := hw
            obtain ⟨hP, hD⟩ := x_back hB ht
            refine lv_if_eq (tgt := 87) hx hb d_B_onlyGood_72 (by decide) (fun hc11 => ?_) (fun hc11 => ?_)
            · have hf := x_br_t hf hc11
              refine lv_iinc (v := (a5 + (1 : Int32))) (lv' := [(5, .int (a5 + (1 : Int32))), (6, .int (1 : Int32)), (0, .ref (x_ad G 1)), (1, .int a1), (2, .int a2), (3, .int a3), (4, .int a4)]) hx hb d_B_onlyGood_87 hl (k := 6) rfl rfl (by decide) rfl (fun ls hl => ?_)
              refine lv_goto (tgt := 6) hx hb d_B_onlyGood_90 (by decide) ?_
              exact ih a1 a2 a3 a4 (a5 + (1 : Int32)) z9 hf _ _ _ hP hD hS (lv_sub hl [2, 3, 4, 5, 6, 0] rfl)
            · have hf := x_br_f hf hc11
              refine lv_iload hx hb d_B_onlyGood_75 (lv_at hl 5 rfl) ?_
              refine lv_iconst (v := (-1 : Int32)) hx hb d_B_onlyGood_77 (by decide) ?_
              refine lv_icmp_eq (tgt := 83) hx hb d_B_onlyGood_78 (by decide) (fun hc12 => ?_) (fun hc12 => ?_)
              · have hf := x_br_t hf hc12
                refine lv_iload hx hb d_B_onlyGood_83 (lv_at hl 6 rfl) ?_
                refine lv_istore (lv' := [(4, .int a5), (6, .int (1 : Int32)), (0, .ref (x_ad G 1)), (1, .int a1), (2, .int a2), (3, .int a3), (5, .int a5)]) hx hb d_B_onlyGood_85 hl (by decide) rfl (fun ls hl => ?_)
                refine lv_iinc (v := (a5 + (1 : Int32))) (lv' := [(5, .int (a5 + (1 : Int32))), (4, .int a5), (6, .int (1 : Int32)), (0, .ref (x_ad G 1)), (1, .int a1), (2, .int a2), (3, .int a3)]) hx hb d_B_onlyGood_87 hl (k := 6) rfl rfl (by decide) rfl (fun ls hl => ?_)
                refine lv_goto (tgt := 6) hx hb d_B_onlyGood_90 (by decide) ?_
                exact ih a1 a2 a3 a5 (a5 + (1 : Int32)) z9 hf _ _ _ hP hD hS (lv_sub hl [3, 4, 5, 6, 1, 0] rfl)
              · have hf := x_br_f hf hc12
                refine lv_iconst (v := (-1 : Int32)) hx hb d_B_onlyGood_81 (by decide) ?_
                obtain ⟨rfl, rfl⟩ := x_ret hf
                exact W.iret (v := (-1 : Int32)) hx hb hr (fun t ht hW => ⟨⟨_, _, rfl, ⟨rfl, rfl⟩, x_pw hP hD hK hG hS hz ht hW⟩, hS.F ht⟩) hS.2.2 d_B_onlyGood_82
          · have hf := x_br_f hf hc8
            refine lv_aload_n hx hb d_B_onlyGood_42 rfl (lv_at hl 0 rfl) ?_
            refine lv_iload hx hb d_B_onlyGood_43 (lv_at hl 5 rfl) ?_
            refine lv_bipush (v := (6 : Int32)) hx hb d_B_onlyGood_45 (by decide) ?_
            obtain ⟨r13, z13, hq14, hf⟩ := x_cl_some hf
            refine va_calli (va_runV (As := [.int a5, .int (6 : Int32)]) (rest := []) ⟨hx, hb, hml, hown, hts⟩ (c_B_get l G a5 (6 : Int32) z5 r13 z13 hq14) (cwV 2 hts (x_gV t_174 t_175 t_176 t_3 t_177) rfl rfl rfl (by decide +kernel) ⟨Nat.le_of_ble_eq_true rfl, Nat.le_of_ble_eq_true rfl⟩) ⟨x_blind _ _ _, va_recv hK hP (ci := 1) (q0 := 1) rfl (x_lk_B G _), fun U hU hW => ⟨rfl, x_pw hP hD hK hG hS hz hU hW⟩⟩ rfl rfl hl.1 rfl (lv_room (Nat.le_of_ble_eq_true rfl)) d_B_onlyGood_47 ⟨Nat.le_of_ble_eq_true rfl, Nat.le_of_ble_eq_true rfl⟩) hS (fun q _ h => h) (fun q h => h) (fun ra u t H locs ht hvm hw hB _ _ hS => ?_)
            obtain ⟨rfl, rfl⟩ := hw
            obtain ⟨hP, hD⟩ := x_back hB ht
            refine lv_iload_n hx hb d_B_onlyGood_50 rfl (lv_at hl 3 rfl) ?_
            refine lv_icmp_ne (tgt := 58) hx hb d_B_onlyGood_51 (by decide) (fun hc15 => ?_) (fun hc15 => ?_)
            · have hf := x_br_f hf hc15
              refine lv_iconst (v := (0 : Int32)) hx hb d_B_onlyGood_58 (by decide) ?_
              refine lv_istore (lv' := [(6, .int (0 : Int32)), (0, .ref (x_ad G 1)), (1, .int a1), (2, .int a2), (3, .int a3), (4, .int a4), (5, .int a5)]) hx hb d_B_onlyGood_59 hl (by decide) rfl (fun ls hl => ?_)
              refine lv_iload hx hb d_B_onlyGood_61 (lv_at hl 0 rfl) ?_
              refine lv_if_eq (tgt := 87) hx hb d_B_onlyGood_63 (by decide) (fun _ => ?_) (fun hc => absurd hc (by decide))
              refine lv_iinc (v := (a5 + (1 : Int32))) (lv' := [(5, .int (a5 + (1 : Int32))), (6, .int (0 : Int32)), (0, .ref (x_ad G 1)), (1, .int a1), (2, .int a2), (3, .int a3), (4, .int a4)]) hx hb d_B_onlyGood_87 hl (k := 6) rfl rfl (by decide) rfl (fun ls hl => ?_)
              refine lv_goto (tgt := 6) hx hb d_B_onlyGood_90 (by decide) ?_
              exact ih a1 a2 a3 a4 (a5 + (1 : Int32)) z13 hf _ _ _ hP hD hS (lv_sub hl [2, 3, 4, 5, 6, 0] rfl)
            · have hf := x_br_t hf hc15
              refine lv_iconst (v := (1 : Int32)) hx hb d_B_onlyGood_54 (by decide) ?_
              refine lv_goto (tgt := 59) hx hb d_B_onlyGood_55 (by decide) ?_
              refine lv_istore (lv' := [(6, .int (1 : Int32)), (0, .ref (x_ad G 1)), (1, .int a1), (2, .int a2), (3, .int a3), (4, .int a4), (5, .int a5)]) hx hb d_B_onlyGood_59 hl (by decide) rfl (fun ls hl => ?_)
              refine lv_iload hx hb d_B_onlyGood_61 (lv_at hl 0 rfl) ?_
              refine lv_if_eq (tgt := 87) hx hb d_B_onlyGood_63 (by decide) (fun hc => absurd hc (by decide)) (fun _ => ?_)
              refine lv_aload_n hx hb d_B_onlyGood_66 rfl (lv_at hl 1 rfl) ?_
              refine lv_iload hx hb d_B_onlyGood_67 (lv_at hl 6 rfl) ?_
              obtain ⟨r16, z16, hq17, hf⟩ := x_cl_some hf
              refine va_calli (va_runV (As := [.int a5]) (rest := []) ⟨hx, hb, hml, hown, hts⟩ (c_B_isGood l G a5 z13 r16 z16 hq17) (cwV 1 hts (x_gV t_178 t_179 t_180 t_3 t_181) rfl rfl rfl (by decide +kernel) ⟨Nat.le_of_ble_eq_true rfl, Nat.le_of_ble_eq_true rfl⟩) ⟨x_blind _ _ _, va_recv hK hP (ci := 1) (q0 := 1) rfl (x_lk_B G _), fun U hU hW => ⟨rfl, x_pw hP hD hK hG hS hz hU hW⟩⟩ rfl rfl hl.1 rfl (lv_room (Nat.le_of_ble_eq_true rfl)) d_B_onlyGood_69 ⟨Nat.le_of_ble_eq_true rfl, Nat.le_of_ble_eq_true rfl⟩) hS (fun q _ h => h) (fun q h => h) (fun ra u t H locs ht hvm hw hB _ _ hS => ?_)
              obtain ⟨rfl, rfl⟩ := hw
              obtain ⟨hP, hD⟩ := x_back hB ht
              refine lv_if_eq (tgt := 87) hx hb d_B_onlyGood_72 (by decide) (fun hc18 => ?_) (fun hc18 => ?_)
              · have hf := x_br_t hf hc18
                refine lv_iinc (v := (a5 + (1 : Int32))) (lv' := [(5, .int (a5 + (1 : Int32))), (6, .int (1 : Int32)), (0, .ref (x_ad G 1)), (1, .int a1), (2, .int a2), (3, .int a3), (4, .int a4)]) hx hb d_B_onlyGood_87 hl (k := 6) rfl rfl (by decide) rfl (fun ls hl => ?_)
                refine lv_goto (tgt := 6) hx hb d_B_onlyGood_90 (by decide) ?_
                exact ih a1 a2 a3 a4 (a5 + (1 : Int32)) z16 hf _ _ _ hP hD hS (lv_sub hl [2, 3, 4, 5, 6, 0] rfl)
              · have hf := x_br_f hf hc18
                refine lv_iload hx hb d_B_onlyGood_75 (lv_at hl 5 rfl) ?_
                refine lv_iconst (v := (-1 : Int32)) hx hb d_B_onlyGood_77 (by decide) ?_
                refine lv_icmp_eq (tgt := 83) hx hb d_B_onlyGood_78 (by decide) (fun hc19 => ?_) (fun hc19 => ?_)
                · have hf := x_br_t hf hc19
                  refine lv_iload hx hb d_B_onlyGood_83 (lv_at hl 6 rfl) ?_
                  refine lv_istore (lv' := [(4, .int a5), (6, .int (1 : Int32)), (0, .ref (x_ad G 1)), (1, .int a1), (2, .int a2), (3, .int a3), (5, .int a5)]) hx hb d_B_onlyGood_85 hl (by decide) rfl (fun ls hl => ?_)
                  refine lv_iinc (v := (a5 + (1 : Int32))) (lv' := [(5, .int (a5 + (1 : Int32))), (4, .int a5), (6, .int (1 : Int32)), (0, .ref (x_ad G 1)), (1, .int a1), (2, .int a2), (3, .int a3)]) hx hb d_B_onlyGood_87 hl (k := 6) rfl rfl (by decide) rfl (fun ls hl => ?_)
                  refine lv_goto (tgt := 6) hx hb d_B_onlyGood_90 (by decide) ?_
                  exact ih a1 a2 a3 a5 (a5 + (1 : Int32)) z16 hf _ _ _ hP hD hS (lv_sub hl [3, 4, 5, 6, 1, 0] rfl)
                · have hf := x_br_f hf hc19
                  refine lv_iconst (v := (-1 : Int32)) hx hb d_B_onlyGood_81 (by decide) ?_
                  obtain ⟨rfl, rfl⟩ := x_ret hf
                  exact W.iret (v := (-1 : Int32)) hx hb hr (fun t ht hW => ⟨⟨_, _, rfl, ⟨rfl, rfl⟩, x_pw hP hD hK hG hS hz ht hW⟩, hS.F ht⟩) hS.2.2 d_B_onlyGood_82
set_option maxHeartbeats 4000000 in
set_option maxRecDepth 100000 in
theorem c_B_onlyGood (l : Launch) (G : x_G) (p1 : Int32) (p2 : Int32) (p3 : Int32) (z0 : x_St) (r : Int32) (zo : x_St) (hf : f_B_onlyGood (x_n G) p1 p2 p3 z0 = some (r, zo)) : Met l (⟨"ContentLibrary$Blocks", "onlyGood", "(III)I"⟩ : MethodName) (x_ws (⟨"ContentLibrary$Blocks", "onlyGood", "(III)I"⟩ : MethodName) prog_2_method_10_code 7 (some .int)) rm_B_onlyGood (va_Pc [.ref (x_ad G 1), .int p1, .int p2, .int p3] (x_PW G z0)) (va_Qi (fun a u => r = a ∧ zo = u) (x_PW G) (x_A G)) 0 0 (x_A G) := by
  refine Met.ofW (cc := prog_2_method_10_code) (maxL := 7) (ret := (some .int)) (by decide) rfl ?_
  intro p e s m args below meth c s₁ B hml hv
  obtain ⟨rfl, hz, hP, hD, hK, hG⟩ := hv
  have C0 : x_Ctx G p s m _ meth c prog_2_method_10_code "ContentLibrary$Blocks" 7 (some .int) := ⟨B.exec, B.bytes, B.returns, hml, findClass_of_methodNamed B.named, fun w h => atoms_spec (ws := (x_ws (⟨"ContentLibrary$Blocks", "onlyGood", "(III)I"⟩ : MethodName) prog_2_method_10_code 7 (some .int))) B.pre w (List.mem_cons_of_mem _ h), B.notSynchronized, hz, hK, hG⟩
  obtain ⟨hx, hb, hr, hml, hown, hts, hlocks, hz, hK, hG⟩ := id C0
  have hS : va_S (x_A G) s.heap s.heap [] := va_S.rf
  have hl := lv_entry ([.ref (x_ad G 1), .int p1, .int p2, .int p3]) (n := 7) (Nat.le_of_ble_eq_true rfl)
  rw [lg_entry_eq]
  generalize (lg_sl ([.ref (x_ad G 1), .int p1, .int p2, .int p3]) ++ List.replicate (7 - (lg_sl ([.ref (x_ad G 1), .int p1, .int p2, .int p3])).length) Slot.unset).toArray = ls at hl ⊢
  have hl : lv_has ls 7 [(0, .ref (x_ad G 1)), (1, .int p1), (2, .int p2), (3, .int p3)] := hl
  rw [f_B_onlyGood] at hf
  refine lv_iconst (v := (-1 : Int32)) hx hb d_B_onlyGood_0 (by decide) ?_
  refine lv_istore (lv' := [(4, .int (-1 : Int32)), (0, .ref (x_ad G 1)), (1, .int p1), (2, .int p2), (3, .int p3)]) hx hb d_B_onlyGood_1 hl (by decide) rfl (fun ls hl => ?_)
  refine lv_iconst (v := (0 : Int32)) hx hb d_B_onlyGood_3 (by decide) ?_
  refine lv_istore (lv' := [(5, .int (0 : Int32)), (4, .int (-1 : Int32)), (0, .ref (x_ad G 1)), (1, .int p1), (2, .int p2), (3, .int p3)]) hx hb d_B_onlyGood_4 hl (by decide) rfl (fun ls hl => ?_)
  exact w_B_onlyGood_6 l G C0 r zo x_FU p1 p2 p3 (-1 : Int32) (0 : Int32) z0 hf _ _ _ hP hD hS (lv_sub hl [2, 3, 4, 5, 1, 0] rfl)
abbrev rm_B_isMarkAsTold : Room := { frames := 1, cells := 0, slots := 0, locals := 22 }
set_option maxHeartbeats 4000000 in
set_option maxRecDepth 100000 in
theorem c_B_isMarkAsTold (l : Launch) (G : x_G) (p1 : Int32) (z0 : x_St) (r : Int32) (zo : x_St) (hf : f_B_isMarkAsTold (x_n G) p1 z0 = some (r, zo)) : Met l (⟨"ContentLibrary$Blocks", "isMarkAsTold", "(I)Z"⟩ : MethodName) (x_ws (⟨"ContentLibrary$Blocks", "isMarkAsTold", "(I)Z"⟩ : MethodName) prog_2_method_11_code 3 (some .boolean)) rm_B_isMarkAsTold (va_Pc [.ref (x_ad G 1), .int p1] (x_PW G z0)) (va_Qi (fun a u => r = a ∧ zo = u) (x_PW G) (x_A G)) 0 0 (x_A G) := by
  refine Met.ofW (cc := prog_2_method_11_code) (maxL := 3) (ret := (some .boolean)) (by decide) rfl ?_
  intro p e s m args below meth c s₁ B hml hv
  obtain ⟨rfl, hz, hP, hD, hK, hG⟩ := hv
  have C0 : x_Ctx G p s m _ meth c prog_2_method_11_code "ContentLibrary$Blocks" 3 (some .boolean) := ⟨B.exec, B.bytes, B.returns, hml, findClass_of_methodNamed B.named, fun w h => atoms_spec (ws := (x_ws (⟨"ContentLibrary$Blocks", "isMarkAsTold", "(I)Z"⟩ : MethodName) prog_2_method_11_code 3 (some .boolean))) B.pre w (List.mem_cons_of_mem _ h), B.notSynchronized, hz, hK, hG⟩
  obtain ⟨hx, hb, hr, hml, hown, hts, hlocks, hz, hK, hG⟩ := id C0
  have hS : va_S (x_A G) s.heap s.heap [] := va_S.rf
  have hl := lv_entry ([.ref (x_ad G 1), .int p1]) (n := 3) (Nat.le_of_ble_eq_true rfl)
  rw [lg_entry_eq]
  generalize (lg_sl ([.ref (x_ad G 1), .int p1]) ++ List.replicate (3 - (lg_sl ([.ref (x_ad G 1), .int p1])).length) Slot.unset).toArray = ls at hl ⊢
  have hl : lv_has ls 3 [(0, .ref (x_ad G 1)), (1, .int p1)] := hl
  rw [f_B_isMarkAsTold] at hf
  refine lv_aload_n hx hb d_B_isMarkAsTold_0 rfl (lv_at hl 0 rfl) ?_
  refine lv_iload_n hx hb d_B_isMarkAsTold_1 rfl (lv_at hl 1 rfl) ?_
  refine lv_bipush (v := (8 : Int32)) hx hb d_B_isMarkAsTold_2 (by decide) ?_
  obtain ⟨r1, z1, hq2, hf⟩ := x_cl_some hf
  refine va_calli (va_runV (As := [.int p1, .int (8 : Int32)]) (rest := []) ⟨hx, hb, hml, hown, hts⟩ (c_B_get l G p1 (8 : Int32) z0 r1 z1 hq2) (cwV 2 hts (x_gV t_174 t_175 t_176 t_3 t_177) rfl rfl rfl (by decide +kernel) ⟨Nat.le_of_ble_eq_true rfl, Nat.le_of_ble_eq_true rfl⟩) ⟨x_blind _ _ _, va_recv hK hP (ci := 1) (q0 := 1) rfl (x_lk_B G _), fun U hU hW => ⟨rfl, x_pw hP hD hK hG hS hz hU hW⟩⟩ rfl rfl hl.1 rfl (lv_room (Nat.le_of_ble_eq_true rfl)) d_B_isMarkAsTold_4 ⟨Nat.le_of_ble_eq_true rfl, Nat.le_of_ble_eq_true rfl⟩) hS (fun q _ h => h) (fun q h => h) (fun ra u t H locs ht hvm hw hB _ _ hS => ?_)
  obtain ⟨rfl, rfl⟩ := hw
  obtain ⟨hP, hD⟩ := x_back hB ht
  refine lv_istore_n (lv' := [(2, .int r1), (0, .ref (x_ad G 1)), (1, .int p1)]) hx hb d_B_isMarkAsTold_7 rfl hl (by decide) rfl (fun ls hl => ?_)
  refine lv_aload_n hx hb d_B_isMarkAsTold_8 rfl (lv_at hl 1 rfl) ?_
  refine lv_iload_n hx hb d_B_isMarkAsTold_9 rfl (lv_at hl 2 rfl) ?_
  refine lv_bipush (v := (6 : Int32)) hx hb d_B_isMarkAsTold_10 (by decide) ?_
  obtain ⟨r3, z3, hq4, hf⟩ := x_cl_some hf
  refine va_calli (va_runV (As := [.int p1, .int (6 : Int32)]) (rest := []) ⟨hx, hb, hml, hown, hts⟩ (c_B_get l G p1 (6 : Int32) z1 r3 z3 hq4) (cwV 2 hts (x_gV t_174 t_175 t_176 t_3 t_177) rfl rfl rfl (by decide +kernel) ⟨Nat.le_of_ble_eq_true rfl, Nat.le_of_ble_eq_true rfl⟩) ⟨x_blind _ _ _, va_recv hK hP (ci := 1) (q0 := 1) rfl (x_lk_B G _), fun U hU hW => ⟨rfl, x_pw hP hD hK hG hS hz hU hW⟩⟩ rfl rfl hl.1 rfl (lv_room (Nat.le_of_ble_eq_true rfl)) d_B_isMarkAsTold_12 ⟨Nat.le_of_ble_eq_true rfl, Nat.le_of_ble_eq_true rfl⟩) hS (fun q _ h => h) (fun q h => h) (fun ra u t H locs ht hvm hw hB _ _ hS => ?_)
  obtain ⟨rfl, rfl⟩ := hw
  obtain ⟨hP, hD⟩ := x_back hB ht
  refine lv_if_ne (tgt := 43) hx hb d_B_isMarkAsTold_15 (by decide) (fun hc5 => ?_) (fun hc5 => ?_)
  · have hf := x_br_f hf hc5
    refine lv_iconst (v := (0 : Int32)) hx hb d_B_isMarkAsTold_43 (by decide) ?_
    obtain ⟨rfl, rfl⟩ := x_ret hf
    exact W.zret (v := (0 : Int32)) hx hb hr rfl (fun t ht hW => ⟨⟨_, _, rfl, ⟨rfl, rfl⟩, x_pw hP hD hK hG hS hz ht hW⟩, hS.F ht⟩) hS.2.2 d_B_isMarkAsTold_44
  · have hf := x_br_t hf hc5
    refine lv_aload_n hx hb d_B_isMarkAsTold_18 rfl (lv_at hl 1 rfl) ?_
    refine lv_iload_n hx hb d_B_isMarkAsTold_19 rfl (lv_at hl 2 rfl) ?_
    refine lv_bipush (v := (7 : Int32)) hx hb d_B_isMarkAsTold_20 (by decide) ?_
    obtain ⟨r6, z6, hq7, hf⟩ := x_cl_some hf
    refine va_calli (va_runV (As := [.int p1, .int (7 : Int32)]) (rest := []) ⟨hx, hb, hml, hown, hts⟩ (c_B_get l G p1 (7 : Int32) z3 r6 z6 hq7) (cwV 2 hts (x_gV t_174 t_175 t_176 t_3 t_177) rfl rfl rfl (by decide +kernel) ⟨Nat.le_of_ble_eq_true rfl, Nat.le_of_ble_eq_true rfl⟩) ⟨x_blind _ _ _, va_recv hK hP (ci := 1) (q0 := 1) rfl (x_lk_B G _), fun U hU hW => ⟨rfl, x_pw hP hD hK hG hS hz hU hW⟩⟩ rfl rfl hl.1 rfl (lv_room (Nat.le_of_ble_eq_true rfl)) d_B_isMarkAsTold_22 ⟨Nat.le_of_ble_eq_true rfl, Nat.le_of_ble_eq_true rfl⟩) hS (fun q _ h => h) (fun q h => h) (fun ra u t H locs ht hvm hw hB _ _ hS => ?_)
    obtain ⟨rfl, rfl⟩ := hw
    obtain ⟨hP, hD⟩ := x_back hB ht
    refine lv_iconst (v := (1 : Int32)) hx hb d_B_isMarkAsTold_25 (by decide) ?_
    refine lv_icmp_ne (tgt := 43) hx hb d_B_isMarkAsTold_26 (by decide) (fun hc8 => ?_) (fun hc8 => ?_)
    · have hf := x_br_f hf hc8
      refine lv_iconst (v := (0 : Int32)) hx hb d_B_isMarkAsTold_43 (by decide) ?_
      obtain ⟨rfl, rfl⟩ := x_ret hf
      exact W.zret (v := (0 : Int32)) hx hb hr rfl (fun t ht hW => ⟨⟨_, _, rfl, ⟨rfl, rfl⟩, x_pw hP hD hK hG hS hz ht hW⟩, hS.F ht⟩) hS.2.2 d_B_isMarkAsTold_44
    · have hf := x_br_t hf hc8
      refine lv_iload_n hx hb d_B_isMarkAsTold_29 rfl (lv_at hl 0 rfl) ?_
      refine lv_iconst (v := (1 : Int32)) hx hb d_B_isMarkAsTold_30 (by decide) ?_
      refine lv_icmp_lt (tgt := 43) hx hb d_B_isMarkAsTold_31 (by decide) (fun hc9 => ?_) (fun hc9 => ?_)
      · have hf := x_br_t hf hc9
        refine lv_iconst (v := (0 : Int32)) hx hb d_B_isMarkAsTold_43 (by decide) ?_
        obtain ⟨rfl, rfl⟩ := x_ret hf
        exact W.zret (v := (0 : Int32)) hx hb hr rfl (fun t ht hW => ⟨⟨_, _, rfl, ⟨rfl, rfl⟩, x_pw hP hD hK hG hS hz ht hW⟩, hS.F ht⟩) hS.2.2 d_B_isMarkAsTold_44
      · have hf := x_br_f hf hc9
        refine lv_iload_n hx hb d_B_isMarkAsTold_34 rfl (lv_at hl 0 rfl) ?_
        refine lv_iconst (v := (2 : Int32)) hx hb d_B_isMarkAsTold_35 (by decide) ?_
        refine lv_icmp_gt (tgt := 43) hx hb d_B_isMarkAsTold_36 (by decide) (fun hc10 => ?_) (fun hc10 => ?_)
        · have hf := x_br_t hf hc10
          refine lv_iconst (v := (0 : Int32)) hx hb d_B_isMarkAsTold_43 (by decide) ?_
          obtain ⟨rfl, rfl⟩ := x_ret hf
          exact W.zret (v := (0 : Int32)) hx hb hr rfl (fun t ht hW => ⟨⟨_, _, rfl, ⟨rfl, rfl⟩, x_pw hP hD hK hG hS hz ht hW⟩, hS.F ht⟩) hS.2.2 d_B_isMarkAsTold_44
        · have hf := x_br_f hf hc10
          refine lv_iconst (v := (1 : Int32)) hx hb d_B_isMarkAsTold_39 (by decide) ?_
          refine lv_goto (tgt := 44) hx hb d_B_isMarkAsTold_40 (by decide) ?_
          obtain ⟨rfl, rfl⟩ := x_ret hf
          exact W.zret (v := (1 : Int32)) hx hb hr rfl (fun t ht hW => ⟨⟨_, _, rfl, ⟨rfl, rfl⟩, x_pw hP hD hK hG hS hz ht hW⟩, hS.F ht⟩) hS.2.2 d_B_isMarkAsTold_44
abbrev rm_B_copyData : Room := { frames := 1, cells := 0, slots := 0, locals := 60 }
set_option maxHeartbeats 4000000 in
set_option maxRecDepth 100000 in
theorem c_B_copyData (l : Launch) (G : x_G) (p1 : Int32) (p2 : Int32) (k3 : Nat) (hk3 : x_isA k3 = true) (p4 : Int32) (z0 : x_St) (r : Unit) (zo : x_St) (hf : f_B_copyData (x_n G) p1 p2 k3 p4 z0 = some (r, zo)) : Met l (⟨"ContentLibrary$Blocks", "copyData", "(II[II)V"⟩ : MethodName) (x_ws (⟨"ContentLibrary$Blocks", "copyData", "(II[II)V"⟩ : MethodName) prog_2_method_12_code 5 none) rm_B_copyData (va_Pc [.ref (x_ad G 1), .int p1, .int p2, .ref (x_ad G k3), .int p4] (x_PW G z0)) (va_Qv (fun u => r = () ∧ zo = u) (x_PW G) (x_A G)) 0 0 (x_A G) := by
  refine Met.ofW (cc := prog_2_method_12_code) (maxL := 5) (ret := none) (by decide) rfl ?_
  intro p e s m args below meth c s₁ B hml hv
  obtain ⟨rfl, hz, hP, hD, hK, hG⟩ := hv
  have C0 : x_Ctx G p s m _ meth c prog_2_method_12_code "ContentLibrary$Blocks" 5 none := ⟨B.exec, B.bytes, B.returns, hml, findClass_of_methodNamed B.named, fun w h => atoms_spec (ws := (x_ws (⟨"ContentLibrary$Blocks", "copyData", "(II[II)V"⟩ : MethodName) prog_2_method_12_code 5 none)) B.pre w (List.mem_cons_of_mem _ h), B.notSynchronized, hz, hK, hG⟩
  obtain ⟨hx, hb, hr, hml, hown, hts, hlocks, hz, hK, hG⟩ := id C0
  have hS : va_S (x_A G) s.heap s.heap [] := va_S.rf
  have hl := lv_entry ([.ref (x_ad G 1), .int p1, .int p2, .ref (x_ad G k3), .int p4]) (n := 5) (Nat.le_of_ble_eq_true rfl)
  rw [lg_entry_eq]
  generalize (lg_sl ([.ref (x_ad G 1), .int p1, .int p2, .ref (x_ad G k3), .int p4]) ++ List.replicate (5 - (lg_sl ([.ref (x_ad G 1), .int p1, .int p2, .ref (x_ad G k3), .int p4])).length) Slot.unset).toArray = ls at hl ⊢
  have hl : lv_has ls 5 [(0, .ref (x_ad G 1)), (1, .int p1), (2, .int p2), (3, .ref (x_ad G k3)), (4, .int p4)] := hl
  rw [f_B_copyData] at hf
  refine lv_aload_n hx hb d_B_copyData_0 rfl (lv_at hl 0 rfl) ?_
  refine va_get (D := x_D G) (ci := 1) (v := .ref (x_ad G 2)) (C := "ContentLibrary$Blocks") (T := x_TB) (N := 5) hx hb hts x_inB hown hK hP 1 (x_lk_B G _) rfl 3 (by decide) (hts _ t_45) (fun _ h9 => h9) rfl d_B_copyData_1 ?_
  refine lv_iload_n hx hb d_B_copyData_4 rfl (lv_at hl 1 rfl) ?_
  refine lv_bipush (v := (64 : Int32)) hx hb d_B_copyData_5 (by decide) ?_
  refine lv_imul hx hb d_B_copyData_7 ?_
  refine lv_bipush (v := (8 : Int32)) hx hb d_B_copyData_8 (by decide) ?_
  refine lv_iadd hx hb d_B_copyData_10 ?_
  refine lv_aload_n hx hb d_B_copyData_11 rfl (lv_at hl 3 rfl) ?_
  refine lv_iload hx hb d_B_copyData_12 (lv_at hl 4 rfl) ?_
  refine lv_iload_n hx hb d_B_copyData_14 rfl (lv_at hl 2 rfl) ?_
  obtain ⟨hc1, hc2, hc3, hc4, hc5, hf⟩ := x_ckc_some hf
  refine va_copyi hx hb (hml.trans hl.1.symm) hown (hts _ t_212) (hts _ t_214) (hts _ t_213) (hts _ t_16) hK hP hD hS 2 k3 0 0 (x_lk_A G _ rfl) (x_lk_A G _ hk3) rfl rfl rfl hc1 hc2 hc3 hc4 hc5 (fun _ _ => rfl) (Nat.le_of_ble_eq_true rfl) (Nat.le_of_ble_eq_true rfl) d_B_copyData_15 (fun H locs hP hD hS => ?_)
  rw [x_cp_A G _ _ _ _ _ hk3] at hP hD
  obtain ⟨rfl, rfl⟩ := x_ret hf
  exact W.vret hx hb hr (fun t ht hW => ⟨⟨_, rfl, ⟨rfl, rfl⟩, x_pw hP hD hK hG hS hz ht hW⟩, hS.F ht⟩) hS.2.2 d_B_copyData_18
abbrev rm_B_beginImage : Room := { frames := 1, cells := 0, slots := 0, locals := 23 }
set_option maxHeartbeats 4000000 in
set_option maxRecDepth 100000 in
theorem c_B_beginImage (l : Launch) (G : x_G) (p1 : Int32) (p2 : Int32) (p3 : Int32) (p4 : Int32) (z0 : x_St) (r : Unit) (zo : x_St) (hf : f_B_beginImage (x_n G) p1 p2 p3 p4 z0 = some (r, zo)) : Met l (⟨"ContentLibrary$Blocks", "beginImage", "(IIII)V"⟩ : MethodName) (x_ws (⟨"ContentLibrary$Blocks", "beginImage", "(IIII)V"⟩ : MethodName) prog_2_method_15_code 5 none) rm_B_beginImage (va_Pc [.ref (x_ad G 1), .int p1, .int p2, .int p3, .int p4] (x_PW G z0)) (va_Qv (fun u => r = () ∧ zo = u) (x_PW G) (x_A G)) 0 0 (x_A G) := by
  refine Met.ofW (cc := prog_2_method_15_code) (maxL := 5) (ret := none) (by decide) rfl ?_
  intro p e s m args below meth c s₁ B hml hv
  obtain ⟨rfl, hz, hP, hD, hK, hG⟩ := hv
  have C0 : x_Ctx G p s m _ meth c prog_2_method_15_code "ContentLibrary$Blocks" 5 none := ⟨B.exec, B.bytes, B.returns, hml, findClass_of_methodNamed B.named, fun w h => atoms_spec (ws := (x_ws (⟨"ContentLibrary$Blocks", "beginImage", "(IIII)V"⟩ : MethodName) prog_2_method_15_code 5 none)) B.pre w (List.mem_cons_of_mem _ h), B.notSynchronized, hz, hK, hG⟩
  obtain ⟨hx, hb, hr, hml, hown, hts, hlocks, hz, hK, hG⟩ := id C0
  have hS : va_S (x_A G) s.heap s.heap [] := va_S.rf
  have hl := lv_entry ([.ref (x_ad G 1), .int p1, .int p2, .int p3, .int p4]) (n := 5) (Nat.le_of_ble_eq_true rfl)
  rw [lg_entry_eq]
  generalize (lg_sl ([.ref (x_ad G 1), .int p1, .int p2, .int p3, .int p4]) ++ List.replicate (5 - (lg_sl ([.ref (x_ad G 1), .int p1, .int p2, .int p3, .int p4])).length) Slot.unset).toArray = ls at hl ⊢
  have hl : lv_has ls 5 [(0, .ref (x_ad G 1)), (1, .int p1), (2, .int p2), (3, .int p3), (4, .int p4)] := hl
  rw [f_B_beginImage] at hf
  refine lv_aload_n hx hb d_B_beginImage_0 rfl (lv_at hl 0 rfl) ?_
  refine va_get (D := x_D G) (ci := 1) (v := .ref (x_ad G 3)) (C := "ContentLibrary$Blocks") (T := x_TB) (N := 5) hx hb hts x_inB hown hK hP 1 (x_lk_B G _) rfl 4 (by decide) (hts _ t_46) (fun _ h9 => h9) rfl d_B_beginImage_1 ?_
  refine lv_iconst (v := (0 : Int32)) hx hb d_B_beginImage_4 (by decide) ?_
  obtain ⟨r1, z1, hq2, hf⟩ := x_cl_some hf
  refine va_callv (va_runS (As := [.ref (x_ad G 3), .int (0 : Int32)]) (rest := []) ⟨hx, hb, hml, hown, hts⟩ (c_Arrays_fill l G 3 (by decide) (0 : Int32) z0 r1 z1 hq2) (va_cwS 2 hts (x_gS t_532 t_251 t_15 t_252) rfl rfl rfl (by decide +kernel) ⟨Nat.le_of_ble_eq_true rfl, Nat.le_of_ble_eq_true rfl⟩) ⟨x_blind _ _ _, fun U hU hW => ⟨rfl, x_pw hP hD hK hG hS hz hU hW⟩⟩ rfl rfl hl.1 rfl (lv_room (Nat.le_of_ble_eq_true rfl)) d_B_beginImage_5 ⟨Nat.le_of_ble_eq_true rfl, Nat.le_of_ble_eq_true rfl⟩) hS (fun q _ h => h) (fun q h => h) (fun u t H locs ht hvm hw hB _ _ hS => ?_)
  obtain ⟨rfl, rfl⟩ := hw
  obtain ⟨hP, hD⟩ := x_back hB ht
  refine lv_aload_n hx hb d_B_beginImage_8 rfl (lv_at hl 0 rfl) ?_
  refine va_get (D := x_D G) (ci := 1) (v := .ref (x_ad G 3)) (C := "ContentLibrary$Blocks") (T := x_TB) (N := 5) hx hb hts x_inB hown hK hP 1 (x_lk_B G _) rfl 4 (by decide) (hts _ t_46) (fun _ h9 => h9) rfl d_B_beginImage_9 ?_
  refine lv_iconst (v := (4 : Int32)) hx hb d_B_beginImage_12 (by decide) ?_
  refine lv_iload_n hx hb d_B_beginImage_13 rfl (lv_at hl 1 rfl) ?_
  obtain ⟨hin3, hf⟩ := x_ck_some hf
  refine va_iast hx hb hK hP hD hS 3 0 (x_lk_A G _ rfl) rfl hin3 d_B_beginImage_14 (fun H locs hP hD hS => ?_)
  rw [x_st_A G _ (k := 3) rfl] at hP hD
  refine lv_aload_n hx hb d_B_beginImage_15 rfl (lv_at hl 0 rfl) ?_
  refine va_get (D := x_D G) (ci := 1) (v := .ref (x_ad G 3)) (C := "ContentLibrary$Blocks") (T := x_TB) (N := 5) hx hb hts x_inB hown hK hP 1 (x_lk_B G _) rfl 4 (by decide) (hts _ t_46) (fun _ h9 => h9) rfl d_B_beginImage_16 ?_
  refine lv_iconst (v := (5 : Int32)) hx hb d_B_beginImage_19 (by decide) ?_
  refine lv_iload_n hx hb d_B_beginImage_20 rfl (lv_at hl 2 rfl) ?_
  obtain ⟨hin4, hf⟩ := x_ck_some hf
  refine va_iast hx hb hK hP hD hS 3 0 (x_lk_A G _ rfl) rfl hin4 d_B_beginImage_21 (fun H locs hP hD hS => ?_)
  rw [x_st_A G _ (k := 3) rfl] at hP hD
  refine lv_aload_n hx hb d_B_beginImage_22 rfl (lv_at hl 0 rfl) ?_
  refine va_get (D := x_D G) (ci := 1) (v := .ref (x_ad G 3)) (C := "ContentLibrary$Blocks") (T := x_TB) (N := 5) hx hb hts x_inB hown hK hP 1 (x_lk_B G _) rfl 4 (by decide) (hts _ t_46) (fun _ h9 => h9) rfl d_B_beginImage_23 ?_
  refine lv_bipush (v := (6 : Int32)) hx hb d_B_beginImage_26 (by decide) ?_
  refine lv_iload_n hx hb d_B_beginImage_28 rfl (lv_at hl 3 rfl) ?_
  obtain ⟨hin5, hf⟩ := x_ck_some hf
  refine va_iast hx hb hK hP hD hS 3 0 (x_lk_A G _ rfl) rfl hin5 d_B_beginImage_29 (fun H locs hP hD hS => ?_)
  rw [x_st_A G _ (k := 3) rfl] at hP hD
  refine lv_aload_n hx hb d_B_beginImage_30 rfl (lv_at hl 0 rfl) ?_
  refine va_get (D := x_D G) (ci := 1) (v := .ref (x_ad G 3)) (C := "ContentLibrary$Blocks") (T := x_TB) (N := 5) hx hb hts x_inB hown hK hP 1 (x_lk_B G _) rfl 4 (by decide) (hts _ t_46) (fun _ h9 => h9) rfl d_B_beginImage_31 ?_
  refine lv_bipush (v := (7 : Int32)) hx hb d_B_beginImage_34 (by decide) ?_
  refine lv_iload hx hb d_B_beginImage_36 (lv_at hl 4 rfl) ?_
  obtain ⟨hin6, hf⟩ := x_ck_some hf
  refine va_iast hx hb hK hP hD hS 3 0 (x_lk_A G _ rfl) rfl hin6 d_B_beginImage_38 (fun H locs hP hD hS => ?_)
  rw [x_st_A G _ (k := 3) rfl] at hP hD
  obtain ⟨rfl, rfl⟩ := x_ret hf
  exact W.vret hx hb hr (fun t ht hW => ⟨⟨_, rfl, ⟨rfl, rfl⟩, x_pw hP hD hK hG hS hz ht hW⟩, hS.F ht⟩) hS.2.2 d_B_beginImage_39
abbrev rm_B_put : Room := { frames := 0, cells := 0, slots := 0, locals := 0 }
set_option maxHeartbeats 4000000 in
set_option maxRecDepth 100000 in
theorem w_B_put_32 (l : Launch) (G : x_G) {p : Program} {e : Env} {s : State} {m : MethodId} {args : Array Value} {below : List Frame} {meth : Method} {c : Code} (C0 : x_Ctx G p s m args meth c prog_2_method_18_code "ContentLibrary$Blocks" 4 (some .boolean)) (r : Int32) (zo : x_St) : ∀ (a1 : Int32) (a2 : Int32) (a3 : Int32) (z0 : x_St), f_B_put_32 (x_n G) a1 a2 a3 z0 = some (r, zo) → ∀ (H : Heap) (locs : List Loc) (ls : Array Slot), va_P (x_D G) vwCl (x_Wd G z0) H → va_D (x_A G) (x_Wd G z0) → va_S (x_A G) s.heap H locs → lv_has ls 4 [(0, .ref (x_ad G 1)), (1, .int a1), (2, .int a2), (3, .int a3)] → W p l e rm_B_put s m args below meth c H locs 0 0 (MQ below (va_Qi (fun a u => r = a ∧ zo = u) (x_PW G) (x_A G)) args s 0 0 (x_A G)) (F0 m 32 ls []) := by
  obtain ⟨hx, hb, hr, hml, hown, hts, hlocks, hz, hK, hG⟩ := id C0
  intro a1 a2 a3 z0 hf H locs ls hP hD hS hl
  rw [f_B_put_32] at hf
  refine lv_aload_n hx hb d_B_put_32 rfl (lv_at hl 0 rfl) ?_
  refine va_get (D := x_D G) (ci := 1) (v := .ref (x_ad G 2)) (C := "ContentLibrary$Blocks") (T := x_TB) (N := 5) hx hb hts x_inB hown hK hP 1 (x_lk_B G _) rfl 3 (by decide) (hts _ t_45) (fun _ h9 => h9) rfl d_B_put_33 ?_
  refine lv_iload_n hx hb d_B_put_36 rfl (lv_at hl 1 rfl) ?_
  refine lv_bipush (v := (64 : Int32)) hx hb d_B_put_37 (by decide) ?_
  refine lv_imul hx hb d_B_put_39 ?_
  refine lv_iload_n hx hb d_B_put_40 rfl (lv_at hl 2 rfl) ?_
  refine lv_iadd hx hb d_B_put_41 ?_
  refine lv_iload_n hx hb d_B_put_42 rfl (lv_at hl 3 rfl) ?_
  obtain ⟨hin1, hf⟩ := x_ck_some hf
  refine va_iast hx hb hK hP hD hS 2 0 (x_lk_A G _ rfl) rfl hin1 d_B_put_43 (fun H locs hP hD hS => ?_)
  rw [x_st_A G _ (k := 2) rfl] at hP hD
  refine lv_iconst (v := (1 : Int32)) hx hb d_B_put_44 (by decide) ?_
  obtain ⟨rfl, rfl⟩ := x_ret hf
  exact W.zret (v := (1 : Int32)) hx hb hr rfl (fun t ht hW => ⟨⟨_, _, rfl, ⟨rfl, rfl⟩, x_pw hP hD hK hG hS hz ht hW⟩, hS.F ht⟩) hS.2.2 d_B_put_45
set_option maxHeartbeats 4000000 in
set_option maxRecDepth 100000 in
theorem c_B_put (l : Launch) (G : x_G) (p1 : Int32) (p2 : Int32) (p3 : Int32) (z0 : x_St) (r : Int32) (zo : x_St) (hf : f_B_put (x_n G) p1 p2 p3 z0 = some (r, zo)) : Met l (⟨"ContentLibrary$Blocks", "put", "(III)Z"⟩ : MethodName) (x_ws (⟨"ContentLibrary$Blocks", "put", "(III)Z"⟩ : MethodName) prog_2_method_18_code 4 (some .boolean)) rm_B_put (va_Pc [.ref (x_ad G 1), .int p1, .int p2, .int p3] (x_PW G z0)) (va_Qi (fun a u => r = a ∧ zo = u) (x_PW G) (x_A G)) 0 0 (x_A G) := by
  refine Met.ofW (cc := prog_2_method_18_code) (maxL := 4) (ret := (some .boolean)) (by decide) rfl ?_
  intro p e s m args below meth c s₁ B hml hv
  obtain ⟨rfl, hz, hP, hD, hK, hG⟩ := hv
  have C0 : x_Ctx G p s m _ meth c prog_2_method_18_code "ContentLibrary$Blocks" 4 (some .boolean) := ⟨B.exec, B.bytes, B.returns, hml, findClass_of_methodNamed B.named, fun w h => atoms_spec (ws := (x_ws (⟨"ContentLibrary$Blocks", "put", "(III)Z"⟩ : MethodName) prog_2_method_18_code 4 (some .boolean))) B.pre w (List.mem_cons_of_mem _ h), B.notSynchronized, hz, hK, hG⟩
  obtain ⟨hx, hb, hr, hml, hown, hts, hlocks, hz, hK, hG⟩ := id C0
  have hS : va_S (x_A G) s.heap s.heap [] := va_S.rf
  have hl := lv_entry ([.ref (x_ad G 1), .int p1, .int p2, .int p3]) (n := 4) (Nat.le_of_ble_eq_true rfl)
  rw [lg_entry_eq]
  generalize (lg_sl ([.ref (x_ad G 1), .int p1, .int p2, .int p3]) ++ List.replicate (4 - (lg_sl ([.ref (x_ad G 1), .int p1, .int p2, .int p3])).length) Slot.unset).toArray = ls at hl ⊢
  have hl : lv_has ls 4 [(0, .ref (x_ad G 1)), (1, .int p1), (2, .int p2), (3, .int p3)] := hl
  rw [f_B_put] at hf
  refine lv_aload_n hx hb d_B_put_0 rfl (lv_at hl 0 rfl) ?_
  refine va_get (D := x_D G) (ci := 1) (v := .int (z0.1 1 1)) (C := "ContentLibrary$Blocks") (T := x_TB) (N := 5) hx hb hts x_inB hown hK hP 1 (x_lk_B G _) rfl 1 (by decide) (hts _ t_41) (fun _ h9 => h9) rfl d_B_put_1 ?_
  refine lv_if_ne (tgt := 14) hx hb d_B_put_4 (by decide) (fun hc2 => ?_) (fun hc2 => ?_)
  · have hf := x_br_f hf hc2
    refine lv_aload_n hx hb d_B_put_14 rfl (lv_at hl 0 rfl) ?_
    refine va_get (D := x_D G) (ci := 1) (v := .int (z0.1 1 1)) (C := "ContentLibrary$Blocks") (T := x_TB) (N := 5) hx hb hts x_inB hown hK hP 1 (x_lk_B G _) rfl 1 (by decide) (hts _ t_41) (fun _ h9 => h9) rfl d_B_put_15 ?_
    refine lv_iconst (v := (-1 : Int32)) hx hb d_B_put_18 (by decide) ?_
    refine lv_icmp_eq (tgt := 32) hx hb d_B_put_19 (by decide) (fun hc3 => ?_) (fun hc3 => ?_)
    · have hf := x_br_t hf hc3
      exact w_B_put_32 l G C0 r zo p1 p2 p3 z0 hf _ _ _ hP hD hS (lv_sub hl [0, 1, 2, 3] rfl)
    · have hf := x_br_f hf hc3
      refine lv_aload_n hx hb d_B_put_22 rfl (lv_at hl 0 rfl) ?_
      refine lv_dup hx hb d_B_put_23 rfl ?_
      refine va_get (D := x_D G) (ci := 1) (v := .int (z0.1 1 1)) (C := "ContentLibrary$Blocks") (T := x_TB) (N := 5) hx hb hts x_inB hown hK hP 1 (x_lk_B G _) rfl 1 (by decide) (hts _ t_41) (fun _ h9 => h9) rfl d_B_put_24 ?_
      refine lv_iconst (v := (1 : Int32)) hx hb d_B_put_27 (by decide) ?_
      refine lv_isub hx hb d_B_put_28 ?_
      refine va_put (D := x_D G) (ci := 1) (v := .int ((z0.1 1 1) - (1 : Int32))) (ty := .int) (C := "ContentLibrary$Blocks") (T := x_TB) (N := 5) hx hb hts x_inB x_tyB x_tyB_ok x_nmB hown hK hP hD hS 1 (x_lk_B G _) rfl 1 (by decide) (hts _ t_41) (fun _ h9 => h9) rfl (by decide +kernel) rfl rfl (Nat.le_of_ble_eq_true rfl) d_B_put_29 (fun H locs hP hD hS => ?_)
      rw [x_st_B1 G _] at hP hD
      exact w_B_put_32 l G C0 r zo p1 p2 p3 (x_put z0 1 1 ((z0.1 1 1) - (1 : Int32))) hf _ _ _ hP hD hS (lv_sub hl [0, 1, 2, 3] rfl)
  · have hf := x_br_t hf hc2
    refine lv_aload_n hx hb d_B_put_7 rfl (lv_at hl 0 rfl) ?_
    refine lv_iconst (v := (1 : Int32)) hx hb d_B_put_8 (by decide) ?_
    refine va_put (D := x_D G) (ci := 1) (v := .int (1 : Int32)) (ty := .boolean) (C := "ContentLibrary$Blocks") (T := x_TB) (N := 5) hx hb hts x_inB x_tyB x_tyB_ok x_nmB hown hK hP hD hS 1 (x_lk_B G _) rfl 2 (by decide) (hts _ t_43) (fun _ h9 => h9) rfl (by decide +kernel) rfl rfl (Nat.le_of_ble_eq_true rfl) d_B_put_9 (fun H locs hP hD hS => ?_)
    rw [x_st_B2 G _] at hP hD
    refine lv_iconst (v := (0 : Int32)) hx hb d_B_put_12 (by decide) ?_
    obtain ⟨rfl, rfl⟩ := x_ret hf
    exact W.zret (v := (0 : Int32)) hx hb hr rfl (fun t ht hW => ⟨⟨_, _, rfl, ⟨rfl, rfl⟩, x_pw hP hD hK hG hS hz ht hW⟩, hS.F ht⟩) hS.2.2 d_B_put_13
abbrev rm_B_writeImage : Room := { frames := 2, cells := 0, slots := 0, locals := 45 }
set_option maxHeartbeats 4000000 in
set_option maxRecDepth 100000 in
theorem w_B_writeImage_86 (l : Launch) (G : x_G) {p : Program} {e : Env} {s : State} {m : MethodId} {args : Array Value} {below : List Frame} {meth : Method} {c : Code} (C0 : x_Ctx G p s m args meth c prog_2_method_16_code "ContentLibrary$Blocks" 5 (some .boolean)) (r : Int32) (zo : x_St) : ∀ (a1 : Int32) (a3 : Int32) (z0 : x_St), f_B_writeImage_86 (x_n G) a1 a3 z0 = some (r, zo) → ∀ (H : Heap) (locs : List Loc) (ls : Array Slot), va_P (x_D G) vwCl (x_Wd G z0) H → va_D (x_A G) (x_Wd G z0) → va_S (x_A G) s.heap H locs → lv_has ls 5 [(0, .ref (x_ad G 1)), (1, .int a1), (3, .int a3)] → W p l e rm_B_writeImage s m args below meth c H locs 0 0 (MQ below (va_Qi (fun a u => r = a ∧ zo = u) (x_PW G) (x_A G)) args s 0 0 (x_A G)) (F0 m 86 ls []) := by
  obtain ⟨hx, hb, hr, hml, hown, hts, hlocks, hz, hK, hG⟩ := id C0
  intro a1 a3 z0 hf H locs ls hP hD hS hl
  rw [f_B_writeImage_86] at hf
  refine lv_iload_n hx hb d_B_writeImage_86 rfl (lv_at hl 2 rfl) ?_
  refine lv_if_eq (tgt := 109) hx hb d_B_writeImage_87 (by decide) (fun hc1 => ?_) (fun hc1 => ?_)
  · have hf := x_br_t hf hc1
    refine lv_iconst (v := (0 : Int32)) hx hb d_B_writeImage_109 (by decide) ?_
    obtain ⟨rfl, rfl⟩ := x_ret hf
    exact W.zret (v := (0 : Int32)) hx hb hr rfl (fun t ht hW => ⟨⟨_, _, rfl, ⟨rfl, rfl⟩, x_pw hP hD hK hG hS hz ht hW⟩, hS.F ht⟩) hS.2.2 d_B_writeImage_110
  · have hf := x_br_f hf hc1
    refine lv_aload_n hx hb d_B_writeImage_90 rfl (lv_at hl 0 rfl) ?_
    refine lv_iload_n hx hb d_B_writeImage_91 rfl (lv_at hl 1 rfl) ?_
    refine lv_iconst (v := (4 : Int32)) hx hb d_B_writeImage_92 (by decide) ?_
    refine lv_aload_n hx hb d_B_writeImage_93 rfl (lv_at hl 0 rfl) ?_
    refine va_get (D := x_D G) (ci := 1) (v := .ref (x_ad G 3)) (C := "ContentLibrary$Blocks") (T := x_TB) (N := 5) hx hb hts x_inB hown hK hP 1 (x_lk_B G _) rfl 4 (by decide) (hts _ t_46) (fun _ h9 => h9) rfl d_B_writeImage_94 ?_
    refine lv_iconst (v := (4 : Int32)) hx hb d_B_writeImage_97 (by decide) ?_
    obtain ⟨hin2, hf⟩ := x_ck_some hf
    refine va_iald hx hb hK hP 3 0 (x_lk_A G _ rfl) rfl hin2 d_B_writeImage_98 ?_
    obtain ⟨r3, z3, hq4, hf⟩ := x_cl_some hf
    refine va_calli (va_runV (As := [.int a1, .int (4 : Int32), .int (z0.1 3 ((4 : Int32)).toNatClampNeg)]) (rest := []) ⟨hx, hb, hml, hown, hts⟩ (c_B_put l G a1 (4 : Int32) (z0.1 3 ((4 : Int32)).toNatClampNeg) z0 r3 z3 hq4) (cwV 3 hts (x_gV t_517 t_519 sel_ContentLibrary_Blocks_put t_3 t_520) rfl rfl rfl (by decide +kernel) ⟨Nat.le_of_ble_eq_true rfl, Nat.le_of_ble_eq_true rfl⟩) ⟨x_blind _ _ _, va_recv hK hP (ci := 1) (q0 := 1) rfl (x_lk_B G _), fun U hU hW => ⟨rfl, x_pw hP hD hK hG hS hz hU hW⟩⟩ rfl rfl hl.1 rfl (lv_room (Nat.le_of_ble_eq_true rfl)) d_B_writeImage_99 ⟨Nat.le_of_ble_eq_true rfl, Nat.le_of_ble_eq_true rfl⟩) hS (fun q _ h => h) (fun q h => h) (fun ra u t H locs ht hvm hw hB _ _ hS => ?_)
    obtain ⟨rfl, rfl⟩ := hw
    obtain ⟨hP, hD⟩ := x_back hB ht
    refine lv_if_eq (tgt := 109) hx hb d_B_writeImage_102 (by decide) (fun hc5 => ?_) (fun hc5 => ?_)
    · have hf := x_br_t hf hc5
      refine lv_iconst (v := (0 : Int32)) hx hb d_B_writeImage_109 (by decide) ?_
      obtain ⟨rfl, rfl⟩ := x_ret hf
      exact W.zret (v := (0 : Int32)) hx hb hr rfl (fun t ht hW => ⟨⟨_, _, rfl, ⟨rfl, rfl⟩, x_pw hP hD hK hG hS hz ht hW⟩, hS.F ht⟩) hS.2.2 d_B_writeImage_110
    · have hf := x_br_f hf hc5
      refine lv_iconst (v := (1 : Int32)) hx hb d_B_writeImage_105 (by decide) ?_
      refine lv_goto (tgt := 110) hx hb d_B_writeImage_106 (by decide) ?_
      obtain ⟨rfl, rfl⟩ := x_ret hf
      exact W.zret (v := (1 : Int32)) hx hb hr rfl (fun t ht hW => ⟨⟨_, _, rfl, ⟨rfl, rfl⟩, x_pw hP hD hK hG hS hz ht hW⟩, hS.F ht⟩) hS.2.2 d_B_writeImage_110
set_option maxHeartbeats 4000000 in
set_option maxRecDepth 100000 in
theorem w_B_writeImage_56 (l : Launch) (G : x_G) {p : Program} {e : Env} {s : State} {m : MethodId} {args : Array Value} {below : List Frame} {meth : Method} {c : Code} (C0 : x_Ctx G p s m args meth c prog_2_method_16_code "ContentLibrary$Blocks" 5 (some .boolean)) (r : Int32) (zo : x_St) : ∀ (fu : Nat), ∀ (a1 : Int32) (a2 : Int32) (a3 : Int32) (a4 : Int32) (z0 : x_St), f_B_writeImage_56 (x_n G) fu a1 a2 a3 a4 z0 = some (r, zo) → ∀ (H : Heap) (locs : List Loc) (ls : Array Slot), va_P (x_D G) vwCl (x_Wd G z0) H → va_D (x_A G) (x_Wd G z0) → va_S (x_A G) s.heap H locs → lv_has ls 5 [(0, .ref (x_ad G 1)), (1, .int a1), (2, .int a2), (3, .int a3), (4, .int a4)] → W p l e rm_B_writeImage s m args below meth c H locs 0 0 (MQ below (va_Qi (fun a u => r = a ∧ zo = u) (x_PW G) (x_A G)) args s 0 0 (x_A G)) (F0 m 56 ls []) := by
  obtain ⟨hx, hb, hr, hml, hown, hts, hlocks, hz, hK, hG⟩ := id C0
  intro fu
  induction fu with
  | zero =>
    intro a1 a2 a3 a4 z0 hf
    rw [f_B_writeImage_56] at hf
    cases hf
  | succ fu ih =>
    intro a1 a2 a3 a4 z0 hf H locs ls hP hD hS hl
    rw [f_B_writeImage_56] at hf
    refine lv_iload hx hb d_B_writeImage_56 (lv_at hl 4 rfl) ?_
    refine lv_iconst (v := (4 : Int32)) hx hb d_B_writeImage_58 (by decide) ?_
    refine lv_icmp_ge (tgt := 86) hx hb d_B_writeImage_59 (by decide) (fun hc6 => ?_) (fun hc6 => ?_)
    · have hf := x_br_t hf hc6
      exact w_B_writeImage_86 l G C0 r zo a1 a3 z0 hf _ _ _ hP hD hS (lv_sub hl [0, 1, 3] rfl)
    · have hf := x_br_f hf hc6
      refine lv_iload_n hx hb d_B_writeImage_62 rfl (lv_at hl 3 rfl) ?_
      refine lv_if_eq (tgt := 86) hx hb d_B_writeImage_63 (by decide) (fun hc7 => ?_) (fun hc7 => ?_)
      · have hf := x_br_t hf hc7
        exact w_B_writeImage_86 l G C0 r zo a1 a3 z0 hf _ _ _ hP hD hS (lv_sub hl [0, 1, 3] rfl)
      · have hf := x_br_f hf hc7
        refine lv_aload_n hx hb d_B_writeImage_66 rfl (lv_at hl 0 rfl) ?_
        refine lv_iload_n hx hb d_B_writeImage_67 rfl (lv_at hl 1 rfl) ?_
        refine lv_iload hx hb d_B_writeImage_68 (lv_at hl 4 rfl) ?_
        refine lv_iload_n hx hb d_B_writeImage_70 rfl (lv_at hl 2 rfl) ?_
        refine lv_iload hx hb d_B_writeImage_71 (lv_at hl 4 rfl) ?_
        obtain ⟨r8, z8, hq9, hf⟩ := x_cl_some hf
        refine va_calli (va_runS (As := [.int a2, .int a4]) (rest := [.int a4, .int a1, .ref (x_ad G 1)]) ⟨hx, hb, hml, hown, hts⟩ (c_B_byteOfSum l G a2 a4 z0 r8 z8 hq9) (va_cwS 2 hts (x_gS t_193 t_194 t_3 t_195) rfl rfl rfl (by decide +kernel) ⟨Nat.le_of_ble_eq_true rfl, Nat.le_of_ble_eq_true rfl⟩) ⟨x_blind _ _ _, fun U hU hW => ⟨rfl, x_pw hP hD hK hG hS hz hU hW⟩⟩ rfl rfl hl.1 rfl (lv_room (Nat.le_of_ble_eq_true rfl)) d_B_writeImage_73 ⟨Nat.le_of_ble_eq_true rfl, Nat.le_of_ble_eq_true rfl⟩) hS (fun q _ h => h) (fun q h => h) (fun ra u t H locs ht hvm hw hB _ _ hS => ?_)
        obtain ⟨rfl, rfl⟩ := hw
        obtain ⟨hP, hD⟩ := x_back hB ht
        obtain ⟨r10, z10, hq11, hf⟩ := x_cl_some hf
        refine va_calli (va_runV (As := [.int a1, .int a4, .int r8]) (rest := []) ⟨hx, hb, hml, hown, hts⟩ (c_B_put l G a1 a4 r8 z8 r10 z10 hq11) (cwV 3 hts (x_gV t_517 t_519 sel_ContentLibrary_Blocks_put t_3 t_520) rfl rfl rfl (by decide +kernel) ⟨Nat.le_of_ble_eq_true rfl, Nat.le_of_ble_eq_true rfl⟩) ⟨x_blind _ _ _, va_recv hK hP (ci := 1) (q0 := 1) rfl (x_lk_B G _), fun U hU hW => ⟨rfl, x_pw hP hD hK hG hS hz hU hW⟩⟩ rfl rfl hl.1 rfl (lv_room (Nat.le_of_ble_eq_true rfl)) d_B_writeImage_76 ⟨Nat.le_of_ble_eq_true rfl, Nat.le_of_ble_eq_true rfl⟩) hS (fun q _ h => h) (fun q h => h) (fun ra u t H locs ht hvm hw hB _ _ hS => ?_)
        obtain ⟨rfl, rfl⟩ := hw
        obtain ⟨hP, hD⟩ := x_back hB ht
        refine lv_istore_n (lv' := [(3, .int r10), (0, .ref (x_ad G 1)), (1, .int a1), (2, .int a2), (4, .int a4)]) hx hb d_B_writeImage_79 rfl hl (by decide) rfl (fun ls hl => ?_)
        refine lv_iinc (v := (a4 + (1 : Int32))) (lv' := [(4, .int (a4 + (1 : Int32))), (3, .int r10), (0, .ref (x_ad G 1)), (1, .int a1), (2, .int a2)]) hx hb d_B_writeImage_80 hl (k := 4) rfl rfl (by decide) rfl (fun ls hl => ?_)
        refine lv_goto (tgt := 56) hx hb d_B_writeImage_83 (by decide) ?_
        exact ih a1 a2 r10 (a4 + (1 : Int32)) z10 hf _ _ _ hP hD hS (lv_sub hl [2, 3, 4, 1, 0] rfl)
set_option maxHeartbeats 4000000 in
set_option maxRecDepth 100000 in
theorem w_B_writeImage_53 (l : Launch) (G : x_G) {p : Program} {e : Env} {s : State} {m : MethodId} {args : Array Value} {below : List Frame} {meth : Method} {c : Code} (C0 : x_Ctx G p s m args meth c prog_2_method_16_code "ContentLibrary$Blocks" 5 (some .boolean)) (r : Int32) (zo : x_St) : ∀ (a1 : Int32) (a2 : Int32) (a3 : Int32) (z0 : x_St), f_B_writeImage_53 (x_n G) a1 a2 a3 z0 = some (r, zo) → ∀ (H : Heap) (locs : List Loc) (ls : Array Slot), va_P (x_D G) vwCl (x_Wd G z0) H → va_D (x_A G) (x_Wd G z0) → va_S (x_A G) s.heap H locs → lv_has ls 5 [(0, .ref (x_ad G 1)), (1, .int a1), (2, .int a2), (3, .int a3)] → W p l e rm_B_writeImage s m args below meth c H locs 0 0 (MQ below (va_Qi (fun a u => r = a ∧ zo = u) (x_PW G) (x_A G)) args s 0 0 (x_A G)) (F0 m 53 ls []) := by
  obtain ⟨hx, hb, hr, hml, hown, hts, hlocks, hz, hK, hG⟩ := id C0
  intro a1 a2 a3 z0 hf H locs ls hP hD hS hl
  rw [f_B_writeImage_53] at hf
  refine lv_iconst (v := (0 : Int32)) hx hb d_B_writeImage_53 (by decide) ?_
  refine lv_istore (lv' := [(4, .int (0 : Int32)), (0, .ref (x_ad G 1)), (1, .int a1), (2, .int a2), (3, .int a3)]) hx hb d_B_writeImage_54 hl (by decide) rfl (fun ls hl => ?_)
  exact w_B_writeImage_56 l G C0 r zo x_FU a1 a2 a3 (0 : Int32) z0 hf _ _ _ hP hD hS (lv_sub hl [1, 2, 3, 4, 0] rfl)
set_option maxHeartbeats 4000000 in
set_option maxRecDepth 100000 in
theorem w_B_writeImage_21 (l : Launch) (G : x_G) {p : Program} {e : Env} {s : State} {m : MethodId} {args : Array Value} {below : List Frame} {meth : Method} {c : Code} (C0 : x_Ctx G p s m args meth c prog_2_method_16_code "ContentLibrary$Blocks" 5 (some .boolean)) (r : Int32) (zo : x_St) : ∀ (fu : Nat), ∀ (a1 : Int32) (a2 : Int32) (a3 : Int32) (a4 : Int32) (z0 : x_St), f_B_writeImage_21 (x_n G) fu a1 a2 a3 a4 z0 = some (r, zo) → ∀ (H : Heap) (locs : List Loc) (ls : Array Slot), va_P (x_D G) vwCl (x_Wd G z0) H → va_D (x_A G) (x_Wd G z0) → va_S (x_A G) s.heap H locs → lv_has ls 5 [(0, .ref (x_ad G 1)), (1, .int a1), (2, .int a2), (3, .int a3), (4, .int a4)] → W p l e rm_B_writeImage s m args below meth c H locs 0 0 (MQ below (va_Qi (fun a u => r = a ∧ zo = u) (x_PW G) (x_A G)) args s 0 0 (x_A G)) (F0 m 21 ls []) := by
  obtain ⟨hx, hb, hr, hml, hown, hts, hlocks, hz, hK, hG⟩ := id C0
  intro fu
  induction fu with
  | zero =>
    intro a1 a2 a3 a4 z0 hf
    rw [f_B_writeImage_21] at hf
    cases hf
  | succ fu ih =>
    intro a1 a2 a3 a4 z0 hf H locs ls hP hD hS hl
    rw [f_B_writeImage_21] at hf
    refine lv_iload hx hb d_B_writeImage_21 (lv_at hl 4 rfl) ?_
    refine lv_bipush (v := (64 : Int32)) hx hb d_B_writeImage_23 (by decide) ?_
    refine lv_icmp_ge (tgt := 53) hx hb d_B_writeImage_25 (by decide) (fun hc12 => ?_) (fun hc12 => ?_)
    · have hf := x_br_t hf hc12
      exact w_B_writeImage_53 l G C0 r zo a1 a2 a3 z0 hf _ _ _ hP hD hS (lv_sub hl [0, 1, 2, 3] rfl)
    · have hf := x_br_f hf hc12
      refine lv_iload_n hx hb d_B_writeImage_28 rfl (lv_at hl 3 rfl) ?_
      refine lv_if_eq (tgt := 53) hx hb d_B_writeImage_29 (by decide) (fun hc13 => ?_) (fun hc13 => ?_)
      · have hf := x_br_t hf hc13
        exact w_B_writeImage_53 l G C0 r zo a1 a2 a3 z0 hf _ _ _ hP hD hS (lv_sub hl [0, 1, 2, 3] rfl)
      · have hf := x_br_f hf hc13
        refine lv_aload_n hx hb d_B_writeImage_32 rfl (lv_at hl 0 rfl) ?_
        refine lv_iload_n hx hb d_B_writeImage_33 rfl (lv_at hl 1 rfl) ?_
        refine lv_iload hx hb d_B_writeImage_34 (lv_at hl 4 rfl) ?_
        refine lv_aload_n hx hb d_B_writeImage_36 rfl (lv_at hl 0 rfl) ?_
        refine va_get (D := x_D G) (ci := 1) (v := .ref (x_ad G 3)) (C := "ContentLibrary$Blocks") (T := x_TB) (N := 5) hx hb hts x_inB hown hK hP 1 (x_lk_B G _) rfl 4 (by decide) (hts _ t_46) (fun _ h9 => h9) rfl d_B_writeImage_37 ?_
        refine lv_iload hx hb d_B_writeImage_40 (lv_at hl 4 rfl) ?_
        obtain ⟨hin14, hf⟩ := x_ck_some hf
        refine va_iald hx hb hK hP 3 0 (x_lk_A G _ rfl) rfl hin14 d_B_writeImage_42 ?_
        obtain ⟨r15, z15, hq16, hf⟩ := x_cl_some hf
        refine va_calli (va_runV (As := [.int a1, .int a4, .int (z0.1 3 (a4).toNatClampNeg)]) (rest := []) ⟨hx, hb, hml, hown, hts⟩ (c_B_put l G a1 a4 (z0.1 3 (a4).toNatClampNeg) z0 r15 z15 hq16) (cwV 3 hts (x_gV t_517 t_519 sel_ContentLibrary_Blocks_put t_3 t_520) rfl rfl rfl (by decide +kernel) ⟨Nat.le_of_ble_eq_true rfl, Nat.le_of_ble_eq_true rfl⟩) ⟨x_blind _ _ _, va_recv hK hP (ci := 1) (q0 := 1) rfl (x_lk_B G _), fun U hU hW => ⟨rfl, x_pw hP hD hK hG hS hz hU hW⟩⟩ rfl rfl hl.1 rfl (lv_room (Nat.le_of_ble_eq_true rfl)) d_B_writeImage_43 ⟨Nat.le_of_ble_eq_true rfl, Nat.le_of_ble_eq_true rfl⟩) hS (fun q _ h => h) (fun q h => h) (fun ra u t H locs ht hvm hw hB _ _ hS => ?_)
        obtain ⟨rfl, rfl⟩ := hw
        obtain ⟨hP, hD⟩ := x_back hB ht
        refine lv_istore_n (lv' := [(3, .int r15), (0, .ref (x_ad G 1)), (1, .int a1), (2, .int a2), (4, .int a4)]) hx hb d_B_writeImage_46 rfl hl (by decide) rfl (fun ls hl => ?_)
        refine lv_iinc (v := (a4 + (1 : Int32))) (lv' := [(4, .int (a4 + (1 : Int32))), (3, .int r15), (0, .ref (x_ad G 1)), (1, .int a1), (2, .int a2)]) hx hb d_B_writeImage_47 hl (k := 4) rfl rfl (by decide) rfl (fun ls hl => ?_)
        refine lv_goto (tgt := 21) hx hb d_B_writeImage_50 (by decide) ?_
        exact ih a1 a2 r15 (a4 + (1 : Int32)) z15 hf _ _ _ hP hD hS (lv_sub hl [2, 3, 4, 1, 0] rfl)
set_option maxHeartbeats 4000000 in
set_option maxRecDepth 100000 in
theorem c_B_writeImage (l : Launch) (G : x_G) (p1 : Int32) (z0 : x_St) (r : Int32) (zo : x_St) (hf : f_B_writeImage (x_n G) p1 z0 = some (r, zo)) : Met l (⟨"ContentLibrary$Blocks", "writeImage", "(I)Z"⟩ : MethodName) (x_ws (⟨"ContentLibrary$Blocks", "writeImage", "(I)Z"⟩ : MethodName) prog_2_method_16_code 5 (some .boolean)) rm_B_writeImage (va_Pc [.ref (x_ad G 1), .int p1] (x_PW G z0)) (va_Qi (fun a u => r = a ∧ zo = u) (x_PW G) (x_A G)) 0 0 (x_A G) := by
  refine Met.ofW (cc := prog_2_method_16_code) (maxL := 5) (ret := (some .boolean)) (by decide) rfl ?_
  intro p e s m args below meth c s₁ B hml hv
  obtain ⟨rfl, hz, hP, hD, hK, hG⟩ := hv
  have C0 : x_Ctx G p s m _ meth c prog_2_method_16_code "ContentLibrary$Blocks" 5 (some .boolean) := ⟨B.exec, B.bytes, B.returns, hml, findClass_of_methodNamed B.named, fun w h => atoms_spec (ws := (x_ws (⟨"ContentLibrary$Blocks", "writeImage", "(I)Z"⟩ : MethodName) prog_2_method_16_code 5 (some .boolean))) B.pre w (List.mem_cons_of_mem _ h), B.notSynchronized, hz, hK, hG⟩
  obtain ⟨hx, hb, hr, hml, hown, hts, hlocks, hz, hK, hG⟩ := id C0
  have hS : va_S (x_A G) s.heap s.heap [] := va_S.rf
  have hl := lv_entry ([.ref (x_ad G 1), .int p1]) (n := 5) (Nat.le_of_ble_eq_true rfl)
  rw [lg_entry_eq]
  generalize (lg_sl ([.ref (x_ad G 1), .int p1]) ++ List.replicate (5 - (lg_sl ([.ref (x_ad G 1), .int p1])).length) Slot.unset).toArray = ls at hl ⊢
  have hl : lv_has ls 5 [(0, .ref (x_ad G 1)), (1, .int p1)] := hl
  rw [f_B_writeImage] at hf
  refine lv_iload_n hx hb d_B_writeImage_0 rfl (lv_at hl 1 rfl) ?_
  refine lv_aload_n hx hb d_B_writeImage_1 rfl (lv_at hl 0 rfl) ?_
  refine va_get (D := x_D G) (ci := 1) (v := .ref (x_ad G 3)) (C := "ContentLibrary$Blocks") (T := x_TB) (N := 5) hx hb hts x_inB hown hK hP 1 (x_lk_B G _) rfl 4 (by decide) (hts _ t_46) (fun _ h9 => h9) rfl d_B_writeImage_2 ?_
  refine lv_iconst (v := (0 : Int32)) hx hb d_B_writeImage_5 (by decide) ?_
  obtain ⟨r17, z17, hq18, hf⟩ := x_cl_some hf
  refine va_calli (va_runS (As := [.int p1, .ref (x_ad G 3), .int (0 : Int32)]) (rest := []) ⟨hx, hb, hml, hown, hts⟩ (c_B_sumOf l G p1 3 (by decide) (0 : Int32) z0 r17 z17 hq18) (va_cwS 3 hts (x_gS t_186 t_187 t_3 t_188) rfl rfl rfl (by decide +kernel) ⟨Nat.le_of_ble_eq_true rfl, Nat.le_of_ble_eq_true rfl⟩) ⟨x_blind _ _ _, fun U hU hW => ⟨rfl, x_pw hP hD hK hG hS hz hU hW⟩⟩ rfl rfl hl.1 rfl (lv_room (Nat.le_of_ble_eq_true rfl)) d_B_writeImage_6 ⟨Nat.le_of_ble_eq_true rfl, Nat.le_of_ble_eq_true rfl⟩) hS (fun q _ h => h) (fun q h => h) (fun ra u t H locs ht hvm hw hB _ _ hS => ?_)
  obtain ⟨rfl, rfl⟩ := hw
  obtain ⟨hP, hD⟩ := x_back hB ht
  refine lv_istore_n (lv' := [(2, .int r17), (0, .ref (x_ad G 1)), (1, .int p1)]) hx hb d_B_writeImage_9 rfl hl (by decide) rfl (fun ls hl => ?_)
  refine lv_aload_n hx hb d_B_writeImage_10 rfl (lv_at hl 1 rfl) ?_
  refine lv_iload_n hx hb d_B_writeImage_11 rfl (lv_at hl 2 rfl) ?_
  refine lv_iconst (v := (4 : Int32)) hx hb d_B_writeImage_12 (by decide) ?_
  refine lv_iconst (v := (0 : Int32)) hx hb d_B_writeImage_13 (by decide) ?_
  obtain ⟨r19, z19, hq20, hf⟩ := x_cl_some hf
  refine va_calli (va_runV (As := [.int p1, .int (4 : Int32), .int (0 : Int32)]) (rest := []) ⟨hx, hb, hml, hown, hts⟩ (c_B_put l G p1 (4 : Int32) (0 : Int32) z17 r19 z19 hq20) (cwV 3 hts (x_gV t_517 t_519 sel_ContentLibrary_Blocks_put t_3 t_520) rfl rfl rfl (by decide +kernel) ⟨Nat.le_of_ble_eq_true rfl, Nat.le_of_ble_eq_true rfl⟩) ⟨x_blind _ _ _, va_recv hK hP (ci := 1) (q0 := 1) rfl (x_lk_B G _), fun U hU hW => ⟨rfl, x_pw hP hD hK hG hS hz hU hW⟩⟩ rfl rfl hl.1 rfl (lv_room (Nat.le_of_ble_eq_true rfl)) d_B_writeImage_14 ⟨Nat.le_of_ble_eq_true rfl, Nat.le_of_ble_eq_true rfl⟩) hS (fun q _ h => h) (fun q h => h) (fun ra u t H locs ht hvm hw hB _ _ hS => ?_)
  obtain ⟨rfl, rfl⟩ := hw
  obtain ⟨hP, hD⟩ := x_back hB ht
  refine lv_istore_n (lv' := [(3, .int r19), (2, .int r17), (0, .ref (x_ad G 1)), (1, .int p1)]) hx hb d_B_writeImage_17 rfl hl (by decide) rfl (fun ls hl => ?_)
  refine lv_iconst (v := (5 : Int32)) hx hb d_B_writeImage_18 (by decide) ?_
  refine lv_istore (lv' := [(4, .int (5 : Int32)), (3, .int r19), (2, .int r17), (0, .ref (x_ad G 1)), (1, .int p1)]) hx hb d_B_writeImage_19 hl (by decide) rfl (fun ls hl => ?_)
  exact w_B_writeImage_21 l G C0 r zo x_FU p1 r17 r19 (5 : Int32) z19 hf _ _ _ hP hD hS (lv_sub hl [3, 4, 2, 1, 0] rfl)
abbrev rm_B_writeRecordBlock : Room := { frames := 3, cells := 0, slots := 0, locals := 69 }
set_option maxHeartbeats 4000000 in
set_option maxRecDepth 100000 in
theorem c_B_writeRecordBlock (l : Launch) (G : x_G) (p1 : Int32) (p2 : Int32) (p3 : Int32) (k4 : Nat) (hk4 : x_isP k4 = true) (z0 : x_St) (r : Int32) (zo : x_St) (hf : f_B_writeRecordBlock (x_n G) p1 p2 p3 k4 z0 = some (r, zo)) : Met l (⟨"ContentLibrary$Blocks", "writeRecordBlock", "(IIILContentLibrary$Picture;)Z"⟩ : MethodName) (x_ws (⟨"ContentLibrary$Blocks", "writeRecordBlock", "(IIILContentLibrary$Picture;)Z"⟩ : MethodName) prog_2_method_13_code 7 (some .boolean)) rm_B_writeRecordBlock (va_Pc [.ref (x_ad G 1), .int p1, .int p2, .int p3, .ref (x_ad G k4)] (x_PW G z0)) (va_Qi (fun a u => r = a ∧ zo = u) (x_PW G) (x_A G)) 0 0 (x_A G) := by
  refine Met.ofW (cc := prog_2_method_13_code) (maxL := 7) (ret := (some .boolean)) (by decide) rfl ?_
  intro p e s m args below meth c s₁ B hml hv
  obtain ⟨rfl, hz, hP, hD, hK, hG⟩ := hv
  have C0 : x_Ctx G p s m _ meth c prog_2_method_13_code "ContentLibrary$Blocks" 7 (some .boolean) := ⟨B.exec, B.bytes, B.returns, hml, findClass_of_methodNamed B.named, fun w h => atoms_spec (ws := (x_ws (⟨"ContentLibrary$Blocks", "writeRecordBlock", "(IIILContentLibrary$Picture;)Z"⟩ : MethodName) prog_2_method_13_code 7 (some .boolean))) B.pre w (List.mem_cons_of_mem _ h), B.notSynchronized, hz, hK, hG⟩
  obtain ⟨hx, hb, hr, hml, hown, hts, hlocks, hz, hK, hG⟩ := id C0
  have hS : va_S (x_A G) s.heap s.heap [] := va_S.rf
  have hl := lv_entry ([.ref (x_ad G 1), .int p1, .int p2, .int p3, .ref (x_ad G k4)]) (n := 7) (Nat.le_of_ble_eq_true rfl)
  rw [lg_entry_eq]
  generalize (lg_sl ([.ref (x_ad G 1), .int p1, .int p2, .int p3, .ref (x_ad G k4)]) ++ List.replicate (7 - (lg_sl ([.ref (x_ad G 1), .int p1, .int p2, .int p3, .ref (x_ad G k4)])).length) Slot.unset).toArray = ls at hl ⊢
  have hl : lv_has ls 7 [(0, .ref (x_ad G 1)), (1, .int p1), (2, .int p2), (3, .int p3), (4, .ref (x_ad G k4))] := hl
  rw [f_B_writeRecordBlock] at hf
  refine lv_iload_n hx hb d_B_writeRecordBlock_0 rfl (lv_at hl 3 rfl) ?_
  refine lv_bipush (v := (56 : Int32)) hx hb d_B_writeRecordBlock_1 (by decide) ?_
  refine lv_imul hx hb d_B_writeRecordBlock_3 ?_
  refine lv_istore (lv' := [(5, .int (p3 * (56 : Int32))), (0, .ref (x_ad G 1)), (1, .int p1), (2, .int p2), (3, .int p3), (4, .ref (x_ad G k4))]) hx hb d_B_writeRecordBlock_4 hl (by decide) rfl (fun ls hl => ?_)
  refine lv_bipush (v := (56 : Int32)) hx hb d_B_writeRecordBlock_6 (by decide) ?_
  refine lv_aload hx hb d_B_writeRecordBlock_8 (lv_at hl 5 rfl) ?_
  obtain ⟨r1, z1, hq2, hf⟩ := x_cl_some hf
  refine va_calli (va_runV (As := []) (rest := [.int (56 : Int32)]) ⟨hx, hb, hml, hown, hts⟩ (c_P_length l G k4 hk4 z0 r1 z1 hq2) (cwV 0 hts (x_gV t_525 t_239 t_240 t_4 t_241) rfl rfl rfl (by decide +kernel) ⟨Nat.le_of_ble_eq_true rfl, Nat.le_of_ble_eq_true rfl⟩) ⟨x_blind _ _ _, va_recv hK hP (ci := 2) (q0 := k4) rfl (x_lk_P G _ hk4), fun U hU hW => ⟨rfl, x_pw hP hD hK hG hS hz hU hW⟩⟩ rfl rfl hl.1 rfl (lv_room (Nat.le_of_ble_eq_true rfl)) d_B_writeRecordBlock_10 ⟨Nat.le_of_ble_eq_true rfl, Nat.le_of_ble_eq_true rfl⟩) hS (fun q _ h => h) (fun q h => h) (fun ra u t H locs ht hvm hw hB _ _ hS => ?_)
  obtain ⟨rfl, rfl⟩ := hw
  obtain ⟨hP, hD⟩ := x_back hB ht
  refine lv_iload hx hb d_B_writeRecordBlock_13 (lv_at hl 0 rfl) ?_
  refine lv_isub hx hb d_B_writeRecordBlock_15 ?_
  refine va_mmin hx hb (hml.trans hl.1.symm) hown (hts _ t_526) (hts _ t_28) (hts _ t_2) (hts _ t_29) (Nat.le_of_ble_eq_true rfl) (Nat.le_of_ble_eq_true rfl) (Nat.le_of_ble_eq_true rfl) (Nat.le_of_ble_eq_true rfl) d_B_writeRecordBlock_16 ?_
  refine lv_istore (lv' := [(6, .int (if (r1 - (p3 * (56 : Int32))) < (56 : Int32) then (r1 - (p3 * (56 : Int32))) else (56 : Int32))), (5, .int (p3 * (56 : Int32))), (0, .ref (x_ad G 1)), (1, .int p1), (2, .int p2), (3, .int p3), (4, .ref (x_ad G k4))]) hx hb d_B_writeRecordBlock_19 hl (by decide) rfl (fun ls hl => ?_)
  refine lv_aload_n hx hb d_B_writeRecordBlock_21 rfl (lv_at hl 2 rfl) ?_
  refine lv_iload_n hx hb d_B_writeRecordBlock_22 rfl (lv_at hl 5 rfl) ?_
  obtain ⟨r3, z3, hq4, hf⟩ := x_cl_some hf
  refine va_calli (va_runS (As := [.int p3]) (rest := [.ref (x_ad G 1)]) ⟨hx, hb, hml, hown, hts⟩ (c_B_kindOf l G p3 z1 r3 z3 hq4) (va_cwS 1 hts (x_gS t_527 t_206 t_3 t_207) rfl rfl rfl (by decide +kernel) ⟨Nat.le_of_ble_eq_true rfl, Nat.le_of_ble_eq_true rfl⟩) ⟨x_blind _ _ _, fun U hU hW => ⟨rfl, x_pw hP hD hK hG hS hz hU hW⟩⟩ rfl rfl hl.1 rfl (lv_room (Nat.le_of_ble_eq_true rfl)) d_B_writeRecordBlock_23 ⟨Nat.le_of_ble_eq_true rfl, Nat.le_of_ble_eq_true rfl⟩) hS (fun q _ h => h) (fun q h => h) (fun ra u t H locs ht hvm hw hB _ _ hS => ?_)
  obtain ⟨rfl, rfl⟩ := hw
  obtain ⟨hP, hD⟩ := x_back hB ht
  refine lv_iload_n hx hb d_B_writeRecordBlock_26 rfl (lv_at hl 4 rfl) ?_
  refine lv_iload_n hx hb d_B_writeRecordBlock_27 rfl (lv_at hl 5 rfl) ?_
  refine lv_iload hx hb d_B_writeRecordBlock_28 (lv_at hl 0 rfl) ?_
  obtain ⟨r5, z5, hq6, hf⟩ := x_cl_some hf
  refine va_callv (va_runV (As := [.int r3, .int p2, .int p3, .int (if (r1 - (p3 * (56 : Int32))) < (56 : Int32) then (r1 - (p3 * (56 : Int32))) else (56 : Int32))]) (rest := []) ⟨hx, hb, hml, hown, hts⟩ (c_B_beginImage l G r3 p2 p3 (if (r1 - (p3 * (56 : Int32))) < (56 : Int32) then (r1 - (p3 * (56 : Int32))) else (56 : Int32)) z3 r5 z5 hq6) (cwV 4 hts (x_gV t_528 t_530 sel_ContentLibrary_Blocks_beginImage t_3 t_531) rfl rfl rfl (by decide +kernel) ⟨Nat.le_of_ble_eq_true rfl, Nat.le_of_ble_eq_true rfl⟩) ⟨x_blind _ _ _, va_recv hK hP (ci := 1) (q0 := 1) rfl (x_lk_B G _), fun U hU hW => ⟨rfl, x_pw hP hD hK hG hS hz hU hW⟩⟩ rfl rfl hl.1 rfl (lv_room (Nat.le_of_ble_eq_true rfl)) d_B_writeRecordBlock_30 ⟨Nat.le_of_ble_eq_true rfl, Nat.le_of_ble_eq_true rfl⟩) hS (fun q _ h => h) (fun q h => h) (fun u t H locs ht hvm hw hB _ _ hS => ?_)
  obtain ⟨rfl, rfl⟩ := hw
  obtain ⟨hP, hD⟩ := x_back hB ht
  refine lv_aload hx hb d_B_writeRecordBlock_33 (lv_at hl 6 rfl) ?_
  refine va_get (D := x_D G) (ci := 2) (v := .ref (x_ad G (k4 + 1))) (C := "ContentLibrary$Picture") (T := x_TP) (N := 3) hx hb hts x_inP hown hK hP k4 (x_lk_P G _ hk4) rfl 1 (by decide) (hts _ t_70) (fun _ h9 => h9) rfl d_B_writeRecordBlock_35 ?_
  refine lv_iload hx hb d_B_writeRecordBlock_38 (lv_at hl 1 rfl) ?_
  refine lv_aload_n hx hb d_B_writeRecordBlock_40 rfl (lv_at hl 2 rfl) ?_
  refine va_get (D := x_D G) (ci := 1) (v := .ref (x_ad G 3)) (C := "ContentLibrary$Blocks") (T := x_TB) (N := 5) hx hb hts x_inB hown hK hP 1 (x_lk_B G _) rfl 4 (by decide) (hts _ t_46) (fun _ h9 => h9) rfl d_B_writeRecordBlock_41 ?_
  refine lv_bipush (v := (8 : Int32)) hx hb d_B_writeRecordBlock_44 (by decide) ?_
  refine lv_iload hx hb d_B_writeRecordBlock_46 (lv_at hl 0 rfl) ?_
  obtain ⟨hc1, hc2, hc3, hc4, hc5, hf⟩ := x_ckc_some hf
  refine va_copyi hx hb (hml.trans hl.1.symm) hown (hts _ t_212) (hts _ t_214) (hts _ t_213) (hts _ t_16) hK hP hD hS (k4 + 1) 3 0 0 (x_lk_A G _ (x_P_A hk4)) (x_lk_A G _ rfl) rfl rfl rfl hc1 hc2 hc3 hc4 hc5 (fun _ _ => rfl) (Nat.le_of_ble_eq_true rfl) (Nat.le_of_ble_eq_true rfl) d_B_writeRecordBlock_48 (fun H locs hP hD hS => ?_)
  rw [x_cp_A G _ _ _ _ _ (k2 := 3) rfl] at hP hD
  refine lv_aload_n hx hb d_B_writeRecordBlock_51 rfl (lv_at hl 2 rfl) ?_
  refine lv_iload_n hx hb d_B_writeRecordBlock_52 rfl (lv_at hl 3 rfl) ?_
  obtain ⟨r7, z7, hq8, hf⟩ := x_cl_some hf
  refine va_calli (va_runV (As := [.int p1]) (rest := []) ⟨hx, hb, hml, hown, hts⟩ (c_B_writeImage l G p1 (x_cpy z5 (k4 + 1) ((p3 * (56 : Int32))).toNatClampNeg 3 ((8 : Int32)).toNatClampNeg ((if (r1 - (p3 * (56 : Int32))) < (56 : Int32) then (r1 - (p3 * (56 : Int32))) else (56 : Int32))).toNatClampNeg) r7 z7 hq8) (cwV 1 hts (x_gV t_533 t_535 sel_ContentLibrary_Blocks_writeImage t_3 t_536) rfl rfl rfl (by decide +kernel) ⟨Nat.le_of_ble_eq_true rfl, Nat.le_of_ble_eq_true rfl⟩) ⟨x_blind _ _ _, va_recv hK hP (ci := 1) (q0 := 1) rfl (x_lk_B G _), fun U hU hW => ⟨rfl, x_pw hP hD hK hG hS hz hU hW⟩⟩ rfl rfl hl.1 rfl (lv_room (Nat.le_of_ble_eq_true rfl)) d_B_writeRecordBlock_53 ⟨Nat.le_of_ble_eq_true rfl, Nat.le_of_ble_eq_true rfl⟩) hS (fun q _ h => h) (fun q h => h) (fun ra u t H locs ht hvm hw hB _ _ hS => ?_)
  obtain ⟨rfl, rfl⟩ := hw
  obtain ⟨hP, hD⟩ := x_back hB ht
  obtain ⟨hbo, hf⟩ := x_ckb_some hf
  obtain ⟨rfl, rfl⟩ := x_ret hf
  exact W.zret (v := r7) hx hb hr (x_nb hbo) (fun t ht hW => ⟨⟨_, _, rfl, ⟨rfl, rfl⟩, x_pw hP hD hK hG hS hz ht hW⟩, hS.F ht⟩) hS.2.2 d_B_writeRecordBlock_56
abbrev rm_B_writeMark : Room := { frames := 3, cells := 0, slots := 0, locals := 69 }
set_option maxHeartbeats 4000000 in
set_option maxRecDepth 100000 in
theorem c_B_writeMark (l : Launch) (G : x_G) (p1 : Int32) (p2 : Int32) (p3 : Int32) (z0 : x_St) (r : Int32) (zo : x_St) (hf : f_B_writeMark (x_n G) p1 p2 p3 z0 = some (r, zo)) : Met l (⟨"ContentLibrary$Blocks", "writeMark", "(III)Z"⟩ : MethodName) (x_ws (⟨"ContentLibrary$Blocks", "writeMark", "(III)Z"⟩ : MethodName) prog_2_method_14_code 4 (some .boolean)) rm_B_writeMark (va_Pc [.ref (x_ad G 1), .int p1, .int p2, .int p3] (x_PW G z0)) (va_Qi (fun a u => r = a ∧ zo = u) (x_PW G) (x_A G)) 0 0 (x_A G) := by
  refine Met.ofW (cc := prog_2_method_14_code) (maxL := 4) (ret := (some .boolean)) (by decide) rfl ?_
  intro p e s m args below meth c s₁ B hml hv
  obtain ⟨rfl, hz, hP, hD, hK, hG⟩ := hv
  have C0 : x_Ctx G p s m _ meth c prog_2_method_14_code "ContentLibrary$Blocks" 4 (some .boolean) := ⟨B.exec, B.bytes, B.returns, hml, findClass_of_methodNamed B.named, fun w h => atoms_spec (ws := (x_ws (⟨"ContentLibrary$Blocks", "writeMark", "(III)Z"⟩ : MethodName) prog_2_method_14_code 4 (some .boolean))) B.pre w (List.mem_cons_of_mem _ h), B.notSynchronized, hz, hK, hG⟩
  obtain ⟨hx, hb, hr, hml, hown, hts, hlocks, hz, hK, hG⟩ := id C0
  have hS : va_S (x_A G) s.heap s.heap [] := va_S.rf
  have hl := lv_entry ([.ref (x_ad G 1), .int p1, .int p2, .int p3]) (n := 4) (Nat.le_of_ble_eq_true rfl)
  rw [lg_entry_eq]
  generalize (lg_sl ([.ref (x_ad G 1), .int p1, .int p2, .int p3]) ++ List.replicate (4 - (lg_sl ([.ref (x_ad G 1), .int p1, .int p2, .int p3])).length) Slot.unset).toArray = ls at hl ⊢
  have hl : lv_has ls 4 [(0, .ref (x_ad G 1)), (1, .int p1), (2, .int p2), (3, .int p3)] := hl
  rw [f_B_writeMark] at hf
  refine lv_aload_n hx hb d_B_writeMark_0 rfl (lv_at hl 0 rfl) ?_
  refine lv_iconst (v := (3 : Int32)) hx hb d_B_writeMark_1 (by decide) ?_
  refine lv_iload_n hx hb d_B_writeMark_2 rfl (lv_at hl 2 rfl) ?_
  refine lv_iconst (v := (0 : Int32)) hx hb d_B_writeMark_3 (by decide) ?_
  refine lv_iconst (v := (1 : Int32)) hx hb d_B_writeMark_4 (by decide) ?_
  obtain ⟨r1, z1, hq2, hf⟩ := x_cl_some hf
  refine va_callv (va_runV (As := [.int (3 : Int32), .int p2, .int (0 : Int32), .int (1 : Int32)]) (rest := []) ⟨hx, hb, hml, hown, hts⟩ (c_B_beginImage l G (3 : Int32) p2 (0 : Int32) (1 : Int32) z0 r1 z1 hq2) (cwV 4 hts (x_gV t_528 t_530 sel_ContentLibrary_Blocks_beginImage t_3 t_531) rfl rfl rfl (by decide +kernel) ⟨Nat.le_of_ble_eq_true rfl, Nat.le_of_ble_eq_true rfl⟩) ⟨x_blind _ _ _, va_recv hK hP (ci := 1) (q0 := 1) rfl (x_lk_B G _), fun U hU hW => ⟨rfl, x_pw hP hD hK hG hS hz hU hW⟩⟩ rfl rfl hl.1 rfl (lv_room (Nat.le_of_ble_eq_true rfl)) d_B_writeMark_5 ⟨Nat.le_of_ble_eq_true rfl, Nat.le_of_ble_eq_true rfl⟩) hS (fun q _ h => h) (fun q h => h) (fun u t H locs ht hvm hw hB _ _ hS => ?_)
  obtain ⟨rfl, rfl⟩ := hw
  obtain ⟨hP, hD⟩ := x_back hB ht
  refine lv_aload_n hx hb d_B_writeMark_8 rfl (lv_at hl 0 rfl) ?_
  refine va_get (D := x_D G) (ci := 1) (v := .ref (x_ad G 3)) (C := "ContentLibrary$Blocks") (T := x_TB) (N := 5) hx hb hts x_inB hown hK hP 1 (x_lk_B G _) rfl 4 (by decide) (hts _ t_46) (fun _ h9 => h9) rfl d_B_writeMark_9 ?_
  refine lv_bipush (v := (8 : Int32)) hx hb d_B_writeMark_12 (by decide) ?_
  refine lv_iload_n hx hb d_B_writeMark_14 rfl (lv_at hl 3 rfl) ?_
  obtain ⟨hin3, hf⟩ := x_ck_some hf
  refine va_iast hx hb hK hP hD hS 3 0 (x_lk_A G _ rfl) rfl hin3 d_B_writeMark_15 (fun H locs hP hD hS => ?_)
  rw [x_st_A G _ (k := 3) rfl] at hP hD
  refine lv_aload_n hx hb d_B_writeMark_16 rfl (lv_at hl 0 rfl) ?_
  refine lv_iload_n hx hb d_B_writeMark_17 rfl (lv_at hl 1 rfl) ?_
  obtain ⟨r4, z4, hq5, hf⟩ := x_cl_some hf
  refine va_calli (va_runV (As := [.int p1]) (rest := []) ⟨hx, hb, hml, hown, hts⟩ (c_B_writeImage l G p1 (x_put z1 3 ((8 : Int32)).toNatClampNeg p3) r4 z4 hq5) (cwV 1 hts (x_gV t_533 t_535 sel_ContentLibrary_Blocks_writeImage t_3 t_536) rfl rfl rfl (by decide +kernel) ⟨Nat.le_of_ble_eq_true rfl, Nat.le_of_ble_eq_true rfl⟩) ⟨x_blind _ _ _, va_recv hK hP (ci := 1) (q0 := 1) rfl (x_lk_B G _), fun U hU hW => ⟨rfl, x_pw hP hD hK hG hS hz hU hW⟩⟩ rfl rfl hl.1 rfl (lv_room (Nat.le_of_ble_eq_true rfl)) d_B_writeMark_18 ⟨Nat.le_of_ble_eq_true rfl, Nat.le_of_ble_eq_true rfl⟩) hS (fun q _ h => h) (fun q h => h) (fun ra u t H locs ht hvm hw hB _ _ hS => ?_)
  obtain ⟨rfl, rfl⟩ := hw
  obtain ⟨hP, hD⟩ := x_back hB ht
  obtain ⟨hbo, hf⟩ := x_ckb_some hf
  obtain ⟨rfl, rfl⟩ := x_ret hf
  exact W.zret (v := r4) hx hb hr (x_nb hbo) (fun t ht hW => ⟨⟨_, _, rfl, ⟨rfl, rfl⟩, x_pw hP hD hK hG hS hz ht hW⟩, hS.F ht⟩) hS.2.2 d_B_writeMark_21
abbrev rm_B_wipe : Room := { frames := 1, cells := 0, slots := 0, locals := 23 }
set_option maxHeartbeats 4000000 in
set_option maxRecDepth 100000 in
theorem w_B_wipe_39 (l : Launch) (G : x_G) {p : Program} {e : Env} {s : State} {m : MethodId} {args : Array Value} {below : List Frame} {meth : Method} {c : Code} (C0 : x_Ctx G p s m args meth c prog_2_method_17_code "ContentLibrary$Blocks" 4 (some .boolean)) (r : Int32) (zo : x_St) : ∀ (a2 : Int32) (z0 : x_St), f_B_wipe_39 (x_n G) a2 z0 = some (r, zo) → ∀ (H : Heap) (locs : List Loc) (ls : Array Slot), va_P (x_D G) vwCl (x_Wd G z0) H → va_D (x_A G) (x_Wd G z0) → va_S (x_A G) s.heap H locs → lv_has ls 4 [(2, .int a2)] → W p l e rm_B_wipe s m args below meth c H locs 0 0 (MQ below (va_Qi (fun a u => r = a ∧ zo = u) (x_PW G) (x_A G)) args s 0 0 (x_A G)) (F0 m 39 ls []) := by
  obtain ⟨hx, hb, hr, hml, hown, hts, hlocks, hz, hK, hG⟩ := id C0
  intro a2 z0 hf H locs ls hP hD hS hl
  rw [f_B_wipe_39] at hf
  refine lv_iload_n hx hb d_B_wipe_39 rfl (lv_at hl 0 rfl) ?_
  obtain ⟨hbo, hf⟩ := x_ckb_some hf
  obtain ⟨rfl, rfl⟩ := x_ret hf
  exact W.zret (v := a2) hx hb hr (x_nb hbo) (fun t ht hW => ⟨⟨_, _, rfl, ⟨rfl, rfl⟩, x_pw hP hD hK hG hS hz ht hW⟩, hS.F ht⟩) hS.2.2 d_B_wipe_40
set_option maxHeartbeats 4000000 in
set_option maxRecDepth 100000 in
theorem w_B_wipe_10 (l : Launch) (G : x_G) {p : Program} {e : Env} {s : State} {m : MethodId} {args : Array Value} {below : List Frame} {meth : Method} {c : Code} (C0 : x_Ctx G p s m args meth c prog_2_method_17_code "ContentLibrary$Blocks" 4 (some .boolean)) (r : Int32) (zo : x_St) : ∀ (fu : Nat), ∀ (a1 : Int32) (a2 : Int32) (a3 : Int32) (z0 : x_St), f_B_wipe_10 (x_n G) fu a1 a2 a3 z0 = some (r, zo) → ∀ (H : Heap) (locs : List Loc) (ls : Array Slot), va_P (x_D G) vwCl (x_Wd G z0) H → va_D (x_A G) (x_Wd G z0) → va_S (x_A G) s.heap H locs → lv_has ls 4 [(0, .ref (x_ad G 1)), (1, .int a1), (2, .int a2), (3, .int a3)] → W p l e rm_B_wipe s m args below meth c H locs 0 0 (MQ below (va_Qi (fun a u => r = a ∧ zo = u) (x_PW G) (x_A G)) args s 0 0 (x_A G)) (F0 m 10 ls []) := by
  obtain ⟨hx, hb, hr, hml, hown, hts, hlocks, hz, hK, hG⟩ := id C0
  intro fu
  induction fu with
  | zero =>
    intro a1 a2 a3 z0 hf
    rw [f_B_wipe_10] at hf
    cases hf
  | succ fu ih =>
    intro a1 a2 a3 z0 hf H locs ls hP hD hS hl
    rw [f_B_wipe_10] at hf
    refine lv_iload_n hx hb d_B_wipe_10 rfl (lv_at hl 3 rfl) ?_
    refine lv_bipush (v := (64 : Int32)) hx hb d_B_wipe_11 (by decide) ?_
    refine lv_icmp_ge (tgt := 39) hx hb d_B_wipe_13 (by decide) (fun hc1 => ?_) (fun hc1 => ?_)
    · have hf := x_br_t hf hc1
      exact w_B_wipe_39 l G C0 r zo a2 z0 hf _ _ _ hP hD hS (lv_sub hl [2] rfl)
    · have hf := x_br_f hf hc1
      refine lv_iload_n hx hb d_B_wipe_16 rfl (lv_at hl 2 rfl) ?_
      refine lv_if_eq (tgt := 39) hx hb d_B_wipe_17 (by decide) (fun hc2 => ?_) (fun hc2 => ?_)
      · have hf := x_br_t hf hc2
        exact w_B_wipe_39 l G C0 r zo a2 z0 hf _ _ _ hP hD hS (lv_sub hl [2] rfl)
      · have hf := x_br_f hf hc2
        refine lv_iload_n hx hb d_B_wipe_20 rfl (lv_at hl 3 rfl) ?_
        refine lv_iconst (v := (4 : Int32)) hx hb d_B_wipe_21 (by decide) ?_
        refine lv_icmp_eq (tgt := 33) hx hb d_B_wipe_22 (by decide) (fun hc3 => ?_) (fun hc3 => ?_)
        · have hf := x_br_t hf hc3
          refine lv_iinc (v := (a3 + (1 : Int32))) (lv' := [(3, .int (a3 + (1 : Int32))), (0, .ref (x_ad G 1)), (1, .int a1), (2, .int a2)]) hx hb d_B_wipe_33 hl (k := 3) rfl rfl (by decide) rfl (fun ls hl => ?_)
          refine lv_goto (tgt := 10) hx hb d_B_wipe_36 (by decide) ?_
          exact ih a1 a2 (a3 + (1 : Int32)) z0 hf _ _ _ hP hD hS (lv_sub hl [1, 2, 3, 0] rfl)
        · have hf := x_br_f hf hc3
          refine lv_aload_n hx hb d_B_wipe_25 rfl (lv_at hl 0 rfl) ?_
          refine lv_iload_n hx hb d_B_wipe_26 rfl (lv_at hl 1 rfl) ?_
          refine lv_iload_n hx hb d_B_wipe_27 rfl (lv_at hl 3 rfl) ?_
          refine lv_iconst (v := (0 : Int32)) hx hb d_B_wipe_28 (by decide) ?_
          obtain ⟨r4, z4, hq5, hf⟩ := x_cl_some hf
          refine va_calli (va_runV (As := [.int a1, .int a3, .int (0 : Int32)]) (rest := []) ⟨hx, hb, hml, hown, hts⟩ (c_B_put l G a1 a3 (0 : Int32) z0 r4 z4 hq5) (cwV 3 hts (x_gV t_517 t_519 sel_ContentLibrary_Blocks_put t_3 t_520) rfl rfl rfl (by decide +kernel) ⟨Nat.le_of_ble_eq_true rfl, Nat.le_of_ble_eq_true rfl⟩) ⟨x_blind _ _ _, va_recv hK hP (ci := 1) (q0 := 1) rfl (x_lk_B G _), fun U hU hW => ⟨rfl, x_pw hP hD hK hG hS hz hU hW⟩⟩ rfl rfl hl.1 rfl (lv_room (Nat.le_of_ble_eq_true rfl)) d_B_wipe_29 ⟨Nat.le_of_ble_eq_true rfl, Nat.le_of_ble_eq_true rfl⟩) hS (fun q _ h => h) (fun q h => h) (fun ra u t H locs ht hvm hw hB _ _ hS => ?_)
          obtain ⟨rfl, rfl⟩ := hw
          obtain ⟨hP, hD⟩ := x_back hB ht
          refine lv_istore_n (lv' := [(2, .int r4), (0, .ref (x_ad G 1)), (1, .int a1), (3, .int a3)]) hx hb d_B_wipe_32 rfl hl (by decide) rfl (fun ls hl => ?_)
          refine lv_iinc (v := (a3 + (1 : Int32))) (lv' := [(3, .int (a3 + (1 : Int32))), (2, .int r4), (0, .ref (x_ad G 1)), (1, .int a1)]) hx hb d_B_wipe_33 hl (k := 3) rfl rfl (by decide) rfl (fun ls hl => ?_)
          refine lv_goto (tgt := 10) hx hb d_B_wipe_36 (by decide) ?_
          exact ih a1 r4 (a3 + (1 : Int32)) z4 hf _ _ _ hP hD hS (lv_sub hl [2, 3, 1, 0] rfl)
set_option maxHeartbeats 4000000 in
set_option maxRecDepth 100000 in
theorem c_B_wipe (l : Launch) (G : x_G) (p1 : Int32) (z0 : x_St) (r : Int32) (zo : x_St) (hf : f_B_wipe (x_n G) p1 z0 = some (r, zo)) : Met l (⟨"ContentLibrary$Blocks", "wipe", "(I)Z"⟩ : MethodName) (x_ws (⟨"ContentLibrary$Blocks", "wipe", "(I)Z"⟩ : MethodName) prog_2_method_17_code 4 (some .boolean)) rm_B_wipe (va_Pc [.ref (x_ad G 1), .int p1] (x_PW G z0)) (va_Qi (fun a u => r = a ∧ zo = u) (x_PW G) (x_A G)) 0 0 (x_A G) := by
  refine Met.ofW (cc := prog_2_method_17_code) (maxL := 4) (ret := (some .boolean)) (by decide) rfl ?_
  intro p e s m args below meth c s₁ B hml hv
  obtain ⟨rfl, hz, hP, hD, hK, hG⟩ := hv
  have C0 : x_Ctx G p s m _ meth c prog_2_method_17_code "ContentLibrary$Blocks" 4 (some .boolean) := ⟨B.exec, B.bytes, B.returns, hml, findClass_of_methodNamed B.named, fun w h => atoms_spec (ws := (x_ws (⟨"ContentLibrary$Blocks", "wipe", "(I)Z"⟩ : MethodName) prog_2_method_17_code 4 (some .boolean))) B.pre w (List.mem_cons_of_mem _ h), B.notSynchronized, hz, hK, hG⟩
  obtain ⟨hx, hb, hr, hml, hown, hts, hlocks, hz, hK, hG⟩ := id C0
  have hS : va_S (x_A G) s.heap s.heap [] := va_S.rf
  have hl := lv_entry ([.ref (x_ad G 1), .int p1]) (n := 4) (Nat.le_of_ble_eq_true rfl)
  rw [lg_entry_eq]
  generalize (lg_sl ([.ref (x_ad G 1), .int p1]) ++ List.replicate (4 - (lg_sl ([.ref (x_ad G 1), .int p1])).length) Slot.unset).toArray = ls at hl ⊢
  have hl : lv_has ls 4 [(0, .ref (x_ad G 1)), (1, .int p1)] := hl
  rw [f_B_wipe] at hf
  refine lv_aload_n hx hb d_B_wipe_0 rfl (lv_at hl 0 rfl) ?_
  refine lv_iload_n hx hb d_B_wipe_1 rfl (lv_at hl 1 rfl) ?_
  refine lv_iconst (v := (4 : Int32)) hx hb d_B_wipe_2 (by decide) ?_
  refine lv_iconst (v := (0 : Int32)) hx hb d_B_wipe_3 (by decide) ?_
  obtain ⟨r6, z6, hq7, hf⟩ := x_cl_some hf
  refine va_calli (va_runV (As := [.int p1, .int (4 : Int32), .int (0 : Int32)]) (rest := []) ⟨hx, hb, hml, hown, hts⟩ (c_B_put l G p1 (4 : Int32) (0 : Int32) z0 r6 z6 hq7) (cwV 3 hts (x_gV t_517 t_519 sel_ContentLibrary_Blocks_put t_3 t_520) rfl rfl rfl (by decide +kernel) ⟨Nat.le_of_ble_eq_true rfl, Nat.le_of_ble_eq_true rfl⟩) ⟨x_blind _ _ _, va_recv hK hP (ci := 1) (q0 := 1) rfl (x_lk_B G _), fun U hU hW => ⟨rfl, x_pw hP hD hK hG hS hz hU hW⟩⟩ rfl rfl hl.1 rfl (lv_room (Nat.le_of_ble_eq_true rfl)) d_B_wipe_4 ⟨Nat.le_of_ble_eq_true rfl, Nat.le_of_ble_eq_true rfl⟩) hS (fun q _ h => h) (fun q h => h) (fun ra u t H locs ht hvm hw hB _ _ hS => ?_)
  obtain ⟨rfl, rfl⟩ := hw
  obtain ⟨hP, hD⟩ := x_back hB ht
  refine lv_istore_n (lv' := [(2, .int r6), (0, .ref (x_ad G 1)), (1, .int p1)]) hx hb d_B_wipe_7 rfl hl (by decide) rfl (fun ls hl => ?_)
  refine lv_iconst (v := (0 : Int32)) hx hb d_B_wipe_8 (by decide) ?_
  refine lv_istore_n (lv' := [(3, .int (0 : Int32)), (2, .int r6), (0, .ref (x_ad G 1)), (1, .int p1)]) hx hb d_B_wipe_9 rfl hl (by decide) rfl (fun ls hl => ?_)
  exact w_B_wipe_10 l G C0 r zo x_FU p1 r6 (0 : Int32) z6 hf _ _ _ hP hD hS (lv_sub hl [2, 3, 1, 0] rfl)
