theorem t_2 : Cond.initialized "java/lang/Math" ∈ x_big := x_bt 2 (by decide +kernel) (by decide +kernel)
theorem t_4 : Cond.initialized "ContentLibrary$Picture" ∈ x_big := x_bt 4 (by decide +kernel) (by decide +kernel)
theorem t_16 : Cond.initialized "java/lang/System" ∈ x_big := x_bt 16 (by decide +kernel) (by decide +kernel)
theorem t_28 : Cond.static (⟨"java/lang/Math", "min", "(II)I"⟩ : MethodName) ∈ x_big := x_bt 28 (by decide +kernel) (by decide +kernel)
theorem t_29 : Cond.code (⟨"java/lang/Math", "min", "(II)I"⟩ : MethodName) prog_14_method_69_code 2 (some .int) ∈ x_big := x_bt 29 (by decide +kernel) (by decide +kernel)
theorem t_66 : Cond.fieldLink "ContentLibrary$Picture" 11 "ContentLibrary$Picture" "there" "Z" ∈ x_big := x_bt 66 (by decide +kernel) (by decide +kernel)
theorem t_68 : Cond.fieldLink "ContentLibrary$Picture" 15 "ContentLibrary$Picture" "message" "[I" ∈ x_big := x_bt 68 (by decide +kernel) (by decide +kernel)
theorem t_71 : Cond.fieldLink "ContentLibrary$Picture" 19 "ContentLibrary$Picture" "had" "I" ∈ x_big := x_bt 71 (by decide +kernel) (by decide +kernel)
theorem t_213 : Cond.static (⟨"java/lang/System", "arraycopy", "(Ljava/lang/Object;ILjava/lang/Object;II)V"⟩ : MethodName) ∈ x_big := x_bt 213 (by decide +kernel) (by decide +kernel)
theorem t_214 : Cond.native (⟨"java/lang/System", "arraycopy", "(Ljava/lang/Object;ILjava/lang/Object;II)V"⟩ : MethodName) ∈ x_big := x_bt 214 (by decide +kernel) (by decide +kernel)
theorem t_219 : Cond.methodLink "ContentLibrary$Picture" 29 (⟨"ContentLibrary$Picture", "width", "()I"⟩ : MethodName) ∈ x_big := x_bt 219 (by decide +kernel) (by decide +kernel)
theorem t_220 : Cond.instanceMethod (⟨"ContentLibrary$Picture", "width", "()I"⟩ : MethodName) ∈ x_big := x_bt 220 (by decide +kernel) (by decide +kernel)
theorem t_221 : Cond.selects "ContentLibrary$Picture" (⟨"ContentLibrary$Picture", "width", "()I"⟩ : MethodName) (⟨"ContentLibrary$Picture", "width", "()I"⟩ : MethodName) ∈ x_big := x_bt 221 (by decide +kernel) (by decide +kernel)
theorem t_222 : Cond.code (⟨"ContentLibrary$Picture", "width", "()I"⟩ : MethodName) prog_5_method_5_code 1 (some .int) ∈ x_big := x_bt 222 (by decide +kernel) (by decide +kernel)
theorem t_223 : Cond.methodLink "ContentLibrary$Picture" 50 (⟨"ContentLibrary$Picture", "isSide", "(I)Z"⟩ : MethodName) ∈ x_big := x_bt 223 (by decide +kernel) (by decide +kernel)
theorem t_224 : Cond.static (⟨"ContentLibrary$Picture", "isSide", "(I)Z"⟩ : MethodName) ∈ x_big := x_bt 224 (by decide +kernel) (by decide +kernel)
theorem t_225 : Cond.code (⟨"ContentLibrary$Picture", "isSide", "(I)Z"⟩ : MethodName) prog_5_method_2_code 1 (some .boolean) ∈ x_big := x_bt 225 (by decide +kernel) (by decide +kernel)
theorem t_226 : Cond.methodLink "ContentLibrary$Picture" 33 (⟨"ContentLibrary$Picture", "height", "()I"⟩ : MethodName) ∈ x_big := x_bt 226 (by decide +kernel) (by decide +kernel)
theorem t_227 : Cond.instanceMethod (⟨"ContentLibrary$Picture", "height", "()I"⟩ : MethodName) ∈ x_big := x_bt 227 (by decide +kernel) (by decide +kernel)
theorem t_228 : Cond.selects "ContentLibrary$Picture" (⟨"ContentLibrary$Picture", "height", "()I"⟩ : MethodName) (⟨"ContentLibrary$Picture", "height", "()I"⟩ : MethodName) ∈ x_big := x_bt 228 (by decide +kernel) (by decide +kernel)
theorem t_229 : Cond.code (⟨"ContentLibrary$Picture", "height", "()I"⟩ : MethodName) prog_5_method_6_code 1 (some .int) ∈ x_big := x_bt 229 (by decide +kernel) (by decide +kernel)
theorem t_230 : Cond.methodLink "ContentLibrary$Picture" 54 (⟨"ContentLibrary$Picture", "isWhole", "()Z"⟩ : MethodName) ∈ x_big := x_bt 230 (by decide +kernel) (by decide +kernel)
theorem t_231 : Cond.instanceMethod (⟨"ContentLibrary$Picture", "isWhole", "()Z"⟩ : MethodName) ∈ x_big := x_bt 231 (by decide +kernel) (by decide +kernel)
theorem t_232 : Cond.selects "ContentLibrary$Picture" (⟨"ContentLibrary$Picture", "isWhole", "()Z"⟩ : MethodName) (⟨"ContentLibrary$Picture", "isWhole", "()Z"⟩ : MethodName) ∈ x_big := x_bt 232 (by decide +kernel) (by decide +kernel)
theorem t_233 : Cond.code (⟨"ContentLibrary$Picture", "isWhole", "()Z"⟩ : MethodName) prog_5_method_8_code 1 (some .boolean) ∈ x_big := x_bt 233 (by decide +kernel) (by decide +kernel)
theorem t_234 : Cond.methodLink "ContentLibrary$Picture" 36 (⟨"ContentLibrary$Picture", "wanted", "()I"⟩ : MethodName) ∈ x_big := x_bt 234 (by decide +kernel) (by decide +kernel)
theorem t_235 : Cond.instanceMethod (⟨"ContentLibrary$Picture", "wanted", "()I"⟩ : MethodName) ∈ x_big := x_bt 235 (by decide +kernel) (by decide +kernel)
theorem t_236 : Cond.selects "ContentLibrary$Picture" (⟨"ContentLibrary$Picture", "wanted", "()I"⟩ : MethodName) (⟨"ContentLibrary$Picture", "wanted", "()I"⟩ : MethodName) ∈ x_big := x_bt 236 (by decide +kernel) (by decide +kernel)
theorem t_237 : Cond.code (⟨"ContentLibrary$Picture", "wanted", "()I"⟩ : MethodName) prog_5_method_7_code 1 (some .int) ∈ x_big := x_bt 237 (by decide +kernel) (by decide +kernel)
theorem t_239 : Cond.instanceMethod (⟨"ContentLibrary$Picture", "length", "()I"⟩ : MethodName) ∈ x_big := x_bt 239 (by decide +kernel) (by decide +kernel)
theorem t_240 : Cond.selects "ContentLibrary$Picture" (⟨"ContentLibrary$Picture", "length", "()I"⟩ : MethodName) (⟨"ContentLibrary$Picture", "length", "()I"⟩ : MethodName) ∈ x_big := x_bt 240 (by decide +kernel) (by decide +kernel)
theorem t_241 : Cond.code (⟨"ContentLibrary$Picture", "length", "()I"⟩ : MethodName) prog_5_method_9_code 1 (some .int) ∈ x_big := x_bt 241 (by decide +kernel) (by decide +kernel)
theorem t_289 : Cond.methodLink "ContentLibrary$Picture" 58 (⟨"ContentLibrary$Picture", "at", "(II)I"⟩ : MethodName) ∈ x_big := x_bt 289 (by decide +kernel) (by decide +kernel)
theorem t_290 : Cond.instanceMethod (⟨"ContentLibrary$Picture", "at", "(II)I"⟩ : MethodName) ∈ x_big := x_bt 290 (by decide +kernel) (by decide +kernel)
theorem t_291 : Cond.selects "ContentLibrary$Picture" (⟨"ContentLibrary$Picture", "at", "(II)I"⟩ : MethodName) (⟨"ContentLibrary$Picture", "at", "(II)I"⟩ : MethodName) ∈ x_big := x_bt 291 (by decide +kernel) (by decide +kernel)
theorem t_292 : Cond.code (⟨"ContentLibrary$Picture", "at", "(II)I"⟩ : MethodName) prog_5_method_12_code 3 (some .int) ∈ x_big := x_bt 292 (by decide +kernel) (by decide +kernel)
theorem t_478 : Cond.methodLink "ContentLibrary$Picture" 44 (⟨"java/lang/Math", "min", "(II)I"⟩ : MethodName) ∈ x_big := x_bt 478 (by decide +kernel) (by decide +kernel)
theorem t_499 : Cond.methodLink "ContentLibrary$Picture" 39 (⟨"ContentLibrary$Picture", "length", "()I"⟩ : MethodName) ∈ x_big := x_bt 499 (by decide +kernel) (by decide +kernel)
theorem t_545 : Cond.methodLink "ContentLibrary$Picture" 23 (⟨"java/lang/System", "arraycopy", "(Ljava/lang/Object;ILjava/lang/Object;II)V"⟩ : MethodName) ∈ x_big := x_bt 545 (by decide +kernel) (by decide +kernel)
theorem d_P_isSide_0 : decode prog_5_method_2_code 0 = .ok (.iload_n 0, 1) := by decide +kernel
theorem d_P_isSide_1 : decode prog_5_method_2_code 1 = .ok (.iconst 1, 1) := by decide +kernel
theorem d_P_isSide_2 : decode prog_5_method_2_code 2 = .ok (.if_icmp .lt 13, 3) := by decide +kernel
theorem d_P_isSide_5 : decode prog_5_method_2_code 5 = .ok (.iload_n 0, 1) := by decide +kernel
theorem d_P_isSide_6 : decode prog_5_method_2_code 6 = .ok (.bipush 8, 2) := by decide +kernel
theorem d_P_isSide_8 : decode prog_5_method_2_code 8 = .ok (.if_icmp .gt 7, 3) := by decide +kernel
theorem d_P_isSide_11 : decode prog_5_method_2_code 11 = .ok (.iconst 1, 1) := by decide +kernel
theorem d_P_isSide_12 : decode prog_5_method_2_code 12 = .ok (.goto 4, 3) := by decide +kernel
theorem d_P_isSide_16 : decode prog_5_method_2_code 16 = .ok (.ireturn, 1) := by decide +kernel
theorem d_P_isSide_15 : decode prog_5_method_2_code 15 = .ok (.iconst 0, 1) := by decide +kernel
theorem d_P_begin_0 : decode prog_5_method_3_code 0 = .ok (.aload_n 0, 1) := by decide +kernel
theorem d_P_begin_1 : decode prog_5_method_3_code 1 = .ok (.iconst 1, 1) := by decide +kernel
theorem d_P_begin_2 : decode prog_5_method_3_code 2 = .ok (.putfield 11, 3) := by decide +kernel
theorem d_P_begin_5 : decode prog_5_method_3_code 5 = .ok (.aload_n 0, 1) := by decide +kernel
theorem d_P_begin_6 : decode prog_5_method_3_code 6 = .ok (.getfield 15, 3) := by decide +kernel
theorem d_P_begin_9 : decode prog_5_method_3_code 9 = .ok (.iconst 0, 1) := by decide +kernel
theorem d_P_begin_10 : decode prog_5_method_3_code 10 = .ok (.iload_n 1, 1) := by decide +kernel
theorem d_P_begin_11 : decode prog_5_method_3_code 11 = .ok (.iastore, 1) := by decide +kernel
theorem d_P_begin_12 : decode prog_5_method_3_code 12 = .ok (.aload_n 0, 1) := by decide +kernel
theorem d_P_begin_13 : decode prog_5_method_3_code 13 = .ok (.getfield 15, 3) := by decide +kernel
theorem d_P_begin_16 : decode prog_5_method_3_code 16 = .ok (.iconst 1, 1) := by decide +kernel
theorem d_P_begin_17 : decode prog_5_method_3_code 17 = .ok (.iload_n 2, 1) := by decide +kernel
theorem d_P_begin_18 : decode prog_5_method_3_code 18 = .ok (.iastore, 1) := by decide +kernel
theorem d_P_begin_19 : decode prog_5_method_3_code 19 = .ok (.aload_n 0, 1) := by decide +kernel
theorem d_P_begin_20 : decode prog_5_method_3_code 20 = .ok (.iconst 0, 1) := by decide +kernel
theorem d_P_begin_21 : decode prog_5_method_3_code 21 = .ok (.putfield 19, 3) := by decide +kernel
theorem d_P_begin_24 : decode prog_5_method_3_code 24 = .ok (.return_, 1) := by decide +kernel
theorem d_P_copyFrom_0 : decode prog_5_method_4_code 0 = .ok (.aload_n 1, 1) := by decide +kernel
theorem d_P_copyFrom_1 : decode prog_5_method_4_code 1 = .ok (.getfield 15, 3) := by decide +kernel
theorem d_P_copyFrom_4 : decode prog_5_method_4_code 4 = .ok (.iconst 0, 1) := by decide +kernel
theorem d_P_copyFrom_5 : decode prog_5_method_4_code 5 = .ok (.aload_n 0, 1) := by decide +kernel
theorem d_P_copyFrom_6 : decode prog_5_method_4_code 6 = .ok (.getfield 15, 3) := by decide +kernel
theorem d_P_copyFrom_9 : decode prog_5_method_4_code 9 = .ok (.iconst 0, 1) := by decide +kernel
theorem d_P_copyFrom_10 : decode prog_5_method_4_code 10 = .ok (.bipush 66, 2) := by decide +kernel
theorem d_P_copyFrom_12 : decode prog_5_method_4_code 12 = .ok (.invokestatic 23, 3) := by decide +kernel
theorem d_P_copyFrom_15 : decode prog_5_method_4_code 15 = .ok (.aload_n 0, 1) := by decide +kernel
theorem d_P_copyFrom_16 : decode prog_5_method_4_code 16 = .ok (.aload_n 1, 1) := by decide +kernel
theorem d_P_copyFrom_17 : decode prog_5_method_4_code 17 = .ok (.getfield 19, 3) := by decide +kernel
theorem d_P_copyFrom_20 : decode prog_5_method_4_code 20 = .ok (.putfield 19, 3) := by decide +kernel
theorem d_P_copyFrom_23 : decode prog_5_method_4_code 23 = .ok (.return_, 1) := by decide +kernel
theorem d_P_width_0 : decode prog_5_method_5_code 0 = .ok (.aload_n 0, 1) := by decide +kernel
theorem d_P_width_1 : decode prog_5_method_5_code 1 = .ok (.getfield 15, 3) := by decide +kernel
theorem d_P_width_4 : decode prog_5_method_5_code 4 = .ok (.iconst 0, 1) := by decide +kernel
theorem d_P_width_5 : decode prog_5_method_5_code 5 = .ok (.iaload, 1) := by decide +kernel
theorem d_P_width_6 : decode prog_5_method_5_code 6 = .ok (.ireturn, 1) := by decide +kernel
theorem d_P_height_0 : decode prog_5_method_6_code 0 = .ok (.aload_n 0, 1) := by decide +kernel
theorem d_P_height_1 : decode prog_5_method_6_code 1 = .ok (.getfield 15, 3) := by decide +kernel
theorem d_P_height_4 : decode prog_5_method_6_code 4 = .ok (.iconst 1, 1) := by decide +kernel
theorem d_P_height_5 : decode prog_5_method_6_code 5 = .ok (.iaload, 1) := by decide +kernel
theorem d_P_height_6 : decode prog_5_method_6_code 6 = .ok (.ireturn, 1) := by decide +kernel
theorem d_P_wanted_0 : decode prog_5_method_7_code 0 = .ok (.aload_n 0, 1) := by decide +kernel
theorem d_P_wanted_1 : decode prog_5_method_7_code 1 = .ok (.invokevirtual 29, 3) := by decide +kernel
theorem d_P_wanted_4 : decode prog_5_method_7_code 4 = .ok (.aload_n 0, 1) := by decide +kernel
theorem d_P_wanted_5 : decode prog_5_method_7_code 5 = .ok (.invokevirtual 33, 3) := by decide +kernel
theorem d_P_wanted_8 : decode prog_5_method_7_code 8 = .ok (.imul, 1) := by decide +kernel
theorem d_P_wanted_9 : decode prog_5_method_7_code 9 = .ok (.ireturn, 1) := by decide +kernel
theorem d_P_isWhole_0 : decode prog_5_method_8_code 0 = .ok (.aload_n 0, 1) := by decide +kernel
theorem d_P_isWhole_1 : decode prog_5_method_8_code 1 = .ok (.getfield 19, 3) := by decide +kernel
theorem d_P_isWhole_4 : decode prog_5_method_8_code 4 = .ok (.aload_n 0, 1) := by decide +kernel
theorem d_P_isWhole_5 : decode prog_5_method_8_code 5 = .ok (.invokevirtual 36, 3) := by decide +kernel
theorem d_P_isWhole_8 : decode prog_5_method_8_code 8 = .ok (.if_icmp .ne 7, 3) := by decide +kernel
theorem d_P_isWhole_11 : decode prog_5_method_8_code 11 = .ok (.iconst 1, 1) := by decide +kernel
theorem d_P_isWhole_12 : decode prog_5_method_8_code 12 = .ok (.goto 4, 3) := by decide +kernel
theorem d_P_isWhole_16 : decode prog_5_method_8_code 16 = .ok (.ireturn, 1) := by decide +kernel
theorem d_P_isWhole_15 : decode prog_5_method_8_code 15 = .ok (.iconst 0, 1) := by decide +kernel
theorem d_P_length_0 : decode prog_5_method_9_code 0 = .ok (.iconst 2, 1) := by decide +kernel
theorem d_P_length_1 : decode prog_5_method_9_code 1 = .ok (.aload_n 0, 1) := by decide +kernel
theorem d_P_length_2 : decode prog_5_method_9_code 2 = .ok (.getfield 19, 3) := by decide +kernel
theorem d_P_length_5 : decode prog_5_method_9_code 5 = .ok (.iadd, 1) := by decide +kernel
theorem d_P_length_6 : decode prog_5_method_9_code 6 = .ok (.ireturn, 1) := by decide +kernel
theorem d_P_recordBlocks_0 : decode prog_5_method_10_code 0 = .ok (.aload_n 0, 1) := by decide +kernel
theorem d_P_recordBlocks_1 : decode prog_5_method_10_code 1 = .ok (.invokevirtual 39, 3) := by decide +kernel
theorem d_P_recordBlocks_4 : decode prog_5_method_10_code 4 = .ok (.bipush 56, 2) := by decide +kernel
theorem d_P_recordBlocks_6 : decode prog_5_method_10_code 6 = .ok (.iadd, 1) := by decide +kernel
theorem d_P_recordBlocks_7 : decode prog_5_method_10_code 7 = .ok (.iconst 1, 1) := by decide +kernel
theorem d_P_recordBlocks_8 : decode prog_5_method_10_code 8 = .ok (.isub, 1) := by decide +kernel
theorem d_P_recordBlocks_9 : decode prog_5_method_10_code 9 = .ok (.bipush 56, 2) := by decide +kernel
theorem d_P_recordBlocks_11 : decode prog_5_method_10_code 11 = .ok (.idiv, 1) := by decide +kernel
theorem d_P_recordBlocks_12 : decode prog_5_method_10_code 12 = .ok (.ireturn, 1) := by decide +kernel
theorem d_P_take_0 : decode prog_5_method_11_code 0 = .ok (.iload_n 1, 1) := by decide +kernel
theorem d_P_take_1 : decode prog_5_method_11_code 1 = .ok (.aload_n 0, 1) := by decide +kernel
theorem d_P_take_2 : decode prog_5_method_11_code 2 = .ok (.invokevirtual 36, 3) := by decide +kernel
theorem d_P_take_5 : decode prog_5_method_11_code 5 = .ok (.aload_n 0, 1) := by decide +kernel
theorem d_P_take_6 : decode prog_5_method_11_code 6 = .ok (.getfield 19, 3) := by decide +kernel
theorem d_P_take_9 : decode prog_5_method_11_code 9 = .ok (.isub, 1) := by decide +kernel
theorem d_P_take_10 : decode prog_5_method_11_code 10 = .ok (.invokestatic 44, 3) := by decide +kernel
theorem d_P_take_13 : decode prog_5_method_11_code 13 = .ok (.istore 4, 2) := by decide +kernel
theorem d_P_take_15 : decode prog_5_method_11_code 15 = .ok (.iload_n 2, 1) := by decide +kernel
theorem d_P_take_16 : decode prog_5_method_11_code 16 = .ok (.istore 5, 2) := by decide +kernel
theorem d_P_take_18 : decode prog_5_method_11_code 18 = .ok (.iconst 0, 1) := by decide +kernel
theorem d_P_take_19 : decode prog_5_method_11_code 19 = .ok (.istore 6, 2) := by decide +kernel
theorem d_P_take_21 : decode prog_5_method_11_code 21 = .ok (.iload 6, 2) := by decide +kernel
theorem d_P_take_23 : decode prog_5_method_11_code 23 = .ok (.iload 4, 2) := by decide +kernel
theorem d_P_take_25 : decode prog_5_method_11_code 25 = .ok (.if_icmp .ge 42, 3) := by decide +kernel
theorem d_P_take_28 : decode prog_5_method_11_code 28 = .ok (.aload_n 0, 1) := by decide +kernel
theorem d_P_take_29 : decode prog_5_method_11_code 29 = .ok (.getfield 15, 3) := by decide +kernel
theorem d_P_take_32 : decode prog_5_method_11_code 32 = .ok (.iconst 2, 1) := by decide +kernel
theorem d_P_take_33 : decode prog_5_method_11_code 33 = .ok (.aload_n 0, 1) := by decide +kernel
theorem d_P_take_34 : decode prog_5_method_11_code 34 = .ok (.getfield 19, 3) := by decide +kernel
theorem d_P_take_37 : decode prog_5_method_11_code 37 = .ok (.iadd, 1) := by decide +kernel
theorem d_P_take_38 : decode prog_5_method_11_code 38 = .ok (.iload 5, 2) := by decide +kernel
theorem d_P_take_40 : decode prog_5_method_11_code 40 = .ok (.sipush 255, 3) := by decide +kernel
theorem d_P_take_43 : decode prog_5_method_11_code 43 = .ok (.iand, 1) := by decide +kernel
theorem d_P_take_44 : decode prog_5_method_11_code 44 = .ok (.iastore, 1) := by decide +kernel
theorem d_P_take_45 : decode prog_5_method_11_code 45 = .ok (.aload_n 0, 1) := by decide +kernel
theorem d_P_take_46 : decode prog_5_method_11_code 46 = .ok (.dup, 1) := by decide +kernel
theorem d_P_take_47 : decode prog_5_method_11_code 47 = .ok (.getfield 19, 3) := by decide +kernel
theorem d_P_take_50 : decode prog_5_method_11_code 50 = .ok (.iconst 1, 1) := by decide +kernel
theorem d_P_take_51 : decode prog_5_method_11_code 51 = .ok (.iadd, 1) := by decide +kernel
theorem d_P_take_52 : decode prog_5_method_11_code 52 = .ok (.putfield 19, 3) := by decide +kernel
theorem d_P_take_55 : decode prog_5_method_11_code 55 = .ok (.iload 5, 2) := by decide +kernel
theorem d_P_take_57 : decode prog_5_method_11_code 57 = .ok (.iload_n 3, 1) := by decide +kernel
theorem d_P_take_58 : decode prog_5_method_11_code 58 = .ok (.iadd, 1) := by decide +kernel
theorem d_P_take_59 : decode prog_5_method_11_code 59 = .ok (.istore 5, 2) := by decide +kernel
theorem d_P_take_61 : decode prog_5_method_11_code 61 = .ok (.iinc 6 1, 3) := by decide +kernel
theorem d_P_take_64 : decode prog_5_method_11_code 64 = .ok (.goto (-43), 3) := by decide +kernel
theorem d_P_take_67 : decode prog_5_method_11_code 67 = .ok (.aload_n 0, 1) := by decide +kernel
theorem d_P_take_68 : decode prog_5_method_11_code 68 = .ok (.getfield 19, 3) := by decide +kernel
theorem d_P_take_71 : decode prog_5_method_11_code 71 = .ok (.ireturn, 1) := by decide +kernel
theorem d_P_at_0 : decode prog_5_method_12_code 0 = .ok (.aload_n 0, 1) := by decide +kernel
theorem d_P_at_1 : decode prog_5_method_12_code 1 = .ok (.getfield 15, 3) := by decide +kernel
theorem d_P_at_4 : decode prog_5_method_12_code 4 = .ok (.iconst 2, 1) := by decide +kernel
theorem d_P_at_5 : decode prog_5_method_12_code 5 = .ok (.iload_n 2, 1) := by decide +kernel
theorem d_P_at_6 : decode prog_5_method_12_code 6 = .ok (.aload_n 0, 1) := by decide +kernel
theorem d_P_at_7 : decode prog_5_method_12_code 7 = .ok (.invokevirtual 29, 3) := by decide +kernel
theorem d_P_at_10 : decode prog_5_method_12_code 10 = .ok (.imul, 1) := by decide +kernel
theorem d_P_at_11 : decode prog_5_method_12_code 11 = .ok (.iadd, 1) := by decide +kernel
theorem d_P_at_12 : decode prog_5_method_12_code 12 = .ok (.iload_n 1, 1) := by decide +kernel
theorem d_P_at_13 : decode prog_5_method_12_code 13 = .ok (.iadd, 1) := by decide +kernel
theorem d_P_at_14 : decode prog_5_method_12_code 14 = .ok (.iaload, 1) := by decide +kernel
theorem d_P_at_15 : decode prog_5_method_12_code 15 = .ok (.ireturn, 1) := by decide +kernel
theorem d_P_fillsMessage_0 : decode prog_5_method_13_code 0 = .ok (.iload_n 1, 1) := by decide +kernel
theorem d_P_fillsMessage_1 : decode prog_5_method_13_code 1 = .ok (.iconst 2, 1) := by decide +kernel
theorem d_P_fillsMessage_2 : decode prog_5_method_13_code 2 = .ok (.if_icmp .le 23, 3) := by decide +kernel
theorem d_P_fillsMessage_5 : decode prog_5_method_13_code 5 = .ok (.aload_n 0, 1) := by decide +kernel
theorem d_P_fillsMessage_6 : decode prog_5_method_13_code 6 = .ok (.invokevirtual 29, 3) := by decide +kernel
theorem d_P_fillsMessage_9 : decode prog_5_method_13_code 9 = .ok (.invokestatic 50, 3) := by decide +kernel
theorem d_P_fillsMessage_12 : decode prog_5_method_13_code 12 = .ok (.ifCond .eq 13, 3) := by decide +kernel
theorem d_P_fillsMessage_15 : decode prog_5_method_13_code 15 = .ok (.aload_n 0, 1) := by decide +kernel
theorem d_P_fillsMessage_16 : decode prog_5_method_13_code 16 = .ok (.invokevirtual 33, 3) := by decide +kernel
theorem d_P_fillsMessage_19 : decode prog_5_method_13_code 19 = .ok (.invokestatic 50, 3) := by decide +kernel
theorem d_P_fillsMessage_22 : decode prog_5_method_13_code 22 = .ok (.ifCond .ne 5, 3) := by decide +kernel
theorem d_P_fillsMessage_25 : decode prog_5_method_13_code 25 = .ok (.iconst 0, 1) := by decide +kernel
theorem d_P_fillsMessage_26 : decode prog_5_method_13_code 26 = .ok (.ireturn, 1) := by decide +kernel
theorem d_P_fillsMessage_27 : decode prog_5_method_13_code 27 = .ok (.aload_n 0, 1) := by decide +kernel
theorem d_P_fillsMessage_28 : decode prog_5_method_13_code 28 = .ok (.iload_n 1, 1) := by decide +kernel
theorem d_P_fillsMessage_29 : decode prog_5_method_13_code 29 = .ok (.iconst 2, 1) := by decide +kernel
theorem d_P_fillsMessage_30 : decode prog_5_method_13_code 30 = .ok (.isub, 1) := by decide +kernel
theorem d_P_fillsMessage_31 : decode prog_5_method_13_code 31 = .ok (.putfield 19, 3) := by decide +kernel
theorem d_P_fillsMessage_34 : decode prog_5_method_13_code 34 = .ok (.aload_n 0, 1) := by decide +kernel
theorem d_P_fillsMessage_35 : decode prog_5_method_13_code 35 = .ok (.invokevirtual 54, 3) := by decide +kernel
theorem d_P_fillsMessage_38 : decode prog_5_method_13_code 38 = .ok (.ireturn, 1) := by decide +kernel
theorem d_P_printBits_0 : decode prog_5_method_14_code 0 = .ok (.iconst 0, 1) := by decide +kernel
theorem d_P_printBits_1 : decode prog_5_method_14_code 1 = .ok (.istore_n 1, 1) := by decide +kernel
theorem d_P_printBits_2 : decode prog_5_method_14_code 2 = .ok (.iconst 0, 1) := by decide +kernel
theorem d_P_printBits_3 : decode prog_5_method_14_code 3 = .ok (.istore_n 2, 1) := by decide +kernel
theorem d_P_printBits_4 : decode prog_5_method_14_code 4 = .ok (.iload_n 2, 1) := by decide +kernel
theorem d_P_printBits_5 : decode prog_5_method_14_code 5 = .ok (.aload_n 0, 1) := by decide +kernel
theorem d_P_printBits_6 : decode prog_5_method_14_code 6 = .ok (.getfield 19, 3) := by decide +kernel
theorem d_P_printBits_9 : decode prog_5_method_14_code 9 = .ok (.if_icmp .ge 20, 3) := by decide +kernel
theorem d_P_printBits_12 : decode prog_5_method_14_code 12 = .ok (.iload_n 1, 1) := by decide +kernel
theorem d_P_printBits_13 : decode prog_5_method_14_code 13 = .ok (.aload_n 0, 1) := by decide +kernel
theorem d_P_printBits_14 : decode prog_5_method_14_code 14 = .ok (.getfield 15, 3) := by decide +kernel
theorem d_P_printBits_17 : decode prog_5_method_14_code 17 = .ok (.iconst 2, 1) := by decide +kernel
theorem d_P_printBits_18 : decode prog_5_method_14_code 18 = .ok (.iload_n 2, 1) := by decide +kernel
theorem d_P_printBits_19 : decode prog_5_method_14_code 19 = .ok (.iadd, 1) := by decide +kernel
theorem d_P_printBits_20 : decode prog_5_method_14_code 20 = .ok (.iaload, 1) := by decide +kernel
theorem d_P_printBits_21 : decode prog_5_method_14_code 21 = .ok (.iadd, 1) := by decide +kernel
theorem d_P_printBits_22 : decode prog_5_method_14_code 22 = .ok (.istore_n 1, 1) := by decide +kernel
theorem d_P_printBits_23 : decode prog_5_method_14_code 23 = .ok (.iinc 2 1, 3) := by decide +kernel
theorem d_P_printBits_26 : decode prog_5_method_14_code 26 = .ok (.goto (-22), 3) := by decide +kernel
theorem d_P_printBits_29 : decode prog_5_method_14_code 29 = .ok (.lconst 0, 1) := by decide +kernel
theorem d_P_printBits_30 : decode prog_5_method_14_code 30 = .ok (.lstore_n 2, 1) := by decide +kernel
theorem d_P_printBits_31 : decode prog_5_method_14_code 31 = .ok (.iconst 0, 1) := by decide +kernel
theorem d_P_printBits_32 : decode prog_5_method_14_code 32 = .ok (.istore 4, 2) := by decide +kernel
theorem d_P_printBits_34 : decode prog_5_method_14_code 34 = .ok (.iload 4, 2) := by decide +kernel
theorem d_P_printBits_36 : decode prog_5_method_14_code 36 = .ok (.bipush 64, 2) := by decide +kernel
theorem d_P_printBits_38 : decode prog_5_method_14_code 38 = .ok (.if_icmp .ge 63, 3) := by decide +kernel
theorem d_P_printBits_41 : decode prog_5_method_14_code 41 = .ok (.iload 4, 2) := by decide +kernel
theorem d_P_printBits_43 : decode prog_5_method_14_code 43 = .ok (.bipush 8, 2) := by decide +kernel
theorem d_P_printBits_45 : decode prog_5_method_14_code 45 = .ok (.irem, 1) := by decide +kernel
theorem d_P_printBits_46 : decode prog_5_method_14_code 46 = .ok (.aload_n 0, 1) := by decide +kernel
theorem d_P_printBits_47 : decode prog_5_method_14_code 47 = .ok (.invokevirtual 29, 3) := by decide +kernel
theorem d_P_printBits_50 : decode prog_5_method_14_code 50 = .ok (.imul, 1) := by decide +kernel
theorem d_P_printBits_51 : decode prog_5_method_14_code 51 = .ok (.bipush 8, 2) := by decide +kernel
theorem d_P_printBits_53 : decode prog_5_method_14_code 53 = .ok (.idiv, 1) := by decide +kernel
theorem d_P_printBits_54 : decode prog_5_method_14_code 54 = .ok (.istore 5, 2) := by decide +kernel
theorem d_P_printBits_56 : decode prog_5_method_14_code 56 = .ok (.iload 4, 2) := by decide +kernel
theorem d_P_printBits_58 : decode prog_5_method_14_code 58 = .ok (.bipush 8, 2) := by decide +kernel
theorem d_P_printBits_60 : decode prog_5_method_14_code 60 = .ok (.idiv, 1) := by decide +kernel
theorem d_P_printBits_61 : decode prog_5_method_14_code 61 = .ok (.aload_n 0, 1) := by decide +kernel
theorem d_P_printBits_62 : decode prog_5_method_14_code 62 = .ok (.invokevirtual 33, 3) := by decide +kernel
theorem d_P_printBits_65 : decode prog_5_method_14_code 65 = .ok (.imul, 1) := by decide +kernel
theorem d_P_printBits_66 : decode prog_5_method_14_code 66 = .ok (.bipush 8, 2) := by decide +kernel
theorem d_P_printBits_68 : decode prog_5_method_14_code 68 = .ok (.idiv, 1) := by decide +kernel
theorem d_P_printBits_69 : decode prog_5_method_14_code 69 = .ok (.istore 6, 2) := by decide +kernel
theorem d_P_printBits_71 : decode prog_5_method_14_code 71 = .ok (.aload_n 0, 1) := by decide +kernel
theorem d_P_printBits_72 : decode prog_5_method_14_code 72 = .ok (.iload 5, 2) := by decide +kernel
theorem d_P_printBits_74 : decode prog_5_method_14_code 74 = .ok (.iload 6, 2) := by decide +kernel
theorem d_P_printBits_76 : decode prog_5_method_14_code 76 = .ok (.invokevirtual 58, 3) := by decide +kernel
theorem d_P_printBits_79 : decode prog_5_method_14_code 79 = .ok (.aload_n 0, 1) := by decide +kernel
theorem d_P_printBits_80 : decode prog_5_method_14_code 80 = .ok (.getfield 19, 3) := by decide +kernel
theorem d_P_printBits_83 : decode prog_5_method_14_code 83 = .ok (.imul, 1) := by decide +kernel
theorem d_P_printBits_84 : decode prog_5_method_14_code 84 = .ok (.iload_n 1, 1) := by decide +kernel
theorem d_P_printBits_85 : decode prog_5_method_14_code 85 = .ok (.if_icmp .le 10, 3) := by decide +kernel
theorem d_P_printBits_88 : decode prog_5_method_14_code 88 = .ok (.lload_n 2, 1) := by decide +kernel
theorem d_P_printBits_89 : decode prog_5_method_14_code 89 = .ok (.lconst 1, 1) := by decide +kernel
theorem d_P_printBits_90 : decode prog_5_method_14_code 90 = .ok (.iload 4, 2) := by decide +kernel
theorem d_P_printBits_92 : decode prog_5_method_14_code 92 = .ok (.lshl, 1) := by decide +kernel
theorem d_P_printBits_93 : decode prog_5_method_14_code 93 = .ok (.lor, 1) := by decide +kernel
theorem d_P_printBits_94 : decode prog_5_method_14_code 94 = .ok (.lstore_n 2, 1) := by decide +kernel
theorem d_P_printBits_95 : decode prog_5_method_14_code 95 = .ok (.iinc 4 1, 3) := by decide +kernel
theorem d_P_printBits_98 : decode prog_5_method_14_code 98 = .ok (.goto (-64), 3) := by decide +kernel
theorem d_P_printBits_101 : decode prog_5_method_14_code 101 = .ok (.lload_n 2, 1) := by decide +kernel
theorem d_P_printBits_102 : decode prog_5_method_14_code 102 = .ok (.lreturn, 1) := by decide +kernel
def f_P_isSide (xn : Nat) (p1 : Int32) (z0 : x_St) : Option (Int32 × x_St) :=
  (if p1 < (1 : Int32) then
  (some ((0 : Int32), z0))
  else
  (if (8 : Int32) < p1 then
  (some ((0 : Int32), z0))
  else
  (some ((1 : Int32), z0))))
def f_P_begin (xn : Nat) (k0 : Nat) (p1 : Int32) (p2 : Int32) (z0 : x_St) : Option (Unit × x_St) :=
  (x_ck (0 : Int32) (x_ln xn (k0 + 1))
  (x_ck (1 : Int32) (x_ln xn (k0 + 1))
  (some ((), (x_put (x_put (x_put (x_put z0 k0 0 (1 : Int32)) (k0 + 1) ((0 : Int32)).toNatClampNeg p1) (k0 + 1) ((1 : Int32)).toNatClampNeg p2) k0 2 (0 : Int32))))))
def f_P_copyFrom (xn : Nat) (k0 : Nat) (k1 : Nat) (z0 : x_St) : Option (Unit × x_St) :=
  (x_ckc (0 : Int32) (0 : Int32) (66 : Int32) (x_ln xn (k1 + 1)) (x_ln xn (k0 + 1))
  (some ((), (x_put (x_cpy z0 (k1 + 1) ((0 : Int32)).toNatClampNeg (k0 + 1) ((0 : Int32)).toNatClampNeg ((66 : Int32)).toNatClampNeg) k0 2 ((x_cpy z0 (k1 + 1) ((0 : Int32)).toNatClampNeg (k0 + 1) ((0 : Int32)).toNatClampNeg ((66 : Int32)).toNatClampNeg).1 k1 2)))))
def f_P_width (xn : Nat) (k0 : Nat) (z0 : x_St) : Option (Int32 × x_St) :=
  (x_ck (0 : Int32) (x_ln xn (k0 + 1))
  (some ((z0.1 (k0 + 1) ((0 : Int32)).toNatClampNeg), z0)))
def f_P_height (xn : Nat) (k0 : Nat) (z0 : x_St) : Option (Int32 × x_St) :=
  (x_ck (1 : Int32) (x_ln xn (k0 + 1))
  (some ((z0.1 (k0 + 1) ((1 : Int32)).toNatClampNeg), z0)))
def f_P_wanted (xn : Nat) (k0 : Nat) (z0 : x_St) : Option (Int32 × x_St) :=
  (x_cl (f_P_width xn k0 z0) (fun r1 z1 =>
  (x_cl (f_P_height xn k0 z1) (fun r3 z3 =>
  (some ((r1 * r3), z3))))))
def f_P_isWhole (xn : Nat) (k0 : Nat) (z0 : x_St) : Option (Int32 × x_St) :=
  (x_cl (f_P_wanted xn k0 z0) (fun r1 z1 =>
  (if (z0.1 k0 2) = r1 then
  (some ((1 : Int32), z1))
  else
  (some ((0 : Int32), z1)))))
def f_P_length (xn : Nat) (k0 : Nat) (z0 : x_St) : Option (Int32 × x_St) :=
  (some (((2 : Int32) + (z0.1 k0 2)), z0))
def f_P_recordBlocks (xn : Nat) (k0 : Nat) (z0 : x_St) : Option (Int32 × x_St) :=
  (x_cl (f_P_length xn k0 z0) (fun r1 z1 =>
  (some ((((r1 + (56 : Int32)) - (1 : Int32)) / (56 : Int32)), z1))))
def f_P_take_67 (xn : Nat) (a0 : Nat) (z0 : x_St) : Option (Int32 × x_St) :=
  (some ((z0.1 a0 2), z0))
def f_P_take_21 (xn : Nat) : Nat → Nat → Int32 → Int32 → Int32 → Int32 → x_St → Option (Int32 × x_St)
  | 0, _, _, _, _, _, _ => none
  | fu + 1, a0, a3, a4, a5, a6, z0 =>
    (if a4 ≤ a6 then
    (f_P_take_67 xn a0 z0)
    else
    (x_ck ((2 : Int32) + (z0.1 a0 2)) (x_ln xn (a0 + 1))
    (f_P_take_21 xn fu a0 a3 a4 (a5 + a3) (a6 + (1 : Int32)) (x_put (x_put z0 (a0 + 1) (((2 : Int32) + (z0.1 a0 2))).toNatClampNeg (a5 &&& (255 : Int32))) a0 2 (((x_put z0 (a0 + 1) (((2 : Int32) + (z0.1 a0 2))).toNatClampNeg (a5 &&& (255 : Int32))).1 a0 2) + (1 : Int32))))))
def f_P_take (xn : Nat) (k0 : Nat) (p1 : Int32) (p2 : Int32) (p3 : Int32) (z0 : x_St) : Option (Int32 × x_St) :=
  (x_cl (f_P_wanted xn k0 z0) (fun r3 z3 =>
  (f_P_take_21 xn x_FU k0 p3 (if (r3 - (z3.1 k0 2)) < p1 then (r3 - (z3.1 k0 2)) else p1) p2 (0 : Int32) z3)))
def f_P_at (xn : Nat) (k0 : Nat) (p1 : Int32) (p2 : Int32) (z0 : x_St) : Option (Int32 × x_St) :=
  (x_cl (f_P_width xn k0 z0) (fun r1 z1 =>
  (x_ck (((2 : Int32) + (p2 * r1)) + p1) (x_ln xn (k0 + 1))
  (some ((z1.1 (k0 + 1) ((((2 : Int32) + (p2 * r1)) + p1)).toNatClampNeg), z1)))))
def f_P_fillsMessage (xn : Nat) (k0 : Nat) (p1 : Int32) (z0 : x_St) : Option (Int32 × x_St) :=
  (if p1 ≤ (2 : Int32) then
  (some ((0 : Int32), z0))
  else
  (x_cl (f_P_width xn k0 z0) (fun r2 z2 =>
  (x_cl (f_P_isSide xn r2 z2) (fun r4 z4 =>
  (if r4 = 0 then
  (some ((0 : Int32), z4))
  else
  (x_cl (f_P_height xn k0 z4) (fun r7 z7 =>
  (x_cl (f_P_isSide xn r7 z7) (fun r9 z9 =>
  (if r9 = 0 then
  (some ((0 : Int32), z9))
  else
  (x_cl (f_P_isWhole xn k0 (x_put z9 k0 2 (p1 - (2 : Int32)))) (fun r12 z12 =>
  (x_ckb r12
  (some (r12, z12))))))))))))))))
def f_P_printBits_101 (xn : Nat) (a2 : Int64) (z0 : x_St) : Option (Int64 × x_St) :=
  (some (a2, z0))
def f_P_printBits_34 (xn : Nat) : Nat → Nat → Int32 → Int64 → Int32 → x_St → Option (Int64 × x_St)
  | 0, _, _, _, _, _ => none
  | fu + 1, a0, a1, a2, a4, z0 =>
    (if (64 : Int32) ≤ a4 then
    (f_P_printBits_101 xn a2 z0)
    else
    (x_cl (f_P_width xn a0 z0) (fun r2 z2 =>
    (x_cl (f_P_height xn a0 z2) (fun r4 z4 =>
    (x_cl (f_P_at xn a0 (((a4 - a4 / (8 : Int32) * (8 : Int32)) * r2) / (8 : Int32)) (((a4 / (8 : Int32)) * r4) / (8 : Int32)) z4) (fun r6 z6 =>
    (if (r6 * (z6.1 a0 2)) ≤ a1 then
    (f_P_printBits_34 xn fu a0 a1 a2 (a4 + (1 : Int32)) z6)
    else
    (f_P_printBits_34 xn fu a0 a1 (a2 ||| (x_lshl (1 : Int64) a4)) (a4 + (1 : Int32)) z6)))))))))
def f_P_printBits_29 (xn : Nat) (a0 : Nat) (a1 : Int32) (z0 : x_St) : Option (Int64 × x_St) :=
  (f_P_printBits_34 xn x_FU a0 a1 (0 : Int64) (0 : Int32) z0)
def f_P_printBits_4 (xn : Nat) : Nat → Nat → Int32 → Int32 → x_St → Option (Int64 × x_St)
  | 0, _, _, _, _ => none
  | fu + 1, a0, a1, a2, z0 =>
    (if (z0.1 a0 2) ≤ a2 then
    (f_P_printBits_29 xn a0 a1 z0)
    else
    (x_ck ((2 : Int32) + a2) (x_ln xn (a0 + 1))
    (f_P_printBits_4 xn fu a0 (a1 + (z0.1 (a0 + 1) (((2 : Int32) + a2)).toNatClampNeg)) (a2 + (1 : Int32)) z0)))
def f_P_printBits (xn : Nat) (k0 : Nat) (z0 : x_St) : Option (Int64 × x_St) :=
  (f_P_printBits_4 xn x_FU k0 (0 : Int32) (0 : Int32) z0)
abbrev rm_P_isSide : Room := { frames := 0, cells := 0, slots := 0, locals := 0 }
set_option maxHeartbeats 4000000 in
set_option maxRecDepth 100000 in
theorem c_P_isSide (l : Launch) (G : x_G) (p1 : Int32) (z0 : x_St) (r : Int32) (zo : x_St) (hf : f_P_isSide (x_n G) p1 z0 = some (r, zo)) : Met l (⟨"ContentLibrary$Picture", "isSide", "(I)Z"⟩ : MethodName) (x_ws (⟨"ContentLibrary$Picture", "isSide", "(I)Z"⟩ : MethodName) prog_5_method_2_code 1 (some .boolean)) rm_P_isSide (va_Pc [.int p1] (x_PW G z0)) (va_Qi (fun a u => r = a ∧ zo = u) (x_PW G) (x_A G)) 0 0 (x_A G) := by
  refine Met.ofW (cc := prog_5_method_2_code) (maxL := 1) (ret := (some .boolean)) (by decide) rfl ?_
  intro p e s m args below meth c s₁ B hml hv
  obtain ⟨rfl, hz, hP, hD, hK, hG⟩ := hv
  have C0 : x_Ctx G p s m _ meth c prog_5_method_2_code "ContentLibrary$Picture" 1 (some .boolean) := ⟨B.exec, B.bytes, B.returns, hml, findClass_of_methodNamed B.named, fun w h => atoms_spec (ws := (x_ws (⟨"ContentLibrary$Picture", "isSide", "(I)Z"⟩ : MethodName) prog_5_method_2_code 1 (some .boolean))) B.pre w (List.mem_cons_of_mem _ h), B.notSynchronized, hz, hK, hG⟩
  obtain ⟨hx, hb, hr, hml, hown, hts, hlocks, hz, hK, hG⟩ := id C0
  have hS : va_S (x_A G) s.heap s.heap [] := va_S.rf
  have hl := lv_entry ([.int p1]) (n := 1) (Nat.le_of_ble_eq_true rfl)
  rw [lg_entry_eq]
  generalize (lg_sl ([.int p1]) ++ List.replicate (1 - (lg_sl ([.int p1])).length) Slot.unset).toArray = ls at hl ⊢
  have hl : lv_has ls 1 [(0, .int p1)] := hl
  rw [f_P_isSide] at hf
  refine lv_iload_n hx hb d_P_isSide_0 rfl (lv_at hl 0 rfl) ?_
  refine lv_iconst (v := (1 : Int32)) hx hb d_P_isSide_1 (by decide) ?_
  refine lv_icmp_lt (tgt := 15) hx hb d_P_isSide_2 (by decide) (fun hc1 => ?_) (fun hc1 => ?_)
  · have hf := x_br_t hf hc1
    refine lv_iconst (v := (0 : Int32)) hx hb d_P_isSide_15 (by decide) ?_
    obtain ⟨rfl, rfl⟩ := x_ret hf
    exact W.zret (v := (0 : Int32)) hx hb hr rfl (fun t ht hW => ⟨⟨_, _, rfl, ⟨rfl, rfl⟩, x_pw hP hD hK hG hS hz ht hW⟩, hS.F ht⟩) hS.2.2 d_P_isSide_16
  · have hf := x_br_f hf hc1
    refine lv_iload_n hx hb d_P_isSide_5 rfl (lv_at hl 0 rfl) ?_
    refine lv_bipush (v := (8 : Int32)) hx hb d_P_isSide_6 (by decide) ?_
    refine lv_icmp_gt (tgt := 15) hx hb d_P_isSide_8 (by decide) (fun hc2 => ?_) (fun hc2 => ?_)
    · have hf := x_br_t hf hc2
      refine lv_iconst (v := (0 : Int32)) hx hb d_P_isSide_15 (by decide) ?_
      obtain ⟨rfl, rfl⟩ := x_ret hf
      exact W.zret (v := (0 : Int32)) hx hb hr rfl (fun t ht hW => ⟨⟨_, _, rfl, ⟨rfl, rfl⟩, x_pw hP hD hK hG hS hz ht hW⟩, hS.F ht⟩) hS.2.2 d_P_isSide_16
    · have hf := x_br_f hf hc2
      refine lv_iconst (v := (1 : Int32)) hx hb d_P_isSide_11 (by decide) ?_
      refine lv_goto (tgt := 16) hx hb d_P_isSide_12 (by decide) ?_
      obtain ⟨rfl, rfl⟩ := x_ret hf
      exact W.zret (v := (1 : Int32)) hx hb hr rfl (fun t ht hW => ⟨⟨_, _, rfl, ⟨rfl, rfl⟩, x_pw hP hD hK hG hS hz ht hW⟩, hS.F ht⟩) hS.2.2 d_P_isSide_16
abbrev rm_P_begin : Room := { frames := 0, cells := 0, slots := 0, locals := 0 }
set_option maxHeartbeats 4000000 in
set_option maxRecDepth 100000 in
theorem c_P_begin (l : Launch) (G : x_G) (k0 : Nat) (hk0 : x_isP k0 = true) (p1 : Int32) (p2 : Int32) (z0 : x_St) (r : Unit) (zo : x_St) (hf : f_P_begin (x_n G) k0 p1 p2 z0 = some (r, zo)) : Met l (⟨"ContentLibrary$Picture", "begin", "(II)V"⟩ : MethodName) (x_ws (⟨"ContentLibrary$Picture", "begin", "(II)V"⟩ : MethodName) prog_5_method_3_code 3 none) rm_P_begin (va_Pc [.ref (x_ad G k0), .int p1, .int p2] (x_PW G z0)) (va_Qv (fun u => r = () ∧ zo = u) (x_PW G) (x_A G)) 0 0 (x_A G) := by
  refine Met.ofW (cc := prog_5_method_3_code) (maxL := 3) (ret := none) (by decide) rfl ?_
  intro p e s m args below meth c s₁ B hml hv
  obtain ⟨rfl, hz, hP, hD, hK, hG⟩ := hv
  have C0 : x_Ctx G p s m _ meth c prog_5_method_3_code "ContentLibrary$Picture" 3 none := ⟨B.exec, B.bytes, B.returns, hml, findClass_of_methodNamed B.named, fun w h => atoms_spec (ws := (x_ws (⟨"ContentLibrary$Picture", "begin", "(II)V"⟩ : MethodName) prog_5_method_3_code 3 none)) B.pre w (List.mem_cons_of_mem _ h), B.notSynchronized, hz, hK, hG⟩
  obtain ⟨hx, hb, hr, hml, hown, hts, hlocks, hz, hK, hG⟩ := id C0
  have hS : va_S (x_A G) s.heap s.heap [] := va_S.rf
  have hl := lv_entry ([.ref (x_ad G k0), .int p1, .int p2]) (n := 3) (Nat.le_of_ble_eq_true rfl)
  rw [lg_entry_eq]
  generalize (lg_sl ([.ref (x_ad G k0), .int p1, .int p2]) ++ List.replicate (3 - (lg_sl ([.ref (x_ad G k0), .int p1, .int p2])).length) Slot.unset).toArray = ls at hl ⊢
  have hl : lv_has ls 3 [(0, .ref (x_ad G k0)), (1, .int p1), (2, .int p2)] := hl
  rw [f_P_begin] at hf
  refine lv_aload_n hx hb d_P_begin_0 rfl (lv_at hl 0 rfl) ?_
  refine lv_iconst (v := (1 : Int32)) hx hb d_P_begin_1 (by decide) ?_
  refine va_put (D := x_D G) (ci := 2) (v := .int (1 : Int32)) (ty := .boolean) (C := "ContentLibrary$Picture") (T := x_TP) (N := 3) hx hb hts x_inP x_tyP x_tyP_ok x_nmP hown hK hP hD hS k0 (x_lk_P G _ hk0) rfl 0 (by decide) (hts _ t_66) (fun _ h9 => h9) rfl (by decide +kernel) rfl rfl (Nat.le_of_ble_eq_true rfl) d_P_begin_2 (fun H locs hP hD hS => ?_)
  rw [x_st_P0 G _ hk0] at hP hD
  refine lv_aload_n hx hb d_P_begin_5 rfl (lv_at hl 0 rfl) ?_
  refine va_get (D := x_D G) (ci := 2) (v := .ref (x_ad G (k0 + 1))) (C := "ContentLibrary$Picture") (T := x_TP) (N := 3) hx hb hts x_inP hown hK hP k0 (x_lk_P G _ hk0) rfl 1 (by decide) (hts _ t_68) (fun _ h9 => h9) rfl d_P_begin_6 ?_
  refine lv_iconst (v := (0 : Int32)) hx hb d_P_begin_9 (by decide) ?_
  refine lv_iload_n hx hb d_P_begin_10 rfl (lv_at hl 1 rfl) ?_
  obtain ⟨hin1, hf⟩ := x_ck_some hf
  refine va_iast hx hb hK hP hD hS (k0 + 1) 0 (x_lk_A G _ (x_P_A hk0)) rfl hin1 d_P_begin_11 (fun H locs hP hD hS => ?_)
  rw [x_st_A G _ (x_P_A hk0)] at hP hD
  refine lv_aload_n hx hb d_P_begin_12 rfl (lv_at hl 0 rfl) ?_
  refine va_get (D := x_D G) (ci := 2) (v := .ref (x_ad G (k0 + 1))) (C := "ContentLibrary$Picture") (T := x_TP) (N := 3) hx hb hts x_inP hown hK hP k0 (x_lk_P G _ hk0) rfl 1 (by decide) (hts _ t_68) (fun _ h9 => h9) rfl d_P_begin_13 ?_
  refine lv_iconst (v := (1 : Int32)) hx hb d_P_begin_16 (by decide) ?_
  refine lv_iload_n hx hb d_P_begin_17 rfl (lv_at hl 2 rfl) ?_
  obtain ⟨hin2, hf⟩ := x_ck_some hf
  refine va_iast hx hb hK hP hD hS (k0 + 1) 0 (x_lk_A G _ (x_P_A hk0)) rfl hin2 d_P_begin_18 (fun H locs hP hD hS => ?_)
  rw [x_st_A G _ (x_P_A hk0)] at hP hD
  refine lv_aload_n hx hb d_P_begin_19 rfl (lv_at hl 0 rfl) ?_
  refine lv_iconst (v := (0 : Int32)) hx hb d_P_begin_20 (by decide) ?_
  refine va_put (D := x_D G) (ci := 2) (v := .int (0 : Int32)) (ty := .int) (C := "ContentLibrary$Picture") (T := x_TP) (N := 3) hx hb hts x_inP x_tyP x_tyP_ok x_nmP hown hK hP hD hS k0 (x_lk_P G _ hk0) rfl 2 (by decide) (hts _ t_71) (fun _ h9 => h9) rfl (by decide +kernel) rfl rfl (Nat.le_of_ble_eq_true rfl) d_P_begin_21 (fun H locs hP hD hS => ?_)
  rw [x_st_P2 G _ hk0] at hP hD
  obtain ⟨rfl, rfl⟩ := x_ret hf
  exact W.vret hx hb hr (fun t ht hW => ⟨⟨_, rfl, ⟨rfl, rfl⟩, x_pw hP hD hK hG hS hz ht hW⟩, hS.F ht⟩) hS.2.2 d_P_begin_24
abbrev rm_P_copyFrom : Room := { frames := 1, cells := 0, slots := 0, locals := 60 }
set_option maxHeartbeats 4000000 in
set_option maxRecDepth 100000 in
theorem c_P_copyFrom (l : Launch) (G : x_G) (k0 : Nat) (hk0 : x_isP k0 = true) (k1 : Nat) (hk1 : x_isP k1 = true) (z0 : x_St) (r : Unit) (zo : x_St) (hf : f_P_copyFrom (x_n G) k0 k1 z0 = some (r, zo)) : Met l (⟨"ContentLibrary$Picture", "copyFrom", "(LContentLibrary$Picture;)V"⟩ : MethodName) (x_ws (⟨"ContentLibrary$Picture", "copyFrom", "(LContentLibrary$Picture;)V"⟩ : MethodName) prog_5_method_4_code 2 none) rm_P_copyFrom (va_Pc [.ref (x_ad G k0), .ref (x_ad G k1)] (x_PW G z0)) (va_Qv (fun u => r = () ∧ zo = u) (x_PW G) (x_A G)) 0 0 (x_A G) := by
  refine Met.ofW (cc := prog_5_method_4_code) (maxL := 2) (ret := none) (by decide) rfl ?_
  intro p e s m args below meth c s₁ B hml hv
  obtain ⟨rfl, hz, hP, hD, hK, hG⟩ := hv
  have C0 : x_Ctx G p s m _ meth c prog_5_method_4_code "ContentLibrary$Picture" 2 none := ⟨B.exec, B.bytes, B.returns, hml, findClass_of_methodNamed B.named, fun w h => atoms_spec (ws := (x_ws (⟨"ContentLibrary$Picture", "copyFrom", "(LContentLibrary$Picture;)V"⟩ : MethodName) prog_5_method_4_code 2 none)) B.pre w (List.mem_cons_of_mem _ h), B.notSynchronized, hz, hK, hG⟩
  obtain ⟨hx, hb, hr, hml, hown, hts, hlocks, hz, hK, hG⟩ := id C0
  have hS : va_S (x_A G) s.heap s.heap [] := va_S.rf
  have hl := lv_entry ([.ref (x_ad G k0), .ref (x_ad G k1)]) (n := 2) (Nat.le_of_ble_eq_true rfl)
  rw [lg_entry_eq]
  generalize (lg_sl ([.ref (x_ad G k0), .ref (x_ad G k1)]) ++ List.replicate (2 - (lg_sl ([.ref (x_ad G k0), .ref (x_ad G k1)])).length) Slot.unset).toArray = ls at hl ⊢
  have hl : lv_has ls 2 [(0, .ref (x_ad G k0)), (1, .ref (x_ad G k1))] := hl
  rw [f_P_copyFrom] at hf
  refine lv_aload_n hx hb d_P_copyFrom_0 rfl (lv_at hl 1 rfl) ?_
  refine va_get (D := x_D G) (ci := 2) (v := .ref (x_ad G (k1 + 1))) (C := "ContentLibrary$Picture") (T := x_TP) (N := 3) hx hb hts x_inP hown hK hP k1 (x_lk_P G _ hk1) rfl 1 (by decide) (hts _ t_68) (fun _ h9 => h9) rfl d_P_copyFrom_1 ?_
  refine lv_iconst (v := (0 : Int32)) hx hb d_P_copyFrom_4 (by decide) ?_
  refine lv_aload_n hx hb d_P_copyFrom_5 rfl (lv_at hl 0 rfl) ?_
  refine va_get (D := x_D G) (ci := 2) (v := .ref (x_ad G (k0 + 1))) (C := "ContentLibrary$Picture") (T := x_TP) (N := 3) hx hb hts x_inP hown hK hP k0 (x_lk_P G _ hk0) rfl 1 (by decide) (hts _ t_68) (fun _ h9 => h9) rfl d_P_copyFrom_6 ?_
  refine lv_iconst (v := (0 : Int32)) hx hb d_P_copyFrom_9 (by decide) ?_
  refine lv_bipush (v := (66 : Int32)) hx hb d_P_copyFrom_10 (by decide) ?_
  obtain ⟨hc1, hc2, hc3, hc4, hc5, hf⟩ := x_ckc_some hf
  refine va_copyi hx hb (hml.trans hl.1.symm) hown (hts _ t_545) (hts _ t_214) (hts _ t_213) (hts _ t_16) hK hP hD hS (k1 + 1) (k0 + 1) 0 0 (x_lk_A G _ (x_P_A hk1)) (x_lk_A G _ (x_P_A hk0)) rfl rfl rfl hc1 hc2 hc3 hc4 hc5 (fun _ _ => rfl) (Nat.le_of_ble_eq_true rfl) (Nat.le_of_ble_eq_true rfl) d_P_copyFrom_12 (fun H locs hP hD hS => ?_)
  rw [x_cp_A G _ _ _ _ _ (x_P_A hk0)] at hP hD
  refine lv_aload_n hx hb d_P_copyFrom_15 rfl (lv_at hl 0 rfl) ?_
  refine lv_aload_n hx hb d_P_copyFrom_16 rfl (lv_at hl 1 rfl) ?_
  refine va_get (D := x_D G) (ci := 2) (v := .int ((x_cpy z0 (k1 + 1) ((0 : Int32)).toNatClampNeg (k0 + 1) ((0 : Int32)).toNatClampNeg ((66 : Int32)).toNatClampNeg).1 k1 2)) (C := "ContentLibrary$Picture") (T := x_TP) (N := 3) hx hb hts x_inP hown hK hP k1 (x_lk_P G _ hk1) rfl 2 (by decide) (hts _ t_71) (fun _ h9 => h9) rfl d_P_copyFrom_17 ?_
  refine va_put (D := x_D G) (ci := 2) (v := .int ((x_cpy z0 (k1 + 1) ((0 : Int32)).toNatClampNeg (k0 + 1) ((0 : Int32)).toNatClampNeg ((66 : Int32)).toNatClampNeg).1 k1 2)) (ty := .int) (C := "ContentLibrary$Picture") (T := x_TP) (N := 3) hx hb hts x_inP x_tyP x_tyP_ok x_nmP hown hK hP hD hS k0 (x_lk_P G _ hk0) rfl 2 (by decide) (hts _ t_71) (fun _ h9 => h9) rfl (by decide +kernel) rfl rfl (Nat.le_of_ble_eq_true rfl) d_P_copyFrom_20 (fun H locs hP hD hS => ?_)
  rw [x_st_P2 G _ hk0] at hP hD
  obtain ⟨rfl, rfl⟩ := x_ret hf
  exact W.vret hx hb hr (fun t ht hW => ⟨⟨_, rfl, ⟨rfl, rfl⟩, x_pw hP hD hK hG hS hz ht hW⟩, hS.F ht⟩) hS.2.2 d_P_copyFrom_23
abbrev rm_P_width : Room := { frames := 0, cells := 0, slots := 0, locals := 0 }
set_option maxHeartbeats 4000000 in
set_option maxRecDepth 100000 in
theorem c_P_width (l : Launch) (G : x_G) (k0 : Nat) (hk0 : x_isP k0 = true) (z0 : x_St) (r : Int32) (zo : x_St) (hf : f_P_width (x_n G) k0 z0 = some (r, zo)) : Met l (⟨"ContentLibrary$Picture", "width", "()I"⟩ : MethodName) (x_ws (⟨"ContentLibrary$Picture", "width", "()I"⟩ : MethodName) prog_5_method_5_code 1 (some .int)) rm_P_width (va_Pc [.ref (x_ad G k0)] (x_PW G z0)) (va_Qi (fun a u => r = a ∧ zo = u) (x_PW G) (x_A G)) 0 0 (x_A G) := by
  refine Met.ofW (cc := prog_5_method_5_code) (maxL := 1) (ret := (some .int)) (by decide) rfl ?_
  intro p e s m args below meth c s₁ B hml hv
  obtain ⟨rfl, hz, hP, hD, hK, hG⟩ := hv
  have C0 : x_Ctx G p s m _ meth c prog_5_method_5_code "ContentLibrary$Picture" 1 (some .int) := ⟨B.exec, B.bytes, B.returns, hml, findClass_of_methodNamed B.named, fun w h => atoms_spec (ws := (x_ws (⟨"ContentLibrary$Picture", "width", "()I"⟩ : MethodName) prog_5_method_5_code 1 (some .int))) B.pre w (List.mem_cons_of_mem _ h), B.notSynchronized, hz, hK, hG⟩
  obtain ⟨hx, hb, hr, hml, hown, hts, hlocks, hz, hK, hG⟩ := id C0
  have hS : va_S (x_A G) s.heap s.heap [] := va_S.rf
  have hl := lv_entry ([.ref (x_ad G k0)]) (n := 1) (Nat.le_of_ble_eq_true rfl)
  rw [lg_entry_eq]
  generalize (lg_sl ([.ref (x_ad G k0)]) ++ List.replicate (1 - (lg_sl ([.ref (x_ad G k0)])).length) Slot.unset).toArray = ls at hl ⊢
  have hl : lv_has ls 1 [(0, .ref (x_ad G k0))] := hl
  rw [f_P_width] at hf
  refine lv_aload_n hx hb d_P_width_0 rfl (lv_at hl 0 rfl) ?_
  refine va_get (D := x_D G) (ci := 2) (v := .ref (x_ad G (k0 + 1))) (C := "ContentLibrary$Picture") (T := x_TP) (N := 3) hx hb hts x_inP hown hK hP k0 (x_lk_P G _ hk0) rfl 1 (by decide) (hts _ t_68) (fun _ h9 => h9) rfl d_P_width_1 ?_
  refine lv_iconst (v := (0 : Int32)) hx hb d_P_width_4 (by decide) ?_
  obtain ⟨hin1, hf⟩ := x_ck_some hf
  refine va_iald hx hb hK hP (k0 + 1) 0 (x_lk_A G _ (x_P_A hk0)) rfl hin1 d_P_width_5 ?_
  obtain ⟨rfl, rfl⟩ := x_ret hf
  exact W.iret (v := (z0.1 (k0 + 1) ((0 : Int32)).toNatClampNeg)) hx hb hr (fun t ht hW => ⟨⟨_, _, rfl, ⟨rfl, rfl⟩, x_pw hP hD hK hG hS hz ht hW⟩, hS.F ht⟩) hS.2.2 d_P_width_6
abbrev rm_P_height : Room := { frames := 0, cells := 0, slots := 0, locals := 0 }
set_option maxHeartbeats 4000000 in
set_option maxRecDepth 100000 in
theorem c_P_height (l : Launch) (G : x_G) (k0 : Nat) (hk0 : x_isP k0 = true) (z0 : x_St) (r : Int32) (zo : x_St) (hf : f_P_height (x_n G) k0 z0 = some (r, zo)) : Met l (⟨"ContentLibrary$Picture", "height", "()I"⟩ : MethodName) (x_ws (⟨"ContentLibrary$Picture", "height", "()I"⟩ : MethodName) prog_5_method_6_code 1 (some .int)) rm_P_height (va_Pc [.ref (x_ad G k0)] (x_PW G z0)) (va_Qi (fun a u => r = a ∧ zo = u) (x_PW G) (x_A G)) 0 0 (x_A G) := by
  refine Met.ofW (cc := prog_5_method_6_code) (maxL := 1) (ret := (some .int)) (by decide) rfl ?_
  intro p e s m args below meth c s₁ B hml hv
  obtain ⟨rfl, hz, hP, hD, hK, hG⟩ := hv
  have C0 : x_Ctx G p s m _ meth c prog_5_method_6_code "ContentLibrary$Picture" 1 (some .int) := ⟨B.exec, B.bytes, B.returns, hml, findClass_of_methodNamed B.named, fun w h => atoms_spec (ws := (x_ws (⟨"ContentLibrary$Picture", "height", "()I"⟩ : MethodName) prog_5_method_6_code 1 (some .int))) B.pre w (List.mem_cons_of_mem _ h), B.notSynchronized, hz, hK, hG⟩
  obtain ⟨hx, hb, hr, hml, hown, hts, hlocks, hz, hK, hG⟩ := id C0
  have hS : va_S (x_A G) s.heap s.heap [] := va_S.rf
  have hl := lv_entry ([.ref (x_ad G k0)]) (n := 1) (Nat.le_of_ble_eq_true rfl)
  rw [lg_entry_eq]
  generalize (lg_sl ([.ref (x_ad G k0)]) ++ List.replicate (1 - (lg_sl ([.ref (x_ad G k0)])).length) Slot.unset).toArray = ls at hl ⊢
  have hl : lv_has ls 1 [(0, .ref (x_ad G k0))] := hl
  rw [f_P_height] at hf
  refine lv_aload_n hx hb d_P_height_0 rfl (lv_at hl 0 rfl) ?_
  refine va_get (D := x_D G) (ci := 2) (v := .ref (x_ad G (k0 + 1))) (C := "ContentLibrary$Picture") (T := x_TP) (N := 3) hx hb hts x_inP hown hK hP k0 (x_lk_P G _ hk0) rfl 1 (by decide) (hts _ t_68) (fun _ h9 => h9) rfl d_P_height_1 ?_
  refine lv_iconst (v := (1 : Int32)) hx hb d_P_height_4 (by decide) ?_
  obtain ⟨hin1, hf⟩ := x_ck_some hf
  refine va_iald hx hb hK hP (k0 + 1) 0 (x_lk_A G _ (x_P_A hk0)) rfl hin1 d_P_height_5 ?_
  obtain ⟨rfl, rfl⟩ := x_ret hf
  exact W.iret (v := (z0.1 (k0 + 1) ((1 : Int32)).toNatClampNeg)) hx hb hr (fun t ht hW => ⟨⟨_, _, rfl, ⟨rfl, rfl⟩, x_pw hP hD hK hG hS hz ht hW⟩, hS.F ht⟩) hS.2.2 d_P_height_6
abbrev rm_P_wanted : Room := { frames := 1, cells := 0, slots := 0, locals := 20 }
set_option maxHeartbeats 4000000 in
set_option maxRecDepth 100000 in
theorem c_P_wanted (l : Launch) (G : x_G) (k0 : Nat) (hk0 : x_isP k0 = true) (z0 : x_St) (r : Int32) (zo : x_St) (hf : f_P_wanted (x_n G) k0 z0 = some (r, zo)) : Met l (⟨"ContentLibrary$Picture", "wanted", "()I"⟩ : MethodName) (x_ws (⟨"ContentLibrary$Picture", "wanted", "()I"⟩ : MethodName) prog_5_method_7_code 1 (some .int)) rm_P_wanted (va_Pc [.ref (x_ad G k0)] (x_PW G z0)) (va_Qi (fun a u => r = a ∧ zo = u) (x_PW G) (x_A G)) 0 0 (x_A G) := by
  refine Met.ofW (cc := prog_5_method_7_code) (maxL := 1) (ret := (some .int)) (by decide) rfl ?_
  intro p e s m args below meth c s₁ B hml hv
  obtain ⟨rfl, hz, hP, hD, hK, hG⟩ := hv
  have C0 : x_Ctx G p s m _ meth c prog_5_method_7_code "ContentLibrary$Picture" 1 (some .int) := ⟨B.exec, B.bytes, B.returns, hml, findClass_of_methodNamed B.named, fun w h => atoms_spec (ws := (x_ws (⟨"ContentLibrary$Picture", "wanted", "()I"⟩ : MethodName) prog_5_method_7_code 1 (some .int))) B.pre w (List.mem_cons_of_mem _ h), B.notSynchronized, hz, hK, hG⟩
  obtain ⟨hx, hb, hr, hml, hown, hts, hlocks, hz, hK, hG⟩ := id C0
  have hS : va_S (x_A G) s.heap s.heap [] := va_S.rf
  have hl := lv_entry ([.ref (x_ad G k0)]) (n := 1) (Nat.le_of_ble_eq_true rfl)
  rw [lg_entry_eq]
  generalize (lg_sl ([.ref (x_ad G k0)]) ++ List.replicate (1 - (lg_sl ([.ref (x_ad G k0)])).length) Slot.unset).toArray = ls at hl ⊢
  have hl : lv_has ls 1 [(0, .ref (x_ad G k0))] := hl
  rw [f_P_wanted] at hf
  refine lv_aload_n hx hb d_P_wanted_0 rfl (lv_at hl 0 rfl) ?_
  obtain ⟨r1, z1, hq2, hf⟩ := x_cl_some hf
  refine va_calli (va_runV (As := []) (rest := []) ⟨hx, hb, hml, hown, hts⟩ (c_P_width l G k0 hk0 z0 r1 z1 hq2) (cwV 0 hts (x_gV t_219 t_220 t_221 t_4 t_222) rfl rfl rfl (by decide +kernel) ⟨Nat.le_of_ble_eq_true rfl, Nat.le_of_ble_eq_true rfl⟩) ⟨x_blind _ _ _, va_recv hK hP (ci := 2) (q0 := k0) rfl (x_lk_P G _ hk0), fun U hU hW => ⟨rfl, x_pw hP hD hK hG hS hz hU hW⟩⟩ rfl rfl hl.1 rfl (lv_room (Nat.le_of_ble_eq_true rfl)) d_P_wanted_1 ⟨Nat.le_of_ble_eq_true rfl, Nat.le_of_ble_eq_true rfl⟩) hS (fun q _ h => h) (fun q h => h) (fun ra u t H locs ht hvm hw hB _ _ hS => ?_)
  obtain ⟨rfl, rfl⟩ := hw
  obtain ⟨hP, hD⟩ := x_back hB ht
  refine lv_aload_n hx hb d_P_wanted_4 rfl (lv_at hl 0 rfl) ?_
  obtain ⟨r3, z3, hq4, hf⟩ := x_cl_some hf
  refine va_calli (va_runV (As := []) (rest := [.int r1]) ⟨hx, hb, hml, hown, hts⟩ (c_P_height l G k0 hk0 z1 r3 z3 hq4) (cwV 0 hts (x_gV t_226 t_227 t_228 t_4 t_229) rfl rfl rfl (by decide +kernel) ⟨Nat.le_of_ble_eq_true rfl, Nat.le_of_ble_eq_true rfl⟩) ⟨x_blind _ _ _, va_recv hK hP (ci := 2) (q0 := k0) rfl (x_lk_P G _ hk0), fun U hU hW => ⟨rfl, x_pw hP hD hK hG hS hz hU hW⟩⟩ rfl rfl hl.1 rfl (lv_room (Nat.le_of_ble_eq_true rfl)) d_P_wanted_5 ⟨Nat.le_of_ble_eq_true rfl, Nat.le_of_ble_eq_true rfl⟩) hS (fun q _ h => h) (fun q h => h) (fun ra u t H locs ht hvm hw hB _ _ hS => ?_)
  obtain ⟨rfl, rfl⟩ := hw
  obtain ⟨hP, hD⟩ := x_back hB ht
  refine lv_imul hx hb d_P_wanted_8 ?_
  obtain ⟨rfl, rfl⟩ := x_ret hf
  exact W.iret (v := (r1 * r3)) hx hb hr (fun t ht hW => ⟨⟨_, _, rfl, ⟨rfl, rfl⟩, x_pw hP hD hK hG hS hz ht hW⟩, hS.F ht⟩) hS.2.2 d_P_wanted_9
abbrev rm_P_isWhole : Room := { frames := 2, cells := 0, slots := 0, locals := 40 }
set_option maxHeartbeats 4000000 in
set_option maxRecDepth 100000 in
theorem c_P_isWhole (l : Launch) (G : x_G) (k0 : Nat) (hk0 : x_isP k0 = true) (z0 : x_St) (r : Int32) (zo : x_St) (hf : f_P_isWhole (x_n G) k0 z0 = some (r, zo)) : Met l (⟨"ContentLibrary$Picture", "isWhole", "()Z"⟩ : MethodName) (x_ws (⟨"ContentLibrary$Picture", "isWhole", "()Z"⟩ : MethodName) prog_5_method_8_code 1 (some .boolean)) rm_P_isWhole (va_Pc [.ref (x_ad G k0)] (x_PW G z0)) (va_Qi (fun a u => r = a ∧ zo = u) (x_PW G) (x_A G)) 0 0 (x_A G) := by
  refine Met.ofW (cc := prog_5_method_8_code) (maxL := 1) (ret := (some .boolean)) (by decide) rfl ?_
  intro p e s m args below meth c s₁ B hml hv
  obtain ⟨rfl, hz, hP, hD, hK, hG⟩ := hv
  have C0 : x_Ctx G p s m _ meth c prog_5_method_8_code "ContentLibrary$Picture" 1 (some .boolean) := ⟨B.exec, B.bytes, B.returns, hml, findClass_of_methodNamed B.named, fun w h => atoms_spec (ws := (x_ws (⟨"ContentLibrary$Picture", "isWhole", "()Z"⟩ : MethodName) prog_5_method_8_code 1 (some .boolean))) B.pre w (List.mem_cons_of_mem _ h), B.notSynchronized, hz, hK, hG⟩
  obtain ⟨hx, hb, hr, hml, hown, hts, hlocks, hz, hK, hG⟩ := id C0
  have hS : va_S (x_A G) s.heap s.heap [] := va_S.rf
  have hl := lv_entry ([.ref (x_ad G k0)]) (n := 1) (Nat.le_of_ble_eq_true rfl)
  rw [lg_entry_eq]
  generalize (lg_sl ([.ref (x_ad G k0)]) ++ List.replicate (1 - (lg_sl ([.ref (x_ad G k0)])).length) Slot.unset).toArray = ls at hl ⊢
  have hl : lv_has ls 1 [(0, .ref (x_ad G k0))] := hl
  rw [f_P_isWhole] at hf
  refine lv_aload_n hx hb d_P_isWhole_0 rfl (lv_at hl 0 rfl) ?_
  refine va_get (D := x_D G) (ci := 2) (v := .int (z0.1 k0 2)) (C := "ContentLibrary$Picture") (T := x_TP) (N := 3) hx hb hts x_inP hown hK hP k0 (x_lk_P G _ hk0) rfl 2 (by decide) (hts _ t_71) (fun _ h9 => h9) rfl d_P_isWhole_1 ?_
  refine lv_aload_n hx hb d_P_isWhole_4 rfl (lv_at hl 0 rfl) ?_
  obtain ⟨r1, z1, hq2, hf⟩ := x_cl_some hf
  refine va_calli (va_runV (As := []) (rest := [.int (z0.1 k0 2)]) ⟨hx, hb, hml, hown, hts⟩ (c_P_wanted l G k0 hk0 z0 r1 z1 hq2) (cwV 0 hts (x_gV t_234 t_235 t_236 t_4 t_237) rfl rfl rfl (by decide +kernel) ⟨Nat.le_of_ble_eq_true rfl, Nat.le_of_ble_eq_true rfl⟩) ⟨x_blind _ _ _, va_recv hK hP (ci := 2) (q0 := k0) rfl (x_lk_P G _ hk0), fun U hU hW => ⟨rfl, x_pw hP hD hK hG hS hz hU hW⟩⟩ rfl rfl hl.1 rfl (lv_room (Nat.le_of_ble_eq_true rfl)) d_P_isWhole_5 ⟨Nat.le_of_ble_eq_true rfl, Nat.le_of_ble_eq_true rfl⟩) hS (fun q _ h => h) (fun q h => h) (fun ra u t H locs ht hvm hw hB _ _ hS => ?_)
  obtain ⟨rfl, rfl⟩ := hw
  obtain ⟨hP, hD⟩ := x_back hB ht
  refine lv_icmp_ne (tgt := 15) hx hb d_P_isWhole_8 (by decide) (fun hc3 => ?_) (fun hc3 => ?_)
  · have hf := x_br_f hf hc3
    refine lv_iconst (v := (0 : Int32)) hx hb d_P_isWhole_15 (by decide) ?_
    obtain ⟨rfl, rfl⟩ := x_ret hf
    exact W.zret (v := (0 : Int32)) hx hb hr rfl (fun t ht hW => ⟨⟨_, _, rfl, ⟨rfl, rfl⟩, x_pw hP hD hK hG hS hz ht hW⟩, hS.F ht⟩) hS.2.2 d_P_isWhole_16
  · have hf := x_br_t hf hc3
    refine lv_iconst (v := (1 : Int32)) hx hb d_P_isWhole_11 (by decide) ?_
    refine lv_goto (tgt := 16) hx hb d_P_isWhole_12 (by decide) ?_
    obtain ⟨rfl, rfl⟩ := x_ret hf
    exact W.zret (v := (1 : Int32)) hx hb hr rfl (fun t ht hW => ⟨⟨_, _, rfl, ⟨rfl, rfl⟩, x_pw hP hD hK hG hS hz ht hW⟩, hS.F ht⟩) hS.2.2 d_P_isWhole_16
abbrev rm_P_length : Room := { frames := 0, cells := 0, slots := 0, locals := 0 }
set_option maxHeartbeats 4000000 in
set_option maxRecDepth 100000 in
theorem c_P_length (l : Launch) (G : x_G) (k0 : Nat) (hk0 : x_isP k0 = true) (z0 : x_St) (r : Int32) (zo : x_St) (hf : f_P_length (x_n G) k0 z0 = some (r, zo)) : Met l (⟨"ContentLibrary$Picture", "length", "()I"⟩ : MethodName) (x_ws (⟨"ContentLibrary$Picture", "length", "()I"⟩ : MethodName) prog_5_method_9_code 1 (some .int)) rm_P_length (va_Pc [.ref (x_ad G k0)] (x_PW G z0)) (va_Qi (fun a u => r = a ∧ zo = u) (x_PW G) (x_A G)) 0 0 (x_A G) := by
  refine Met.ofW (cc := prog_5_method_9_code) (maxL := 1) (ret := (some .int)) (by decide) rfl ?_
  intro p e s m args below meth c s₁ B hml hv
  obtain ⟨rfl, hz, hP, hD, hK, hG⟩ := hv
  have C0 : x_Ctx G p s m _ meth c prog_5_method_9_code "ContentLibrary$Picture" 1 (some .int) := ⟨B.exec, B.bytes, B.returns, hml, findClass_of_methodNamed B.named, fun w h => atoms_spec (ws := (x_ws (⟨"ContentLibrary$Picture", "length", "()I"⟩ : MethodName) prog_5_method_9_code 1 (some .int))) B.pre w (List.mem_cons_of_mem _ h), B.notSynchronized, hz, hK, hG⟩
  obtain ⟨hx, hb, hr, hml, hown, hts, hlocks, hz, hK, hG⟩ := id C0
  have hS : va_S (x_A G) s.heap s.heap [] := va_S.rf
  have hl := lv_entry ([.ref (x_ad G k0)]) (n := 1) (Nat.le_of_ble_eq_true rfl)
  rw [lg_entry_eq]
  generalize (lg_sl ([.ref (x_ad G k0)]) ++ List.replicate (1 - (lg_sl ([.ref (x_ad G k0)])).length) Slot.unset).toArray = ls at hl ⊢
  have hl : lv_has ls 1 [(0, .ref (x_ad G k0))] := hl
  rw [f_P_length] at hf
  refine lv_iconst (v := (2 : Int32)) hx hb d_P_length_0 (by decide) ?_
  refine lv_aload_n hx hb d_P_length_1 rfl (lv_at hl 0 rfl) ?_
  refine va_get (D := x_D G) (ci := 2) (v := .int (z0.1 k0 2)) (C := "ContentLibrary$Picture") (T := x_TP) (N := 3) hx hb hts x_inP hown hK hP k0 (x_lk_P G _ hk0) rfl 2 (by decide) (hts _ t_71) (fun _ h9 => h9) rfl d_P_length_2 ?_
  refine lv_iadd hx hb d_P_length_5 ?_
  obtain ⟨rfl, rfl⟩ := x_ret hf
  exact W.iret (v := ((2 : Int32) + (z0.1 k0 2))) hx hb hr (fun t ht hW => ⟨⟨_, _, rfl, ⟨rfl, rfl⟩, x_pw hP hD hK hG hS hz ht hW⟩, hS.F ht⟩) hS.2.2 d_P_length_6
abbrev rm_P_recordBlocks : Room := { frames := 1, cells := 0, slots := 0, locals := 20 }
set_option maxHeartbeats 4000000 in
set_option maxRecDepth 100000 in
theorem c_P_recordBlocks (l : Launch) (G : x_G) (k0 : Nat) (hk0 : x_isP k0 = true) (z0 : x_St) (r : Int32) (zo : x_St) (hf : f_P_recordBlocks (x_n G) k0 z0 = some (r, zo)) : Met l (⟨"ContentLibrary$Picture", "recordBlocks", "()I"⟩ : MethodName) (x_ws (⟨"ContentLibrary$Picture", "recordBlocks", "()I"⟩ : MethodName) prog_5_method_10_code 1 (some .int)) rm_P_recordBlocks (va_Pc [.ref (x_ad G k0)] (x_PW G z0)) (va_Qi (fun a u => r = a ∧ zo = u) (x_PW G) (x_A G)) 0 0 (x_A G) := by
  refine Met.ofW (cc := prog_5_method_10_code) (maxL := 1) (ret := (some .int)) (by decide) rfl ?_
  intro p e s m args below meth c s₁ B hml hv
  obtain ⟨rfl, hz, hP, hD, hK, hG⟩ := hv
  have C0 : x_Ctx G p s m _ meth c prog_5_method_10_code "ContentLibrary$Picture" 1 (some .int) := ⟨B.exec, B.bytes, B.returns, hml, findClass_of_methodNamed B.named, fun w h => atoms_spec (ws := (x_ws (⟨"ContentLibrary$Picture", "recordBlocks", "()I"⟩ : MethodName) prog_5_method_10_code 1 (some .int))) B.pre w (List.mem_cons_of_mem _ h), B.notSynchronized, hz, hK, hG⟩
  obtain ⟨hx, hb, hr, hml, hown, hts, hlocks, hz, hK, hG⟩ := id C0
  have hS : va_S (x_A G) s.heap s.heap [] := va_S.rf
  have hl := lv_entry ([.ref (x_ad G k0)]) (n := 1) (Nat.le_of_ble_eq_true rfl)
  rw [lg_entry_eq]
  generalize (lg_sl ([.ref (x_ad G k0)]) ++ List.replicate (1 - (lg_sl ([.ref (x_ad G k0)])).length) Slot.unset).toArray = ls at hl ⊢
  have hl : lv_has ls 1 [(0, .ref (x_ad G k0))] := hl
  rw [f_P_recordBlocks] at hf
  refine lv_aload_n hx hb d_P_recordBlocks_0 rfl (lv_at hl 0 rfl) ?_
  obtain ⟨r1, z1, hq2, hf⟩ := x_cl_some hf
  refine va_calli (va_runV (As := []) (rest := []) ⟨hx, hb, hml, hown, hts⟩ (c_P_length l G k0 hk0 z0 r1 z1 hq2) (cwV 0 hts (x_gV t_499 t_239 t_240 t_4 t_241) rfl rfl rfl (by decide +kernel) ⟨Nat.le_of_ble_eq_true rfl, Nat.le_of_ble_eq_true rfl⟩) ⟨x_blind _ _ _, va_recv hK hP (ci := 2) (q0 := k0) rfl (x_lk_P G _ hk0), fun U hU hW => ⟨rfl, x_pw hP hD hK hG hS hz hU hW⟩⟩ rfl rfl hl.1 rfl (lv_room (Nat.le_of_ble_eq_true rfl)) d_P_recordBlocks_1 ⟨Nat.le_of_ble_eq_true rfl, Nat.le_of_ble_eq_true rfl⟩) hS (fun q _ h => h) (fun q h => h) (fun ra u t H locs ht hvm hw hB _ _ hS => ?_)
  obtain ⟨rfl, rfl⟩ := hw
  obtain ⟨hP, hD⟩ := x_back hB ht
  refine lv_bipush (v := (56 : Int32)) hx hb d_P_recordBlocks_4 (by decide) ?_
  refine lv_iadd hx hb d_P_recordBlocks_6 ?_
  refine lv_iconst (v := (1 : Int32)) hx hb d_P_recordBlocks_7 (by decide) ?_
  refine lv_isub hx hb d_P_recordBlocks_8 ?_
  refine lv_bipush (v := (56 : Int32)) hx hb d_P_recordBlocks_9 (by decide) ?_
  refine lv_idiv hx hb d_P_recordBlocks_11 (by decide) ?_
  obtain ⟨rfl, rfl⟩ := x_ret hf
  exact W.iret (v := (((r1 + (56 : Int32)) - (1 : Int32)) / (56 : Int32))) hx hb hr (fun t ht hW => ⟨⟨_, _, rfl, ⟨rfl, rfl⟩, x_pw hP hD hK hG hS hz ht hW⟩, hS.F ht⟩) hS.2.2 d_P_recordBlocks_12
abbrev rm_P_take : Room := { frames := 2, cells := 0, slots := 0, locals := 40 }
set_option maxHeartbeats 4000000 in
set_option maxRecDepth 100000 in
theorem w_P_take_67 (l : Launch) (G : x_G) {p : Program} {e : Env} {s : State} {m : MethodId} {args : Array Value} {below : List Frame} {meth : Method} {c : Code} (C0 : x_Ctx G p s m args meth c prog_5_method_11_code "ContentLibrary$Picture" 7 (some .int)) (r : Int32) (zo : x_St) : ∀ (a0 : Nat) (ha0 : x_isP a0 = true) (z0 : x_St), f_P_take_67 (x_n G) a0 z0 = some (r, zo) → ∀ (H : Heap) (locs : List Loc) (ls : Array Slot), va_P (x_D G) vwCl (x_Wd G z0) H → va_D (x_A G) (x_Wd G z0) → va_S (x_A G) s.heap H locs → lv_has ls 7 [(0, .ref (x_ad G a0))] → W p l e rm_P_take s m args below meth c H locs 0 0 (MQ below (va_Qi (fun a u => r = a ∧ zo = u) (x_PW G) (x_A G)) args s 0 0 (x_A G)) (F0 m 67 ls []) := by
  obtain ⟨hx, hb, hr, hml, hown, hts, hlocks, hz, hK, hG⟩ := id C0
  intro a0 ha0 z0 hf H locs ls hP hD hS hl
  rw [f_P_take_67] at hf
  refine lv_aload_n hx hb d_P_take_67 rfl (lv_at hl 0 rfl) ?_
  refine va_get (D := x_D G) (ci := 2) (v := .int (z0.1 a0 2)) (C := "ContentLibrary$Picture") (T := x_TP) (N := 3) hx hb hts x_inP hown hK hP a0 (x_lk_P G _ ha0) rfl 2 (by decide) (hts _ t_71) (fun _ h9 => h9) rfl d_P_take_68 ?_
  obtain ⟨rfl, rfl⟩ := x_ret hf
  exact W.iret (v := (z0.1 a0 2)) hx hb hr (fun t ht hW => ⟨⟨_, _, rfl, ⟨rfl, rfl⟩, x_pw hP hD hK hG hS hz ht hW⟩, hS.F ht⟩) hS.2.2 d_P_take_71
set_option maxHeartbeats 4000000 in
set_option maxRecDepth 100000 in
theorem w_P_take_21 (l : Launch) (G : x_G) {p : Program} {e : Env} {s : State} {m : MethodId} {args : Array Value} {below : List Frame} {meth : Method} {c : Code} (C0 : x_Ctx G p s m args meth c prog_5_method_11_code "ContentLibrary$Picture" 7 (some .int)) (r : Int32) (zo : x_St) : ∀ (fu : Nat), ∀ (a0 : Nat) (ha0 : x_isP a0 = true) (a3 : Int32) (a4 : Int32) (a5 : Int32) (a6 : Int32) (z0 : x_St), f_P_take_21 (x_n G) fu a0 a3 a4 a5 a6 z0 = some (r, zo) → ∀ (H : Heap) (locs : List Loc) (ls : Array Slot), va_P (x_D G) vwCl (x_Wd G z0) H → va_D (x_A G) (x_Wd G z0) → va_S (x_A G) s.heap H locs → lv_has ls 7 [(0, .ref (x_ad G a0)), (3, .int a3), (4, .int a4), (5, .int a5), (6, .int a6)] → W p l e rm_P_take s m args below meth c H locs 0 0 (MQ below (va_Qi (fun a u => r = a ∧ zo = u) (x_PW G) (x_A G)) args s 0 0 (x_A G)) (F0 m 21 ls []) := by
  obtain ⟨hx, hb, hr, hml, hown, hts, hlocks, hz, hK, hG⟩ := id C0
  intro fu
  induction fu with
  | zero =>
    intro a0 ha0 a3 a4 a5 a6 z0 hf
    rw [f_P_take_21] at hf
    cases hf
  | succ fu ih =>
    intro a0 ha0 a3 a4 a5 a6 z0 hf H locs ls hP hD hS hl
    rw [f_P_take_21] at hf
    refine lv_iload hx hb d_P_take_21 (lv_at hl 4 rfl) ?_
    refine lv_iload hx hb d_P_take_23 (lv_at hl 2 rfl) ?_
    refine lv_icmp_ge (tgt := 67) hx hb d_P_take_25 (by decide) (fun hc1 => ?_) (fun hc1 => ?_)
    · have hf := x_br_t hf hc1
      exact w_P_take_67 l G C0 r zo a0 ha0 z0 hf _ _ _ hP hD hS (lv_sub hl [0] rfl)
    · have hf := x_br_f hf hc1
      refine lv_aload_n hx hb d_P_take_28 rfl (lv_at hl 0 rfl) ?_
      refine va_get (D := x_D G) (ci := 2) (v := .ref (x_ad G (a0 + 1))) (C := "ContentLibrary$Picture") (T := x_TP) (N := 3) hx hb hts x_inP hown hK hP a0 (x_lk_P G _ ha0) rfl 1 (by decide) (hts _ t_68) (fun _ h9 => h9) rfl d_P_take_29 ?_
      refine lv_iconst (v := (2 : Int32)) hx hb d_P_take_32 (by decide) ?_
      refine lv_aload_n hx hb d_P_take_33 rfl (lv_at hl 0 rfl) ?_
      refine va_get (D := x_D G) (ci := 2) (v := .int (z0.1 a0 2)) (C := "ContentLibrary$Picture") (T := x_TP) (N := 3) hx hb hts x_inP hown hK hP a0 (x_lk_P G _ ha0) rfl 2 (by decide) (hts _ t_71) (fun _ h9 => h9) rfl d_P_take_34 ?_
      refine lv_iadd hx hb d_P_take_37 ?_
      refine lv_iload hx hb d_P_take_38 (lv_at hl 3 rfl) ?_
      refine lv_sipush (v := (255 : Int32)) hx hb d_P_take_40 (by decide) ?_
      refine lv_iand hx hb d_P_take_43 ?_
      obtain ⟨hin2, hf⟩ := x_ck_some hf
      refine va_iast hx hb hK hP hD hS (a0 + 1) 0 (x_lk_A G _ (x_P_A ha0)) rfl hin2 d_P_take_44 (fun H locs hP hD hS => ?_)
      rw [x_st_A G _ (x_P_A ha0)] at hP hD
      refine lv_aload_n hx hb d_P_take_45 rfl (lv_at hl 0 rfl) ?_
      refine lv_dup hx hb d_P_take_46 rfl ?_
      refine va_get (D := x_D G) (ci := 2) (v := .int ((x_put z0 (a0 + 1) (((2 : Int32) + (z0.1 a0 2))).toNatClampNeg (a5 &&& (255 : Int32))).1 a0 2)) (C := "ContentLibrary$Picture") (T := x_TP) (N := 3) hx hb hts x_inP hown hK hP a0 (x_lk_P G _ ha0) rfl 2 (by decide) (hts _ t_71) (fun _ h9 => h9) rfl d_P_take_47 ?_
      refine lv_iconst (v := (1 : Int32)) hx hb d_P_take_50 (by decide) ?_
      refine lv_iadd hx hb d_P_take_51 ?_
      refine va_put (D := x_D G) (ci := 2) (v := .int (((x_put z0 (a0 + 1) (((2 : Int32) + (z0.1 a0 2))).toNatClampNeg (a5 &&& (255 : Int32))).1 a0 2) + (1 : Int32))) (ty := .int) (C := "ContentLibrary$Picture") (T := x_TP) (N := 3) hx hb hts x_inP x_tyP x_tyP_ok x_nmP hown hK hP hD hS a0 (x_lk_P G _ ha0) rfl 2 (by decide) (hts _ t_71) (fun _ h9 => h9) rfl (by decide +kernel) rfl rfl (Nat.le_of_ble_eq_true rfl) d_P_take_52 (fun H locs hP hD hS => ?_)
      rw [x_st_P2 G _ ha0] at hP hD
      refine lv_iload hx hb d_P_take_55 (lv_at hl 3 rfl) ?_
      refine lv_iload_n hx hb d_P_take_57 rfl (lv_at hl 1 rfl) ?_
      refine lv_iadd hx hb d_P_take_58 ?_
      refine lv_istore (lv' := [(5, .int (a5 + a3)), (0, .ref (x_ad G a0)), (3, .int a3), (4, .int a4), (6, .int a6)]) hx hb d_P_take_59 hl (by decide) rfl (fun ls hl => ?_)
      refine lv_iinc (v := (a6 + (1 : Int32))) (lv' := [(6, .int (a6 + (1 : Int32))), (5, .int (a5 + a3)), (0, .ref (x_ad G a0)), (3, .int a3), (4, .int a4)]) hx hb d_P_take_61 hl (k := 4) rfl rfl (by decide) rfl (fun ls hl => ?_)
      refine lv_goto (tgt := 21) hx hb d_P_take_64 (by decide) ?_
      exact ih a0 ha0 a3 a4 (a5 + a3) (a6 + (1 : Int32)) (x_put (x_put z0 (a0 + 1) (((2 : Int32) + (z0.1 a0 2))).toNatClampNeg (a5 &&& (255 : Int32))) a0 2 (((x_put z0 (a0 + 1) (((2 : Int32) + (z0.1 a0 2))).toNatClampNeg (a5 &&& (255 : Int32))).1 a0 2) + (1 : Int32))) hf _ _ _ hP hD hS (lv_sub hl [2, 3, 4, 1, 0] rfl)
set_option maxHeartbeats 4000000 in
set_option maxRecDepth 100000 in
theorem c_P_take (l : Launch) (G : x_G) (k0 : Nat) (hk0 : x_isP k0 = true) (p1 : Int32) (p2 : Int32) (p3 : Int32) (z0 : x_St) (r : Int32) (zo : x_St) (hf : f_P_take (x_n G) k0 p1 p2 p3 z0 = some (r, zo)) : Met l (⟨"ContentLibrary$Picture", "take", "(III)I"⟩ : MethodName) (x_ws (⟨"ContentLibrary$Picture", "take", "(III)I"⟩ : MethodName) prog_5_method_11_code 7 (some .int)) rm_P_take (va_Pc [.ref (x_ad G k0), .int p1, .int p2, .int p3] (x_PW G z0)) (va_Qi (fun a u => r = a ∧ zo = u) (x_PW G) (x_A G)) 0 0 (x_A G) := by
  refine Met.ofW (cc := prog_5_method_11_code) (maxL := 7) (ret := (some .int)) (by decide) rfl ?_
  intro p e s m args below meth c s₁ B hml hv
  obtain ⟨rfl, hz, hP, hD, hK, hG⟩ := hv
  have C0 : x_Ctx G p s m _ meth c prog_5_method_11_code "ContentLibrary$Picture" 7 (some .int) := ⟨B.exec, B.bytes, B.returns, hml, findClass_of_methodNamed B.named, fun w h => atoms_spec (ws := (x_ws (⟨"ContentLibrary$Picture", "take", "(III)I"⟩ : MethodName) prog_5_method_11_code 7 (some .int))) B.pre w (List.mem_cons_of_mem _ h), B.notSynchronized, hz, hK, hG⟩
  obtain ⟨hx, hb, hr, hml, hown, hts, hlocks, hz, hK, hG⟩ := id C0
  have hS : va_S (x_A G) s.heap s.heap [] := va_S.rf
  have hl := lv_entry ([.ref (x_ad G k0), .int p1, .int p2, .int p3]) (n := 7) (Nat.le_of_ble_eq_true rfl)
  rw [lg_entry_eq]
  generalize (lg_sl ([.ref (x_ad G k0), .int p1, .int p2, .int p3]) ++ List.replicate (7 - (lg_sl ([.ref (x_ad G k0), .int p1, .int p2, .int p3])).length) Slot.unset).toArray = ls at hl ⊢
  have hl : lv_has ls 7 [(0, .ref (x_ad G k0)), (1, .int p1), (2, .int p2), (3, .int p3)] := hl
  rw [f_P_take] at hf
  refine lv_iload_n hx hb d_P_take_0 rfl (lv_at hl 1 rfl) ?_
  refine lv_aload_n hx hb d_P_take_1 rfl (lv_at hl 0 rfl) ?_
  obtain ⟨r3, z3, hq4, hf⟩ := x_cl_some hf
  refine va_calli (va_runV (As := []) (rest := [.int p1]) ⟨hx, hb, hml, hown, hts⟩ (c_P_wanted l G k0 hk0 z0 r3 z3 hq4) (cwV 0 hts (x_gV t_234 t_235 t_236 t_4 t_237) rfl rfl rfl (by decide +kernel) ⟨Nat.le_of_ble_eq_true rfl, Nat.le_of_ble_eq_true rfl⟩) ⟨x_blind _ _ _, va_recv hK hP (ci := 2) (q0 := k0) rfl (x_lk_P G _ hk0), fun U hU hW => ⟨rfl, x_pw hP hD hK hG hS hz hU hW⟩⟩ rfl rfl hl.1 rfl (lv_room (Nat.le_of_ble_eq_true rfl)) d_P_take_2 ⟨Nat.le_of_ble_eq_true rfl, Nat.le_of_ble_eq_true rfl⟩) hS (fun q _ h => h) (fun q h => h) (fun ra u t H locs ht hvm hw hB _ _ hS => ?_)
  obtain ⟨rfl, rfl⟩ := hw
  obtain ⟨hP, hD⟩ := x_back hB ht
  refine lv_aload_n hx hb d_P_take_5 rfl (lv_at hl 0 rfl) ?_
  refine va_get (D := x_D G) (ci := 2) (v := .int (z3.1 k0 2)) (C := "ContentLibrary$Picture") (T := x_TP) (N := 3) hx hb hts x_inP hown hK hP k0 (x_lk_P G _ hk0) rfl 2 (by decide) (hts _ t_71) (fun _ h9 => h9) rfl d_P_take_6 ?_
  refine lv_isub hx hb d_P_take_9 ?_
  refine va_mmin hx hb (hml.trans hl.1.symm) hown (hts _ t_478) (hts _ t_28) (hts _ t_2) (hts _ t_29) (Nat.le_of_ble_eq_true rfl) (Nat.le_of_ble_eq_true rfl) (Nat.le_of_ble_eq_true rfl) (Nat.le_of_ble_eq_true rfl) d_P_take_10 ?_
  refine lv_istore (lv' := [(4, .int (if (r3 - (z3.1 k0 2)) < p1 then (r3 - (z3.1 k0 2)) else p1)), (0, .ref (x_ad G k0)), (1, .int p1), (2, .int p2), (3, .int p3)]) hx hb d_P_take_13 hl (by decide) rfl (fun ls hl => ?_)
  refine lv_iload_n hx hb d_P_take_15 rfl (lv_at hl 3 rfl) ?_
  refine lv_istore (lv' := [(5, .int p2), (4, .int (if (r3 - (z3.1 k0 2)) < p1 then (r3 - (z3.1 k0 2)) else p1)), (0, .ref (x_ad G k0)), (1, .int p1), (2, .int p2), (3, .int p3)]) hx hb d_P_take_16 hl (by decide) rfl (fun ls hl => ?_)
  refine lv_iconst (v := (0 : Int32)) hx hb d_P_take_18 (by decide) ?_
  refine lv_istore (lv' := [(6, .int (0 : Int32)), (5, .int p2), (4, .int (if (r3 - (z3.1 k0 2)) < p1 then (r3 - (z3.1 k0 2)) else p1)), (0, .ref (x_ad G k0)), (1, .int p1), (2, .int p2), (3, .int p3)]) hx hb d_P_take_19 hl (by decide) rfl (fun ls hl => ?_)
  exact w_P_take_21 l G C0 r zo x_FU k0 hk0 p3 (if (r3 - (z3.1 k0 2)) < p1 then (r3 - (z3.1 k0 2)) else p1) p2 (0 : Int32) z3 hf _ _ _ hP hD hS (lv_sub hl [3, 6, 2, 1, 0] rfl)
abbrev rm_P_at : Room := { frames := 1, cells := 0, slots := 0, locals := 20 }
set_option maxHeartbeats 4000000 in
set_option maxRecDepth 100000 in
theorem c_P_at (l : Launch) (G : x_G) (k0 : Nat) (hk0 : x_isP k0 = true) (p1 : Int32) (p2 : Int32) (z0 : x_St) (r : Int32) (zo : x_St) (hf : f_P_at (x_n G) k0 p1 p2 z0 = some (r, zo)) : Met l (⟨"ContentLibrary$Picture", "at", "(II)I"⟩ : MethodName) (x_ws (⟨"ContentLibrary$Picture", "at", "(II)I"⟩ : MethodName) prog_5_method_12_code 3 (some .int)) rm_P_at (va_Pc [.ref (x_ad G k0), .int p1, .int p2] (x_PW G z0)) (va_Qi (fun a u => r = a ∧ zo = u) (x_PW G) (x_A G)) 0 0 (x_A G) := by
  refine Met.ofW (cc := prog_5_method_12_code) (maxL := 3) (ret := (some .int)) (by decide) rfl ?_
  intro p e s m args below meth c s₁ B hml hv
  obtain ⟨rfl, hz, hP, hD, hK, hG⟩ := hv
  have C0 : x_Ctx G p s m _ meth c prog_5_method_12_code "ContentLibrary$Picture" 3 (some .int) := ⟨B.exec, B.bytes, B.returns, hml, findClass_of_methodNamed B.named, fun w h => atoms_spec (ws := (x_ws (⟨"ContentLibrary$Picture", "at", "(II)I"⟩ : MethodName) prog_5_method_12_code 3 (some .int))) B.pre w (List.mem_cons_of_mem _ h), B.notSynchronized, hz, hK, hG⟩
  obtain ⟨hx, hb, hr, hml, hown, hts, hlocks, hz, hK, hG⟩ := id C0
  have hS : va_S (x_A G) s.heap s.heap [] := va_S.rf
  have hl := lv_entry ([.ref (x_ad G k0), .int p1, .int p2]) (n := 3) (Nat.le_of_ble_eq_true rfl)
  rw [lg_entry_eq]
  generalize (lg_sl ([.ref (x_ad G k0), .int p1, .int p2]) ++ List.replicate (3 - (lg_sl ([.ref (x_ad G k0), .int p1, .int p2])).length) Slot.unset).toArray = ls at hl ⊢
  have hl : lv_has ls 3 [(0, .ref (x_ad G k0)), (1, .int p1), (2, .int p2)] := hl
  rw [f_P_at] at hf
  refine lv_aload_n hx hb d_P_at_0 rfl (lv_at hl 0 rfl) ?_
  refine va_get (D := x_D G) (ci := 2) (v := .ref (x_ad G (k0 + 1))) (C := "ContentLibrary$Picture") (T := x_TP) (N := 3) hx hb hts x_inP hown hK hP k0 (x_lk_P G _ hk0) rfl 1 (by decide) (hts _ t_68) (fun _ h9 => h9) rfl d_P_at_1 ?_
  refine lv_iconst (v := (2 : Int32)) hx hb d_P_at_4 (by decide) ?_
  refine lv_iload_n hx hb d_P_at_5 rfl (lv_at hl 2 rfl) ?_
  refine lv_aload_n hx hb d_P_at_6 rfl (lv_at hl 0 rfl) ?_
  obtain ⟨r1, z1, hq2, hf⟩ := x_cl_some hf
  refine va_calli (va_runV (As := []) (rest := [.int p2, .int (2 : Int32), .ref (x_ad G (k0 + 1))]) ⟨hx, hb, hml, hown, hts⟩ (c_P_width l G k0 hk0 z0 r1 z1 hq2) (cwV 0 hts (x_gV t_219 t_220 t_221 t_4 t_222) rfl rfl rfl (by decide +kernel) ⟨Nat.le_of_ble_eq_true rfl, Nat.le_of_ble_eq_true rfl⟩) ⟨x_blind _ _ _, va_recv hK hP (ci := 2) (q0 := k0) rfl (x_lk_P G _ hk0), fun U hU hW => ⟨rfl, x_pw hP hD hK hG hS hz hU hW⟩⟩ rfl rfl hl.1 rfl (lv_room (Nat.le_of_ble_eq_true rfl)) d_P_at_7 ⟨Nat.le_of_ble_eq_true rfl, Nat.le_of_ble_eq_true rfl⟩) hS (fun q _ h => h) (fun q h => h) (fun ra u t H locs ht hvm hw hB _ _ hS => ?_)
  obtain ⟨rfl, rfl⟩ := hw
  obtain ⟨hP, hD⟩ := x_back hB ht
  refine lv_imul hx hb d_P_at_10 ?_
  refine lv_iadd hx hb d_P_at_11 ?_
  refine lv_iload_n hx hb d_P_at_12 rfl (lv_at hl 1 rfl) ?_
  refine lv_iadd hx hb d_P_at_13 ?_
  obtain ⟨hin3, hf⟩ := x_ck_some hf
  refine va_iald hx hb hK hP (k0 + 1) 0 (x_lk_A G _ (x_P_A hk0)) rfl hin3 d_P_at_14 ?_
  obtain ⟨rfl, rfl⟩ := x_ret hf
  exact W.iret (v := (z1.1 (k0 + 1) ((((2 : Int32) + (p2 * r1)) + p1)).toNatClampNeg)) hx hb hr (fun t ht hW => ⟨⟨_, _, rfl, ⟨rfl, rfl⟩, x_pw hP hD hK hG hS hz ht hW⟩, hS.F ht⟩) hS.2.2 d_P_at_15
abbrev rm_P_fillsMessage : Room := { frames := 3, cells := 0, slots := 0, locals := 60 }
set_option maxHeartbeats 4000000 in
set_option maxRecDepth 100000 in
theorem c_P_fillsMessage (l : Launch) (G : x_G) (k0 : Nat) (hk0 : x_isP k0 = true) (p1 : Int32) (z0 : x_St) (r : Int32) (zo : x_St) (hf : f_P_fillsMessage (x_n G) k0 p1 z0 = some (r, zo)) : Met l (⟨"ContentLibrary$Picture", "fillsMessage", "(I)Z"⟩ : MethodName) (x_ws (⟨"ContentLibrary$Picture", "fillsMessage", "(I)Z"⟩ : MethodName) prog_5_method_13_code 2 (some .boolean)) rm_P_fillsMessage (va_Pc [.ref (x_ad G k0), .int p1] (x_PW G z0)) (va_Qi (fun a u => r = a ∧ zo = u) (x_PW G) (x_A G)) 0 0 (x_A G) := by
  refine Met.ofW (cc := prog_5_method_13_code) (maxL := 2) (ret := (some .boolean)) (by decide) rfl ?_
  intro p e s m args below meth c s₁ B hml hv
  obtain ⟨rfl, hz, hP, hD, hK, hG⟩ := hv
  have C0 : x_Ctx G p s m _ meth c prog_5_method_13_code "ContentLibrary$Picture" 2 (some .boolean) := ⟨B.exec, B.bytes, B.returns, hml, findClass_of_methodNamed B.named, fun w h => atoms_spec (ws := (x_ws (⟨"ContentLibrary$Picture", "fillsMessage", "(I)Z"⟩ : MethodName) prog_5_method_13_code 2 (some .boolean))) B.pre w (List.mem_cons_of_mem _ h), B.notSynchronized, hz, hK, hG⟩
  obtain ⟨hx, hb, hr, hml, hown, hts, hlocks, hz, hK, hG⟩ := id C0
  have hS : va_S (x_A G) s.heap s.heap [] := va_S.rf
  have hl := lv_entry ([.ref (x_ad G k0), .int p1]) (n := 2) (Nat.le_of_ble_eq_true rfl)
  rw [lg_entry_eq]
  generalize (lg_sl ([.ref (x_ad G k0), .int p1]) ++ List.replicate (2 - (lg_sl ([.ref (x_ad G k0), .int p1])).length) Slot.unset).toArray = ls at hl ⊢
  have hl : lv_has ls 2 [(0, .ref (x_ad G k0)), (1, .int p1)] := hl
  rw [f_P_fillsMessage] at hf
  refine lv_iload_n hx hb d_P_fillsMessage_0 rfl (lv_at hl 1 rfl) ?_
  refine lv_iconst (v := (2 : Int32)) hx hb d_P_fillsMessage_1 (by decide) ?_
  refine lv_icmp_le (tgt := 25) hx hb d_P_fillsMessage_2 (by decide) (fun hc1 => ?_) (fun hc1 => ?_)
  · have hf := x_br_t hf hc1
    refine lv_iconst (v := (0 : Int32)) hx hb d_P_fillsMessage_25 (by decide) ?_
    obtain ⟨rfl, rfl⟩ := x_ret hf
    exact W.zret (v := (0 : Int32)) hx hb hr rfl (fun t ht hW => ⟨⟨_, _, rfl, ⟨rfl, rfl⟩, x_pw hP hD hK hG hS hz ht hW⟩, hS.F ht⟩) hS.2.2 d_P_fillsMessage_26
  · have hf := x_br_f hf hc1
    refine lv_aload_n hx hb d_P_fillsMessage_5 rfl (lv_at hl 0 rfl) ?_
    obtain ⟨r2, z2, hq3, hf⟩ := x_cl_some hf
    refine va_calli (va_runV (As := []) (rest := []) ⟨hx, hb, hml, hown, hts⟩ (c_P_width l G k0 hk0 z0 r2 z2 hq3) (cwV 0 hts (x_gV t_219 t_220 t_221 t_4 t_222) rfl rfl rfl (by decide +kernel) ⟨Nat.le_of_ble_eq_true rfl, Nat.le_of_ble_eq_true rfl⟩) ⟨x_blind _ _ _, va_recv hK hP (ci := 2) (q0 := k0) rfl (x_lk_P G _ hk0), fun U hU hW => ⟨rfl, x_pw hP hD hK hG hS hz hU hW⟩⟩ rfl rfl hl.1 rfl (lv_room (Nat.le_of_ble_eq_true rfl)) d_P_fillsMessage_6 ⟨Nat.le_of_ble_eq_true rfl, Nat.le_of_ble_eq_true rfl⟩) hS (fun q _ h => h) (fun q h => h) (fun ra u t H locs ht hvm hw hB _ _ hS => ?_)
    obtain ⟨rfl, rfl⟩ := hw
    obtain ⟨hP, hD⟩ := x_back hB ht
    obtain ⟨r4, z4, hq5, hf⟩ := x_cl_some hf
    refine va_calli (va_runS (As := [.int r2]) (rest := []) ⟨hx, hb, hml, hown, hts⟩ (c_P_isSide l G r2 z2 r4 z4 hq5) (va_cwS 1 hts (x_gS t_223 t_224 t_4 t_225) rfl rfl rfl (by decide +kernel) ⟨Nat.le_of_ble_eq_true rfl, Nat.le_of_ble_eq_true rfl⟩) ⟨x_blind _ _ _, fun U hU hW => ⟨rfl, x_pw hP hD hK hG hS hz hU hW⟩⟩ rfl rfl hl.1 rfl (lv_room (Nat.le_of_ble_eq_true rfl)) d_P_fillsMessage_9 ⟨Nat.le_of_ble_eq_true rfl, Nat.le_of_ble_eq_true rfl⟩) hS (fun q _ h => h) (fun q h => h) (fun ra u t H locs ht hvm hw hB _ _ hS => ?_)
    obtain ⟨rfl, rfl⟩ := hw
    obtain ⟨hP, hD⟩ := x_back hB ht
    refine lv_if_eq (tgt := 25) hx hb d_P_fillsMessage_12 (by decide) (fun hc6 => ?_) (fun hc6 => ?_)
    · have hf := x_br_t hf hc6
      refine lv_iconst (v := (0 : Int32)) hx hb d_P_fillsMessage_25 (by decide) ?_
      obtain ⟨rfl, rfl⟩ := x_ret hf
      exact W.zret (v := (0 : Int32)) hx hb hr rfl (fun t ht hW => ⟨⟨_, _, rfl, ⟨rfl, rfl⟩, x_pw hP hD hK hG hS hz ht hW⟩, hS.F ht⟩) hS.2.2 d_P_fillsMessage_26
    · have hf := x_br_f hf hc6
      refine lv_aload_n hx hb d_P_fillsMessage_15 rfl (lv_at hl 0 rfl) ?_
      obtain ⟨r7, z7, hq8, hf⟩ := x_cl_some hf
      refine va_calli (va_runV (As := []) (rest := []) ⟨hx, hb, hml, hown, hts⟩ (c_P_height l G k0 hk0 z4 r7 z7 hq8) (cwV 0 hts (x_gV t_226 t_227 t_228 t_4 t_229) rfl rfl rfl (by decide +kernel) ⟨Nat.le_of_ble_eq_true rfl, Nat.le_of_ble_eq_true rfl⟩) ⟨x_blind _ _ _, va_recv hK hP (ci := 2) (q0 := k0) rfl (x_lk_P G _ hk0), fun U hU hW => ⟨rfl, x_pw hP hD hK hG hS hz hU hW⟩⟩ rfl rfl hl.1 rfl (lv_room (Nat.le_of_ble_eq_true rfl)) d_P_fillsMessage_16 ⟨Nat.le_of_ble_eq_true rfl, Nat.le_of_ble_eq_true rfl⟩) hS (fun q _ h => h) (fun q h => h) (fun ra u t H locs ht hvm hw hB _ _ hS => ?_)
      obtain ⟨rfl, rfl⟩ := hw
      obtain ⟨hP, hD⟩ := x_back hB ht
      obtain ⟨r9, z9, hq10, hf⟩ := x_cl_some hf
      refine va_calli (va_runS (As := [.int r7]) (rest := []) ⟨hx, hb, hml, hown, hts⟩ (c_P_isSide l G r7 z7 r9 z9 hq10) (va_cwS 1 hts (x_gS t_223 t_224 t_4 t_225) rfl rfl rfl (by decide +kernel) ⟨Nat.le_of_ble_eq_true rfl, Nat.le_of_ble_eq_true rfl⟩) ⟨x_blind _ _ _, fun U hU hW => ⟨rfl, x_pw hP hD hK hG hS hz hU hW⟩⟩ rfl rfl hl.1 rfl (lv_room (Nat.le_of_ble_eq_true rfl)) d_P_fillsMessage_19 ⟨Nat.le_of_ble_eq_true rfl, Nat.le_of_ble_eq_true rfl⟩) hS (fun q _ h => h) (fun q h => h) (fun ra u t H locs ht hvm hw hB _ _ hS => ?_)
      obtain ⟨rfl, rfl⟩ := hw
      obtain ⟨hP, hD⟩ := x_back hB ht
      refine lv_if_ne (tgt := 27) hx hb d_P_fillsMessage_22 (by decide) (fun hc11 => ?_) (fun hc11 => ?_)
      · have hf := x_br_f hf hc11
        refine lv_aload_n hx hb d_P_fillsMessage_27 rfl (lv_at hl 0 rfl) ?_
        refine lv_iload_n hx hb d_P_fillsMessage_28 rfl (lv_at hl 1 rfl) ?_
        refine lv_iconst (v := (2 : Int32)) hx hb d_P_fillsMessage_29 (by decide) ?_
        refine lv_isub hx hb d_P_fillsMessage_30 ?_
        refine va_put (D := x_D G) (ci := 2) (v := .int (p1 - (2 : Int32))) (ty := .int) (C := "ContentLibrary$Picture") (T := x_TP) (N := 3) hx hb hts x_inP x_tyP x_tyP_ok x_nmP hown hK hP hD hS k0 (x_lk_P G _ hk0) rfl 2 (by decide) (hts _ t_71) (fun _ h9 => h9) rfl (by decide +kernel) rfl rfl (Nat.le_of_ble_eq_true rfl) d_P_fillsMessage_31 (fun H locs hP hD hS => ?_)
        rw [x_st_P2 G _ hk0] at hP hD
        refine lv_aload_n hx hb d_P_fillsMessage_34 rfl (lv_at hl 0 rfl) ?_
        obtain ⟨r12, z12, hq13, hf⟩ := x_cl_some hf
        refine va_calli (va_runV (As := []) (rest := []) ⟨hx, hb, hml, hown, hts⟩ (c_P_isWhole l G k0 hk0 (x_put z9 k0 2 (p1 - (2 : Int32))) r12 z12 hq13) (cwV 0 hts (x_gV t_230 t_231 t_232 t_4 t_233) rfl rfl rfl (by decide +kernel) ⟨Nat.le_of_ble_eq_true rfl, Nat.le_of_ble_eq_true rfl⟩) ⟨x_blind _ _ _, va_recv hK hP (ci := 2) (q0 := k0) rfl (x_lk_P G _ hk0), fun U hU hW => ⟨rfl, x_pw hP hD hK hG hS hz hU hW⟩⟩ rfl rfl hl.1 rfl (lv_room (Nat.le_of_ble_eq_true rfl)) d_P_fillsMessage_35 ⟨Nat.le_of_ble_eq_true rfl, Nat.le_of_ble_eq_true rfl⟩) hS (fun q _ h => h) (fun q h => h) (fun ra u t H locs ht hvm hw hB _ _ hS => ?_)
        obtain ⟨rfl, rfl⟩ := hw
        obtain ⟨hP, hD⟩ := x_back hB ht
        obtain ⟨hbo, hf⟩ := x_ckb_some hf
        obtain ⟨rfl, rfl⟩ := x_ret hf
        exact W.zret (v := r12) hx hb hr (x_nb hbo) (fun t ht hW => ⟨⟨_, _, rfl, ⟨rfl, rfl⟩, x_pw hP hD hK hG hS hz ht hW⟩, hS.F ht⟩) hS.2.2 d_P_fillsMessage_38
      · have hf := x_br_t hf hc11
        refine lv_iconst (v := (0 : Int32)) hx hb d_P_fillsMessage_25 (by decide) ?_
        obtain ⟨rfl, rfl⟩ := x_ret hf
        exact W.zret (v := (0 : Int32)) hx hb hr rfl (fun t ht hW => ⟨⟨_, _, rfl, ⟨rfl, rfl⟩, x_pw hP hD hK hG hS hz ht hW⟩, hS.F ht⟩) hS.2.2 d_P_fillsMessage_26
abbrev rm_P_printBits : Room := { frames := 2, cells := 0, slots := 0, locals := 42 }
set_option maxHeartbeats 4000000 in
set_option maxRecDepth 100000 in
theorem w_P_printBits_101 (l : Launch) (G : x_G) {p : Program} {e : Env} {s : State} {m : MethodId} {args : Array Value} {below : List Frame} {meth : Method} {c : Code} (C0 : x_Ctx G p s m args meth c prog_5_method_14_code "ContentLibrary$Picture" 7 (some .long)) (r : Int64) (zo : x_St) : ∀ (a2 : Int64) (z0 : x_St), f_P_printBits_101 (x_n G) a2 z0 = some (r, zo) → ∀ (H : Heap) (locs : List Loc) (ls : Array Slot), va_P (x_D G) vwCl (x_Wd G z0) H → va_D (x_A G) (x_Wd G z0) → va_S (x_A G) s.heap H locs → lv_has ls 7 [(2, .long a2)] → W p l e rm_P_printBits s m args below meth c H locs 0 0 (MQ below (va_Ql (fun a u => r = a ∧ zo = u) (x_PW G) (x_A G)) args s 0 0 (x_A G)) (F0 m 101 ls []) := by
  obtain ⟨hx, hb, hr, hml, hown, hts, hlocks, hz, hK, hG⟩ := id C0
  intro a2 z0 hf H locs ls hP hD hS hl
  rw [f_P_printBits_101] at hf
  refine lv_lload_n hx hb d_P_printBits_101 rfl (lv_at hl 0 rfl) ?_
  obtain ⟨rfl, rfl⟩ := x_ret hf
  exact W.lret (v := a2) hx hb hr (fun t ht hW => ⟨⟨_, _, rfl, ⟨rfl, rfl⟩, x_pw hP hD hK hG hS hz ht hW⟩, hS.F ht⟩) hS.2.2 d_P_printBits_102
set_option maxHeartbeats 4000000 in
set_option maxRecDepth 100000 in
theorem w_P_printBits_34 (l : Launch) (G : x_G) {p : Program} {e : Env} {s : State} {m : MethodId} {args : Array Value} {below : List Frame} {meth : Method} {c : Code} (C0 : x_Ctx G p s m args meth c prog_5_method_14_code "ContentLibrary$Picture" 7 (some .long)) (r : Int64) (zo : x_St) : ∀ (fu : Nat), ∀ (a0 : Nat) (ha0 : x_isP a0 = true) (a1 : Int32) (a2 : Int64) (a4 : Int32) (z0 : x_St), f_P_printBits_34 (x_n G) fu a0 a1 a2 a4 z0 = some (r, zo) → ∀ (H : Heap) (locs : List Loc) (ls : Array Slot), va_P (x_D G) vwCl (x_Wd G z0) H → va_D (x_A G) (x_Wd G z0) → va_S (x_A G) s.heap H locs → lv_has ls 7 [(0, .ref (x_ad G a0)), (1, .int a1), (2, .long a2), (4, .int a4)] → W p l e rm_P_printBits s m args below meth c H locs 0 0 (MQ below (va_Ql (fun a u => r = a ∧ zo = u) (x_PW G) (x_A G)) args s 0 0 (x_A G)) (F0 m 34 ls []) := by
  obtain ⟨hx, hb, hr, hml, hown, hts, hlocks, hz, hK, hG⟩ := id C0
  intro fu
  induction fu with
  | zero =>
    intro a0 ha0 a1 a2 a4 z0 hf
    rw [f_P_printBits_34] at hf
    cases hf
  | succ fu ih =>
    intro a0 ha0 a1 a2 a4 z0 hf H locs ls hP hD hS hl
    rw [f_P_printBits_34] at hf
    refine lv_iload hx hb d_P_printBits_34 (lv_at hl 3 rfl) ?_
    refine lv_bipush (v := (64 : Int32)) hx hb d_P_printBits_36 (by decide) ?_
    refine lv_icmp_ge (tgt := 101) hx hb d_P_printBits_38 (by decide) (fun hc1 => ?_) (fun hc1 => ?_)
    · have hf := x_br_t hf hc1
      exact w_P_printBits_101 l G C0 r zo a2 z0 hf _ _ _ hP hD hS (lv_sub hl [2] rfl)
    · have hf := x_br_f hf hc1
      refine lv_iload hx hb d_P_printBits_41 (lv_at hl 3 rfl) ?_
      refine lv_bipush (v := (8 : Int32)) hx hb d_P_printBits_43 (by decide) ?_
      refine lv_irem hx hb d_P_printBits_45 (by decide) ?_
      refine lv_aload_n hx hb d_P_printBits_46 rfl (lv_at hl 0 rfl) ?_
      obtain ⟨r2, z2, hq3, hf⟩ := x_cl_some hf
      refine va_calli (va_runV (As := []) (rest := [.int (a4 - a4 / (8 : Int32) * (8 : Int32))]) ⟨hx, hb, hml, hown, hts⟩ (c_P_width l G a0 ha0 z0 r2 z2 hq3) (cwV 0 hts (x_gV t_219 t_220 t_221 t_4 t_222) rfl rfl rfl (by decide +kernel) ⟨Nat.le_of_ble_eq_true rfl, Nat.le_of_ble_eq_true rfl⟩) ⟨x_blind _ _ _, va_recv hK hP (ci := 2) (q0 := a0) rfl (x_lk_P G _ ha0), fun U hU hW => ⟨rfl, x_pw hP hD hK hG hS hz hU hW⟩⟩ rfl rfl hl.1 rfl (lv_room (Nat.le_of_ble_eq_true rfl)) d_P_printBits_47 ⟨Nat.le_of_ble_eq_true rfl, Nat.le_of_ble_eq_true rfl⟩) hS (fun q _ h => h) (fun q h => h) (fun ra u t H locs ht hvm hw hB _ _ hS => ?_)
      obtain ⟨rfl, rfl⟩ := hw
      obtain ⟨hP, hD⟩ := x_back hB ht
      refine lv_imul hx hb d_P_printBits_50 ?_
      refine lv_bipush (v := (8 : Int32)) hx hb d_P_printBits_51 (by decide) ?_
      refine lv_idiv hx hb d_P_printBits_53 (by decide) ?_
      refine lv_istore (lv' := [(5, .int (((a4 - a4 / (8 : Int32) * (8 : Int32)) * r2) / (8 : Int32))), (0, .ref (x_ad G a0)), (1, .int a1), (2, .long a2), (4, .int a4)]) hx hb d_P_printBits_54 hl (by decide) rfl (fun ls hl => ?_)
      refine lv_iload hx hb d_P_printBits_56 (lv_at hl 4 rfl) ?_
      refine lv_bipush (v := (8 : Int32)) hx hb d_P_printBits_58 (by decide) ?_
      refine lv_idiv hx hb d_P_printBits_60 (by decide) ?_
      refine lv_aload_n hx hb d_P_printBits_61 rfl (lv_at hl 1 rfl) ?_
      obtain ⟨r4, z4, hq5, hf⟩ := x_cl_some hf
      refine va_calli (va_runV (As := []) (rest := [.int (a4 / (8 : Int32))]) ⟨hx, hb, hml, hown, hts⟩ (c_P_height l G a0 ha0 z2 r4 z4 hq5) (cwV 0 hts (x_gV t_226 t_227 t_228 t_4 t_229) rfl rfl rfl (by decide +kernel) ⟨Nat.le_of_ble_eq_true rfl, Nat.le_of_ble_eq_true rfl⟩) ⟨x_blind _ _ _, va_recv hK hP (ci := 2) (q0 := a0) rfl (x_lk_P G _ ha0), fun U hU hW => ⟨rfl, x_pw hP hD hK hG hS hz hU hW⟩⟩ rfl rfl hl.1 rfl (lv_room (Nat.le_of_ble_eq_true rfl)) d_P_printBits_62 ⟨Nat.le_of_ble_eq_true rfl, Nat.le_of_ble_eq_true rfl⟩) hS (fun q _ h => h) (fun q h => h) (fun ra u t H locs ht hvm hw hB _ _ hS => ?_)
      obtain ⟨rfl, rfl⟩ := hw
      obtain ⟨hP, hD⟩ := x_back hB ht
      refine lv_imul hx hb d_P_printBits_65 ?_
      refine lv_bipush (v := (8 : Int32)) hx hb d_P_printBits_66 (by decide) ?_
      refine lv_idiv hx hb d_P_printBits_68 (by decide) ?_
      refine lv_istore (lv' := [(6, .int (((a4 / (8 : Int32)) * r4) / (8 : Int32))), (5, .int (((a4 - a4 / (8 : Int32) * (8 : Int32)) * r2) / (8 : Int32))), (0, .ref (x_ad G a0)), (1, .int a1), (2, .long a2), (4, .int a4)]) hx hb d_P_printBits_69 hl (by decide) rfl (fun ls hl => ?_)
      refine lv_aload_n hx hb d_P_printBits_71 rfl (lv_at hl 2 rfl) ?_
      refine lv_iload hx hb d_P_printBits_72 (lv_at hl 1 rfl) ?_
      refine lv_iload hx hb d_P_printBits_74 (lv_at hl 0 rfl) ?_
      obtain ⟨r6, z6, hq7, hf⟩ := x_cl_some hf
      refine va_calli (va_runV (As := [.int (((a4 - a4 / (8 : Int32) * (8 : Int32)) * r2) / (8 : Int32)), .int (((a4 / (8 : Int32)) * r4) / (8 : Int32))]) (rest := []) ⟨hx, hb, hml, hown, hts⟩ (c_P_at l G a0 ha0 (((a4 - a4 / (8 : Int32) * (8 : Int32)) * r2) / (8 : Int32)) (((a4 / (8 : Int32)) * r4) / (8 : Int32)) z4 r6 z6 hq7) (cwV 2 hts (x_gV t_289 t_290 t_291 t_4 t_292) rfl rfl rfl (by decide +kernel) ⟨Nat.le_of_ble_eq_true rfl, Nat.le_of_ble_eq_true rfl⟩) ⟨x_blind _ _ _, va_recv hK hP (ci := 2) (q0 := a0) rfl (x_lk_P G _ ha0), fun U hU hW => ⟨rfl, x_pw hP hD hK hG hS hz hU hW⟩⟩ rfl rfl hl.1 rfl (lv_room (Nat.le_of_ble_eq_true rfl)) d_P_printBits_76 ⟨Nat.le_of_ble_eq_true rfl, Nat.le_of_ble_eq_true rfl⟩) hS (fun q _ h => h) (fun q h => h) (fun ra u t H locs ht hvm hw hB _ _ hS => ?_)
      obtain ⟨rfl, rfl⟩ := hw
      obtain ⟨hP, hD⟩ := x_back hB ht
      refine lv_aload_n hx hb d_P_printBits_79 rfl (lv_at hl 2 rfl) ?_
      refine va_get (D := x_D G) (ci := 2) (v := .int (z6.1 a0 2)) (C := "ContentLibrary$Picture") (T := x_TP) (N := 3) hx hb hts x_inP hown hK hP a0 (x_lk_P G _ ha0) rfl 2 (by decide) (hts _ t_71) (fun _ h9 => h9) rfl d_P_printBits_80 ?_
      refine lv_imul hx hb d_P_printBits_83 ?_
      refine lv_iload_n hx hb d_P_printBits_84 rfl (lv_at hl 3 rfl) ?_
      refine lv_icmp_le (tgt := 95) hx hb d_P_printBits_85 (by decide) (fun hc8 => ?_) (fun hc8 => ?_)
      · have hf := x_br_t hf hc8
        refine lv_iinc (v := (a4 + (1 : Int32))) (lv' := [(4, .int (a4 + (1 : Int32))), (6, .int (((a4 / (8 : Int32)) * r4) / (8 : Int32))), (5, .int (((a4 - a4 / (8 : Int32) * (8 : Int32)) * r2) / (8 : Int32))), (0, .ref (x_ad G a0)), (1, .int a1), (2, .long a2)]) hx hb d_P_printBits_95 hl (k := 5) rfl rfl (by decide) rfl (fun ls hl => ?_)
        refine lv_goto (tgt := 34) hx hb d_P_printBits_98 (by decide) ?_
        exact ih a0 ha0 a1 a2 (a4 + (1 : Int32)) z6 hf _ _ _ hP hD hS (lv_sub hl [3, 4, 5, 0] rfl)
      · have hf := x_br_f hf hc8
        refine lv_lload_n hx hb d_P_printBits_88 rfl (lv_at hl 4 rfl) ?_
        refine lv_lconst (v := (1 : Int64)) hx hb d_P_printBits_89 (by decide) ?_
        refine lv_iload hx hb d_P_printBits_90 (lv_at hl 5 rfl) ?_
        refine lv_lshl (v := (x_lshl (1 : Int64) a4)) hx hb d_P_printBits_92 rfl ?_
        refine lv_lor hx hb d_P_printBits_93 ?_
        refine lv_lstore_n (lv' := [(2, .long (a2 ||| (x_lshl (1 : Int64) a4))), (6, .int (((a4 / (8 : Int32)) * r4) / (8 : Int32))), (5, .int (((a4 - a4 / (8 : Int32) * (8 : Int32)) * r2) / (8 : Int32))), (0, .ref (x_ad G a0)), (1, .int a1), (4, .int a4)]) hx hb d_P_printBits_94 rfl hl (by decide) rfl (fun ls hl => ?_)
        refine lv_iinc (v := (a4 + (1 : Int32))) (lv' := [(4, .int (a4 + (1 : Int32))), (2, .long (a2 ||| (x_lshl (1 : Int64) a4))), (6, .int (((a4 / (8 : Int32)) * r4) / (8 : Int32))), (5, .int (((a4 - a4 / (8 : Int32) * (8 : Int32)) * r2) / (8 : Int32))), (0, .ref (x_ad G a0)), (1, .int a1)]) hx hb d_P_printBits_95 hl (k := 5) rfl rfl (by decide) rfl (fun ls hl => ?_)
        refine lv_goto (tgt := 34) hx hb d_P_printBits_98 (by decide) ?_
        exact ih a0 ha0 a1 (a2 ||| (x_lshl (1 : Int64) a4)) (a4 + (1 : Int32)) z6 hf _ _ _ hP hD hS (lv_sub hl [4, 5, 1, 0] rfl)
set_option maxHeartbeats 4000000 in
set_option maxRecDepth 100000 in
theorem w_P_printBits_29 (l : Launch) (G : x_G) {p : Program} {e : Env} {s : State} {m : MethodId} {args : Array Value} {below : List Frame} {meth : Method} {c : Code} (C0 : x_Ctx G p s m args meth c prog_5_method_14_code "ContentLibrary$Picture" 7 (some .long)) (r : Int64) (zo : x_St) : ∀ (a0 : Nat) (ha0 : x_isP a0 = true) (a1 : Int32) (z0 : x_St), f_P_printBits_29 (x_n G) a0 a1 z0 = some (r, zo) → ∀ (H : Heap) (locs : List Loc) (ls : Array Slot), va_P (x_D G) vwCl (x_Wd G z0) H → va_D (x_A G) (x_Wd G z0) → va_S (x_A G) s.heap H locs → lv_has ls 7 [(0, .ref (x_ad G a0)), (1, .int a1)] → W p l e rm_P_printBits s m args below meth c H locs 0 0 (MQ below (va_Ql (fun a u => r = a ∧ zo = u) (x_PW G) (x_A G)) args s 0 0 (x_A G)) (F0 m 29 ls []) := by
  obtain ⟨hx, hb, hr, hml, hown, hts, hlocks, hz, hK, hG⟩ := id C0
  intro a0 ha0 a1 z0 hf H locs ls hP hD hS hl
  rw [f_P_printBits_29] at hf
  refine lv_lconst (v := (0 : Int64)) hx hb d_P_printBits_29 (by decide) ?_
  refine lv_lstore_n (lv' := [(2, .long (0 : Int64)), (0, .ref (x_ad G a0)), (1, .int a1)]) hx hb d_P_printBits_30 rfl hl (by decide) rfl (fun ls hl => ?_)
  refine lv_iconst (v := (0 : Int32)) hx hb d_P_printBits_31 (by decide) ?_
  refine lv_istore (lv' := [(4, .int (0 : Int32)), (2, .long (0 : Int64)), (0, .ref (x_ad G a0)), (1, .int a1)]) hx hb d_P_printBits_32 hl (by decide) rfl (fun ls hl => ?_)
  exact w_P_printBits_34 l G C0 r zo x_FU a0 ha0 a1 (0 : Int64) (0 : Int32) z0 hf _ _ _ hP hD hS (lv_sub hl [2, 3, 1, 0] rfl)
set_option maxHeartbeats 4000000 in
set_option maxRecDepth 100000 in
theorem w_P_printBits_4 (l : Launch) (G : x_G) {p : Program} {e : Env} {s : State} {m : MethodId} {args : Array Value} {below : List Frame} {meth : Method} {c : Code} (C0 : x_Ctx G p s m args meth c prog_5_method_14_code "ContentLibrary$Picture" 7 (some .long)) (r : Int64) (zo : x_St) : ∀ (fu : Nat), ∀ (a0 : Nat) (ha0 : x_isP a0 = true) (a1 : Int32) (a2 : Int32) (z0 : x_St), f_P_printBits_4 (x_n G) fu a0 a1 a2 z0 = some (r, zo) → ∀ (H : Heap) (locs : List Loc) (ls : Array Slot), va_P (x_D G) vwCl (x_Wd G z0) H → va_D (x_A G) (x_Wd G z0) → va_S (x_A G) s.heap H locs → lv_has ls 7 [(0, .ref (x_ad G a0)), (1, .int a1), (2, .int a2)] → W p l e rm_P_printBits s m args below meth c H locs 0 0 (MQ below (va_Ql (fun a u => r = a ∧ zo = u) (x_PW G) (x_A G)) args s 0 0 (x_A G)) (F0 m 4 ls []) := by
  obtain ⟨hx, hb, hr, hml, hown, hts, hlocks, hz, hK, hG⟩ := id C0
  intro fu
  induction fu with
  | zero =>
    intro a0 ha0 a1 a2 z0 hf
    rw [f_P_printBits_4] at hf
    cases hf
  | succ fu ih =>
    intro a0 ha0 a1 a2 z0 hf H locs ls hP hD hS hl
    rw [f_P_printBits_4] at hf
    refine lv_iload_n hx hb d_P_printBits_4 rfl (lv_at hl 2 rfl) ?_
    refine lv_aload_n hx hb d_P_printBits_5 rfl (lv_at hl 0 rfl) ?_
    refine va_get (D := x_D G) (ci := 2) (v := .int (z0.1 a0 2)) (C := "ContentLibrary$Picture") (T := x_TP) (N := 3) hx hb hts x_inP hown hK hP a0 (x_lk_P G _ ha0) rfl 2 (by decide) (hts _ t_71) (fun _ h9 => h9) rfl d_P_printBits_6 ?_
    refine lv_icmp_ge (tgt := 29) hx hb d_P_printBits_9 (by decide) (fun hc9 => ?_) (fun hc9 => ?_)
    · have hf := x_br_t hf hc9
      exact w_P_printBits_29 l G C0 r zo a0 ha0 a1 z0 hf _ _ _ hP hD hS (lv_sub hl [0, 1] rfl)
    · have hf := x_br_f hf hc9
      refine lv_iload_n hx hb d_P_printBits_12 rfl (lv_at hl 1 rfl) ?_
      refine lv_aload_n hx hb d_P_printBits_13 rfl (lv_at hl 0 rfl) ?_
      refine va_get (D := x_D G) (ci := 2) (v := .ref (x_ad G (a0 + 1))) (C := "ContentLibrary$Picture") (T := x_TP) (N := 3) hx hb hts x_inP hown hK hP a0 (x_lk_P G _ ha0) rfl 1 (by decide) (hts _ t_68) (fun _ h9 => h9) rfl d_P_printBits_14 ?_
      refine lv_iconst (v := (2 : Int32)) hx hb d_P_printBits_17 (by decide) ?_
      refine lv_iload_n hx hb d_P_printBits_18 rfl (lv_at hl 2 rfl) ?_
      refine lv_iadd hx hb d_P_printBits_19 ?_
      obtain ⟨hin10, hf⟩ := x_ck_some hf
      refine va_iald hx hb hK hP (a0 + 1) 0 (x_lk_A G _ (x_P_A ha0)) rfl hin10 d_P_printBits_20 ?_
      refine lv_iadd hx hb d_P_printBits_21 ?_
      refine lv_istore_n (lv' := [(1, .int (a1 + (z0.1 (a0 + 1) (((2 : Int32) + a2)).toNatClampNeg))), (0, .ref (x_ad G a0)), (2, .int a2)]) hx hb d_P_printBits_22 rfl hl (by decide) rfl (fun ls hl => ?_)
      refine lv_iinc (v := (a2 + (1 : Int32))) (lv' := [(2, .int (a2 + (1 : Int32))), (1, .int (a1 + (z0.1 (a0 + 1) (((2 : Int32) + a2)).toNatClampNeg))), (0, .ref (x_ad G a0))]) hx hb d_P_printBits_23 hl (k := 2) rfl rfl (by decide) rfl (fun ls hl => ?_)
      refine lv_goto (tgt := 4) hx hb d_P_printBits_26 (by decide) ?_
      exact ih a0 ha0 (a1 + (z0.1 (a0 + 1) (((2 : Int32) + a2)).toNatClampNeg)) (a2 + (1 : Int32)) z0 hf _ _ _ hP hD hS (lv_sub hl [2, 1, 0] rfl)
set_option maxHeartbeats 4000000 in
set_option maxRecDepth 100000 in
theorem c_P_printBits (l : Launch) (G : x_G) (k0 : Nat) (hk0 : x_isP k0 = true) (z0 : x_St) (r : Int64) (zo : x_St) (hf : f_P_printBits (x_n G) k0 z0 = some (r, zo)) : Met l (⟨"ContentLibrary$Picture", "printBits", "()J"⟩ : MethodName) (x_ws (⟨"ContentLibrary$Picture", "printBits", "()J"⟩ : MethodName) prog_5_method_14_code 7 (some .long)) rm_P_printBits (va_Pc [.ref (x_ad G k0)] (x_PW G z0)) (va_Ql (fun a u => r = a ∧ zo = u) (x_PW G) (x_A G)) 0 0 (x_A G) := by
  refine Met.ofW (cc := prog_5_method_14_code) (maxL := 7) (ret := (some .long)) (by decide) rfl ?_
  intro p e s m args below meth c s₁ B hml hv
  obtain ⟨rfl, hz, hP, hD, hK, hG⟩ := hv
  have C0 : x_Ctx G p s m _ meth c prog_5_method_14_code "ContentLibrary$Picture" 7 (some .long) := ⟨B.exec, B.bytes, B.returns, hml, findClass_of_methodNamed B.named, fun w h => atoms_spec (ws := (x_ws (⟨"ContentLibrary$Picture", "printBits", "()J"⟩ : MethodName) prog_5_method_14_code 7 (some .long))) B.pre w (List.mem_cons_of_mem _ h), B.notSynchronized, hz, hK, hG⟩
  obtain ⟨hx, hb, hr, hml, hown, hts, hlocks, hz, hK, hG⟩ := id C0
  have hS : va_S (x_A G) s.heap s.heap [] := va_S.rf
  have hl := lv_entry ([.ref (x_ad G k0)]) (n := 7) (Nat.le_of_ble_eq_true rfl)
  rw [lg_entry_eq]
  generalize (lg_sl ([.ref (x_ad G k0)]) ++ List.replicate (7 - (lg_sl ([.ref (x_ad G k0)])).length) Slot.unset).toArray = ls at hl ⊢
  have hl : lv_has ls 7 [(0, .ref (x_ad G k0))] := hl
  rw [f_P_printBits] at hf
  refine lv_iconst (v := (0 : Int32)) hx hb d_P_printBits_0 (by decide) ?_
  refine lv_istore_n (lv' := [(1, .int (0 : Int32)), (0, .ref (x_ad G k0))]) hx hb d_P_printBits_1 rfl hl (by decide) rfl (fun ls hl => ?_)
  refine lv_iconst (v := (0 : Int32)) hx hb d_P_printBits_2 (by decide) ?_
  refine lv_istore_n (lv' := [(2, .int (0 : Int32)), (1, .int (0 : Int32)), (0, .ref (x_ad G k0))]) hx hb d_P_printBits_3 rfl hl (by decide) rfl (fun ls hl => ?_)
  exact w_P_printBits_4 l G C0 r zo x_FU k0 hk0 (0 : Int32) (0 : Int32) z0 hf _ _ _ hP hD hS (lv_sub hl [2, 1, 0] rfl)
