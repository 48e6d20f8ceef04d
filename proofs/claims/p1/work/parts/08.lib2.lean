theorem t_42 : Cond.fieldLink "ContentLibrary" 210 "ContentLibrary$Blocks" "fuse" "I" ∈ x_big := x_bt 42 (by decide +kernel) (by decide +kernel)
theorem t_44 : Cond.fieldLink "ContentLibrary" 213 "ContentLibrary$Blocks" "cut" "Z" ∈ x_big := x_bt 44 (by decide +kernel) (by decide +kernel)
theorem t_69 : Cond.fieldLink "ContentLibrary" 107 "ContentLibrary$Picture" "message" "[I" ∈ x_big := x_bt 69 (by decide +kernel) (by decide +kernel)
theorem t_92 : Cond.fieldLink "ContentLibrary" 157 "ContentLibrary$Kept" "picture" "LContentLibrary$Picture;" ∈ x_big := x_bt 92 (by decide +kernel) (by decide +kernel)
theorem t_166 : Cond.methodLink "ContentLibrary" 219 (⟨"ContentLibrary", "openNumber", "(I)V"⟩ : MethodName) ∈ x_big := x_bt 166 (by decide +kernel) (by decide +kernel)
theorem t_168 : Cond.instanceMethod (⟨"ContentLibrary", "openNumber", "(I)V"⟩ : MethodName) ∈ x_big := x_bt 168 (by decide +kernel) (by decide +kernel)
theorem t_169 : Cond.code (⟨"ContentLibrary", "openNumber", "(I)V"⟩ : MethodName) prog_1_method_30_code 5 none ∈ x_big := x_bt 169 (by decide +kernel) (by decide +kernel)
theorem t_170 : Cond.methodLink "ContentLibrary" 293 (⟨"ContentLibrary$Blocks", "onlyGood", "(III)I"⟩ : MethodName) ∈ x_big := x_bt 170 (by decide +kernel) (by decide +kernel)
theorem t_171 : Cond.instanceMethod (⟨"ContentLibrary$Blocks", "onlyGood", "(III)I"⟩ : MethodName) ∈ x_big := x_bt 171 (by decide +kernel) (by decide +kernel)
theorem t_172 : Cond.selects "ContentLibrary$Blocks" (⟨"ContentLibrary$Blocks", "onlyGood", "(III)I"⟩ : MethodName) (⟨"ContentLibrary$Blocks", "onlyGood", "(III)I"⟩ : MethodName) ∈ x_big := x_bt 172 (by decide +kernel) (by decide +kernel)
theorem t_173 : Cond.code (⟨"ContentLibrary$Blocks", "onlyGood", "(III)I"⟩ : MethodName) prog_2_method_10_code 7 (some .int) ∈ x_big := x_bt 173 (by decide +kernel) (by decide +kernel)
theorem t_196 : Cond.methodLink "ContentLibrary" 296 (⟨"ContentLibrary$Blocks", "isMarkAsTold", "(I)Z"⟩ : MethodName) ∈ x_big := x_bt 196 (by decide +kernel) (by decide +kernel)
theorem t_197 : Cond.instanceMethod (⟨"ContentLibrary$Blocks", "isMarkAsTold", "(I)Z"⟩ : MethodName) ∈ x_big := x_bt 197 (by decide +kernel) (by decide +kernel)
theorem t_198 : Cond.selects "ContentLibrary$Blocks" (⟨"ContentLibrary$Blocks", "isMarkAsTold", "(I)Z"⟩ : MethodName) (⟨"ContentLibrary$Blocks", "isMarkAsTold", "(I)Z"⟩ : MethodName) ∈ x_big := x_bt 198 (by decide +kernel) (by decide +kernel)
theorem t_199 : Cond.code (⟨"ContentLibrary$Blocks", "isMarkAsTold", "(I)Z"⟩ : MethodName) prog_2_method_11_code 3 (some .boolean) ∈ x_big := x_bt 199 (by decide +kernel) (by decide +kernel)
theorem t_200 : Cond.methodLink "ContentLibrary" 242 (⟨"ContentLibrary$Blocks", "get", "(II)I"⟩ : MethodName) ∈ x_big := x_bt 200 (by decide +kernel) (by decide +kernel)
theorem t_201 : Cond.methodLink "ContentLibrary" 299 (⟨"ContentLibrary", "readRecord", "(LContentLibrary$Kept;II)Z"⟩ : MethodName) ∈ x_big := x_bt 201 (by decide +kernel) (by decide +kernel)
theorem t_203 : Cond.instanceMethod (⟨"ContentLibrary", "readRecord", "(LContentLibrary$Kept;II)Z"⟩ : MethodName) ∈ x_big := x_bt 203 (by decide +kernel) (by decide +kernel)
theorem t_204 : Cond.code (⟨"ContentLibrary", "readRecord", "(LContentLibrary$Kept;II)Z"⟩ : MethodName) prog_1_method_31_code 9 (some .boolean) ∈ x_big := x_bt 204 (by decide +kernel) (by decide +kernel)
theorem t_205 : Cond.methodLink "ContentLibrary" 303 (⟨"ContentLibrary$Blocks", "kindOf", "(I)I"⟩ : MethodName) ∈ x_big := x_bt 205 (by decide +kernel) (by decide +kernel)
theorem t_208 : Cond.methodLink "ContentLibrary" 306 (⟨"ContentLibrary$Blocks", "copyData", "(II[II)V"⟩ : MethodName) ∈ x_big := x_bt 208 (by decide +kernel) (by decide +kernel)
theorem t_209 : Cond.instanceMethod (⟨"ContentLibrary$Blocks", "copyData", "(II[II)V"⟩ : MethodName) ∈ x_big := x_bt 209 (by decide +kernel) (by decide +kernel)
theorem t_210 : Cond.selects "ContentLibrary$Blocks" (⟨"ContentLibrary$Blocks", "copyData", "(II[II)V"⟩ : MethodName) (⟨"ContentLibrary$Blocks", "copyData", "(II[II)V"⟩ : MethodName) ∈ x_big := x_bt 210 (by decide +kernel) (by decide +kernel)
theorem t_211 : Cond.code (⟨"ContentLibrary$Blocks", "copyData", "(II[II)V"⟩ : MethodName) prog_2_method_12_code 5 none ∈ x_big := x_bt 211 (by decide +kernel) (by decide +kernel)
theorem t_215 : Cond.methodLink "ContentLibrary" 310 (⟨"ContentLibrary$Picture", "fillsMessage", "(I)Z"⟩ : MethodName) ∈ x_big := x_bt 215 (by decide +kernel) (by decide +kernel)
theorem t_216 : Cond.instanceMethod (⟨"ContentLibrary$Picture", "fillsMessage", "(I)Z"⟩ : MethodName) ∈ x_big := x_bt 216 (by decide +kernel) (by decide +kernel)
theorem t_217 : Cond.selects "ContentLibrary$Picture" (⟨"ContentLibrary$Picture", "fillsMessage", "(I)Z"⟩ : MethodName) (⟨"ContentLibrary$Picture", "fillsMessage", "(I)Z"⟩ : MethodName) ∈ x_big := x_bt 217 (by decide +kernel) (by decide +kernel)
theorem t_218 : Cond.code (⟨"ContentLibrary$Picture", "fillsMessage", "(I)Z"⟩ : MethodName) prog_5_method_13_code 2 (some .boolean) ∈ x_big := x_bt 218 (by decide +kernel) (by decide +kernel)
theorem t_297 : Cond.methodLink "ContentLibrary" 222 (⟨"ContentLibrary", "countKept", "()I"⟩ : MethodName) ∈ x_big := x_bt 297 (by decide +kernel) (by decide +kernel)
theorem t_299 : Cond.instanceMethod (⟨"ContentLibrary", "countKept", "()I"⟩ : MethodName) ∈ x_big := x_bt 299 (by decide +kernel) (by decide +kernel)
theorem t_300 : Cond.code (⟨"ContentLibrary", "countKept", "()I"⟩ : MethodName) prog_1_method_36_code 3 (some .int) ∈ x_big := x_bt 300 (by decide +kernel) (by decide +kernel)
theorem t_305 : Cond.methodLink "ContentLibrary" 236 (⟨"ContentLibrary$Blocks", "isBlank", "(I)Z"⟩ : MethodName) ∈ x_big := x_bt 305 (by decide +kernel) (by decide +kernel)
theorem t_306 : Cond.instanceMethod (⟨"ContentLibrary$Blocks", "isBlank", "(I)Z"⟩ : MethodName) ∈ x_big := x_bt 306 (by decide +kernel) (by decide +kernel)
theorem t_307 : Cond.selects "ContentLibrary$Blocks" (⟨"ContentLibrary$Blocks", "isBlank", "(I)Z"⟩ : MethodName) (⟨"ContentLibrary$Blocks", "isBlank", "(I)Z"⟩ : MethodName) ∈ x_big := x_bt 307 (by decide +kernel) (by decide +kernel)
theorem t_308 : Cond.code (⟨"ContentLibrary$Blocks", "isBlank", "(I)Z"⟩ : MethodName) prog_2_method_5_code 3 (some .boolean) ∈ x_big := x_bt 308 (by decide +kernel) (by decide +kernel)
theorem t_309 : Cond.methodLink "ContentLibrary" 239 (⟨"ContentLibrary$Blocks", "isGood", "(I)Z"⟩ : MethodName) ∈ x_big := x_bt 309 (by decide +kernel) (by decide +kernel)
theorem t_314 : Cond.methodLink "ContentLibrary" 245 (⟨"ContentLibrary", "countFreeBlocks", "()I"⟩ : MethodName) ∈ x_big := x_bt 314 (by decide +kernel) (by decide +kernel)
theorem t_316 : Cond.instanceMethod (⟨"ContentLibrary", "countFreeBlocks", "()I"⟩ : MethodName) ∈ x_big := x_bt 316 (by decide +kernel) (by decide +kernel)
theorem t_317 : Cond.code (⟨"ContentLibrary", "countFreeBlocks", "()I"⟩ : MethodName) prog_1_method_35_code 3 (some .int) ∈ x_big := x_bt 317 (by decide +kernel) (by decide +kernel)
theorem t_318 : Cond.methodLink "ContentLibrary" 248 (⟨"ContentLibrary", "countMade", "()I"⟩ : MethodName) ∈ x_big := x_bt 318 (by decide +kernel) (by decide +kernel)
theorem t_320 : Cond.instanceMethod (⟨"ContentLibrary", "countMade", "()I"⟩ : MethodName) ∈ x_big := x_bt 320 (by decide +kernel) (by decide +kernel)
theorem t_321 : Cond.code (⟨"ContentLibrary", "countMade", "()I"⟩ : MethodName) prog_1_method_37_code 3 (some .int) ∈ x_big := x_bt 321 (by decide +kernel) (by decide +kernel)
theorem t_513 : Cond.methodLink "ContentLibrary" 197 (⟨"ContentLibrary$Blocks", "wipe", "(I)Z"⟩ : MethodName) ∈ x_big := x_bt 513 (by decide +kernel) (by decide +kernel)
theorem t_514 : Cond.instanceMethod (⟨"ContentLibrary$Blocks", "wipe", "(I)Z"⟩ : MethodName) ∈ x_big := x_bt 514 (by decide +kernel) (by decide +kernel)
theorem t_515 : Cond.selects "ContentLibrary$Blocks" (⟨"ContentLibrary$Blocks", "wipe", "(I)Z"⟩ : MethodName) (⟨"ContentLibrary$Blocks", "wipe", "(I)Z"⟩ : MethodName) ∈ x_big := x_bt 515 (by decide +kernel) (by decide +kernel)
theorem t_516 : Cond.code (⟨"ContentLibrary$Blocks", "wipe", "(I)Z"⟩ : MethodName) prog_2_method_17_code 4 (some .boolean) ∈ x_big := x_bt 516 (by decide +kernel) (by decide +kernel)
theorem sel_ContentLibrary_countFreeBlocks : Cond.selects "ContentLibrary" (⟨"ContentLibrary", "countFreeBlocks", "()I"⟩ : MethodName) (⟨"ContentLibrary", "countFreeBlocks", "()I"⟩ : MethodName) ∈ x_big := x_bs 11 (by decide +kernel) (by decide +kernel)
theorem sel_ContentLibrary_countKept : Cond.selects "ContentLibrary" (⟨"ContentLibrary", "countKept", "()I"⟩ : MethodName) (⟨"ContentLibrary", "countKept", "()I"⟩ : MethodName) ∈ x_big := x_bs 10 (by decide +kernel) (by decide +kernel)
theorem sel_ContentLibrary_countMade : Cond.selects "ContentLibrary" (⟨"ContentLibrary", "countMade", "()I"⟩ : MethodName) (⟨"ContentLibrary", "countMade", "()I"⟩ : MethodName) ∈ x_big := x_bs 12 (by decide +kernel) (by decide +kernel)
theorem sel_ContentLibrary_openNumber : Cond.selects "ContentLibrary" (⟨"ContentLibrary", "openNumber", "(I)V"⟩ : MethodName) (⟨"ContentLibrary", "openNumber", "(I)V"⟩ : MethodName) ∈ x_big := x_bs 1 (by decide +kernel) (by decide +kernel)
theorem sel_ContentLibrary_readRecord : Cond.selects "ContentLibrary" (⟨"ContentLibrary", "readRecord", "(LContentLibrary$Kept;II)Z"⟩ : MethodName) (⟨"ContentLibrary", "readRecord", "(LContentLibrary$Kept;II)Z"⟩ : MethodName) ∈ x_big := x_bs 3 (by decide +kernel) (by decide +kernel)
theorem d_X_readRecord_0 : decode prog_1_method_31_code 0 = .ok (.iconst 0, 1) := by decide +kernel
theorem d_X_readRecord_1 : decode prog_1_method_31_code 1 = .ok (.istore 4, 2) := by decide +kernel
theorem d_X_readRecord_3 : decode prog_1_method_31_code 3 = .ok (.iconst 0, 1) := by decide +kernel
theorem d_X_readRecord_4 : decode prog_1_method_31_code 4 = .ok (.istore 5, 2) := by decide +kernel
theorem d_X_readRecord_6 : decode prog_1_method_31_code 6 = .ok (.iload 5, 2) := by decide +kernel
theorem d_X_readRecord_8 : decode prog_1_method_31_code 8 = .ok (.iload_n 3, 1) := by decide +kernel
theorem d_X_readRecord_9 : decode prog_1_method_31_code 9 = .ok (.if_icmp .ge 128, 3) := by decide +kernel
theorem d_X_readRecord_12 : decode prog_1_method_31_code 12 = .ok (.iload 5, 2) := by decide +kernel
theorem d_X_readRecord_14 : decode prog_1_method_31_code 14 = .ok (.iconst 2, 1) := by decide +kernel
theorem d_X_readRecord_15 : decode prog_1_method_31_code 15 = .ok (.if_icmp .ge 122, 3) := by decide +kernel
theorem d_X_readRecord_18 : decode prog_1_method_31_code 18 = .ok (.aload_n 0, 1) := by decide +kernel
theorem d_X_readRecord_19 : decode prog_1_method_31_code 19 = .ok (.getfield 23, 3) := by decide +kernel
theorem d_X_readRecord_22 : decode prog_1_method_31_code 22 = .ok (.iload 5, 2) := by decide +kernel
theorem d_X_readRecord_24 : decode prog_1_method_31_code 24 = .ok (.invokestatic 303, 3) := by decide +kernel
theorem d_X_readRecord_27 : decode prog_1_method_31_code 27 = .ok (.iload_n 2, 1) := by decide +kernel
theorem d_X_readRecord_28 : decode prog_1_method_31_code 28 = .ok (.iload 5, 2) := by decide +kernel
theorem d_X_readRecord_30 : decode prog_1_method_31_code 30 = .ok (.invokevirtual 293, 3) := by decide +kernel
theorem d_X_readRecord_33 : decode prog_1_method_31_code 33 = .ok (.istore 6, 2) := by decide +kernel
theorem d_X_readRecord_35 : decode prog_1_method_31_code 35 = .ok (.iload 6, 2) := by decide +kernel
theorem d_X_readRecord_37 : decode prog_1_method_31_code 37 = .ok (.iconst (-1), 1) := by decide +kernel
theorem d_X_readRecord_38 : decode prog_1_method_31_code 38 = .ok (.if_icmp .ne 5, 3) := by decide +kernel
theorem d_X_readRecord_41 : decode prog_1_method_31_code 41 = .ok (.iconst 0, 1) := by decide +kernel
theorem d_X_readRecord_42 : decode prog_1_method_31_code 42 = .ok (.ireturn, 1) := by decide +kernel
theorem d_X_readRecord_43 : decode prog_1_method_31_code 43 = .ok (.aload_n 0, 1) := by decide +kernel
theorem d_X_readRecord_44 : decode prog_1_method_31_code 44 = .ok (.getfield 23, 3) := by decide +kernel
theorem d_X_readRecord_47 : decode prog_1_method_31_code 47 = .ok (.iload 6, 2) := by decide +kernel
theorem d_X_readRecord_49 : decode prog_1_method_31_code 49 = .ok (.bipush 7, 2) := by decide +kernel
theorem d_X_readRecord_51 : decode prog_1_method_31_code 51 = .ok (.invokevirtual 242, 3) := by decide +kernel
theorem d_X_readRecord_54 : decode prog_1_method_31_code 54 = .ok (.istore 7, 2) := by decide +kernel
theorem d_X_readRecord_56 : decode prog_1_method_31_code 56 = .ok (.iload 5, 2) := by decide +kernel
theorem d_X_readRecord_58 : decode prog_1_method_31_code 58 = .ok (.iload_n 3, 1) := by decide +kernel
theorem d_X_readRecord_59 : decode prog_1_method_31_code 59 = .ok (.iconst 1, 1) := by decide +kernel
theorem d_X_readRecord_60 : decode prog_1_method_31_code 60 = .ok (.isub, 1) := by decide +kernel
theorem d_X_readRecord_61 : decode prog_1_method_31_code 61 = .ok (.if_icmp .ne 7, 3) := by decide +kernel
theorem d_X_readRecord_64 : decode prog_1_method_31_code 64 = .ok (.iconst 1, 1) := by decide +kernel
theorem d_X_readRecord_65 : decode prog_1_method_31_code 65 = .ok (.goto 4, 3) := by decide +kernel
theorem d_X_readRecord_69 : decode prog_1_method_31_code 69 = .ok (.istore 8, 2) := by decide +kernel
theorem d_X_readRecord_71 : decode prog_1_method_31_code 71 = .ok (.iload 8, 2) := by decide +kernel
theorem d_X_readRecord_73 : decode prog_1_method_31_code 73 = .ok (.ifCond .ne 10, 3) := by decide +kernel
theorem d_X_readRecord_83 : decode prog_1_method_31_code 83 = .ok (.iload 4, 2) := by decide +kernel
theorem d_X_readRecord_85 : decode prog_1_method_31_code 85 = .ok (.iload 7, 2) := by decide +kernel
theorem d_X_readRecord_87 : decode prog_1_method_31_code 87 = .ok (.iadd, 1) := by decide +kernel
theorem d_X_readRecord_88 : decode prog_1_method_31_code 88 = .ok (.bipush 66, 2) := by decide +kernel
theorem d_X_readRecord_90 : decode prog_1_method_31_code 90 = .ok (.if_icmp .le 5, 3) := by decide +kernel
theorem d_X_readRecord_93 : decode prog_1_method_31_code 93 = .ok (.iconst 0, 1) := by decide +kernel
theorem d_X_readRecord_94 : decode prog_1_method_31_code 94 = .ok (.ireturn, 1) := by decide +kernel
theorem d_X_readRecord_95 : decode prog_1_method_31_code 95 = .ok (.aload_n 0, 1) := by decide +kernel
theorem d_X_readRecord_96 : decode prog_1_method_31_code 96 = .ok (.getfield 23, 3) := by decide +kernel
theorem d_X_readRecord_99 : decode prog_1_method_31_code 99 = .ok (.iload 6, 2) := by decide +kernel
theorem d_X_readRecord_101 : decode prog_1_method_31_code 101 = .ok (.iload 7, 2) := by decide +kernel
theorem d_X_readRecord_103 : decode prog_1_method_31_code 103 = .ok (.aload_n 1, 1) := by decide +kernel
theorem d_X_readRecord_104 : decode prog_1_method_31_code 104 = .ok (.getfield 157, 3) := by decide +kernel
theorem d_X_readRecord_107 : decode prog_1_method_31_code 107 = .ok (.getfield 107, 3) := by decide +kernel
theorem d_X_readRecord_110 : decode prog_1_method_31_code 110 = .ok (.iload 4, 2) := by decide +kernel
theorem d_X_readRecord_112 : decode prog_1_method_31_code 112 = .ok (.invokevirtual 306, 3) := by decide +kernel
theorem d_X_readRecord_115 : decode prog_1_method_31_code 115 = .ok (.aload_n 1, 1) := by decide +kernel
theorem d_X_readRecord_116 : decode prog_1_method_31_code 116 = .ok (.getfield 192, 3) := by decide +kernel
theorem d_X_readRecord_119 : decode prog_1_method_31_code 119 = .ok (.iload 5, 2) := by decide +kernel
theorem d_X_readRecord_121 : decode prog_1_method_31_code 121 = .ok (.iload 6, 2) := by decide +kernel
theorem d_X_readRecord_123 : decode prog_1_method_31_code 123 = .ok (.iastore, 1) := by decide +kernel
theorem d_X_readRecord_124 : decode prog_1_method_31_code 124 = .ok (.iload 4, 2) := by decide +kernel
theorem d_X_readRecord_126 : decode prog_1_method_31_code 126 = .ok (.iload 7, 2) := by decide +kernel
theorem d_X_readRecord_128 : decode prog_1_method_31_code 128 = .ok (.iadd, 1) := by decide +kernel
theorem d_X_readRecord_129 : decode prog_1_method_31_code 129 = .ok (.istore 4, 2) := by decide +kernel
theorem d_X_readRecord_131 : decode prog_1_method_31_code 131 = .ok (.iinc 5 1, 3) := by decide +kernel
theorem d_X_readRecord_134 : decode prog_1_method_31_code 134 = .ok (.goto (-128), 3) := by decide +kernel
theorem d_X_readRecord_68 : decode prog_1_method_31_code 68 = .ok (.iconst 0, 1) := by decide +kernel
theorem d_X_readRecord_137 : decode prog_1_method_31_code 137 = .ok (.aload_n 1, 1) := by decide +kernel
theorem d_X_readRecord_138 : decode prog_1_method_31_code 138 = .ok (.getfield 157, 3) := by decide +kernel
theorem d_X_readRecord_141 : decode prog_1_method_31_code 141 = .ok (.iload 4, 2) := by decide +kernel
theorem d_X_readRecord_143 : decode prog_1_method_31_code 143 = .ok (.invokevirtual 310, 3) := by decide +kernel
theorem d_X_readRecord_146 : decode prog_1_method_31_code 146 = .ok (.ireturn, 1) := by decide +kernel
theorem d_X_readRecord_76 : decode prog_1_method_31_code 76 = .ok (.iload 7, 2) := by decide +kernel
theorem d_X_readRecord_78 : decode prog_1_method_31_code 78 = .ok (.bipush 56, 2) := by decide +kernel
theorem d_X_readRecord_80 : decode prog_1_method_31_code 80 = .ok (.if_icmp .ne 13, 3) := by decide +kernel
theorem d_X_openNumber_0 : decode prog_1_method_30_code 0 = .ok (.aload_n 0, 1) := by decide +kernel
theorem d_X_openNumber_1 : decode prog_1_method_30_code 1 = .ok (.getfield 40, 3) := by decide +kernel
theorem d_X_openNumber_4 : decode prog_1_method_30_code 4 = .ok (.iload_n 1, 1) := by decide +kernel
theorem d_X_openNumber_5 : decode prog_1_method_30_code 5 = .ok (.aaload, 1) := by decide +kernel
theorem d_X_openNumber_6 : decode prog_1_method_30_code 6 = .ok (.astore_n 2, 1) := by decide +kernel
theorem d_X_openNumber_7 : decode prog_1_method_30_code 7 = .ok (.aload_n 0, 1) := by decide +kernel
theorem d_X_openNumber_8 : decode prog_1_method_30_code 8 = .ok (.getfield 23, 3) := by decide +kernel
theorem d_X_openNumber_11 : decode prog_1_method_30_code 11 = .ok (.iconst 3, 1) := by decide +kernel
theorem d_X_openNumber_12 : decode prog_1_method_30_code 12 = .ok (.iload_n 1, 1) := by decide +kernel
theorem d_X_openNumber_13 : decode prog_1_method_30_code 13 = .ok (.iconst (-1), 1) := by decide +kernel
theorem d_X_openNumber_14 : decode prog_1_method_30_code 14 = .ok (.invokevirtual 293, 3) := by decide +kernel
theorem d_X_openNumber_17 : decode prog_1_method_30_code 17 = .ok (.istore_n 3, 1) := by decide +kernel
theorem d_X_openNumber_18 : decode prog_1_method_30_code 18 = .ok (.iload_n 3, 1) := by decide +kernel
theorem d_X_openNumber_19 : decode prog_1_method_30_code 19 = .ok (.iconst (-1), 1) := by decide +kernel
theorem d_X_openNumber_20 : decode prog_1_method_30_code 20 = .ok (.if_icmp .eq 14, 3) := by decide +kernel
theorem d_X_openNumber_23 : decode prog_1_method_30_code 23 = .ok (.aload_n 0, 1) := by decide +kernel
theorem d_X_openNumber_24 : decode prog_1_method_30_code 24 = .ok (.getfield 23, 3) := by decide +kernel
theorem d_X_openNumber_27 : decode prog_1_method_30_code 27 = .ok (.iload_n 3, 1) := by decide +kernel
theorem d_X_openNumber_28 : decode prog_1_method_30_code 28 = .ok (.invokevirtual 296, 3) := by decide +kernel
theorem d_X_openNumber_31 : decode prog_1_method_30_code 31 = .ok (.ifCond .ne 4, 3) := by decide +kernel
theorem d_X_openNumber_34 : decode prog_1_method_30_code 34 = .ok (.return_, 1) := by decide +kernel
theorem d_X_openNumber_35 : decode prog_1_method_30_code 35 = .ok (.aload_n 0, 1) := by decide +kernel
theorem d_X_openNumber_36 : decode prog_1_method_30_code 36 = .ok (.getfield 23, 3) := by decide +kernel
theorem d_X_openNumber_39 : decode prog_1_method_30_code 39 = .ok (.iload_n 3, 1) := by decide +kernel
theorem d_X_openNumber_40 : decode prog_1_method_30_code 40 = .ok (.bipush 8, 2) := by decide +kernel
theorem d_X_openNumber_42 : decode prog_1_method_30_code 42 = .ok (.invokevirtual 242, 3) := by decide +kernel
theorem d_X_openNumber_45 : decode prog_1_method_30_code 45 = .ok (.istore 4, 2) := by decide +kernel
theorem d_X_openNumber_47 : decode prog_1_method_30_code 47 = .ok (.aload_n 0, 1) := by decide +kernel
theorem d_X_openNumber_48 : decode prog_1_method_30_code 48 = .ok (.aload_n 2, 1) := by decide +kernel
theorem d_X_openNumber_49 : decode prog_1_method_30_code 49 = .ok (.iload_n 1, 1) := by decide +kernel
theorem d_X_openNumber_50 : decode prog_1_method_30_code 50 = .ok (.iload 4, 2) := by decide +kernel
theorem d_X_openNumber_52 : decode prog_1_method_30_code 52 = .ok (.invokevirtual 299, 3) := by decide +kernel
theorem d_X_openNumber_55 : decode prog_1_method_30_code 55 = .ok (.ifCond .ne 4, 3) := by decide +kernel
theorem d_X_openNumber_58 : decode prog_1_method_30_code 58 = .ok (.return_, 1) := by decide +kernel
theorem d_X_reopen_0 : decode prog_1_method_13_code 0 = .ok (.aload_n 0, 1) := by decide +kernel
theorem d_X_reopen_1 : decode prog_1_method_13_code 1 = .ok (.getfield 23, 3) := by decide +kernel
theorem d_X_reopen_4 : decode prog_1_method_13_code 4 = .ok (.iconst (-1), 1) := by decide +kernel
theorem d_X_reopen_5 : decode prog_1_method_13_code 5 = .ok (.putfield 210, 3) := by decide +kernel
theorem d_X_reopen_8 : decode prog_1_method_13_code 8 = .ok (.aload_n 0, 1) := by decide +kernel
theorem d_X_reopen_9 : decode prog_1_method_13_code 9 = .ok (.getfield 23, 3) := by decide +kernel
theorem d_X_reopen_12 : decode prog_1_method_13_code 12 = .ok (.iconst 0, 1) := by decide +kernel
theorem d_X_reopen_13 : decode prog_1_method_13_code 13 = .ok (.putfield 213, 3) := by decide +kernel
theorem d_X_reopen_16 : decode prog_1_method_13_code 16 = .ok (.aload_n 0, 1) := by decide +kernel
theorem d_X_reopen_17 : decode prog_1_method_13_code 17 = .ok (.invokevirtual 216, 3) := by decide +kernel
theorem d_X_reopen_20 : decode prog_1_method_13_code 20 = .ok (.iconst 0, 1) := by decide +kernel
theorem d_X_reopen_21 : decode prog_1_method_13_code 21 = .ok (.istore_n 1, 1) := by decide +kernel
theorem d_X_reopen_22 : decode prog_1_method_13_code 22 = .ok (.iload_n 1, 1) := by decide +kernel
theorem d_X_reopen_23 : decode prog_1_method_13_code 23 = .ok (.bipush 16, 2) := by decide +kernel
theorem d_X_reopen_25 : decode prog_1_method_13_code 25 = .ok (.if_icmp .ge 14, 3) := by decide +kernel
theorem d_X_reopen_28 : decode prog_1_method_13_code 28 = .ok (.aload_n 0, 1) := by decide +kernel
theorem d_X_reopen_29 : decode prog_1_method_13_code 29 = .ok (.iload_n 1, 1) := by decide +kernel
theorem d_X_reopen_30 : decode prog_1_method_13_code 30 = .ok (.invokevirtual 219, 3) := by decide +kernel
theorem d_X_reopen_33 : decode prog_1_method_13_code 33 = .ok (.iinc 1 1, 3) := by decide +kernel
theorem d_X_reopen_36 : decode prog_1_method_13_code 36 = .ok (.goto (-14), 3) := by decide +kernel
theorem d_X_reopen_39 : decode prog_1_method_13_code 39 = .ok (.aload_n 0, 1) := by decide +kernel
theorem d_X_reopen_40 : decode prog_1_method_13_code 40 = .ok (.invokevirtual 222, 3) := by decide +kernel
theorem d_X_reopen_43 : decode prog_1_method_13_code 43 = .ok (.ireturn, 1) := by decide +kernel
theorem d_X_badAt_0 : decode prog_1_method_15_code 0 = .ok (.iconst 0, 1) := by decide +kernel
theorem d_X_badAt_1 : decode prog_1_method_15_code 1 = .ok (.istore_n 1, 1) := by decide +kernel
theorem d_X_badAt_2 : decode prog_1_method_15_code 2 = .ok (.iload_n 1, 1) := by decide +kernel
theorem d_X_badAt_3 : decode prog_1_method_15_code 3 = .ok (.aload_n 0, 1) := by decide +kernel
theorem d_X_badAt_4 : decode prog_1_method_15_code 4 = .ok (.getfield 23, 3) := by decide +kernel
theorem d_X_badAt_7 : decode prog_1_method_15_code 7 = .ok (.getfield 233, 3) := by decide +kernel
theorem d_X_badAt_10 : decode prog_1_method_15_code 10 = .ok (.if_icmp .ge 33, 3) := by decide +kernel
theorem d_X_badAt_13 : decode prog_1_method_15_code 13 = .ok (.aload_n 0, 1) := by decide +kernel
theorem d_X_badAt_14 : decode prog_1_method_15_code 14 = .ok (.getfield 23, 3) := by decide +kernel
theorem d_X_badAt_17 : decode prog_1_method_15_code 17 = .ok (.iload_n 1, 1) := by decide +kernel
theorem d_X_badAt_18 : decode prog_1_method_15_code 18 = .ok (.invokevirtual 236, 3) := by decide +kernel
theorem d_X_badAt_21 : decode prog_1_method_15_code 21 = .ok (.ifCond .ne 16, 3) := by decide +kernel
theorem d_X_badAt_24 : decode prog_1_method_15_code 24 = .ok (.aload_n 0, 1) := by decide +kernel
theorem d_X_badAt_25 : decode prog_1_method_15_code 25 = .ok (.getfield 23, 3) := by decide +kernel
theorem d_X_badAt_28 : decode prog_1_method_15_code 28 = .ok (.iload_n 1, 1) := by decide +kernel
theorem d_X_badAt_29 : decode prog_1_method_15_code 29 = .ok (.invokevirtual 239, 3) := by decide +kernel
theorem d_X_badAt_32 : decode prog_1_method_15_code 32 = .ok (.ifCond .ne 5, 3) := by decide +kernel
theorem d_X_badAt_35 : decode prog_1_method_15_code 35 = .ok (.iload_n 1, 1) := by decide +kernel
theorem d_X_badAt_36 : decode prog_1_method_15_code 36 = .ok (.ireturn, 1) := by decide +kernel
theorem d_X_badAt_37 : decode prog_1_method_15_code 37 = .ok (.iinc 1 1, 3) := by decide +kernel
theorem d_X_badAt_40 : decode prog_1_method_15_code 40 = .ok (.goto (-38), 3) := by decide +kernel
theorem d_X_badAt_43 : decode prog_1_method_15_code 43 = .ok (.iconst (-1), 1) := by decide +kernel
theorem d_X_badAt_44 : decode prog_1_method_15_code 44 = .ok (.ireturn, 1) := by decide +kernel
theorem d_X_told_0 : decode prog_1_method_17_code 0 = .ok (.iload_n 1, 1) := by decide +kernel
theorem d_X_told_1 : decode prog_1_method_17_code 1 = .ok (.tableswitch 109 0 6 #[43, 51, 70, 75, 80, 85, 101], 43) := by decide +kernel
theorem d_X_told_110 : decode prog_1_method_17_code 110 = .ok (.iconst (-1), 1) := by decide +kernel
theorem d_X_told_111 : decode prog_1_method_17_code 111 = .ok (.ireturn, 1) := by decide +kernel
theorem d_X_told_102 : decode prog_1_method_17_code 102 = .ok (.aload_n 0, 1) := by decide +kernel
theorem d_X_told_103 : decode prog_1_method_17_code 103 = .ok (.getfield 23, 3) := by decide +kernel
theorem d_X_told_106 : decode prog_1_method_17_code 106 = .ok (.getfield 210, 3) := by decide +kernel
theorem d_X_told_109 : decode prog_1_method_17_code 109 = .ok (.ireturn, 1) := by decide +kernel
theorem d_X_told_86 : decode prog_1_method_17_code 86 = .ok (.aload_n 0, 1) := by decide +kernel
theorem d_X_told_87 : decode prog_1_method_17_code 87 = .ok (.getfield 23, 3) := by decide +kernel
theorem d_X_told_90 : decode prog_1_method_17_code 90 = .ok (.getfield 213, 3) := by decide +kernel
theorem d_X_told_93 : decode prog_1_method_17_code 93 = .ok (.ifCond .eq 7, 3) := by decide +kernel
theorem d_X_told_96 : decode prog_1_method_17_code 96 = .ok (.iconst 1, 1) := by decide +kernel
theorem d_X_told_97 : decode prog_1_method_17_code 97 = .ok (.goto 4, 3) := by decide +kernel
theorem d_X_told_101 : decode prog_1_method_17_code 101 = .ok (.ireturn, 1) := by decide +kernel
theorem d_X_told_100 : decode prog_1_method_17_code 100 = .ok (.iconst 0, 1) := by decide +kernel
theorem d_X_told_81 : decode prog_1_method_17_code 81 = .ok (.aload_n 0, 1) := by decide +kernel
theorem d_X_told_82 : decode prog_1_method_17_code 82 = .ok (.getfield 62, 3) := by decide +kernel
theorem d_X_told_85 : decode prog_1_method_17_code 85 = .ok (.ireturn, 1) := by decide +kernel
theorem d_X_told_76 : decode prog_1_method_17_code 76 = .ok (.aload_n 0, 1) := by decide +kernel
theorem d_X_told_77 : decode prog_1_method_17_code 77 = .ok (.invokevirtual 248, 3) := by decide +kernel
theorem d_X_told_80 : decode prog_1_method_17_code 80 = .ok (.ireturn, 1) := by decide +kernel
theorem d_X_told_71 : decode prog_1_method_17_code 71 = .ok (.aload_n 0, 1) := by decide +kernel
theorem d_X_told_72 : decode prog_1_method_17_code 72 = .ok (.invokevirtual 222, 3) := by decide +kernel
theorem d_X_told_75 : decode prog_1_method_17_code 75 = .ok (.ireturn, 1) := by decide +kernel
theorem d_X_told_52 : decode prog_1_method_17_code 52 = .ok (.aload_n 0, 1) := by decide +kernel
theorem d_X_told_53 : decode prog_1_method_17_code 53 = .ok (.getfield 23, 3) := by decide +kernel
theorem d_X_told_56 : decode prog_1_method_17_code 56 = .ok (.getfield 213, 3) := by decide +kernel
theorem d_X_told_59 : decode prog_1_method_17_code 59 = .ok (.ifCond .eq 7, 3) := by decide +kernel
theorem d_X_told_62 : decode prog_1_method_17_code 62 = .ok (.iconst 0, 1) := by decide +kernel
theorem d_X_told_63 : decode prog_1_method_17_code 63 = .ok (.goto 7, 3) := by decide +kernel
theorem d_X_told_70 : decode prog_1_method_17_code 70 = .ok (.ireturn, 1) := by decide +kernel
theorem d_X_told_66 : decode prog_1_method_17_code 66 = .ok (.aload_n 0, 1) := by decide +kernel
theorem d_X_told_67 : decode prog_1_method_17_code 67 = .ok (.invokevirtual 245, 3) := by decide +kernel
theorem d_X_told_44 : decode prog_1_method_17_code 44 = .ok (.aload_n 0, 1) := by decide +kernel
theorem d_X_told_45 : decode prog_1_method_17_code 45 = .ok (.getfield 23, 3) := by decide +kernel
theorem d_X_told_48 : decode prog_1_method_17_code 48 = .ok (.getfield 233, 3) := by decide +kernel
theorem d_X_told_51 : decode prog_1_method_17_code 51 = .ok (.ireturn, 1) := by decide +kernel
theorem d_X_wipeFreeBlocks_0 : decode prog_1_method_29_code 0 = .ok (.iconst 0, 1) := by decide +kernel
theorem d_X_wipeFreeBlocks_1 : decode prog_1_method_29_code 1 = .ok (.istore_n 2, 1) := by decide +kernel
theorem d_X_wipeFreeBlocks_2 : decode prog_1_method_29_code 2 = .ok (.iconst 0, 1) := by decide +kernel
theorem d_X_wipeFreeBlocks_3 : decode prog_1_method_29_code 3 = .ok (.istore_n 3, 1) := by decide +kernel
theorem d_X_wipeFreeBlocks_4 : decode prog_1_method_29_code 4 = .ok (.iload_n 3, 1) := by decide +kernel
theorem d_X_wipeFreeBlocks_5 : decode prog_1_method_29_code 5 = .ok (.aload_n 0, 1) := by decide +kernel
theorem d_X_wipeFreeBlocks_6 : decode prog_1_method_29_code 6 = .ok (.getfield 23, 3) := by decide +kernel
theorem d_X_wipeFreeBlocks_9 : decode prog_1_method_29_code 9 = .ok (.getfield 233, 3) := by decide +kernel
theorem d_X_wipeFreeBlocks_12 : decode prog_1_method_29_code 12 = .ok (.if_icmp .ge 76, 3) := by decide +kernel
theorem d_X_wipeFreeBlocks_15 : decode prog_1_method_29_code 15 = .ok (.iload_n 1, 1) := by decide +kernel
theorem d_X_wipeFreeBlocks_16 : decode prog_1_method_29_code 16 = .ok (.iconst (-1), 1) := by decide +kernel
theorem d_X_wipeFreeBlocks_17 : decode prog_1_method_29_code 17 = .ok (.if_icmp .eq 16, 3) := by decide +kernel
theorem d_X_wipeFreeBlocks_20 : decode prog_1_method_29_code 20 = .ok (.aload_n 0, 1) := by decide +kernel
theorem d_X_wipeFreeBlocks_21 : decode prog_1_method_29_code 21 = .ok (.getfield 23, 3) := by decide +kernel
theorem d_X_wipeFreeBlocks_24 : decode prog_1_method_29_code 24 = .ok (.iload_n 3, 1) := by decide +kernel
theorem d_X_wipeFreeBlocks_25 : decode prog_1_method_29_code 25 = .ok (.iconst 5, 1) := by decide +kernel
theorem d_X_wipeFreeBlocks_26 : decode prog_1_method_29_code 26 = .ok (.invokevirtual 242, 3) := by decide +kernel
theorem d_X_wipeFreeBlocks_29 : decode prog_1_method_29_code 29 = .ok (.iload_n 1, 1) := by decide +kernel
theorem d_X_wipeFreeBlocks_30 : decode prog_1_method_29_code 30 = .ok (.if_icmp .ne 7, 3) := by decide +kernel
theorem d_X_wipeFreeBlocks_33 : decode prog_1_method_29_code 33 = .ok (.iconst 1, 1) := by decide +kernel
theorem d_X_wipeFreeBlocks_34 : decode prog_1_method_29_code 34 = .ok (.goto 4, 3) := by decide +kernel
theorem d_X_wipeFreeBlocks_38 : decode prog_1_method_29_code 38 = .ok (.istore 4, 2) := by decide +kernel
theorem d_X_wipeFreeBlocks_40 : decode prog_1_method_29_code 40 = .ok (.aload_n 0, 1) := by decide +kernel
theorem d_X_wipeFreeBlocks_41 : decode prog_1_method_29_code 41 = .ok (.getfield 27, 3) := by decide +kernel
theorem d_X_wipeFreeBlocks_44 : decode prog_1_method_29_code 44 = .ok (.iload_n 3, 1) := by decide +kernel
theorem d_X_wipeFreeBlocks_45 : decode prog_1_method_29_code 45 = .ok (.baload, 1) := by decide +kernel
theorem d_X_wipeFreeBlocks_46 : decode prog_1_method_29_code 46 = .ok (.ifCond .ne 36, 3) := by decide +kernel
theorem d_X_wipeFreeBlocks_49 : decode prog_1_method_29_code 49 = .ok (.iload 4, 2) := by decide +kernel
theorem d_X_wipeFreeBlocks_51 : decode prog_1_method_29_code 51 = .ok (.ifCond .eq 31, 3) := by decide +kernel
theorem d_X_wipeFreeBlocks_54 : decode prog_1_method_29_code 54 = .ok (.aload_n 0, 1) := by decide +kernel
theorem d_X_wipeFreeBlocks_55 : decode prog_1_method_29_code 55 = .ok (.getfield 23, 3) := by decide +kernel
theorem d_X_wipeFreeBlocks_58 : decode prog_1_method_29_code 58 = .ok (.iload_n 3, 1) := by decide +kernel
theorem d_X_wipeFreeBlocks_59 : decode prog_1_method_29_code 59 = .ok (.invokevirtual 236, 3) := by decide +kernel
theorem d_X_wipeFreeBlocks_62 : decode prog_1_method_29_code 62 = .ok (.ifCond .ne 20, 3) := by decide +kernel
theorem d_X_wipeFreeBlocks_65 : decode prog_1_method_29_code 65 = .ok (.aload_n 0, 1) := by decide +kernel
theorem d_X_wipeFreeBlocks_66 : decode prog_1_method_29_code 66 = .ok (.getfield 23, 3) := by decide +kernel
theorem d_X_wipeFreeBlocks_69 : decode prog_1_method_29_code 69 = .ok (.iload_n 3, 1) := by decide +kernel
theorem d_X_wipeFreeBlocks_70 : decode prog_1_method_29_code 70 = .ok (.invokevirtual 197, 3) := by decide +kernel
theorem d_X_wipeFreeBlocks_73 : decode prog_1_method_29_code 73 = .ok (.ifCond .ne 6, 3) := by decide +kernel
theorem d_X_wipeFreeBlocks_76 : decode prog_1_method_29_code 76 = .ok (.bipush (-2), 2) := by decide +kernel
theorem d_X_wipeFreeBlocks_78 : decode prog_1_method_29_code 78 = .ok (.ireturn, 1) := by decide +kernel
theorem d_X_wipeFreeBlocks_79 : decode prog_1_method_29_code 79 = .ok (.iinc 2 1, 3) := by decide +kernel
theorem d_X_wipeFreeBlocks_82 : decode prog_1_method_29_code 82 = .ok (.iinc 3 1, 3) := by decide +kernel
theorem d_X_wipeFreeBlocks_85 : decode prog_1_method_29_code 85 = .ok (.goto (-81), 3) := by decide +kernel
theorem d_X_wipeFreeBlocks_37 : decode prog_1_method_29_code 37 = .ok (.iconst 0, 1) := by decide +kernel
theorem d_X_wipeFreeBlocks_88 : decode prog_1_method_29_code 88 = .ok (.iload_n 2, 1) := by decide +kernel
theorem d_X_wipeFreeBlocks_89 : decode prog_1_method_29_code 89 = .ok (.ireturn, 1) := by decide +kernel
def f_X_readRecord_137 (xn : Nat) (a1 : Nat) (a4 : Int32) (z0 : x_St) : Option (Int32 × x_St) :=
  (x_cl (f_P_fillsMessage xn (a1 + 1) a4 z0) (fun r1 z1 =>
  (x_ckb r1
  (some (r1, z1)))))
def f_X_readRecord_6 (xn : Nat) : Nat → Nat → Int32 → Int32 → Int32 → Int32 → x_St → Option (Int32 × x_St)
  | 0, _, _, _, _, _, _ => none
  | fu + 1, a1, a2, a3, a4, a5, z0 =>
    (if a3 ≤ a5 then
    (f_X_readRecord_137 xn a1 a4 z0)
    else
    (if (2 : Int32) ≤ a5 then
    (f_X_readRecord_137 xn a1 a4 z0)
    else
    (x_cl (f_B_kindOf xn a5 z0) (fun r5 z5 =>
    (x_cl (f_B_onlyGood xn r5 a2 a5 z5) (fun r7 z7 =>
    (if r7 = (-1 : Int32) then
    (some ((0 : Int32), z7))
    else
    (x_cl (f_B_get xn r7 (7 : Int32) z7) (fun r10 z10 =>
    (if a5 = (a3 - (1 : Int32)) then
    (if (a4 + r10) ≤ (66 : Int32) then
    (x_cl (f_B_copyData xn r7 r10 ((a1 + 1) + 1) a4 z10) (fun r19 z19 =>
    (x_ck a5 (x_ln xn (a1 + 4))
    (f_X_readRecord_6 xn fu a1 a2 a3 (a4 + r10) (a5 + (1 : Int32)) (x_put z19 (a1 + 4) (a5).toNatClampNeg r7)))))
    else
    (some ((0 : Int32), z10)))
    else
    (if r10 = (56 : Int32) then
    (if (a4 + r10) ≤ (66 : Int32) then
    (x_cl (f_B_copyData xn r7 r10 ((a1 + 1) + 1) a4 z10) (fun r15 z15 =>
    (x_ck a5 (x_ln xn (a1 + 4))
    (f_X_readRecord_6 xn fu a1 a2 a3 (a4 + r10) (a5 + (1 : Int32)) (x_put z15 (a1 + 4) (a5).toNatClampNeg r7)))))
    else
    (some ((0 : Int32), z10)))
    else
    (some ((0 : Int32), z10)))))))))))))
def f_X_readRecord (xn : Nat) (k1 : Nat) (p2 : Int32) (p3 : Int32) (z0 : x_St) : Option (Int32 × x_St) :=
  (f_X_readRecord_6 xn x_FU k1 p2 p3 (0 : Int32) (0 : Int32) z0)
def f_X_openNumber (xn : Nat) (p1 : Int32) (z0 : x_St) : Option (Unit × x_St) :=
  (x_ck p1 16
  (x_cl (f_B_onlyGood xn (3 : Int32) p1 (-1 : Int32) z0) (fun r2 z2 =>
  (if r2 = (-1 : Int32) then
  (some ((), z2))
  else
  (x_cl (f_B_isMarkAsTold xn r2 z2) (fun r5 z5 =>
  (if r5 = 0 then
  (some ((), z5))
  else
  (x_cl (f_B_get xn r2 (8 : Int32) z5) (fun r8 z8 =>
  (x_cl (f_X_readRecord xn (23 + 5 * (p1).toNatClampNeg) p1 r8 z8) (fun r10 z10 =>
  (if r10 = 0 then
  (some ((), z10))
  else
  none))))))))))))
def f_X_reopen_39 (xn : Nat)  (z0 : x_St) : Option (Int32 × x_St) :=
  (x_cl (f_X_countKept xn z0) (fun r1 z1 =>
  (some (r1, z1))))
def f_X_reopen_22 (xn : Nat) : Nat → Int32 → x_St → Option (Int32 × x_St)
  | 0, _, _ => none
  | fu + 1, a1, z0 =>
    (if (16 : Int32) ≤ a1 then
    (f_X_reopen_39 xn z0)
    else
    (x_cl (f_X_openNumber xn a1 z0) (fun r4 z4 =>
    (f_X_reopen_22 xn fu (a1 + (1 : Int32)) z4))))
def f_X_reopen (xn : Nat)  (z0 : x_St) : Option (Int32 × x_St) :=
  (x_cl (f_X_forget xn (x_put (x_put z0 1 1 (-1 : Int32)) 1 2 (0 : Int32))) (fun r6 z6 =>
  (f_X_reopen_22 xn x_FU (0 : Int32) z6)))
def f_X_badAt_35 (xn : Nat) (a1 : Int32) (z0 : x_St) : Option (Int32 × x_St) :=
  (some (a1, z0))
def f_X_badAt_2 (xn : Nat) : Nat → Int32 → x_St → Option (Int32 × x_St)
  | 0, _, _ => none
  | fu + 1, a1, z0 =>
    (if (z0.1 1 0) ≤ a1 then
    (some ((-1 : Int32), z0))
    else
    (x_cl (f_B_isBlank xn a1 z0) (fun r2 z2 =>
    (if r2 = 0 then
    (x_cl (f_B_isGood xn a1 z2) (fun r5 z5 =>
    (if r5 = 0 then
    (f_X_badAt_35 xn a1 z5)
    else
    (f_X_badAt_2 xn fu (a1 + (1 : Int32)) z5))))
    else
    (f_X_badAt_2 xn fu (a1 + (1 : Int32)) z2)))))
def f_X_badAt (xn : Nat)  (z0 : x_St) : Option (Int32 × x_St) :=
  (f_X_badAt_2 xn x_FU (0 : Int32) z0)
def f_X_told (xn : Nat) (p1 : Int32) (z0 : x_St) : Option (Int32 × x_St) :=
  (if p1 = (0 : Int32) then
  (some ((z0.1 1 0), z0))
  else
  (if p1 = (1 : Int32) then
  (if (z0.1 1 2) = 0 then
  (x_cl (f_X_countFreeBlocks xn z0) (fun r4 z4 =>
  (some (r4, z4))))
  else
  (some ((0 : Int32), z0)))
  else
  (if p1 = (2 : Int32) then
  (x_cl (f_X_countKept xn z0) (fun r7 z7 =>
  (some (r7, z7))))
  else
  (if p1 = (3 : Int32) then
  (x_cl (f_X_countMade xn z0) (fun r10 z10 =>
  (some (r10, z10))))
  else
  (if p1 = (4 : Int32) then
  (some ((z0.1 0 8), z0))
  else
  (if p1 = (5 : Int32) then
  (if (z0.1 1 2) = 0 then
  (some ((0 : Int32), z0))
  else
  (some ((1 : Int32), z0)))
  else
  (if p1 = (6 : Int32) then
  (some ((z0.1 1 1), z0))
  else
  (some ((-1 : Int32), z0)))))))))
def f_X_wipeFreeBlocks_88 (xn : Nat) (a2 : Int32) (z0 : x_St) : Option (Int32 × x_St) :=
  (some (a2, z0))
def f_X_wipeFreeBlocks_76 (xn : Nat)  (z0 : x_St) : Option (Int32 × x_St) :=
  (some ((-2 : Int32), z0))
def f_X_wipeFreeBlocks_4 (xn : Nat) : Nat → Int32 → Int32 → Int32 → x_St → Option (Int32 × x_St)
  | 0, _, _, _, _ => none
  | fu + 1, a1, a2, a3, z0 =>
    (if (z0.1 1 0) ≤ a3 then
    (f_X_wipeFreeBlocks_88 xn a2 z0)
    else
    (if a1 = (-1 : Int32) then
    (x_ck a3 xn
    (if (z0.1 4 (a3).toNatClampNeg) = 0 then
    (x_cl (f_B_isBlank xn a3 z0) (fun r5 z5 =>
    (if r5 = 0 then
    (x_cl (f_B_wipe xn a3 z5) (fun r8 z8 =>
    (if r8 = 0 then
    (f_X_wipeFreeBlocks_76 xn z8)
    else
    (f_X_wipeFreeBlocks_4 xn fu a1 (a2 + (1 : Int32)) (a3 + (1 : Int32)) z8))))
    else
    (f_X_wipeFreeBlocks_4 xn fu a1 a2 (a3 + (1 : Int32)) z5))))
    else
    (f_X_wipeFreeBlocks_4 xn fu a1 a2 (a3 + (1 : Int32)) z0)))
    else
    (x_cl (f_B_get xn a3 (5 : Int32) z0) (fun r11 z11 =>
    (if r11 = a1 then
    (x_ck a3 xn
    (if (z11.1 4 (a3).toNatClampNeg) = 0 then
    (x_cl (f_B_isBlank xn a3 z11) (fun r18 z18 =>
    (if r18 = 0 then
    (x_cl (f_B_wipe xn a3 z18) (fun r21 z21 =>
    (if r21 = 0 then
    (f_X_wipeFreeBlocks_76 xn z21)
    else
    (f_X_wipeFreeBlocks_4 xn fu a1 (a2 + (1 : Int32)) (a3 + (1 : Int32)) z21))))
    else
    (f_X_wipeFreeBlocks_4 xn fu a1 a2 (a3 + (1 : Int32)) z18))))
    else
    (f_X_wipeFreeBlocks_4 xn fu a1 a2 (a3 + (1 : Int32)) z11)))
    else
    (x_ck a3 xn
    (if (z11.1 4 (a3).toNatClampNeg) = 0 then
    (f_X_wipeFreeBlocks_4 xn fu a1 a2 (a3 + (1 : Int32)) z11)
    else
    (f_X_wipeFreeBlocks_4 xn fu a1 a2 (a3 + (1 : Int32)) z11))))))))
def f_X_wipeFreeBlocks (xn : Nat) (p1 : Int32) (z0 : x_St) : Option (Int32 × x_St) :=
  (f_X_wipeFreeBlocks_4 xn x_FU p1 (0 : Int32) (0 : Int32) z0)
abbrev rm_X_readRecord : Room := { frames := 5, cells := 0, slots := 0, locals := 116 }
set_option maxHeartbeats 4000000 in
set_option maxRecDepth 100000 in
theorem w_X_readRecord_137 (l : Launch) (G : x_G) {p : Program} {e : Env} {s : State} {m : MethodId} {args : Array Value} {below : List Frame} {meth : Method} {c : Code} (C0 : x_Ctx G p s m args meth c prog_1_method_31_code "ContentLibrary" 9 (some .boolean)) (r : Int32) (zo : x_St) : ∀ (a1 : Nat) (ha1 : x_isK a1 = true) (a4 : Int32) (z0 : x_St), f_X_readRecord_137 (x_n G) a1 a4 z0 = some (r, zo) → ∀ (H : Heap) (locs : List Loc) (ls : Array Slot), va_P (x_D G) vwCl (x_Wd G z0) H → va_D (x_A G) (x_Wd G z0) → va_S (x_A G) s.heap H locs → lv_has ls 9 [(1, .ref (x_ad G a1)), (4, .int a4)] → W p l e rm_X_readRecord s m args below meth c H locs 0 0 (MQ below (va_Qi (fun a u => r = a ∧ zo = u) (x_PW G) (x_A G)) args s 0 0 (x_A G)) (F0 m 137 ls []) := by
  obtain ⟨hx, hb, hr, hml, hown, hts, hlocks, hz, hK, hG⟩ := id C0
  intro a1 ha1 a4 z0 hf H locs ls hP hD hS hl
  rw [f_X_readRecord_137] at hf
  refine lv_aload_n hx hb d_X_readRecord_137 rfl (lv_at hl 0 rfl) ?_
  refine va_get (D := x_D G) (ci := 3) (v := .ref (x_ad G (a1 + 1))) (C := "ContentLibrary$Kept") (T := x_TK) (N := 6) hx hb hts x_inK hown hK hP a1 (x_lk_K G _ ha1) rfl 1 (by decide) (hts _ t_92) (fun _ h9 => h9) rfl d_X_readRecord_138 ?_
  refine lv_iload hx hb d_X_readRecord_141 (lv_at hl 1 rfl) ?_
  obtain ⟨r1, z1, hq2, hf⟩ := x_cl_some hf
  refine va_calli (va_runV (As := [.int a4]) (rest := []) ⟨hx, hb, hml, hown, hts⟩ (c_P_fillsMessage l G (a1 + 1) (x_K_P ha1) a4 z0 r1 z1 hq2) (cwV 1 hts (x_gV t_215 t_216 t_217 t_4 t_218) rfl rfl rfl (by decide +kernel) ⟨Nat.le_of_ble_eq_true rfl, Nat.le_of_ble_eq_true rfl⟩) ⟨x_blind _ _ _, va_recv hK hP (ci := 2) (q0 := (a1 + 1)) rfl (x_lk_P G _ (x_K_P ha1)), fun U hU hW => ⟨rfl, x_pw hP hD hK hG hS hz hU hW⟩⟩ rfl rfl hl.1 rfl (lv_room (Nat.le_of_ble_eq_true rfl)) d_X_readRecord_143 ⟨Nat.le_of_ble_eq_true rfl, Nat.le_of_ble_eq_true rfl⟩) hS (fun q _ h => h) (fun q h => h) (fun ra u t H locs ht hvm hw hB _ _ hS => ?_)
  obtain ⟨rfl, rfl⟩ := hw
  obtain ⟨hP, hD⟩ := x_back hB ht
  obtain ⟨hbo, hf⟩ := x_ckb_some hf
  obtain ⟨rfl, rfl⟩ := x_ret hf
  exact W.zret (v := r1) hx hb hr (x_nb hbo) (fun t ht hW => ⟨⟨_, _, rfl, ⟨rfl, rfl⟩, x_pw hP hD hK hG hS hz ht hW⟩, hS.F ht⟩) hS.2.2 d_X_readRecord_146
set_option maxHeartbeats 4000000 in
set_option maxRecDepth 100000 in
theorem w_X_readRecord_6 (l : Launch) (G : x_G) {p : Program} {e : Env} {s : State} {m : MethodId} {args : Array Value} {below : List Frame} {meth : Method} {c : Code} (C0 : x_Ctx G p s m args meth c prog_1_method_31_code "ContentLibrary" 9 (some .boolean)) (r : Int32) (zo : x_St) : ∀ (fu : Nat), ∀ (a1 : Nat) (ha1 : x_isK a1 = true) (a2 : Int32) (a3 : Int32) (a4 : Int32) (a5 : Int32) (z0 : x_St), f_X_readRecord_6 (x_n G) fu a1 a2 a3 a4 a5 z0 = some (r, zo) → ∀ (H : Heap) (locs : List Loc) (ls : Array Slot), va_P (x_D G) vwCl (x_Wd G z0) H → va_D (x_A G) (x_Wd G z0) → va_S (x_A G) s.heap H locs → lv_has ls 9 [(0, .ref (x_ad G 0)), (1, .ref (x_ad G a1)), (2, .int a2), (3, .int a3), (4, .int a4), (5, .int a5)] → W p l e rm_X_readRecord s m args below meth c H locs 0 0 (MQ below (va_Qi (fun a u => r = a ∧ zo = u) (x_PW G) (x_A G)) args s 0 0 (x_A G)) (F0 m 6 ls []) := by
  obtain ⟨hx, hb, hr, hml, hown, hts, hlocks, hz, hK, hG⟩ := id C0
  intro fu
  induction fu with
  | zero =>
    intro a1 ha1 a2 a3 a4 a5 z0 hf
    rw [f_X_readRecord_6] at hf
    cases hf
  | succ fu ih =>
    intro a1 ha1 a2 a3 a4 a5 z0 hf H locs ls hP hD hS hl
    rw [f_X_readRecord_6] at hf
    refine lv_iload hx hb d_X_readRecord_6 (lv_at hl 5 rfl) ?_
    refine lv_iload_n hx hb d_X_readRecord_8 rfl (lv_at hl 3 rfl) ?_
    refine lv_icmp_ge (tgt := 137) hx hb d_X_readRecord_9 (by decide) (fun hc3 => ?_) (fun hc3 => ?_)
    · have hf := x_br_t hf hc3
      exact w_X_readRecord_137 l G C0 r zo a1 ha1 a4 z0 hf _ _ _ hP hD hS (lv_sub hl [1, 4] rfl)
    · have hf := x_br_f hf hc3
      refine lv_iload hx hb d_X_readRecord_12 (lv_at hl 5 rfl) ?_
      refine lv_iconst (v := (2 : Int32)) hx hb d_X_readRecord_14 (by decide) ?_
      refine lv_icmp_ge (tgt := 137) hx hb d_X_readRecord_15 (by decide) (fun hc4 => ?_) (fun hc4 => ?_)
      · have hf := x_br_t hf hc4
        exact w_X_readRecord_137 l G C0 r zo a1 ha1 a4 z0 hf _ _ _ hP hD hS (lv_sub hl [1, 4] rfl)
      · have hf := x_br_f hf hc4
        refine lv_aload_n hx hb d_X_readRecord_18 rfl (lv_at hl 0 rfl) ?_
        refine va_get (D := x_D G) (ci := 0) (v := .ref (x_ad G 1)) (C := "ContentLibrary") (T := x_TX) (N := 9) hx hb hts x_inX hown hK hP 0 (x_lk_X G _) rfl 0 (by decide) (hts _ t_130) (fun _ h9 => h9) rfl d_X_readRecord_19 ?_
        refine lv_iload hx hb d_X_readRecord_22 (lv_at hl 5 rfl) ?_
        obtain ⟨r5, z5, hq6, hf⟩ := x_cl_some hf
        refine va_calli (va_runS (As := [.int a5]) (rest := [.ref (x_ad G 1)]) ⟨hx, hb, hml, hown, hts⟩ (c_B_kindOf l G a5 z0 r5 z5 hq6) (va_cwS 1 hts (x_gS t_205 t_206 t_3 t_207) rfl rfl rfl (by decide +kernel) ⟨Nat.le_of_ble_eq_true rfl, Nat.le_of_ble_eq_true rfl⟩) ⟨x_blind _ _ _, fun U hU hW => ⟨rfl, x_pw hP hD hK hG hS hz hU hW⟩⟩ rfl rfl hl.1 rfl (lv_room (Nat.le_of_ble_eq_true rfl)) d_X_readRecord_24 ⟨Nat.le_of_ble_eq_true rfl, Nat.le_of_ble_eq_true rfl⟩) hS (fun q _ h => h) (fun q h => h) (fun ra u t H locs ht hvm hw hB _ _ hS => ?_)
        obtain ⟨rfl, rfl⟩ := hw
        obtain ⟨hP, hD⟩ := x_back hB ht
        refine lv_iload_n hx hb d_X_readRecord_27 rfl (lv_at hl 2 rfl) ?_
        refine lv_iload hx hb d_X_readRecord_28 (lv_at hl 5 rfl) ?_
        obtain ⟨r7, z7, hq8, hf⟩ := x_cl_some hf
        refine va_calli (va_runV (As := [.int r5, .int a2, .int a5]) (rest := []) ⟨hx, hb, hml, hown, hts⟩ (c_B_onlyGood l G r5 a2 a5 z5 r7 z7 hq8) (cwV 3 hts (x_gV t_170 t_171 t_172 t_3 t_173) rfl rfl rfl (by decide +kernel) ⟨Nat.le_of_ble_eq_true rfl, Nat.le_of_ble_eq_true rfl⟩) ⟨x_blind _ _ _, va_recv hK hP (ci := 1) (q0 := 1) rfl (x_lk_B G _), fun U hU hW => ⟨rfl, x_pw hP hD hK hG hS hz hU hW⟩⟩ rfl rfl hl.1 rfl (lv_room (Nat.le_of_ble_eq_true rfl)) d_X_readRecord_30 ⟨Nat.le_of_ble_eq_true rfl, Nat.le_of_ble_eq_true rfl⟩) hS (fun q _ h => h) (fun q h => h) (fun ra u t H locs ht hvm hw hB _ _ hS => ?_)
        obtain ⟨rfl, rfl⟩ := hw
        obtain ⟨hP, hD⟩ := x_back hB ht
        refine lv_istore (lv' := [(6, .int r7), (0, .ref (x_ad G 0)), (1, .ref (x_ad G a1)), (2, .int a2), (3, .int a3), (4, .int a4), (5, .int a5)]) hx hb d_X_readRecord_33 hl (by decide) rfl (fun ls hl => ?_)
        refine lv_iload hx hb d_X_readRecord_35 (lv_at hl 0 rfl) ?_
        refine lv_iconst (v := (-1 : Int32)) hx hb d_X_readRecord_37 (by decide) ?_
        refine lv_icmp_ne (tgt := 43) hx hb d_X_readRecord_38 (by decide) (fun hc9 => ?_) (fun hc9 => ?_)
        · have hf := x_br_f hf hc9
          refine lv_aload_n hx hb d_X_readRecord_43 rfl (lv_at hl 1 rfl) ?_
          refine va_get (D := x_D G) (ci := 0) (v := .ref (x_ad G 1)) (C := "ContentLibrary") (T := x_TX) (N := 9) hx hb hts x_inX hown hK hP 0 (x_lk_X G _) rfl 0 (by decide) (hts _ t_130) (fun _ h9 => h9) rfl d_X_readRecord_44 ?_
          refine lv_iload hx hb d_X_readRecord_47 (lv_at hl 0 rfl) ?_
          refine lv_bipush (v := (7 : Int32)) hx hb d_X_readRecord_49 (by decide) ?_
          obtain ⟨r10, z10, hq11, hf⟩ := x_cl_some hf
          refine va_calli (va_runV (As := [.int r7, .int (7 : Int32)]) (rest := []) ⟨hx, hb, hml, hown, hts⟩ (c_B_get l G r7 (7 : Int32) z7 r10 z10 hq11) (cwV 2 hts (x_gV t_200 t_175 t_176 t_3 t_177) rfl rfl rfl (by decide +kernel) ⟨Nat.le_of_ble_eq_true rfl, Nat.le_of_ble_eq_true rfl⟩) ⟨x_blind _ _ _, va_recv hK hP (ci := 1) (q0 := 1) rfl (x_lk_B G _), fun U hU hW => ⟨rfl, x_pw hP hD hK hG hS hz hU hW⟩⟩ rfl rfl hl.1 rfl (lv_room (Nat.le_of_ble_eq_true rfl)) d_X_readRecord_51 ⟨Nat.le_of_ble_eq_true rfl, Nat.le_of_ble_eq_true rfl⟩) hS (fun q _ h => h) (fun q h => h) (fun ra u t H locs ht hvm hw hB _ _ hS => ?_)
          obtain ⟨rfl, rfl⟩ := hw
          obtain ⟨hP, hD⟩ := x_back hB ht
          refine lv_istore (lv' := [(7, .int r10), (6, .int r7), (0, .ref (x_ad G 0)), (1, .ref (x_ad G a1)), (2, .int a2), (3, .int a3), (4, .int a4), (5, .int a5)]) hx hb d_X_readRecord_54 hl (by decide) rfl (fun ls hl => ?_)
          refine lv_iload hx hb d_X_readRecord_56 (lv_at hl 7 rfl) ?_
          refine lv_iload_n hx hb d_X_readRecord_58 rfl (lv_at hl 5 rfl) ?_
          refine lv_iconst (v := (1 : Int32)) hx hb d_X_readRecord_59 (by decide) ?_
          refine lv_isub hx hb d_X_readRecord_60 ?_
          refine lv_icmp_ne (tgt := 68) hx hb d_X_readRecord_61 (by decide) (fun hc12 => ?_) (fun hc12 => ?_)
          · have hf := x_br_f hf hc12
            refine lv_iconst (v := (0 : Int32)) hx hb d_X_readRecord_68 (by decide) ?_
            refine lv_istore (lv' := [(8, .int (0 : Int32)), (7, .int r10), (6, .int r7), (0, .ref (x_ad G 0)), (1, .ref (x_ad G a1)), (2, .int a2), (3, .int a3), (4, .int a4), (5, .int a5)]) hx hb d_X_readRecord_69 hl (by decide) rfl (fun ls hl => ?_)
            refine lv_iload hx hb d_X_readRecord_71 (lv_at hl 0 rfl) ?_
            refine lv_if_ne (tgt := 83) hx hb d_X_readRecord_73 (by decide) (fun hc => absurd hc (by decide)) (fun _ => ?_)
            refine lv_iload hx hb d_X_readRecord_76 (lv_at hl 1 rfl) ?_
            refine lv_bipush (v := (56 : Int32)) hx hb d_X_readRecord_78 (by decide) ?_
            refine lv_icmp_ne (tgt := 93) hx hb d_X_readRecord_80 (by decide) (fun hc13 => ?_) (fun hc13 => ?_)
            · have hf := x_br_f hf hc13
              refine lv_iconst (v := (0 : Int32)) hx hb d_X_readRecord_93 (by decide) ?_
              obtain ⟨rfl, rfl⟩ := x_ret hf
              exact W.zret (v := (0 : Int32)) hx hb hr rfl (fun t ht hW => ⟨⟨_, _, rfl, ⟨rfl, rfl⟩, x_pw hP hD hK hG hS hz ht hW⟩, hS.F ht⟩) hS.2.2 d_X_readRecord_94
            · have hf := x_br_t hf hc13
              refine lv_iload hx hb d_X_readRecord_83 (lv_at hl 7 rfl) ?_
              refine lv_iload hx hb d_X_readRecord_85 (lv_at hl 1 rfl) ?_
              refine lv_iadd hx hb d_X_readRecord_87 ?_
              refine lv_bipush (v := (66 : Int32)) hx hb d_X_readRecord_88 (by decide) ?_
              refine lv_icmp_le (tgt := 95) hx hb d_X_readRecord_90 (by decide) (fun hc14 => ?_) (fun hc14 => ?_)
              · have hf := x_br_t hf hc14
                refine lv_aload_n hx hb d_X_readRecord_95 rfl (lv_at hl 3 rfl) ?_
                refine va_get (D := x_D G) (ci := 0) (v := .ref (x_ad G 1)) (C := "ContentLibrary") (T := x_TX) (N := 9) hx hb hts x_inX hown hK hP 0 (x_lk_X G _) rfl 0 (by decide) (hts _ t_130) (fun _ h9 => h9) rfl d_X_readRecord_96 ?_
                refine lv_iload hx hb d_X_readRecord_99 (lv_at hl 2 rfl) ?_
                refine lv_iload hx hb d_X_readRecord_101 (lv_at hl 1 rfl) ?_
                refine lv_aload_n hx hb d_X_readRecord_103 rfl (lv_at hl 4 rfl) ?_
                refine va_get (D := x_D G) (ci := 3) (v := .ref (x_ad G (a1 + 1))) (C := "ContentLibrary$Kept") (T := x_TK) (N := 6) hx hb hts x_inK hown hK hP a1 (x_lk_K G _ ha1) rfl 1 (by decide) (hts _ t_92) (fun _ h9 => h9) rfl d_X_readRecord_104 ?_
                refine va_get (D := x_D G) (ci := 2) (v := .ref (x_ad G ((a1 + 1) + 1))) (C := "ContentLibrary$Picture") (T := x_TP) (N := 3) hx hb hts x_inP hown hK hP (a1 + 1) (x_lk_P G _ (x_K_P ha1)) rfl 1 (by decide) (hts _ t_69) (fun _ h9 => h9) rfl d_X_readRecord_107 ?_
                refine lv_iload hx hb d_X_readRecord_110 (lv_at hl 7 rfl) ?_
                obtain ⟨r15, z15, hq16, hf⟩ := x_cl_some hf
                refine va_callv (va_runV (As := [.int r7, .int r10, .ref (x_ad G ((a1 + 1) + 1)), .int a4]) (rest := []) ⟨hx, hb, hml, hown, hts⟩ (c_B_copyData l G r7 r10 ((a1 + 1) + 1) (x_P_A (x_K_P ha1)) a4 z10 r15 z15 hq16) (cwV 4 hts (x_gV t_208 t_209 t_210 t_3 t_211) rfl rfl rfl (by decide +kernel) ⟨Nat.le_of_ble_eq_true rfl, Nat.le_of_ble_eq_true rfl⟩) ⟨x_blind _ _ _, va_recv hK hP (ci := 1) (q0 := 1) rfl (x_lk_B G _), fun U hU hW => ⟨rfl, x_pw hP hD hK hG hS hz hU hW⟩⟩ rfl rfl hl.1 rfl (lv_room (Nat.le_of_ble_eq_true rfl)) d_X_readRecord_112 ⟨Nat.le_of_ble_eq_true rfl, Nat.le_of_ble_eq_true rfl⟩) hS (fun q _ h => h) (fun q h => h) (fun u t H locs ht hvm hw hB _ _ hS => ?_)
                obtain ⟨rfl, rfl⟩ := hw
                obtain ⟨hP, hD⟩ := x_back hB ht
                refine lv_aload_n hx hb d_X_readRecord_115 rfl (lv_at hl 4 rfl) ?_
                refine va_get (D := x_D G) (ci := 3) (v := .ref (x_ad G (a1 + 4))) (C := "ContentLibrary$Kept") (T := x_TK) (N := 6) hx hb hts x_inK hown hK hP a1 (x_lk_K G _ ha1) rfl 5 (by decide) (hts _ t_100) (fun _ h9 => h9) rfl d_X_readRecord_116 ?_
                refine lv_iload hx hb d_X_readRecord_119 (lv_at hl 8 rfl) ?_
                refine lv_iload hx hb d_X_readRecord_121 (lv_at hl 2 rfl) ?_
                obtain ⟨hin17, hf⟩ := x_ck_some hf
                refine va_iast hx hb hK hP hD hS (a1 + 4) 0 (x_lk_A G _ (x_K_A4 ha1)) rfl hin17 d_X_readRecord_123 (fun H locs hP hD hS => ?_)
                rw [x_st_A G _ (x_K_A4 ha1)] at hP hD
                refine lv_iload hx hb d_X_readRecord_124 (lv_at hl 7 rfl) ?_
                refine lv_iload hx hb d_X_readRecord_126 (lv_at hl 1 rfl) ?_
                refine lv_iadd hx hb d_X_readRecord_128 ?_
                refine lv_istore (lv' := [(4, .int (a4 + r10)), (8, .int (0 : Int32)), (7, .int r10), (6, .int r7), (0, .ref (x_ad G 0)), (1, .ref (x_ad G a1)), (2, .int a2), (3, .int a3), (5, .int a5)]) hx hb d_X_readRecord_129 hl (by decide) rfl (fun ls hl => ?_)
                refine lv_iinc (v := (a5 + (1 : Int32))) (lv' := [(5, .int (a5 + (1 : Int32))), (4, .int (a4 + r10)), (8, .int (0 : Int32)), (7, .int r10), (6, .int r7), (0, .ref (x_ad G 0)), (1, .ref (x_ad G a1)), (2, .int a2), (3, .int a3)]) hx hb d_X_readRecord_131 hl (k := 8) rfl rfl (by decide) rfl (fun ls hl => ?_)
                refine lv_goto (tgt := 6) hx hb d_X_readRecord_134 (by decide) ?_
                exact ih a1 ha1 a2 a3 (a4 + r10) (a5 + (1 : Int32)) (x_put z15 (a1 + 4) (a5).toNatClampNeg r7) hf _ _ _ hP hD hS (lv_sub hl [5, 6, 7, 8, 1, 0] rfl)
              · have hf := x_br_f hf hc14
                refine lv_iconst (v := (0 : Int32)) hx hb d_X_readRecord_93 (by decide) ?_
                obtain ⟨rfl, rfl⟩ := x_ret hf
                exact W.zret (v := (0 : Int32)) hx hb hr rfl (fun t ht hW => ⟨⟨_, _, rfl, ⟨rfl, rfl⟩, x_pw hP hD hK hG hS hz ht hW⟩, hS.F ht⟩) hS.2.2 d_X_readRecord_94
          · have hf := x_br_t hf hc12
            refine lv_iconst (v := (1 : Int32)) hx hb d_X_readRecord_64 (by decide) ?_
            refine lv_goto (tgt := 69) hx hb d_X_readRecord_65 (by decide) ?_
            refine lv_istore (lv' := [(8, .int (1 : Int32)), (7, .int r10), (6, .int r7), (0, .ref (x_ad G 0)), (1, .ref (x_ad G a1)), (2, .int a2), (3, .int a3), (4, .int a4), (5, .int a5)]) hx hb d_X_readRecord_69 hl (by decide) rfl (fun ls hl => ?_)
            refine lv_iload hx hb d_X_readRecord_71 (lv_at hl 0 rfl) ?_
            refine lv_if_ne (tgt := 83) hx hb d_X_readRecord_73 (by decide) (fun _ => ?_) (fun hc => absurd hc (by decide))
            refine lv_iload hx hb d_X_readRecord_83 (lv_at hl 7 rfl) ?_
            refine lv_iload hx hb d_X_readRecord_85 (lv_at hl 1 rfl) ?_
            refine lv_iadd hx hb d_X_readRecord_87 ?_
            refine lv_bipush (v := (66 : Int32)) hx hb d_X_readRecord_88 (by decide) ?_
            refine lv_icmp_le (tgt := 95) hx hb d_X_readRecord_90 (by decide) (fun hc18 => ?_) (fun hc18 => ?_)
            · have hf := x_br_t hf hc18
              refine lv_aload_n hx hb d_X_readRecord_95 rfl (lv_at hl 3 rfl) ?_
              refine va_get (D := x_D G) (ci := 0) (v := .ref (x_ad G 1)) (C := "ContentLibrary") (T := x_TX) (N := 9) hx hb hts x_inX hown hK hP 0 (x_lk_X G _) rfl 0 (by decide) (hts _ t_130) (fun _ h9 => h9) rfl d_X_readRecord_96 ?_
              refine lv_iload hx hb d_X_readRecord_99 (lv_at hl 2 rfl) ?_
              refine lv_iload hx hb d_X_readRecord_101 (lv_at hl 1 rfl) ?_
              refine lv_aload_n hx hb d_X_readRecord_103 rfl (lv_at hl 4 rfl) ?_
              refine va_get (D := x_D G) (ci := 3) (v := .ref (x_ad G (a1 + 1))) (C := "ContentLibrary$Kept") (T := x_TK) (N := 6) hx hb hts x_inK hown hK hP a1 (x_lk_K G _ ha1) rfl 1 (by decide) (hts _ t_92) (fun _ h9 => h9) rfl d_X_readRecord_104 ?_
              refine va_get (D := x_D G) (ci := 2) (v := .ref (x_ad G ((a1 + 1) + 1))) (C := "ContentLibrary$Picture") (T := x_TP) (N := 3) hx hb hts x_inP hown hK hP (a1 + 1) (x_lk_P G _ (x_K_P ha1)) rfl 1 (by decide) (hts _ t_69) (fun _ h9 => h9) rfl d_X_readRecord_107 ?_
              refine lv_iload hx hb d_X_readRecord_110 (lv_at hl 7 rfl) ?_
              obtain ⟨r19, z19, hq20, hf⟩ := x_cl_some hf
              refine va_callv (va_runV (As := [.int r7, .int r10, .ref (x_ad G ((a1 + 1) + 1)), .int a4]) (rest := []) ⟨hx, hb, hml, hown, hts⟩ (c_B_copyData l G r7 r10 ((a1 + 1) + 1) (x_P_A (x_K_P ha1)) a4 z10 r19 z19 hq20) (cwV 4 hts (x_gV t_208 t_209 t_210 t_3 t_211) rfl rfl rfl (by decide +kernel) ⟨Nat.le_of_ble_eq_true rfl, Nat.le_of_ble_eq_true rfl⟩) ⟨x_blind _ _ _, va_recv hK hP (ci := 1) (q0 := 1) rfl (x_lk_B G _), fun U hU hW => ⟨rfl, x_pw hP hD hK hG hS hz hU hW⟩⟩ rfl rfl hl.1 rfl (lv_room (Nat.le_of_ble_eq_true rfl)) d_X_readRecord_112 ⟨Nat.le_of_ble_eq_true rfl, Nat.le_of_ble_eq_true rfl⟩) hS (fun q _ h => h) (fun q h => h) (fun u t H locs ht hvm hw hB _ _ hS => ?_)
              obtain ⟨rfl, rfl⟩ := hw
              obtain ⟨hP, hD⟩ := x_back hB ht
              refine lv_aload_n hx hb d_X_readRecord_115 rfl (lv_at hl 4 rfl) ?_
              refine va_get (D := x_D G) (ci := 3) (v := .ref (x_ad G (a1 + 4))) (C := "ContentLibrary$Kept") (T := x_TK) (N := 6) hx hb hts x_inK hown hK hP a1 (x_lk_K G _ ha1) rfl 5 (by decide) (hts _ t_100) (fun _ h9 => h9) rfl d_X_readRecord_116 ?_
              refine lv_iload hx hb d_X_readRecord_119 (lv_at hl 8 rfl) ?_
              refine lv_iload hx hb d_X_readRecord_121 (lv_at hl 2 rfl) ?_
              obtain ⟨hin21, hf⟩ := x_ck_some hf
              refine va_iast hx hb hK hP hD hS (a1 + 4) 0 (x_lk_A G _ (x_K_A4 ha1)) rfl hin21 d_X_readRecord_123 (fun H locs hP hD hS => ?_)
              rw [x_st_A G _ (x_K_A4 ha1)] at hP hD
              refine lv_iload hx hb d_X_readRecord_124 (lv_at hl 7 rfl) ?_
              refine lv_iload hx hb d_X_readRecord_126 (lv_at hl 1 rfl) ?_
              refine lv_iadd hx hb d_X_readRecord_128 ?_
              refine lv_istore (lv' := [(4, .int (a4 + r10)), (8, .int (1 : Int32)), (7, .int r10), (6, .int r7), (0, .ref (x_ad G 0)), (1, .ref (x_ad G a1)), (2, .int a2), (3, .int a3), (5, .int a5)]) hx hb d_X_readRecord_129 hl (by decide) rfl (fun ls hl => ?_)
              refine lv_iinc (v := (a5 + (1 : Int32))) (lv' := [(5, .int (a5 + (1 : Int32))), (4, .int (a4 + r10)), (8, .int (1 : Int32)), (7, .int r10), (6, .int r7), (0, .ref (x_ad G 0)), (1, .ref (x_ad G a1)), (2, .int a2), (3, .int a3)]) hx hb d_X_readRecord_131 hl (k := 8) rfl rfl (by decide) rfl (fun ls hl => ?_)
              refine lv_goto (tgt := 6) hx hb d_X_readRecord_134 (by decide) ?_
              exact ih a1 ha1 a2 a3 (a4 + r10) (a5 + (1 : Int32)) (x_put z19 (a1 + 4) (a5).toNatClampNeg r7) hf _ _ _ hP hD hS (lv_sub hl [5, 6, 7, 8, 1, 0] rfl)
            · have hf := x_br_f hf hc18
              refine lv_iconst (v := (0 : Int32)) hx hb d_X_readRecord_93 (by decide) ?_
              obtain ⟨rfl, rfl⟩ := x_ret hf
              exact W.zret (v := (0 : Int32)) hx hb hr rfl (fun t ht hW => ⟨⟨_, _, rfl, ⟨rfl, rfl⟩, x_pw hP hD hK hG hS hz ht hW⟩, hS.F ht⟩) hS.2.2 d_X_readRecord_94
        · have hf := x_br_t hf hc9
          refine lv_iconst (v := (0 : Int32)) hx hb d_X_readRecord_41 (by decide) ?_
          obtain ⟨rfl, rfl⟩ := x_ret hf
          exact W.zret (v := (0 : Int32)) hx hb hr rfl (fun t ht hW => ⟨⟨_, _, rfl, ⟨rfl, rfl⟩, x_pw hP hD hK hG hS hz ht hW⟩, hS.F ht⟩) hS.2.2 d_X_readRecord_42
set_option maxHeartbeats 4000000 in
set_option maxRecDepth 100000 in
theorem c_X_readRecord (l : Launch) (G : x_G) (k1 : Nat) (hk1 : x_isK k1 = true) (p2 : Int32) (p3 : Int32) (z0 : x_St) (r : Int32) (zo : x_St) (hf : f_X_readRecord (x_n G) k1 p2 p3 z0 = some (r, zo)) : Met l (⟨"ContentLibrary", "readRecord", "(LContentLibrary$Kept;II)Z"⟩ : MethodName) (x_ws (⟨"ContentLibrary", "readRecord", "(LContentLibrary$Kept;II)Z"⟩ : MethodName) prog_1_method_31_code 9 (some .boolean)) rm_X_readRecord (va_Pc [.ref (x_ad G 0), .ref (x_ad G k1), .int p2, .int p3] (x_PW G z0)) (va_Qi (fun a u => r = a ∧ zo = u) (x_PW G) (x_A G)) 0 0 (x_A G) := by
  refine Met.ofW (cc := prog_1_method_31_code) (maxL := 9) (ret := (some .boolean)) (by decide) rfl ?_
  intro p e s m args below meth c s₁ B hml hv
  obtain ⟨rfl, hz, hP, hD, hK, hG⟩ := hv
  have C0 : x_Ctx G p s m _ meth c prog_1_method_31_code "ContentLibrary" 9 (some .boolean) := ⟨B.exec, B.bytes, B.returns, hml, findClass_of_methodNamed B.named, fun w h => atoms_spec (ws := (x_ws (⟨"ContentLibrary", "readRecord", "(LContentLibrary$Kept;II)Z"⟩ : MethodName) prog_1_method_31_code 9 (some .boolean))) B.pre w (List.mem_cons_of_mem _ h), B.notSynchronized, hz, hK, hG⟩
  obtain ⟨hx, hb, hr, hml, hown, hts, hlocks, hz, hK, hG⟩ := id C0
  have hS : va_S (x_A G) s.heap s.heap [] := va_S.rf
  have hl := lv_entry ([.ref (x_ad G 0), .ref (x_ad G k1), .int p2, .int p3]) (n := 9) (Nat.le_of_ble_eq_true rfl)
  rw [lg_entry_eq]
  generalize (lg_sl ([.ref (x_ad G 0), .ref (x_ad G k1), .int p2, .int p3]) ++ List.replicate (9 - (lg_sl ([.ref (x_ad G 0), .ref (x_ad G k1), .int p2, .int p3])).length) Slot.unset).toArray = ls at hl ⊢
  have hl : lv_has ls 9 [(0, .ref (x_ad G 0)), (1, .ref (x_ad G k1)), (2, .int p2), (3, .int p3)] := hl
  rw [f_X_readRecord] at hf
  refine lv_iconst (v := (0 : Int32)) hx hb d_X_readRecord_0 (by decide) ?_
  refine lv_istore (lv' := [(4, .int (0 : Int32)), (0, .ref (x_ad G 0)), (1, .ref (x_ad G k1)), (2, .int p2), (3, .int p3)]) hx hb d_X_readRecord_1 hl (by decide) rfl (fun ls hl => ?_)
  refine lv_iconst (v := (0 : Int32)) hx hb d_X_readRecord_3 (by decide) ?_
  refine lv_istore (lv' := [(5, .int (0 : Int32)), (4, .int (0 : Int32)), (0, .ref (x_ad G 0)), (1, .ref (x_ad G k1)), (2, .int p2), (3, .int p3)]) hx hb d_X_readRecord_4 hl (by decide) rfl (fun ls hl => ?_)
  exact w_X_readRecord_6 l G C0 r zo x_FU k1 hk1 p2 p3 (0 : Int32) (0 : Int32) z0 hf _ _ _ hP hD hS (lv_sub hl [2, 3, 4, 5, 1, 0] rfl)
abbrev rm_X_openNumber : Room := { frames := 6, cells := 0, slots := 0, locals := 144 }
set_option maxHeartbeats 4000000 in
set_option maxRecDepth 100000 in
theorem c_X_openNumber (l : Launch) (G : x_G) (p1 : Int32) (z0 : x_St) (r : Unit) (zo : x_St) (hf : f_X_openNumber (x_n G) p1 z0 = some (r, zo)) : Met l (⟨"ContentLibrary", "openNumber", "(I)V"⟩ : MethodName) (x_ws (⟨"ContentLibrary", "openNumber", "(I)V"⟩ : MethodName) prog_1_method_30_code 5 none) rm_X_openNumber (va_Pc [.ref (x_ad G 0), .int p1] (x_PW G z0)) (va_Qv (fun u => r = () ∧ zo = u) (x_PW G) (x_A G)) 0 0 (x_A G) := by
  refine Met.ofW (cc := prog_1_method_30_code) (maxL := 5) (ret := none) (by decide) rfl ?_
  intro p e s m args below meth c s₁ B hml hv
  obtain ⟨rfl, hz, hP, hD, hK, hG⟩ := hv
  have C0 : x_Ctx G p s m _ meth c prog_1_method_30_code "ContentLibrary" 5 none := ⟨B.exec, B.bytes, B.returns, hml, findClass_of_methodNamed B.named, fun w h => atoms_spec (ws := (x_ws (⟨"ContentLibrary", "openNumber", "(I)V"⟩ : MethodName) prog_1_method_30_code 5 none)) B.pre w (List.mem_cons_of_mem _ h), B.notSynchronized, hz, hK, hG⟩
  obtain ⟨hx, hb, hr, hml, hown, hts, hlocks, hz, hK, hG⟩ := id C0
  have hS : va_S (x_A G) s.heap s.heap [] := va_S.rf
  have hl := lv_entry ([.ref (x_ad G 0), .int p1]) (n := 5) (Nat.le_of_ble_eq_true rfl)
  rw [lg_entry_eq]
  generalize (lg_sl ([.ref (x_ad G 0), .int p1]) ++ List.replicate (5 - (lg_sl ([.ref (x_ad G 0), .int p1])).length) Slot.unset).toArray = ls at hl ⊢
  have hl : lv_has ls 5 [(0, .ref (x_ad G 0)), (1, .int p1)] := hl
  rw [f_X_openNumber] at hf
  refine lv_aload_n hx hb d_X_openNumber_0 rfl (lv_at hl 0 rfl) ?_
  refine va_get (D := x_D G) (ci := 0) (v := .ref (x_ad G 22)) (C := "ContentLibrary") (T := x_TX) (N := 9) hx hb hts x_inX hown hK hP 0 (x_lk_X G _) rfl 3 (by decide) (hts _ t_133) (fun _ h9 => h9) rfl d_X_openNumber_1 ?_
  refine lv_iload_n hx hb d_X_openNumber_4 rfl (lv_at hl 1 rfl) ?_
  obtain ⟨hin1, hf⟩ := x_ck_some hf
  refine va_aldq hx hb hK hP 22 3 (x_lk_kept G _) rfl hin1 d_X_openNumber_5 ?_
  refine W.eq (g2 := F0 m 6 ls [.ref (x_ad G (23 + 5 * (p1).toNatClampNeg))]) rfl ?_
  refine lv_astore_n (lv' := [(2, .ref (x_ad G (23 + 5 * (p1).toNatClampNeg))), (0, .ref (x_ad G 0)), (1, .int p1)]) hx hb d_X_openNumber_6 rfl hl (by decide) rfl (fun ls hl => ?_)
  refine lv_aload_n hx hb d_X_openNumber_7 rfl (lv_at hl 1 rfl) ?_
  refine va_get (D := x_D G) (ci := 0) (v := .ref (x_ad G 1)) (C := "ContentLibrary") (T := x_TX) (N := 9) hx hb hts x_inX hown hK hP 0 (x_lk_X G _) rfl 0 (by decide) (hts _ t_130) (fun _ h9 => h9) rfl d_X_openNumber_8 ?_
  refine lv_iconst (v := (3 : Int32)) hx hb d_X_openNumber_11 (by decide) ?_
  refine lv_iload_n hx hb d_X_openNumber_12 rfl (lv_at hl 2 rfl) ?_
  refine lv_iconst (v := (-1 : Int32)) hx hb d_X_openNumber_13 (by decide) ?_
  obtain ⟨r2, z2, hq3, hf⟩ := x_cl_some hf
  refine va_calli (va_runV (As := [.int (3 : Int32), .int p1, .int (-1 : Int32)]) (rest := []) ⟨hx, hb, hml, hown, hts⟩ (c_B_onlyGood l G (3 : Int32) p1 (-1 : Int32) z0 r2 z2 hq3) (cwV 3 hts (x_gV t_170 t_171 t_172 t_3 t_173) rfl rfl rfl (by decide +kernel) ⟨Nat.le_of_ble_eq_true rfl, Nat.le_of_ble_eq_true rfl⟩) ⟨x_blind _ _ _, va_recv hK hP (ci := 1) (q0 := 1) rfl (x_lk_B G _), fun U hU hW => ⟨rfl, x_pw hP hD hK hG hS hz hU hW⟩⟩ rfl rfl hl.1 rfl (lv_room (Nat.le_of_ble_eq_true rfl)) d_X_openNumber_14 ⟨Nat.le_of_ble_eq_true rfl, Nat.le_of_ble_eq_true rfl⟩) hS (fun q _ h => h) (fun q h => h) (fun ra u t H locs ht hvm hw hB _ _ hS => ?_)
  obtain ⟨rfl, rfl⟩ := hw
  obtain ⟨hP, hD⟩ := x_back hB ht
  refine lv_istore_n (lv' := [(3, .int r2), (2, .ref (x_ad G (23 + 5 * (p1).toNatClampNeg))), (0, .ref (x_ad G 0)), (1, .int p1)]) hx hb d_X_openNumber_17 rfl hl (by decide) rfl (fun ls hl => ?_)
  refine lv_iload_n hx hb d_X_openNumber_18 rfl (lv_at hl 0 rfl) ?_
  refine lv_iconst (v := (-1 : Int32)) hx hb d_X_openNumber_19 (by decide) ?_
  refine lv_icmp_eq (tgt := 34) hx hb d_X_openNumber_20 (by decide) (fun hc4 => ?_) (fun hc4 => ?_)
  · have hf := x_br_t hf hc4
    obtain ⟨rfl, rfl⟩ := x_ret hf
    exact W.vret hx hb hr (fun t ht hW => ⟨⟨_, rfl, ⟨rfl, rfl⟩, x_pw hP hD hK hG hS hz ht hW⟩, hS.F ht⟩) hS.2.2 d_X_openNumber_34
  · have hf := x_br_f hf hc4
    refine lv_aload_n hx hb d_X_openNumber_23 rfl (lv_at hl 2 rfl) ?_
    refine va_get (D := x_D G) (ci := 0) (v := .ref (x_ad G 1)) (C := "ContentLibrary") (T := x_TX) (N := 9) hx hb hts x_inX hown hK hP 0 (x_lk_X G _) rfl 0 (by decide) (hts _ t_130) (fun _ h9 => h9) rfl d_X_openNumber_24 ?_
    refine lv_iload_n hx hb d_X_openNumber_27 rfl (lv_at hl 0 rfl) ?_
    obtain ⟨r5, z5, hq6, hf⟩ := x_cl_some hf
    refine va_calli (va_runV (As := [.int r2]) (rest := []) ⟨hx, hb, hml, hown, hts⟩ (c_B_isMarkAsTold l G r2 z2 r5 z5 hq6) (cwV 1 hts (x_gV t_196 t_197 t_198 t_3 t_199) rfl rfl rfl (by decide +kernel) ⟨Nat.le_of_ble_eq_true rfl, Nat.le_of_ble_eq_true rfl⟩) ⟨x_blind _ _ _, va_recv hK hP (ci := 1) (q0 := 1) rfl (x_lk_B G _), fun U hU hW => ⟨rfl, x_pw hP hD hK hG hS hz hU hW⟩⟩ rfl rfl hl.1 rfl (lv_room (Nat.le_of_ble_eq_true rfl)) d_X_openNumber_28 ⟨Nat.le_of_ble_eq_true rfl, Nat.le_of_ble_eq_true rfl⟩) hS (fun q _ h => h) (fun q h => h) (fun ra u t H locs ht hvm hw hB _ _ hS => ?_)
    obtain ⟨rfl, rfl⟩ := hw
    obtain ⟨hP, hD⟩ := x_back hB ht
    refine lv_if_ne (tgt := 35) hx hb d_X_openNumber_31 (by decide) (fun hc7 => ?_) (fun hc7 => ?_)
    · have hf := x_br_f hf hc7
      refine lv_aload_n hx hb d_X_openNumber_35 rfl (lv_at hl 2 rfl) ?_
      refine va_get (D := x_D G) (ci := 0) (v := .ref (x_ad G 1)) (C := "ContentLibrary") (T := x_TX) (N := 9) hx hb hts x_inX hown hK hP 0 (x_lk_X G _) rfl 0 (by decide) (hts _ t_130) (fun _ h9 => h9) rfl d_X_openNumber_36 ?_
      refine lv_iload_n hx hb d_X_openNumber_39 rfl (lv_at hl 0 rfl) ?_
      refine lv_bipush (v := (8 : Int32)) hx hb d_X_openNumber_40 (by decide) ?_
      obtain ⟨r8, z8, hq9, hf⟩ := x_cl_some hf
      refine va_calli (va_runV (As := [.int r2, .int (8 : Int32)]) (rest := []) ⟨hx, hb, hml, hown, hts⟩ (c_B_get l G r2 (8 : Int32) z5 r8 z8 hq9) (cwV 2 hts (x_gV t_200 t_175 t_176 t_3 t_177) rfl rfl rfl (by decide +kernel) ⟨Nat.le_of_ble_eq_true rfl, Nat.le_of_ble_eq_true rfl⟩) ⟨x_blind _ _ _, va_recv hK hP (ci := 1) (q0 := 1) rfl (x_lk_B G _), fun U hU hW => ⟨rfl, x_pw hP hD hK hG hS hz hU hW⟩⟩ rfl rfl hl.1 rfl (lv_room (Nat.le_of_ble_eq_true rfl)) d_X_openNumber_42 ⟨Nat.le_of_ble_eq_true rfl, Nat.le_of_ble_eq_true rfl⟩) hS (fun q _ h => h) (fun q h => h) (fun ra u t H locs ht hvm hw hB _ _ hS => ?_)
      obtain ⟨rfl, rfl⟩ := hw
      obtain ⟨hP, hD⟩ := x_back hB ht
      refine lv_istore (lv' := [(4, .int r8), (3, .int r2), (2, .ref (x_ad G (23 + 5 * (p1).toNatClampNeg))), (0, .ref (x_ad G 0)), (1, .int p1)]) hx hb d_X_openNumber_45 hl (by decide) rfl (fun ls hl => ?_)
      refine lv_aload_n hx hb d_X_openNumber_47 rfl (lv_at hl 3 rfl) ?_
      refine lv_aload_n hx hb d_X_openNumber_48 rfl (lv_at hl 2 rfl) ?_
      refine lv_iload_n hx hb d_X_openNumber_49 rfl (lv_at hl 4 rfl) ?_
      refine lv_iload hx hb d_X_openNumber_50 (lv_at hl 0 rfl) ?_
      obtain ⟨r10, z10, hq11, hf⟩ := x_cl_some hf
      refine va_calli (va_runV (As := [.ref (x_ad G (23 + 5 * (p1).toNatClampNeg)), .int p1, .int r8]) (rest := []) ⟨hx, hb, hml, hown, hts⟩ (c_X_readRecord l G (23 + 5 * (p1).toNatClampNeg) (x_el_K hin1) p1 r8 z8 r10 z10 hq11) (cwV 3 hts (x_gV t_201 t_203 sel_ContentLibrary_readRecord t_1 t_204) rfl rfl rfl (by decide +kernel) ⟨Nat.le_of_ble_eq_true rfl, Nat.le_of_ble_eq_true rfl⟩) ⟨x_blind _ _ _, va_recv hK hP (ci := 0) (q0 := 0) rfl (x_lk_X G _), fun U hU hW => ⟨rfl, x_pw hP hD hK hG hS hz hU hW⟩⟩ rfl rfl hl.1 rfl (lv_room (Nat.le_of_ble_eq_true rfl)) d_X_openNumber_52 ⟨Nat.le_of_ble_eq_true rfl, Nat.le_of_ble_eq_true rfl⟩) hS (fun q _ h => h) (fun q h => h) (fun ra u t H locs ht hvm hw hB _ _ hS => ?_)
      obtain ⟨rfl, rfl⟩ := hw
      obtain ⟨hP, hD⟩ := x_back hB ht
      refine lv_if_ne (tgt := 59) hx hb d_X_openNumber_55 (by decide) (fun hc12 => ?_) (fun hc12 => ?_)
      · have hf := x_br_f hf hc12
        cases hf
      · have hf := x_br_t hf hc12
        obtain ⟨rfl, rfl⟩ := x_ret hf
        exact W.vret hx hb hr (fun t ht hW => ⟨⟨_, rfl, ⟨rfl, rfl⟩, x_pw hP hD hK hG hS hz ht hW⟩, hS.F ht⟩) hS.2.2 d_X_openNumber_58
    · have hf := x_br_t hf hc7
      obtain ⟨rfl, rfl⟩ := x_ret hf
      exact W.vret hx hb hr (fun t ht hW => ⟨⟨_, rfl, ⟨rfl, rfl⟩, x_pw hP hD hK hG hS hz ht hW⟩, hS.F ht⟩) hS.2.2 d_X_openNumber_34
abbrev rm_X_reopen : Room := { frames := 7, cells := 0, slots := 0, locals := 168 }
set_option maxHeartbeats 4000000 in
set_option maxRecDepth 100000 in
theorem w_X_reopen_39 (l : Launch) (G : x_G) {p : Program} {e : Env} {s : State} {m : MethodId} {args : Array Value} {below : List Frame} {meth : Method} {c : Code} (C0 : x_Ctx G p s m args meth c prog_1_method_13_code "ContentLibrary" 2 (some .int)) (r : Int32) (zo : x_St) : ∀ (z0 : x_St), f_X_reopen_39 (x_n G)  z0 = some (r, zo) → ∀ (H : Heap) (locs : List Loc) (ls : Array Slot), va_P (x_D G) vwCl (x_Wd G z0) H → va_D (x_A G) (x_Wd G z0) → va_S (x_A G) s.heap H locs → lv_has ls 2 [(0, .ref (x_ad G 0))] → W p l e rm_X_reopen s m args below meth c H locs 0 0 (MQ below (va_Qi (fun a u => r = a ∧ zo = u) (x_PW G) (x_A G)) args s 0 0 (x_A G)) (F0 m 39 ls []) := by
  obtain ⟨hx, hb, hr, hml, hown, hts, hlocks, hz, hK, hG⟩ := id C0
  intro  z0 hf H locs ls hP hD hS hl
  rw [f_X_reopen_39] at hf
  refine lv_aload_n hx hb d_X_reopen_39 rfl (lv_at hl 0 rfl) ?_
  obtain ⟨r1, z1, hq2, hf⟩ := x_cl_some hf
  refine va_calli (va_runV (As := []) (rest := []) ⟨hx, hb, hml, hown, hts⟩ (c_X_countKept l G z0 r1 z1 hq2) (cwV 0 hts (x_gV t_297 t_299 sel_ContentLibrary_countKept t_1 t_300) rfl rfl rfl (by decide +kernel) ⟨Nat.le_of_ble_eq_true rfl, Nat.le_of_ble_eq_true rfl⟩) ⟨x_blind _ _ _, va_recv hK hP (ci := 0) (q0 := 0) rfl (x_lk_X G _), fun U hU hW => ⟨rfl, x_pw hP hD hK hG hS hz hU hW⟩⟩ rfl rfl hl.1 rfl (lv_room (Nat.le_of_ble_eq_true rfl)) d_X_reopen_40 ⟨Nat.le_of_ble_eq_true rfl, Nat.le_of_ble_eq_true rfl⟩) hS (fun q _ h => h) (fun q h => h) (fun ra u t H locs ht hvm hw hB _ _ hS => ?_)
  obtain ⟨rfl, rfl⟩ := hw
  obtain ⟨hP, hD⟩ := x_back hB ht
  obtain ⟨rfl, rfl⟩ := x_ret hf
  exact W.iret (v := r1) hx hb hr (fun t ht hW => ⟨⟨_, _, rfl, ⟨rfl, rfl⟩, x_pw hP hD hK hG hS hz ht hW⟩, hS.F ht⟩) hS.2.2 d_X_reopen_43
set_option maxHeartbeats 4000000 in
set_option maxRecDepth 100000 in
theorem w_X_reopen_22 (l : Launch) (G : x_G) {p : Program} {e : Env} {s : State} {m : MethodId} {args : Array Value} {below : List Frame} {meth : Method} {c : Code} (C0 : x_Ctx G p s m args meth c prog_1_method_13_code "ContentLibrary" 2 (some .int)) (r : Int32) (zo : x_St) : ∀ (fu : Nat), ∀ (a1 : Int32) (z0 : x_St), f_X_reopen_22 (x_n G) fu a1 z0 = some (r, zo) → ∀ (H : Heap) (locs : List Loc) (ls : Array Slot), va_P (x_D G) vwCl (x_Wd G z0) H → va_D (x_A G) (x_Wd G z0) → va_S (x_A G) s.heap H locs → lv_has ls 2 [(0, .ref (x_ad G 0)), (1, .int a1)] → W p l e rm_X_reopen s m args below meth c H locs 0 0 (MQ below (va_Qi (fun a u => r = a ∧ zo = u) (x_PW G) (x_A G)) args s 0 0 (x_A G)) (F0 m 22 ls []) := by
  obtain ⟨hx, hb, hr, hml, hown, hts, hlocks, hz, hK, hG⟩ := id C0
  intro fu
  induction fu with
  | zero =>
    intro a1 z0 hf
    rw [f_X_reopen_22] at hf
    cases hf
  | succ fu ih =>
    intro a1 z0 hf H locs ls hP hD hS hl
    rw [f_X_reopen_22] at hf
    refine lv_iload_n hx hb d_X_reopen_22 rfl (lv_at hl 1 rfl) ?_
    refine lv_bipush (v := (16 : Int32)) hx hb d_X_reopen_23 (by decide) ?_
    refine lv_icmp_ge (tgt := 39) hx hb d_X_reopen_25 (by decide) (fun hc3 => ?_) (fun hc3 => ?_)
    · have hf := x_br_t hf hc3
      exact w_X_reopen_39 l G C0 r zo z0 hf _ _ _ hP hD hS (lv_sub hl [0] rfl)
    · have hf := x_br_f hf hc3
      refine lv_aload_n hx hb d_X_reopen_28 rfl (lv_at hl 0 rfl) ?_
      refine lv_iload_n hx hb d_X_reopen_29 rfl (lv_at hl 1 rfl) ?_
      obtain ⟨r4, z4, hq5, hf⟩ := x_cl_some hf
      refine va_callv (va_runV (As := [.int a1]) (rest := []) ⟨hx, hb, hml, hown, hts⟩ (c_X_openNumber l G a1 z0 r4 z4 hq5) (cwV 1 hts (x_gV t_166 t_168 sel_ContentLibrary_openNumber t_1 t_169) rfl rfl rfl (by decide +kernel) ⟨Nat.le_of_ble_eq_true rfl, Nat.le_of_ble_eq_true rfl⟩) ⟨x_blind _ _ _, va_recv hK hP (ci := 0) (q0 := 0) rfl (x_lk_X G _), fun U hU hW => ⟨rfl, x_pw hP hD hK hG hS hz hU hW⟩⟩ rfl rfl hl.1 rfl (lv_room (Nat.le_of_ble_eq_true rfl)) d_X_reopen_30 ⟨Nat.le_of_ble_eq_true rfl, Nat.le_of_ble_eq_true rfl⟩) hS (fun q _ h => h) (fun q h => h) (fun u t H locs ht hvm hw hB _ _ hS => ?_)
      obtain ⟨rfl, rfl⟩ := hw
      obtain ⟨hP, hD⟩ := x_back hB ht
      refine lv_iinc (v := (a1 + (1 : Int32))) (lv' := [(1, .int (a1 + (1 : Int32))), (0, .ref (x_ad G 0))]) hx hb d_X_reopen_33 hl (k := 1) rfl rfl (by decide) rfl (fun ls hl => ?_)
      refine lv_goto (tgt := 22) hx hb d_X_reopen_36 (by decide) ?_
      exact ih (a1 + (1 : Int32)) z4 hf _ _ _ hP hD hS (lv_sub hl [1, 0] rfl)
set_option maxHeartbeats 4000000 in
set_option maxRecDepth 100000 in
theorem c_X_reopen (l : Launch) (G : x_G)  (z0 : x_St) (r : Int32) (zo : x_St) (hf : f_X_reopen (x_n G)  z0 = some (r, zo)) : Met l (⟨"ContentLibrary", "reopen", "()I"⟩ : MethodName) (x_ws (⟨"ContentLibrary", "reopen", "()I"⟩ : MethodName) prog_1_method_13_code 2 (some .int)) rm_X_reopen (va_Pc [.ref (x_ad G 0)] (x_PW G z0)) (va_Qi (fun a u => r = a ∧ zo = u) (x_PW G) (x_A G)) 0 0 (x_A G) := by
  refine Met.ofW (cc := prog_1_method_13_code) (maxL := 2) (ret := (some .int)) (by decide) rfl ?_
  intro p e s m args below meth c s₁ B hml hv
  obtain ⟨rfl, hz, hP, hD, hK, hG⟩ := hv
  have C0 : x_Ctx G p s m _ meth c prog_1_method_13_code "ContentLibrary" 2 (some .int) := ⟨B.exec, B.bytes, B.returns, hml, findClass_of_methodNamed B.named, fun w h => atoms_spec (ws := (x_ws (⟨"ContentLibrary", "reopen", "()I"⟩ : MethodName) prog_1_method_13_code 2 (some .int))) B.pre w (List.mem_cons_of_mem _ h), B.notSynchronized, hz, hK, hG⟩
  obtain ⟨hx, hb, hr, hml, hown, hts, hlocks, hz, hK, hG⟩ := id C0
  have hS : va_S (x_A G) s.heap s.heap [] := va_S.rf
  have hl := lv_entry ([.ref (x_ad G 0)]) (n := 2) (Nat.le_of_ble_eq_true rfl)
  rw [lg_entry_eq]
  generalize (lg_sl ([.ref (x_ad G 0)]) ++ List.replicate (2 - (lg_sl ([.ref (x_ad G 0)])).length) Slot.unset).toArray = ls at hl ⊢
  have hl : lv_has ls 2 [(0, .ref (x_ad G 0))] := hl
  rw [f_X_reopen] at hf
  refine lv_aload_n hx hb d_X_reopen_0 rfl (lv_at hl 0 rfl) ?_
  refine va_get (D := x_D G) (ci := 0) (v := .ref (x_ad G 1)) (C := "ContentLibrary") (T := x_TX) (N := 9) hx hb hts x_inX hown hK hP 0 (x_lk_X G _) rfl 0 (by decide) (hts _ t_130) (fun _ h9 => h9) rfl d_X_reopen_1 ?_
  refine lv_iconst (v := (-1 : Int32)) hx hb d_X_reopen_4 (by decide) ?_
  refine va_put (D := x_D G) (ci := 1) (v := .int (-1 : Int32)) (ty := .int) (C := "ContentLibrary$Blocks") (T := x_TB) (N := 5) hx hb hts x_inB x_tyB x_tyB_ok x_nmB hown hK hP hD hS 1 (x_lk_B G _) rfl 1 (by decide) (hts _ t_42) (fun _ h9 => h9) rfl (by decide +kernel) rfl rfl (Nat.le_of_ble_eq_true rfl) d_X_reopen_5 (fun H locs hP hD hS => ?_)
  rw [x_st_B1 G _] at hP hD
  refine lv_aload_n hx hb d_X_reopen_8 rfl (lv_at hl 0 rfl) ?_
  refine va_get (D := x_D G) (ci := 0) (v := .ref (x_ad G 1)) (C := "ContentLibrary") (T := x_TX) (N := 9) hx hb hts x_inX hown hK hP 0 (x_lk_X G _) rfl 0 (by decide) (hts _ t_130) (fun _ h9 => h9) rfl d_X_reopen_9 ?_
  refine lv_iconst (v := (0 : Int32)) hx hb d_X_reopen_12 (by decide) ?_
  refine va_put (D := x_D G) (ci := 1) (v := .int (0 : Int32)) (ty := .boolean) (C := "ContentLibrary$Blocks") (T := x_TB) (N := 5) hx hb hts x_inB x_tyB x_tyB_ok x_nmB hown hK hP hD hS 1 (x_lk_B G _) rfl 2 (by decide) (hts _ t_44) (fun _ h9 => h9) rfl (by decide +kernel) rfl rfl (Nat.le_of_ble_eq_true rfl) d_X_reopen_13 (fun H locs hP hD hS => ?_)
  rw [x_st_B2 G _] at hP hD
  refine lv_aload_n hx hb d_X_reopen_16 rfl (lv_at hl 0 rfl) ?_
  obtain ⟨r6, z6, hq7, hf⟩ := x_cl_some hf
  refine va_callv (va_runV (As := []) (rest := []) ⟨hx, hb, hml, hown, hts⟩ (c_X_forget l G (x_put (x_put z0 1 1 (-1 : Int32)) 1 2 (0 : Int32)) r6 z6 hq7) (cwV 0 hts (x_gV t_162 t_164 sel_ContentLibrary_forget t_1 t_165) rfl rfl rfl (by decide +kernel) ⟨Nat.le_of_ble_eq_true rfl, Nat.le_of_ble_eq_true rfl⟩) ⟨x_blind _ _ _, va_recv hK hP (ci := 0) (q0 := 0) rfl (x_lk_X G _), fun U hU hW => ⟨rfl, x_pw hP hD hK hG hS hz hU hW⟩⟩ rfl rfl hl.1 rfl (lv_room (Nat.le_of_ble_eq_true rfl)) d_X_reopen_17 ⟨Nat.le_of_ble_eq_true rfl, Nat.le_of_ble_eq_true rfl⟩) hS (fun q _ h => h) (fun q h => h) (fun u t H locs ht hvm hw hB _ _ hS => ?_)
  obtain ⟨rfl, rfl⟩ := hw
  obtain ⟨hP, hD⟩ := x_back hB ht
  refine lv_iconst (v := (0 : Int32)) hx hb d_X_reopen_20 (by decide) ?_
  refine lv_istore_n (lv' := [(1, .int (0 : Int32)), (0, .ref (x_ad G 0))]) hx hb d_X_reopen_21 rfl hl (by decide) rfl (fun ls hl => ?_)
  exact w_X_reopen_22 l G C0 r zo x_FU (0 : Int32) z6 hf _ _ _ hP hD hS (lv_sub hl [1, 0] rfl)
abbrev rm_X_badAt : Room := { frames := 4, cells := 0, slots := 0, locals := 90 }
set_option maxHeartbeats 4000000 in
set_option maxRecDepth 100000 in
theorem w_X_badAt_35 (l : Launch) (G : x_G) {p : Program} {e : Env} {s : State} {m : MethodId} {args : Array Value} {below : List Frame} {meth : Method} {c : Code} (C0 : x_Ctx G p s m args meth c prog_1_method_15_code "ContentLibrary" 2 (some .int)) (r : Int32) (zo : x_St) : ∀ (a1 : Int32) (z0 : x_St), f_X_badAt_35 (x_n G) a1 z0 = some (r, zo) → ∀ (H : Heap) (locs : List Loc) (ls : Array Slot), va_P (x_D G) vwCl (x_Wd G z0) H → va_D (x_A G) (x_Wd G z0) → va_S (x_A G) s.heap H locs → lv_has ls 2 [(1, .int a1)] → W p l e rm_X_badAt s m args below meth c H locs 0 0 (MQ below (va_Qi (fun a u => r = a ∧ zo = u) (x_PW G) (x_A G)) args s 0 0 (x_A G)) (F0 m 35 ls []) := by
  obtain ⟨hx, hb, hr, hml, hown, hts, hlocks, hz, hK, hG⟩ := id C0
  intro a1 z0 hf H locs ls hP hD hS hl
  rw [f_X_badAt_35] at hf
  refine lv_iload_n hx hb d_X_badAt_35 rfl (lv_at hl 0 rfl) ?_
  obtain ⟨rfl, rfl⟩ := x_ret hf
  exact W.iret (v := a1) hx hb hr (fun t ht hW => ⟨⟨_, _, rfl, ⟨rfl, rfl⟩, x_pw hP hD hK hG hS hz ht hW⟩, hS.F ht⟩) hS.2.2 d_X_badAt_36
set_option maxHeartbeats 4000000 in
set_option maxRecDepth 100000 in
theorem w_X_badAt_2 (l : Launch) (G : x_G) {p : Program} {e : Env} {s : State} {m : MethodId} {args : Array Value} {below : List Frame} {meth : Method} {c : Code} (C0 : x_Ctx G p s m args meth c prog_1_method_15_code "ContentLibrary" 2 (some .int)) (r : Int32) (zo : x_St) : ∀ (fu : Nat), ∀ (a1 : Int32) (z0 : x_St), f_X_badAt_2 (x_n G) fu a1 z0 = some (r, zo) → ∀ (H : Heap) (locs : List Loc) (ls : Array Slot), va_P (x_D G) vwCl (x_Wd G z0) H → va_D (x_A G) (x_Wd G z0) → va_S (x_A G) s.heap H locs → lv_has ls 2 [(0, .ref (x_ad G 0)), (1, .int a1)] → W p l e rm_X_badAt s m args below meth c H locs 0 0 (MQ below (va_Qi (fun a u => r = a ∧ zo = u) (x_PW G) (x_A G)) args s 0 0 (x_A G)) (F0 m 2 ls []) := by
  obtain ⟨hx, hb, hr, hml, hown, hts, hlocks, hz, hK, hG⟩ := id C0
  intro fu
  induction fu with
  | zero =>
    intro a1 z0 hf
    rw [f_X_badAt_2] at hf
    cases hf
  | succ fu ih =>
    intro a1 z0 hf H locs ls hP hD hS hl
    rw [f_X_badAt_2] at hf
    refine lv_iload_n hx hb d_X_badAt_2 rfl (lv_at hl 1 rfl) ?_
    refine lv_aload_n hx hb d_X_badAt_3 rfl (lv_at hl 0 rfl) ?_
    refine va_get (D := x_D G) (ci := 0) (v := .ref (x_ad G 1)) (C := "ContentLibrary") (T := x_TX) (N := 9) hx hb hts x_inX hown hK hP 0 (x_lk_X G _) rfl 0 (by decide) (hts _ t_130) (fun _ h9 => h9) rfl d_X_badAt_4 ?_
    refine va_get (D := x_D G) (ci := 1) (v := .int (z0.1 1 0)) (C := "ContentLibrary$Blocks") (T := x_TB) (N := 5) hx hb hts x_inB hown hK hP 1 (x_lk_B G _) rfl 0 (by decide) (hts _ t_40) (fun _ h9 => h9) rfl d_X_badAt_7 ?_
    refine lv_icmp_ge (tgt := 43) hx hb d_X_badAt_10 (by decide) (fun hc1 => ?_) (fun hc1 => ?_)
    · have hf := x_br_t hf hc1
      refine lv_iconst (v := (-1 : Int32)) hx hb d_X_badAt_43 (by decide) ?_
      obtain ⟨rfl, rfl⟩ := x_ret hf
      exact W.iret (v := (-1 : Int32)) hx hb hr (fun t ht hW => ⟨⟨_, _, rfl, ⟨rfl, rfl⟩, x_pw hP hD hK hG hS hz ht hW⟩, hS.F ht⟩) hS.2.2 d_X_badAt_44
    · have hf := x_br_f hf hc1
      refine lv_aload_n hx hb d_X_badAt_13 rfl (lv_at hl 0 rfl) ?_
      refine va_get (D := x_D G) (ci := 0) (v := .ref (x_ad G 1)) (C := "ContentLibrary") (T := x_TX) (N := 9) hx hb hts x_inX hown hK hP 0 (x_lk_X G _) rfl 0 (by decide) (hts _ t_130) (fun _ h9 => h9) rfl d_X_badAt_14 ?_
      refine lv_iload_n hx hb d_X_badAt_17 rfl (lv_at hl 1 rfl) ?_
      obtain ⟨r2, z2, hq3, hf⟩ := x_cl_some hf
      refine va_calli (va_runV (As := [.int a1]) (rest := []) ⟨hx, hb, hml, hown, hts⟩ (c_B_isBlank l G a1 z0 r2 z2 hq3) (cwV 1 hts (x_gV t_305 t_306 t_307 t_3 t_308) rfl rfl rfl (by decide +kernel) ⟨Nat.le_of_ble_eq_true rfl, Nat.le_of_ble_eq_true rfl⟩) ⟨x_blind _ _ _, va_recv hK hP (ci := 1) (q0 := 1) rfl (x_lk_B G _), fun U hU hW => ⟨rfl, x_pw hP hD hK hG hS hz hU hW⟩⟩ rfl rfl hl.1 rfl (lv_room (Nat.le_of_ble_eq_true rfl)) d_X_badAt_18 ⟨Nat.le_of_ble_eq_true rfl, Nat.le_of_ble_eq_true rfl⟩) hS (fun q _ h => h) (fun q h => h) (fun ra u t H locs ht hvm hw hB _ _ hS => ?_)
      obtain ⟨rfl, rfl⟩ := hw
      obtain ⟨hP, hD⟩ := x_back hB ht
      refine lv_if_ne (tgt := 37) hx hb d_X_badAt_21 (by decide) (fun hc4 => ?_) (fun hc4 => ?_)
      · have hf := x_br_f hf hc4
        refine lv_iinc (v := (a1 + (1 : Int32))) (lv' := [(1, .int (a1 + (1 : Int32))), (0, .ref (x_ad G 0))]) hx hb d_X_badAt_37 hl (k := 1) rfl rfl (by decide) rfl (fun ls hl => ?_)
        refine lv_goto (tgt := 2) hx hb d_X_badAt_40 (by decide) ?_
        exact ih (a1 + (1 : Int32)) z2 hf _ _ _ hP hD hS (lv_sub hl [1, 0] rfl)
      · have hf := x_br_t hf hc4
        refine lv_aload_n hx hb d_X_badAt_24 rfl (lv_at hl 0 rfl) ?_
        refine va_get (D := x_D G) (ci := 0) (v := .ref (x_ad G 1)) (C := "ContentLibrary") (T := x_TX) (N := 9) hx hb hts x_inX hown hK hP 0 (x_lk_X G _) rfl 0 (by decide) (hts _ t_130) (fun _ h9 => h9) rfl d_X_badAt_25 ?_
        refine lv_iload_n hx hb d_X_badAt_28 rfl (lv_at hl 1 rfl) ?_
        obtain ⟨r5, z5, hq6, hf⟩ := x_cl_some hf
        refine va_calli (va_runV (As := [.int a1]) (rest := []) ⟨hx, hb, hml, hown, hts⟩ (c_B_isGood l G a1 z2 r5 z5 hq6) (cwV 1 hts (x_gV t_309 t_179 t_180 t_3 t_181) rfl rfl rfl (by decide +kernel) ⟨Nat.le_of_ble_eq_true rfl, Nat.le_of_ble_eq_true rfl⟩) ⟨x_blind _ _ _, va_recv hK hP (ci := 1) (q0 := 1) rfl (x_lk_B G _), fun U hU hW => ⟨rfl, x_pw hP hD hK hG hS hz hU hW⟩⟩ rfl rfl hl.1 rfl (lv_room (Nat.le_of_ble_eq_true rfl)) d_X_badAt_29 ⟨Nat.le_of_ble_eq_true rfl, Nat.le_of_ble_eq_true rfl⟩) hS (fun q _ h => h) (fun q h => h) (fun ra u t H locs ht hvm hw hB _ _ hS => ?_)
        obtain ⟨rfl, rfl⟩ := hw
        obtain ⟨hP, hD⟩ := x_back hB ht
        refine lv_if_ne (tgt := 37) hx hb d_X_badAt_32 (by decide) (fun hc7 => ?_) (fun hc7 => ?_)
        · have hf := x_br_f hf hc7
          refine lv_iinc (v := (a1 + (1 : Int32))) (lv' := [(1, .int (a1 + (1 : Int32))), (0, .ref (x_ad G 0))]) hx hb d_X_badAt_37 hl (k := 1) rfl rfl (by decide) rfl (fun ls hl => ?_)
          refine lv_goto (tgt := 2) hx hb d_X_badAt_40 (by decide) ?_
          exact ih (a1 + (1 : Int32)) z5 hf _ _ _ hP hD hS (lv_sub hl [1, 0] rfl)
        · have hf := x_br_t hf hc7
          exact w_X_badAt_35 l G C0 r zo a1 z5 hf _ _ _ hP hD hS (lv_sub hl [1] rfl)
set_option maxHeartbeats 4000000 in
set_option maxRecDepth 100000 in
theorem c_X_badAt (l : Launch) (G : x_G)  (z0 : x_St) (r : Int32) (zo : x_St) (hf : f_X_badAt (x_n G)  z0 = some (r, zo)) : Met l (⟨"ContentLibrary", "badAt", "()I"⟩ : MethodName) (x_ws (⟨"ContentLibrary", "badAt", "()I"⟩ : MethodName) prog_1_method_15_code 2 (some .int)) rm_X_badAt (va_Pc [.ref (x_ad G 0)] (x_PW G z0)) (va_Qi (fun a u => r = a ∧ zo = u) (x_PW G) (x_A G)) 0 0 (x_A G) := by
  refine Met.ofW (cc := prog_1_method_15_code) (maxL := 2) (ret := (some .int)) (by decide) rfl ?_
  intro p e s m args below meth c s₁ B hml hv
  obtain ⟨rfl, hz, hP, hD, hK, hG⟩ := hv
  have C0 : x_Ctx G p s m _ meth c prog_1_method_15_code "ContentLibrary" 2 (some .int) := ⟨B.exec, B.bytes, B.returns, hml, findClass_of_methodNamed B.named, fun w h => atoms_spec (ws := (x_ws (⟨"ContentLibrary", "badAt", "()I"⟩ : MethodName) prog_1_method_15_code 2 (some .int))) B.pre w (List.mem_cons_of_mem _ h), B.notSynchronized, hz, hK, hG⟩
  obtain ⟨hx, hb, hr, hml, hown, hts, hlocks, hz, hK, hG⟩ := id C0
  have hS : va_S (x_A G) s.heap s.heap [] := va_S.rf
  have hl := lv_entry ([.ref (x_ad G 0)]) (n := 2) (Nat.le_of_ble_eq_true rfl)
  rw [lg_entry_eq]
  generalize (lg_sl ([.ref (x_ad G 0)]) ++ List.replicate (2 - (lg_sl ([.ref (x_ad G 0)])).length) Slot.unset).toArray = ls at hl ⊢
  have hl : lv_has ls 2 [(0, .ref (x_ad G 0))] := hl
  rw [f_X_badAt] at hf
  refine lv_iconst (v := (0 : Int32)) hx hb d_X_badAt_0 (by decide) ?_
  refine lv_istore_n (lv' := [(1, .int (0 : Int32)), (0, .ref (x_ad G 0))]) hx hb d_X_badAt_1 rfl hl (by decide) rfl (fun ls hl => ?_)
  exact w_X_badAt_2 l G C0 r zo x_FU (0 : Int32) z0 hf _ _ _ hP hD hS (lv_sub hl [1, 0] rfl)
abbrev rm_X_told : Room := { frames := 1, cells := 0, slots := 0, locals := 22 }
set_option maxHeartbeats 4000000 in
set_option maxRecDepth 100000 in
theorem c_X_told (l : Launch) (G : x_G) (p1 : Int32) (z0 : x_St) (r : Int32) (zo : x_St) (hf : f_X_told (x_n G) p1 z0 = some (r, zo)) : Met l (⟨"ContentLibrary", "told", "(I)I"⟩ : MethodName) (x_ws (⟨"ContentLibrary", "told", "(I)I"⟩ : MethodName) prog_1_method_17_code 2 (some .int)) rm_X_told (va_Pc [.ref (x_ad G 0), .int p1] (x_PW G z0)) (va_Qi (fun a u => r = a ∧ zo = u) (x_PW G) (x_A G)) 0 0 (x_A G) := by
  refine Met.ofW (cc := prog_1_method_17_code) (maxL := 2) (ret := (some .int)) (by decide) rfl ?_
  intro p e s m args below meth c s₁ B hml hv
  obtain ⟨rfl, hz, hP, hD, hK, hG⟩ := hv
  have C0 : x_Ctx G p s m _ meth c prog_1_method_17_code "ContentLibrary" 2 (some .int) := ⟨B.exec, B.bytes, B.returns, hml, findClass_of_methodNamed B.named, fun w h => atoms_spec (ws := (x_ws (⟨"ContentLibrary", "told", "(I)I"⟩ : MethodName) prog_1_method_17_code 2 (some .int))) B.pre w (List.mem_cons_of_mem _ h), B.notSynchronized, hz, hK, hG⟩
  obtain ⟨hx, hb, hr, hml, hown, hts, hlocks, hz, hK, hG⟩ := id C0
  have hS : va_S (x_A G) s.heap s.heap [] := va_S.rf
  have hl := lv_entry ([.ref (x_ad G 0), .int p1]) (n := 2) (Nat.le_of_ble_eq_true rfl)
  rw [lg_entry_eq]
  generalize (lg_sl ([.ref (x_ad G 0), .int p1]) ++ List.replicate (2 - (lg_sl ([.ref (x_ad G 0), .int p1])).length) Slot.unset).toArray = ls at hl ⊢
  have hl : lv_has ls 2 [(0, .ref (x_ad G 0)), (1, .int p1)] := hl
  rw [f_X_told] at hf
  refine lv_iload_n hx hb d_X_told_0 rfl (lv_at hl 1 rfl) ?_
  by_cases hs1 : p1 = (0 : Int32)
  · have hf := x_br_t hf hs1
    refine lv_tableIn (tgt := 44) hx hb d_X_told_1 (by rw [hs1]; decide) (by rw [hs1]; decide) (by rw [hs1]; rfl) (by decide) ?_
    refine lv_aload_n hx hb d_X_told_44 rfl (lv_at hl 0 rfl) ?_
    refine va_get (D := x_D G) (ci := 0) (v := .ref (x_ad G 1)) (C := "ContentLibrary") (T := x_TX) (N := 9) hx hb hts x_inX hown hK hP 0 (x_lk_X G _) rfl 0 (by decide) (hts _ t_130) (fun _ h9 => h9) rfl d_X_told_45 ?_
    refine va_get (D := x_D G) (ci := 1) (v := .int (z0.1 1 0)) (C := "ContentLibrary$Blocks") (T := x_TB) (N := 5) hx hb hts x_inB hown hK hP 1 (x_lk_B G _) rfl 0 (by decide) (hts _ t_40) (fun _ h9 => h9) rfl d_X_told_48 ?_
    obtain ⟨rfl, rfl⟩ := x_ret hf
    exact W.iret (v := (z0.1 1 0)) hx hb hr (fun t ht hW => ⟨⟨_, _, rfl, ⟨rfl, rfl⟩, x_pw hP hD hK hG hS hz ht hW⟩, hS.F ht⟩) hS.2.2 d_X_told_51
  have hf := x_br_f hf hs1
  by_cases hs2 : p1 = (1 : Int32)
  · have hf := x_br_t hf hs2
    refine lv_tableIn (tgt := 52) hx hb d_X_told_1 (by rw [hs2]; decide) (by rw [hs2]; decide) (by rw [hs2]; rfl) (by decide) ?_
    refine lv_aload_n hx hb d_X_told_52 rfl (lv_at hl 0 rfl) ?_
    refine va_get (D := x_D G) (ci := 0) (v := .ref (x_ad G 1)) (C := "ContentLibrary") (T := x_TX) (N := 9) hx hb hts x_inX hown hK hP 0 (x_lk_X G _) rfl 0 (by decide) (hts _ t_130) (fun _ h9 => h9) rfl d_X_told_53 ?_
    refine va_get (D := x_D G) (ci := 1) (v := .int (z0.1 1 2)) (C := "ContentLibrary$Blocks") (T := x_TB) (N := 5) hx hb hts x_inB hown hK hP 1 (x_lk_B G _) rfl 2 (by decide) (hts _ t_44) (fun _ h9 => h9) rfl d_X_told_56 ?_
    refine lv_if_eq (tgt := 66) hx hb d_X_told_59 (by decide) (fun hc3 => ?_) (fun hc3 => ?_)
    · have hf := x_br_t hf hc3
      refine lv_aload_n hx hb d_X_told_66 rfl (lv_at hl 0 rfl) ?_
      obtain ⟨r4, z4, hq5, hf⟩ := x_cl_some hf
      refine va_calli (va_runV (As := []) (rest := []) ⟨hx, hb, hml, hown, hts⟩ (c_X_countFreeBlocks l G z0 r4 z4 hq5) (cwV 0 hts (x_gV t_314 t_316 sel_ContentLibrary_countFreeBlocks t_1 t_317) rfl rfl rfl (by decide +kernel) ⟨Nat.le_of_ble_eq_true rfl, Nat.le_of_ble_eq_true rfl⟩) ⟨x_blind _ _ _, va_recv hK hP (ci := 0) (q0 := 0) rfl (x_lk_X G _), fun U hU hW => ⟨rfl, x_pw hP hD hK hG hS hz hU hW⟩⟩ rfl rfl hl.1 rfl (lv_room (Nat.le_of_ble_eq_true rfl)) d_X_told_67 ⟨Nat.le_of_ble_eq_true rfl, Nat.le_of_ble_eq_true rfl⟩) hS (fun q _ h => h) (fun q h => h) (fun ra u t H locs ht hvm hw hB _ _ hS => ?_)
      obtain ⟨rfl, rfl⟩ := hw
      obtain ⟨hP, hD⟩ := x_back hB ht
      obtain ⟨rfl, rfl⟩ := x_ret hf
      exact W.iret (v := r4) hx hb hr (fun t ht hW => ⟨⟨_, _, rfl, ⟨rfl, rfl⟩, x_pw hP hD hK hG hS hz ht hW⟩, hS.F ht⟩) hS.2.2 d_X_told_70
    · have hf := x_br_f hf hc3
      refine lv_iconst (v := (0 : Int32)) hx hb d_X_told_62 (by decide) ?_
      refine lv_goto (tgt := 70) hx hb d_X_told_63 (by decide) ?_
      obtain ⟨rfl, rfl⟩ := x_ret hf
      exact W.iret (v := (0 : Int32)) hx hb hr (fun t ht hW => ⟨⟨_, _, rfl, ⟨rfl, rfl⟩, x_pw hP hD hK hG hS hz ht hW⟩, hS.F ht⟩) hS.2.2 d_X_told_70
  have hf := x_br_f hf hs2
  by_cases hs6 : p1 = (2 : Int32)
  · have hf := x_br_t hf hs6
    refine lv_tableIn (tgt := 71) hx hb d_X_told_1 (by rw [hs6]; decide) (by rw [hs6]; decide) (by rw [hs6]; rfl) (by decide) ?_
    refine lv_aload_n hx hb d_X_told_71 rfl (lv_at hl 0 rfl) ?_
    obtain ⟨r7, z7, hq8, hf⟩ := x_cl_some hf
    refine va_calli (va_runV (As := []) (rest := []) ⟨hx, hb, hml, hown, hts⟩ (c_X_countKept l G z0 r7 z7 hq8) (cwV 0 hts (x_gV t_297 t_299 sel_ContentLibrary_countKept t_1 t_300) rfl rfl rfl (by decide +kernel) ⟨Nat.le_of_ble_eq_true rfl, Nat.le_of_ble_eq_true rfl⟩) ⟨x_blind _ _ _, va_recv hK hP (ci := 0) (q0 := 0) rfl (x_lk_X G _), fun U hU hW => ⟨rfl, x_pw hP hD hK hG hS hz hU hW⟩⟩ rfl rfl hl.1 rfl (lv_room (Nat.le_of_ble_eq_true rfl)) d_X_told_72 ⟨Nat.le_of_ble_eq_true rfl, Nat.le_of_ble_eq_true rfl⟩) hS (fun q _ h => h) (fun q h => h) (fun ra u t H locs ht hvm hw hB _ _ hS => ?_)
    obtain ⟨rfl, rfl⟩ := hw
    obtain ⟨hP, hD⟩ := x_back hB ht
    obtain ⟨rfl, rfl⟩ := x_ret hf
    exact W.iret (v := r7) hx hb hr (fun t ht hW => ⟨⟨_, _, rfl, ⟨rfl, rfl⟩, x_pw hP hD hK hG hS hz ht hW⟩, hS.F ht⟩) hS.2.2 d_X_told_75
  have hf := x_br_f hf hs6
  by_cases hs9 : p1 = (3 : Int32)
  · have hf := x_br_t hf hs9
    refine lv_tableIn (tgt := 76) hx hb d_X_told_1 (by rw [hs9]; decide) (by rw [hs9]; decide) (by rw [hs9]; rfl) (by decide) ?_
    refine lv_aload_n hx hb d_X_told_76 rfl (lv_at hl 0 rfl) ?_
    obtain ⟨r10, z10, hq11, hf⟩ := x_cl_some hf
    refine va_calli (va_runV (As := []) (rest := []) ⟨hx, hb, hml, hown, hts⟩ (c_X_countMade l G z0 r10 z10 hq11) (cwV 0 hts (x_gV t_318 t_320 sel_ContentLibrary_countMade t_1 t_321) rfl rfl rfl (by decide +kernel) ⟨Nat.le_of_ble_eq_true rfl, Nat.le_of_ble_eq_true rfl⟩) ⟨x_blind _ _ _, va_recv hK hP (ci := 0) (q0 := 0) rfl (x_lk_X G _), fun U hU hW => ⟨rfl, x_pw hP hD hK hG hS hz hU hW⟩⟩ rfl rfl hl.1 rfl (lv_room (Nat.le_of_ble_eq_true rfl)) d_X_told_77 ⟨Nat.le_of_ble_eq_true rfl, Nat.le_of_ble_eq_true rfl⟩) hS (fun q _ h => h) (fun q h => h) (fun ra u t H locs ht hvm hw hB _ _ hS => ?_)
    obtain ⟨rfl, rfl⟩ := hw
    obtain ⟨hP, hD⟩ := x_back hB ht
    obtain ⟨rfl, rfl⟩ := x_ret hf
    exact W.iret (v := r10) hx hb hr (fun t ht hW => ⟨⟨_, _, rfl, ⟨rfl, rfl⟩, x_pw hP hD hK hG hS hz ht hW⟩, hS.F ht⟩) hS.2.2 d_X_told_80
  have hf := x_br_f hf hs9
  by_cases hs12 : p1 = (4 : Int32)
  · have hf := x_br_t hf hs12
    refine lv_tableIn (tgt := 81) hx hb d_X_told_1 (by rw [hs12]; decide) (by rw [hs12]; decide) (by rw [hs12]; rfl) (by decide) ?_
    refine lv_aload_n hx hb d_X_told_81 rfl (lv_at hl 0 rfl) ?_
    refine va_get (D := x_D G) (ci := 0) (v := .int (z0.1 0 8)) (C := "ContentLibrary") (T := x_TX) (N := 9) hx hb hts x_inX hown hK hP 0 (x_lk_X G _) rfl 8 (by decide) (hts _ t_138) (fun _ h9 => h9) rfl d_X_told_82 ?_
    obtain ⟨rfl, rfl⟩ := x_ret hf
    exact W.iret (v := (z0.1 0 8)) hx hb hr (fun t ht hW => ⟨⟨_, _, rfl, ⟨rfl, rfl⟩, x_pw hP hD hK hG hS hz ht hW⟩, hS.F ht⟩) hS.2.2 d_X_told_85
  have hf := x_br_f hf hs12
  by_cases hs13 : p1 = (5 : Int32)
  · have hf := x_br_t hf hs13
    refine lv_tableIn (tgt := 86) hx hb d_X_told_1 (by rw [hs13]; decide) (by rw [hs13]; decide) (by rw [hs13]; rfl) (by decide) ?_
    refine lv_aload_n hx hb d_X_told_86 rfl (lv_at hl 0 rfl) ?_
    refine va_get (D := x_D G) (ci := 0) (v := .ref (x_ad G 1)) (C := "ContentLibrary") (T := x_TX) (N := 9) hx hb hts x_inX hown hK hP 0 (x_lk_X G _) rfl 0 (by decide) (hts _ t_130) (fun _ h9 => h9) rfl d_X_told_87 ?_
    refine va_get (D := x_D G) (ci := 1) (v := .int (z0.1 1 2)) (C := "ContentLibrary$Blocks") (T := x_TB) (N := 5) hx hb hts x_inB hown hK hP 1 (x_lk_B G _) rfl 2 (by decide) (hts _ t_44) (fun _ h9 => h9) rfl d_X_told_90 ?_
    refine lv_if_eq (tgt := 100) hx hb d_X_told_93 (by decide) (fun hc14 => ?_) (fun hc14 => ?_)
    · have hf := x_br_t hf hc14
      refine lv_iconst (v := (0 : Int32)) hx hb d_X_told_100 (by decide) ?_
      obtain ⟨rfl, rfl⟩ := x_ret hf
      exact W.iret (v := (0 : Int32)) hx hb hr (fun t ht hW => ⟨⟨_, _, rfl, ⟨rfl, rfl⟩, x_pw hP hD hK hG hS hz ht hW⟩, hS.F ht⟩) hS.2.2 d_X_told_101
    · have hf := x_br_f hf hc14
      refine lv_iconst (v := (1 : Int32)) hx hb d_X_told_96 (by decide) ?_
      refine lv_goto (tgt := 101) hx hb d_X_told_97 (by decide) ?_
      obtain ⟨rfl, rfl⟩ := x_ret hf
      exact W.iret (v := (1 : Int32)) hx hb hr (fun t ht hW => ⟨⟨_, _, rfl, ⟨rfl, rfl⟩, x_pw hP hD hK hG hS hz ht hW⟩, hS.F ht⟩) hS.2.2 d_X_told_101
  have hf := x_br_f hf hs13
  by_cases hs15 : p1 = (6 : Int32)
  · have hf := x_br_t hf hs15
    refine lv_tableIn (tgt := 102) hx hb d_X_told_1 (by rw [hs15]; decide) (by rw [hs15]; decide) (by rw [hs15]; rfl) (by decide) ?_
    refine lv_aload_n hx hb d_X_told_102 rfl (lv_at hl 0 rfl) ?_
    refine va_get (D := x_D G) (ci := 0) (v := .ref (x_ad G 1)) (C := "ContentLibrary") (T := x_TX) (N := 9) hx hb hts x_inX hown hK hP 0 (x_lk_X G _) rfl 0 (by decide) (hts _ t_130) (fun _ h9 => h9) rfl d_X_told_103 ?_
    refine va_get (D := x_D G) (ci := 1) (v := .int (z0.1 1 1)) (C := "ContentLibrary$Blocks") (T := x_TB) (N := 5) hx hb hts x_inB hown hK hP 1 (x_lk_B G _) rfl 1 (by decide) (hts _ t_42) (fun _ h9 => h9) rfl d_X_told_106 ?_
    obtain ⟨rfl, rfl⟩ := x_ret hf
    exact W.iret (v := (z0.1 1 1)) hx hb hr (fun t ht hW => ⟨⟨_, _, rfl, ⟨rfl, rfl⟩, x_pw hP hD hK hG hS hz ht hW⟩, hS.F ht⟩) hS.2.2 d_X_told_109
  have hf := x_br_f hf hs15
  refine lv_tableOut (tgt := 110) hx hb d_X_told_1 (x_out7 hs1 hs2 hs6 hs9 hs12 hs13 hs15) (by decide) ?_
  refine lv_iconst (v := (-1 : Int32)) hx hb d_X_told_110 (by decide) ?_
  obtain ⟨rfl, rfl⟩ := x_ret hf
  exact W.iret (v := (-1 : Int32)) hx hb hr (fun t ht hW => ⟨⟨_, _, rfl, ⟨rfl, rfl⟩, x_pw hP hD hK hG hS hz ht hW⟩, hS.F ht⟩) hS.2.2 d_X_told_111
abbrev rm_X_wipeFreeBlocks : Room := { frames := 2, cells := 0, slots := 0, locals := 46 }
set_option maxHeartbeats 4000000 in
set_option maxRecDepth 100000 in
theorem w_X_wipeFreeBlocks_88 (l : Launch) (G : x_G) {p : Program} {e : Env} {s : State} {m : MethodId} {args : Array Value} {below : List Frame} {meth : Method} {c : Code} (C0 : x_Ctx G p s m args meth c prog_1_method_29_code "ContentLibrary" 5 (some .int)) (r : Int32) (zo : x_St) : ∀ (a2 : Int32) (z0 : x_St), f_X_wipeFreeBlocks_88 (x_n G) a2 z0 = some (r, zo) → ∀ (H : Heap) (locs : List Loc) (ls : Array Slot), va_P (x_D G) vwCl (x_Wd G z0) H → va_D (x_A G) (x_Wd G z0) → va_S (x_A G) s.heap H locs → lv_has ls 5 [(2, .int a2)] → W p l e rm_X_wipeFreeBlocks s m args below meth c H locs 0 0 (MQ below (va_Qi (fun a u => r = a ∧ zo = u) (x_PW G) (x_A G)) args s 0 0 (x_A G)) (F0 m 88 ls []) := by
  obtain ⟨hx, hb, hr, hml, hown, hts, hlocks, hz, hK, hG⟩ := id C0
  intro a2 z0 hf H locs ls hP hD hS hl
  rw [f_X_wipeFreeBlocks_88] at hf
  refine lv_iload_n hx hb d_X_wipeFreeBlocks_88 rfl (lv_at hl 0 rfl) ?_
  obtain ⟨rfl, rfl⟩ := x_ret hf
  exact W.iret (v := a2) hx hb hr (fun t ht hW => ⟨⟨_, _, rfl, ⟨rfl, rfl⟩, x_pw hP hD hK hG hS hz ht hW⟩, hS.F ht⟩) hS.2.2 d_X_wipeFreeBlocks_89
set_option maxHeartbeats 4000000 in
set_option maxRecDepth 100000 in
theorem w_X_wipeFreeBlocks_76 (l : Launch) (G : x_G) {p : Program} {e : Env} {s : State} {m : MethodId} {args : Array Value} {below : List Frame} {meth : Method} {c : Code} (C0 : x_Ctx G p s m args meth c prog_1_method_29_code "ContentLibrary" 5 (some .int)) (r : Int32) (zo : x_St) : ∀ (z0 : x_St), f_X_wipeFreeBlocks_76 (x_n G)  z0 = some (r, zo) → ∀ (H : Heap) (locs : List Loc) (ls : Array Slot), va_P (x_D G) vwCl (x_Wd G z0) H → va_D (x_A G) (x_Wd G z0) → va_S (x_A G) s.heap H locs → lv_has ls 5 [] → W p l e rm_X_wipeFreeBlocks s m args below meth c H locs 0 0 (MQ below (va_Qi (fun a u => r = a ∧ zo = u) (x_PW G) (x_A G)) args s 0 0 (x_A G)) (F0 m 76 ls []) := by
  obtain ⟨hx, hb, hr, hml, hown, hts, hlocks, hz, hK, hG⟩ := id C0
  intro  z0 hf H locs ls hP hD hS hl
  rw [f_X_wipeFreeBlocks_76] at hf
  refine lv_bipush (v := (-2 : Int32)) hx hb d_X_wipeFreeBlocks_76 (by decide) ?_
  obtain ⟨rfl, rfl⟩ := x_ret hf
  exact W.iret (v := (-2 : Int32)) hx hb hr (fun t ht hW => ⟨⟨_, _, rfl, ⟨rfl, rfl⟩, x_pw hP hD hK hG hS hz ht hW⟩, hS.F ht⟩) hS.2.2 d_X_wipeFreeBlocks_78
set_option maxHeartbeats 4000000 in
set_option maxRecDepth 100000 in
theorem w_X_wipeFreeBlocks_4 (l : Launch) (G : x_G) {p : Program} {e : Env} {s : State} {m : MethodId} {args : Array Value} {below : List Frame} {meth : Method} {c : Code} (C0 : x_Ctx G p s m args meth c prog_1_method_29_code "ContentLibrary" 5 (some .int)) (r : Int32) (zo : x_St) : ∀ (fu : Nat), ∀ (a1 : Int32) (a2 : Int32) (a3 : Int32) (z0 : x_St), f_X_wipeFreeBlocks_4 (x_n G) fu a1 a2 a3 z0 = some (r, zo) → ∀ (H : Heap) (locs : List Loc) (ls : Array Slot), va_P (x_D G) vwCl (x_Wd G z0) H → va_D (x_A G) (x_Wd G z0) → va_S (x_A G) s.heap H locs → lv_has ls 5 [(0, .ref (x_ad G 0)), (1, .int a1), (2, .int a2), (3, .int a3)] → W p l e rm_X_wipeFreeBlocks s m args below meth c H locs 0 0 (MQ below (va_Qi (fun a u => r = a ∧ zo = u) (x_PW G) (x_A G)) args s 0 0 (x_A G)) (F0 m 4 ls []) := by
  obtain ⟨hx, hb, hr, hml, hown, hts, hlocks, hz, hK, hG⟩ := id C0
  intro fu
  induction fu with
  | zero =>
    intro a1 a2 a3 z0 hf
    rw [f_X_wipeFreeBlocks_4] at hf
    cases hf
  | succ fu ih =>
    intro a1 a2 a3 z0 hf H locs ls hP hD hS hl
    rw [f_X_wipeFreeBlocks_4] at hf
    refine lv_iload_n hx hb d_X_wipeFreeBlocks_4 rfl (lv_at hl 3 rfl) ?_
    refine lv_aload_n hx hb d_X_wipeFreeBlocks_5 rfl (lv_at hl 0 rfl) ?_
    refine va_get (D := x_D G) (ci := 0) (v := .ref (x_ad G 1)) (C := "ContentLibrary") (T := x_TX) (N := 9) hx hb hts x_inX hown hK hP 0 (x_lk_X G _) rfl 0 (by decide) (hts _ t_130) (fun _ h9 => h9) rfl d_X_wipeFreeBlocks_6 ?_
    refine va_get (D := x_D G) (ci := 1) (v := .int (z0.1 1 0)) (C := "ContentLibrary$Blocks") (T := x_TB) (N := 5) hx hb hts x_inB hown hK hP 1 (x_lk_B G _) rfl 0 (by decide) (hts _ t_40) (fun _ h9 => h9) rfl d_X_wipeFreeBlocks_9 ?_
    refine lv_icmp_ge (tgt := 88) hx hb d_X_wipeFreeBlocks_12 (by decide) (fun hc1 => ?_) (fun hc1 => ?_)
    · have hf := x_br_t hf hc1
      exact w_X_wipeFreeBlocks_88 l G C0 r zo a2 z0 hf _ _ _ hP hD hS (lv_sub hl [2] rfl)
    · have hf := x_br_f hf hc1
      refine lv_iload_n hx hb d_X_wipeFreeBlocks_15 rfl (lv_at hl 1 rfl) ?_
      refine lv_iconst (v := (-1 : Int32)) hx hb d_X_wipeFreeBlocks_16 (by decide) ?_
      refine lv_icmp_eq (tgt := 33) hx hb d_X_wipeFreeBlocks_17 (by decide) (fun hc2 => ?_) (fun hc2 => ?_)
      · have hf := x_br_t hf hc2
        refine lv_iconst (v := (1 : Int32)) hx hb d_X_wipeFreeBlocks_33 (by decide) ?_
        refine lv_goto (tgt := 38) hx hb d_X_wipeFreeBlocks_34 (by decide) ?_
        refine lv_istore (lv' := [(4, .int (1 : Int32)), (0, .ref (x_ad G 0)), (1, .int a1), (2, .int a2), (3, .int a3)]) hx hb d_X_wipeFreeBlocks_38 hl (by decide) rfl (fun ls hl => ?_)
        refine lv_aload_n hx hb d_X_wipeFreeBlocks_40 rfl (lv_at hl 1 rfl) ?_
        refine va_get (D := x_D G) (ci := 0) (v := .ref (x_ad G 4)) (C := "ContentLibrary") (T := x_TX) (N := 9) hx hb hts x_inX hown hK hP 0 (x_lk_X G _) rfl 1 (by decide) (hts _ t_131) (fun _ h9 => h9) rfl d_X_wipeFreeBlocks_41 ?_
        refine lv_iload_n hx hb d_X_wipeFreeBlocks_44 rfl (lv_at hl 4 rfl) ?_
        obtain ⟨hin3, hf⟩ := x_ck_some hf
        refine va_zald hx hb hK hP 4 1 (x_lk_Z G _) rfl hin3 d_X_wipeFreeBlocks_45 ?_
        refine lv_if_ne (tgt := 82) hx hb d_X_wipeFreeBlocks_46 (by decide) (fun hc4 => ?_) (fun hc4 => ?_)
        · have hf := x_br_f hf hc4
          refine lv_iinc (v := (a3 + (1 : Int32))) (lv' := [(3, .int (a3 + (1 : Int32))), (4, .int (1 : Int32)), (0, .ref (x_ad G 0)), (1, .int a1), (2, .int a2)]) hx hb d_X_wipeFreeBlocks_82 hl (k := 4) rfl rfl (by decide) rfl (fun ls hl => ?_)
          refine lv_goto (tgt := 4) hx hb d_X_wipeFreeBlocks_85 (by decide) ?_
          exact ih a1 a2 (a3 + (1 : Int32)) z0 hf _ _ _ hP hD hS (lv_sub hl [2, 3, 4, 0] rfl)
        · have hf := x_br_t hf hc4
          refine lv_iload hx hb d_X_wipeFreeBlocks_49 (lv_at hl 0 rfl) ?_
          refine lv_if_eq (tgt := 82) hx hb d_X_wipeFreeBlocks_51 (by decide) (fun hc => absurd hc (by decide)) (fun _ => ?_)
          refine lv_aload_n hx hb d_X_wipeFreeBlocks_54 rfl (lv_at hl 1 rfl) ?_
          refine va_get (D := x_D G) (ci := 0) (v := .ref (x_ad G 1)) (C := "ContentLibrary") (T := x_TX) (N := 9) hx hb hts x_inX hown hK hP 0 (x_lk_X G _) rfl 0 (by decide) (hts _ t_130) (fun _ h9 => h9) rfl d_X_wipeFreeBlocks_55 ?_
          refine lv_iload_n hx hb d_X_wipeFreeBlocks_58 rfl (lv_at hl 4 rfl) ?_
          obtain ⟨r5, z5, hq6, hf⟩ := x_cl_some hf
          refine va_calli (va_runV (As := [.int a3]) (rest := []) ⟨hx, hb, hml, hown, hts⟩ (c_B_isBlank l G a3 z0 r5 z5 hq6) (cwV 1 hts (x_gV t_305 t_306 t_307 t_3 t_308) rfl rfl rfl (by decide +kernel) ⟨Nat.le_of_ble_eq_true rfl, Nat.le_of_ble_eq_true rfl⟩) ⟨x_blind _ _ _, va_recv hK hP (ci := 1) (q0 := 1) rfl (x_lk_B G _), fun U hU hW => ⟨rfl, x_pw hP hD hK hG hS hz hU hW⟩⟩ rfl rfl hl.1 rfl (lv_room (Nat.le_of_ble_eq_true rfl)) d_X_wipeFreeBlocks_59 ⟨Nat.le_of_ble_eq_true rfl, Nat.le_of_ble_eq_true rfl⟩) hS (fun q _ h => h) (fun q h => h) (fun ra u t H locs ht hvm hw hB _ _ hS => ?_)
          obtain ⟨rfl, rfl⟩ := hw
          obtain ⟨hP, hD⟩ := x_back hB ht
          refine lv_if_ne (tgt := 82) hx hb d_X_wipeFreeBlocks_62 (by decide) (fun hc7 => ?_) (fun hc7 => ?_)
          · have hf := x_br_f hf hc7
            refine lv_iinc (v := (a3 + (1 : Int32))) (lv' := [(3, .int (a3 + (1 : Int32))), (4, .int (1 : Int32)), (0, .ref (x_ad G 0)), (1, .int a1), (2, .int a2)]) hx hb d_X_wipeFreeBlocks_82 hl (k := 4) rfl rfl (by decide) rfl (fun ls hl => ?_)
            refine lv_goto (tgt := 4) hx hb d_X_wipeFreeBlocks_85 (by decide) ?_
            exact ih a1 a2 (a3 + (1 : Int32)) z5 hf _ _ _ hP hD hS (lv_sub hl [2, 3, 4, 0] rfl)
          · have hf := x_br_t hf hc7
            refine lv_aload_n hx hb d_X_wipeFreeBlocks_65 rfl (lv_at hl 1 rfl) ?_
            refine va_get (D := x_D G) (ci := 0) (v := .ref (x_ad G 1)) (C := "ContentLibrary") (T := x_TX) (N := 9) hx hb hts x_inX hown hK hP 0 (x_lk_X G _) rfl 0 (by decide) (hts _ t_130) (fun _ h9 => h9) rfl d_X_wipeFreeBlocks_66 ?_
            refine lv_iload_n hx hb d_X_wipeFreeBlocks_69 rfl (lv_at hl 4 rfl) ?_
            obtain ⟨r8, z8, hq9, hf⟩ := x_cl_some hf
            refine va_calli (va_runV (As := [.int a3]) (rest := []) ⟨hx, hb, hml, hown, hts⟩ (c_B_wipe l G a3 z5 r8 z8 hq9) (cwV 1 hts (x_gV t_513 t_514 t_515 t_3 t_516) rfl rfl rfl (by decide +kernel) ⟨Nat.le_of_ble_eq_true rfl, Nat.le_of_ble_eq_true rfl⟩) ⟨x_blind _ _ _, va_recv hK hP (ci := 1) (q0 := 1) rfl (x_lk_B G _), fun U hU hW => ⟨rfl, x_pw hP hD hK hG hS hz hU hW⟩⟩ rfl rfl hl.1 rfl (lv_room (Nat.le_of_ble_eq_true rfl)) d_X_wipeFreeBlocks_70 ⟨Nat.le_of_ble_eq_true rfl, Nat.le_of_ble_eq_true rfl⟩) hS (fun q _ h => h) (fun q h => h) (fun ra u t H locs ht hvm hw hB _ _ hS => ?_)
            obtain ⟨rfl, rfl⟩ := hw
            obtain ⟨hP, hD⟩ := x_back hB ht
            refine lv_if_ne (tgt := 79) hx hb d_X_wipeFreeBlocks_73 (by decide) (fun hc10 => ?_) (fun hc10 => ?_)
            · have hf := x_br_f hf hc10
              refine lv_iinc (v := (a2 + (1 : Int32))) (lv' := [(2, .int (a2 + (1 : Int32))), (4, .int (1 : Int32)), (0, .ref (x_ad G 0)), (1, .int a1), (3, .int a3)]) hx hb d_X_wipeFreeBlocks_79 hl (k := 3) rfl rfl (by decide) rfl (fun ls hl => ?_)
              refine lv_iinc (v := (a3 + (1 : Int32))) (lv' := [(3, .int (a3 + (1 : Int32))), (2, .int (a2 + (1 : Int32))), (4, .int (1 : Int32)), (0, .ref (x_ad G 0)), (1, .int a1)]) hx hb d_X_wipeFreeBlocks_82 hl (k := 4) rfl rfl (by decide) rfl (fun ls hl => ?_)
              refine lv_goto (tgt := 4) hx hb d_X_wipeFreeBlocks_85 (by decide) ?_
              exact ih a1 (a2 + (1 : Int32)) (a3 + (1 : Int32)) z8 hf _ _ _ hP hD hS (lv_sub hl [3, 4, 1, 0] rfl)
            · have hf := x_br_t hf hc10
              exact w_X_wipeFreeBlocks_76 l G C0 r zo z8 hf _ _ _ hP hD hS (lv_sub hl [] rfl)
      · have hf := x_br_f hf hc2
        refine lv_aload_n hx hb d_X_wipeFreeBlocks_20 rfl (lv_at hl 0 rfl) ?_
        refine va_get (D := x_D G) (ci := 0) (v := .ref (x_ad G 1)) (C := "ContentLibrary") (T := x_TX) (N := 9) hx hb hts x_inX hown hK hP 0 (x_lk_X G _) rfl 0 (by decide) (hts _ t_130) (fun _ h9 => h9) rfl d_X_wipeFreeBlocks_21 ?_
        refine lv_iload_n hx hb d_X_wipeFreeBlocks_24 rfl (lv_at hl 3 rfl) ?_
        refine lv_iconst (v := (5 : Int32)) hx hb d_X_wipeFreeBlocks_25 (by decide) ?_
        obtain ⟨r11, z11, hq12, hf⟩ := x_cl_some hf
        refine va_calli (va_runV (As := [.int a3, .int (5 : Int32)]) (rest := []) ⟨hx, hb, hml, hown, hts⟩ (c_B_get l G a3 (5 : Int32) z0 r11 z11 hq12) (cwV 2 hts (x_gV t_200 t_175 t_176 t_3 t_177) rfl rfl rfl (by decide +kernel) ⟨Nat.le_of_ble_eq_true rfl, Nat.le_of_ble_eq_true rfl⟩) ⟨x_blind _ _ _, va_recv hK hP (ci := 1) (q0 := 1) rfl (x_lk_B G _), fun U hU hW => ⟨rfl, x_pw hP hD hK hG hS hz hU hW⟩⟩ rfl rfl hl.1 rfl (lv_room (Nat.le_of_ble_eq_true rfl)) d_X_wipeFreeBlocks_26 ⟨Nat.le_of_ble_eq_true rfl, Nat.le_of_ble_eq_true rfl⟩) hS (fun q _ h => h) (fun q h => h) (fun ra u t H locs ht hvm hw hB _ _ hS => ?_)
        obtain ⟨rfl, rfl⟩ := hw
        obtain ⟨hP, hD⟩ := x_back hB ht
        refine lv_iload_n hx hb d_X_wipeFreeBlocks_29 rfl (lv_at hl 1 rfl) ?_
        refine lv_icmp_ne (tgt := 37) hx hb d_X_wipeFreeBlocks_30 (by decide) (fun hc13 => ?_) (fun hc13 => ?_)
        · have hf := x_br_f hf hc13
          refine lv_iconst (v := (0 : Int32)) hx hb d_X_wipeFreeBlocks_37 (by decide) ?_
          refine lv_istore (lv' := [(4, .int (0 : Int32)), (0, .ref (x_ad G 0)), (1, .int a1), (2, .int a2), (3, .int a3)]) hx hb d_X_wipeFreeBlocks_38 hl (by decide) rfl (fun ls hl => ?_)
          refine lv_aload_n hx hb d_X_wipeFreeBlocks_40 rfl (lv_at hl 1 rfl) ?_
          refine va_get (D := x_D G) (ci := 0) (v := .ref (x_ad G 4)) (C := "ContentLibrary") (T := x_TX) (N := 9) hx hb hts x_inX hown hK hP 0 (x_lk_X G _) rfl 1 (by decide) (hts _ t_131) (fun _ h9 => h9) rfl d_X_wipeFreeBlocks_41 ?_
          refine lv_iload_n hx hb d_X_wipeFreeBlocks_44 rfl (lv_at hl 4 rfl) ?_
          obtain ⟨hin14, hf⟩ := x_ck_some hf
          refine va_zald hx hb hK hP 4 1 (x_lk_Z G _) rfl hin14 d_X_wipeFreeBlocks_45 ?_
          refine lv_if_ne (tgt := 82) hx hb d_X_wipeFreeBlocks_46 (by decide) (fun hc15 => ?_) (fun hc15 => ?_)
          · have hf := x_br_f hf hc15
            refine lv_iinc (v := (a3 + (1 : Int32))) (lv' := [(3, .int (a3 + (1 : Int32))), (4, .int (0 : Int32)), (0, .ref (x_ad G 0)), (1, .int a1), (2, .int a2)]) hx hb d_X_wipeFreeBlocks_82 hl (k := 4) rfl rfl (by decide) rfl (fun ls hl => ?_)
            refine lv_goto (tgt := 4) hx hb d_X_wipeFreeBlocks_85 (by decide) ?_
            exact ih a1 a2 (a3 + (1 : Int32)) z11 hf _ _ _ hP hD hS (lv_sub hl [2, 3, 4, 0] rfl)
          · have hf := x_br_t hf hc15
            refine lv_iload hx hb d_X_wipeFreeBlocks_49 (lv_at hl 0 rfl) ?_
            refine lv_if_eq (tgt := 82) hx hb d_X_wipeFreeBlocks_51 (by decide) (fun _ => ?_) (fun hc => absurd hc (by decide))
            refine lv_iinc (v := (a3 + (1 : Int32))) (lv' := [(3, .int (a3 + (1 : Int32))), (4, .int (0 : Int32)), (0, .ref (x_ad G 0)), (1, .int a1), (2, .int a2)]) hx hb d_X_wipeFreeBlocks_82 hl (k := 4) rfl rfl (by decide) rfl (fun ls hl => ?_)
            refine lv_goto (tgt := 4) hx hb d_X_wipeFreeBlocks_85 (by decide) ?_
            exact ih a1 a2 (a3 + (1 : Int32)) z11 hf _ _ _ hP hD hS (lv_sub hl [2, 3, 4, 0] rfl)
        · have hf := x_br_t hf hc13
          refine lv_iconst (v := (1 : Int32)) hx hb d_X_wipeFreeBlocks_33 (by decide) ?_
          refine lv_goto (tgt := 38) hx hb d_X_wipeFreeBlocks_34 (by decide) ?_
          refine lv_istore (lv' := [(4, .int (1 : Int32)), (0, .ref (x_ad G 0)), (1, .int a1), (2, .int a2), (3, .int a3)]) hx hb d_X_wipeFreeBlocks_38 hl (by decide) rfl (fun ls hl => ?_)
          refine lv_aload_n hx hb d_X_wipeFreeBlocks_40 rfl (lv_at hl 1 rfl) ?_
          refine va_get (D := x_D G) (ci := 0) (v := .ref (x_ad G 4)) (C := "ContentLibrary") (T := x_TX) (N := 9) hx hb hts x_inX hown hK hP 0 (x_lk_X G _) rfl 1 (by decide) (hts _ t_131) (fun _ h9 => h9) rfl d_X_wipeFreeBlocks_41 ?_
          refine lv_iload_n hx hb d_X_wipeFreeBlocks_44 rfl (lv_at hl 4 rfl) ?_
          obtain ⟨hin16, hf⟩ := x_ck_some hf
          refine va_zald hx hb hK hP 4 1 (x_lk_Z G _) rfl hin16 d_X_wipeFreeBlocks_45 ?_
          refine lv_if_ne (tgt := 82) hx hb d_X_wipeFreeBlocks_46 (by decide) (fun hc17 => ?_) (fun hc17 => ?_)
          · have hf := x_br_f hf hc17
            refine lv_iinc (v := (a3 + (1 : Int32))) (lv' := [(3, .int (a3 + (1 : Int32))), (4, .int (1 : Int32)), (0, .ref (x_ad G 0)), (1, .int a1), (2, .int a2)]) hx hb d_X_wipeFreeBlocks_82 hl (k := 4) rfl rfl (by decide) rfl (fun ls hl => ?_)
            refine lv_goto (tgt := 4) hx hb d_X_wipeFreeBlocks_85 (by decide) ?_
            exact ih a1 a2 (a3 + (1 : Int32)) z11 hf _ _ _ hP hD hS (lv_sub hl [2, 3, 4, 0] rfl)
          · have hf := x_br_t hf hc17
            refine lv_iload hx hb d_X_wipeFreeBlocks_49 (lv_at hl 0 rfl) ?_
            refine lv_if_eq (tgt := 82) hx hb d_X_wipeFreeBlocks_51 (by decide) (fun hc => absurd hc (by decide)) (fun _ => ?_)
            refine lv_aload_n hx hb d_X_wipeFreeBlocks_54 rfl (lv_at hl 1 rfl) ?_
            refine va_get (D := x_D G) (ci := 0) (v := .ref (x_ad G 1)) (C := "ContentLibrary") (T := x_TX) (N := 9) hx hb hts x_inX hown hK hP 0 (x_lk_X G _) rfl 0 (by decide) (hts _ t_130) (fun _ h9 => h9) rfl d_X_wipeFreeBlocks_55 ?_
            refine lv_iload_n hx hb d_X_wipeFreeBlocks_58 rfl (lv_at hl 4 rfl) ?_
            obtain ⟨r18, z18, hq19, hf⟩ := x_cl_some hf
            refine va_calli (va_runV (As := [.int a3]) (rest := []) ⟨hx, hb, hml, hown, hts⟩ (c_B_isBlank l G a3 z11 r18 z18 hq19) (cwV 1 hts (x_gV t_305 t_306 t_307 t_3 t_308) rfl rfl rfl (by decide +kernel) ⟨Nat.le_of_ble_eq_true rfl, Nat.le_of_ble_eq_true rfl⟩) ⟨x_blind _ _ _, va_recv hK hP (ci := 1) (q0 := 1) rfl (x_lk_B G _), fun U hU hW => ⟨rfl, x_pw hP hD hK hG hS hz hU hW⟩⟩ rfl rfl hl.1 rfl (lv_room (Nat.le_of_ble_eq_true rfl)) d_X_wipeFreeBlocks_59 ⟨Nat.le_of_ble_eq_true rfl, Nat.le_of_ble_eq_true rfl⟩) hS (fun q _ h => h) (fun q h => h) (fun ra u t H locs ht hvm hw hB _ _ hS => ?_)
            obtain ⟨rfl, rfl⟩ := hw
            obtain ⟨hP, hD⟩ := x_back hB ht
            refine lv_if_ne (tgt := 82) hx hb d_X_wipeFreeBlocks_62 (by decide) (fun hc20 => ?_) (fun hc20 => ?_)
            · have hf := x_br_f hf hc20
              refine lv_iinc (v := (a3 + (1 : Int32))) (lv' := [(3, .int (a3 + (1 : Int32))), (4, .int (1 : Int32)), (0, .ref (x_ad G 0)), (1, .int a1), (2, .int a2)]) hx hb d_X_wipeFreeBlocks_82 hl (k := 4) rfl rfl (by decide) rfl (fun ls hl => ?_)
              refine lv_goto (tgt := 4) hx hb d_X_wipeFreeBlocks_85 (by decide) ?_
              exact ih a1 a2 (a3 + (1 : Int32)) z18 hf _ _ _ hP hD hS (lv_sub hl [2, 3, 4, 0] rfl)
            · have hf := x_br_t hf hc20
              refine lv_aload_n hx hb d_X_wipeFreeBlocks_65 rfl (lv_at hl 1 rfl) ?_
              refine va_get (D := x_D G) (ci := 0) (v := .ref (x_ad G 1)) (C := "ContentLibrary") (T := x_TX) (N := 9) hx hb hts x_inX hown hK hP 0 (x_lk_X G _) rfl 0 (by decide) (hts _ t_130) (fun _ h9 => h9) rfl d_X_wipeFreeBlocks_66 ?_
              refine lv_iload_n hx hb d_X_wipeFreeBlocks_69 rfl (lv_at hl 4 rfl) ?_
              obtain ⟨r21, z21, hq22, hf⟩ := x_cl_some hf
              refine va_calli (va_runV (As := [.int a3]) (rest := []) ⟨hx, hb, hml, hown, hts⟩ (c_B_wipe l G a3 z18 r21 z21 hq22) (cwV 1 hts (x_gV t_513 t_514 t_515 t_3 t_516) rfl rfl rfl (by decide +kernel) ⟨Nat.le_of_ble_eq_true rfl, Nat.le_of_ble_eq_true rfl⟩) ⟨x_blind _ _ _, va_recv hK hP (ci := 1) (q0 := 1) rfl (x_lk_B G _), fun U hU hW => ⟨rfl, x_pw hP hD hK hG hS hz hU hW⟩⟩ rfl rfl hl.1 rfl (lv_room (Nat.le_of_ble_eq_true rfl)) d_X_wipeFreeBlocks_70 ⟨Nat.le_of_ble_eq_true rfl, Nat.le_of_ble_eq_true rfl⟩) hS (fun q _ h => h) (fun q h => h) (fun ra u t H locs ht hvm hw hB _ _ hS => ?_)
              obtain ⟨rfl, rfl⟩ := hw
              obtain ⟨hP, hD⟩ := x_back hB ht
              refine lv_if_ne (tgt := 79) hx hb d_X_wipeFreeBlocks_73 (by decide) (fun hc23 => ?_) (fun hc23 => ?_)
              · have hf := x_br_f hf hc23
                refine lv_iinc (v := (a2 + (1 : Int32))) (lv' := [(2, .int (a2 + (1 : Int32))), (4, .int (1 : Int32)), (0, .ref (x_ad G 0)), (1, .int a1), (3, .int a3)]) hx hb d_X_wipeFreeBlocks_79 hl (k := 3) rfl rfl (by decide) rfl (fun ls hl => ?_)
                refine lv_iinc (v := (a3 + (1 : Int32))) (lv' := [(3, .int (a3 + (1 : Int32))), (2, .int (a2 + (1 : Int32))), (4, .int (1 : Int32)), (0, .ref (x_ad G 0)), (1, .int a1)]) hx hb d_X_wipeFreeBlocks_82 hl (k := 4) rfl rfl (by decide) rfl (fun ls hl => ?_)
                refine lv_goto (tgt := 4) hx hb d_X_wipeFreeBlocks_85 (by decide) ?_
                exact ih a1 (a2 + (1 : Int32)) (a3 + (1 : Int32)) z21 hf _ _ _ hP hD hS (lv_sub hl [3, 4, 1, 0] rfl)
              · have hf := x_br_t hf hc23
                exact w_X_wipeFreeBlocks_76 l G C0 r zo z21 hf _ _ _ hP hD hS (lv_sub hl [] rfl)
set_option maxHeartbeats 4000000 in
set_option maxRecDepth 100000 in
theorem c_X_wipeFreeBlocks (l : Launch) (G : x_G) (p1 : Int32) (z0 : x_St) (r : Int32) (zo : x_St) (hf : f_X_wipeFreeBlocks (x_n G) p1 z0 = some (r, zo)) : Met l (⟨"ContentLibrary", "wipeFreeBlocks", "(I)I"⟩ : MethodName) (x_ws (⟨"ContentLibrary", "wipeFreeBlocks", "(I)I"⟩ : MethodName) prog_1_method_29_code 5 (some .int)) rm_X_wipeFreeBlocks (va_Pc [.ref (x_ad G 0), .int p1] (x_PW G z0)) (va_Qi (fun a u => r = a ∧ zo = u) (x_PW G) (x_A G)) 0 0 (x_A G) := by
  refine Met.ofW (cc := prog_1_method_29_code) (maxL := 5) (ret := (some .int)) (by decide) rfl ?_
  intro p e s m args below meth c s₁ B hml hv
  obtain ⟨rfl, hz, hP, hD, hK, hG⟩ := hv
  have C0 : x_Ctx G p s m _ meth c prog_1_method_29_code "ContentLibrary" 5 (some .int) := ⟨B.exec, B.bytes, B.returns, hml, findClass_of_methodNamed B.named, fun w h => atoms_spec (ws := (x_ws (⟨"ContentLibrary", "wipeFreeBlocks", "(I)I"⟩ : MethodName) prog_1_method_29_code 5 (some .int))) B.pre w (List.mem_cons_of_mem _ h), B.notSynchronized, hz, hK, hG⟩
  obtain ⟨hx, hb, hr, hml, hown, hts, hlocks, hz, hK, hG⟩ := id C0
  have hS : va_S (x_A G) s.heap s.heap [] := va_S.rf
  have hl := lv_entry ([.ref (x_ad G 0), .int p1]) (n := 5) (Nat.le_of_ble_eq_true rfl)
  rw [lg_entry_eq]
  generalize (lg_sl ([.ref (x_ad G 0), .int p1]) ++ List.replicate (5 - (lg_sl ([.ref (x_ad G 0), .int p1])).length) Slot.unset).toArray = ls at hl ⊢
  have hl : lv_has ls 5 [(0, .ref (x_ad G 0)), (1, .int p1)] := hl
  rw [f_X_wipeFreeBlocks] at hf
  refine lv_iconst (v := (0 : Int32)) hx hb d_X_wipeFreeBlocks_0 (by decide) ?_
  refine lv_istore_n (lv' := [(2, .int (0 : Int32)), (0, .ref (x_ad G 0)), (1, .int p1)]) hx hb d_X_wipeFreeBlocks_1 rfl hl (by decide) rfl (fun ls hl => ?_)
  refine lv_iconst (v := (0 : Int32)) hx hb d_X_wipeFreeBlocks_2 (by decide) ?_
  refine lv_istore_n (lv' := [(3, .int (0 : Int32)), (2, .int (0 : Int32)), (0, .ref (x_ad G 0)), (1, .int p1)]) hx hb d_X_wipeFreeBlocks_3 rfl hl (by decide) rfl (fun ls hl => ?_)
  exact w_X_wipeFreeBlocks_4 l G C0 r zo x_FU p1 (0 : Int32) (0 : Int32) z0 hf _ _ _ hP hD hS (lv_sub hl [2, 3, 1, 0] rfl)
