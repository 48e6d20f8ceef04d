theorem t_6 : Cond.initialized "ContentLibrary$Digester" ∈ x_big := x_bt 6 (by decide +kernel) (by decide +kernel)
theorem t_93 : Cond.fieldLink "ContentLibrary$Kept" 22 "ContentLibrary$Kept" "digest" "[I" ∈ x_big := x_bt 93 (by decide +kernel) (by decide +kernel)
theorem t_120 : Cond.fieldLink "ContentLibrary$Digester" 11 "ContentLibrary$Digester" "padded" "[I" ∈ x_big := x_bt 120 (by decide +kernel) (by decide +kernel)
theorem t_121 : Cond.fieldLink "ContentLibrary$Digester" 15 "ContentLibrary$Digester" "schedule" "[I" ∈ x_big := x_bt 121 (by decide +kernel) (by decide +kernel)
theorem t_122 : Cond.fieldLink "ContentLibrary$Digester" 18 "ContentLibrary$Digester" "state" "[I" ∈ x_big := x_bt 122 (by decide +kernel) (by decide +kernel)
theorem t_246 : Cond.methodLink "ContentLibrary$Digester" 21 (⟨"ContentLibrary$Digester", "pad", "([II)I"⟩ : MethodName) ∈ x_big := x_bt 246 (by decide +kernel) (by decide +kernel)
theorem t_248 : Cond.instanceMethod (⟨"ContentLibrary$Digester", "pad", "([II)I"⟩ : MethodName) ∈ x_big := x_bt 248 (by decide +kernel) (by decide +kernel)
theorem t_249 : Cond.code (⟨"ContentLibrary$Digester", "pad", "([II)I"⟩ : MethodName) prog_3_method_3_code 5 (some .int) ∈ x_big := x_bt 249 (by decide +kernel) (by decide +kernel)
theorem t_250 : Cond.methodLink "ContentLibrary$Digester" 42 (⟨"java/util/Arrays", "fill", "([II)V"⟩ : MethodName) ∈ x_big := x_bt 250 (by decide +kernel) (by decide +kernel)
theorem t_253 : Cond.methodLink "ContentLibrary$Digester" 28 (⟨"java/lang/System", "arraycopy", "(Ljava/lang/Object;ILjava/lang/Object;II)V"⟩ : MethodName) ∈ x_big := x_bt 253 (by decide +kernel) (by decide +kernel)
theorem t_254 : Cond.fieldLink "ContentLibrary$Digester" 25 "ContentLibrary$Digester" "START" "[I" ∈ x_big := x_bt 254 (by decide +kernel) (by decide +kernel)
theorem t_256 : Cond.methodLink "ContentLibrary$Digester" 34 (⟨"ContentLibrary$Digester", "prepare", "(I)V"⟩ : MethodName) ∈ x_big := x_bt 256 (by decide +kernel) (by decide +kernel)
theorem t_258 : Cond.instanceMethod (⟨"ContentLibrary$Digester", "prepare", "(I)V"⟩ : MethodName) ∈ x_big := x_bt 258 (by decide +kernel) (by decide +kernel)
theorem t_259 : Cond.code (⟨"ContentLibrary$Digester", "prepare", "(I)V"⟩ : MethodName) prog_3_method_4_code 7 none ∈ x_big := x_bt 259 (by decide +kernel) (by decide +kernel)
theorem t_260 : Cond.methodLink "ContentLibrary$Digester" 48 (⟨"java/lang/Integer", "rotateRight", "(II)I"⟩ : MethodName) ∈ x_big := x_bt 260 (by decide +kernel) (by decide +kernel)
theorem t_261 : Cond.static (⟨"java/lang/Integer", "rotateRight", "(II)I"⟩ : MethodName) ∈ x_big := x_bt 261 (by decide +kernel) (by decide +kernel)
theorem t_262 : Cond.code (⟨"java/lang/Integer", "rotateRight", "(II)I"⟩ : MethodName) prog_12_method_51_code 2 (some .int) ∈ x_big := x_bt 262 (by decide +kernel) (by decide +kernel)
theorem t_263 : Cond.methodLink "ContentLibrary$Digester" 38 (⟨"ContentLibrary$Digester", "mix", "([I)V"⟩ : MethodName) ∈ x_big := x_bt 263 (by decide +kernel) (by decide +kernel)
theorem t_265 : Cond.instanceMethod (⟨"ContentLibrary$Digester", "mix", "([I)V"⟩ : MethodName) ∈ x_big := x_bt 265 (by decide +kernel) (by decide +kernel)
theorem t_266 : Cond.code (⟨"ContentLibrary$Digester", "mix", "([I)V"⟩ : MethodName) prog_3_method_5_code 3 none ∈ x_big := x_bt 266 (by decide +kernel) (by decide +kernel)
theorem t_267 : Cond.fieldLink "ContentLibrary$Digester" 54 "ContentLibrary$Digester" "ROUND" "[I" ∈ x_big := x_bt 267 (by decide +kernel) (by decide +kernel)
theorem t_269 : Cond.methodLink "ContentLibrary$Digester" 57 (⟨"ContentLibrary$Digester", "turnRound", "(I)V"⟩ : MethodName) ∈ x_big := x_bt 269 (by decide +kernel) (by decide +kernel)
theorem t_271 : Cond.instanceMethod (⟨"ContentLibrary$Digester", "turnRound", "(I)V"⟩ : MethodName) ∈ x_big := x_bt 271 (by decide +kernel) (by decide +kernel)
theorem t_272 : Cond.code (⟨"ContentLibrary$Digester", "turnRound", "(I)V"⟩ : MethodName) prog_3_method_6_code 10 none ∈ x_big := x_bt 272 (by decide +kernel) (by decide +kernel)
theorem sel_ContentLibrary_Digester_mix : Cond.selects "ContentLibrary$Digester" (⟨"ContentLibrary$Digester", "mix", "([I)V"⟩ : MethodName) (⟨"ContentLibrary$Digester", "mix", "([I)V"⟩ : MethodName) ∈ x_big := x_bs 6 (by decide +kernel) (by decide +kernel)
theorem sel_ContentLibrary_Digester_pad : Cond.selects "ContentLibrary$Digester" (⟨"ContentLibrary$Digester", "pad", "([II)I"⟩ : MethodName) (⟨"ContentLibrary$Digester", "pad", "([II)I"⟩ : MethodName) ∈ x_big := x_bs 4 (by decide +kernel) (by decide +kernel)
theorem sel_ContentLibrary_Digester_prepare : Cond.selects "ContentLibrary$Digester" (⟨"ContentLibrary$Digester", "prepare", "(I)V"⟩ : MethodName) (⟨"ContentLibrary$Digester", "prepare", "(I)V"⟩ : MethodName) ∈ x_big := x_bs 5 (by decide +kernel) (by decide +kernel)
theorem sel_ContentLibrary_Digester_turnRound : Cond.selects "ContentLibrary$Digester" (⟨"ContentLibrary$Digester", "turnRound", "(I)V"⟩ : MethodName) (⟨"ContentLibrary$Digester", "turnRound", "(I)V"⟩ : MethodName) ∈ x_big := x_bs 7 (by decide +kernel) (by decide +kernel)
theorem d_K_hasDigest_0 : decode prog_4_method_2_code 0 = .ok (.iconst 0, 1) := by decide +kernel
theorem d_K_hasDigest_1 : decode prog_4_method_2_code 1 = .ok (.istore_n 2, 1) := by decide +kernel
theorem d_K_hasDigest_2 : decode prog_4_method_2_code 2 = .ok (.iload_n 2, 1) := by decide +kernel
theorem d_K_hasDigest_3 : decode prog_4_method_2_code 3 = .ok (.bipush 8, 2) := by decide +kernel
theorem d_K_hasDigest_5 : decode prog_4_method_2_code 5 = .ok (.if_icmp .ge 23, 3) := by decide +kernel
theorem d_K_hasDigest_8 : decode prog_4_method_2_code 8 = .ok (.aload_n 0, 1) := by decide +kernel
theorem d_K_hasDigest_9 : decode prog_4_method_2_code 9 = .ok (.getfield 22, 3) := by decide +kernel
theorem d_K_hasDigest_12 : decode prog_4_method_2_code 12 = .ok (.iload_n 2, 1) := by decide +kernel
theorem d_K_hasDigest_13 : decode prog_4_method_2_code 13 = .ok (.iaload, 1) := by decide +kernel
theorem d_K_hasDigest_14 : decode prog_4_method_2_code 14 = .ok (.aload_n 1, 1) := by decide +kernel
theorem d_K_hasDigest_15 : decode prog_4_method_2_code 15 = .ok (.iload_n 2, 1) := by decide +kernel
theorem d_K_hasDigest_16 : decode prog_4_method_2_code 16 = .ok (.iaload, 1) := by decide +kernel
theorem d_K_hasDigest_17 : decode prog_4_method_2_code 17 = .ok (.if_icmp .eq 5, 3) := by decide +kernel
theorem d_K_hasDigest_20 : decode prog_4_method_2_code 20 = .ok (.iconst 0, 1) := by decide +kernel
theorem d_K_hasDigest_21 : decode prog_4_method_2_code 21 = .ok (.ireturn, 1) := by decide +kernel
theorem d_K_hasDigest_22 : decode prog_4_method_2_code 22 = .ok (.iinc 2 1, 3) := by decide +kernel
theorem d_K_hasDigest_25 : decode prog_4_method_2_code 25 = .ok (.goto (-23), 3) := by decide +kernel
theorem d_K_hasDigest_28 : decode prog_4_method_2_code 28 = .ok (.iconst 1, 1) := by decide +kernel
theorem d_K_hasDigest_29 : decode prog_4_method_2_code 29 = .ok (.ireturn, 1) := by decide +kernel
theorem d_D_pad_0 : decode prog_3_method_3_code 0 = .ok (.aload_n 0, 1) := by decide +kernel
theorem d_D_pad_1 : decode prog_3_method_3_code 1 = .ok (.getfield 11, 3) := by decide +kernel
theorem d_D_pad_4 : decode prog_3_method_3_code 4 = .ok (.iconst 0, 1) := by decide +kernel
theorem d_D_pad_5 : decode prog_3_method_3_code 5 = .ok (.invokestatic 42, 3) := by decide +kernel
theorem d_D_pad_8 : decode prog_3_method_3_code 8 = .ok (.aload_n 1, 1) := by decide +kernel
theorem d_D_pad_9 : decode prog_3_method_3_code 9 = .ok (.iconst 0, 1) := by decide +kernel
theorem d_D_pad_10 : decode prog_3_method_3_code 10 = .ok (.aload_n 0, 1) := by decide +kernel
theorem d_D_pad_11 : decode prog_3_method_3_code 11 = .ok (.getfield 11, 3) := by decide +kernel
theorem d_D_pad_14 : decode prog_3_method_3_code 14 = .ok (.iconst 0, 1) := by decide +kernel
theorem d_D_pad_15 : decode prog_3_method_3_code 15 = .ok (.iload_n 2, 1) := by decide +kernel
theorem d_D_pad_16 : decode prog_3_method_3_code 16 = .ok (.invokestatic 28, 3) := by decide +kernel
theorem d_D_pad_19 : decode prog_3_method_3_code 19 = .ok (.aload_n 0, 1) := by decide +kernel
theorem d_D_pad_20 : decode prog_3_method_3_code 20 = .ok (.getfield 11, 3) := by decide +kernel
theorem d_D_pad_23 : decode prog_3_method_3_code 23 = .ok (.iload_n 2, 1) := by decide +kernel
theorem d_D_pad_24 : decode prog_3_method_3_code 24 = .ok (.sipush 128, 3) := by decide +kernel
theorem d_D_pad_27 : decode prog_3_method_3_code 27 = .ok (.iastore, 1) := by decide +kernel
theorem d_D_pad_28 : decode prog_3_method_3_code 28 = .ok (.iload_n 2, 1) := by decide +kernel
theorem d_D_pad_29 : decode prog_3_method_3_code 29 = .ok (.iconst 1, 1) := by decide +kernel
theorem d_D_pad_30 : decode prog_3_method_3_code 30 = .ok (.iadd, 1) := by decide +kernel
theorem d_D_pad_31 : decode prog_3_method_3_code 31 = .ok (.bipush 8, 2) := by decide +kernel
theorem d_D_pad_33 : decode prog_3_method_3_code 33 = .ok (.iadd, 1) := by decide +kernel
theorem d_D_pad_34 : decode prog_3_method_3_code 34 = .ok (.bipush 64, 2) := by decide +kernel
theorem d_D_pad_36 : decode prog_3_method_3_code 36 = .ok (.if_icmp .gt 8, 3) := by decide +kernel
theorem d_D_pad_39 : decode prog_3_method_3_code 39 = .ok (.bipush 64, 2) := by decide +kernel
theorem d_D_pad_41 : decode prog_3_method_3_code 41 = .ok (.goto 6, 3) := by decide +kernel
theorem d_D_pad_47 : decode prog_3_method_3_code 47 = .ok (.istore_n 3, 1) := by decide +kernel
theorem d_D_pad_48 : decode prog_3_method_3_code 48 = .ok (.bipush 8, 2) := by decide +kernel
theorem d_D_pad_50 : decode prog_3_method_3_code 50 = .ok (.iload_n 2, 1) := by decide +kernel
theorem d_D_pad_51 : decode prog_3_method_3_code 51 = .ok (.imul, 1) := by decide +kernel
theorem d_D_pad_52 : decode prog_3_method_3_code 52 = .ok (.istore 4, 2) := by decide +kernel
theorem d_D_pad_54 : decode prog_3_method_3_code 54 = .ok (.aload_n 0, 1) := by decide +kernel
theorem d_D_pad_55 : decode prog_3_method_3_code 55 = .ok (.getfield 11, 3) := by decide +kernel
theorem d_D_pad_58 : decode prog_3_method_3_code 58 = .ok (.iload_n 3, 1) := by decide +kernel
theorem d_D_pad_59 : decode prog_3_method_3_code 59 = .ok (.iconst 2, 1) := by decide +kernel
theorem d_D_pad_60 : decode prog_3_method_3_code 60 = .ok (.isub, 1) := by decide +kernel
theorem d_D_pad_61 : decode prog_3_method_3_code 61 = .ok (.iload 4, 2) := by decide +kernel
theorem d_D_pad_63 : decode prog_3_method_3_code 63 = .ok (.bipush 8, 2) := by decide +kernel
theorem d_D_pad_65 : decode prog_3_method_3_code 65 = .ok (.iushr, 1) := by decide +kernel
theorem d_D_pad_66 : decode prog_3_method_3_code 66 = .ok (.iastore, 1) := by decide +kernel
theorem d_D_pad_67 : decode prog_3_method_3_code 67 = .ok (.aload_n 0, 1) := by decide +kernel
theorem d_D_pad_68 : decode prog_3_method_3_code 68 = .ok (.getfield 11, 3) := by decide +kernel
theorem d_D_pad_71 : decode prog_3_method_3_code 71 = .ok (.iload_n 3, 1) := by decide +kernel
theorem d_D_pad_72 : decode prog_3_method_3_code 72 = .ok (.iconst 1, 1) := by decide +kernel
theorem d_D_pad_73 : decode prog_3_method_3_code 73 = .ok (.isub, 1) := by decide +kernel
theorem d_D_pad_74 : decode prog_3_method_3_code 74 = .ok (.iload 4, 2) := by decide +kernel
theorem d_D_pad_76 : decode prog_3_method_3_code 76 = .ok (.sipush 255, 3) := by decide +kernel
theorem d_D_pad_79 : decode prog_3_method_3_code 79 = .ok (.iand, 1) := by decide +kernel
theorem d_D_pad_80 : decode prog_3_method_3_code 80 = .ok (.iastore, 1) := by decide +kernel
theorem d_D_pad_81 : decode prog_3_method_3_code 81 = .ok (.iload_n 3, 1) := by decide +kernel
theorem d_D_pad_82 : decode prog_3_method_3_code 82 = .ok (.ireturn, 1) := by decide +kernel
theorem d_D_pad_44 : decode prog_3_method_3_code 44 = .ok (.sipush 128, 3) := by decide +kernel
theorem d_D_prepare_0 : decode prog_3_method_4_code 0 = .ok (.iconst 0, 1) := by decide +kernel
theorem d_D_prepare_1 : decode prog_3_method_4_code 1 = .ok (.istore_n 2, 1) := by decide +kernel
theorem d_D_prepare_2 : decode prog_3_method_4_code 2 = .ok (.iload_n 2, 1) := by decide +kernel
theorem d_D_prepare_3 : decode prog_3_method_4_code 3 = .ok (.bipush 16, 2) := by decide +kernel
theorem d_D_prepare_5 : decode prog_3_method_4_code 5 = .ok (.if_icmp .ge 63, 3) := by decide +kernel
theorem d_D_prepare_8 : decode prog_3_method_4_code 8 = .ok (.iload_n 1, 1) := by decide +kernel
theorem d_D_prepare_9 : decode prog_3_method_4_code 9 = .ok (.iconst 4, 1) := by decide +kernel
theorem d_D_prepare_10 : decode prog_3_method_4_code 10 = .ok (.iload_n 2, 1) := by decide +kernel
theorem d_D_prepare_11 : decode prog_3_method_4_code 11 = .ok (.imul, 1) := by decide +kernel
theorem d_D_prepare_12 : decode prog_3_method_4_code 12 = .ok (.iadd, 1) := by decide +kernel
theorem d_D_prepare_13 : decode prog_3_method_4_code 13 = .ok (.istore_n 3, 1) := by decide +kernel
theorem d_D_prepare_14 : decode prog_3_method_4_code 14 = .ok (.aload_n 0, 1) := by decide +kernel
theorem d_D_prepare_15 : decode prog_3_method_4_code 15 = .ok (.getfield 15, 3) := by decide +kernel
theorem d_D_prepare_18 : decode prog_3_method_4_code 18 = .ok (.iload_n 2, 1) := by decide +kernel
theorem d_D_prepare_19 : decode prog_3_method_4_code 19 = .ok (.aload_n 0, 1) := by decide +kernel
theorem d_D_prepare_20 : decode prog_3_method_4_code 20 = .ok (.getfield 11, 3) := by decide +kernel
theorem d_D_prepare_23 : decode prog_3_method_4_code 23 = .ok (.iload_n 3, 1) := by decide +kernel
theorem d_D_prepare_24 : decode prog_3_method_4_code 24 = .ok (.iaload, 1) := by decide +kernel
theorem d_D_prepare_25 : decode prog_3_method_4_code 25 = .ok (.bipush 24, 2) := by decide +kernel
theorem d_D_prepare_27 : decode prog_3_method_4_code 27 = .ok (.ishl, 1) := by decide +kernel
theorem d_D_prepare_28 : decode prog_3_method_4_code 28 = .ok (.aload_n 0, 1) := by decide +kernel
theorem d_D_prepare_29 : decode prog_3_method_4_code 29 = .ok (.getfield 11, 3) := by decide +kernel
theorem d_D_prepare_32 : decode prog_3_method_4_code 32 = .ok (.iload_n 3, 1) := by decide +kernel
theorem d_D_prepare_33 : decode prog_3_method_4_code 33 = .ok (.iconst 1, 1) := by decide +kernel
theorem d_D_prepare_34 : decode prog_3_method_4_code 34 = .ok (.iadd, 1) := by decide +kernel
theorem d_D_prepare_35 : decode prog_3_method_4_code 35 = .ok (.iaload, 1) := by decide +kernel
theorem d_D_prepare_36 : decode prog_3_method_4_code 36 = .ok (.bipush 16, 2) := by decide +kernel
theorem d_D_prepare_38 : decode prog_3_method_4_code 38 = .ok (.ishl, 1) := by decide +kernel
theorem d_D_prepare_39 : decode prog_3_method_4_code 39 = .ok (.ior, 1) := by decide +kernel
theorem d_D_prepare_40 : decode prog_3_method_4_code 40 = .ok (.aload_n 0, 1) := by decide +kernel
theorem d_D_prepare_41 : decode prog_3_method_4_code 41 = .ok (.getfield 11, 3) := by decide +kernel
theorem d_D_prepare_44 : decode prog_3_method_4_code 44 = .ok (.iload_n 3, 1) := by decide +kernel
theorem d_D_prepare_45 : decode prog_3_method_4_code 45 = .ok (.iconst 2, 1) := by decide +kernel
theorem d_D_prepare_46 : decode prog_3_method_4_code 46 = .ok (.iadd, 1) := by decide +kernel
theorem d_D_prepare_47 : decode prog_3_method_4_code 47 = .ok (.iaload, 1) := by decide +kernel
theorem d_D_prepare_48 : decode prog_3_method_4_code 48 = .ok (.bipush 8, 2) := by decide +kernel
theorem d_D_prepare_50 : decode prog_3_method_4_code 50 = .ok (.ishl, 1) := by decide +kernel
theorem d_D_prepare_51 : decode prog_3_method_4_code 51 = .ok (.ior, 1) := by decide +kernel
theorem d_D_prepare_52 : decode prog_3_method_4_code 52 = .ok (.aload_n 0, 1) := by decide +kernel
theorem d_D_prepare_53 : decode prog_3_method_4_code 53 = .ok (.getfield 11, 3) := by decide +kernel
theorem d_D_prepare_56 : decode prog_3_method_4_code 56 = .ok (.iload_n 3, 1) := by decide +kernel
theorem d_D_prepare_57 : decode prog_3_method_4_code 57 = .ok (.iconst 3, 1) := by decide +kernel
theorem d_D_prepare_58 : decode prog_3_method_4_code 58 = .ok (.iadd, 1) := by decide +kernel
theorem d_D_prepare_59 : decode prog_3_method_4_code 59 = .ok (.iaload, 1) := by decide +kernel
theorem d_D_prepare_60 : decode prog_3_method_4_code 60 = .ok (.ior, 1) := by decide +kernel
theorem d_D_prepare_61 : decode prog_3_method_4_code 61 = .ok (.iastore, 1) := by decide +kernel
theorem d_D_prepare_62 : decode prog_3_method_4_code 62 = .ok (.iinc 2 1, 3) := by decide +kernel
theorem d_D_prepare_65 : decode prog_3_method_4_code 65 = .ok (.goto (-63), 3) := by decide +kernel
theorem d_D_prepare_68 : decode prog_3_method_4_code 68 = .ok (.bipush 16, 2) := by decide +kernel
theorem d_D_prepare_70 : decode prog_3_method_4_code 70 = .ok (.istore_n 2, 1) := by decide +kernel
theorem d_D_prepare_71 : decode prog_3_method_4_code 71 = .ok (.iload_n 2, 1) := by decide +kernel
theorem d_D_prepare_72 : decode prog_3_method_4_code 72 = .ok (.bipush 64, 2) := by decide +kernel
theorem d_D_prepare_74 : decode prog_3_method_4_code 74 = .ok (.if_icmp .ge 102, 3) := by decide +kernel
theorem d_D_prepare_77 : decode prog_3_method_4_code 77 = .ok (.aload_n 0, 1) := by decide +kernel
theorem d_D_prepare_78 : decode prog_3_method_4_code 78 = .ok (.getfield 15, 3) := by decide +kernel
theorem d_D_prepare_81 : decode prog_3_method_4_code 81 = .ok (.iload_n 2, 1) := by decide +kernel
theorem d_D_prepare_82 : decode prog_3_method_4_code 82 = .ok (.bipush 15, 2) := by decide +kernel
theorem d_D_prepare_84 : decode prog_3_method_4_code 84 = .ok (.isub, 1) := by decide +kernel
theorem d_D_prepare_85 : decode prog_3_method_4_code 85 = .ok (.iaload, 1) := by decide +kernel
theorem d_D_prepare_86 : decode prog_3_method_4_code 86 = .ok (.istore_n 3, 1) := by decide +kernel
theorem d_D_prepare_87 : decode prog_3_method_4_code 87 = .ok (.aload_n 0, 1) := by decide +kernel
theorem d_D_prepare_88 : decode prog_3_method_4_code 88 = .ok (.getfield 15, 3) := by decide +kernel
theorem d_D_prepare_91 : decode prog_3_method_4_code 91 = .ok (.iload_n 2, 1) := by decide +kernel
theorem d_D_prepare_92 : decode prog_3_method_4_code 92 = .ok (.iconst 2, 1) := by decide +kernel
theorem d_D_prepare_93 : decode prog_3_method_4_code 93 = .ok (.isub, 1) := by decide +kernel
theorem d_D_prepare_94 : decode prog_3_method_4_code 94 = .ok (.iaload, 1) := by decide +kernel
theorem d_D_prepare_95 : decode prog_3_method_4_code 95 = .ok (.istore 4, 2) := by decide +kernel
theorem d_D_prepare_97 : decode prog_3_method_4_code 97 = .ok (.iload_n 3, 1) := by decide +kernel
theorem d_D_prepare_98 : decode prog_3_method_4_code 98 = .ok (.bipush 7, 2) := by decide +kernel
theorem d_D_prepare_100 : decode prog_3_method_4_code 100 = .ok (.invokestatic 48, 3) := by decide +kernel
theorem d_D_prepare_103 : decode prog_3_method_4_code 103 = .ok (.iload_n 3, 1) := by decide +kernel
theorem d_D_prepare_104 : decode prog_3_method_4_code 104 = .ok (.bipush 18, 2) := by decide +kernel
theorem d_D_prepare_106 : decode prog_3_method_4_code 106 = .ok (.invokestatic 48, 3) := by decide +kernel
theorem d_D_prepare_109 : decode prog_3_method_4_code 109 = .ok (.ixor, 1) := by decide +kernel
theorem d_D_prepare_110 : decode prog_3_method_4_code 110 = .ok (.iload_n 3, 1) := by decide +kernel
theorem d_D_prepare_111 : decode prog_3_method_4_code 111 = .ok (.iconst 3, 1) := by decide +kernel
theorem d_D_prepare_112 : decode prog_3_method_4_code 112 = .ok (.iushr, 1) := by decide +kernel
theorem d_D_prepare_113 : decode prog_3_method_4_code 113 = .ok (.ixor, 1) := by decide +kernel
theorem d_D_prepare_114 : decode prog_3_method_4_code 114 = .ok (.istore 5, 2) := by decide +kernel
theorem d_D_prepare_116 : decode prog_3_method_4_code 116 = .ok (.iload 4, 2) := by decide +kernel
theorem d_D_prepare_118 : decode prog_3_method_4_code 118 = .ok (.bipush 17, 2) := by decide +kernel
theorem d_D_prepare_120 : decode prog_3_method_4_code 120 = .ok (.invokestatic 48, 3) := by decide +kernel
theorem d_D_prepare_123 : decode prog_3_method_4_code 123 = .ok (.iload 4, 2) := by decide +kernel
theorem d_D_prepare_125 : decode prog_3_method_4_code 125 = .ok (.bipush 19, 2) := by decide +kernel
theorem d_D_prepare_127 : decode prog_3_method_4_code 127 = .ok (.invokestatic 48, 3) := by decide +kernel
theorem d_D_prepare_130 : decode prog_3_method_4_code 130 = .ok (.ixor, 1) := by decide +kernel
theorem d_D_prepare_131 : decode prog_3_method_4_code 131 = .ok (.iload 4, 2) := by decide +kernel
theorem d_D_prepare_133 : decode prog_3_method_4_code 133 = .ok (.bipush 10, 2) := by decide +kernel
theorem d_D_prepare_135 : decode prog_3_method_4_code 135 = .ok (.iushr, 1) := by decide +kernel
theorem d_D_prepare_136 : decode prog_3_method_4_code 136 = .ok (.ixor, 1) := by decide +kernel
theorem d_D_prepare_137 : decode prog_3_method_4_code 137 = .ok (.istore 6, 2) := by decide +kernel
theorem d_D_prepare_139 : decode prog_3_method_4_code 139 = .ok (.aload_n 0, 1) := by decide +kernel
theorem d_D_prepare_140 : decode prog_3_method_4_code 140 = .ok (.getfield 15, 3) := by decide +kernel
theorem d_D_prepare_143 : decode prog_3_method_4_code 143 = .ok (.iload_n 2, 1) := by decide +kernel
theorem d_D_prepare_144 : decode prog_3_method_4_code 144 = .ok (.iload 6, 2) := by decide +kernel
theorem d_D_prepare_146 : decode prog_3_method_4_code 146 = .ok (.aload_n 0, 1) := by decide +kernel
theorem d_D_prepare_147 : decode prog_3_method_4_code 147 = .ok (.getfield 15, 3) := by decide +kernel
theorem d_D_prepare_150 : decode prog_3_method_4_code 150 = .ok (.iload_n 2, 1) := by decide +kernel
theorem d_D_prepare_151 : decode prog_3_method_4_code 151 = .ok (.bipush 7, 2) := by decide +kernel
theorem d_D_prepare_153 : decode prog_3_method_4_code 153 = .ok (.isub, 1) := by decide +kernel
theorem d_D_prepare_154 : decode prog_3_method_4_code 154 = .ok (.iaload, 1) := by decide +kernel
theorem d_D_prepare_155 : decode prog_3_method_4_code 155 = .ok (.iadd, 1) := by decide +kernel
theorem d_D_prepare_156 : decode prog_3_method_4_code 156 = .ok (.iload 5, 2) := by decide +kernel
theorem d_D_prepare_158 : decode prog_3_method_4_code 158 = .ok (.iadd, 1) := by decide +kernel
theorem d_D_prepare_159 : decode prog_3_method_4_code 159 = .ok (.aload_n 0, 1) := by decide +kernel
theorem d_D_prepare_160 : decode prog_3_method_4_code 160 = .ok (.getfield 15, 3) := by decide +kernel
theorem d_D_prepare_163 : decode prog_3_method_4_code 163 = .ok (.iload_n 2, 1) := by decide +kernel
theorem d_D_prepare_164 : decode prog_3_method_4_code 164 = .ok (.bipush 16, 2) := by decide +kernel
theorem d_D_prepare_166 : decode prog_3_method_4_code 166 = .ok (.isub, 1) := by decide +kernel
theorem d_D_prepare_167 : decode prog_3_method_4_code 167 = .ok (.iaload, 1) := by decide +kernel
theorem d_D_prepare_168 : decode prog_3_method_4_code 168 = .ok (.iadd, 1) := by decide +kernel
theorem d_D_prepare_169 : decode prog_3_method_4_code 169 = .ok (.iastore, 1) := by decide +kernel
theorem d_D_prepare_170 : decode prog_3_method_4_code 170 = .ok (.iinc 2 1, 3) := by decide +kernel
theorem d_D_prepare_173 : decode prog_3_method_4_code 173 = .ok (.goto (-102), 3) := by decide +kernel
theorem d_D_prepare_176 : decode prog_3_method_4_code 176 = .ok (.return_, 1) := by decide +kernel
theorem d_D_turnRound_0 : decode prog_3_method_6_code 0 = .ok (.aload_n 0, 1) := by decide +kernel
theorem d_D_turnRound_1 : decode prog_3_method_6_code 1 = .ok (.getfield 18, 3) := by decide +kernel
theorem d_D_turnRound_4 : decode prog_3_method_6_code 4 = .ok (.iconst 0, 1) := by decide +kernel
theorem d_D_turnRound_5 : decode prog_3_method_6_code 5 = .ok (.iaload, 1) := by decide +kernel
theorem d_D_turnRound_6 : decode prog_3_method_6_code 6 = .ok (.istore_n 2, 1) := by decide +kernel
theorem d_D_turnRound_7 : decode prog_3_method_6_code 7 = .ok (.aload_n 0, 1) := by decide +kernel
theorem d_D_turnRound_8 : decode prog_3_method_6_code 8 = .ok (.getfield 18, 3) := by decide +kernel
theorem d_D_turnRound_11 : decode prog_3_method_6_code 11 = .ok (.iconst 4, 1) := by decide +kernel
theorem d_D_turnRound_12 : decode prog_3_method_6_code 12 = .ok (.iaload, 1) := by decide +kernel
theorem d_D_turnRound_13 : decode prog_3_method_6_code 13 = .ok (.istore_n 3, 1) := by decide +kernel
theorem d_D_turnRound_14 : decode prog_3_method_6_code 14 = .ok (.iload_n 3, 1) := by decide +kernel
theorem d_D_turnRound_15 : decode prog_3_method_6_code 15 = .ok (.bipush 6, 2) := by decide +kernel
theorem d_D_turnRound_17 : decode prog_3_method_6_code 17 = .ok (.invokestatic 48, 3) := by decide +kernel
theorem d_D_turnRound_20 : decode prog_3_method_6_code 20 = .ok (.iload_n 3, 1) := by decide +kernel
theorem d_D_turnRound_21 : decode prog_3_method_6_code 21 = .ok (.bipush 11, 2) := by decide +kernel
theorem d_D_turnRound_23 : decode prog_3_method_6_code 23 = .ok (.invokestatic 48, 3) := by decide +kernel
theorem d_D_turnRound_26 : decode prog_3_method_6_code 26 = .ok (.ixor, 1) := by decide +kernel
theorem d_D_turnRound_27 : decode prog_3_method_6_code 27 = .ok (.iload_n 3, 1) := by decide +kernel
theorem d_D_turnRound_28 : decode prog_3_method_6_code 28 = .ok (.bipush 25, 2) := by decide +kernel
theorem d_D_turnRound_30 : decode prog_3_method_6_code 30 = .ok (.invokestatic 48, 3) := by decide +kernel
theorem d_D_turnRound_33 : decode prog_3_method_6_code 33 = .ok (.ixor, 1) := by decide +kernel
theorem d_D_turnRound_34 : decode prog_3_method_6_code 34 = .ok (.istore 4, 2) := by decide +kernel
theorem d_D_turnRound_36 : decode prog_3_method_6_code 36 = .ok (.iload_n 3, 1) := by decide +kernel
theorem d_D_turnRound_37 : decode prog_3_method_6_code 37 = .ok (.aload_n 0, 1) := by decide +kernel
theorem d_D_turnRound_38 : decode prog_3_method_6_code 38 = .ok (.getfield 18, 3) := by decide +kernel
theorem d_D_turnRound_41 : decode prog_3_method_6_code 41 = .ok (.iconst 5, 1) := by decide +kernel
theorem d_D_turnRound_42 : decode prog_3_method_6_code 42 = .ok (.iaload, 1) := by decide +kernel
theorem d_D_turnRound_43 : decode prog_3_method_6_code 43 = .ok (.iand, 1) := by decide +kernel
theorem d_D_turnRound_44 : decode prog_3_method_6_code 44 = .ok (.iload_n 3, 1) := by decide +kernel
theorem d_D_turnRound_45 : decode prog_3_method_6_code 45 = .ok (.iconst (-1), 1) := by decide +kernel
theorem d_D_turnRound_46 : decode prog_3_method_6_code 46 = .ok (.ixor, 1) := by decide +kernel
theorem d_D_turnRound_47 : decode prog_3_method_6_code 47 = .ok (.aload_n 0, 1) := by decide +kernel
theorem d_D_turnRound_48 : decode prog_3_method_6_code 48 = .ok (.getfield 18, 3) := by decide +kernel
theorem d_D_turnRound_51 : decode prog_3_method_6_code 51 = .ok (.bipush 6, 2) := by decide +kernel
theorem d_D_turnRound_53 : decode prog_3_method_6_code 53 = .ok (.iaload, 1) := by decide +kernel
theorem d_D_turnRound_54 : decode prog_3_method_6_code 54 = .ok (.iand, 1) := by decide +kernel
theorem d_D_turnRound_55 : decode prog_3_method_6_code 55 = .ok (.ixor, 1) := by decide +kernel
theorem d_D_turnRound_56 : decode prog_3_method_6_code 56 = .ok (.istore 5, 2) := by decide +kernel
theorem d_D_turnRound_58 : decode prog_3_method_6_code 58 = .ok (.aload_n 0, 1) := by decide +kernel
theorem d_D_turnRound_59 : decode prog_3_method_6_code 59 = .ok (.getfield 18, 3) := by decide +kernel
theorem d_D_turnRound_62 : decode prog_3_method_6_code 62 = .ok (.bipush 7, 2) := by decide +kernel
theorem d_D_turnRound_64 : decode prog_3_method_6_code 64 = .ok (.iaload, 1) := by decide +kernel
theorem d_D_turnRound_65 : decode prog_3_method_6_code 65 = .ok (.iload 4, 2) := by decide +kernel
theorem d_D_turnRound_67 : decode prog_3_method_6_code 67 = .ok (.iadd, 1) := by decide +kernel
theorem d_D_turnRound_68 : decode prog_3_method_6_code 68 = .ok (.iload 5, 2) := by decide +kernel
theorem d_D_turnRound_70 : decode prog_3_method_6_code 70 = .ok (.iadd, 1) := by decide +kernel
theorem d_D_turnRound_71 : decode prog_3_method_6_code 71 = .ok (.iload_n 1, 1) := by decide +kernel
theorem d_D_turnRound_72 : decode prog_3_method_6_code 72 = .ok (.iadd, 1) := by decide +kernel
theorem d_D_turnRound_73 : decode prog_3_method_6_code 73 = .ok (.istore 6, 2) := by decide +kernel
theorem d_D_turnRound_75 : decode prog_3_method_6_code 75 = .ok (.iload_n 2, 1) := by decide +kernel
theorem d_D_turnRound_76 : decode prog_3_method_6_code 76 = .ok (.iconst 2, 1) := by decide +kernel
theorem d_D_turnRound_77 : decode prog_3_method_6_code 77 = .ok (.invokestatic 48, 3) := by decide +kernel
theorem d_D_turnRound_80 : decode prog_3_method_6_code 80 = .ok (.iload_n 2, 1) := by decide +kernel
theorem d_D_turnRound_81 : decode prog_3_method_6_code 81 = .ok (.bipush 13, 2) := by decide +kernel
theorem d_D_turnRound_83 : decode prog_3_method_6_code 83 = .ok (.invokestatic 48, 3) := by decide +kernel
theorem d_D_turnRound_86 : decode prog_3_method_6_code 86 = .ok (.ixor, 1) := by decide +kernel
theorem d_D_turnRound_87 : decode prog_3_method_6_code 87 = .ok (.iload_n 2, 1) := by decide +kernel
theorem d_D_turnRound_88 : decode prog_3_method_6_code 88 = .ok (.bipush 22, 2) := by decide +kernel
theorem d_D_turnRound_90 : decode prog_3_method_6_code 90 = .ok (.invokestatic 48, 3) := by decide +kernel
theorem d_D_turnRound_93 : decode prog_3_method_6_code 93 = .ok (.ixor, 1) := by decide +kernel
theorem d_D_turnRound_94 : decode prog_3_method_6_code 94 = .ok (.istore 7, 2) := by decide +kernel
theorem d_D_turnRound_96 : decode prog_3_method_6_code 96 = .ok (.iload_n 2, 1) := by decide +kernel
theorem d_D_turnRound_97 : decode prog_3_method_6_code 97 = .ok (.aload_n 0, 1) := by decide +kernel
theorem d_D_turnRound_98 : decode prog_3_method_6_code 98 = .ok (.getfield 18, 3) := by decide +kernel
theorem d_D_turnRound_101 : decode prog_3_method_6_code 101 = .ok (.iconst 1, 1) := by decide +kernel
theorem d_D_turnRound_102 : decode prog_3_method_6_code 102 = .ok (.iaload, 1) := by decide +kernel
theorem d_D_turnRound_103 : decode prog_3_method_6_code 103 = .ok (.iand, 1) := by decide +kernel
theorem d_D_turnRound_104 : decode prog_3_method_6_code 104 = .ok (.iload_n 2, 1) := by decide +kernel
theorem d_D_turnRound_105 : decode prog_3_method_6_code 105 = .ok (.aload_n 0, 1) := by decide +kernel
theorem d_D_turnRound_106 : decode prog_3_method_6_code 106 = .ok (.getfield 18, 3) := by decide +kernel
theorem d_D_turnRound_109 : decode prog_3_method_6_code 109 = .ok (.iconst 2, 1) := by decide +kernel
theorem d_D_turnRound_110 : decode prog_3_method_6_code 110 = .ok (.iaload, 1) := by decide +kernel
theorem d_D_turnRound_111 : decode prog_3_method_6_code 111 = .ok (.iand, 1) := by decide +kernel
theorem d_D_turnRound_112 : decode prog_3_method_6_code 112 = .ok (.ixor, 1) := by decide +kernel
theorem d_D_turnRound_113 : decode prog_3_method_6_code 113 = .ok (.aload_n 0, 1) := by decide +kernel
theorem d_D_turnRound_114 : decode prog_3_method_6_code 114 = .ok (.getfield 18, 3) := by decide +kernel
theorem d_D_turnRound_117 : decode prog_3_method_6_code 117 = .ok (.iconst 1, 1) := by decide +kernel
theorem d_D_turnRound_118 : decode prog_3_method_6_code 118 = .ok (.iaload, 1) := by decide +kernel
theorem d_D_turnRound_119 : decode prog_3_method_6_code 119 = .ok (.aload_n 0, 1) := by decide +kernel
theorem d_D_turnRound_120 : decode prog_3_method_6_code 120 = .ok (.getfield 18, 3) := by decide +kernel
theorem d_D_turnRound_123 : decode prog_3_method_6_code 123 = .ok (.iconst 2, 1) := by decide +kernel
theorem d_D_turnRound_124 : decode prog_3_method_6_code 124 = .ok (.iaload, 1) := by decide +kernel
theorem d_D_turnRound_125 : decode prog_3_method_6_code 125 = .ok (.iand, 1) := by decide +kernel
theorem d_D_turnRound_126 : decode prog_3_method_6_code 126 = .ok (.ixor, 1) := by decide +kernel
theorem d_D_turnRound_127 : decode prog_3_method_6_code 127 = .ok (.istore 8, 2) := by decide +kernel
theorem d_D_turnRound_129 : decode prog_3_method_6_code 129 = .ok (.bipush 7, 2) := by decide +kernel
theorem d_D_turnRound_131 : decode prog_3_method_6_code 131 = .ok (.istore 9, 2) := by decide +kernel
theorem d_D_turnRound_133 : decode prog_3_method_6_code 133 = .ok (.iload 9, 2) := by decide +kernel
theorem d_D_turnRound_135 : decode prog_3_method_6_code 135 = .ok (.ifCond .le 25, 3) := by decide +kernel
theorem d_D_turnRound_138 : decode prog_3_method_6_code 138 = .ok (.aload_n 0, 1) := by decide +kernel
theorem d_D_turnRound_139 : decode prog_3_method_6_code 139 = .ok (.getfield 18, 3) := by decide +kernel
theorem d_D_turnRound_142 : decode prog_3_method_6_code 142 = .ok (.iload 9, 2) := by decide +kernel
theorem d_D_turnRound_144 : decode prog_3_method_6_code 144 = .ok (.aload_n 0, 1) := by decide +kernel
theorem d_D_turnRound_145 : decode prog_3_method_6_code 145 = .ok (.getfield 18, 3) := by decide +kernel
theorem d_D_turnRound_148 : decode prog_3_method_6_code 148 = .ok (.iload 9, 2) := by decide +kernel
theorem d_D_turnRound_150 : decode prog_3_method_6_code 150 = .ok (.iconst 1, 1) := by decide +kernel
theorem d_D_turnRound_151 : decode prog_3_method_6_code 151 = .ok (.isub, 1) := by decide +kernel
theorem d_D_turnRound_152 : decode prog_3_method_6_code 152 = .ok (.iaload, 1) := by decide +kernel
theorem d_D_turnRound_153 : decode prog_3_method_6_code 153 = .ok (.iastore, 1) := by decide +kernel
theorem d_D_turnRound_154 : decode prog_3_method_6_code 154 = .ok (.iinc 9 (-1), 3) := by decide +kernel
theorem d_D_turnRound_157 : decode prog_3_method_6_code 157 = .ok (.goto (-24), 3) := by decide +kernel
theorem d_D_turnRound_160 : decode prog_3_method_6_code 160 = .ok (.aload_n 0, 1) := by decide +kernel
theorem d_D_turnRound_161 : decode prog_3_method_6_code 161 = .ok (.getfield 18, 3) := by decide +kernel
theorem d_D_turnRound_164 : decode prog_3_method_6_code 164 = .ok (.iconst 4, 1) := by decide +kernel
theorem d_D_turnRound_165 : decode prog_3_method_6_code 165 = .ok (.dup2, 1) := by decide +kernel
theorem d_D_turnRound_166 : decode prog_3_method_6_code 166 = .ok (.iaload, 1) := by decide +kernel
theorem d_D_turnRound_167 : decode prog_3_method_6_code 167 = .ok (.iload 6, 2) := by decide +kernel
theorem d_D_turnRound_169 : decode prog_3_method_6_code 169 = .ok (.iadd, 1) := by decide +kernel
theorem d_D_turnRound_170 : decode prog_3_method_6_code 170 = .ok (.iastore, 1) := by decide +kernel
theorem d_D_turnRound_171 : decode prog_3_method_6_code 171 = .ok (.aload_n 0, 1) := by decide +kernel
theorem d_D_turnRound_172 : decode prog_3_method_6_code 172 = .ok (.getfield 18, 3) := by decide +kernel
theorem d_D_turnRound_175 : decode prog_3_method_6_code 175 = .ok (.iconst 0, 1) := by decide +kernel
theorem d_D_turnRound_176 : decode prog_3_method_6_code 176 = .ok (.iload 6, 2) := by decide +kernel
theorem d_D_turnRound_178 : decode prog_3_method_6_code 178 = .ok (.iload 7, 2) := by decide +kernel
theorem d_D_turnRound_180 : decode prog_3_method_6_code 180 = .ok (.iadd, 1) := by decide +kernel
theorem d_D_turnRound_181 : decode prog_3_method_6_code 181 = .ok (.iload 8, 2) := by decide +kernel
theorem d_D_turnRound_183 : decode prog_3_method_6_code 183 = .ok (.iadd, 1) := by decide +kernel
theorem d_D_turnRound_184 : decode prog_3_method_6_code 184 = .ok (.iastore, 1) := by decide +kernel
theorem d_D_turnRound_185 : decode prog_3_method_6_code 185 = .ok (.return_, 1) := by decide +kernel
theorem d_D_mix_0 : decode prog_3_method_5_code 0 = .ok (.aload_n 1, 1) := by decide +kernel
theorem d_D_mix_1 : decode prog_3_method_5_code 1 = .ok (.iconst 0, 1) := by decide +kernel
theorem d_D_mix_2 : decode prog_3_method_5_code 2 = .ok (.aload_n 0, 1) := by decide +kernel
theorem d_D_mix_3 : decode prog_3_method_5_code 3 = .ok (.getfield 18, 3) := by decide +kernel
theorem d_D_mix_6 : decode prog_3_method_5_code 6 = .ok (.iconst 0, 1) := by decide +kernel
theorem d_D_mix_7 : decode prog_3_method_5_code 7 = .ok (.bipush 8, 2) := by decide +kernel
theorem d_D_mix_9 : decode prog_3_method_5_code 9 = .ok (.invokestatic 28, 3) := by decide +kernel
theorem d_D_mix_12 : decode prog_3_method_5_code 12 = .ok (.iconst 0, 1) := by decide +kernel
theorem d_D_mix_13 : decode prog_3_method_5_code 13 = .ok (.istore_n 2, 1) := by decide +kernel
theorem d_D_mix_14 : decode prog_3_method_5_code 14 = .ok (.iload_n 2, 1) := by decide +kernel
theorem d_D_mix_15 : decode prog_3_method_5_code 15 = .ok (.bipush 64, 2) := by decide +kernel
theorem d_D_mix_17 : decode prog_3_method_5_code 17 = .ok (.if_icmp .ge 25, 3) := by decide +kernel
theorem d_D_mix_20 : decode prog_3_method_5_code 20 = .ok (.aload_n 0, 1) := by decide +kernel
theorem d_D_mix_21 : decode prog_3_method_5_code 21 = .ok (.getstatic 54, 3) := by decide +kernel
theorem d_D_mix_24 : decode prog_3_method_5_code 24 = .ok (.iload_n 2, 1) := by decide +kernel
theorem d_D_mix_25 : decode prog_3_method_5_code 25 = .ok (.iaload, 1) := by decide +kernel
theorem d_D_mix_26 : decode prog_3_method_5_code 26 = .ok (.aload_n 0, 1) := by decide +kernel
theorem d_D_mix_27 : decode prog_3_method_5_code 27 = .ok (.getfield 15, 3) := by decide +kernel
theorem d_D_mix_30 : decode prog_3_method_5_code 30 = .ok (.iload_n 2, 1) := by decide +kernel
theorem d_D_mix_31 : decode prog_3_method_5_code 31 = .ok (.iaload, 1) := by decide +kernel
theorem d_D_mix_32 : decode prog_3_method_5_code 32 = .ok (.iadd, 1) := by decide +kernel
theorem d_D_mix_33 : decode prog_3_method_5_code 33 = .ok (.invokevirtual 57, 3) := by decide +kernel
theorem d_D_mix_36 : decode prog_3_method_5_code 36 = .ok (.iinc 2 1, 3) := by decide +kernel
theorem d_D_mix_39 : decode prog_3_method_5_code 39 = .ok (.goto (-25), 3) := by decide +kernel
theorem d_D_mix_42 : decode prog_3_method_5_code 42 = .ok (.iconst 0, 1) := by decide +kernel
theorem d_D_mix_43 : decode prog_3_method_5_code 43 = .ok (.istore_n 2, 1) := by decide +kernel
theorem d_D_mix_44 : decode prog_3_method_5_code 44 = .ok (.iload_n 2, 1) := by decide +kernel
theorem d_D_mix_45 : decode prog_3_method_5_code 45 = .ok (.bipush 8, 2) := by decide +kernel
theorem d_D_mix_47 : decode prog_3_method_5_code 47 = .ok (.if_icmp .ge 21, 3) := by decide +kernel
theorem d_D_mix_50 : decode prog_3_method_5_code 50 = .ok (.aload_n 1, 1) := by decide +kernel
theorem d_D_mix_51 : decode prog_3_method_5_code 51 = .ok (.iload_n 2, 1) := by decide +kernel
theorem d_D_mix_52 : decode prog_3_method_5_code 52 = .ok (.dup2, 1) := by decide +kernel
theorem d_D_mix_53 : decode prog_3_method_5_code 53 = .ok (.iaload, 1) := by decide +kernel
theorem d_D_mix_54 : decode prog_3_method_5_code 54 = .ok (.aload_n 0, 1) := by decide +kernel
theorem d_D_mix_55 : decode prog_3_method_5_code 55 = .ok (.getfield 18, 3) := by decide +kernel
theorem d_D_mix_58 : decode prog_3_method_5_code 58 = .ok (.iload_n 2, 1) := by decide +kernel
theorem d_D_mix_59 : decode prog_3_method_5_code 59 = .ok (.iaload, 1) := by decide +kernel
theorem d_D_mix_60 : decode prog_3_method_5_code 60 = .ok (.iadd, 1) := by decide +kernel
theorem d_D_mix_61 : decode prog_3_method_5_code 61 = .ok (.iastore, 1) := by decide +kernel
theorem d_D_mix_62 : decode prog_3_method_5_code 62 = .ok (.iinc 2 1, 3) := by decide +kernel
theorem d_D_mix_65 : decode prog_3_method_5_code 65 = .ok (.goto (-21), 3) := by decide +kernel
theorem d_D_mix_68 : decode prog_3_method_5_code 68 = .ok (.return_, 1) := by decide +kernel
theorem d_D_work_0 : decode prog_3_method_2_code 0 = .ok (.aload_n 0, 1) := by decide +kernel
theorem d_D_work_1 : decode prog_3_method_2_code 1 = .ok (.aload_n 1, 1) := by decide +kernel
theorem d_D_work_2 : decode prog_3_method_2_code 2 = .ok (.iload_n 2, 1) := by decide +kernel
theorem d_D_work_3 : decode prog_3_method_2_code 3 = .ok (.invokevirtual 21, 3) := by decide +kernel
theorem d_D_work_6 : decode prog_3_method_2_code 6 = .ok (.istore 4, 2) := by decide +kernel
theorem d_D_work_8 : decode prog_3_method_2_code 8 = .ok (.getstatic 25, 3) := by decide +kernel
theorem d_D_work_11 : decode prog_3_method_2_code 11 = .ok (.iconst 0, 1) := by decide +kernel
theorem d_D_work_12 : decode prog_3_method_2_code 12 = .ok (.aload_n 3, 1) := by decide +kernel
theorem d_D_work_13 : decode prog_3_method_2_code 13 = .ok (.iconst 0, 1) := by decide +kernel
theorem d_D_work_14 : decode prog_3_method_2_code 14 = .ok (.bipush 8, 2) := by decide +kernel
theorem d_D_work_16 : decode prog_3_method_2_code 16 = .ok (.invokestatic 28, 3) := by decide +kernel
theorem d_D_work_19 : decode prog_3_method_2_code 19 = .ok (.iconst 0, 1) := by decide +kernel
theorem d_D_work_20 : decode prog_3_method_2_code 20 = .ok (.istore 5, 2) := by decide +kernel
theorem d_D_work_22 : decode prog_3_method_2_code 22 = .ok (.iload 5, 2) := by decide +kernel
theorem d_D_work_24 : decode prog_3_method_2_code 24 = .ok (.iload 4, 2) := by decide +kernel
theorem d_D_work_26 : decode prog_3_method_2_code 26 = .ok (.if_icmp .ge 20, 3) := by decide +kernel
theorem d_D_work_29 : decode prog_3_method_2_code 29 = .ok (.aload_n 0, 1) := by decide +kernel
theorem d_D_work_30 : decode prog_3_method_2_code 30 = .ok (.iload 5, 2) := by decide +kernel
theorem d_D_work_32 : decode prog_3_method_2_code 32 = .ok (.invokevirtual 34, 3) := by decide +kernel
theorem d_D_work_35 : decode prog_3_method_2_code 35 = .ok (.aload_n 0, 1) := by decide +kernel
theorem d_D_work_36 : decode prog_3_method_2_code 36 = .ok (.aload_n 3, 1) := by decide +kernel
theorem d_D_work_37 : decode prog_3_method_2_code 37 = .ok (.invokevirtual 38, 3) := by decide +kernel
theorem d_D_work_40 : decode prog_3_method_2_code 40 = .ok (.iinc 5 64, 3) := by decide +kernel
theorem d_D_work_43 : decode prog_3_method_2_code 43 = .ok (.goto (-21), 3) := by decide +kernel
theorem d_D_work_46 : decode prog_3_method_2_code 46 = .ok (.return_, 1) := by decide +kernel
def f_K_hasDigest_2 (xn : Nat) : Nat → Nat → Nat → Int32 → x_St → Option (Int32 × x_St)
  | 0, _, _, _, _ => none
  | fu + 1, a0, a1, a2, z0 =>
    (if (8 : Int32) ≤ a2 then
    (some ((1 : Int32), z0))
    else
    (x_ck a2 (x_ln xn (a0 + 3))
    (x_ck a2 (x_ln xn a1)
    (if (z0.1 (a0 + 3) (a2).toNatClampNeg) = (z0.1 a1 (a2).toNatClampNeg) then
    (f_K_hasDigest_2 xn fu a0 a1 (a2 + (1 : Int32)) z0)
    else
    (some ((0 : Int32), z0))))))
def f_K_hasDigest (xn : Nat) (k0 : Nat) (k1 : Nat) (z0 : x_St) : Option (Int32 × x_St) :=
  (f_K_hasDigest_2 xn x_FU k0 k1 (0 : Int32) z0)
def f_D_pad (xn : Nat) (k1 : Nat) (p2 : Int32) (z0 : x_St) : Option (Int32 × x_St) :=
  (x_cl (f_Arrays_fill xn 104 (0 : Int32) z0) (fun r1 z1 =>
  (x_ckc (0 : Int32) (0 : Int32) p2 (x_ln xn k1) (x_ln xn 104)
  (x_ck p2 (x_ln xn 104)
  (if (64 : Int32) < ((p2 + (1 : Int32)) + (8 : Int32)) then
  (x_ck ((128 : Int32) - (2 : Int32)) (x_ln xn 104)
  (x_ck ((128 : Int32) - (1 : Int32)) (x_ln xn 104)
  (some ((128 : Int32), (x_put (x_put (x_put (x_cpy z1 k1 ((0 : Int32)).toNatClampNeg 104 ((0 : Int32)).toNatClampNeg (p2).toNatClampNeg) 104 (p2).toNatClampNeg (128 : Int32)) 104 (((128 : Int32) - (2 : Int32))).toNatClampNeg (x_ushr ((8 : Int32) * p2) (8 : Int32))) 104 (((128 : Int32) - (1 : Int32))).toNatClampNeg (((8 : Int32) * p2) &&& (255 : Int32)))))))
  else
  (x_ck ((64 : Int32) - (2 : Int32)) (x_ln xn 104)
  (x_ck ((64 : Int32) - (1 : Int32)) (x_ln xn 104)
  (some ((64 : Int32), (x_put (x_put (x_put (x_cpy z1 k1 ((0 : Int32)).toNatClampNeg 104 ((0 : Int32)).toNatClampNeg (p2).toNatClampNeg) 104 (p2).toNatClampNeg (128 : Int32)) 104 (((64 : Int32) - (2 : Int32))).toNatClampNeg (x_ushr ((8 : Int32) * p2) (8 : Int32))) 104 (((64 : Int32) - (1 : Int32))).toNatClampNeg (((8 : Int32) * p2) &&& (255 : Int32))))))))))))
def f_D_prepare_71 (xn : Nat) : Nat → Int32 → x_St → Option (Unit × x_St)
  | 0, _, _ => none
  | fu + 1, a2, z0 =>
    (if (64 : Int32) ≤ a2 then
    (some ((), z0))
    else
    (x_ck (a2 - (15 : Int32)) (x_ln xn 105)
    (x_ck (a2 - (2 : Int32)) (x_ln xn 105)
    (x_cl (f_Integer_rotateRight xn (z0.1 105 ((a2 - (15 : Int32))).toNatClampNeg) (7 : Int32) z0) (fun r4 z4 =>
    (x_cl (f_Integer_rotateRight xn (z0.1 105 ((a2 - (15 : Int32))).toNatClampNeg) (18 : Int32) z4) (fun r6 z6 =>
    (x_cl (f_Integer_rotateRight xn (z0.1 105 ((a2 - (2 : Int32))).toNatClampNeg) (17 : Int32) z6) (fun r8 z8 =>
    (x_cl (f_Integer_rotateRight xn (z0.1 105 ((a2 - (2 : Int32))).toNatClampNeg) (19 : Int32) z8) (fun r10 z10 =>
    (x_ck (a2 - (7 : Int32)) (x_ln xn 105)
    (x_ck (a2 - (16 : Int32)) (x_ln xn 105)
    (x_ck a2 (x_ln xn 105)
    (f_D_prepare_71 xn fu (a2 + (1 : Int32)) (x_put z10 105 (a2).toNatClampNeg (((((r8 ^^^ r10) ^^^ (x_ushr (z0.1 105 ((a2 - (2 : Int32))).toNatClampNeg) (10 : Int32))) + (z10.1 105 ((a2 - (7 : Int32))).toNatClampNeg)) + ((r4 ^^^ r6) ^^^ (x_ushr (z0.1 105 ((a2 - (15 : Int32))).toNatClampNeg) (3 : Int32)))) + (z10.1 105 ((a2 - (16 : Int32))).toNatClampNeg))))))))))))))))))
def f_D_prepare_68 (xn : Nat)  (z0 : x_St) : Option (Unit × x_St) :=
  (f_D_prepare_71 xn x_FU (16 : Int32) z0)
def f_D_prepare_2 (xn : Nat) : Nat → Int32 → Int32 → x_St → Option (Unit × x_St)
  | 0, _, _, _ => none
  | fu + 1, a1, a2, z0 =>
    (if (16 : Int32) ≤ a2 then
    (f_D_prepare_68 xn z0)
    else
    (x_ck (a1 + ((4 : Int32) * a2)) (x_ln xn 104)
    (x_ck ((a1 + ((4 : Int32) * a2)) + (1 : Int32)) (x_ln xn 104)
    (x_ck ((a1 + ((4 : Int32) * a2)) + (2 : Int32)) (x_ln xn 104)
    (x_ck ((a1 + ((4 : Int32) * a2)) + (3 : Int32)) (x_ln xn 104)
    (x_ck a2 (x_ln xn 105)
    (f_D_prepare_2 xn fu a1 (a2 + (1 : Int32)) (x_put z0 105 (a2).toNatClampNeg (((((z0.1 104 ((a1 + ((4 : Int32) * a2))).toNatClampNeg) <<< ((24 : Int32) &&& 31)) ||| ((z0.1 104 (((a1 + ((4 : Int32) * a2)) + (1 : Int32))).toNatClampNeg) <<< ((16 : Int32) &&& 31))) ||| ((z0.1 104 (((a1 + ((4 : Int32) * a2)) + (2 : Int32))).toNatClampNeg) <<< ((8 : Int32) &&& 31))) ||| (z0.1 104 (((a1 + ((4 : Int32) * a2)) + (3 : Int32))).toNatClampNeg))))))))))
def f_D_prepare (xn : Nat) (p1 : Int32) (z0 : x_St) : Option (Unit × x_St) :=
  (f_D_prepare_2 xn x_FU p1 (0 : Int32) z0)
def f_D_turnRound_160 (xn : Nat) (a6 : Int32) (a7 : Int32) (a8 : Int32) (z0 : x_St) : Option (Unit × x_St) :=
  (x_ck (4 : Int32) (x_ln xn 106)
  (x_ck (4 : Int32) (x_ln xn 106)
  (x_ck (0 : Int32) (x_ln xn 106)
  (some ((), (x_put (x_put z0 106 ((4 : Int32)).toNatClampNeg ((z0.1 106 ((4 : Int32)).toNatClampNeg) + a6)) 106 ((0 : Int32)).toNatClampNeg ((a6 + a7) + a8)))))))
def f_D_turnRound_133 (xn : Nat) : Nat → Int32 → Int32 → Int32 → Int32 → x_St → Option (Unit × x_St)
  | 0, _, _, _, _, _ => none
  | fu + 1, a6, a7, a8, a9, z0 =>
    (if a9 ≤ 0 then
    (f_D_turnRound_160 xn a6 a7 a8 z0)
    else
    (x_ck (a9 - (1 : Int32)) (x_ln xn 106)
    (x_ck a9 (x_ln xn 106)
    (f_D_turnRound_133 xn fu a6 a7 a8 (a9 + (-1 : Int32)) (x_put z0 106 (a9).toNatClampNeg (z0.1 106 ((a9 - (1 : Int32))).toNatClampNeg))))))
def f_D_turnRound (xn : Nat) (p1 : Int32) (z0 : x_St) : Option (Unit × x_St) :=
  (x_ck (0 : Int32) (x_ln xn 106)
  (x_ck (4 : Int32) (x_ln xn 106)
  (x_cl (f_Integer_rotateRight xn (z0.1 106 ((4 : Int32)).toNatClampNeg) (6 : Int32) z0) (fun r9 z9 =>
  (x_cl (f_Integer_rotateRight xn (z0.1 106 ((4 : Int32)).toNatClampNeg) (11 : Int32) z9) (fun r11 z11 =>
  (x_cl (f_Integer_rotateRight xn (z0.1 106 ((4 : Int32)).toNatClampNeg) (25 : Int32) z11) (fun r13 z13 =>
  (x_ck (5 : Int32) (x_ln xn 106)
  (x_ck (6 : Int32) (x_ln xn 106)
  (x_ck (7 : Int32) (x_ln xn 106)
  (x_cl (f_Integer_rotateRight xn (z0.1 106 ((0 : Int32)).toNatClampNeg) (2 : Int32) z13) (fun r18 z18 =>
  (x_cl (f_Integer_rotateRight xn (z0.1 106 ((0 : Int32)).toNatClampNeg) (13 : Int32) z18) (fun r20 z20 =>
  (x_cl (f_Integer_rotateRight xn (z0.1 106 ((0 : Int32)).toNatClampNeg) (22 : Int32) z20) (fun r22 z22 =>
  (x_ck (1 : Int32) (x_ln xn 106)
  (x_ck (2 : Int32) (x_ln xn 106)
  (x_ck (1 : Int32) (x_ln xn 106)
  (x_ck (2 : Int32) (x_ln xn 106)
  (f_D_turnRound_133 xn x_FU ((((z13.1 106 ((7 : Int32)).toNatClampNeg) + ((r9 ^^^ r11) ^^^ r13)) + (((z0.1 106 ((4 : Int32)).toNatClampNeg) &&& (z13.1 106 ((5 : Int32)).toNatClampNeg)) ^^^ (((z0.1 106 ((4 : Int32)).toNatClampNeg) ^^^ (-1 : Int32)) &&& (z13.1 106 ((6 : Int32)).toNatClampNeg)))) + p1) ((r18 ^^^ r20) ^^^ r22) ((((z0.1 106 ((0 : Int32)).toNatClampNeg) &&& (z22.1 106 ((1 : Int32)).toNatClampNeg)) ^^^ ((z0.1 106 ((0 : Int32)).toNatClampNeg) &&& (z22.1 106 ((2 : Int32)).toNatClampNeg))) ^^^ ((z22.1 106 ((1 : Int32)).toNatClampNeg) &&& (z22.1 106 ((2 : Int32)).toNatClampNeg))) (7 : Int32) z22))))))))))))))))))))))
def f_D_mix_44 (xn : Nat) : Nat → Nat → Int32 → x_St → Option (Unit × x_St)
  | 0, _, _, _ => none
  | fu + 1, a1, a2, z0 =>
    (if (8 : Int32) ≤ a2 then
    (some ((), z0))
    else
    (x_ck a2 (x_ln xn a1)
    (x_ck a2 (x_ln xn 106)
    (x_ck a2 (x_ln xn a1)
    (f_D_mix_44 xn fu a1 (a2 + (1 : Int32)) (x_put z0 a1 (a2).toNatClampNeg ((z0.1 a1 (a2).toNatClampNeg) + (z0.1 106 (a2).toNatClampNeg))))))))
def f_D_mix_42 (xn : Nat) (a1 : Nat) (z0 : x_St) : Option (Unit × x_St) :=
  (f_D_mix_44 xn x_FU a1 (0 : Int32) z0)
def f_D_mix_14 (xn : Nat) : Nat → Nat → Int32 → x_St → Option (Unit × x_St)
  | 0, _, _, _ => none
  | fu + 1, a1, a2, z0 =>
    (if (64 : Int32) ≤ a2 then
    (f_D_mix_42 xn a1 z0)
    else
    (x_ck a2 64
    (x_ck a2 (x_ln xn 105)
    (x_cl (f_D_turnRound xn ((x_ROUND (a2).toNatClampNeg) + (z0.1 105 (a2).toNatClampNeg)) z0) (fun r7 z7 =>
    (f_D_mix_14 xn fu a1 (a2 + (1 : Int32)) z7))))))
def f_D_mix (xn : Nat) (k1 : Nat) (z0 : x_St) : Option (Unit × x_St) :=
  (x_ckc (0 : Int32) (0 : Int32) (8 : Int32) (x_ln xn k1) (x_ln xn 106)
  (f_D_mix_14 xn x_FU k1 (0 : Int32) (x_cpy z0 k1 ((0 : Int32)).toNatClampNeg 106 ((0 : Int32)).toNatClampNeg ((8 : Int32)).toNatClampNeg)))
def f_D_work_22 (xn : Nat) : Nat → Nat → Int32 → Int32 → x_St → Option (Unit × x_St)
  | 0, _, _, _, _ => none
  | fu + 1, a3, a4, a5, z0 =>
    (if a4 ≤ a5 then
    (some ((), z0))
    else
    (x_cl (f_D_prepare xn a5 z0) (fun r2 z2 =>
    (x_cl (f_D_mix xn a3 z2) (fun r4 z4 =>
    (f_D_work_22 xn fu a3 a4 (a5 + (64 : Int32)) z4))))))
def f_D_work (xn : Nat) (k1 : Nat) (p2 : Int32) (k3 : Nat) (z0 : x_St) : Option (Unit × x_St) :=
  (x_cl (f_D_pad xn k1 p2 z0) (fun r6 z6 =>
  (x_ckc (0 : Int32) (0 : Int32) (8 : Int32) 8 (x_ln xn k3)
  (f_D_work_22 xn x_FU k3 r6 (0 : Int32) (x_cpyT z6 x_START ((0 : Int32)).toNatClampNeg k3 ((0 : Int32)).toNatClampNeg ((8 : Int32)).toNatClampNeg)))))
abbrev rm_K_hasDigest : Room := { frames := 0, cells := 0, slots := 0, locals := 0 }
set_option maxHeartbeats 4000000 in
set_option maxRecDepth 100000 in
theorem w_K_hasDigest_2 (l : Launch) (G : x_G) {p : Program} {e : Env} {s : State} {m : MethodId} {args : Array Value} {below : List Frame} {meth : Method} {c : Code} (C0 : x_Ctx G p s m args meth c prog_4_method_2_code "ContentLibrary$Kept" 3 (some .boolean)) (r : Int32) (z9 : x_St) : ∀ (fu : Nat), ∀ (a0 : Nat) (ha0 : x_isK a0 = true) (a1 : Nat) (ha1 : x_isA a1 = true) (a2 : Int32) (z0 : x_St), f_K_hasDigest_2 (x_n G) fu a0 a1 a2 z0 = some (r, z9) → ∀ (H : Heap) (locs : List Loc) (ls : Array Slot), va_P (x_D G) vwCl (x_Wd G z0) H → va_D (x_A G) (x_Wd G z0) → va_S (x_A G) s.heap H locs → lv_has ls 3 [(0, .ref (x_ad G a0)), (1, .ref (x_ad G a1)), (2, .int a2)] → W p l e rm_K_hasDigest s m args below meth c H locs 0 0 (MQ below (va_Qi (fun a u => r = a ∧ z9 = u) (x_PW G) (x_A G)) args s 0 0 (x_A G)) (F0 m 2 ls []) := by
  obtain ⟨hx, hb, hr, hml, hown, hts, hlocks, hz, hK, hG⟩ := id C0
  intro fu
  induction fu with
  | zero =>
    intro a0 ha0 a1 ha1 a2 z0 hf
    rw [f_K_hasDigest_2] at hf
    cases hf
  | succ fu ih =>
    intro a0 ha0 a1 ha1 a2 z0 hf H locs ls hP hD hS hl
    rw [f_K_hasDigest_2] at hf
    refine lv_iload_n hx hb d_K_hasDigest_2 rfl (lv_at hl 2 rfl) ?_
    refine lv_bipush (v := (8 : Int32)) hx hb d_K_hasDigest_3 (by decide) ?_
    refine lv_icmp_ge (tgt := 28) hx hb d_K_hasDigest_5 (by decide) (fun hc1 => ?_) (fun hc1 => ?_)
    · have hf := x_br_t hf hc1
      refine lv_iconst (v := (1 : Int32)) hx hb d_K_hasDigest_28 (by decide) ?_
      obtain ⟨rfl, rfl⟩ := x_ret hf
      exact W.zret (v := (1 : Int32)) hx hb hr rfl (fun t ht hW => ⟨⟨_, _, rfl, ⟨rfl, rfl⟩, x_pw hP hD hK hG hS hz ht hW.alike⟩, hS.F ht⟩) hS.2.2 d_K_hasDigest_29
    · have hf := x_br_f hf hc1
      refine lv_aload_n hx hb d_K_hasDigest_8 rfl (lv_at hl 0 rfl) ?_
      refine va_get (D := x_D G) (ci := 3) (v := .ref (x_ad G (a0 + 3))) (C := "ContentLibrary$Kept") (T := x_TK) (N := 6) hx hb hts x_inK hown hK hP a0 (x_lk_K G _ ha0) rfl 2 (by decide) (hts _ t_93) (fun _ h9 => h9) rfl d_K_hasDigest_9 ?_
      refine lv_iload_n hx hb d_K_hasDigest_12 rfl (lv_at hl 2 rfl) ?_
      obtain ⟨hin2, hf⟩ := x_ck_some hf
      refine va_iald hx hb hK hP (a0 + 3) 0 (x_lk_A G _ (x_K_A3 ha0)) rfl hin2 d_K_hasDigest_13 ?_
      refine lv_aload_n hx hb d_K_hasDigest_14 rfl (lv_at hl 1 rfl) ?_
      refine lv_iload_n hx hb d_K_hasDigest_15 rfl (lv_at hl 2 rfl) ?_
      obtain ⟨hin3, hf⟩ := x_ck_some hf
      refine va_iald hx hb hK hP a1 0 (x_lk_A G _ ha1) rfl hin3 d_K_hasDigest_16 ?_
      refine lv_icmp_eq (tgt := 22) hx hb d_K_hasDigest_17 (by decide) (fun hc4 => ?_) (fun hc4 => ?_)
      · have hf := x_br_t hf hc4
        refine lv_iinc (v := (a2 + (1 : Int32))) (lv' := [(2, .int (a2 + (1 : Int32))), (0, .ref (x_ad G a0)), (1, .ref (x_ad G a1))]) hx hb d_K_hasDigest_22 hl (k := 2) rfl rfl (by decide) rfl (fun ls hl => ?_)
        refine lv_goto (tgt := 2) hx hb d_K_hasDigest_25 (by decide) ?_
        exact ih a0 ha0 a1 ha1 (a2 + (1 : Int32)) z0 hf _ _ _ hP hD hS (lv_sub hl [1, 2, 0] rfl)
      · have hf := x_br_f hf hc4
        refine lv_iconst (v := (0 : Int32)) hx hb d_K_hasDigest_20 (by decide) ?_
        obtain ⟨rfl, rfl⟩ := x_ret hf
        exact W.zret (v := (0 : Int32)) hx hb hr rfl (fun t ht hW => ⟨⟨_, _, rfl, ⟨rfl, rfl⟩, x_pw hP hD hK hG hS hz ht hW.alike⟩, hS.F ht⟩) hS.2.2 d_K_hasDigest_21
set_option maxHeartbeats 4000000 in
set_option maxRecDepth 100000 in
theorem c_K_hasDigest (l : Launch) (G : x_G) (k0 : Nat) (hk0 : x_isK k0 = true) (k1 : Nat) (hk1 : x_isA k1 = true) (z0 : x_St) (r : Int32) (z9 : x_St) (hf : f_K_hasDigest (x_n G) k0 k1 z0 = some (r, z9)) : Met l (⟨"ContentLibrary$Kept", "hasDigest", "([I)Z"⟩ : MethodName) (x_ws (⟨"ContentLibrary$Kept", "hasDigest", "([I)Z"⟩ : MethodName) prog_4_method_2_code 3 (some .boolean)) rm_K_hasDigest (va_Pc [.ref (x_ad G k0), .ref (x_ad G k1)] (x_PW G z0)) (va_Qi (fun a u => r = a ∧ z9 = u) (x_PW G) (x_A G)) 0 0 (x_A G) := by
  refine Met.ofW (cc := prog_4_method_2_code) (maxL := 3) (ret := (some .boolean)) (by decide) rfl ?_
  intro p e s m args below meth c s₁ B hml hv
  obtain ⟨rfl, hz, hP, hD, hK, hG⟩ := hv
  have C0 : x_Ctx G p s m _ meth c prog_4_method_2_code "ContentLibrary$Kept" 3 (some .boolean) := ⟨B.exec, B.bytes, B.returns, hml, findClass_of_methodNamed B.named, fun w h => atoms_spec (ws := (x_ws (⟨"ContentLibrary$Kept", "hasDigest", "([I)Z"⟩ : MethodName) prog_4_method_2_code 3 (some .boolean))) B.pre w (List.mem_cons_of_mem _ h), B.notSynchronized, hz, hK, hG⟩
  obtain ⟨hx, hb, hr, hml, hown, hts, hlocks, hz, hK, hG⟩ := id C0
  have hS : va_S (x_A G) s.heap s.heap [] := va_S.rf
  have hl := lv_entry ([.ref (x_ad G k0), .ref (x_ad G k1)]) (n := 3) (Nat.le_of_ble_eq_true rfl)
  rw [lg_entry_eq]
  generalize (lg_sl ([.ref (x_ad G k0), .ref (x_ad G k1)]) ++ List.replicate (3 - (lg_sl ([.ref (x_ad G k0), .ref (x_ad G k1)])).length) Slot.unset).toArray = ls at hl ⊢
  have hl : lv_has ls 3 [(0, .ref (x_ad G k0)), (1, .ref (x_ad G k1))] := hl
  rw [f_K_hasDigest] at hf
  refine lv_iconst (v := (0 : Int32)) hx hb d_K_hasDigest_0 (by decide) ?_
  refine lv_istore_n (lv' := [(2, .int (0 : Int32)), (0, .ref (x_ad G k0)), (1, .ref (x_ad G k1))]) hx hb d_K_hasDigest_1 rfl hl (by decide) rfl (fun ls hl => ?_)
  exact w_K_hasDigest_2 l G C0 r z9 x_FU k0 hk0 k1 hk1 (0 : Int32) z0 hf _ _ _ hP hD hS (lv_sub hl [1, 2, 0] rfl)
abbrev rm_D_pad : Room := { frames := 1, cells := 0, slots := 0, locals := 60 }
set_option maxHeartbeats 4000000 in
set_option maxRecDepth 100000 in
theorem c_D_pad (l : Launch) (G : x_G) (k1 : Nat) (hk1 : x_isA k1 = true) (p2 : Int32) (z0 : x_St) (r : Int32) (z9 : x_St) (hf : f_D_pad (x_n G) k1 p2 z0 = some (r, z9)) : Met l (⟨"ContentLibrary$Digester", "pad", "([II)I"⟩ : MethodName) (x_ws (⟨"ContentLibrary$Digester", "pad", "([II)I"⟩ : MethodName) prog_3_method_3_code 5 (some .int)) rm_D_pad (va_Pc [.ref (x_ad G 103), .ref (x_ad G k1), .int p2] (x_PW G z0)) (va_Qi (fun a u => r = a ∧ z9 = u) (x_PW G) (x_A G)) 0 0 (x_A G) := by
  refine Met.ofW (cc := prog_3_method_3_code) (maxL := 5) (ret := (some .int)) (by decide) rfl ?_
  intro p e s m args below meth c s₁ B hml hv
  obtain ⟨rfl, hz, hP, hD, hK, hG⟩ := hv
  have C0 : x_Ctx G p s m _ meth c prog_3_method_3_code "ContentLibrary$Digester" 5 (some .int) := ⟨B.exec, B.bytes, B.returns, hml, findClass_of_methodNamed B.named, fun w h => atoms_spec (ws := (x_ws (⟨"ContentLibrary$Digester", "pad", "([II)I"⟩ : MethodName) prog_3_method_3_code 5 (some .int))) B.pre w (List.mem_cons_of_mem _ h), B.notSynchronized, hz, hK, hG⟩
  obtain ⟨hx, hb, hr, hml, hown, hts, hlocks, hz, hK, hG⟩ := id C0
  have hS : va_S (x_A G) s.heap s.heap [] := va_S.rf
  have hl := lv_entry ([.ref (x_ad G 103), .ref (x_ad G k1), .int p2]) (n := 5) (Nat.le_of_ble_eq_true rfl)
  rw [lg_entry_eq]
  generalize (lg_sl ([.ref (x_ad G 103), .ref (x_ad G k1), .int p2]) ++ List.replicate (5 - (lg_sl ([.ref (x_ad G 103), .ref (x_ad G k1), .int p2])).length) Slot.unset).toArray = ls at hl ⊢
  have hl : lv_has ls 5 [(0, .ref (x_ad G 103)), (1, .ref (x_ad G k1)), (2, .int p2)] := hl
  rw [f_D_pad] at hf
  refine lv_aload_n hx hb d_D_pad_0 rfl (lv_at hl 0 rfl) ?_
  refine va_get (D := x_D G) (ci := 4) (v := .ref (x_ad G 104)) (C := "ContentLibrary$Digester") (T := x_TD) (N := 3) hx hb hts x_inD hown hK hP 103 (x_lk_D G _) rfl 0 (by decide) (hts _ t_120) (fun _ h9 => h9) rfl d_D_pad_1 ?_
  refine lv_iconst (v := (0 : Int32)) hx hb d_D_pad_4 (by decide) ?_
  obtain ⟨r1, z1, hq2, hf⟩ := x_cl_some hf
  refine va_callv (va_runS (As := [.ref (x_ad G 104), .int (0 : Int32)]) (rest := []) ⟨hx, hb, hml, hown, hts⟩ (c_Arrays_fill l G 104 (by decide) (0 : Int32) z0 r1 z1 hq2) (va_cwS 2 hts (x_gS t_250 t_251 t_15 t_252) rfl rfl rfl (by decide +kernel) ⟨Nat.le_of_ble_eq_true rfl, Nat.le_of_ble_eq_true rfl⟩) ⟨x_blind _ _ _, fun U hU hW => ⟨rfl, x_pw hP hD hK hG hS hz hU hW.alike⟩⟩ rfl rfl hl.1 rfl (lv_room (Nat.le_of_ble_eq_true rfl)) d_D_pad_5 ⟨Nat.le_of_ble_eq_true rfl, Nat.le_of_ble_eq_true rfl⟩) hS (fun q _ h => h) (fun q h => h) (fun u t H locs ht hvm hw hB hz1 hk1 hS => ?_)
  obtain ⟨rfl, rfl⟩ := hw
  obtain ⟨hP, hD⟩ := x_back hB ht
  refine lv_aload_n hx hb d_D_pad_8 rfl (lv_at hl 1 rfl) ?_
  refine lv_iconst (v := (0 : Int32)) hx hb d_D_pad_9 (by decide) ?_
  refine lv_aload_n hx hb d_D_pad_10 rfl (lv_at hl 0 rfl) ?_
  refine va_get (D := x_D G) (ci := 4) (v := .ref (x_ad G 104)) (C := "ContentLibrary$Digester") (T := x_TD) (N := 3) hx hb hts x_inD hown hK hP 103 (x_lk_D G _) rfl 0 (by decide) (hts _ t_120) (fun _ h9 => h9) rfl d_D_pad_11 ?_
  refine lv_iconst (v := (0 : Int32)) hx hb d_D_pad_14 (by decide) ?_
  refine lv_iload_n hx hb d_D_pad_15 rfl (lv_at hl 2 rfl) ?_
  obtain ⟨hc1, hc2, hc3, hc4, hc5, hf⟩ := x_ckc_some hf
  refine va_copyi hx hb (hml.trans hl.1.symm) hown (hts _ t_253) (hts _ t_214) (hts _ t_213) (hts _ t_16) hK hP hD hS k1 104 0 0 (x_lk_A G _ hk1) (x_lk_A G _ rfl) rfl rfl rfl hc1 hc2 hc3 hc4 hc5 (fun _ _ => rfl) (Nat.le_of_ble_eq_true rfl) (Nat.le_of_ble_eq_true rfl) d_D_pad_16 (fun H locs hP hD hS => ?_)
  rw [x_cp_A G _ _ _ _ _ (k2 := 104) rfl] at hP hD
  refine lv_aload_n hx hb d_D_pad_19 rfl (lv_at hl 0 rfl) ?_
  refine va_get (D := x_D G) (ci := 4) (v := .ref (x_ad G 104)) (C := "ContentLibrary$Digester") (T := x_TD) (N := 3) hx hb hts x_inD hown hK hP 103 (x_lk_D G _) rfl 0 (by decide) (hts _ t_120) (fun _ h9 => h9) rfl d_D_pad_20 ?_
  refine lv_iload_n hx hb d_D_pad_23 rfl (lv_at hl 2 rfl) ?_
  refine lv_sipush (v := (128 : Int32)) hx hb d_D_pad_24 (by decide) ?_
  obtain ⟨hin3, hf⟩ := x_ck_some hf
  refine va_iast hx hb hK hP hD hS 104 0 (x_lk_A G _ rfl) rfl hin3 d_D_pad_27 (fun H locs hP hD hS => ?_)
  rw [x_st_A G _ (k := 104) rfl] at hP hD
  refine lv_iload_n hx hb d_D_pad_28 rfl (lv_at hl 2 rfl) ?_
  refine lv_iconst (v := (1 : Int32)) hx hb d_D_pad_29 (by decide) ?_
  refine lv_iadd hx hb d_D_pad_30 ?_
  refine lv_bipush (v := (8 : Int32)) hx hb d_D_pad_31 (by decide) ?_
  refine lv_iadd hx hb d_D_pad_33 ?_
  refine lv_bipush (v := (64 : Int32)) hx hb d_D_pad_34 (by decide) ?_
  refine lv_icmp_gt (tgt := 44) hx hb d_D_pad_36 (by decide) (fun hc4 => ?_) (fun hc4 => ?_)
  · have hf := x_br_t hf hc4
    refine lv_sipush (v := (128 : Int32)) hx hb d_D_pad_44 (by decide) ?_
    refine lv_istore_n (lv' := [(3, .int (128 : Int32)), (0, .ref (x_ad G 103)), (1, .ref (x_ad G k1)), (2, .int p2)]) hx hb d_D_pad_47 rfl hl (by decide) rfl (fun ls hl => ?_)
    refine lv_bipush (v := (8 : Int32)) hx hb d_D_pad_48 (by decide) ?_
    refine lv_iload_n hx hb d_D_pad_50 rfl (lv_at hl 3 rfl) ?_
    refine lv_imul hx hb d_D_pad_51 ?_
    refine lv_istore (lv' := [(4, .int ((8 : Int32) * p2)), (3, .int (128 : Int32)), (0, .ref (x_ad G 103)), (1, .ref (x_ad G k1)), (2, .int p2)]) hx hb d_D_pad_52 hl (by decide) rfl (fun ls hl => ?_)
    refine lv_aload_n hx hb d_D_pad_54 rfl (lv_at hl 2 rfl) ?_
    refine va_get (D := x_D G) (ci := 4) (v := .ref (x_ad G 104)) (C := "ContentLibrary$Digester") (T := x_TD) (N := 3) hx hb hts x_inD hown hK hP 103 (x_lk_D G _) rfl 0 (by decide) (hts _ t_120) (fun _ h9 => h9) rfl d_D_pad_55 ?_
    refine lv_iload_n hx hb d_D_pad_58 rfl (lv_at hl 1 rfl) ?_
    refine lv_iconst (v := (2 : Int32)) hx hb d_D_pad_59 (by decide) ?_
    refine lv_isub hx hb d_D_pad_60 ?_
    refine lv_iload hx hb d_D_pad_61 (lv_at hl 0 rfl) ?_
    refine lv_bipush (v := (8 : Int32)) hx hb d_D_pad_63 (by decide) ?_
    refine lv_iushr (v := (x_ushr ((8 : Int32) * p2) (8 : Int32))) hx hb d_D_pad_65 rfl ?_
    obtain ⟨hin5, hf⟩ := x_ck_some hf
    refine va_iast hx hb hK hP hD hS 104 0 (x_lk_A G _ rfl) rfl hin5 d_D_pad_66 (fun H locs hP hD hS => ?_)
    rw [x_st_A G _ (k := 104) rfl] at hP hD
    refine lv_aload_n hx hb d_D_pad_67 rfl (lv_at hl 2 rfl) ?_
    refine va_get (D := x_D G) (ci := 4) (v := .ref (x_ad G 104)) (C := "ContentLibrary$Digester") (T := x_TD) (N := 3) hx hb hts x_inD hown hK hP 103 (x_lk_D G _) rfl 0 (by decide) (hts _ t_120) (fun _ h9 => h9) rfl d_D_pad_68 ?_
    refine lv_iload_n hx hb d_D_pad_71 rfl (lv_at hl 1 rfl) ?_
    refine lv_iconst (v := (1 : Int32)) hx hb d_D_pad_72 (by decide) ?_
    refine lv_isub hx hb d_D_pad_73 ?_
    refine lv_iload hx hb d_D_pad_74 (lv_at hl 0 rfl) ?_
    refine lv_sipush (v := (255 : Int32)) hx hb d_D_pad_76 (by decide) ?_
    refine lv_iand hx hb d_D_pad_79 ?_
    obtain ⟨hin6, hf⟩ := x_ck_some hf
    refine va_iast hx hb hK hP hD hS 104 0 (x_lk_A G _ rfl) rfl hin6 d_D_pad_80 (fun H locs hP hD hS => ?_)
    rw [x_st_A G _ (k := 104) rfl] at hP hD
    refine lv_iload_n hx hb d_D_pad_81 rfl (lv_at hl 1 rfl) ?_
    obtain ⟨rfl, rfl⟩ := x_ret hf
    exact W.iret (v := (128 : Int32)) hx hb hr (fun t ht hW => ⟨⟨_, _, rfl, ⟨rfl, rfl⟩, x_pw hP hD hK hG hS hz ht hW.alike⟩, hS.F ht⟩) hS.2.2 d_D_pad_82
  · have hf := x_br_f hf hc4
    refine lv_bipush (v := (64 : Int32)) hx hb d_D_pad_39 (by decide) ?_
    refine lv_goto (tgt := 47) hx hb d_D_pad_41 (by decide) ?_
    refine lv_istore_n (lv' := [(3, .int (64 : Int32)), (0, .ref (x_ad G 103)), (1, .ref (x_ad G k1)), (2, .int p2)]) hx hb d_D_pad_47 rfl hl (by decide) rfl (fun ls hl => ?_)
    refine lv_bipush (v := (8 : Int32)) hx hb d_D_pad_48 (by decide) ?_
    refine lv_iload_n hx hb d_D_pad_50 rfl (lv_at hl 3 rfl) ?_
    refine lv_imul hx hb d_D_pad_51 ?_
    refine lv_istore (lv' := [(4, .int ((8 : Int32) * p2)), (3, .int (64 : Int32)), (0, .ref (x_ad G 103)), (1, .ref (x_ad G k1)), (2, .int p2)]) hx hb d_D_pad_52 hl (by decide) rfl (fun ls hl => ?_)
    refine lv_aload_n hx hb d_D_pad_54 rfl (lv_at hl 2 rfl) ?_
    refine va_get (D := x_D G) (ci := 4) (v := .ref (x_ad G 104)) (C := "ContentLibrary$Digester") (T := x_TD) (N := 3) hx hb hts x_inD hown hK hP 103 (x_lk_D G _) rfl 0 (by decide) (hts _ t_120) (fun _ h9 => h9) rfl d_D_pad_55 ?_
    refine lv_iload_n hx hb d_D_pad_58 rfl (lv_at hl 1 rfl) ?_
    refine lv_iconst (v := (2 : Int32)) hx hb d_D_pad_59 (by decide) ?_
    refine lv_isub hx hb d_D_pad_60 ?_
    refine lv_iload hx hb d_D_pad_61 (lv_at hl 0 rfl) ?_
    refine lv_bipush (v := (8 : Int32)) hx hb d_D_pad_63 (by decide) ?_
    refine lv_iushr (v := (x_ushr ((8 : Int32) * p2) (8 : Int32))) hx hb d_D_pad_65 rfl ?_
    obtain ⟨hin7, hf⟩ := x_ck_some hf
    refine va_iast hx hb hK hP hD hS 104 0 (x_lk_A G _ rfl) rfl hin7 d_D_pad_66 (fun H locs hP hD hS => ?_)
    rw [x_st_A G _ (k := 104) rfl] at hP hD
    refine lv_aload_n hx hb d_D_pad_67 rfl (lv_at hl 2 rfl) ?_
    refine va_get (D := x_D G) (ci := 4) (v := .ref (x_ad G 104)) (C := "ContentLibrary$Digester") (T := x_TD) (N := 3) hx hb hts x_inD hown hK hP 103 (x_lk_D G _) rfl 0 (by decide) (hts _ t_120) (fun _ h9 => h9) rfl d_D_pad_68 ?_
    refine lv_iload_n hx hb d_D_pad_71 rfl (lv_at hl 1 rfl) ?_
    refine lv_iconst (v := (1 : Int32)) hx hb d_D_pad_72 (by decide) ?_
    refine lv_isub hx hb d_D_pad_73 ?_
    refine lv_iload hx hb d_D_pad_74 (lv_at hl 0 rfl) ?_
    refine lv_sipush (v := (255 : Int32)) hx hb d_D_pad_76 (by decide) ?_
    refine lv_iand hx hb d_D_pad_79 ?_
    obtain ⟨hin8, hf⟩ := x_ck_some hf
    refine va_iast hx hb hK hP hD hS 104 0 (x_lk_A G _ rfl) rfl hin8 d_D_pad_80 (fun H locs hP hD hS => ?_)
    rw [x_st_A G _ (k := 104) rfl] at hP hD
    refine lv_iload_n hx hb d_D_pad_81 rfl (lv_at hl 1 rfl) ?_
    obtain ⟨rfl, rfl⟩ := x_ret hf
    exact W.iret (v := (64 : Int32)) hx hb hr (fun t ht hW => ⟨⟨_, _, rfl, ⟨rfl, rfl⟩, x_pw hP hD hK hG hS hz ht hW.alike⟩, hS.F ht⟩) hS.2.2 d_D_pad_82
abbrev rm_D_prepare : Room := { frames := 1, cells := 0, slots := 0, locals := 21 }
set_option maxHeartbeats 4000000 in
set_option maxRecDepth 100000 in
theorem w_D_prepare_71 (l : Launch) (G : x_G) {p : Program} {e : Env} {s : State} {m : MethodId} {args : Array Value} {below : List Frame} {meth : Method} {c : Code} (C0 : x_Ctx G p s m args meth c prog_3_method_4_code "ContentLibrary$Digester" 7 none) (r : Unit) (z9 : x_St) : ∀ (fu : Nat), ∀ (a2 : Int32) (z0 : x_St), f_D_prepare_71 (x_n G) fu a2 z0 = some (r, z9) → ∀ (H : Heap) (locs : List Loc) (ls : Array Slot), va_P (x_D G) vwCl (x_Wd G z0) H → va_D (x_A G) (x_Wd G z0) → va_S (x_A G) s.heap H locs → lv_has ls 7 [(0, .ref (x_ad G 103)), (2, .int a2)] → W p l e rm_D_prepare s m args below meth c H locs 0 0 (MQ below (va_Qv (fun u => r = () ∧ z9 = u) (x_PW G) (x_A G)) args s 0 0 (x_A G)) (F0 m 71 ls []) := by
  obtain ⟨hx, hb, hr, hml, hown, hts, hlocks, hz, hK, hG⟩ := id C0
  intro fu
  induction fu with
  | zero =>
    intro a2 z0 hf
    rw [f_D_prepare_71] at hf
    cases hf
  | succ fu ih =>
    intro a2 z0 hf H locs ls hP hD hS hl
    rw [f_D_prepare_71] at hf
    refine lv_iload_n hx hb d_D_prepare_71 rfl (lv_at hl 1 rfl) ?_
    refine lv_bipush (v := (64 : Int32)) hx hb d_D_prepare_72 (by decide) ?_
    refine lv_icmp_ge (tgt := 176) hx hb d_D_prepare_74 (by decide) (fun hc1 => ?_) (fun hc1 => ?_)
    · have hf := x_br_t hf hc1
      obtain ⟨rfl, rfl⟩ := x_ret hf
      exact W.vret hx hb hr (fun t ht hW => ⟨⟨_, rfl, ⟨rfl, rfl⟩, x_pw hP hD hK hG hS hz ht hW.alike⟩, hS.F ht⟩) hS.2.2 d_D_prepare_176
    · have hf := x_br_f hf hc1
      refine lv_aload_n hx hb d_D_prepare_77 rfl (lv_at hl 0 rfl) ?_
      refine va_get (D := x_D G) (ci := 4) (v := .ref (x_ad G 105)) (C := "ContentLibrary$Digester") (T := x_TD) (N := 3) hx hb hts x_inD hown hK hP 103 (x_lk_D G _) rfl 1 (by decide) (hts _ t_121) (fun _ h9 => h9) rfl d_D_prepare_78 ?_
      refine lv_iload_n hx hb d_D_prepare_81 rfl (lv_at hl 1 rfl) ?_
      refine lv_bipush (v := (15 : Int32)) hx hb d_D_prepare_82 (by decide) ?_
      refine lv_isub hx hb d_D_prepare_84 ?_
      obtain ⟨hin2, hf⟩ := x_ck_some hf
      refine va_iald hx hb hK hP 105 0 (x_lk_A G _ rfl) rfl hin2 d_D_prepare_85 ?_
      refine lv_istore_n (lv' := [(3, .int (z0.1 105 ((a2 - (15 : Int32))).toNatClampNeg)), (0, .ref (x_ad G 103)), (2, .int a2)]) hx hb d_D_prepare_86 rfl hl (by decide) rfl (fun ls hl => ?_)
      refine lv_aload_n hx hb d_D_prepare_87 rfl (lv_at hl 1 rfl) ?_
      refine va_get (D := x_D G) (ci := 4) (v := .ref (x_ad G 105)) (C := "ContentLibrary$Digester") (T := x_TD) (N := 3) hx hb hts x_inD hown hK hP 103 (x_lk_D G _) rfl 1 (by decide) (hts _ t_121) (fun _ h9 => h9) rfl d_D_prepare_88 ?_
      refine lv_iload_n hx hb d_D_prepare_91 rfl (lv_at hl 2 rfl) ?_
      refine lv_iconst (v := (2 : Int32)) hx hb d_D_prepare_92 (by decide) ?_
      refine lv_isub hx hb d_D_prepare_93 ?_
      obtain ⟨hin3, hf⟩ := x_ck_some hf
      refine va_iald hx hb hK hP 105 0 (x_lk_A G _ rfl) rfl hin3 d_D_prepare_94 ?_
      refine lv_istore (lv' := [(4, .int (z0.1 105 ((a2 - (2 : Int32))).toNatClampNeg)), (3, .int (z0.1 105 ((a2 - (15 : Int32))).toNatClampNeg)), (0, .ref (x_ad G 103)), (2, .int a2)]) hx hb d_D_prepare_95 hl (by decide) rfl (fun ls hl => ?_)
      refine lv_iload_n hx hb d_D_prepare_97 rfl (lv_at hl 1 rfl) ?_
      refine lv_bipush (v := (7 : Int32)) hx hb d_D_prepare_98 (by decide) ?_
      obtain ⟨r4, z4, hq5, hf⟩ := x_cl_some hf
      refine va_calli (va_runS (As := [.int (z0.1 105 ((a2 - (15 : Int32))).toNatClampNeg), .int (7 : Int32)]) (rest := []) ⟨hx, hb, hml, hown, hts⟩ (c_Integer_rotateRight l G (z0.1 105 ((a2 - (15 : Int32))).toNatClampNeg) (7 : Int32) z0 r4 z4 hq5) (va_cwS 2 hts (x_gS t_260 t_261 t_17 t_262) rfl rfl rfl (by decide +kernel) ⟨Nat.le_of_ble_eq_true rfl, Nat.le_of_ble_eq_true rfl⟩) ⟨x_blind _ _ _, fun U hU hW => ⟨rfl, x_pw hP hD hK hG hS hz hU hW.alike⟩⟩ rfl rfl hl.1 rfl (lv_room (Nat.le_of_ble_eq_true rfl)) d_D_prepare_100 ⟨Nat.le_of_ble_eq_true rfl, Nat.le_of_ble_eq_true rfl⟩) hS (fun q _ h => h) (fun q h => h) (fun ra u t H locs ht hvm hw hB hz1 hk1 hS => ?_)
      obtain ⟨rfl, rfl⟩ := hw
      obtain ⟨hP, hD⟩ := x_back hB ht
      refine lv_iload_n hx hb d_D_prepare_103 rfl (lv_at hl 1 rfl) ?_
      refine lv_bipush (v := (18 : Int32)) hx hb d_D_prepare_104 (by decide) ?_
      obtain ⟨r6, z6, hq7, hf⟩ := x_cl_some hf
      refine va_calli (va_runS (As := [.int (z0.1 105 ((a2 - (15 : Int32))).toNatClampNeg), .int (18 : Int32)]) (rest := [.int r4]) ⟨hx, hb, hml, hown, hts⟩ (c_Integer_rotateRight l G (z0.1 105 ((a2 - (15 : Int32))).toNatClampNeg) (18 : Int32) z4 r6 z6 hq7) (va_cwS 2 hts (x_gS t_260 t_261 t_17 t_262) rfl rfl rfl (by decide +kernel) ⟨Nat.le_of_ble_eq_true rfl, Nat.le_of_ble_eq_true rfl⟩) ⟨x_blind _ _ _, fun U hU hW => ⟨rfl, x_pw hP hD hK hG hS hz hU hW.alike⟩⟩ rfl rfl hl.1 rfl (lv_room (Nat.le_of_ble_eq_true rfl)) d_D_prepare_106 ⟨Nat.le_of_ble_eq_true rfl, Nat.le_of_ble_eq_true rfl⟩) hS (fun q _ h => h) (fun q h => h) (fun ra u t H locs ht hvm hw hB hz1 hk1 hS => ?_)
      obtain ⟨rfl, rfl⟩ := hw
      obtain ⟨hP, hD⟩ := x_back hB ht
      refine lv_ixor hx hb d_D_prepare_109 ?_
      refine lv_iload_n hx hb d_D_prepare_110 rfl (lv_at hl 1 rfl) ?_
      refine lv_iconst (v := (3 : Int32)) hx hb d_D_prepare_111 (by decide) ?_
      refine lv_iushr (v := (x_ushr (z0.1 105 ((a2 - (15 : Int32))).toNatClampNeg) (3 : Int32))) hx hb d_D_prepare_112 rfl ?_
      refine lv_ixor hx hb d_D_prepare_113 ?_
      refine lv_istore (lv' := [(5, .int ((r4 ^^^ r6) ^^^ (x_ushr (z0.1 105 ((a2 - (15 : Int32))).toNatClampNeg) (3 : Int32)))), (4, .int (z0.1 105 ((a2 - (2 : Int32))).toNatClampNeg)), (3, .int (z0.1 105 ((a2 - (15 : Int32))).toNatClampNeg)), (0, .ref (x_ad G 103)), (2, .int a2)]) hx hb d_D_prepare_114 hl (by decide) rfl (fun ls hl => ?_)
      refine lv_iload hx hb d_D_prepare_116 (lv_at hl 1 rfl) ?_
      refine lv_bipush (v := (17 : Int32)) hx hb d_D_prepare_118 (by decide) ?_
      obtain ⟨r8, z8, hq9, hf⟩ := x_cl_some hf
      refine va_calli (va_runS (As := [.int (z0.1 105 ((a2 - (2 : Int32))).toNatClampNeg), .int (17 : Int32)]) (rest := []) ⟨hx, hb, hml, hown, hts⟩ (c_Integer_rotateRight l G (z0.1 105 ((a2 - (2 : Int32))).toNatClampNeg) (17 : Int32) z6 r8 z8 hq9) (va_cwS 2 hts (x_gS t_260 t_261 t_17 t_262) rfl rfl rfl (by decide +kernel) ⟨Nat.le_of_ble_eq_true rfl, Nat.le_of_ble_eq_true rfl⟩) ⟨x_blind _ _ _, fun U hU hW => ⟨rfl, x_pw hP hD hK hG hS hz hU hW.alike⟩⟩ rfl rfl hl.1 rfl (lv_room (Nat.le_of_ble_eq_true rfl)) d_D_prepare_120 ⟨Nat.le_of_ble_eq_true rfl, Nat.le_of_ble_eq_true rfl⟩) hS (fun q _ h => h) (fun q h => h) (fun ra u t H locs ht hvm hw hB hz1 hk1 hS => ?_)
      obtain ⟨rfl, rfl⟩ := hw
      obtain ⟨hP, hD⟩ := x_back hB ht
      refine lv_iload hx hb d_D_prepare_123 (lv_at hl 1 rfl) ?_
      refine lv_bipush (v := (19 : Int32)) hx hb d_D_prepare_125 (by decide) ?_
      obtain ⟨r10, z10, hq11, hf⟩ := x_cl_some hf
      refine va_calli (va_runS (As := [.int (z0.1 105 ((a2 - (2 : Int32))).toNatClampNeg), .int (19 : Int32)]) (rest := [.int r8]) ⟨hx, hb, hml, hown, hts⟩ (c_Integer_rotateRight l G (z0.1 105 ((a2 - (2 : Int32))).toNatClampNeg) (19 : Int32) z8 r10 z10 hq11) (va_cwS 2 hts (x_gS t_260 t_261 t_17 t_262) rfl rfl rfl (by decide +kernel) ⟨Nat.le_of_ble_eq_true rfl, Nat.le_of_ble_eq_true rfl⟩) ⟨x_blind _ _ _, fun U hU hW => ⟨rfl, x_pw hP hD hK hG hS hz hU hW.alike⟩⟩ rfl rfl hl.1 rfl (lv_room (Nat.le_of_ble_eq_true rfl)) d_D_prepare_127 ⟨Nat.le_of_ble_eq_true rfl, Nat.le_of_ble_eq_true rfl⟩) hS (fun q _ h => h) (fun q h => h) (fun ra u t H locs ht hvm hw hB hz1 hk1 hS => ?_)
      obtain ⟨rfl, rfl⟩ := hw
      obtain ⟨hP, hD⟩ := x_back hB ht
      refine lv_ixor hx hb d_D_prepare_130 ?_
      refine lv_iload hx hb d_D_prepare_131 (lv_at hl 1 rfl) ?_
      refine lv_bipush (v := (10 : Int32)) hx hb d_D_prepare_133 (by decide) ?_
      refine lv_iushr (v := (x_ushr (z0.1 105 ((a2 - (2 : Int32))).toNatClampNeg) (10 : Int32))) hx hb d_D_prepare_135 rfl ?_
      refine lv_ixor hx hb d_D_prepare_136 ?_
      refine lv_istore (lv' := [(6, .int ((r8 ^^^ r10) ^^^ (x_ushr (z0.1 105 ((a2 - (2 : Int32))).toNatClampNeg) (10 : Int32)))), (5, .int ((r4 ^^^ r6) ^^^ (x_ushr (z0.1 105 ((a2 - (15 : Int32))).toNatClampNeg) (3 : Int32)))), (4, .int (z0.1 105 ((a2 - (2 : Int32))).toNatClampNeg)), (3, .int (z0.1 105 ((a2 - (15 : Int32))).toNatClampNeg)), (0, .ref (x_ad G 103)), (2, .int a2)]) hx hb d_D_prepare_137 hl (by decide) rfl (fun ls hl => ?_)
      refine lv_aload_n hx hb d_D_prepare_139 rfl (lv_at hl 4 rfl) ?_
      refine va_get (D := x_D G) (ci := 4) (v := .ref (x_ad G 105)) (C := "ContentLibrary$Digester") (T := x_TD) (N := 3) hx hb hts x_inD hown hK hP 103 (x_lk_D G _) rfl 1 (by decide) (hts _ t_121) (fun _ h9 => h9) rfl d_D_prepare_140 ?_
      refine lv_iload_n hx hb d_D_prepare_143 rfl (lv_at hl 5 rfl) ?_
      refine lv_iload hx hb d_D_prepare_144 (lv_at hl 0 rfl) ?_
      refine lv_aload_n hx hb d_D_prepare_146 rfl (lv_at hl 4 rfl) ?_
      refine va_get (D := x_D G) (ci := 4) (v := .ref (x_ad G 105)) (C := "ContentLibrary$Digester") (T := x_TD) (N := 3) hx hb hts x_inD hown hK hP 103 (x_lk_D G _) rfl 1 (by decide) (hts _ t_121) (fun _ h9 => h9) rfl d_D_prepare_147 ?_
      refine lv_iload_n hx hb d_D_prepare_150 rfl (lv_at hl 5 rfl) ?_
      refine lv_bipush (v := (7 : Int32)) hx hb d_D_prepare_151 (by decide) ?_
      refine lv_isub hx hb d_D_prepare_153 ?_
      obtain ⟨hin12, hf⟩ := x_ck_some hf
      refine va_iald hx hb hK hP 105 0 (x_lk_A G _ rfl) rfl hin12 d_D_prepare_154 ?_
      refine lv_iadd hx hb d_D_prepare_155 ?_
      refine lv_iload hx hb d_D_prepare_156 (lv_at hl 1 rfl) ?_
      refine lv_iadd hx hb d_D_prepare_158 ?_
      refine lv_aload_n hx hb d_D_prepare_159 rfl (lv_at hl 4 rfl) ?_
      refine va_get (D := x_D G) (ci := 4) (v := .ref (x_ad G 105)) (C := "ContentLibrary$Digester") (T := x_TD) (N := 3) hx hb hts x_inD hown hK hP 103 (x_lk_D G _) rfl 1 (by decide) (hts _ t_121) (fun _ h9 => h9) rfl d_D_prepare_160 ?_
      refine lv_iload_n hx hb d_D_prepare_163 rfl (lv_at hl 5 rfl) ?_
      refine lv_bipush (v := (16 : Int32)) hx hb d_D_prepare_164 (by decide) ?_
      refine lv_isub hx hb d_D_prepare_166 ?_
      obtain ⟨hin13, hf⟩ := x_ck_some hf
      refine va_iald hx hb hK hP 105 0 (x_lk_A G _ rfl) rfl hin13 d_D_prepare_167 ?_
      refine lv_iadd hx hb d_D_prepare_168 ?_
      obtain ⟨hin14, hf⟩ := x_ck_some hf
      refine va_iast hx hb hK hP hD hS 105 0 (x_lk_A G _ rfl) rfl hin14 d_D_prepare_169 (fun H locs hP hD hS => ?_)
      rw [x_st_A G _ (k := 105) rfl] at hP hD
      refine lv_iinc (v := (a2 + (1 : Int32))) (lv' := [(2, .int (a2 + (1 : Int32))), (6, .int ((r8 ^^^ r10) ^^^ (x_ushr (z0.1 105 ((a2 - (2 : Int32))).toNatClampNeg) (10 : Int32)))), (5, .int ((r4 ^^^ r6) ^^^ (x_ushr (z0.1 105 ((a2 - (15 : Int32))).toNatClampNeg) (3 : Int32)))), (4, .int (z0.1 105 ((a2 - (2 : Int32))).toNatClampNeg)), (3, .int (z0.1 105 ((a2 - (15 : Int32))).toNatClampNeg)), (0, .ref (x_ad G 103))]) hx hb d_D_prepare_170 hl (k := 5) rfl rfl (by decide) rfl (fun ls hl => ?_)
      refine lv_goto (tgt := 71) hx hb d_D_prepare_173 (by decide) ?_
      exact ih (a2 + (1 : Int32)) (x_put z10 105 (a2).toNatClampNeg (((((r8 ^^^ r10) ^^^ (x_ushr (z0.1 105 ((a2 - (2 : Int32))).toNatClampNeg) (10 : Int32))) + (z10.1 105 ((a2 - (7 : Int32))).toNatClampNeg)) + ((r4 ^^^ r6) ^^^ (x_ushr (z0.1 105 ((a2 - (15 : Int32))).toNatClampNeg) (3 : Int32)))) + (z10.1 105 ((a2 - (16 : Int32))).toNatClampNeg))) hf _ _ _ hP hD hS (lv_sub hl [5, 0] rfl)
set_option maxHeartbeats 4000000 in
set_option maxRecDepth 100000 in
theorem w_D_prepare_68 (l : Launch) (G : x_G) {p : Program} {e : Env} {s : State} {m : MethodId} {args : Array Value} {below : List Frame} {meth : Method} {c : Code} (C0 : x_Ctx G p s m args meth c prog_3_method_4_code "ContentLibrary$Digester" 7 none) (r : Unit) (z9 : x_St) : ∀ (z0 : x_St), f_D_prepare_68 (x_n G)  z0 = some (r, z9) → ∀ (H : Heap) (locs : List Loc) (ls : Array Slot), va_P (x_D G) vwCl (x_Wd G z0) H → va_D (x_A G) (x_Wd G z0) → va_S (x_A G) s.heap H locs → lv_has ls 7 [(0, .ref (x_ad G 103))] → W p l e rm_D_prepare s m args below meth c H locs 0 0 (MQ below (va_Qv (fun u => r = () ∧ z9 = u) (x_PW G) (x_A G)) args s 0 0 (x_A G)) (F0 m 68 ls []) := by
  obtain ⟨hx, hb, hr, hml, hown, hts, hlocks, hz, hK, hG⟩ := id C0
  intro  z0 hf H locs ls hP hD hS hl
  rw [f_D_prepare_68] at hf
  refine lv_bipush (v := (16 : Int32)) hx hb d_D_prepare_68 (by decide) ?_
  refine lv_istore_n (lv' := [(2, .int (16 : Int32)), (0, .ref (x_ad G 103))]) hx hb d_D_prepare_70 rfl hl (by decide) rfl (fun ls hl => ?_)
  exact w_D_prepare_71 l G C0 r z9 x_FU (16 : Int32) z0 hf _ _ _ hP hD hS (lv_sub hl [1, 0] rfl)
set_option maxHeartbeats 4000000 in
set_option maxRecDepth 100000 in
theorem w_D_prepare_2 (l : Launch) (G : x_G) {p : Program} {e : Env} {s : State} {m : MethodId} {args : Array Value} {below : List Frame} {meth : Method} {c : Code} (C0 : x_Ctx G p s m args meth c prog_3_method_4_code "ContentLibrary$Digester" 7 none) (r : Unit) (z9 : x_St) : ∀ (fu : Nat), ∀ (a1 : Int32) (a2 : Int32) (z0 : x_St), f_D_prepare_2 (x_n G) fu a1 a2 z0 = some (r, z9) → ∀ (H : Heap) (locs : List Loc) (ls : Array Slot), va_P (x_D G) vwCl (x_Wd G z0) H → va_D (x_A G) (x_Wd G z0) → va_S (x_A G) s.heap H locs → lv_has ls 7 [(0, .ref (x_ad G 103)), (1, .int a1), (2, .int a2)] → W p l e rm_D_prepare s m args below meth c H locs 0 0 (MQ below (va_Qv (fun u => r = () ∧ z9 = u) (x_PW G) (x_A G)) args s 0 0 (x_A G)) (F0 m 2 ls []) := by
  obtain ⟨hx, hb, hr, hml, hown, hts, hlocks, hz, hK, hG⟩ := id C0
  intro fu
  induction fu with
  | zero =>
    intro a1 a2 z0 hf
    rw [f_D_prepare_2] at hf
    cases hf
  | succ fu ih =>
    intro a1 a2 z0 hf H locs ls hP hD hS hl
    rw [f_D_prepare_2] at hf
    refine lv_iload_n hx hb d_D_prepare_2 rfl (lv_at hl 2 rfl) ?_
    refine lv_bipush (v := (16 : Int32)) hx hb d_D_prepare_3 (by decide) ?_
    refine lv_icmp_ge (tgt := 68) hx hb d_D_prepare_5 (by decide) (fun hc15 => ?_) (fun hc15 => ?_)
    · have hf := x_br_t hf hc15
      exact w_D_prepare_68 l G C0 r z9 z0 hf _ _ _ hP hD hS (lv_sub hl [0] rfl)
    · have hf := x_br_f hf hc15
      refine lv_iload_n hx hb d_D_prepare_8 rfl (lv_at hl 1 rfl) ?_
      refine lv_iconst (v := (4 : Int32)) hx hb d_D_prepare_9 (by decide) ?_
      refine lv_iload_n hx hb d_D_prepare_10 rfl (lv_at hl 2 rfl) ?_
      refine lv_imul hx hb d_D_prepare_11 ?_
      refine lv_iadd hx hb d_D_prepare_12 ?_
      refine lv_istore_n (lv' := [(3, .int (a1 + ((4 : Int32) * a2))), (0, .ref (x_ad G 103)), (1, .int a1), (2, .int a2)]) hx hb d_D_prepare_13 rfl hl (by decide) rfl (fun ls hl => ?_)
      refine lv_aload_n hx hb d_D_prepare_14 rfl (lv_at hl 1 rfl) ?_
      refine va_get (D := x_D G) (ci := 4) (v := .ref (x_ad G 105)) (C := "ContentLibrary$Digester") (T := x_TD) (N := 3) hx hb hts x_inD hown hK hP 103 (x_lk_D G _) rfl 1 (by decide) (hts _ t_121) (fun _ h9 => h9) rfl d_D_prepare_15 ?_
      refine lv_iload_n hx hb d_D_prepare_18 rfl (lv_at hl 3 rfl) ?_
      refine lv_aload_n hx hb d_D_prepare_19 rfl (lv_at hl 1 rfl) ?_
      refine va_get (D := x_D G) (ci := 4) (v := .ref (x_ad G 104)) (C := "ContentLibrary$Digester") (T := x_TD) (N := 3) hx hb hts x_inD hown hK hP 103 (x_lk_D G _) rfl 0 (by decide) (hts _ t_120) (fun _ h9 => h9) rfl d_D_prepare_20 ?_
      refine lv_iload_n hx hb d_D_prepare_23 rfl (lv_at hl 0 rfl) ?_
      obtain ⟨hin16, hf⟩ := x_ck_some hf
      refine va_iald hx hb hK hP 104 0 (x_lk_A G _ rfl) rfl hin16 d_D_prepare_24 ?_
      refine lv_bipush (v := (24 : Int32)) hx hb d_D_prepare_25 (by decide) ?_
      refine lv_ishl hx hb d_D_prepare_27 ?_
      refine lv_aload_n hx hb d_D_prepare_28 rfl (lv_at hl 1 rfl) ?_
      refine va_get (D := x_D G) (ci := 4) (v := .ref (x_ad G 104)) (C := "ContentLibrary$Digester") (T := x_TD) (N := 3) hx hb hts x_inD hown hK hP 103 (x_lk_D G _) rfl 0 (by decide) (hts _ t_120) (fun _ h9 => h9) rfl d_D_prepare_29 ?_
      refine lv_iload_n hx hb d_D_prepare_32 rfl (lv_at hl 0 rfl) ?_
      refine lv_iconst (v := (1 : Int32)) hx hb d_D_prepare_33 (by decide) ?_
      refine lv_iadd hx hb d_D_prepare_34 ?_
      obtain ⟨hin17, hf⟩ := x_ck_some hf
      refine va_iald hx hb hK hP 104 0 (x_lk_A G _ rfl) rfl hin17 d_D_prepare_35 ?_
      refine lv_bipush (v := (16 : Int32)) hx hb d_D_prepare_36 (by decide) ?_
      refine lv_ishl hx hb d_D_prepare_38 ?_
      refine lv_ior hx hb d_D_prepare_39 ?_
      refine lv_aload_n hx hb d_D_prepare_40 rfl (lv_at hl 1 rfl) ?_
      refine va_get (D := x_D G) (ci := 4) (v := .ref (x_ad G 104)) (C := "ContentLibrary$Digester") (T := x_TD) (N := 3) hx hb hts x_inD hown hK hP 103 (x_lk_D G _) rfl 0 (by decide) (hts _ t_120) (fun _ h9 => h9) rfl d_D_prepare_41 ?_
      refine lv_iload_n hx hb d_D_prepare_44 rfl (lv_at hl 0 rfl) ?_
      refine lv_iconst (v := (2 : Int32)) hx hb d_D_prepare_45 (by decide) ?_
      refine lv_iadd hx hb d_D_prepare_46 ?_
      obtain ⟨hin18, hf⟩ := x_ck_some hf
      refine va_iald hx hb hK hP 104 0 (x_lk_A G _ rfl) rfl hin18 d_D_prepare_47 ?_
      refine lv_bipush (v := (8 : Int32)) hx hb d_D_prepare_48 (by decide) ?_
      refine lv_ishl hx hb d_D_prepare_50 ?_
      refine lv_ior hx hb d_D_prepare_51 ?_
      refine lv_aload_n hx hb d_D_prepare_52 rfl (lv_at hl 1 rfl) ?_
      refine va_get (D := x_D G) (ci := 4) (v := .ref (x_ad G 104)) (C := "ContentLibrary$Digester") (T := x_TD) (N := 3) hx hb hts x_inD hown hK hP 103 (x_lk_D G _) rfl 0 (by decide) (hts _ t_120) (fun _ h9 => h9) rfl d_D_prepare_53 ?_
      refine lv_iload_n hx hb d_D_prepare_56 rfl (lv_at hl 0 rfl) ?_
      refine lv_iconst (v := (3 : Int32)) hx hb d_D_prepare_57 (by decide) ?_
      refine lv_iadd hx hb d_D_prepare_58 ?_
      obtain ⟨hin19, hf⟩ := x_ck_some hf
      refine va_iald hx hb hK hP 104 0 (x_lk_A G _ rfl) rfl hin19 d_D_prepare_59 ?_
      refine lv_ior hx hb d_D_prepare_60 ?_
      obtain ⟨hin20, hf⟩ := x_ck_some hf
      refine va_iast hx hb hK hP hD hS 105 0 (x_lk_A G _ rfl) rfl hin20 d_D_prepare_61 (fun H locs hP hD hS => ?_)
      rw [x_st_A G _ (k := 105) rfl] at hP hD
      refine lv_iinc (v := (a2 + (1 : Int32))) (lv' := [(2, .int (a2 + (1 : Int32))), (3, .int (a1 + ((4 : Int32) * a2))), (0, .ref (x_ad G 103)), (1, .int a1)]) hx hb d_D_prepare_62 hl (k := 3) rfl rfl (by decide) rfl (fun ls hl => ?_)
      refine lv_goto (tgt := 2) hx hb d_D_prepare_65 (by decide) ?_
      exact ih a1 (a2 + (1 : Int32)) (x_put z0 105 (a2).toNatClampNeg (((((z0.1 104 ((a1 + ((4 : Int32) * a2))).toNatClampNeg) <<< ((24 : Int32) &&& 31)) ||| ((z0.1 104 (((a1 + ((4 : Int32) * a2)) + (1 : Int32))).toNatClampNeg) <<< ((16 : Int32) &&& 31))) ||| ((z0.1 104 (((a1 + ((4 : Int32) * a2)) + (2 : Int32))).toNatClampNeg) <<< ((8 : Int32) &&& 31))) ||| (z0.1 104 (((a1 + ((4 : Int32) * a2)) + (3 : Int32))).toNatClampNeg))) hf _ _ _ hP hD hS (lv_sub hl [2, 3, 0] rfl)
set_option maxHeartbeats 4000000 in
set_option maxRecDepth 100000 in
theorem c_D_prepare (l : Launch) (G : x_G) (p1 : Int32) (z0 : x_St) (r : Unit) (z9 : x_St) (hf : f_D_prepare (x_n G) p1 z0 = some (r, z9)) : Met l (⟨"ContentLibrary$Digester", "prepare", "(I)V"⟩ : MethodName) (x_ws (⟨"ContentLibrary$Digester", "prepare", "(I)V"⟩ : MethodName) prog_3_method_4_code 7 none) rm_D_prepare (va_Pc [.ref (x_ad G 103), .int p1] (x_PW G z0)) (va_Qv (fun u => r = () ∧ z9 = u) (x_PW G) (x_A G)) 0 0 (x_A G) := by
  refine Met.ofW (cc := prog_3_method_4_code) (maxL := 7) (ret := none) (by decide) rfl ?_
  intro p e s m args below meth c s₁ B hml hv
  obtain ⟨rfl, hz, hP, hD, hK, hG⟩ := hv
  have C0 : x_Ctx G p s m _ meth c prog_3_method_4_code "ContentLibrary$Digester" 7 none := ⟨B.exec, B.bytes, B.returns, hml, findClass_of_methodNamed B.named, fun w h => atoms_spec (ws := (x_ws (⟨"ContentLibrary$Digester", "prepare", "(I)V"⟩ : MethodName) prog_3_method_4_code 7 none)) B.pre w (List.mem_cons_of_mem _ h), B.notSynchronized, hz, hK, hG⟩
  obtain ⟨hx, hb, hr, hml, hown, hts, hlocks, hz, hK, hG⟩ := id C0
  have hS : va_S (x_A G) s.heap s.heap [] := va_S.rf
  have hl := lv_entry ([.ref (x_ad G 103), .int p1]) (n := 7) (Nat.le_of_ble_eq_true rfl)
  rw [lg_entry_eq]
  generalize (lg_sl ([.ref (x_ad G 103), .int p1]) ++ List.replicate (7 - (lg_sl ([.ref (x_ad G 103), .int p1])).length) Slot.unset).toArray = ls at hl ⊢
  have hl : lv_has ls 7 [(0, .ref (x_ad G 103)), (1, .int p1)] := hl
  rw [f_D_prepare] at hf
  refine lv_iconst (v := (0 : Int32)) hx hb d_D_prepare_0 (by decide) ?_
  refine lv_istore_n (lv' := [(2, .int (0 : Int32)), (0, .ref (x_ad G 103)), (1, .int p1)]) hx hb d_D_prepare_1 rfl hl (by decide) rfl (fun ls hl => ?_)
  exact w_D_prepare_2 l G C0 r z9 x_FU p1 (0 : Int32) z0 hf _ _ _ hP hD hS (lv_sub hl [1, 2, 0] rfl)
abbrev rm_D_turnRound : Room := { frames := 1, cells := 0, slots := 0, locals := 21 }
set_option maxHeartbeats 4000000 in
set_option maxRecDepth 100000 in
theorem w_D_turnRound_160 (l : Launch) (G : x_G) {p : Program} {e : Env} {s : State} {m : MethodId} {args : Array Value} {below : List Frame} {meth : Method} {c : Code} (C0 : x_Ctx G p s m args meth c prog_3_method_6_code "ContentLibrary$Digester" 10 none) (r : Unit) (z9 : x_St) : ∀ (a6 : Int32) (a7 : Int32) (a8 : Int32) (z0 : x_St), f_D_turnRound_160 (x_n G) a6 a7 a8 z0 = some (r, z9) → ∀ (H : Heap) (locs : List Loc) (ls : Array Slot), va_P (x_D G) vwCl (x_Wd G z0) H → va_D (x_A G) (x_Wd G z0) → va_S (x_A G) s.heap H locs → lv_has ls 10 [(0, .ref (x_ad G 103)), (6, .int a6), (7, .int a7), (8, .int a8)] → W p l e rm_D_turnRound s m args below meth c H locs 0 0 (MQ below (va_Qv (fun u => r = () ∧ z9 = u) (x_PW G) (x_A G)) args s 0 0 (x_A G)) (F0 m 160 ls []) := by
  obtain ⟨hx, hb, hr, hml, hown, hts, hlocks, hz, hK, hG⟩ := id C0
  intro a6 a7 a8 z0 hf H locs ls hP hD hS hl
  rw [f_D_turnRound_160] at hf
  refine lv_aload_n hx hb d_D_turnRound_160 rfl (lv_at hl 0 rfl) ?_
  refine va_get (D := x_D G) (ci := 4) (v := .ref (x_ad G 106)) (C := "ContentLibrary$Digester") (T := x_TD) (N := 3) hx hb hts x_inD hown hK hP 103 (x_lk_D G _) rfl 2 (by decide) (hts _ t_122) (fun _ h9 => h9) rfl d_D_turnRound_161 ?_
  refine lv_iconst (v := (4 : Int32)) hx hb d_D_turnRound_164 (by decide) ?_
  refine lv_dup2_11 hx hb d_D_turnRound_165 rfl rfl ?_
  obtain ⟨hin1, hf⟩ := x_ck_some hf
  refine va_iald hx hb hK hP 106 0 (x_lk_A G _ rfl) rfl hin1 d_D_turnRound_166 ?_
  refine lv_iload hx hb d_D_turnRound_167 (lv_at hl 1 rfl) ?_
  refine lv_iadd hx hb d_D_turnRound_169 ?_
  obtain ⟨hin2, hf⟩ := x_ck_some hf
  refine va_iast hx hb hK hP hD hS 106 0 (x_lk_A G _ rfl) rfl hin2 d_D_turnRound_170 (fun H locs hP hD hS => ?_)
  rw [x_st_A G _ (k := 106) rfl] at hP hD
  refine lv_aload_n hx hb d_D_turnRound_171 rfl (lv_at hl 0 rfl) ?_
  refine va_get (D := x_D G) (ci := 4) (v := .ref (x_ad G 106)) (C := "ContentLibrary$Digester") (T := x_TD) (N := 3) hx hb hts x_inD hown hK hP 103 (x_lk_D G _) rfl 2 (by decide) (hts _ t_122) (fun _ h9 => h9) rfl d_D_turnRound_172 ?_
  refine lv_iconst (v := (0 : Int32)) hx hb d_D_turnRound_175 (by decide) ?_
  refine lv_iload hx hb d_D_turnRound_176 (lv_at hl 1 rfl) ?_
  refine lv_iload hx hb d_D_turnRound_178 (lv_at hl 2 rfl) ?_
  refine lv_iadd hx hb d_D_turnRound_180 ?_
  refine lv_iload hx hb d_D_turnRound_181 (lv_at hl 3 rfl) ?_
  refine lv_iadd hx hb d_D_turnRound_183 ?_
  obtain ⟨hin3, hf⟩ := x_ck_some hf
  refine va_iast hx hb hK hP hD hS 106 0 (x_lk_A G _ rfl) rfl hin3 d_D_turnRound_184 (fun H locs hP hD hS => ?_)
  rw [x_st_A G _ (k := 106) rfl] at hP hD
  obtain ⟨rfl, rfl⟩ := x_ret hf
  exact W.vret hx hb hr (fun t ht hW => ⟨⟨_, rfl, ⟨rfl, rfl⟩, x_pw hP hD hK hG hS hz ht hW.alike⟩, hS.F ht⟩) hS.2.2 d_D_turnRound_185
set_option maxHeartbeats 4000000 in
set_option maxRecDepth 100000 in
theorem w_D_turnRound_133 (l : Launch) (G : x_G) {p : Program} {e : Env} {s : State} {m : MethodId} {args : Array Value} {below : List Frame} {meth : Method} {c : Code} (C0 : x_Ctx G p s m args meth c prog_3_method_6_code "ContentLibrary$Digester" 10 none) (r : Unit) (z9 : x_St) : ∀ (fu : Nat), ∀ (a6 : Int32) (a7 : Int32) (a8 : Int32) (a9 : Int32) (z0 : x_St), f_D_turnRound_133 (x_n G) fu a6 a7 a8 a9 z0 = some (r, z9) → ∀ (H : Heap) (locs : List Loc) (ls : Array Slot), va_P (x_D G) vwCl (x_Wd G z0) H → va_D (x_A G) (x_Wd G z0) → va_S (x_A G) s.heap H locs → lv_has ls 10 [(0, .ref (x_ad G 103)), (6, .int a6), (7, .int a7), (8, .int a8), (9, .int a9)] → W p l e rm_D_turnRound s m args below meth c H locs 0 0 (MQ below (va_Qv (fun u => r = () ∧ z9 = u) (x_PW G) (x_A G)) args s 0 0 (x_A G)) (F0 m 133 ls []) := by
  obtain ⟨hx, hb, hr, hml, hown, hts, hlocks, hz, hK, hG⟩ := id C0
  intro fu
  induction fu with
  | zero =>
    intro a6 a7 a8 a9 z0 hf
    rw [f_D_turnRound_133] at hf
    cases hf
  | succ fu ih =>
    intro a6 a7 a8 a9 z0 hf H locs ls hP hD hS hl
    rw [f_D_turnRound_133] at hf
    refine lv_iload hx hb d_D_turnRound_133 (lv_at hl 4 rfl) ?_
    refine lv_if_le (tgt := 160) hx hb d_D_turnRound_135 (by decide) (fun hc4 => ?_) (fun hc4 => ?_)
    · have hf := x_br_t hf hc4
      exact w_D_turnRound_160 l G C0 r z9 a6 a7 a8 z0 hf _ _ _ hP hD hS (lv_sub hl [0, 1, 2, 3] rfl)
    · have hf := x_br_f hf hc4
      refine lv_aload_n hx hb d_D_turnRound_138 rfl (lv_at hl 0 rfl) ?_
      refine va_get (D := x_D G) (ci := 4) (v := .ref (x_ad G 106)) (C := "ContentLibrary$Digester") (T := x_TD) (N := 3) hx hb hts x_inD hown hK hP 103 (x_lk_D G _) rfl 2 (by decide) (hts _ t_122) (fun _ h9 => h9) rfl d_D_turnRound_139 ?_
      refine lv_iload hx hb d_D_turnRound_142 (lv_at hl 4 rfl) ?_
      refine lv_aload_n hx hb d_D_turnRound_144 rfl (lv_at hl 0 rfl) ?_
      refine va_get (D := x_D G) (ci := 4) (v := .ref (x_ad G 106)) (C := "ContentLibrary$Digester") (T := x_TD) (N := 3) hx hb hts x_inD hown hK hP 103 (x_lk_D G _) rfl 2 (by decide) (hts _ t_122) (fun _ h9 => h9) rfl d_D_turnRound_145 ?_
      refine lv_iload hx hb d_D_turnRound_148 (lv_at hl 4 rfl) ?_
      refine lv_iconst (v := (1 : Int32)) hx hb d_D_turnRound_150 (by decide) ?_
      refine lv_isub hx hb d_D_turnRound_151 ?_
      obtain ⟨hin5, hf⟩ := x_ck_some hf
      refine va_iald hx hb hK hP 106 0 (x_lk_A G _ rfl) rfl hin5 d_D_turnRound_152 ?_
      obtain ⟨hin6, hf⟩ := x_ck_some hf
      refine va_iast hx hb hK hP hD hS 106 0 (x_lk_A G _ rfl) rfl hin6 d_D_turnRound_153 (fun H locs hP hD hS => ?_)
      rw [x_st_A G _ (k := 106) rfl] at hP hD
      refine lv_iinc (v := (a9 + (-1 : Int32))) (lv' := [(9, .int (a9 + (-1 : Int32))), (0, .ref (x_ad G 103)), (6, .int a6), (7, .int a7), (8, .int a8)]) hx hb d_D_turnRound_154 hl (k := 4) rfl rfl (by decide) rfl (fun ls hl => ?_)
      refine lv_goto (tgt := 133) hx hb d_D_turnRound_157 (by decide) ?_
      exact ih a6 a7 a8 (a9 + (-1 : Int32)) (x_put z0 106 (a9).toNatClampNeg (z0.1 106 ((a9 - (1 : Int32))).toNatClampNeg)) hf _ _ _ hP hD hS (lv_sub hl [1, 2, 3, 4, 0] rfl)
set_option maxHeartbeats 4000000 in
set_option maxRecDepth 100000 in
theorem c_D_turnRound (l : Launch) (G : x_G) (p1 : Int32) (z0 : x_St) (r : Unit) (z9 : x_St) (hf : f_D_turnRound (x_n G) p1 z0 = some (r, z9)) : Met l (⟨"ContentLibrary$Digester", "turnRound", "(I)V"⟩ : MethodName) (x_ws (⟨"ContentLibrary$Digester", "turnRound", "(I)V"⟩ : MethodName) prog_3_method_6_code 10 none) rm_D_turnRound (va_Pc [.ref (x_ad G 103), .int p1] (x_PW G z0)) (va_Qv (fun u => r = () ∧ z9 = u) (x_PW G) (x_A G)) 0 0 (x_A G) := by
  refine Met.ofW (cc := prog_3_method_6_code) (maxL := 10) (ret := none) (by decide) rfl ?_
  intro p e s m args below meth c s₁ B hml hv
  obtain ⟨rfl, hz, hP, hD, hK, hG⟩ := hv
  have C0 : x_Ctx G p s m _ meth c prog_3_method_6_code "ContentLibrary$Digester" 10 none := ⟨B.exec, B.bytes, B.returns, hml, findClass_of_methodNamed B.named, fun w h => atoms_spec (ws := (x_ws (⟨"ContentLibrary$Digester", "turnRound", "(I)V"⟩ : MethodName) prog_3_method_6_code 10 none)) B.pre w (List.mem_cons_of_mem _ h), B.notSynchronized, hz, hK, hG⟩
  obtain ⟨hx, hb, hr, hml, hown, hts, hlocks, hz, hK, hG⟩ := id C0
  have hS : va_S (x_A G) s.heap s.heap [] := va_S.rf
  have hl := lv_entry ([.ref (x_ad G 103), .int p1]) (n := 10) (Nat.le_of_ble_eq_true rfl)
  rw [lg_entry_eq]
  generalize (lg_sl ([.ref (x_ad G 103), .int p1]) ++ List.replicate (10 - (lg_sl ([.ref (x_ad G 103), .int p1])).length) Slot.unset).toArray = ls at hl ⊢
  have hl : lv_has ls 10 [(0, .ref (x_ad G 103)), (1, .int p1)] := hl
  rw [f_D_turnRound] at hf
  refine lv_aload_n hx hb d_D_turnRound_0 rfl (lv_at hl 0 rfl) ?_
  refine va_get (D := x_D G) (ci := 4) (v := .ref (x_ad G 106)) (C := "ContentLibrary$Digester") (T := x_TD) (N := 3) hx hb hts x_inD hown hK hP 103 (x_lk_D G _) rfl 2 (by decide) (hts _ t_122) (fun _ h9 => h9) rfl d_D_turnRound_1 ?_
  refine lv_iconst (v := (0 : Int32)) hx hb d_D_turnRound_4 (by decide) ?_
  obtain ⟨hin7, hf⟩ := x_ck_some hf
  refine va_iald hx hb hK hP 106 0 (x_lk_A G _ rfl) rfl hin7 d_D_turnRound_5 ?_
  refine lv_istore_n (lv' := [(2, .int (z0.1 106 ((0 : Int32)).toNatClampNeg)), (0, .ref (x_ad G 103)), (1, .int p1)]) hx hb d_D_turnRound_6 rfl hl (by decide) rfl (fun ls hl => ?_)
  refine lv_aload_n hx hb d_D_turnRound_7 rfl (lv_at hl 1 rfl) ?_
  refine va_get (D := x_D G) (ci := 4) (v := .ref (x_ad G 106)) (C := "ContentLibrary$Digester") (T := x_TD) (N := 3) hx hb hts x_inD hown hK hP 103 (x_lk_D G _) rfl 2 (by decide) (hts _ t_122) (fun _ h9 => h9) rfl d_D_turnRound_8 ?_
  refine lv_iconst (v := (4 : Int32)) hx hb d_D_turnRound_11 (by decide) ?_
  obtain ⟨hin8, hf⟩ := x_ck_some hf
  refine va_iald hx hb hK hP 106 0 (x_lk_A G _ rfl) rfl hin8 d_D_turnRound_12 ?_
  refine lv_istore_n (lv' := [(3, .int (z0.1 106 ((4 : Int32)).toNatClampNeg)), (2, .int (z0.1 106 ((0 : Int32)).toNatClampNeg)), (0, .ref (x_ad G 103)), (1, .int p1)]) hx hb d_D_turnRound_13 rfl hl (by decide) rfl (fun ls hl => ?_)
  refine lv_iload_n hx hb d_D_turnRound_14 rfl (lv_at hl 0 rfl) ?_
  refine lv_bipush (v := (6 : Int32)) hx hb d_D_turnRound_15 (by decide) ?_
  obtain ⟨r9, z9, hq10, hf⟩ := x_cl_some hf
  refine va_calli (va_runS (As := [.int (z0.1 106 ((4 : Int32)).toNatClampNeg), .int (6 : Int32)]) (rest := []) ⟨hx, hb, hml, hown, hts⟩ (c_Integer_rotateRight l G (z0.1 106 ((4 : Int32)).toNatClampNeg) (6 : Int32) z0 r9 z9 hq10) (va_cwS 2 hts (x_gS t_260 t_261 t_17 t_262) rfl rfl rfl (by decide +kernel) ⟨Nat.le_of_ble_eq_true rfl, Nat.le_of_ble_eq_true rfl⟩) ⟨x_blind _ _ _, fun U hU hW => ⟨rfl, x_pw hP hD hK hG hS hz hU hW.alike⟩⟩ rfl rfl hl.1 rfl (lv_room (Nat.le_of_ble_eq_true rfl)) d_D_turnRound_17 ⟨Nat.le_of_ble_eq_true rfl, Nat.le_of_ble_eq_true rfl⟩) hS (fun q _ h => h) (fun q h => h) (fun ra u t H locs ht hvm hw hB hz1 hk1 hS => ?_)
  obtain ⟨rfl, rfl⟩ := hw
  obtain ⟨hP, hD⟩ := x_back hB ht
  refine lv_iload_n hx hb d_D_turnRound_20 rfl (lv_at hl 0 rfl) ?_
  refine lv_bipush (v := (11 : Int32)) hx hb d_D_turnRound_21 (by decide) ?_
  obtain ⟨r11, z11, hq12, hf⟩ := x_cl_some hf
  refine va_calli (va_runS (As := [.int (z0.1 106 ((4 : Int32)).toNatClampNeg), .int (11 : Int32)]) (rest := [.int r9]) ⟨hx, hb, hml, hown, hts⟩ (c_Integer_rotateRight l G (z0.1 106 ((4 : Int32)).toNatClampNeg) (11 : Int32) z9 r11 z11 hq12) (va_cwS 2 hts (x_gS t_260 t_261 t_17 t_262) rfl rfl rfl (by decide +kernel) ⟨Nat.le_of_ble_eq_true rfl, Nat.le_of_ble_eq_true rfl⟩) ⟨x_blind _ _ _, fun U hU hW => ⟨rfl, x_pw hP hD hK hG hS hz hU hW.alike⟩⟩ rfl rfl hl.1 rfl (lv_room (Nat.le_of_ble_eq_true rfl)) d_D_turnRound_23 ⟨Nat.le_of_ble_eq_true rfl, Nat.le_of_ble_eq_true rfl⟩) hS (fun q _ h => h) (fun q h => h) (fun ra u t H locs ht hvm hw hB hz1 hk1 hS => ?_)
  obtain ⟨rfl, rfl⟩ := hw
  obtain ⟨hP, hD⟩ := x_back hB ht
  refine lv_ixor hx hb d_D_turnRound_26 ?_
  refine lv_iload_n hx hb d_D_turnRound_27 rfl (lv_at hl 0 rfl) ?_
  refine lv_bipush (v := (25 : Int32)) hx hb d_D_turnRound_28 (by decide) ?_
  obtain ⟨r13, z13, hq14, hf⟩ := x_cl_some hf
  refine va_calli (va_runS (As := [.int (z0.1 106 ((4 : Int32)).toNatClampNeg), .int (25 : Int32)]) (rest := [.int (r9 ^^^ r11)]) ⟨hx, hb, hml, hown, hts⟩ (c_Integer_rotateRight l G (z0.1 106 ((4 : Int32)).toNatClampNeg) (25 : Int32) z11 r13 z13 hq14) (va_cwS 2 hts (x_gS t_260 t_261 t_17 t_262) rfl rfl rfl (by decide +kernel) ⟨Nat.le_of_ble_eq_true rfl, Nat.le_of_ble_eq_true rfl⟩) ⟨x_blind _ _ _, fun U hU hW => ⟨rfl, x_pw hP hD hK hG hS hz hU hW.alike⟩⟩ rfl rfl hl.1 rfl (lv_room (Nat.le_of_ble_eq_true rfl)) d_D_turnRound_30 ⟨Nat.le_of_ble_eq_true rfl, Nat.le_of_ble_eq_true rfl⟩) hS (fun q _ h => h) (fun q h => h) (fun ra u t H locs ht hvm hw hB hz1 hk1 hS => ?_)
  obtain ⟨rfl, rfl⟩ := hw
  obtain ⟨hP, hD⟩ := x_back hB ht
  refine lv_ixor hx hb d_D_turnRound_33 ?_
  refine lv_istore (lv' := [(4, .int ((r9 ^^^ r11) ^^^ r13)), (3, .int (z0.1 106 ((4 : Int32)).toNatClampNeg)), (2, .int (z0.1 106 ((0 : Int32)).toNatClampNeg)), (0, .ref (x_ad G 103)), (1, .int p1)]) hx hb d_D_turnRound_34 hl (by decide) rfl (fun ls hl => ?_)
  refine lv_iload_n hx hb d_D_turnRound_36 rfl (lv_at hl 1 rfl) ?_
  refine lv_aload_n hx hb d_D_turnRound_37 rfl (lv_at hl 3 rfl) ?_
  refine va_get (D := x_D G) (ci := 4) (v := .ref (x_ad G 106)) (C := "ContentLibrary$Digester") (T := x_TD) (N := 3) hx hb hts x_inD hown hK hP 103 (x_lk_D G _) rfl 2 (by decide) (hts _ t_122) (fun _ h9 => h9) rfl d_D_turnRound_38 ?_
  refine lv_iconst (v := (5 : Int32)) hx hb d_D_turnRound_41 (by decide) ?_
  obtain ⟨hin15, hf⟩ := x_ck_some hf
  refine va_iald hx hb hK hP 106 0 (x_lk_A G _ rfl) rfl hin15 d_D_turnRound_42 ?_
  refine lv_iand hx hb d_D_turnRound_43 ?_
  refine lv_iload_n hx hb d_D_turnRound_44 rfl (lv_at hl 1 rfl) ?_
  refine lv_iconst (v := (-1 : Int32)) hx hb d_D_turnRound_45 (by decide) ?_
  refine lv_ixor hx hb d_D_turnRound_46 ?_
  refine lv_aload_n hx hb d_D_turnRound_47 rfl (lv_at hl 3 rfl) ?_
  refine va_get (D := x_D G) (ci := 4) (v := .ref (x_ad G 106)) (C := "ContentLibrary$Digester") (T := x_TD) (N := 3) hx hb hts x_inD hown hK hP 103 (x_lk_D G _) rfl 2 (by decide) (hts _ t_122) (fun _ h9 => h9) rfl d_D_turnRound_48 ?_
  refine lv_bipush (v := (6 : Int32)) hx hb d_D_turnRound_51 (by decide) ?_
  obtain ⟨hin16, hf⟩ := x_ck_some hf
  refine va_iald hx hb hK hP 106 0 (x_lk_A G _ rfl) rfl hin16 d_D_turnRound_53 ?_
  refine lv_iand hx hb d_D_turnRound_54 ?_
  refine lv_ixor hx hb d_D_turnRound_55 ?_
  refine lv_istore (lv' := [(5, .int (((z0.1 106 ((4 : Int32)).toNatClampNeg) &&& (z13.1 106 ((5 : Int32)).toNatClampNeg)) ^^^ (((z0.1 106 ((4 : Int32)).toNatClampNeg) ^^^ (-1 : Int32)) &&& (z13.1 106 ((6 : Int32)).toNatClampNeg)))), (4, .int ((r9 ^^^ r11) ^^^ r13)), (3, .int (z0.1 106 ((4 : Int32)).toNatClampNeg)), (2, .int (z0.1 106 ((0 : Int32)).toNatClampNeg)), (0, .ref (x_ad G 103)), (1, .int p1)]) hx hb d_D_turnRound_56 hl (by decide) rfl (fun ls hl => ?_)
  refine lv_aload_n hx hb d_D_turnRound_58 rfl (lv_at hl 4 rfl) ?_
  refine va_get (D := x_D G) (ci := 4) (v := .ref (x_ad G 106)) (C := "ContentLibrary$Digester") (T := x_TD) (N := 3) hx hb hts x_inD hown hK hP 103 (x_lk_D G _) rfl 2 (by decide) (hts _ t_122) (fun _ h9 => h9) rfl d_D_turnRound_59 ?_
  refine lv_bipush (v := (7 : Int32)) hx hb d_D_turnRound_62 (by decide) ?_
  obtain ⟨hin17, hf⟩ := x_ck_some hf
  refine va_iald hx hb hK hP 106 0 (x_lk_A G _ rfl) rfl hin17 d_D_turnRound_64 ?_
  refine lv_iload hx hb d_D_turnRound_65 (lv_at hl 1 rfl) ?_
  refine lv_iadd hx hb d_D_turnRound_67 ?_
  refine lv_iload hx hb d_D_turnRound_68 (lv_at hl 0 rfl) ?_
  refine lv_iadd hx hb d_D_turnRound_70 ?_
  refine lv_iload_n hx hb d_D_turnRound_71 rfl (lv_at hl 5 rfl) ?_
  refine lv_iadd hx hb d_D_turnRound_72 ?_
  refine lv_istore (lv' := [(6, .int ((((z13.1 106 ((7 : Int32)).toNatClampNeg) + ((r9 ^^^ r11) ^^^ r13)) + (((z0.1 106 ((4 : Int32)).toNatClampNeg) &&& (z13.1 106 ((5 : Int32)).toNatClampNeg)) ^^^ (((z0.1 106 ((4 : Int32)).toNatClampNeg) ^^^ (-1 : Int32)) &&& (z13.1 106 ((6 : Int32)).toNatClampNeg)))) + p1)), (5, .int (((z0.1 106 ((4 : Int32)).toNatClampNeg) &&& (z13.1 106 ((5 : Int32)).toNatClampNeg)) ^^^ (((z0.1 106 ((4 : Int32)).toNatClampNeg) ^^^ (-1 : Int32)) &&& (z13.1 106 ((6 : Int32)).toNatClampNeg)))), (4, .int ((r9 ^^^ r11) ^^^ r13)), (3, .int (z0.1 106 ((4 : Int32)).toNatClampNeg)), (2, .int (z0.1 106 ((0 : Int32)).toNatClampNeg)), (0, .ref (x_ad G 103)), (1, .int p1)]) hx hb d_D_turnRound_73 hl (by decide) rfl (fun ls hl => ?_)
  refine lv_iload_n hx hb d_D_turnRound_75 rfl (lv_at hl 4 rfl) ?_
  refine lv_iconst (v := (2 : Int32)) hx hb d_D_turnRound_76 (by decide) ?_
  obtain ⟨r18, z18, hq19, hf⟩ := x_cl_some hf
  refine va_calli (va_runS (As := [.int (z0.1 106 ((0 : Int32)).toNatClampNeg), .int (2 : Int32)]) (rest := []) ⟨hx, hb, hml, hown, hts⟩ (c_Integer_rotateRight l G (z0.1 106 ((0 : Int32)).toNatClampNeg) (2 : Int32) z13 r18 z18 hq19) (va_cwS 2 hts (x_gS t_260 t_261 t_17 t_262) rfl rfl rfl (by decide +kernel) ⟨Nat.le_of_ble_eq_true rfl, Nat.le_of_ble_eq_true rfl⟩) ⟨x_blind _ _ _, fun U hU hW => ⟨rfl, x_pw hP hD hK hG hS hz hU hW.alike⟩⟩ rfl rfl hl.1 rfl (lv_room (Nat.le_of_ble_eq_true rfl)) d_D_turnRound_77 ⟨Nat.le_of_ble_eq_true rfl, Nat.le_of_ble_eq_true rfl⟩) hS (fun q _ h => h) (fun q h => h) (fun ra u t H locs ht hvm hw hB hz1 hk1 hS => ?_)
  obtain ⟨rfl, rfl⟩ := hw
  obtain ⟨hP, hD⟩ := x_back hB ht
  refine lv_iload_n hx hb d_D_turnRound_80 rfl (lv_at hl 4 rfl) ?_
  refine lv_bipush (v := (13 : Int32)) hx hb d_D_turnRound_81 (by decide) ?_
  obtain ⟨r20, z20, hq21, hf⟩ := x_cl_some hf
  refine va_calli (va_runS (As := [.int (z0.1 106 ((0 : Int32)).toNatClampNeg), .int (13 : Int32)]) (rest := [.int r18]) ⟨hx, hb, hml, hown, hts⟩ (c_Integer_rotateRight l G (z0.1 106 ((0 : Int32)).toNatClampNeg) (13 : Int32) z18 r20 z20 hq21) (va_cwS 2 hts (x_gS t_260 t_261 t_17 t_262) rfl rfl rfl (by decide +kernel) ⟨Nat.le_of_ble_eq_true rfl, Nat.le_of_ble_eq_true rfl⟩) ⟨x_blind _ _ _, fun U hU hW => ⟨rfl, x_pw hP hD hK hG hS hz hU hW.alike⟩⟩ rfl rfl hl.1 rfl (lv_room (Nat.le_of_ble_eq_true rfl)) d_D_turnRound_83 ⟨Nat.le_of_ble_eq_true rfl, Nat.le_of_ble_eq_true rfl⟩) hS (fun q _ h => h) (fun q h => h) (fun ra u t H locs ht hvm hw hB hz1 hk1 hS => ?_)
  obtain ⟨rfl, rfl⟩ := hw
  obtain ⟨hP, hD⟩ := x_back hB ht
  refine lv_ixor hx hb d_D_turnRound_86 ?_
  refine lv_iload_n hx hb d_D_turnRound_87 rfl (lv_at hl 4 rfl) ?_
  refine lv_bipush (v := (22 : Int32)) hx hb d_D_turnRound_88 (by decide) ?_
  obtain ⟨r22, z22, hq23, hf⟩ := x_cl_some hf
  refine va_calli (va_runS (As := [.int (z0.1 106 ((0 : Int32)).toNatClampNeg), .int (22 : Int32)]) (rest := [.int (r18 ^^^ r20)]) ⟨hx, hb, hml, hown, hts⟩ (c_Integer_rotateRight l G (z0.1 106 ((0 : Int32)).toNatClampNeg) (22 : Int32) z20 r22 z22 hq23) (va_cwS 2 hts (x_gS t_260 t_261 t_17 t_262) rfl rfl rfl (by decide +kernel) ⟨Nat.le_of_ble_eq_true rfl, Nat.le_of_ble_eq_true rfl⟩) ⟨x_blind _ _ _, fun U hU hW => ⟨rfl, x_pw hP hD hK hG hS hz hU hW.alike⟩⟩ rfl rfl hl.1 rfl (lv_room (Nat.le_of_ble_eq_true rfl)) d_D_turnRound_90 ⟨Nat.le_of_ble_eq_true rfl, Nat.le_of_ble_eq_true rfl⟩) hS (fun q _ h => h) (fun q h => h) (fun ra u t H locs ht hvm hw hB hz1 hk1 hS => ?_)
  obtain ⟨rfl, rfl⟩ := hw
  obtain ⟨hP, hD⟩ := x_back hB ht
  refine lv_ixor hx hb d_D_turnRound_93 ?_
  refine lv_istore (lv' := [(7, .int ((r18 ^^^ r20) ^^^ r22)), (6, .int ((((z13.1 106 ((7 : Int32)).toNatClampNeg) + ((r9 ^^^ r11) ^^^ r13)) + (((z0.1 106 ((4 : Int32)).toNatClampNeg) &&& (z13.1 106 ((5 : Int32)).toNatClampNeg)) ^^^ (((z0.1 106 ((4 : Int32)).toNatClampNeg) ^^^ (-1 : Int32)) &&& (z13.1 106 ((6 : Int32)).toNatClampNeg)))) + p1)), (5, .int (((z0.1 106 ((4 : Int32)).toNatClampNeg) &&& (z13.1 106 ((5 : Int32)).toNatClampNeg)) ^^^ (((z0.1 106 ((4 : Int32)).toNatClampNeg) ^^^ (-1 : Int32)) &&& (z13.1 106 ((6 : Int32)).toNatClampNeg)))), (4, .int ((r9 ^^^ r11) ^^^ r13)), (3, .int (z0.1 106 ((4 : Int32)).toNatClampNeg)), (2, .int (z0.1 106 ((0 : Int32)).toNatClampNeg)), (0, .ref (x_ad G 103)), (1, .int p1)]) hx hb d_D_turnRound_94 hl (by decide) rfl (fun ls hl => ?_)
  refine lv_iload_n hx hb d_D_turnRound_96 rfl (lv_at hl 5 rfl) ?_
  refine lv_aload_n hx hb d_D_turnRound_97 rfl (lv_at hl 6 rfl) ?_
  refine va_get (D := x_D G) (ci := 4) (v := .ref (x_ad G 106)) (C := "ContentLibrary$Digester") (T := x_TD) (N := 3) hx hb hts x_inD hown hK hP 103 (x_lk_D G _) rfl 2 (by decide) (hts _ t_122) (fun _ h9 => h9) rfl d_D_turnRound_98 ?_
  refine lv_iconst (v := (1 : Int32)) hx hb d_D_turnRound_101 (by decide) ?_
  obtain ⟨hin24, hf⟩ := x_ck_some hf
  refine va_iald hx hb hK hP 106 0 (x_lk_A G _ rfl) rfl hin24 d_D_turnRound_102 ?_
  refine lv_iand hx hb d_D_turnRound_103 ?_
  refine lv_iload_n hx hb d_D_turnRound_104 rfl (lv_at hl 5 rfl) ?_
  refine lv_aload_n hx hb d_D_turnRound_105 rfl (lv_at hl 6 rfl) ?_
  refine va_get (D := x_D G) (ci := 4) (v := .ref (x_ad G 106)) (C := "ContentLibrary$Digester") (T := x_TD) (N := 3) hx hb hts x_inD hown hK hP 103 (x_lk_D G _) rfl 2 (by decide) (hts _ t_122) (fun _ h9 => h9) rfl d_D_turnRound_106 ?_
  refine lv_iconst (v := (2 : Int32)) hx hb d_D_turnRound_109 (by decide) ?_
  obtain ⟨hin25, hf⟩ := x_ck_some hf
  refine va_iald hx hb hK hP 106 0 (x_lk_A G _ rfl) rfl hin25 d_D_turnRound_110 ?_
  refine lv_iand hx hb d_D_turnRound_111 ?_
  refine lv_ixor hx hb d_D_turnRound_112 ?_
  refine lv_aload_n hx hb d_D_turnRound_113 rfl (lv_at hl 6 rfl) ?_
  refine va_get (D := x_D G) (ci := 4) (v := .ref (x_ad G 106)) (C := "ContentLibrary$Digester") (T := x_TD) (N := 3) hx hb hts x_inD hown hK hP 103 (x_lk_D G _) rfl 2 (by decide) (hts _ t_122) (fun _ h9 => h9) rfl d_D_turnRound_114 ?_
  refine lv_iconst (v := (1 : Int32)) hx hb d_D_turnRound_117 (by decide) ?_
  obtain ⟨hin26, hf⟩ := x_ck_some hf
  refine va_iald hx hb hK hP 106 0 (x_lk_A G _ rfl) rfl hin26 d_D_turnRound_118 ?_
  refine lv_aload_n hx hb d_D_turnRound_119 rfl (lv_at hl 6 rfl) ?_
  refine va_get (D := x_D G) (ci := 4) (v := .ref (x_ad G 106)) (C := "ContentLibrary$Digester") (T := x_TD) (N := 3) hx hb hts x_inD hown hK hP 103 (x_lk_D G _) rfl 2 (by decide) (hts _ t_122) (fun _ h9 => h9) rfl d_D_turnRound_120 ?_
  refine lv_iconst (v := (2 : Int32)) hx hb d_D_turnRound_123 (by decide) ?_
  obtain ⟨hin27, hf⟩ := x_ck_some hf
  refine va_iald hx hb hK hP 106 0 (x_lk_A G _ rfl) rfl hin27 d_D_turnRound_124 ?_
  refine lv_iand hx hb d_D_turnRound_125 ?_
  refine lv_ixor hx hb d_D_turnRound_126 ?_
  refine lv_istore (lv' := [(8, .int ((((z0.1 106 ((0 : Int32)).toNatClampNeg) &&& (z22.1 106 ((1 : Int32)).toNatClampNeg)) ^^^ ((z0.1 106 ((0 : Int32)).toNatClampNeg) &&& (z22.1 106 ((2 : Int32)).toNatClampNeg))) ^^^ ((z22.1 106 ((1 : Int32)).toNatClampNeg) &&& (z22.1 106 ((2 : Int32)).toNatClampNeg)))), (7, .int ((r18 ^^^ r20) ^^^ r22)), (6, .int ((((z13.1 106 ((7 : Int32)).toNatClampNeg) + ((r9 ^^^ r11) ^^^ r13)) + (((z0.1 106 ((4 : Int32)).toNatClampNeg) &&& (z13.1 106 ((5 : Int32)).toNatClampNeg)) ^^^ (((z0.1 106 ((4 : Int32)).toNatClampNeg) ^^^ (-1 : Int32)) &&& (z13.1 106 ((6 : Int32)).toNatClampNeg)))) + p1)), (5, .int (((z0.1 106 ((4 : Int32)).toNatClampNeg) &&& (z13.1 106 ((5 : Int32)).toNatClampNeg)) ^^^ (((z0.1 106 ((4 : Int32)).toNatClampNeg) ^^^ (-1 : Int32)) &&& (z13.1 106 ((6 : Int32)).toNatClampNeg)))), (4, .int ((r9 ^^^ r11) ^^^ r13)), (3, .int (z0.1 106 ((4 : Int32)).toNatClampNeg)), (2, .int (z0.1 106 ((0 : Int32)).toNatClampNeg)), (0, .ref (x_ad G 103)), (1, .int p1)]) hx hb d_D_turnRound_127 hl (by decide) rfl (fun ls hl => ?_)
  refine lv_bipush (v := (7 : Int32)) hx hb d_D_turnRound_129 (by decide) ?_
  refine lv_istore (lv' := [(9, .int (7 : Int32)), (8, .int ((((z0.1 106 ((0 : Int32)).toNatClampNeg) &&& (z22.1 106 ((1 : Int32)).toNatClampNeg)) ^^^ ((z0.1 106 ((0 : Int32)).toNatClampNeg) &&& (z22.1 106 ((2 : Int32)).toNatClampNeg))) ^^^ ((z22.1 106 ((1 : Int32)).toNatClampNeg) &&& (z22.1 106 ((2 : Int32)).toNatClampNeg)))), (7, .int ((r18 ^^^ r20) ^^^ r22)), (6, .int ((((z13.1 106 ((7 : Int32)).toNatClampNeg) + ((r9 ^^^ r11) ^^^ r13)) + (((z0.1 106 ((4 : Int32)).toNatClampNeg) &&& (z13.1 106 ((5 : Int32)).toNatClampNeg)) ^^^ (((z0.1 106 ((4 : Int32)).toNatClampNeg) ^^^ (-1 : Int32)) &&& (z13.1 106 ((6 : Int32)).toNatClampNeg)))) + p1)), (5, .int (((z0.1 106 ((4 : Int32)).toNatClampNeg) &&& (z13.1 106 ((5 : Int32)).toNatClampNeg)) ^^^ (((z0.1 106 ((4 : Int32)).toNatClampNeg) ^^^ (-1 : Int32)) &&& (z13.1 106 ((6 : Int32)).toNatClampNeg)))), (4, .int ((r9 ^^^ r11) ^^^ r13)), (3, .int (z0.1 106 ((4 : Int32)).toNatClampNeg)), (2, .int (z0.1 106 ((0 : Int32)).toNatClampNeg)), (0, .ref (x_ad G 103)), (1, .int p1)]) hx hb d_D_turnRound_131 hl (by decide) rfl (fun ls hl => ?_)
  exact w_D_turnRound_133 l G C0 r z9 x_FU ((((z13.1 106 ((7 : Int32)).toNatClampNeg) + ((r9 ^^^ r11) ^^^ r13)) + (((z0.1 106 ((4 : Int32)).toNatClampNeg) &&& (z13.1 106 ((5 : Int32)).toNatClampNeg)) ^^^ (((z0.1 106 ((4 : Int32)).toNatClampNeg) ^^^ (-1 : Int32)) &&& (z13.1 106 ((6 : Int32)).toNatClampNeg)))) + p1) ((r18 ^^^ r20) ^^^ r22) ((((z0.1 106 ((0 : Int32)).toNatClampNeg) &&& (z22.1 106 ((1 : Int32)).toNatClampNeg)) ^^^ ((z0.1 106 ((0 : Int32)).toNatClampNeg) &&& (z22.1 106 ((2 : Int32)).toNatClampNeg))) ^^^ ((z22.1 106 ((1 : Int32)).toNatClampNeg) &&& (z22.1 106 ((2 : Int32)).toNatClampNeg))) (7 : Int32) z22 hf _ _ _ hP hD hS (lv_sub hl [8, 3, 2, 1, 0] rfl)
abbrev rm_D_mix : Room := { frames := 2, cells := 0, slots := 0, locals := 60 }
set_option maxHeartbeats 4000000 in
set_option maxRecDepth 100000 in
theorem w_D_mix_44 (l : Launch) (G : x_G) {p : Program} {e : Env} {s : State} {m : MethodId} {args : Array Value} {below : List Frame} {meth : Method} {c : Code} (C0 : x_Ctx G p s m args meth c prog_3_method_5_code "ContentLibrary$Digester" 3 none) (r : Unit) (z9 : x_St) : ∀ (fu : Nat), ∀ (a1 : Nat) (ha1 : x_isA a1 = true) (a2 : Int32) (z0 : x_St), f_D_mix_44 (x_n G) fu a1 a2 z0 = some (r, z9) → ∀ (H : Heap) (locs : List Loc) (ls : Array Slot), va_P (x_D G) vwCl (x_Wd G z0) H → va_D (x_A G) (x_Wd G z0) → va_S (x_A G) s.heap H locs → lv_has ls 3 [(0, .ref (x_ad G 103)), (1, .ref (x_ad G a1)), (2, .int a2)] → W p l e rm_D_mix s m args below meth c H locs 0 0 (MQ below (va_Qv (fun u => r = () ∧ z9 = u) (x_PW G) (x_A G)) args s 0 0 (x_A G)) (F0 m 44 ls []) := by
  obtain ⟨hx, hb, hr, hml, hown, hts, hlocks, hz, hK, hG⟩ := id C0
  obtain ⟨tS, tR, hZS, hTS, hZR, hTR⟩ := id hG
  intro fu
  induction fu with
  | zero =>
    intro a1 ha1 a2 z0 hf
    rw [f_D_mix_44] at hf
    cases hf
  | succ fu ih =>
    intro a1 ha1 a2 z0 hf H locs ls hP hD hS hl
    rw [f_D_mix_44] at hf
    refine lv_iload_n hx hb d_D_mix_44 rfl (lv_at hl 2 rfl) ?_
    refine lv_bipush (v := (8 : Int32)) hx hb d_D_mix_45 (by decide) ?_
    refine lv_icmp_ge (tgt := 68) hx hb d_D_mix_47 (by decide) (fun hc1 => ?_) (fun hc1 => ?_)
    · have hf := x_br_t hf hc1
      obtain ⟨rfl, rfl⟩ := x_ret hf
      exact W.vret hx hb hr (fun t ht hW => ⟨⟨_, rfl, ⟨rfl, rfl⟩, x_pw hP hD hK hG hS hz ht hW.alike⟩, hS.F ht⟩) hS.2.2 d_D_mix_68
    · have hf := x_br_f hf hc1
      refine lv_aload_n hx hb d_D_mix_50 rfl (lv_at hl 1 rfl) ?_
      refine lv_iload_n hx hb d_D_mix_51 rfl (lv_at hl 2 rfl) ?_
      refine lv_dup2_11 hx hb d_D_mix_52 rfl rfl ?_
      obtain ⟨hin2, hf⟩ := x_ck_some hf
      refine va_iald hx hb hK hP a1 0 (x_lk_A G _ ha1) rfl hin2 d_D_mix_53 ?_
      refine lv_aload_n hx hb d_D_mix_54 rfl (lv_at hl 0 rfl) ?_
      refine va_get (D := x_D G) (ci := 4) (v := .ref (x_ad G 106)) (C := "ContentLibrary$Digester") (T := x_TD) (N := 3) hx hb hts x_inD hown hK hP 103 (x_lk_D G _) rfl 2 (by decide) (hts _ t_122) (fun _ h9 => h9) rfl d_D_mix_55 ?_
      refine lv_iload_n hx hb d_D_mix_58 rfl (lv_at hl 2 rfl) ?_
      obtain ⟨hin3, hf⟩ := x_ck_some hf
      refine va_iald hx hb hK hP 106 0 (x_lk_A G _ rfl) rfl hin3 d_D_mix_59 ?_
      refine lv_iadd hx hb d_D_mix_60 ?_
      obtain ⟨hin4, hf⟩ := x_ck_some hf
      refine va_iast hx hb hK hP hD hS a1 0 (x_lk_A G _ ha1) rfl hin4 d_D_mix_61 (fun H locs hP hD hS => ?_)
      rw [x_st_A G _ ha1] at hP hD
      refine lv_iinc (v := (a2 + (1 : Int32))) (lv' := [(2, .int (a2 + (1 : Int32))), (0, .ref (x_ad G 103)), (1, .ref (x_ad G a1))]) hx hb d_D_mix_62 hl (k := 2) rfl rfl (by decide) rfl (fun ls hl => ?_)
      refine lv_goto (tgt := 44) hx hb d_D_mix_65 (by decide) ?_
      exact ih a1 ha1 (a2 + (1 : Int32)) (x_put z0 a1 (a2).toNatClampNeg ((z0.1 a1 (a2).toNatClampNeg) + (z0.1 106 (a2).toNatClampNeg))) hf _ _ _ hP hD hS (lv_sub hl [1, 2, 0] rfl)
set_option maxHeartbeats 4000000 in
set_option maxRecDepth 100000 in
theorem w_D_mix_42 (l : Launch) (G : x_G) {p : Program} {e : Env} {s : State} {m : MethodId} {args : Array Value} {below : List Frame} {meth : Method} {c : Code} (C0 : x_Ctx G p s m args meth c prog_3_method_5_code "ContentLibrary$Digester" 3 none) (r : Unit) (z9 : x_St) : ∀ (a1 : Nat) (ha1 : x_isA a1 = true) (z0 : x_St), f_D_mix_42 (x_n G) a1 z0 = some (r, z9) → ∀ (H : Heap) (locs : List Loc) (ls : Array Slot), va_P (x_D G) vwCl (x_Wd G z0) H → va_D (x_A G) (x_Wd G z0) → va_S (x_A G) s.heap H locs → lv_has ls 3 [(0, .ref (x_ad G 103)), (1, .ref (x_ad G a1))] → W p l e rm_D_mix s m args below meth c H locs 0 0 (MQ below (va_Qv (fun u => r = () ∧ z9 = u) (x_PW G) (x_A G)) args s 0 0 (x_A G)) (F0 m 42 ls []) := by
  obtain ⟨hx, hb, hr, hml, hown, hts, hlocks, hz, hK, hG⟩ := id C0
  obtain ⟨tS, tR, hZS, hTS, hZR, hTR⟩ := id hG
  intro a1 ha1 z0 hf H locs ls hP hD hS hl
  rw [f_D_mix_42] at hf
  refine lv_iconst (v := (0 : Int32)) hx hb d_D_mix_42 (by decide) ?_
  refine lv_istore_n (lv' := [(2, .int (0 : Int32)), (0, .ref (x_ad G 103)), (1, .ref (x_ad G a1))]) hx hb d_D_mix_43 rfl hl (by decide) rfl (fun ls hl => ?_)
  exact w_D_mix_44 l G C0 r z9 x_FU a1 ha1 (0 : Int32) z0 hf _ _ _ hP hD hS (lv_sub hl [1, 2, 0] rfl)
set_option maxHeartbeats 4000000 in
set_option maxRecDepth 100000 in
theorem w_D_mix_14 (l : Launch) (G : x_G) {p : Program} {e : Env} {s : State} {m : MethodId} {args : Array Value} {below : List Frame} {meth : Method} {c : Code} (C0 : x_Ctx G p s m args meth c prog_3_method_5_code "ContentLibrary$Digester" 3 none) (r : Unit) (z9 : x_St) : ∀ (fu : Nat), ∀ (a1 : Nat) (ha1 : x_isA a1 = true) (a2 : Int32) (z0 : x_St), f_D_mix_14 (x_n G) fu a1 a2 z0 = some (r, z9) → ∀ (H : Heap) (locs : List Loc) (ls : Array Slot), va_P (x_D G) vwCl (x_Wd G z0) H → va_D (x_A G) (x_Wd G z0) → va_S (x_A G) s.heap H locs → lv_has ls 3 [(0, .ref (x_ad G 103)), (1, .ref (x_ad G a1)), (2, .int a2)] → W p l e rm_D_mix s m args below meth c H locs 0 0 (MQ below (va_Qv (fun u => r = () ∧ z9 = u) (x_PW G) (x_A G)) args s 0 0 (x_A G)) (F0 m 14 ls []) := by
  obtain ⟨hx, hb, hr, hml, hown, hts, hlocks, hz, hK, hG⟩ := id C0
  obtain ⟨tS, tR, hZS, hTS, hZR, hTR⟩ := id hG
  intro fu
  induction fu with
  | zero =>
    intro a1 ha1 a2 z0 hf
    rw [f_D_mix_14] at hf
    cases hf
  | succ fu ih =>
    intro a1 ha1 a2 z0 hf H locs ls hP hD hS hl
    rw [f_D_mix_14] at hf
    refine lv_iload_n hx hb d_D_mix_14 rfl (lv_at hl 2 rfl) ?_
    refine lv_bipush (v := (64 : Int32)) hx hb d_D_mix_15 (by decide) ?_
    refine lv_icmp_ge (tgt := 42) hx hb d_D_mix_17 (by decide) (fun hc5 => ?_) (fun hc5 => ?_)
    · have hf := x_br_t hf hc5
      exact w_D_mix_42 l G C0 r z9 a1 ha1 z0 hf _ _ _ hP hD hS (lv_sub hl [0, 1] rfl)
    · have hf := x_br_f hf hc5
      refine lv_aload_n hx hb d_D_mix_20 rfl (lv_at hl 0 rfl) ?_
      refine va_gets hx hb hZR hS hown (hts _ t_267) (fun _ h9 => h9) d_D_mix_21 ?_
      refine lv_iload_n hx hb d_D_mix_24 rfl (lv_at hl 2 rfl) ?_
      obtain ⟨hin, hf⟩ := x_ck_some hf
      refine va_ti hx hb hTR hS hin (v := .int (x_ROUND (a2).toNatClampNeg)) rfl d_D_mix_25 ?_
      refine lv_aload_n hx hb d_D_mix_26 rfl (lv_at hl 0 rfl) ?_
      refine va_get (D := x_D G) (ci := 4) (v := .ref (x_ad G 105)) (C := "ContentLibrary$Digester") (T := x_TD) (N := 3) hx hb hts x_inD hown hK hP 103 (x_lk_D G _) rfl 1 (by decide) (hts _ t_121) (fun _ h9 => h9) rfl d_D_mix_27 ?_
      refine lv_iload_n hx hb d_D_mix_30 rfl (lv_at hl 2 rfl) ?_
      obtain ⟨hin6, hf⟩ := x_ck_some hf
      refine va_iald hx hb hK hP 105 0 (x_lk_A G _ rfl) rfl hin6 d_D_mix_31 ?_
      refine lv_iadd hx hb d_D_mix_32 ?_
      obtain ⟨r7, z7, hq8, hf⟩ := x_cl_some hf
      refine va_callv (va_runV (As := [.int ((x_ROUND (a2).toNatClampNeg) + (z0.1 105 (a2).toNatClampNeg))]) (rest := []) ⟨hx, hb, hml, hown, hts⟩ (c_D_turnRound l G ((x_ROUND (a2).toNatClampNeg) + (z0.1 105 (a2).toNatClampNeg)) z0 r7 z7 hq8) (cwV 1 hts (x_gV t_269 t_271 sel_ContentLibrary_Digester_turnRound t_6 t_272) rfl rfl rfl (by decide +kernel) ⟨Nat.le_of_ble_eq_true rfl, Nat.le_of_ble_eq_true rfl⟩) ⟨x_blind _ _ _, va_recv hK hP (ci := 4) (q0 := 103) rfl (x_lk_D G _), fun U hU hW => ⟨rfl, x_pw hP hD hK hG hS hz hU hW.alike⟩⟩ rfl rfl hl.1 rfl (lv_room (Nat.le_of_ble_eq_true rfl)) d_D_mix_33 ⟨Nat.le_of_ble_eq_true rfl, Nat.le_of_ble_eq_true rfl⟩) hS (fun q _ h => h) (fun q h => h) (fun u t H locs ht hvm hw hB hz1 hk1 hS => ?_)
      obtain ⟨rfl, rfl⟩ := hw
      obtain ⟨hP, hD⟩ := x_back hB ht
      refine lv_iinc (v := (a2 + (1 : Int32))) (lv' := [(2, .int (a2 + (1 : Int32))), (0, .ref (x_ad G 103)), (1, .ref (x_ad G a1))]) hx hb d_D_mix_36 hl (k := 2) rfl rfl (by decide) rfl (fun ls hl => ?_)
      refine lv_goto (tgt := 14) hx hb d_D_mix_39 (by decide) ?_
      exact ih a1 ha1 (a2 + (1 : Int32)) z7 hf _ _ _ hP hD hS (lv_sub hl [1, 2, 0] rfl)
set_option maxHeartbeats 4000000 in
set_option maxRecDepth 100000 in
theorem c_D_mix (l : Launch) (G : x_G) (k1 : Nat) (hk1 : x_isA k1 = true) (z0 : x_St) (r : Unit) (z9 : x_St) (hf : f_D_mix (x_n G) k1 z0 = some (r, z9)) : Met l (⟨"ContentLibrary$Digester", "mix", "([I)V"⟩ : MethodName) (x_ws (⟨"ContentLibrary$Digester", "mix", "([I)V"⟩ : MethodName) prog_3_method_5_code 3 none) rm_D_mix (va_Pc [.ref (x_ad G 103), .ref (x_ad G k1)] (x_PW G z0)) (va_Qv (fun u => r = () ∧ z9 = u) (x_PW G) (x_A G)) 0 0 (x_A G) := by
  refine Met.ofW (cc := prog_3_method_5_code) (maxL := 3) (ret := none) (by decide) rfl ?_
  intro p e s m args below meth c s₁ B hml hv
  obtain ⟨rfl, hz, hP, hD, hK, hG⟩ := hv
  have C0 : x_Ctx G p s m _ meth c prog_3_method_5_code "ContentLibrary$Digester" 3 none := ⟨B.exec, B.bytes, B.returns, hml, findClass_of_methodNamed B.named, fun w h => atoms_spec (ws := (x_ws (⟨"ContentLibrary$Digester", "mix", "([I)V"⟩ : MethodName) prog_3_method_5_code 3 none)) B.pre w (List.mem_cons_of_mem _ h), B.notSynchronized, hz, hK, hG⟩
  obtain ⟨hx, hb, hr, hml, hown, hts, hlocks, hz, hK, hG⟩ := id C0
  have hS : va_S (x_A G) s.heap s.heap [] := va_S.rf
  obtain ⟨tS, tR, hZS, hTS, hZR, hTR⟩ := id hG
  have hl := lv_entry ([.ref (x_ad G 103), .ref (x_ad G k1)]) (n := 3) (Nat.le_of_ble_eq_true rfl)
  rw [lg_entry_eq]
  generalize (lg_sl ([.ref (x_ad G 103), .ref (x_ad G k1)]) ++ List.replicate (3 - (lg_sl ([.ref (x_ad G 103), .ref (x_ad G k1)])).length) Slot.unset).toArray = ls at hl ⊢
  have hl : lv_has ls 3 [(0, .ref (x_ad G 103)), (1, .ref (x_ad G k1))] := hl
  rw [f_D_mix] at hf
  refine lv_aload_n hx hb d_D_mix_0 rfl (lv_at hl 1 rfl) ?_
  refine lv_iconst (v := (0 : Int32)) hx hb d_D_mix_1 (by decide) ?_
  refine lv_aload_n hx hb d_D_mix_2 rfl (lv_at hl 0 rfl) ?_
  refine va_get (D := x_D G) (ci := 4) (v := .ref (x_ad G 106)) (C := "ContentLibrary$Digester") (T := x_TD) (N := 3) hx hb hts x_inD hown hK hP 103 (x_lk_D G _) rfl 2 (by decide) (hts _ t_122) (fun _ h9 => h9) rfl d_D_mix_3 ?_
  refine lv_iconst (v := (0 : Int32)) hx hb d_D_mix_6 (by decide) ?_
  refine lv_bipush (v := (8 : Int32)) hx hb d_D_mix_7 (by decide) ?_
  obtain ⟨hc1, hc2, hc3, hc4, hc5, hf⟩ := x_ckc_some hf
  refine va_copyi hx hb (hml.trans hl.1.symm) hown (hts _ t_253) (hts _ t_214) (hts _ t_213) (hts _ t_16) hK hP hD hS k1 106 0 0 (x_lk_A G _ hk1) (x_lk_A G _ rfl) rfl rfl rfl hc1 hc2 hc3 hc4 hc5 (fun _ _ => rfl) (Nat.le_of_ble_eq_true rfl) (Nat.le_of_ble_eq_true rfl) d_D_mix_9 (fun H locs hP hD hS => ?_)
  rw [x_cp_A G _ _ _ _ _ (k2 := 106) rfl] at hP hD
  refine lv_iconst (v := (0 : Int32)) hx hb d_D_mix_12 (by decide) ?_
  refine lv_istore_n (lv' := [(2, .int (0 : Int32)), (0, .ref (x_ad G 103)), (1, .ref (x_ad G k1))]) hx hb d_D_mix_13 rfl hl (by decide) rfl (fun ls hl => ?_)
  exact w_D_mix_14 l G C0 r z9 x_FU k1 hk1 (0 : Int32) (x_cpy z0 k1 ((0 : Int32)).toNatClampNeg 106 ((0 : Int32)).toNatClampNeg ((8 : Int32)).toNatClampNeg) hf _ _ _ hP hD hS (lv_sub hl [1, 2, 0] rfl)
abbrev rm_D_work : Room := { frames := 3, cells := 0, slots := 0, locals := 84 }
set_option maxHeartbeats 4000000 in
set_option maxRecDepth 100000 in
theorem w_D_work_22 (l : Launch) (G : x_G) {p : Program} {e : Env} {s : State} {m : MethodId} {args : Array Value} {below : List Frame} {meth : Method} {c : Code} (C0 : x_Ctx G p s m args meth c prog_3_method_2_code "ContentLibrary$Digester" 6 none) (r : Unit) (z9 : x_St) : ∀ (fu : Nat), ∀ (a3 : Nat) (ha3 : x_isA a3 = true) (a4 : Int32) (a5 : Int32) (z0 : x_St), f_D_work_22 (x_n G) fu a3 a4 a5 z0 = some (r, z9) → ∀ (H : Heap) (locs : List Loc) (ls : Array Slot), va_P (x_D G) vwCl (x_Wd G z0) H → va_D (x_A G) (x_Wd G z0) → va_S (x_A G) s.heap H locs → lv_has ls 6 [(0, .ref (x_ad G 103)), (3, .ref (x_ad G a3)), (4, .int a4), (5, .int a5)] → W p l e rm_D_work s m args below meth c H locs 0 0 (MQ below (va_Qv (fun u => r = () ∧ z9 = u) (x_PW G) (x_A G)) args s 0 0 (x_A G)) (F0 m 22 ls []) := by
  obtain ⟨hx, hb, hr, hml, hown, hts, hlocks, hz, hK, hG⟩ := id C0
  obtain ⟨tS, tR, hZS, hTS, hZR, hTR⟩ := id hG
  intro fu
  induction fu with
  | zero =>
    intro a3 ha3 a4 a5 z0 hf
    rw [f_D_work_22] at hf
    cases hf
  | succ fu ih =>
    intro a3 ha3 a4 a5 z0 hf H locs ls hP hD hS hl
    rw [f_D_work_22] at hf
    refine lv_iload hx hb d_D_work_22 (lv_at hl 3 rfl) ?_
    refine lv_iload hx hb d_D_work_24 (lv_at hl 2 rfl) ?_
    refine lv_icmp_ge (tgt := 46) hx hb d_D_work_26 (by decide) (fun hc1 => ?_) (fun hc1 => ?_)
    · have hf := x_br_t hf hc1
      obtain ⟨rfl, rfl⟩ := x_ret hf
      exact W.vret hx hb hr (fun t ht hW => ⟨⟨_, rfl, ⟨rfl, rfl⟩, x_pw hP hD hK hG hS hz ht hW.alike⟩, hS.F ht⟩) hS.2.2 d_D_work_46
    · have hf := x_br_f hf hc1
      refine lv_aload_n hx hb d_D_work_29 rfl (lv_at hl 0 rfl) ?_
      refine lv_iload hx hb d_D_work_30 (lv_at hl 3 rfl) ?_
      obtain ⟨r2, z2, hq3, hf⟩ := x_cl_some hf
      refine va_callv (va_runV (As := [.int a5]) (rest := []) ⟨hx, hb, hml, hown, hts⟩ (c_D_prepare l G a5 z0 r2 z2 hq3) (cwV 1 hts (x_gV t_256 t_258 sel_ContentLibrary_Digester_prepare t_6 t_259) rfl rfl rfl (by decide +kernel) ⟨Nat.le_of_ble_eq_true rfl, Nat.le_of_ble_eq_true rfl⟩) ⟨x_blind _ _ _, va_recv hK hP (ci := 4) (q0 := 103) rfl (x_lk_D G _), fun U hU hW => ⟨rfl, x_pw hP hD hK hG hS hz hU hW.alike⟩⟩ rfl rfl hl.1 rfl (lv_room (Nat.le_of_ble_eq_true rfl)) d_D_work_32 ⟨Nat.le_of_ble_eq_true rfl, Nat.le_of_ble_eq_true rfl⟩) hS (fun q _ h => h) (fun q h => h) (fun u t H locs ht hvm hw hB hz1 hk1 hS => ?_)
      obtain ⟨rfl, rfl⟩ := hw
      obtain ⟨hP, hD⟩ := x_back hB ht
      refine lv_aload_n hx hb d_D_work_35 rfl (lv_at hl 0 rfl) ?_
      refine lv_aload_n hx hb d_D_work_36 rfl (lv_at hl 1 rfl) ?_
      obtain ⟨r4, z4, hq5, hf⟩ := x_cl_some hf
      refine va_callv (va_runV (As := [.ref (x_ad G a3)]) (rest := []) ⟨hx, hb, hml, hown, hts⟩ (c_D_mix l G a3 ha3 z2 r4 z4 hq5) (cwV 1 hts (x_gV t_263 t_265 sel_ContentLibrary_Digester_mix t_6 t_266) rfl rfl rfl (by decide +kernel) ⟨Nat.le_of_ble_eq_true rfl, Nat.le_of_ble_eq_true rfl⟩) ⟨x_blind _ _ _, va_recv hK hP (ci := 4) (q0 := 103) rfl (x_lk_D G _), fun U hU hW => ⟨rfl, x_pw hP hD hK hG hS hz hU hW.alike⟩⟩ rfl rfl hl.1 rfl (lv_room (Nat.le_of_ble_eq_true rfl)) d_D_work_37 ⟨Nat.le_of_ble_eq_true rfl, Nat.le_of_ble_eq_true rfl⟩) hS (fun q _ h => h) (fun q h => h) (fun u t H locs ht hvm hw hB hz1 hk1 hS => ?_)
      obtain ⟨rfl, rfl⟩ := hw
      obtain ⟨hP, hD⟩ := x_back hB ht
      refine lv_iinc (v := (a5 + (64 : Int32))) (lv' := [(5, .int (a5 + (64 : Int32))), (0, .ref (x_ad G 103)), (3, .ref (x_ad G a3)), (4, .int a4)]) hx hb d_D_work_40 hl (k := 3) rfl rfl (by decide) rfl (fun ls hl => ?_)
      refine lv_goto (tgt := 22) hx hb d_D_work_43 (by decide) ?_
      exact ih a3 ha3 a4 (a5 + (64 : Int32)) z4 hf _ _ _ hP hD hS (lv_sub hl [1, 2, 3, 0] rfl)
set_option maxHeartbeats 4000000 in
set_option maxRecDepth 100000 in
theorem c_D_work (l : Launch) (G : x_G) (k1 : Nat) (hk1 : x_isA k1 = true) (p2 : Int32) (k3 : Nat) (hk3 : x_isA k3 = true) (z0 : x_St) (r : Unit) (z9 : x_St) (hf : f_D_work (x_n G) k1 p2 k3 z0 = some (r, z9)) : Met l (⟨"ContentLibrary$Digester", "work", "([II[I)V"⟩ : MethodName) (x_ws (⟨"ContentLibrary$Digester", "work", "([II[I)V"⟩ : MethodName) prog_3_method_2_code 6 none) rm_D_work (va_Pc [.ref (x_ad G 103), .ref (x_ad G k1), .int p2, .ref (x_ad G k3)] (x_PW G z0)) (va_Qv (fun u => r = () ∧ z9 = u) (x_PW G) (x_A G)) 0 0 (x_A G) := by
  refine Met.ofW (cc := prog_3_method_2_code) (maxL := 6) (ret := none) (by decide) rfl ?_
  intro p e s m args below meth c s₁ B hml hv
  obtain ⟨rfl, hz, hP, hD, hK, hG⟩ := hv
  have C0 : x_Ctx G p s m _ meth c prog_3_method_2_code "ContentLibrary$Digester" 6 none := ⟨B.exec, B.bytes, B.returns, hml, findClass_of_methodNamed B.named, fun w h => atoms_spec (ws := (x_ws (⟨"ContentLibrary$Digester", "work", "([II[I)V"⟩ : MethodName) prog_3_method_2_code 6 none)) B.pre w (List.mem_cons_of_mem _ h), B.notSynchronized, hz, hK, hG⟩
  obtain ⟨hx, hb, hr, hml, hown, hts, hlocks, hz, hK, hG⟩ := id C0
  have hS : va_S (x_A G) s.heap s.heap [] := va_S.rf
  obtain ⟨tS, tR, hZS, hTS, hZR, hTR⟩ := id hG
  have hl := lv_entry ([.ref (x_ad G 103), .ref (x_ad G k1), .int p2, .ref (x_ad G k3)]) (n := 6) (Nat.le_of_ble_eq_true rfl)
  rw [lg_entry_eq]
  generalize (lg_sl ([.ref (x_ad G 103), .ref (x_ad G k1), .int p2, .ref (x_ad G k3)]) ++ List.replicate (6 - (lg_sl ([.ref (x_ad G 103), .ref (x_ad G k1), .int p2, .ref (x_ad G k3)])).length) Slot.unset).toArray = ls at hl ⊢
  have hl : lv_has ls 6 [(0, .ref (x_ad G 103)), (1, .ref (x_ad G k1)), (2, .int p2), (3, .ref (x_ad G k3))] := hl
  rw [f_D_work] at hf
  refine lv_aload_n hx hb d_D_work_0 rfl (lv_at hl 0 rfl) ?_
  refine lv_aload_n hx hb d_D_work_1 rfl (lv_at hl 1 rfl) ?_
  refine lv_iload_n hx hb d_D_work_2 rfl (lv_at hl 2 rfl) ?_
  obtain ⟨r6, z6, hq7, hf⟩ := x_cl_some hf
  refine va_calli (va_runV (As := [.ref (x_ad G k1), .int p2]) (rest := []) ⟨hx, hb, hml, hown, hts⟩ (c_D_pad l G k1 hk1 p2 z0 r6 z6 hq7) (cwV 2 hts (x_gV t_246 t_248 sel_ContentLibrary_Digester_pad t_6 t_249) rfl rfl rfl (by decide +kernel) ⟨Nat.le_of_ble_eq_true rfl, Nat.le_of_ble_eq_true rfl⟩) ⟨x_blind _ _ _, va_recv hK hP (ci := 4) (q0 := 103) rfl (x_lk_D G _), fun U hU hW => ⟨rfl, x_pw hP hD hK hG hS hz hU hW.alike⟩⟩ rfl rfl hl.1 rfl (lv_room (Nat.le_of_ble_eq_true rfl)) d_D_work_3 ⟨Nat.le_of_ble_eq_true rfl, Nat.le_of_ble_eq_true rfl⟩) hS (fun q _ h => h) (fun q h => h) (fun ra u t H locs ht hvm hw hB hz1 hk1 hS => ?_)
  obtain ⟨rfl, rfl⟩ := hw
  obtain ⟨hP, hD⟩ := x_back hB ht
  refine lv_istore (lv' := [(4, .int r6), (0, .ref (x_ad G 103)), (1, .ref (x_ad G k1)), (2, .int p2), (3, .ref (x_ad G k3))]) hx hb d_D_work_6 hl (by decide) rfl (fun ls hl => ?_)
  refine va_gets hx hb hZS hS hown (hts _ t_254) (fun _ h9 => h9) d_D_work_8 ?_
  refine lv_iconst (v := (0 : Int32)) hx hb d_D_work_11 (by decide) ?_
  refine lv_aload_n hx hb d_D_work_12 rfl (lv_at hl 4 rfl) ?_
  refine lv_iconst (v := (0 : Int32)) hx hb d_D_work_13 (by decide) ?_
  refine lv_bipush (v := (8 : Int32)) hx hb d_D_work_14 (by decide) ?_
  obtain ⟨hc1, hc2, hc3, hc4, hc5, hf⟩ := x_ckc_some hf
  refine vt_copyi hx hb (hml.trans hl.1.symm) hown (hts _ t_253) (hts _ t_214) (hts _ t_213) (hts _ t_16) hK hP hD hS hTS k3 0 (x_lk_A G _ hk3) rfl rfl hc1 hc2 hc3 hc4 hc5 (fun _ _ => rfl) (Nat.le_of_ble_eq_true rfl) (Nat.le_of_ble_eq_true rfl) d_D_work_16 (fun H locs hP hD hS => ?_)
  rw [x_cpT_A G _ _ _ _ _ hk3] at hP hD
  refine lv_iconst (v := (0 : Int32)) hx hb d_D_work_19 (by decide) ?_
  refine lv_istore (lv' := [(5, .int (0 : Int32)), (4, .int r6), (0, .ref (x_ad G 103)), (1, .ref (x_ad G k1)), (2, .int p2), (3, .ref (x_ad G k3))]) hx hb d_D_work_20 hl (by decide) rfl (fun ls hl => ?_)
  exact w_D_work_22 l G C0 r z9 x_FU k3 hk3 r6 (0 : Int32) (x_cpyT z6 x_START ((0 : Int32)).toNatClampNeg k3 ((0 : Int32)).toNatClampNeg ((8 : Int32)).toNatClampNeg) hf _ _ _ hP hD hS (lv_sub hl [2, 5, 1, 0] rfl)
