theorem t_13 : Cond.initialized "java/lang/UnsupportedOperationException" ∈ x_big := x_bt 13 (by decide +kernel) (by decide +kernel)
theorem t_18 : Cond.initialized "java/lang/Long" ∈ x_big := x_bt 18 (by decide +kernel) (by decide +kernel)
theorem t_94 : Cond.fieldLink "ContentLibrary" 150 "ContentLibrary$Kept" "digest" "[I" ∈ x_big := x_bt 94 (by decide +kernel) (by decide +kernel)
theorem t_96 : Cond.fieldLink "ContentLibrary" 153 "ContentLibrary$Kept" "print" "J" ∈ x_big := x_bt 96 (by decide +kernel) (by decide +kernel)
theorem t_285 : Cond.methodLink "ContentLibrary" 174 (⟨"ContentLibrary$Picture", "printBits", "()J"⟩ : MethodName) ∈ x_big := x_bt 285 (by decide +kernel) (by decide +kernel)
theorem t_286 : Cond.instanceMethod (⟨"ContentLibrary$Picture", "printBits", "()J"⟩ : MethodName) ∈ x_big := x_bt 286 (by decide +kernel) (by decide +kernel)
theorem t_287 : Cond.selects "ContentLibrary$Picture" (⟨"ContentLibrary$Picture", "printBits", "()J"⟩ : MethodName) (⟨"ContentLibrary$Picture", "printBits", "()J"⟩ : MethodName) ∈ x_big := x_bt 287 (by decide +kernel) (by decide +kernel)
theorem t_288 : Cond.code (⟨"ContentLibrary$Picture", "printBits", "()J"⟩ : MethodName) prog_5_method_14_code 7 (some .long) ∈ x_big := x_bt 288 (by decide +kernel) (by decide +kernel)
theorem t_335 : Cond.methodLink "ContentLibrary" 66 (⟨"ContentLibrary", "refuseWhenCut", "()V"⟩ : MethodName) ∈ x_big := x_bt 335 (by decide +kernel) (by decide +kernel)
theorem t_337 : Cond.instanceMethod (⟨"ContentLibrary", "refuseWhenCut", "()V"⟩ : MethodName) ∈ x_big := x_bt 337 (by decide +kernel) (by decide +kernel)
theorem t_338 : Cond.code (⟨"ContentLibrary", "refuseWhenCut", "()V"⟩ : MethodName) prog_1_method_18_code 1 none ∈ x_big := x_bt 338 (by decide +kernel) (by decide +kernel)
theorem t_408 : Cond.methodLink "ContentLibrary" 69 (⟨"ContentLibrary$Picture", "isSide", "(I)Z"⟩ : MethodName) ∈ x_big := x_bt 408 (by decide +kernel) (by decide +kernel)
theorem t_425 : Cond.methodLink "ContentLibrary" 84 (⟨"ContentLibrary$Picture", "begin", "(II)V"⟩ : MethodName) ∈ x_big := x_bt 425 (by decide +kernel) (by decide +kernel)
theorem t_426 : Cond.instanceMethod (⟨"ContentLibrary$Picture", "begin", "(II)V"⟩ : MethodName) ∈ x_big := x_bt 426 (by decide +kernel) (by decide +kernel)
theorem t_427 : Cond.selects "ContentLibrary$Picture" (⟨"ContentLibrary$Picture", "begin", "(II)V"⟩ : MethodName) (⟨"ContentLibrary$Picture", "begin", "(II)V"⟩ : MethodName) ∈ x_big := x_bt 427 (by decide +kernel) (by decide +kernel)
theorem t_428 : Cond.code (⟨"ContentLibrary$Picture", "begin", "(II)V"⟩ : MethodName) prog_5_method_3_code 3 none ∈ x_big := x_bt 428 (by decide +kernel) (by decide +kernel)
theorem t_429 : Cond.classLink "ContentLibrary" 88 "java/lang/UnsupportedOperationException" ∈ x_big := x_bt 429 (by decide +kernel) (by decide +kernel)
theorem t_453 : Cond.methodLink "ContentLibrary" 93 (⟨"ContentLibrary", "pictureBeingMade", "(I)LContentLibrary$Picture;"⟩ : MethodName) ∈ x_big := x_bt 453 (by decide +kernel) (by decide +kernel)
theorem t_455 : Cond.instanceMethod (⟨"ContentLibrary", "pictureBeingMade", "(I)LContentLibrary$Picture;"⟩ : MethodName) ∈ x_big := x_bt 455 (by decide +kernel) (by decide +kernel)
theorem t_456 : Cond.code (⟨"ContentLibrary", "pictureBeingMade", "(I)LContentLibrary$Picture;"⟩ : MethodName) prog_1_method_21_code 2 (some (.object "ContentLibrary$Picture")) ∈ x_big := x_bt 456 (by decide +kernel) (by decide +kernel)
theorem t_474 : Cond.methodLink "ContentLibrary" 99 (⟨"ContentLibrary$Picture", "take", "(III)I"⟩ : MethodName) ∈ x_big := x_bt 474 (by decide +kernel) (by decide +kernel)
theorem t_475 : Cond.instanceMethod (⟨"ContentLibrary$Picture", "take", "(III)I"⟩ : MethodName) ∈ x_big := x_bt 475 (by decide +kernel) (by decide +kernel)
theorem t_476 : Cond.selects "ContentLibrary$Picture" (⟨"ContentLibrary$Picture", "take", "(III)I"⟩ : MethodName) (⟨"ContentLibrary$Picture", "take", "(III)I"⟩ : MethodName) ∈ x_big := x_bt 476 (by decide +kernel) (by decide +kernel)
theorem t_477 : Cond.code (⟨"ContentLibrary$Picture", "take", "(III)I"⟩ : MethodName) prog_5_method_11_code 7 (some .int) ∈ x_big := x_bt 477 (by decide +kernel) (by decide +kernel)
theorem t_486 : Cond.methodLink "ContentLibrary" 103 (⟨"ContentLibrary", "refuseUnlessWhole", "(LContentLibrary$Picture;)V"⟩ : MethodName) ∈ x_big := x_bt 486 (by decide +kernel) (by decide +kernel)
theorem t_487 : Cond.static (⟨"ContentLibrary", "refuseUnlessWhole", "(LContentLibrary$Picture;)V"⟩ : MethodName) ∈ x_big := x_bt 487 (by decide +kernel) (by decide +kernel)
theorem t_488 : Cond.code (⟨"ContentLibrary", "refuseUnlessWhole", "(LContentLibrary$Picture;)V"⟩ : MethodName) prog_1_method_20_code 1 none ∈ x_big := x_bt 488 (by decide +kernel) (by decide +kernel)
theorem t_558 : Cond.methodLink "ContentLibrary" 141 (⟨"ContentLibrary", "keptAt", "(I)LContentLibrary$Kept;"⟩ : MethodName) ∈ x_big := x_bt 558 (by decide +kernel) (by decide +kernel)
theorem t_560 : Cond.instanceMethod (⟨"ContentLibrary", "keptAt", "(I)LContentLibrary$Kept;"⟩ : MethodName) ∈ x_big := x_bt 560 (by decide +kernel) (by decide +kernel)
theorem t_561 : Cond.code (⟨"ContentLibrary", "keptAt", "(I)LContentLibrary$Kept;"⟩ : MethodName) prog_1_method_22_code 2 (some (.object "ContentLibrary$Kept")) ∈ x_big := x_bt 561 (by decide +kernel) (by decide +kernel)
theorem t_578 : Cond.methodLink "ContentLibrary" 161 (⟨"ContentLibrary$Picture", "width", "()I"⟩ : MethodName) ∈ x_big := x_bt 578 (by decide +kernel) (by decide +kernel)
theorem t_579 : Cond.methodLink "ContentLibrary" 164 (⟨"ContentLibrary$Picture", "height", "()I"⟩ : MethodName) ∈ x_big := x_bt 579 (by decide +kernel) (by decide +kernel)
theorem t_581 : Cond.methodLink "ContentLibrary" 169 (⟨"ContentLibrary$Picture", "at", "(II)I"⟩ : MethodName) ∈ x_big := x_bt 581 (by decide +kernel) (by decide +kernel)
theorem t_590 : Cond.methodLink "ContentLibrary" 179 (⟨"java/lang/Long", "bitCount", "(J)I"⟩ : MethodName) ∈ x_big := x_bt 590 (by decide +kernel) (by decide +kernel)
theorem t_591 : Cond.static (⟨"java/lang/Long", "bitCount", "(J)I"⟩ : MethodName) ∈ x_big := x_bt 591 (by decide +kernel) (by decide +kernel)
theorem t_592 : Cond.code (⟨"java/lang/Long", "bitCount", "(J)I"⟩ : MethodName) prog_13_method_50_code 2 (some .int) ∈ x_big := x_bt 592 (by decide +kernel) (by decide +kernel)
theorem t_596 : Cond.methodLink "ContentLibrary" 185 (⟨"ContentLibrary", "enterFound", "(II)V"⟩ : MethodName) ∈ x_big := x_bt 596 (by decide +kernel) (by decide +kernel)
theorem t_598 : Cond.instanceMethod (⟨"ContentLibrary", "enterFound", "(II)V"⟩ : MethodName) ∈ x_big := x_bt 598 (by decide +kernel) (by decide +kernel)
theorem t_599 : Cond.code (⟨"ContentLibrary", "enterFound", "(II)V"⟩ : MethodName) prog_1_method_32_code 4 none ∈ x_big := x_bt 599 (by decide +kernel) (by decide +kernel)
theorem at_92_UnsupportedOperationException : ∀ w ∈ Jvm.Bundle.ownAtoms "ContentLibrary" 92 "java/lang/UnsupportedOperationException" ["java/lang/RuntimeException", "java/lang/Exception"], w ∈ x_big ∨ w ∈ e_rest "java/lang/UnsupportedOperationException" := by
  have h : ∀ w ∈ Jvm.Bundle.ownAtoms "ContentLibrary" 92 "java/lang/UnsupportedOperationException" ["java/lang/RuntimeException", "java/lang/Exception"], (goodWord w = true ∧ w ∈ lw_tbl) ∨ w ∈ e_rest "java/lang/UnsupportedOperationException" := by decide +kernel
  exact fun w hw => (h w hw).imp (fun q => List.mem_filter.mpr ⟨q.2, q.1⟩) id
theorem sel_ContentLibrary_enterFound : Cond.selects "ContentLibrary" (⟨"ContentLibrary", "enterFound", "(II)V"⟩ : MethodName) (⟨"ContentLibrary", "enterFound", "(II)V"⟩ : MethodName) ∈ x_big := x_bs 25 (by decide +kernel) (by decide +kernel)
theorem sel_ContentLibrary_keptAt : Cond.selects "ContentLibrary" (⟨"ContentLibrary", "keptAt", "(I)LContentLibrary$Kept;"⟩ : MethodName) (⟨"ContentLibrary", "keptAt", "(I)LContentLibrary$Kept;"⟩ : MethodName) ∈ x_big := x_bs 24 (by decide +kernel) (by decide +kernel)
theorem sel_ContentLibrary_pictureBeingMade : Cond.selects "ContentLibrary" (⟨"ContentLibrary", "pictureBeingMade", "(I)LContentLibrary$Picture;"⟩ : MethodName) (⟨"ContentLibrary", "pictureBeingMade", "(I)LContentLibrary$Picture;"⟩ : MethodName) ∈ x_big := x_bs 15 (by decide +kernel) (by decide +kernel)
theorem sel_ContentLibrary_refuseWhenCut : Cond.selects "ContentLibrary" (⟨"ContentLibrary", "refuseWhenCut", "()V"⟩ : MethodName) (⟨"ContentLibrary", "refuseWhenCut", "()V"⟩ : MethodName) ∈ x_big := x_bs 13 (by decide +kernel) (by decide +kernel)
theorem d_X_picture_0 : decode prog_1_method_2_code 0 = .ok (.aload_n 0, 1) := by decide +kernel
theorem d_X_picture_1 : decode prog_1_method_2_code 1 = .ok (.invokevirtual 66, 3) := by decide +kernel
theorem d_X_picture_4 : decode prog_1_method_2_code 4 = .ok (.iload_n 1, 1) := by decide +kernel
theorem d_X_picture_5 : decode prog_1_method_2_code 5 = .ok (.invokestatic 69, 3) := by decide +kernel
theorem d_X_picture_8 : decode prog_1_method_2_code 8 = .ok (.ifCond .eq 10, 3) := by decide +kernel
theorem d_X_picture_11 : decode prog_1_method_2_code 11 = .ok (.iload_n 2, 1) := by decide +kernel
theorem d_X_picture_12 : decode prog_1_method_2_code 12 = .ok (.invokestatic 69, 3) := by decide +kernel
theorem d_X_picture_15 : decode prog_1_method_2_code 15 = .ok (.ifCond .ne 13, 3) := by decide +kernel
theorem d_X_picture_18 : decode prog_1_method_2_code 18 = .ok (.new 73, 3) := by decide +kernel
theorem d_X_picture_21 : decode prog_1_method_2_code 21 = .ok (.dup, 1) := by decide +kernel
theorem d_X_picture_22 : decode prog_1_method_2_code 22 = .ok (.ldc 75, 2) := by decide +kernel
theorem d_X_picture_24 : decode prog_1_method_2_code 24 = .ok (.invokespecial 77, 3) := by decide +kernel
theorem d_X_picture_27 : decode prog_1_method_2_code 27 = .ok (.athrow, 1) := by decide +kernel
theorem d_X_picture_28 : decode prog_1_method_2_code 28 = .ok (.iconst 0, 1) := by decide +kernel
theorem d_X_picture_29 : decode prog_1_method_2_code 29 = .ok (.istore_n 3, 1) := by decide +kernel
theorem d_X_picture_30 : decode prog_1_method_2_code 30 = .ok (.iload_n 3, 1) := by decide +kernel
theorem d_X_picture_31 : decode prog_1_method_2_code 31 = .ok (.bipush 8, 2) := by decide +kernel
theorem d_X_picture_33 : decode prog_1_method_2_code 33 = .ok (.if_icmp .ge 34, 3) := by decide +kernel
theorem d_X_picture_36 : decode prog_1_method_2_code 36 = .ok (.aload_n 0, 1) := by decide +kernel
theorem d_X_picture_37 : decode prog_1_method_2_code 37 = .ok (.getfield 33, 3) := by decide +kernel
theorem d_X_picture_40 : decode prog_1_method_2_code 40 = .ok (.iload_n 3, 1) := by decide +kernel
theorem d_X_picture_41 : decode prog_1_method_2_code 41 = .ok (.aaload, 1) := by decide +kernel
theorem d_X_picture_42 : decode prog_1_method_2_code 42 = .ok (.getfield 80, 3) := by decide +kernel
theorem d_X_picture_45 : decode prog_1_method_2_code 45 = .ok (.ifCond .ne 16, 3) := by decide +kernel
theorem d_X_picture_48 : decode prog_1_method_2_code 48 = .ok (.aload_n 0, 1) := by decide +kernel
theorem d_X_picture_49 : decode prog_1_method_2_code 49 = .ok (.getfield 33, 3) := by decide +kernel
theorem d_X_picture_52 : decode prog_1_method_2_code 52 = .ok (.iload_n 3, 1) := by decide +kernel
theorem d_X_picture_53 : decode prog_1_method_2_code 53 = .ok (.aaload, 1) := by decide +kernel
theorem d_X_picture_54 : decode prog_1_method_2_code 54 = .ok (.iload_n 1, 1) := by decide +kernel
theorem d_X_picture_55 : decode prog_1_method_2_code 55 = .ok (.iload_n 2, 1) := by decide +kernel
theorem d_X_picture_56 : decode prog_1_method_2_code 56 = .ok (.invokevirtual 84, 3) := by decide +kernel
theorem d_X_picture_59 : decode prog_1_method_2_code 59 = .ok (.iload_n 3, 1) := by decide +kernel
theorem d_X_picture_60 : decode prog_1_method_2_code 60 = .ok (.ireturn, 1) := by decide +kernel
theorem d_X_picture_61 : decode prog_1_method_2_code 61 = .ok (.iinc 3 1, 3) := by decide +kernel
theorem d_X_picture_64 : decode prog_1_method_2_code 64 = .ok (.goto (-34), 3) := by decide +kernel
theorem d_X_picture_67 : decode prog_1_method_2_code 67 = .ok (.new 88, 3) := by decide +kernel
theorem d_X_picture_70 : decode prog_1_method_2_code 70 = .ok (.dup, 1) := by decide +kernel
theorem d_X_picture_71 : decode prog_1_method_2_code 71 = .ok (.ldc 90, 2) := by decide +kernel
theorem d_X_picture_73 : decode prog_1_method_2_code 73 = .ok (.invokespecial 92, 3) := by decide +kernel
theorem d_X_picture_76 : decode prog_1_method_2_code 76 = .ok (.athrow, 1) := by decide +kernel
theorem d_X_samples_0 : decode prog_1_method_3_code 0 = .ok (.aload_n 0, 1) := by decide +kernel
theorem d_X_samples_1 : decode prog_1_method_3_code 1 = .ok (.invokevirtual 66, 3) := by decide +kernel
theorem d_X_samples_4 : decode prog_1_method_3_code 4 = .ok (.aload_n 0, 1) := by decide +kernel
theorem d_X_samples_5 : decode prog_1_method_3_code 5 = .ok (.iload_n 1, 1) := by decide +kernel
theorem d_X_samples_6 : decode prog_1_method_3_code 6 = .ok (.invokevirtual 93, 3) := by decide +kernel
theorem d_X_samples_9 : decode prog_1_method_3_code 9 = .ok (.astore 5, 2) := by decide +kernel
theorem d_X_samples_11 : decode prog_1_method_3_code 11 = .ok (.iload_n 2, 1) := by decide +kernel
theorem d_X_samples_12 : decode prog_1_method_3_code 12 = .ok (.iconst 1, 1) := by decide +kernel
theorem d_X_samples_13 : decode prog_1_method_3_code 13 = .ok (.if_icmp .ge 13, 3) := by decide +kernel
theorem d_X_samples_16 : decode prog_1_method_3_code 16 = .ok (.new 73, 3) := by decide +kernel
theorem d_X_samples_19 : decode prog_1_method_3_code 19 = .ok (.dup, 1) := by decide +kernel
theorem d_X_samples_20 : decode prog_1_method_3_code 20 = .ok (.ldc 97, 2) := by decide +kernel
theorem d_X_samples_22 : decode prog_1_method_3_code 22 = .ok (.invokespecial 77, 3) := by decide +kernel
theorem d_X_samples_25 : decode prog_1_method_3_code 25 = .ok (.athrow, 1) := by decide +kernel
theorem d_X_samples_26 : decode prog_1_method_3_code 26 = .ok (.aload 5, 2) := by decide +kernel
theorem d_X_samples_28 : decode prog_1_method_3_code 28 = .ok (.iload_n 2, 1) := by decide +kernel
theorem d_X_samples_29 : decode prog_1_method_3_code 29 = .ok (.iload_n 3, 1) := by decide +kernel
theorem d_X_samples_30 : decode prog_1_method_3_code 30 = .ok (.iload 4, 2) := by decide +kernel
theorem d_X_samples_32 : decode prog_1_method_3_code 32 = .ok (.invokevirtual 99, 3) := by decide +kernel
theorem d_X_samples_35 : decode prog_1_method_3_code 35 = .ok (.ireturn, 1) := by decide +kernel
theorem d_X_keep_0 : decode prog_1_method_4_code 0 = .ok (.aload_n 0, 1) := by decide +kernel
theorem d_X_keep_1 : decode prog_1_method_4_code 1 = .ok (.invokevirtual 66, 3) := by decide +kernel
theorem d_X_keep_4 : decode prog_1_method_4_code 4 = .ok (.aload_n 0, 1) := by decide +kernel
theorem d_X_keep_5 : decode prog_1_method_4_code 5 = .ok (.iload_n 1, 1) := by decide +kernel
theorem d_X_keep_6 : decode prog_1_method_4_code 6 = .ok (.invokevirtual 93, 3) := by decide +kernel
theorem d_X_keep_9 : decode prog_1_method_4_code 9 = .ok (.astore_n 2, 1) := by decide +kernel
theorem d_X_keep_10 : decode prog_1_method_4_code 10 = .ok (.aload_n 2, 1) := by decide +kernel
theorem d_X_keep_11 : decode prog_1_method_4_code 11 = .ok (.invokestatic 103, 3) := by decide +kernel
theorem d_X_digest_0 : decode prog_1_method_5_code 0 = .ok (.aload_n 0, 1) := by decide +kernel
theorem d_X_digest_1 : decode prog_1_method_5_code 1 = .ok (.invokevirtual 66, 3) := by decide +kernel
theorem d_X_digest_4 : decode prog_1_method_5_code 4 = .ok (.aload_n 0, 1) := by decide +kernel
theorem d_X_digest_5 : decode prog_1_method_5_code 5 = .ok (.iload_n 1, 1) := by decide +kernel
theorem d_X_digest_6 : decode prog_1_method_5_code 6 = .ok (.invokevirtual 141, 3) := by decide +kernel
theorem d_X_digest_9 : decode prog_1_method_5_code 9 = .ok (.astore_n 3, 1) := by decide +kernel
theorem d_X_digest_10 : decode prog_1_method_5_code 10 = .ok (.iload_n 2, 1) := by decide +kernel
theorem d_X_digest_11 : decode prog_1_method_5_code 11 = .ok (.ifCond .lt 9, 3) := by decide +kernel
theorem d_X_digest_14 : decode prog_1_method_5_code 14 = .ok (.iload_n 2, 1) := by decide +kernel
theorem d_X_digest_15 : decode prog_1_method_5_code 15 = .ok (.bipush 8, 2) := by decide +kernel
theorem d_X_digest_17 : decode prog_1_method_5_code 17 = .ok (.if_icmp .lt 13, 3) := by decide +kernel
theorem d_X_digest_20 : decode prog_1_method_5_code 20 = .ok (.new 145, 3) := by decide +kernel
theorem d_X_digest_23 : decode prog_1_method_5_code 23 = .ok (.dup, 1) := by decide +kernel
theorem d_X_digest_24 : decode prog_1_method_5_code 24 = .ok (.ldc 147, 2) := by decide +kernel
theorem d_X_digest_26 : decode prog_1_method_5_code 26 = .ok (.invokespecial 149, 3) := by decide +kernel
theorem d_X_digest_29 : decode prog_1_method_5_code 29 = .ok (.athrow, 1) := by decide +kernel
theorem d_X_digest_30 : decode prog_1_method_5_code 30 = .ok (.aload_n 3, 1) := by decide +kernel
theorem d_X_digest_31 : decode prog_1_method_5_code 31 = .ok (.getfield 150, 3) := by decide +kernel
theorem d_X_digest_34 : decode prog_1_method_5_code 34 = .ok (.iload_n 2, 1) := by decide +kernel
theorem d_X_digest_35 : decode prog_1_method_5_code 35 = .ok (.iaload, 1) := by decide +kernel
theorem d_X_digest_36 : decode prog_1_method_5_code 36 = .ok (.ireturn, 1) := by decide +kernel
theorem d_X_print_0 : decode prog_1_method_6_code 0 = .ok (.aload_n 0, 1) := by decide +kernel
theorem d_X_print_1 : decode prog_1_method_6_code 1 = .ok (.invokevirtual 66, 3) := by decide +kernel
theorem d_X_print_4 : decode prog_1_method_6_code 4 = .ok (.aload_n 0, 1) := by decide +kernel
theorem d_X_print_5 : decode prog_1_method_6_code 5 = .ok (.iload_n 1, 1) := by decide +kernel
theorem d_X_print_6 : decode prog_1_method_6_code 6 = .ok (.invokevirtual 141, 3) := by decide +kernel
theorem d_X_print_9 : decode prog_1_method_6_code 9 = .ok (.getfield 153, 3) := by decide +kernel
theorem d_X_print_12 : decode prog_1_method_6_code 12 = .ok (.lreturn, 1) := by decide +kernel
theorem d_X_sample_0 : decode prog_1_method_7_code 0 = .ok (.aload_n 0, 1) := by decide +kernel
theorem d_X_sample_1 : decode prog_1_method_7_code 1 = .ok (.invokevirtual 66, 3) := by decide +kernel
theorem d_X_sample_4 : decode prog_1_method_7_code 4 = .ok (.aload_n 0, 1) := by decide +kernel
theorem d_X_sample_5 : decode prog_1_method_7_code 5 = .ok (.iload_n 1, 1) := by decide +kernel
theorem d_X_sample_6 : decode prog_1_method_7_code 6 = .ok (.invokevirtual 141, 3) := by decide +kernel
theorem d_X_sample_9 : decode prog_1_method_7_code 9 = .ok (.getfield 157, 3) := by decide +kernel
theorem d_X_sample_12 : decode prog_1_method_7_code 12 = .ok (.astore 4, 2) := by decide +kernel
theorem d_X_sample_14 : decode prog_1_method_7_code 14 = .ok (.iload_n 2, 1) := by decide +kernel
theorem d_X_sample_15 : decode prog_1_method_7_code 15 = .ok (.ifCond .lt 25, 3) := by decide +kernel
theorem d_X_sample_18 : decode prog_1_method_7_code 18 = .ok (.iload_n 2, 1) := by decide +kernel
theorem d_X_sample_19 : decode prog_1_method_7_code 19 = .ok (.aload 4, 2) := by decide +kernel
theorem d_X_sample_21 : decode prog_1_method_7_code 21 = .ok (.invokevirtual 161, 3) := by decide +kernel
theorem d_X_sample_24 : decode prog_1_method_7_code 24 = .ok (.if_icmp .ge 16, 3) := by decide +kernel
theorem d_X_sample_27 : decode prog_1_method_7_code 27 = .ok (.iload_n 3, 1) := by decide +kernel
theorem d_X_sample_28 : decode prog_1_method_7_code 28 = .ok (.ifCond .lt 12, 3) := by decide +kernel
theorem d_X_sample_31 : decode prog_1_method_7_code 31 = .ok (.iload_n 3, 1) := by decide +kernel
theorem d_X_sample_32 : decode prog_1_method_7_code 32 = .ok (.aload 4, 2) := by decide +kernel
theorem d_X_sample_34 : decode prog_1_method_7_code 34 = .ok (.invokevirtual 164, 3) := by decide +kernel
theorem d_X_sample_37 : decode prog_1_method_7_code 37 = .ok (.if_icmp .lt 13, 3) := by decide +kernel
theorem d_X_sample_40 : decode prog_1_method_7_code 40 = .ok (.new 145, 3) := by decide +kernel
theorem d_X_sample_43 : decode prog_1_method_7_code 43 = .ok (.dup, 1) := by decide +kernel
theorem d_X_sample_44 : decode prog_1_method_7_code 44 = .ok (.ldc 167, 2) := by decide +kernel
theorem d_X_sample_46 : decode prog_1_method_7_code 46 = .ok (.invokespecial 149, 3) := by decide +kernel
theorem d_X_sample_49 : decode prog_1_method_7_code 49 = .ok (.athrow, 1) := by decide +kernel
theorem d_X_sample_50 : decode prog_1_method_7_code 50 = .ok (.aload 4, 2) := by decide +kernel
theorem d_X_sample_52 : decode prog_1_method_7_code 52 = .ok (.iload_n 2, 1) := by decide +kernel
theorem d_X_sample_53 : decode prog_1_method_7_code 53 = .ok (.iload_n 3, 1) := by decide +kernel
theorem d_X_sample_54 : decode prog_1_method_7_code 54 = .ok (.invokevirtual 169, 3) := by decide +kernel
theorem d_X_sample_57 : decode prog_1_method_7_code 57 = .ok (.ireturn, 1) := by decide +kernel
theorem d_X_near_0 : decode prog_1_method_8_code 0 = .ok (.aload_n 0, 1) := by decide +kernel
theorem d_X_near_1 : decode prog_1_method_8_code 1 = .ok (.invokevirtual 66, 3) := by decide +kernel
theorem d_X_near_4 : decode prog_1_method_8_code 4 = .ok (.aload_n 0, 1) := by decide +kernel
theorem d_X_near_5 : decode prog_1_method_8_code 5 = .ok (.iload_n 1, 1) := by decide +kernel
theorem d_X_near_6 : decode prog_1_method_8_code 6 = .ok (.invokevirtual 93, 3) := by decide +kernel
theorem d_X_near_9 : decode prog_1_method_8_code 9 = .ok (.astore_n 3, 1) := by decide +kernel
theorem d_X_near_10 : decode prog_1_method_8_code 10 = .ok (.aload_n 3, 1) := by decide +kernel
theorem d_X_near_11 : decode prog_1_method_8_code 11 = .ok (.invokestatic 103, 3) := by decide +kernel
theorem d_X_near_14 : decode prog_1_method_8_code 14 = .ok (.iload_n 2, 1) := by decide +kernel
theorem d_X_near_15 : decode prog_1_method_8_code 15 = .ok (.ifCond .lt 9, 3) := by decide +kernel
theorem d_X_near_18 : decode prog_1_method_8_code 18 = .ok (.iload_n 2, 1) := by decide +kernel
theorem d_X_near_19 : decode prog_1_method_8_code 19 = .ok (.bipush 64, 2) := by decide +kernel
theorem d_X_near_21 : decode prog_1_method_8_code 21 = .ok (.if_icmp .le 13, 3) := by decide +kernel
theorem d_X_near_24 : decode prog_1_method_8_code 24 = .ok (.new 73, 3) := by decide +kernel
theorem d_X_near_27 : decode prog_1_method_8_code 27 = .ok (.dup, 1) := by decide +kernel
theorem d_X_near_28 : decode prog_1_method_8_code 28 = .ok (.ldc 172, 2) := by decide +kernel
theorem d_X_near_30 : decode prog_1_method_8_code 30 = .ok (.invokespecial 77, 3) := by decide +kernel
theorem d_X_near_33 : decode prog_1_method_8_code 33 = .ok (.athrow, 1) := by decide +kernel
theorem d_X_near_34 : decode prog_1_method_8_code 34 = .ok (.aload_n 3, 1) := by decide +kernel
theorem d_X_near_35 : decode prog_1_method_8_code 35 = .ok (.invokevirtual 174, 3) := by decide +kernel
theorem d_X_near_38 : decode prog_1_method_8_code 38 = .ok (.lstore 4, 2) := by decide +kernel
theorem d_X_near_40 : decode prog_1_method_8_code 40 = .ok (.aload_n 0, 1) := by decide +kernel
theorem d_X_near_41 : decode prog_1_method_8_code 41 = .ok (.iconst 0, 1) := by decide +kernel
theorem d_X_near_42 : decode prog_1_method_8_code 42 = .ok (.putfield 62, 3) := by decide +kernel
theorem d_X_near_45 : decode prog_1_method_8_code 45 = .ok (.iconst 0, 1) := by decide +kernel
theorem d_X_near_46 : decode prog_1_method_8_code 46 = .ok (.istore 6, 2) := by decide +kernel
theorem d_X_near_48 : decode prog_1_method_8_code 48 = .ok (.iload 6, 2) := by decide +kernel
theorem d_X_near_50 : decode prog_1_method_8_code 50 = .ok (.bipush 16, 2) := by decide +kernel
theorem d_X_near_52 : decode prog_1_method_8_code 52 = .ok (.if_icmp .ge 54, 3) := by decide +kernel
theorem d_X_near_55 : decode prog_1_method_8_code 55 = .ok (.aload_n 0, 1) := by decide +kernel
theorem d_X_near_56 : decode prog_1_method_8_code 56 = .ok (.getfield 40, 3) := by decide +kernel
theorem d_X_near_59 : decode prog_1_method_8_code 59 = .ok (.iload 6, 2) := by decide +kernel
theorem d_X_near_61 : decode prog_1_method_8_code 61 = .ok (.aaload, 1) := by decide +kernel
theorem d_X_near_62 : decode prog_1_method_8_code 62 = .ok (.getfield 178, 3) := by decide +kernel
theorem d_X_near_65 : decode prog_1_method_8_code 65 = .ok (.ifCond .eq 35, 3) := by decide +kernel
theorem d_X_near_68 : decode prog_1_method_8_code 68 = .ok (.lload 4, 2) := by decide +kernel
theorem d_X_near_70 : decode prog_1_method_8_code 70 = .ok (.aload_n 0, 1) := by decide +kernel
theorem d_X_near_71 : decode prog_1_method_8_code 71 = .ok (.getfield 40, 3) := by decide +kernel
theorem d_X_near_74 : decode prog_1_method_8_code 74 = .ok (.iload 6, 2) := by decide +kernel
theorem d_X_near_76 : decode prog_1_method_8_code 76 = .ok (.aaload, 1) := by decide +kernel
theorem d_X_near_77 : decode prog_1_method_8_code 77 = .ok (.getfield 153, 3) := by decide +kernel
theorem d_X_near_80 : decode prog_1_method_8_code 80 = .ok (.lxor, 1) := by decide +kernel
theorem d_X_near_81 : decode prog_1_method_8_code 81 = .ok (.invokestatic 179, 3) := by decide +kernel
theorem d_X_near_84 : decode prog_1_method_8_code 84 = .ok (.istore 7, 2) := by decide +kernel
theorem d_X_near_86 : decode prog_1_method_8_code 86 = .ok (.iload 7, 2) := by decide +kernel
theorem d_X_near_88 : decode prog_1_method_8_code 88 = .ok (.iload_n 2, 1) := by decide +kernel
theorem d_X_near_89 : decode prog_1_method_8_code 89 = .ok (.if_icmp .gt 11, 3) := by decide +kernel
theorem d_X_near_92 : decode prog_1_method_8_code 92 = .ok (.aload_n 0, 1) := by decide +kernel
theorem d_X_near_93 : decode prog_1_method_8_code 93 = .ok (.iload 6, 2) := by decide +kernel
theorem d_X_near_95 : decode prog_1_method_8_code 95 = .ok (.iload 7, 2) := by decide +kernel
theorem d_X_near_97 : decode prog_1_method_8_code 97 = .ok (.invokevirtual 185, 3) := by decide +kernel
theorem d_X_near_100 : decode prog_1_method_8_code 100 = .ok (.iinc 6 1, 3) := by decide +kernel
theorem d_X_near_103 : decode prog_1_method_8_code 103 = .ok (.goto (-55), 3) := by decide +kernel
theorem d_X_near_106 : decode prog_1_method_8_code 106 = .ok (.aload_n 0, 1) := by decide +kernel
theorem d_X_near_107 : decode prog_1_method_8_code 107 = .ok (.getfield 62, 3) := by decide +kernel
theorem d_X_near_110 : decode prog_1_method_8_code 110 = .ok (.ireturn, 1) := by decide +kernel
def f_X_picture_48 (xn : Nat) (a1 : Int32) (a2 : Int32) (a3 : Int32) (z0 : x_St) : Option ((String ⊕ Int32) × x_St) :=
  (x_ck a3 8
  (x_cl (f_P_begin xn (6 + 2 * (a3).toNatClampNeg) a1 a2 z0) (fun r2 z2 =>
  (some (Sum.inr a3, z2)))))
def f_X_picture_30 (xn : Nat) : Nat → Int32 → Int32 → Int32 → x_St → Option ((String ⊕ Int32) × x_St)
  | 0, _, _, _, _ => none
  | fu + 1, a1, a2, a3, z0 =>
    (if (8 : Int32) ≤ a3 then
    (some (Sum.inl "java/lang/UnsupportedOperationException", z0))
    else
    (x_ck a3 8
    (if (z0.1 (6 + 2 * (a3).toNatClampNeg) 0) = 0 then
    (f_X_picture_48 xn a1 a2 a3 z0)
    else
    (f_X_picture_30 xn fu a1 a2 (a3 + (1 : Int32)) z0))))
def f_X_picture (xn : Nat) (p1 : Int32) (p2 : Int32) (z0 : x_St) : Option ((String ⊕ Int32) × x_St) :=
  (x_clx (f_X_refuseWhenCut xn z0) (fun r7 z7 =>
  (x_cl (f_P_isSide xn p1 z7) (fun r9 z9 =>
  (if r9 = 0 then
  (some (Sum.inl "java/lang/IllegalArgumentException", z9))
  else
  (x_cl (f_P_isSide xn p2 z9) (fun r12 z12 =>
  (if r12 = 0 then
  (some (Sum.inl "java/lang/IllegalArgumentException", z12))
  else
  (f_X_picture_30 xn x_FU p1 p2 (0 : Int32) z12)))))))))
def f_X_samples (xn : Nat) (p1 : Int32) (p2 : Int32) (p3 : Int32) (p4 : Int32) (z0 : x_St) : Option ((String ⊕ Int32) × x_St) :=
  (x_clx (f_X_refuseWhenCut xn z0) (fun r1 z1 =>
  (x_clx (f_X_pictureBeingMade xn p1 z1) (fun r3 z3 =>
  (if (1 : Int32) ≤ p2 then
  (x_cl (f_P_take xn r3 p2 p3 p4 z3) (fun r6 z6 =>
  (some (Sum.inr r6, z6))))
  else
  (some (Sum.inl "java/lang/IllegalArgumentException", z3)))))))
def f_X_keep (xn : Nat) (p1 : Int32) (z0 : x_St) : Option ((String ⊕ Int32) × x_St) :=
  (x_clx (f_X_refuseWhenCut xn z0) (fun r1 z1 =>
  (x_clx (f_X_pictureBeingMade xn p1 z1) (fun r3 z3 =>
  (x_clx (f_X_refuseUnlessWhole xn r3 z3) (fun r5 z5 =>
  none))))))
def f_X_digest (xn : Nat) (p1 : Int32) (p2 : Int32) (z0 : x_St) : Option ((String ⊕ Int32) × x_St) :=
  (x_clx (f_X_refuseWhenCut xn z0) (fun r1 z1 =>
  (x_clx (f_X_keptAt xn p1 z1) (fun r3 z3 =>
  (if p2 < 0 then
  (some (Sum.inl "java/lang/IndexOutOfBoundsException", z3))
  else
  (if p2 < (8 : Int32) then
  (x_ck p2 (x_ln xn (r3 + 3))
  (some (Sum.inr (z3.1 (r3 + 3) (p2).toNatClampNeg), z3)))
  else
  (some (Sum.inl "java/lang/IndexOutOfBoundsException", z3))))))))
def f_X_print (xn : Nat) (p1 : Int32) (z0 : x_St) : Option ((String ⊕ Int64) × x_St) :=
  (x_clx (f_X_refuseWhenCut xn z0) (fun r1 z1 =>
  (x_clx (f_X_keptAt xn p1 z1) (fun r3 z3 =>
  (some (Sum.inr (z3.2 r3 3), z3))))))
def f_X_sample (xn : Nat) (p1 : Int32) (p2 : Int32) (p3 : Int32) (z0 : x_St) : Option ((String ⊕ Int32) × x_St) :=
  (x_clx (f_X_refuseWhenCut xn z0) (fun r1 z1 =>
  (x_clx (f_X_keptAt xn p1 z1) (fun r3 z3 =>
  (if p2 < 0 then
  (some (Sum.inl "java/lang/IndexOutOfBoundsException", z3))
  else
  (x_cl (f_P_width xn (r3 + 1) z3) (fun r6 z6 =>
  (if r6 ≤ p2 then
  (some (Sum.inl "java/lang/IndexOutOfBoundsException", z6))
  else
  (if p3 < 0 then
  (some (Sum.inl "java/lang/IndexOutOfBoundsException", z6))
  else
  (x_cl (f_P_height xn (r3 + 1) z6) (fun r10 z10 =>
  (if p3 < r10 then
  (x_cl (f_P_at xn (r3 + 1) p2 p3 z10) (fun r13 z13 =>
  (some (Sum.inr r13, z13))))
  else
  (some (Sum.inl "java/lang/IndexOutOfBoundsException", z10))))))))))))))
def f_X_near_106 (xn : Nat)  (z0 : x_St) : Option ((String ⊕ Int32) × x_St) :=
  (some (Sum.inr (z0.1 0 8), z0))
def f_X_near_48 (xn : Nat) : Nat → Int32 → Int64 → Int32 → x_St → Option ((String ⊕ Int32) × x_St)
  | 0, _, _, _, _ => none
  | fu + 1, a2, a4, a6, z0 =>
    (if (16 : Int32) ≤ a6 then
    (f_X_near_106 xn z0)
    else
    (x_ck a6 16
    (if (z0.1 (23 + 5 * (a6).toNatClampNeg) 0) = 0 then
    (f_X_near_48 xn fu a2 a4 (a6 + (1 : Int32)) z0)
    else
    (x_ck a6 16
    (x_cl (f_Long_bitCount xn (a4 ^^^ (z0.2 (23 + 5 * (a6).toNatClampNeg) 3)) z0) (fun r5 z5 =>
    (if a2 < r5 then
    (f_X_near_48 xn fu a2 a4 (a6 + (1 : Int32)) z5)
    else
    (x_cl (f_X_enterFound xn a6 r5 z5) (fun r8 z8 =>
    (f_X_near_48 xn fu a2 a4 (a6 + (1 : Int32)) z8))))))))))
def f_X_near (xn : Nat) (p1 : Int32) (p2 : Int32) (z0 : x_St) : Option ((String ⊕ Int32) × x_St) :=
  (x_clx (f_X_refuseWhenCut xn z0) (fun r10 z10 =>
  (x_clx (f_X_pictureBeingMade xn p1 z10) (fun r12 z12 =>
  (x_clx (f_X_refuseUnlessWhole xn r12 z12) (fun r14 z14 =>
  (if p2 < 0 then
  (some (Sum.inl "java/lang/IllegalArgumentException", z14))
  else
  (if p2 ≤ (64 : Int32) then
  (x_cl (f_P_printBits xn r12 z14) (fun r18 z18 =>
  (f_X_near_48 xn x_FU p2 r18 (0 : Int32) (x_put z18 0 8 (0 : Int32)))))
  else
  (some (Sum.inl "java/lang/IllegalArgumentException", z14))))))))))
abbrev rm_X_picture : Room := { frames := 7, cells := 0, slots := 0, locals := 102 }
abbrev rx_X_picture : Room := { frames := 7, cells := 1, slots := 6, locals := 102 }
set_option maxHeartbeats 4000000 in
set_option maxRecDepth 100000 in
theorem w_X_picture_48 (l : Launch) (G : x_G) {p : Program} {e : Env} {s : State} {m : MethodId} {args : Array Value} {below : List Frame} {meth : Method} {c : Code} (C0 : x_Ctx G p s m args meth c prog_1_method_2_code "ContentLibrary" 4 (some .int)) (r : Int32) (zo : x_St) : ∀ (a1 : Int32) (a2 : Int32) (a3 : Int32) (z0 : x_St), f_X_picture_48 (x_n G) a1 a2 a3 z0 = some (Sum.inr r, zo) → ∀ (H : Heap) (locs : List Loc) (ls : Array Slot), va_P (x_D G) vwCl (x_Wd G z0) H → va_D (x_A G) (x_Wd G z0) → va_S (x_A G) s.heap H locs → lv_has ls 4 [(0, .ref (x_ad G 0)), (1, .int a1), (2, .int a2), (3, .int a3)] → W p l e rm_X_picture s m args below meth c H locs 0 0 (MQ below (va_Qi (fun a u => r = a ∧ zo = u) (x_PW G) (x_A G)) args s 0 0 (x_A G)) (F0 m 48 ls []) := by
  obtain ⟨hx, hb, hr, hml, hown, hts, hlocks, hz, hK, hG⟩ := id C0
  intro a1 a2 a3 z0 hf H locs ls hP hD hS hl
  rw [f_X_picture_48] at hf
  refine lv_aload_n hx hb d_X_picture_48 rfl (lv_at hl 0 rfl) ?_
  refine va_get (D := x_D G) (ci := 0) (v := .ref (x_ad G 5)) (C := "ContentLibrary") (T := x_TX) (N := 9) hx hb hts x_inX hown hK hP 0 (x_lk_X G _) rfl 2 (by decide) (hts _ t_132) (fun _ h9 => h9) rfl d_X_picture_49 ?_
  refine lv_iload_n hx hb d_X_picture_52 rfl (lv_at hl 3 rfl) ?_
  obtain ⟨hin1, hf⟩ := x_ck_some hf
  refine va_aldq hx hb hK hP 5 2 (x_lk_made G _) rfl hin1 d_X_picture_53 ?_
  refine W.eq (g2 := F0 m 54 ls [.ref (x_ad G (6 + 2 * (a3).toNatClampNeg))]) rfl ?_
  refine lv_iload_n hx hb d_X_picture_54 rfl (lv_at hl 1 rfl) ?_
  refine lv_iload_n hx hb d_X_picture_55 rfl (lv_at hl 2 rfl) ?_
  obtain ⟨r2, z2, hq3, hf⟩ := x_cl_some hf
  refine va_callv (va_runV (As := [.int a1, .int a2]) (rest := []) ⟨hx, hb, hml, hown, hts⟩ (c_P_begin l G (6 + 2 * (a3).toNatClampNeg) (x_el_P hin1) a1 a2 z0 r2 z2 hq3) (cwV 2 hts (x_gV t_425 t_426 t_427 t_4 t_428) rfl rfl rfl (by decide +kernel) ⟨Nat.le_of_ble_eq_true rfl, Nat.le_of_ble_eq_true rfl⟩) ⟨x_blind _ _ _, va_recv hK hP (ci := 2) (q0 := (6 + 2 * (a3).toNatClampNeg)) rfl (x_lk_P G _ (x_el_P hin1)), fun U hU hW => ⟨rfl, x_pw hP hD hK hG hS hz hU hW⟩⟩ rfl rfl hl.1 rfl (lv_room (Nat.le_of_ble_eq_true rfl)) d_X_picture_56 ⟨Nat.le_of_ble_eq_true rfl, Nat.le_of_ble_eq_true rfl⟩) hS (fun q _ h => h) (fun q h => h) (fun u t H locs ht hvm hw hB _ _ hS => ?_)
  obtain ⟨rfl, rfl⟩ := hw
  obtain ⟨hP, hD⟩ := x_back hB ht
  refine lv_iload_n hx hb d_X_picture_59 rfl (lv_at hl 3 rfl) ?_
  obtain ⟨rfl, rfl⟩ := x_retr hf
  exact W.iret (v := a3) hx hb hr (fun t ht hW => ⟨⟨_, _, rfl, ⟨rfl, rfl⟩, x_pw hP hD hK hG hS hz ht hW⟩, hS.F ht⟩) hS.2.2 d_X_picture_60
set_option maxHeartbeats 4000000 in
set_option maxRecDepth 100000 in
theorem w_X_picture_30 (l : Launch) (G : x_G) {p : Program} {e : Env} {s : State} {m : MethodId} {args : Array Value} {below : List Frame} {meth : Method} {c : Code} (C0 : x_Ctx G p s m args meth c prog_1_method_2_code "ContentLibrary" 4 (some .int)) (r : Int32) (zo : x_St) : ∀ (fu : Nat), ∀ (a1 : Int32) (a2 : Int32) (a3 : Int32) (z0 : x_St), f_X_picture_30 (x_n G) fu a1 a2 a3 z0 = some (Sum.inr r, zo) → ∀ (H : Heap) (locs : List Loc) (ls : Array Slot), va_P (x_D G) vwCl (x_Wd G z0) H → va_D (x_A G) (x_Wd G z0) → va_S (x_A G) s.heap H locs → lv_has ls 4 [(0, .ref (x_ad G 0)), (1, .int a1), (2, .int a2), (3, .int a3)] → W p l e rm_X_picture s m args below meth c H locs 0 0 (MQ below (va_Qi (fun a u => r = a ∧ zo = u) (x_PW G) (x_A G)) args s 0 0 (x_A G)) (F0 m 30 ls []) := by
  obtain ⟨hx, hb, hr, hml, hown, hts, hlocks, hz, hK, hG⟩ := id C0
  intro fu
  induction fu with
  | zero =>
    intro a1 a2 a3 z0 hf
    rw [f_X_picture_30] at hf
    cases hf
  | succ fu ih =>
    intro a1 a2 a3 z0 hf H locs ls hP hD hS hl
    rw [f_X_picture_30] at hf
    refine lv_iload_n hx hb d_X_picture_30 rfl (lv_at hl 3 rfl) ?_
    refine lv_bipush (v := (8 : Int32)) hx hb d_X_picture_31 (by decide) ?_
    refine lv_icmp_ge (tgt := 67) hx hb d_X_picture_33 (by decide) (fun hc4 => ?_) (fun hc4 => ?_)
    · have hf := x_br_t hf hc4
      exact absurd hf x_no_r
    · have hf := x_br_f hf hc4
      refine lv_aload_n hx hb d_X_picture_36 rfl (lv_at hl 0 rfl) ?_
      refine va_get (D := x_D G) (ci := 0) (v := .ref (x_ad G 5)) (C := "ContentLibrary") (T := x_TX) (N := 9) hx hb hts x_inX hown hK hP 0 (x_lk_X G _) rfl 2 (by decide) (hts _ t_132) (fun _ h9 => h9) rfl d_X_picture_37 ?_
      refine lv_iload_n hx hb d_X_picture_40 rfl (lv_at hl 3 rfl) ?_
      obtain ⟨hin5, hf⟩ := x_ck_some hf
      refine va_aldq hx hb hK hP 5 2 (x_lk_made G _) rfl hin5 d_X_picture_41 ?_
      refine W.eq (g2 := F0 m 42 ls [.ref (x_ad G (6 + 2 * (a3).toNatClampNeg))]) rfl ?_
      refine va_get (D := x_D G) (ci := 2) (v := .int (z0.1 (6 + 2 * (a3).toNatClampNeg) 0)) (C := "ContentLibrary$Picture") (T := x_TP) (N := 3) hx hb hts x_inP hown hK hP (6 + 2 * (a3).toNatClampNeg) (x_lk_P G _ (x_el_P hin5)) rfl 0 (by decide) (hts _ t_67) (fun _ h9 => h9) rfl d_X_picture_42 ?_
      refine lv_if_ne (tgt := 61) hx hb d_X_picture_45 (by decide) (fun hc6 => ?_) (fun hc6 => ?_)
      · have hf := x_br_f hf hc6
        refine lv_iinc (v := (a3 + (1 : Int32))) (lv' := [(3, .int (a3 + (1 : Int32))), (0, .ref (x_ad G 0)), (1, .int a1), (2, .int a2)]) hx hb d_X_picture_61 hl (k := 3) rfl rfl (by decide) rfl (fun ls hl => ?_)
        refine lv_goto (tgt := 30) hx hb d_X_picture_64 (by decide) ?_
        exact ih a1 a2 (a3 + (1 : Int32)) z0 hf _ _ _ hP hD hS (lv_sub hl [1, 2, 3, 0] rfl)
      · have hf := x_br_t hf hc6
        exact w_X_picture_48 l G C0 r zo a1 a2 a3 z0 hf _ _ _ hP hD hS (lv_sub hl [0, 1, 2, 3] rfl)
set_option maxHeartbeats 4000000 in
set_option maxRecDepth 100000 in
theorem c_X_picture (l : Launch) (G : x_G) (p1 : Int32) (p2 : Int32) (z0 : x_St) (r : Int32) (zo : x_St) (hf : f_X_picture (x_n G) p1 p2 z0 = some (Sum.inr r, zo)) : Met l (⟨"ContentLibrary", "picture", "(II)I"⟩ : MethodName) (x_ws (⟨"ContentLibrary", "picture", "(II)I"⟩ : MethodName) prog_1_method_2_code 4 (some .int)) rm_X_picture (va_Pc [.ref (x_ad G 0), .int p1, .int p2] (x_PW G z0)) (va_Qi (fun a u => r = a ∧ zo = u) (x_PW G) (x_A G)) 0 0 (x_A G) := by
  refine Met.ofW (cc := prog_1_method_2_code) (maxL := 4) (ret := (some .int)) (by decide) rfl ?_
  intro p e s m args below meth c s₁ B hml hv
  obtain ⟨rfl, hz, hP, hD, hK, hG⟩ := hv
  have C0 : x_Ctx G p s m _ meth c prog_1_method_2_code "ContentLibrary" 4 (some .int) := ⟨B.exec, B.bytes, B.returns, hml, findClass_of_methodNamed B.named, fun w h => atoms_spec (ws := (x_ws (⟨"ContentLibrary", "picture", "(II)I"⟩ : MethodName) prog_1_method_2_code 4 (some .int))) B.pre w (List.mem_cons_of_mem _ h), B.notSynchronized, hz, hK, hG⟩
  obtain ⟨hx, hb, hr, hml, hown, hts, hlocks, hz, hK, hG⟩ := id C0
  have hS : va_S (x_A G) s.heap s.heap [] := va_S.rf
  have hl := lv_entry ([.ref (x_ad G 0), .int p1, .int p2]) (n := 4) (Nat.le_of_ble_eq_true rfl)
  rw [lg_entry_eq]
  generalize (lg_sl ([.ref (x_ad G 0), .int p1, .int p2]) ++ List.replicate (4 - (lg_sl ([.ref (x_ad G 0), .int p1, .int p2])).length) Slot.unset).toArray = ls at hl ⊢
  have hl : lv_has ls 4 [(0, .ref (x_ad G 0)), (1, .int p1), (2, .int p2)] := hl
  rw [f_X_picture] at hf
  refine lv_aload_n hx hb d_X_picture_0 rfl (lv_at hl 0 rfl) ?_
  obtain ⟨r7, z7, hq8, hf⟩ := x_clx_r hf
  refine va_callv (va_runV (As := []) (rest := []) ⟨hx, hb, hml, hown, hts⟩ (c_X_refuseWhenCut l G z0 r7 z7 hq8) (cwV 0 hts (x_gV t_335 t_337 sel_ContentLibrary_refuseWhenCut t_1 t_338) rfl rfl rfl (by decide +kernel) ⟨Nat.le_of_ble_eq_true rfl, Nat.le_of_ble_eq_true rfl⟩) ⟨x_blind _ _ _, va_recv hK hP (ci := 0) (q0 := 0) rfl (x_lk_X G _), fun U hU hW => ⟨rfl, x_pw hP hD hK hG hS hz hU hW⟩⟩ rfl rfl hl.1 rfl (lv_room (Nat.le_of_ble_eq_true rfl)) d_X_picture_1 ⟨Nat.le_of_ble_eq_true rfl, Nat.le_of_ble_eq_true rfl⟩) hS (fun q _ h => h) (fun q h => h) (fun u t H locs ht hvm hw hB _ _ hS => ?_)
  obtain ⟨rfl, rfl⟩ := hw
  obtain ⟨hP, hD⟩ := x_back hB ht
  refine lv_iload_n hx hb d_X_picture_4 rfl (lv_at hl 1 rfl) ?_
  obtain ⟨r9, z9, hq10, hf⟩ := x_cl_some hf
  refine va_calli (va_runS (As := [.int p1]) (rest := []) ⟨hx, hb, hml, hown, hts⟩ (c_P_isSide l G p1 z7 r9 z9 hq10) (va_cwS 1 hts (x_gS t_408 t_224 t_4 t_225) rfl rfl rfl (by decide +kernel) ⟨Nat.le_of_ble_eq_true rfl, Nat.le_of_ble_eq_true rfl⟩) ⟨x_blind _ _ _, fun U hU hW => ⟨rfl, x_pw hP hD hK hG hS hz hU hW⟩⟩ rfl rfl hl.1 rfl (lv_room (Nat.le_of_ble_eq_true rfl)) d_X_picture_5 ⟨Nat.le_of_ble_eq_true rfl, Nat.le_of_ble_eq_true rfl⟩) hS (fun q _ h => h) (fun q h => h) (fun ra u t H locs ht hvm hw hB _ _ hS => ?_)
  obtain ⟨rfl, rfl⟩ := hw
  obtain ⟨hP, hD⟩ := x_back hB ht
  refine lv_if_eq (tgt := 18) hx hb d_X_picture_8 (by decide) (fun hc11 => ?_) (fun hc11 => ?_)
  · have hf := x_br_t hf hc11
    exact absurd hf x_no_r
  · have hf := x_br_f hf hc11
    refine lv_iload_n hx hb d_X_picture_11 rfl (lv_at hl 2 rfl) ?_
    obtain ⟨r12, z12, hq13, hf⟩ := x_cl_some hf
    refine va_calli (va_runS (As := [.int p2]) (rest := []) ⟨hx, hb, hml, hown, hts⟩ (c_P_isSide l G p2 z9 r12 z12 hq13) (va_cwS 1 hts (x_gS t_408 t_224 t_4 t_225) rfl rfl rfl (by decide +kernel) ⟨Nat.le_of_ble_eq_true rfl, Nat.le_of_ble_eq_true rfl⟩) ⟨x_blind _ _ _, fun U hU hW => ⟨rfl, x_pw hP hD hK hG hS hz hU hW⟩⟩ rfl rfl hl.1 rfl (lv_room (Nat.le_of_ble_eq_true rfl)) d_X_picture_12 ⟨Nat.le_of_ble_eq_true rfl, Nat.le_of_ble_eq_true rfl⟩) hS (fun q _ h => h) (fun q h => h) (fun ra u t H locs ht hvm hw hB _ _ hS => ?_)
    obtain ⟨rfl, rfl⟩ := hw
    obtain ⟨hP, hD⟩ := x_back hB ht
    refine lv_if_ne (tgt := 28) hx hb d_X_picture_15 (by decide) (fun hc14 => ?_) (fun hc14 => ?_)
    · have hf := x_br_f hf hc14
      refine lv_iconst (v := (0 : Int32)) hx hb d_X_picture_28 (by decide) ?_
      refine lv_istore_n (lv' := [(3, .int (0 : Int32)), (0, .ref (x_ad G 0)), (1, .int p1), (2, .int p2)]) hx hb d_X_picture_29 rfl hl (by decide) rfl (fun ls hl => ?_)
      exact w_X_picture_30 l G C0 r zo x_FU p1 p2 (0 : Int32) z12 hf _ _ _ hP hD hS (lv_sub hl [1, 2, 3, 0] rfl)
    · have hf := x_br_t hf hc14
      exact absurd hf x_no_r
set_option maxHeartbeats 4000000 in
set_option maxRecDepth 100000 in
theorem w_X_picture_48_x (l : Launch) (G : x_G) {p : Program} {e : Env} {s : State} {m : MethodId} {args : Array Value} {below : List Frame} {meth : Method} {c : Code} (C0 : x_Ctx G p s m args meth c prog_1_method_2_code "ContentLibrary" 4 (some .int)) (hl9 : l.stackTraces = false) (hEx : ∀ x ∈ c.exceptionTable.toList, False) (E : String) (zo : x_St) : ∀ (a1 : Int32) (a2 : Int32) (a3 : Int32) (z0 : x_St), f_X_picture_48 (x_n G) a1 a2 a3 z0 = some (Sum.inl E, zo) → ∀ (H : Heap) (locs : List Loc) (ls : Array Slot), va_P (x_D G) vwCl (x_Wd G z0) H → va_D (x_A G) (x_Wd G z0) → va_S (x_A G) s.heap H locs → lv_has ls 4 [(0, .ref (x_ad G 0)), (1, .int a1), (2, .int a2), (3, .int a3)] → W p l e rx_X_picture s m args below meth c H locs 0 0 (e_MQ below G E zo s 1 6) (F0 m 48 ls []) := by
  obtain ⟨hx, hb, hr, hml, hown, hts, hlocks, hz, hK, hG⟩ := id C0
  intro a1 a2 a3 z0 hf H locs ls hP hD hS hl
  rw [f_X_picture_48] at hf
  refine lv_aload_n hx hb d_X_picture_48 rfl (lv_at hl 0 rfl) ?_
  refine va_get (D := x_D G) (ci := 0) (v := .ref (x_ad G 5)) (C := "ContentLibrary") (T := x_TX) (N := 9) hx hb hts x_inX hown hK hP 0 (x_lk_X G _) rfl 2 (by decide) (hts _ t_132) (fun _ h9 => h9) rfl d_X_picture_49 ?_
  refine lv_iload_n hx hb d_X_picture_52 rfl (lv_at hl 3 rfl) ?_
  obtain ⟨hin1, hf⟩ := x_ck_some hf
  refine va_aldq hx hb hK hP 5 2 (x_lk_made G _) rfl hin1 d_X_picture_53 ?_
  refine W.eq (g2 := F0 m 54 ls [.ref (x_ad G (6 + 2 * (a3).toNatClampNeg))]) rfl ?_
  refine lv_iload_n hx hb d_X_picture_54 rfl (lv_at hl 1 rfl) ?_
  refine lv_iload_n hx hb d_X_picture_55 rfl (lv_at hl 2 rfl) ?_
  obtain ⟨r2, z2, hq3, hf⟩ := x_cl_some hf
  refine va_callv (va_runV (As := [.int a1, .int a2]) (rest := []) ⟨hx, hb, hml, hown, hts⟩ (c_P_begin l G (6 + 2 * (a3).toNatClampNeg) (x_el_P hin1) a1 a2 z0 r2 z2 hq3) (cwV 2 hts (x_gV t_425 t_426 t_427 t_4 t_428) rfl rfl rfl (by decide +kernel) ⟨Nat.le_of_ble_eq_true rfl, Nat.le_of_ble_eq_true rfl⟩) ⟨x_blind _ _ _, va_recv hK hP (ci := 2) (q0 := (6 + 2 * (a3).toNatClampNeg)) rfl (x_lk_P G _ (x_el_P hin1)), fun U hU hW => ⟨rfl, x_pw hP hD hK hG hS hz hU hW⟩⟩ rfl rfl hl.1 rfl (lv_room (Nat.le_of_ble_eq_true rfl)) d_X_picture_56 ⟨Nat.le_of_ble_eq_true rfl, Nat.le_of_ble_eq_true rfl⟩) hS (fun q _ h => h) (fun q h => h) (fun u t H locs ht hvm hw hB _ _ hS => ?_)
  obtain ⟨rfl, rfl⟩ := hw
  obtain ⟨hP, hD⟩ := x_back hB ht
  refine lv_iload_n hx hb d_X_picture_59 rfl (lv_at hl 3 rfl) ?_
  exact absurd hf x_no_x
set_option maxHeartbeats 4000000 in
set_option maxRecDepth 100000 in
theorem w_X_picture_30_x (l : Launch) (G : x_G) {p : Program} {e : Env} {s : State} {m : MethodId} {args : Array Value} {below : List Frame} {meth : Method} {c : Code} (C0 : x_Ctx G p s m args meth c prog_1_method_2_code "ContentLibrary" 4 (some .int)) (hl9 : l.stackTraces = false) (hEx : ∀ x ∈ c.exceptionTable.toList, False) (E : String) (zo : x_St) : ∀ (fu : Nat), ∀ (a1 : Int32) (a2 : Int32) (a3 : Int32) (z0 : x_St), f_X_picture_30 (x_n G) fu a1 a2 a3 z0 = some (Sum.inl E, zo) → ∀ (H : Heap) (locs : List Loc) (ls : Array Slot), va_P (x_D G) vwCl (x_Wd G z0) H → va_D (x_A G) (x_Wd G z0) → va_S (x_A G) s.heap H locs → lv_has ls 4 [(0, .ref (x_ad G 0)), (1, .int a1), (2, .int a2), (3, .int a3)] → W p l e rx_X_picture s m args below meth c H locs 0 0 (e_MQ below G E zo s 1 6) (F0 m 30 ls []) := by
  obtain ⟨hx, hb, hr, hml, hown, hts, hlocks, hz, hK, hG⟩ := id C0
  intro fu
  induction fu with
  | zero =>
    intro a1 a2 a3 z0 hf
    rw [f_X_picture_30] at hf
    cases hf
  | succ fu ih =>
    intro a1 a2 a3 z0 hf H locs ls hP hD hS hl
    rw [f_X_picture_30] at hf
    refine lv_iload_n hx hb d_X_picture_30 rfl (lv_at hl 3 rfl) ?_
    refine lv_bipush (v := (8 : Int32)) hx hb d_X_picture_31 (by decide) ?_
    refine lv_icmp_ge (tgt := 67) hx hb d_X_picture_33 (by decide) (fun hc4 => ?_) (fun hc4 => ?_)
    · have hf := x_br_t hf hc4
      obtain ⟨rfl, rfl⟩ := x_retx hf
      exact e_throw (text := "eight pictures are being made") (is := 90) hx hb hl9 hown (by decide +kernel) (by decide) (by decide +kernel) hts t_429 t_13 at_92_UnsupportedOperationException hG hS (hl.1.trans hml.symm) d_X_picture_67 d_X_picture_70 d_X_picture_71 d_X_picture_73 d_X_picture_76 hEx (Nat.le_of_ble_eq_true rfl) (Nat.le_of_ble_eq_true rfl) (Nat.le_of_ble_eq_true rfl) (Nat.le_of_ble_eq_true rfl) hlocks (fun t hW hsz hk => x_pwk hP hD hK hG hS hz hsz hk hW) (Nat.le_of_ble_eq_true rfl) (Nat.le_of_ble_eq_true rfl)
    · have hf := x_br_f hf hc4
      refine lv_aload_n hx hb d_X_picture_36 rfl (lv_at hl 0 rfl) ?_
      refine va_get (D := x_D G) (ci := 0) (v := .ref (x_ad G 5)) (C := "ContentLibrary") (T := x_TX) (N := 9) hx hb hts x_inX hown hK hP 0 (x_lk_X G _) rfl 2 (by decide) (hts _ t_132) (fun _ h9 => h9) rfl d_X_picture_37 ?_
      refine lv_iload_n hx hb d_X_picture_40 rfl (lv_at hl 3 rfl) ?_
      obtain ⟨hin5, hf⟩ := x_ck_some hf
      refine va_aldq hx hb hK hP 5 2 (x_lk_made G _) rfl hin5 d_X_picture_41 ?_
      refine W.eq (g2 := F0 m 42 ls [.ref (x_ad G (6 + 2 * (a3).toNatClampNeg))]) rfl ?_
      refine va_get (D := x_D G) (ci := 2) (v := .int (z0.1 (6 + 2 * (a3).toNatClampNeg) 0)) (C := "ContentLibrary$Picture") (T := x_TP) (N := 3) hx hb hts x_inP hown hK hP (6 + 2 * (a3).toNatClampNeg) (x_lk_P G _ (x_el_P hin5)) rfl 0 (by decide) (hts _ t_67) (fun _ h9 => h9) rfl d_X_picture_42 ?_
      refine lv_if_ne (tgt := 61) hx hb d_X_picture_45 (by decide) (fun hc6 => ?_) (fun hc6 => ?_)
      · have hf := x_br_f hf hc6
        refine lv_iinc (v := (a3 + (1 : Int32))) (lv' := [(3, .int (a3 + (1 : Int32))), (0, .ref (x_ad G 0)), (1, .int a1), (2, .int a2)]) hx hb d_X_picture_61 hl (k := 3) rfl rfl (by decide) rfl (fun ls hl => ?_)
        refine lv_goto (tgt := 30) hx hb d_X_picture_64 (by decide) ?_
        exact ih a1 a2 (a3 + (1 : Int32)) z0 hf _ _ _ hP hD hS (lv_sub hl [1, 2, 3, 0] rfl)
      · have hf := x_br_t hf hc6
        exact w_X_picture_48_x l G C0 hl9 hEx E zo a1 a2 a3 z0 hf _ _ _ hP hD hS (lv_sub hl [0, 1, 2, 3] rfl)
set_option maxHeartbeats 4000000 in
set_option maxRecDepth 100000 in
theorem c_X_picture_x (l : Launch) (G : x_G) (hl9 : l.stackTraces = false) (p1 : Int32) (p2 : Int32) (z0 : x_St) (E : String) (zo : x_St) (hf : f_X_picture (x_n G) p1 p2 z0 = some (Sum.inl E, zo)) : e_Met l G (⟨"ContentLibrary", "picture", "(II)I"⟩ : MethodName) (x_ws (⟨"ContentLibrary", "picture", "(II)I"⟩ : MethodName) prog_1_method_2_code 4 (some .int)) rx_X_picture (va_Pc [.ref (x_ad G 0), .int p1, .int p2] (x_PW G z0)) E zo 1 6 := by
  refine e_ofW (cc := prog_1_method_2_code) (maxL := 4) (ret := (some .int)) (by decide) rfl ?_
  intro p e s m args below meth c s₁ B hml hEx hv
  obtain ⟨rfl, hz, hP, hD, hK, hG⟩ := hv
  have C0 : x_Ctx G p s m _ meth c prog_1_method_2_code "ContentLibrary" 4 (some .int) := ⟨B.exec, B.bytes, B.returns, hml, findClass_of_methodNamed B.named, fun w h => atoms_spec (ws := (x_ws (⟨"ContentLibrary", "picture", "(II)I"⟩ : MethodName) prog_1_method_2_code 4 (some .int))) B.pre w (List.mem_cons_of_mem _ h), B.notSynchronized, hz, hK, hG⟩
  obtain ⟨hx, hb, hr, hml, hown, hts, hlocks, hz, hK, hG⟩ := id C0
  have hS : va_S (x_A G) s.heap s.heap [] := va_S.rf
  have hl := lv_entry ([.ref (x_ad G 0), .int p1, .int p2]) (n := 4) (Nat.le_of_ble_eq_true rfl)
  rw [lg_entry_eq]
  generalize (lg_sl ([.ref (x_ad G 0), .int p1, .int p2]) ++ List.replicate (4 - (lg_sl ([.ref (x_ad G 0), .int p1, .int p2])).length) Slot.unset).toArray = ls at hl ⊢
  have hl : lv_has ls 4 [(0, .ref (x_ad G 0)), (1, .int p1), (2, .int p2)] := hl
  rw [f_X_picture] at hf
  refine lv_aload_n hx hb d_X_picture_0 rfl (lv_at hl 0 rfl) ?_
  rcases x_clx_x hf with hq8 | ⟨r7, z7, hq8, hf⟩
  · exact e_callV (As := []) (rest := []) ⟨hx, hb, hml, hown, hts⟩ (c_X_refuseWhenCut_x l G hl9 z0 E zo hq8) (cwV 0 hts (x_gV t_335 t_337 sel_ContentLibrary_refuseWhenCut t_1 t_338) rfl rfl rfl (by decide +kernel) ⟨Nat.le_of_ble_eq_true rfl, Nat.le_of_ble_eq_true rfl⟩) ⟨x_blind _ _ _, va_recv hK hP (ci := 0) (q0 := 0) rfl (x_lk_X G _), fun U hU hW => ⟨rfl, x_pw hP hD hK hG hS hz hU hW⟩⟩ rfl hl.1 rfl (lv_room (Nat.le_of_ble_eq_true rfl)) d_X_picture_1 ⟨Nat.le_of_ble_eq_true rfl, Nat.le_of_ble_eq_true rfl⟩ hz hS (fun q ce H locs hP hD hS hce hcv hcl => e_out (fun x hx => (hEx x hx).elim) hlocks hce hcv hcl hS (fun t ht hW => x_pw hP hD hK hG hS hz ht hW) (Nat.le_of_ble_eq_true rfl) (Nat.le_of_ble_eq_true rfl))
  refine va_callv (va_runV (As := []) (rest := []) ⟨hx, hb, hml, hown, hts⟩ (c_X_refuseWhenCut l G z0 r7 z7 hq8) (cwV 0 hts (x_gV t_335 t_337 sel_ContentLibrary_refuseWhenCut t_1 t_338) rfl rfl rfl (by decide +kernel) ⟨Nat.le_of_ble_eq_true rfl, Nat.le_of_ble_eq_true rfl⟩) ⟨x_blind _ _ _, va_recv hK hP (ci := 0) (q0 := 0) rfl (x_lk_X G _), fun U hU hW => ⟨rfl, x_pw hP hD hK hG hS hz hU hW⟩⟩ rfl rfl hl.1 rfl (lv_room (Nat.le_of_ble_eq_true rfl)) d_X_picture_1 ⟨Nat.le_of_ble_eq_true rfl, Nat.le_of_ble_eq_true rfl⟩) hS (fun q _ h => h) (fun q h => h) (fun u t H locs ht hvm hw hB _ _ hS => ?_)
  obtain ⟨rfl, rfl⟩ := hw
  obtain ⟨hP, hD⟩ := x_back hB ht
  refine lv_iload_n hx hb d_X_picture_4 rfl (lv_at hl 1 rfl) ?_
  obtain ⟨r9, z9, hq10, hf⟩ := x_cl_some hf
  refine va_calli (va_runS (As := [.int p1]) (rest := []) ⟨hx, hb, hml, hown, hts⟩ (c_P_isSide l G p1 z7 r9 z9 hq10) (va_cwS 1 hts (x_gS t_408 t_224 t_4 t_225) rfl rfl rfl (by decide +kernel) ⟨Nat.le_of_ble_eq_true rfl, Nat.le_of_ble_eq_true rfl⟩) ⟨x_blind _ _ _, fun U hU hW => ⟨rfl, x_pw hP hD hK hG hS hz hU hW⟩⟩ rfl rfl hl.1 rfl (lv_room (Nat.le_of_ble_eq_true rfl)) d_X_picture_5 ⟨Nat.le_of_ble_eq_true rfl, Nat.le_of_ble_eq_true rfl⟩) hS (fun q _ h => h) (fun q h => h) (fun ra u t H locs ht hvm hw hB _ _ hS => ?_)
  obtain ⟨rfl, rfl⟩ := hw
  obtain ⟨hP, hD⟩ := x_back hB ht
  refine lv_if_eq (tgt := 18) hx hb d_X_picture_8 (by decide) (fun hc11 => ?_) (fun hc11 => ?_)
  · have hf := x_br_t hf hc11
    obtain ⟨rfl, rfl⟩ := x_retx hf
    exact e_throw (text := "a width and a height are 1 .. 8") (is := 75) hx hb hl9 hown (by decide +kernel) (by decide) (by decide +kernel) hts t_409 t_12 at_77_IllegalArgumentException hG hS (hl.1.trans hml.symm) d_X_picture_18 d_X_picture_21 d_X_picture_22 d_X_picture_24 d_X_picture_27 hEx (Nat.le_of_ble_eq_true rfl) (Nat.le_of_ble_eq_true rfl) (Nat.le_of_ble_eq_true rfl) (Nat.le_of_ble_eq_true rfl) hlocks (fun t hW hsz hk => x_pwk hP hD hK hG hS hz hsz hk hW) (Nat.le_of_ble_eq_true rfl) (Nat.le_of_ble_eq_true rfl)
  · have hf := x_br_f hf hc11
    refine lv_iload_n hx hb d_X_picture_11 rfl (lv_at hl 2 rfl) ?_
    obtain ⟨r12, z12, hq13, hf⟩ := x_cl_some hf
    refine va_calli (va_runS (As := [.int p2]) (rest := []) ⟨hx, hb, hml, hown, hts⟩ (c_P_isSide l G p2 z9 r12 z12 hq13) (va_cwS 1 hts (x_gS t_408 t_224 t_4 t_225) rfl rfl rfl (by decide +kernel) ⟨Nat.le_of_ble_eq_true rfl, Nat.le_of_ble_eq_true rfl⟩) ⟨x_blind _ _ _, fun U hU hW => ⟨rfl, x_pw hP hD hK hG hS hz hU hW⟩⟩ rfl rfl hl.1 rfl (lv_room (Nat.le_of_ble_eq_true rfl)) d_X_picture_12 ⟨Nat.le_of_ble_eq_true rfl, Nat.le_of_ble_eq_true rfl⟩) hS (fun q _ h => h) (fun q h => h) (fun ra u t H locs ht hvm hw hB _ _ hS => ?_)
    obtain ⟨rfl, rfl⟩ := hw
    obtain ⟨hP, hD⟩ := x_back hB ht
    refine lv_if_ne (tgt := 28) hx hb d_X_picture_15 (by decide) (fun hc14 => ?_) (fun hc14 => ?_)
    · have hf := x_br_f hf hc14
      refine lv_iconst (v := (0 : Int32)) hx hb d_X_picture_28 (by decide) ?_
      refine lv_istore_n (lv' := [(3, .int (0 : Int32)), (0, .ref (x_ad G 0)), (1, .int p1), (2, .int p2)]) hx hb d_X_picture_29 rfl hl (by decide) rfl (fun ls hl => ?_)
      exact w_X_picture_30_x l G C0 hl9 hEx E zo x_FU p1 p2 (0 : Int32) z12 hf _ _ _ hP hD hS (lv_sub hl [1, 2, 3, 0] rfl)
    · have hf := x_br_t hf hc14
      obtain ⟨rfl, rfl⟩ := x_retx hf
      exact e_throw (text := "a width and a height are 1 .. 8") (is := 75) hx hb hl9 hown (by decide +kernel) (by decide) (by decide +kernel) hts t_409 t_12 at_77_IllegalArgumentException hG hS (hl.1.trans hml.symm) d_X_picture_18 d_X_picture_21 d_X_picture_22 d_X_picture_24 d_X_picture_27 hEx (Nat.le_of_ble_eq_true rfl) (Nat.le_of_ble_eq_true rfl) (Nat.le_of_ble_eq_true rfl) (Nat.le_of_ble_eq_true rfl) hlocks (fun t hW hsz hk => x_pwk hP hD hK hG hS hz hsz hk hW) (Nat.le_of_ble_eq_true rfl) (Nat.le_of_ble_eq_true rfl)
abbrev rm_X_samples : Room := { frames := 7, cells := 0, slots := 0, locals := 103 }
abbrev rx_X_samples : Room := { frames := 7, cells := 1, slots := 6, locals := 103 }
set_option maxHeartbeats 4000000 in
set_option maxRecDepth 100000 in
theorem c_X_samples (l : Launch) (G : x_G) (p1 : Int32) (p2 : Int32) (p3 : Int32) (p4 : Int32) (z0 : x_St) (r : Int32) (zo : x_St) (hf : f_X_samples (x_n G) p1 p2 p3 p4 z0 = some (Sum.inr r, zo)) : Met l (⟨"ContentLibrary", "samples", "(IIII)I"⟩ : MethodName) (x_ws (⟨"ContentLibrary", "samples", "(IIII)I"⟩ : MethodName) prog_1_method_3_code 6 (some .int)) rm_X_samples (va_Pc [.ref (x_ad G 0), .int p1, .int p2, .int p3, .int p4] (x_PW G z0)) (va_Qi (fun a u => r = a ∧ zo = u) (x_PW G) (x_A G)) 0 0 (x_A G) := by
  refine Met.ofW (cc := prog_1_method_3_code) (maxL := 6) (ret := (some .int)) (by decide) rfl ?_
  intro p e s m args below meth c s₁ B hml hv
  obtain ⟨rfl, hz, hP, hD, hK, hG⟩ := hv
  have C0 : x_Ctx G p s m _ meth c prog_1_method_3_code "ContentLibrary" 6 (some .int) := ⟨B.exec, B.bytes, B.returns, hml, findClass_of_methodNamed B.named, fun w h => atoms_spec (ws := (x_ws (⟨"ContentLibrary", "samples", "(IIII)I"⟩ : MethodName) prog_1_method_3_code 6 (some .int))) B.pre w (List.mem_cons_of_mem _ h), B.notSynchronized, hz, hK, hG⟩
  obtain ⟨hx, hb, hr, hml, hown, hts, hlocks, hz, hK, hG⟩ := id C0
  have hS : va_S (x_A G) s.heap s.heap [] := va_S.rf
  have hl := lv_entry ([.ref (x_ad G 0), .int p1, .int p2, .int p3, .int p4]) (n := 6) (Nat.le_of_ble_eq_true rfl)
  rw [lg_entry_eq]
  generalize (lg_sl ([.ref (x_ad G 0), .int p1, .int p2, .int p3, .int p4]) ++ List.replicate (6 - (lg_sl ([.ref (x_ad G 0), .int p1, .int p2, .int p3, .int p4])).length) Slot.unset).toArray = ls at hl ⊢
  have hl : lv_has ls 6 [(0, .ref (x_ad G 0)), (1, .int p1), (2, .int p2), (3, .int p3), (4, .int p4)] := hl
  rw [f_X_samples] at hf
  refine lv_aload_n hx hb d_X_samples_0 rfl (lv_at hl 0 rfl) ?_
  obtain ⟨r1, z1, hq2, hf⟩ := x_clx_r hf
  refine va_callv (va_runV (As := []) (rest := []) ⟨hx, hb, hml, hown, hts⟩ (c_X_refuseWhenCut l G z0 r1 z1 hq2) (cwV 0 hts (x_gV t_335 t_337 sel_ContentLibrary_refuseWhenCut t_1 t_338) rfl rfl rfl (by decide +kernel) ⟨Nat.le_of_ble_eq_true rfl, Nat.le_of_ble_eq_true rfl⟩) ⟨x_blind _ _ _, va_recv hK hP (ci := 0) (q0 := 0) rfl (x_lk_X G _), fun U hU hW => ⟨rfl, x_pw hP hD hK hG hS hz hU hW⟩⟩ rfl rfl hl.1 rfl (lv_room (Nat.le_of_ble_eq_true rfl)) d_X_samples_1 ⟨Nat.le_of_ble_eq_true rfl, Nat.le_of_ble_eq_true rfl⟩) hS (fun q _ h => h) (fun q h => h) (fun u t H locs ht hvm hw hB _ _ hS => ?_)
  obtain ⟨rfl, rfl⟩ := hw
  obtain ⟨hP, hD⟩ := x_back hB ht
  refine lv_aload_n hx hb d_X_samples_4 rfl (lv_at hl 0 rfl) ?_
  refine lv_iload_n hx hb d_X_samples_5 rfl (lv_at hl 1 rfl) ?_
  obtain ⟨r3, z3, hq4, hf⟩ := x_clx_r hf
  refine va_callr (va_runV (As := [.int p1]) (rest := []) ⟨hx, hb, hml, hown, hts⟩ (c_X_pictureBeingMade l G p1 z1 r3 z3 hq4) (cwV 1 hts (x_gV t_453 t_455 sel_ContentLibrary_pictureBeingMade t_1 t_456) rfl rfl rfl (by decide +kernel) ⟨Nat.le_of_ble_eq_true rfl, Nat.le_of_ble_eq_true rfl⟩) ⟨x_blind _ _ _, va_recv hK hP (ci := 0) (q0 := 0) rfl (x_lk_X G _), fun U hU hW => ⟨rfl, x_pw hP hD hK hG hS hz hU hW⟩⟩ rfl rfl hl.1 rfl (lv_room (Nat.le_of_ble_eq_true rfl)) d_X_samples_6 ⟨Nat.le_of_ble_eq_true rfl, Nat.le_of_ble_eq_true rfl⟩) hS (fun q _ h => h) (fun q h => h) (fun u ra t H locs ht hvm hw hB _ _ hS => ?_)
  obtain rfl := hw
  obtain ⟨_, rfl, hr3, rfl, hB⟩ := hB
  obtain ⟨hP, hD⟩ := x_back hB ht
  refine lv_astore (lv' := [(5, .ref (x_ad G r3)), (0, .ref (x_ad G 0)), (1, .int p1), (2, .int p2), (3, .int p3), (4, .int p4)]) hx hb d_X_samples_9 hl (by decide) rfl (fun ls hl => ?_)
  refine lv_iload_n hx hb d_X_samples_11 rfl (lv_at hl 3 rfl) ?_
  refine lv_iconst (v := (1 : Int32)) hx hb d_X_samples_12 (by decide) ?_
  refine lv_icmp_ge (tgt := 26) hx hb d_X_samples_13 (by decide) (fun hc5 => ?_) (fun hc5 => ?_)
  · have hf := x_br_t hf hc5
    refine lv_aload hx hb d_X_samples_26 (lv_at hl 0 rfl) ?_
    refine lv_iload_n hx hb d_X_samples_28 rfl (lv_at hl 3 rfl) ?_
    refine lv_iload_n hx hb d_X_samples_29 rfl (lv_at hl 4 rfl) ?_
    refine lv_iload hx hb d_X_samples_30 (lv_at hl 5 rfl) ?_
    obtain ⟨r6, z6, hq7, hf⟩ := x_cl_some hf
    refine va_calli (va_runV (As := [.int p2, .int p3, .int p4]) (rest := []) ⟨hx, hb, hml, hown, hts⟩ (c_P_take l G r3 hr3 p2 p3 p4 z3 r6 z6 hq7) (cwV 3 hts (x_gV t_474 t_475 t_476 t_4 t_477) rfl rfl rfl (by decide +kernel) ⟨Nat.le_of_ble_eq_true rfl, Nat.le_of_ble_eq_true rfl⟩) ⟨x_blind _ _ _, va_recv hK hP (ci := 2) (q0 := r3) rfl (x_lk_P G _ hr3), fun U hU hW => ⟨rfl, x_pw hP hD hK hG hS hz hU hW⟩⟩ rfl rfl hl.1 rfl (lv_room (Nat.le_of_ble_eq_true rfl)) d_X_samples_32 ⟨Nat.le_of_ble_eq_true rfl, Nat.le_of_ble_eq_true rfl⟩) hS (fun q _ h => h) (fun q h => h) (fun ra u t H locs ht hvm hw hB _ _ hS => ?_)
    obtain ⟨rfl, rfl⟩ := hw
    obtain ⟨hP, hD⟩ := x_back hB ht
    obtain ⟨rfl, rfl⟩ := x_retr hf
    exact W.iret (v := r6) hx hb hr (fun t ht hW => ⟨⟨_, _, rfl, ⟨rfl, rfl⟩, x_pw hP hD hK hG hS hz ht hW⟩, hS.F ht⟩) hS.2.2 d_X_samples_35
  · have hf := x_br_f hf hc5
    exact absurd hf x_no_r
set_option maxHeartbeats 4000000 in
set_option maxRecDepth 100000 in
theorem c_X_samples_x (l : Launch) (G : x_G) (hl9 : l.stackTraces = false) (p1 : Int32) (p2 : Int32) (p3 : Int32) (p4 : Int32) (z0 : x_St) (E : String) (zo : x_St) (hf : f_X_samples (x_n G) p1 p2 p3 p4 z0 = some (Sum.inl E, zo)) : e_Met l G (⟨"ContentLibrary", "samples", "(IIII)I"⟩ : MethodName) (x_ws (⟨"ContentLibrary", "samples", "(IIII)I"⟩ : MethodName) prog_1_method_3_code 6 (some .int)) rx_X_samples (va_Pc [.ref (x_ad G 0), .int p1, .int p2, .int p3, .int p4] (x_PW G z0)) E zo 1 6 := by
  refine e_ofW (cc := prog_1_method_3_code) (maxL := 6) (ret := (some .int)) (by decide) rfl ?_
  intro p e s m args below meth c s₁ B hml hEx hv
  obtain ⟨rfl, hz, hP, hD, hK, hG⟩ := hv
  have C0 : x_Ctx G p s m _ meth c prog_1_method_3_code "ContentLibrary" 6 (some .int) := ⟨B.exec, B.bytes, B.returns, hml, findClass_of_methodNamed B.named, fun w h => atoms_spec (ws := (x_ws (⟨"ContentLibrary", "samples", "(IIII)I"⟩ : MethodName) prog_1_method_3_code 6 (some .int))) B.pre w (List.mem_cons_of_mem _ h), B.notSynchronized, hz, hK, hG⟩
  obtain ⟨hx, hb, hr, hml, hown, hts, hlocks, hz, hK, hG⟩ := id C0
  have hS : va_S (x_A G) s.heap s.heap [] := va_S.rf
  have hl := lv_entry ([.ref (x_ad G 0), .int p1, .int p2, .int p3, .int p4]) (n := 6) (Nat.le_of_ble_eq_true rfl)
  rw [lg_entry_eq]
  generalize (lg_sl ([.ref (x_ad G 0), .int p1, .int p2, .int p3, .int p4]) ++ List.replicate (6 - (lg_sl ([.ref (x_ad G 0), .int p1, .int p2, .int p3, .int p4])).length) Slot.unset).toArray = ls at hl ⊢
  have hl : lv_has ls 6 [(0, .ref (x_ad G 0)), (1, .int p1), (2, .int p2), (3, .int p3), (4, .int p4)] := hl
  rw [f_X_samples] at hf
  refine lv_aload_n hx hb d_X_samples_0 rfl (lv_at hl 0 rfl) ?_
  rcases x_clx_x hf with hq2 | ⟨r1, z1, hq2, hf⟩
  · exact e_callV (As := []) (rest := []) ⟨hx, hb, hml, hown, hts⟩ (c_X_refuseWhenCut_x l G hl9 z0 E zo hq2) (cwV 0 hts (x_gV t_335 t_337 sel_ContentLibrary_refuseWhenCut t_1 t_338) rfl rfl rfl (by decide +kernel) ⟨Nat.le_of_ble_eq_true rfl, Nat.le_of_ble_eq_true rfl⟩) ⟨x_blind _ _ _, va_recv hK hP (ci := 0) (q0 := 0) rfl (x_lk_X G _), fun U hU hW => ⟨rfl, x_pw hP hD hK hG hS hz hU hW⟩⟩ rfl hl.1 rfl (lv_room (Nat.le_of_ble_eq_true rfl)) d_X_samples_1 ⟨Nat.le_of_ble_eq_true rfl, Nat.le_of_ble_eq_true rfl⟩ hz hS (fun q ce H locs hP hD hS hce hcv hcl => e_out (fun x hx => (hEx x hx).elim) hlocks hce hcv hcl hS (fun t ht hW => x_pw hP hD hK hG hS hz ht hW) (Nat.le_of_ble_eq_true rfl) (Nat.le_of_ble_eq_true rfl))
  refine va_callv (va_runV (As := []) (rest := []) ⟨hx, hb, hml, hown, hts⟩ (c_X_refuseWhenCut l G z0 r1 z1 hq2) (cwV 0 hts (x_gV t_335 t_337 sel_ContentLibrary_refuseWhenCut t_1 t_338) rfl rfl rfl (by decide +kernel) ⟨Nat.le_of_ble_eq_true rfl, Nat.le_of_ble_eq_true rfl⟩) ⟨x_blind _ _ _, va_recv hK hP (ci := 0) (q0 := 0) rfl (x_lk_X G _), fun U hU hW => ⟨rfl, x_pw hP hD hK hG hS hz hU hW⟩⟩ rfl rfl hl.1 rfl (lv_room (Nat.le_of_ble_eq_true rfl)) d_X_samples_1 ⟨Nat.le_of_ble_eq_true rfl, Nat.le_of_ble_eq_true rfl⟩) hS (fun q _ h => h) (fun q h => h) (fun u t H locs ht hvm hw hB _ _ hS => ?_)
  obtain ⟨rfl, rfl⟩ := hw
  obtain ⟨hP, hD⟩ := x_back hB ht
  refine lv_aload_n hx hb d_X_samples_4 rfl (lv_at hl 0 rfl) ?_
  refine lv_iload_n hx hb d_X_samples_5 rfl (lv_at hl 1 rfl) ?_
  rcases x_clx_x hf with hq4 | ⟨r3, z3, hq4, hf⟩
  · exact e_callV (As := [.int p1]) (rest := []) ⟨hx, hb, hml, hown, hts⟩ (c_X_pictureBeingMade_x l G hl9 p1 z1 E zo hq4) (cwV 1 hts (x_gV t_453 t_455 sel_ContentLibrary_pictureBeingMade t_1 t_456) rfl rfl rfl (by decide +kernel) ⟨Nat.le_of_ble_eq_true rfl, Nat.le_of_ble_eq_true rfl⟩) ⟨x_blind _ _ _, va_recv hK hP (ci := 0) (q0 := 0) rfl (x_lk_X G _), fun U hU hW => ⟨rfl, x_pw hP hD hK hG hS hz hU hW⟩⟩ rfl hl.1 rfl (lv_room (Nat.le_of_ble_eq_true rfl)) d_X_samples_6 ⟨Nat.le_of_ble_eq_true rfl, Nat.le_of_ble_eq_true rfl⟩ hz hS (fun q ce H locs hP hD hS hce hcv hcl => e_out (fun x hx => (hEx x hx).elim) hlocks hce hcv hcl hS (fun t ht hW => x_pw hP hD hK hG hS hz ht hW) (Nat.le_of_ble_eq_true rfl) (Nat.le_of_ble_eq_true rfl))
  refine va_callr (va_runV (As := [.int p1]) (rest := []) ⟨hx, hb, hml, hown, hts⟩ (c_X_pictureBeingMade l G p1 z1 r3 z3 hq4) (cwV 1 hts (x_gV t_453 t_455 sel_ContentLibrary_pictureBeingMade t_1 t_456) rfl rfl rfl (by decide +kernel) ⟨Nat.le_of_ble_eq_true rfl, Nat.le_of_ble_eq_true rfl⟩) ⟨x_blind _ _ _, va_recv hK hP (ci := 0) (q0 := 0) rfl (x_lk_X G _), fun U hU hW => ⟨rfl, x_pw hP hD hK hG hS hz hU hW⟩⟩ rfl rfl hl.1 rfl (lv_room (Nat.le_of_ble_eq_true rfl)) d_X_samples_6 ⟨Nat.le_of_ble_eq_true rfl, Nat.le_of_ble_eq_true rfl⟩) hS (fun q _ h => h) (fun q h => h) (fun u ra t H locs ht hvm hw hB _ _ hS => ?_)
  obtain rfl := hw
  obtain ⟨_, rfl, hr3, rfl, hB⟩ := hB
  obtain ⟨hP, hD⟩ := x_back hB ht
  refine lv_astore (lv' := [(5, .ref (x_ad G r3)), (0, .ref (x_ad G 0)), (1, .int p1), (2, .int p2), (3, .int p3), (4, .int p4)]) hx hb d_X_samples_9 hl (by decide) rfl (fun ls hl => ?_)
  refine lv_iload_n hx hb d_X_samples_11 rfl (lv_at hl 3 rfl) ?_
  refine lv_iconst (v := (1 : Int32)) hx hb d_X_samples_12 (by decide) ?_
  refine lv_icmp_ge (tgt := 26) hx hb d_X_samples_13 (by decide) (fun hc5 => ?_) (fun hc5 => ?_)
  · have hf := x_br_t hf hc5
    refine lv_aload hx hb d_X_samples_26 (lv_at hl 0 rfl) ?_
    refine lv_iload_n hx hb d_X_samples_28 rfl (lv_at hl 3 rfl) ?_
    refine lv_iload_n hx hb d_X_samples_29 rfl (lv_at hl 4 rfl) ?_
    refine lv_iload hx hb d_X_samples_30 (lv_at hl 5 rfl) ?_
    obtain ⟨r6, z6, hq7, hf⟩ := x_cl_some hf
    refine va_calli (va_runV (As := [.int p2, .int p3, .int p4]) (rest := []) ⟨hx, hb, hml, hown, hts⟩ (c_P_take l G r3 hr3 p2 p3 p4 z3 r6 z6 hq7) (cwV 3 hts (x_gV t_474 t_475 t_476 t_4 t_477) rfl rfl rfl (by decide +kernel) ⟨Nat.le_of_ble_eq_true rfl, Nat.le_of_ble_eq_true rfl⟩) ⟨x_blind _ _ _, va_recv hK hP (ci := 2) (q0 := r3) rfl (x_lk_P G _ hr3), fun U hU hW => ⟨rfl, x_pw hP hD hK hG hS hz hU hW⟩⟩ rfl rfl hl.1 rfl (lv_room (Nat.le_of_ble_eq_true rfl)) d_X_samples_32 ⟨Nat.le_of_ble_eq_true rfl, Nat.le_of_ble_eq_true rfl⟩) hS (fun q _ h => h) (fun q h => h) (fun ra u t H locs ht hvm hw hB _ _ hS => ?_)
    obtain ⟨rfl, rfl⟩ := hw
    obtain ⟨hP, hD⟩ := x_back hB ht
    exact absurd hf x_no_x
  · have hf := x_br_f hf hc5
    obtain ⟨rfl, rfl⟩ := x_retx hf
    exact e_throw (text := "samples come by one or more") (is := 97) hx hb hl9 hown (by decide +kernel) (by decide) (by decide +kernel) hts t_409 t_12 at_77_IllegalArgumentException hG hS (hl.1.trans hml.symm) d_X_samples_16 d_X_samples_19 d_X_samples_20 d_X_samples_22 d_X_samples_25 hEx (Nat.le_of_ble_eq_true rfl) (Nat.le_of_ble_eq_true rfl) (Nat.le_of_ble_eq_true rfl) (Nat.le_of_ble_eq_true rfl) hlocks (fun t hW hsz hk => x_pwk hP hD hK hG hS hz hsz hk hW) (Nat.le_of_ble_eq_true rfl) (Nat.le_of_ble_eq_true rfl)
abbrev rm_X_keep : Room := { frames := 7, cells := 0, slots := 0, locals := 103 }
abbrev rx_X_keep : Room := { frames := 7, cells := 1, slots := 6, locals := 103 }
set_option maxHeartbeats 4000000 in
set_option maxRecDepth 100000 in
theorem c_X_keep (l : Launch) (G : x_G) (p1 : Int32) (z0 : x_St) (r : Int32) (zo : x_St) (hf : f_X_keep (x_n G) p1 z0 = some (Sum.inr r, zo)) : Met l (⟨"ContentLibrary", "keep", "(I)I"⟩ : MethodName) (x_ws (⟨"ContentLibrary", "keep", "(I)I"⟩ : MethodName) prog_1_method_4_code 4 (some .int)) rm_X_keep (va_Pc [.ref (x_ad G 0), .int p1] (x_PW G z0)) (va_Qi (fun a u => r = a ∧ zo = u) (x_PW G) (x_A G)) 0 0 (x_A G) := by
  refine Met.ofW (cc := prog_1_method_4_code) (maxL := 4) (ret := (some .int)) (by decide) rfl ?_
  intro p e s m args below meth c s₁ B hml hv
  obtain ⟨rfl, hz, hP, hD, hK, hG⟩ := hv
  have C0 : x_Ctx G p s m _ meth c prog_1_method_4_code "ContentLibrary" 4 (some .int) := ⟨B.exec, B.bytes, B.returns, hml, findClass_of_methodNamed B.named, fun w h => atoms_spec (ws := (x_ws (⟨"ContentLibrary", "keep", "(I)I"⟩ : MethodName) prog_1_method_4_code 4 (some .int))) B.pre w (List.mem_cons_of_mem _ h), B.notSynchronized, hz, hK, hG⟩
  obtain ⟨hx, hb, hr, hml, hown, hts, hlocks, hz, hK, hG⟩ := id C0
  have hS : va_S (x_A G) s.heap s.heap [] := va_S.rf
  have hl := lv_entry ([.ref (x_ad G 0), .int p1]) (n := 4) (Nat.le_of_ble_eq_true rfl)
  rw [lg_entry_eq]
  generalize (lg_sl ([.ref (x_ad G 0), .int p1]) ++ List.replicate (4 - (lg_sl ([.ref (x_ad G 0), .int p1])).length) Slot.unset).toArray = ls at hl ⊢
  have hl : lv_has ls 4 [(0, .ref (x_ad G 0)), (1, .int p1)] := hl
  rw [f_X_keep] at hf
  refine lv_aload_n hx hb d_X_keep_0 rfl (lv_at hl 0 rfl) ?_
  obtain ⟨r1, z1, hq2, hf⟩ := x_clx_r hf
  refine va_callv (va_runV (As := []) (rest := []) ⟨hx, hb, hml, hown, hts⟩ (c_X_refuseWhenCut l G z0 r1 z1 hq2) (cwV 0 hts (x_gV t_335 t_337 sel_ContentLibrary_refuseWhenCut t_1 t_338) rfl rfl rfl (by decide +kernel) ⟨Nat.le_of_ble_eq_true rfl, Nat.le_of_ble_eq_true rfl⟩) ⟨x_blind _ _ _, va_recv hK hP (ci := 0) (q0 := 0) rfl (x_lk_X G _), fun U hU hW => ⟨rfl, x_pw hP hD hK hG hS hz hU hW⟩⟩ rfl rfl hl.1 rfl (lv_room (Nat.le_of_ble_eq_true rfl)) d_X_keep_1 ⟨Nat.le_of_ble_eq_true rfl, Nat.le_of_ble_eq_true rfl⟩) hS (fun q _ h => h) (fun q h => h) (fun u t H locs ht hvm hw hB _ _ hS => ?_)
  obtain ⟨rfl, rfl⟩ := hw
  obtain ⟨hP, hD⟩ := x_back hB ht
  refine lv_aload_n hx hb d_X_keep_4 rfl (lv_at hl 0 rfl) ?_
  refine lv_iload_n hx hb d_X_keep_5 rfl (lv_at hl 1 rfl) ?_
  obtain ⟨r3, z3, hq4, hf⟩ := x_clx_r hf
  refine va_callr (va_runV (As := [.int p1]) (rest := []) ⟨hx, hb, hml, hown, hts⟩ (c_X_pictureBeingMade l G p1 z1 r3 z3 hq4) (cwV 1 hts (x_gV t_453 t_455 sel_ContentLibrary_pictureBeingMade t_1 t_456) rfl rfl rfl (by decide +kernel) ⟨Nat.le_of_ble_eq_true rfl, Nat.le_of_ble_eq_true rfl⟩) ⟨x_blind _ _ _, va_recv hK hP (ci := 0) (q0 := 0) rfl (x_lk_X G _), fun U hU hW => ⟨rfl, x_pw hP hD hK hG hS hz hU hW⟩⟩ rfl rfl hl.1 rfl (lv_room (Nat.le_of_ble_eq_true rfl)) d_X_keep_6 ⟨Nat.le_of_ble_eq_true rfl, Nat.le_of_ble_eq_true rfl⟩) hS (fun q _ h => h) (fun q h => h) (fun u ra t H locs ht hvm hw hB _ _ hS => ?_)
  obtain rfl := hw
  obtain ⟨_, rfl, hr3, rfl, hB⟩ := hB
  obtain ⟨hP, hD⟩ := x_back hB ht
  refine lv_astore_n (lv' := [(2, .ref (x_ad G r3)), (0, .ref (x_ad G 0)), (1, .int p1)]) hx hb d_X_keep_9 rfl hl (by decide) rfl (fun ls hl => ?_)
  refine lv_aload_n hx hb d_X_keep_10 rfl (lv_at hl 0 rfl) ?_
  obtain ⟨r5, z5, hq6, hf⟩ := x_clx_r hf
  refine va_callv (va_runS (As := [.ref (x_ad G r3)]) (rest := []) ⟨hx, hb, hml, hown, hts⟩ (c_X_refuseUnlessWhole l G r3 hr3 z3 r5 z5 hq6) (va_cwS 1 hts (x_gS t_486 t_487 t_1 t_488) rfl rfl rfl (by decide +kernel) ⟨Nat.le_of_ble_eq_true rfl, Nat.le_of_ble_eq_true rfl⟩) ⟨x_blind _ _ _, fun U hU hW => ⟨rfl, x_pw hP hD hK hG hS hz hU hW⟩⟩ rfl rfl hl.1 rfl (lv_room (Nat.le_of_ble_eq_true rfl)) d_X_keep_11 ⟨Nat.le_of_ble_eq_true rfl, Nat.le_of_ble_eq_true rfl⟩) hS (fun q _ h => h) (fun q h => h) (fun u t H locs ht hvm hw hB _ _ hS => ?_)
  obtain ⟨rfl, rfl⟩ := hw
  obtain ⟨hP, hD⟩ := x_back hB ht
  cases hf
set_option maxHeartbeats 4000000 in
set_option maxRecDepth 100000 in
theorem c_X_keep_x (l : Launch) (G : x_G) (hl9 : l.stackTraces = false) (p1 : Int32) (z0 : x_St) (E : String) (zo : x_St) (hf : f_X_keep (x_n G) p1 z0 = some (Sum.inl E, zo)) : e_Met l G (⟨"ContentLibrary", "keep", "(I)I"⟩ : MethodName) (x_ws (⟨"ContentLibrary", "keep", "(I)I"⟩ : MethodName) prog_1_method_4_code 4 (some .int)) rx_X_keep (va_Pc [.ref (x_ad G 0), .int p1] (x_PW G z0)) E zo 1 6 := by
  refine e_ofW (cc := prog_1_method_4_code) (maxL := 4) (ret := (some .int)) (by decide) rfl ?_
  intro p e s m args below meth c s₁ B hml hEx hv
  obtain ⟨rfl, hz, hP, hD, hK, hG⟩ := hv
  have C0 : x_Ctx G p s m _ meth c prog_1_method_4_code "ContentLibrary" 4 (some .int) := ⟨B.exec, B.bytes, B.returns, hml, findClass_of_methodNamed B.named, fun w h => atoms_spec (ws := (x_ws (⟨"ContentLibrary", "keep", "(I)I"⟩ : MethodName) prog_1_method_4_code 4 (some .int))) B.pre w (List.mem_cons_of_mem _ h), B.notSynchronized, hz, hK, hG⟩
  obtain ⟨hx, hb, hr, hml, hown, hts, hlocks, hz, hK, hG⟩ := id C0
  have hS : va_S (x_A G) s.heap s.heap [] := va_S.rf
  have hl := lv_entry ([.ref (x_ad G 0), .int p1]) (n := 4) (Nat.le_of_ble_eq_true rfl)
  rw [lg_entry_eq]
  generalize (lg_sl ([.ref (x_ad G 0), .int p1]) ++ List.replicate (4 - (lg_sl ([.ref (x_ad G 0), .int p1])).length) Slot.unset).toArray = ls at hl ⊢
  have hl : lv_has ls 4 [(0, .ref (x_ad G 0)), (1, .int p1)] := hl
  rw [f_X_keep] at hf
  refine lv_aload_n hx hb d_X_keep_0 rfl (lv_at hl 0 rfl) ?_
  rcases x_clx_x hf with hq2 | ⟨r1, z1, hq2, hf⟩
  · exact e_callV (As := []) (rest := []) ⟨hx, hb, hml, hown, hts⟩ (c_X_refuseWhenCut_x l G hl9 z0 E zo hq2) (cwV 0 hts (x_gV t_335 t_337 sel_ContentLibrary_refuseWhenCut t_1 t_338) rfl rfl rfl (by decide +kernel) ⟨Nat.le_of_ble_eq_true rfl, Nat.le_of_ble_eq_true rfl⟩) ⟨x_blind _ _ _, va_recv hK hP (ci := 0) (q0 := 0) rfl (x_lk_X G _), fun U hU hW => ⟨rfl, x_pw hP hD hK hG hS hz hU hW⟩⟩ rfl hl.1 rfl (lv_room (Nat.le_of_ble_eq_true rfl)) d_X_keep_1 ⟨Nat.le_of_ble_eq_true rfl, Nat.le_of_ble_eq_true rfl⟩ hz hS (fun q ce H locs hP hD hS hce hcv hcl => e_out (fun x hx => (hEx x hx).elim) hlocks hce hcv hcl hS (fun t ht hW => x_pw hP hD hK hG hS hz ht hW) (Nat.le_of_ble_eq_true rfl) (Nat.le_of_ble_eq_true rfl))
  refine va_callv (va_runV (As := []) (rest := []) ⟨hx, hb, hml, hown, hts⟩ (c_X_refuseWhenCut l G z0 r1 z1 hq2) (cwV 0 hts (x_gV t_335 t_337 sel_ContentLibrary_refuseWhenCut t_1 t_338) rfl rfl rfl (by decide +kernel) ⟨Nat.le_of_ble_eq_true rfl, Nat.le_of_ble_eq_true rfl⟩) ⟨x_blind _ _ _, va_recv hK hP (ci := 0) (q0 := 0) rfl (x_lk_X G _), fun U hU hW => ⟨rfl, x_pw hP hD hK hG hS hz hU hW⟩⟩ rfl rfl hl.1 rfl (lv_room (Nat.le_of_ble_eq_true rfl)) d_X_keep_1 ⟨Nat.le_of_ble_eq_true rfl, Nat.le_of_ble_eq_true rfl⟩) hS (fun q _ h => h) (fun q h => h) (fun u t H locs ht hvm hw hB _ _ hS => ?_)
  obtain ⟨rfl, rfl⟩ := hw
  obtain ⟨hP, hD⟩ := x_back hB ht
  refine lv_aload_n hx hb d_X_keep_4 rfl (lv_at hl 0 rfl) ?_
  refine lv_iload_n hx hb d_X_keep_5 rfl (lv_at hl 1 rfl) ?_
  rcases x_clx_x hf with hq4 | ⟨r3, z3, hq4, hf⟩
  · exact e_callV (As := [.int p1]) (rest := []) ⟨hx, hb, hml, hown, hts⟩ (c_X_pictureBeingMade_x l G hl9 p1 z1 E zo hq4) (cwV 1 hts (x_gV t_453 t_455 sel_ContentLibrary_pictureBeingMade t_1 t_456) rfl rfl rfl (by decide +kernel) ⟨Nat.le_of_ble_eq_true rfl, Nat.le_of_ble_eq_true rfl⟩) ⟨x_blind _ _ _, va_recv hK hP (ci := 0) (q0 := 0) rfl (x_lk_X G _), fun U hU hW => ⟨rfl, x_pw hP hD hK hG hS hz hU hW⟩⟩ rfl hl.1 rfl (lv_room (Nat.le_of_ble_eq_true rfl)) d_X_keep_6 ⟨Nat.le_of_ble_eq_true rfl, Nat.le_of_ble_eq_true rfl⟩ hz hS (fun q ce H locs hP hD hS hce hcv hcl => e_out (fun x hx => (hEx x hx).elim) hlocks hce hcv hcl hS (fun t ht hW => x_pw hP hD hK hG hS hz ht hW) (Nat.le_of_ble_eq_true rfl) (Nat.le_of_ble_eq_true rfl))
  refine va_callr (va_runV (As := [.int p1]) (rest := []) ⟨hx, hb, hml, hown, hts⟩ (c_X_pictureBeingMade l G p1 z1 r3 z3 hq4) (cwV 1 hts (x_gV t_453 t_455 sel_ContentLibrary_pictureBeingMade t_1 t_456) rfl rfl rfl (by decide +kernel) ⟨Nat.le_of_ble_eq_true rfl, Nat.le_of_ble_eq_true rfl⟩) ⟨x_blind _ _ _, va_recv hK hP (ci := 0) (q0 := 0) rfl (x_lk_X G _), fun U hU hW => ⟨rfl, x_pw hP hD hK hG hS hz hU hW⟩⟩ rfl rfl hl.1 rfl (lv_room (Nat.le_of_ble_eq_true rfl)) d_X_keep_6 ⟨Nat.le_of_ble_eq_true rfl, Nat.le_of_ble_eq_true rfl⟩) hS (fun q _ h => h) (fun q h => h) (fun u ra t H locs ht hvm hw hB _ _ hS => ?_)
  obtain rfl := hw
  obtain ⟨_, rfl, hr3, rfl, hB⟩ := hB
  obtain ⟨hP, hD⟩ := x_back hB ht
  refine lv_astore_n (lv' := [(2, .ref (x_ad G r3)), (0, .ref (x_ad G 0)), (1, .int p1)]) hx hb d_X_keep_9 rfl hl (by decide) rfl (fun ls hl => ?_)
  refine lv_aload_n hx hb d_X_keep_10 rfl (lv_at hl 0 rfl) ?_
  rcases x_clx_x hf with hq6 | ⟨r5, z5, hq6, hf⟩
  · exact e_callS (As := [.ref (x_ad G r3)]) (rest := []) ⟨hx, hb, hml, hown, hts⟩ (c_X_refuseUnlessWhole_x l G hl9 r3 hr3 z3 E zo hq6) (va_cwS 1 hts (x_gS t_486 t_487 t_1 t_488) rfl rfl rfl (by decide +kernel) ⟨Nat.le_of_ble_eq_true rfl, Nat.le_of_ble_eq_true rfl⟩) ⟨x_blind _ _ _, fun U hU hW => ⟨rfl, x_pw hP hD hK hG hS hz hU hW⟩⟩ rfl hl.1 rfl (lv_room (Nat.le_of_ble_eq_true rfl)) d_X_keep_11 ⟨Nat.le_of_ble_eq_true rfl, Nat.le_of_ble_eq_true rfl⟩ hz hS (fun q ce H locs hP hD hS hce hcv hcl => e_out (fun x hx => (hEx x hx).elim) hlocks hce hcv hcl hS (fun t ht hW => x_pw hP hD hK hG hS hz ht hW) (Nat.le_of_ble_eq_true rfl) (Nat.le_of_ble_eq_true rfl))
  refine va_callv (va_runS (As := [.ref (x_ad G r3)]) (rest := []) ⟨hx, hb, hml, hown, hts⟩ (c_X_refuseUnlessWhole l G r3 hr3 z3 r5 z5 hq6) (va_cwS 1 hts (x_gS t_486 t_487 t_1 t_488) rfl rfl rfl (by decide +kernel) ⟨Nat.le_of_ble_eq_true rfl, Nat.le_of_ble_eq_true rfl⟩) ⟨x_blind _ _ _, fun U hU hW => ⟨rfl, x_pw hP hD hK hG hS hz hU hW⟩⟩ rfl rfl hl.1 rfl (lv_room (Nat.le_of_ble_eq_true rfl)) d_X_keep_11 ⟨Nat.le_of_ble_eq_true rfl, Nat.le_of_ble_eq_true rfl⟩) hS (fun q _ h => h) (fun q h => h) (fun u t H locs ht hvm hw hB _ _ hS => ?_)
  obtain ⟨rfl, rfl⟩ := hw
  obtain ⟨hP, hD⟩ := x_back hB ht
  cases hf
abbrev rm_X_digest : Room := { frames := 7, cells := 0, slots := 0, locals := 103 }
abbrev rx_X_digest : Room := { frames := 7, cells := 1, slots := 6, locals := 103 }
set_option maxHeartbeats 4000000 in
set_option maxRecDepth 100000 in
theorem c_X_digest (l : Launch) (G : x_G) (p1 : Int32) (p2 : Int32) (z0 : x_St) (r : Int32) (zo : x_St) (hf : f_X_digest (x_n G) p1 p2 z0 = some (Sum.inr r, zo)) : Met l (⟨"ContentLibrary", "digest", "(II)I"⟩ : MethodName) (x_ws (⟨"ContentLibrary", "digest", "(II)I"⟩ : MethodName) prog_1_method_5_code 4 (some .int)) rm_X_digest (va_Pc [.ref (x_ad G 0), .int p1, .int p2] (x_PW G z0)) (va_Qi (fun a u => r = a ∧ zo = u) (x_PW G) (x_A G)) 0 0 (x_A G) := by
  refine Met.ofW (cc := prog_1_method_5_code) (maxL := 4) (ret := (some .int)) (by decide) rfl ?_
  intro p e s m args below meth c s₁ B hml hv
  obtain ⟨rfl, hz, hP, hD, hK, hG⟩ := hv
  have C0 : x_Ctx G p s m _ meth c prog_1_method_5_code "ContentLibrary" 4 (some .int) := ⟨B.exec, B.bytes, B.returns, hml, findClass_of_methodNamed B.named, fun w h => atoms_spec (ws := (x_ws (⟨"ContentLibrary", "digest", "(II)I"⟩ : MethodName) prog_1_method_5_code 4 (some .int))) B.pre w (List.mem_cons_of_mem _ h), B.notSynchronized, hz, hK, hG⟩
  obtain ⟨hx, hb, hr, hml, hown, hts, hlocks, hz, hK, hG⟩ := id C0
  have hS : va_S (x_A G) s.heap s.heap [] := va_S.rf
  have hl := lv_entry ([.ref (x_ad G 0), .int p1, .int p2]) (n := 4) (Nat.le_of_ble_eq_true rfl)
  rw [lg_entry_eq]
  generalize (lg_sl ([.ref (x_ad G 0), .int p1, .int p2]) ++ List.replicate (4 - (lg_sl ([.ref (x_ad G 0), .int p1, .int p2])).length) Slot.unset).toArray = ls at hl ⊢
  have hl : lv_has ls 4 [(0, .ref (x_ad G 0)), (1, .int p1), (2, .int p2)] := hl
  rw [f_X_digest] at hf
  refine lv_aload_n hx hb d_X_digest_0 rfl (lv_at hl 0 rfl) ?_
  obtain ⟨r1, z1, hq2, hf⟩ := x_clx_r hf
  refine va_callv (va_runV (As := []) (rest := []) ⟨hx, hb, hml, hown, hts⟩ (c_X_refuseWhenCut l G z0 r1 z1 hq2) (cwV 0 hts (x_gV t_335 t_337 sel_ContentLibrary_refuseWhenCut t_1 t_338) rfl rfl rfl (by decide +kernel) ⟨Nat.le_of_ble_eq_true rfl, Nat.le_of_ble_eq_true rfl⟩) ⟨x_blind _ _ _, va_recv hK hP (ci := 0) (q0 := 0) rfl (x_lk_X G _), fun U hU hW => ⟨rfl, x_pw hP hD hK hG hS hz hU hW⟩⟩ rfl rfl hl.1 rfl (lv_room (Nat.le_of_ble_eq_true rfl)) d_X_digest_1 ⟨Nat.le_of_ble_eq_true rfl, Nat.le_of_ble_eq_true rfl⟩) hS (fun q _ h => h) (fun q h => h) (fun u t H locs ht hvm hw hB _ _ hS => ?_)
  obtain ⟨rfl, rfl⟩ := hw
  obtain ⟨hP, hD⟩ := x_back hB ht
  refine lv_aload_n hx hb d_X_digest_4 rfl (lv_at hl 0 rfl) ?_
  refine lv_iload_n hx hb d_X_digest_5 rfl (lv_at hl 1 rfl) ?_
  obtain ⟨r3, z3, hq4, hf⟩ := x_clx_r hf
  refine va_callr (va_runV (As := [.int p1]) (rest := []) ⟨hx, hb, hml, hown, hts⟩ (c_X_keptAt l G p1 z1 r3 z3 hq4) (cwV 1 hts (x_gV t_558 t_560 sel_ContentLibrary_keptAt t_1 t_561) rfl rfl rfl (by decide +kernel) ⟨Nat.le_of_ble_eq_true rfl, Nat.le_of_ble_eq_true rfl⟩) ⟨x_blind _ _ _, va_recv hK hP (ci := 0) (q0 := 0) rfl (x_lk_X G _), fun U hU hW => ⟨rfl, x_pw hP hD hK hG hS hz hU hW⟩⟩ rfl rfl hl.1 rfl (lv_room (Nat.le_of_ble_eq_true rfl)) d_X_digest_6 ⟨Nat.le_of_ble_eq_true rfl, Nat.le_of_ble_eq_true rfl⟩) hS (fun q _ h => h) (fun q h => h) (fun u ra t H locs ht hvm hw hB _ _ hS => ?_)
  obtain rfl := hw
  obtain ⟨_, rfl, hr3, rfl, hB⟩ := hB
  obtain ⟨hP, hD⟩ := x_back hB ht
  refine lv_astore_n (lv' := [(3, .ref (x_ad G r3)), (0, .ref (x_ad G 0)), (1, .int p1), (2, .int p2)]) hx hb d_X_digest_9 rfl hl (by decide) rfl (fun ls hl => ?_)
  refine lv_iload_n hx hb d_X_digest_10 rfl (lv_at hl 3 rfl) ?_
  refine lv_if_lt (tgt := 20) hx hb d_X_digest_11 (by decide) (fun hc5 => ?_) (fun hc5 => ?_)
  · have hf := x_br_t hf hc5
    exact absurd hf x_no_r
  · have hf := x_br_f hf hc5
    refine lv_iload_n hx hb d_X_digest_14 rfl (lv_at hl 3 rfl) ?_
    refine lv_bipush (v := (8 : Int32)) hx hb d_X_digest_15 (by decide) ?_
    refine lv_icmp_lt (tgt := 30) hx hb d_X_digest_17 (by decide) (fun hc6 => ?_) (fun hc6 => ?_)
    · have hf := x_br_t hf hc6
      refine lv_aload_n hx hb d_X_digest_30 rfl (lv_at hl 0 rfl) ?_
      refine va_get (D := x_D G) (ci := 3) (v := .ref (x_ad G (r3 + 3))) (C := "ContentLibrary$Kept") (T := x_TK) (N := 6) hx hb hts x_inK hown hK hP r3 (x_lk_K G _ hr3) rfl 2 (by decide) (hts _ t_94) (fun _ h9 => h9) rfl d_X_digest_31 ?_
      refine lv_iload_n hx hb d_X_digest_34 rfl (lv_at hl 3 rfl) ?_
      obtain ⟨hin7, hf⟩ := x_ck_some hf
      refine va_iald hx hb hK hP (r3 + 3) 0 (x_lk_A G _ (x_K_A3 hr3)) rfl hin7 d_X_digest_35 ?_
      obtain ⟨rfl, rfl⟩ := x_retr hf
      exact W.iret (v := (z3.1 (r3 + 3) (p2).toNatClampNeg)) hx hb hr (fun t ht hW => ⟨⟨_, _, rfl, ⟨rfl, rfl⟩, x_pw hP hD hK hG hS hz ht hW⟩, hS.F ht⟩) hS.2.2 d_X_digest_36
    · have hf := x_br_f hf hc6
      exact absurd hf x_no_r
set_option maxHeartbeats 4000000 in
set_option maxRecDepth 100000 in
theorem c_X_digest_x (l : Launch) (G : x_G) (hl9 : l.stackTraces = false) (p1 : Int32) (p2 : Int32) (z0 : x_St) (E : String) (zo : x_St) (hf : f_X_digest (x_n G) p1 p2 z0 = some (Sum.inl E, zo)) : e_Met l G (⟨"ContentLibrary", "digest", "(II)I"⟩ : MethodName) (x_ws (⟨"ContentLibrary", "digest", "(II)I"⟩ : MethodName) prog_1_method_5_code 4 (some .int)) rx_X_digest (va_Pc [.ref (x_ad G 0), .int p1, .int p2] (x_PW G z0)) E zo 1 6 := by
  refine e_ofW (cc := prog_1_method_5_code) (maxL := 4) (ret := (some .int)) (by decide) rfl ?_
  intro p e s m args below meth c s₁ B hml hEx hv
  obtain ⟨rfl, hz, hP, hD, hK, hG⟩ := hv
  have C0 : x_Ctx G p s m _ meth c prog_1_method_5_code "ContentLibrary" 4 (some .int) := ⟨B.exec, B.bytes, B.returns, hml, findClass_of_methodNamed B.named, fun w h => atoms_spec (ws := (x_ws (⟨"ContentLibrary", "digest", "(II)I"⟩ : MethodName) prog_1_method_5_code 4 (some .int))) B.pre w (List.mem_cons_of_mem _ h), B.notSynchronized, hz, hK, hG⟩
  obtain ⟨hx, hb, hr, hml, hown, hts, hlocks, hz, hK, hG⟩ := id C0
  have hS : va_S (x_A G) s.heap s.heap [] := va_S.rf
  have hl := lv_entry ([.ref (x_ad G 0), .int p1, .int p2]) (n := 4) (Nat.le_of_ble_eq_true rfl)
  rw [lg_entry_eq]
  generalize (lg_sl ([.ref (x_ad G 0), .int p1, .int p2]) ++ List.replicate (4 - (lg_sl ([.ref (x_ad G 0), .int p1, .int p2])).length) Slot.unset).toArray = ls at hl ⊢
  have hl : lv_has ls 4 [(0, .ref (x_ad G 0)), (1, .int p1), (2, .int p2)] := hl
  rw [f_X_digest] at hf
  refine lv_aload_n hx hb d_X_digest_0 rfl (lv_at hl 0 rfl) ?_
  rcases x_clx_x hf with hq2 | ⟨r1, z1, hq2, hf⟩
  · exact e_callV (As := []) (rest := []) ⟨hx, hb, hml, hown, hts⟩ (c_X_refuseWhenCut_x l G hl9 z0 E zo hq2) (cwV 0 hts (x_gV t_335 t_337 sel_ContentLibrary_refuseWhenCut t_1 t_338) rfl rfl rfl (by decide +kernel) ⟨Nat.le_of_ble_eq_true rfl, Nat.le_of_ble_eq_true rfl⟩) ⟨x_blind _ _ _, va_recv hK hP (ci := 0) (q0 := 0) rfl (x_lk_X G _), fun U hU hW => ⟨rfl, x_pw hP hD hK hG hS hz hU hW⟩⟩ rfl hl.1 rfl (lv_room (Nat.le_of_ble_eq_true rfl)) d_X_digest_1 ⟨Nat.le_of_ble_eq_true rfl, Nat.le_of_ble_eq_true rfl⟩ hz hS (fun q ce H locs hP hD hS hce hcv hcl => e_out (fun x hx => (hEx x hx).elim) hlocks hce hcv hcl hS (fun t ht hW => x_pw hP hD hK hG hS hz ht hW) (Nat.le_of_ble_eq_true rfl) (Nat.le_of_ble_eq_true rfl))
  refine va_callv (va_runV (As := []) (rest := []) ⟨hx, hb, hml, hown, hts⟩ (c_X_refuseWhenCut l G z0 r1 z1 hq2) (cwV 0 hts (x_gV t_335 t_337 sel_ContentLibrary_refuseWhenCut t_1 t_338) rfl rfl rfl (by decide +kernel) ⟨Nat.le_of_ble_eq_true rfl, Nat.le_of_ble_eq_true rfl⟩) ⟨x_blind _ _ _, va_recv hK hP (ci := 0) (q0 := 0) rfl (x_lk_X G _), fun U hU hW => ⟨rfl, x_pw hP hD hK hG hS hz hU hW⟩⟩ rfl rfl hl.1 rfl (lv_room (Nat.le_of_ble_eq_true rfl)) d_X_digest_1 ⟨Nat.le_of_ble_eq_true rfl, Nat.le_of_ble_eq_true rfl⟩) hS (fun q _ h => h) (fun q h => h) (fun u t H locs ht hvm hw hB _ _ hS => ?_)
  obtain ⟨rfl, rfl⟩ := hw
  obtain ⟨hP, hD⟩ := x_back hB ht
  refine lv_aload_n hx hb d_X_digest_4 rfl (lv_at hl 0 rfl) ?_
  refine lv_iload_n hx hb d_X_digest_5 rfl (lv_at hl 1 rfl) ?_
  rcases x_clx_x hf with hq4 | ⟨r3, z3, hq4, hf⟩
  · exact e_callV (As := [.int p1]) (rest := []) ⟨hx, hb, hml, hown, hts⟩ (c_X_keptAt_x l G hl9 p1 z1 E zo hq4) (cwV 1 hts (x_gV t_558 t_560 sel_ContentLibrary_keptAt t_1 t_561) rfl rfl rfl (by decide +kernel) ⟨Nat.le_of_ble_eq_true rfl, Nat.le_of_ble_eq_true rfl⟩) ⟨x_blind _ _ _, va_recv hK hP (ci := 0) (q0 := 0) rfl (x_lk_X G _), fun U hU hW => ⟨rfl, x_pw hP hD hK hG hS hz hU hW⟩⟩ rfl hl.1 rfl (lv_room (Nat.le_of_ble_eq_true rfl)) d_X_digest_6 ⟨Nat.le_of_ble_eq_true rfl, Nat.le_of_ble_eq_true rfl⟩ hz hS (fun q ce H locs hP hD hS hce hcv hcl => e_out (fun x hx => (hEx x hx).elim) hlocks hce hcv hcl hS (fun t ht hW => x_pw hP hD hK hG hS hz ht hW) (Nat.le_of_ble_eq_true rfl) (Nat.le_of_ble_eq_true rfl))
  refine va_callr (va_runV (As := [.int p1]) (rest := []) ⟨hx, hb, hml, hown, hts⟩ (c_X_keptAt l G p1 z1 r3 z3 hq4) (cwV 1 hts (x_gV t_558 t_560 sel_ContentLibrary_keptAt t_1 t_561) rfl rfl rfl (by decide +kernel) ⟨Nat.le_of_ble_eq_true rfl, Nat.le_of_ble_eq_true rfl⟩) ⟨x_blind _ _ _, va_recv hK hP (ci := 0) (q0 := 0) rfl (x_lk_X G _), fun U hU hW => ⟨rfl, x_pw hP hD hK hG hS hz hU hW⟩⟩ rfl rfl hl.1 rfl (lv_room (Nat.le_of_ble_eq_true rfl)) d_X_digest_6 ⟨Nat.le_of_ble_eq_true rfl, Nat.le_of_ble_eq_true rfl⟩) hS (fun q _ h => h) (fun q h => h) (fun u ra t H locs ht hvm hw hB _ _ hS => ?_)
  obtain rfl := hw
  obtain ⟨_, rfl, hr3, rfl, hB⟩ := hB
  obtain ⟨hP, hD⟩ := x_back hB ht
  refine lv_astore_n (lv' := [(3, .ref (x_ad G r3)), (0, .ref (x_ad G 0)), (1, .int p1), (2, .int p2)]) hx hb d_X_digest_9 rfl hl (by decide) rfl (fun ls hl => ?_)
  refine lv_iload_n hx hb d_X_digest_10 rfl (lv_at hl 3 rfl) ?_
  refine lv_if_lt (tgt := 20) hx hb d_X_digest_11 (by decide) (fun hc5 => ?_) (fun hc5 => ?_)
  · have hf := x_br_t hf hc5
    obtain ⟨rfl, rfl⟩ := x_retx hf
    exact e_throw (text := "a digest has the words 0 .. 7") (is := 147) hx hb hl9 hown (by decide +kernel) (by decide) (by decide +kernel) hts t_457 t_14 at_149_IndexOutOfBoundsException hG hS (hl.1.trans hml.symm) d_X_digest_20 d_X_digest_23 d_X_digest_24 d_X_digest_26 d_X_digest_29 hEx (Nat.le_of_ble_eq_true rfl) (Nat.le_of_ble_eq_true rfl) (Nat.le_of_ble_eq_true rfl) (Nat.le_of_ble_eq_true rfl) hlocks (fun t hW hsz hk => x_pwk hP hD hK hG hS hz hsz hk hW) (Nat.le_of_ble_eq_true rfl) (Nat.le_of_ble_eq_true rfl)
  · have hf := x_br_f hf hc5
    refine lv_iload_n hx hb d_X_digest_14 rfl (lv_at hl 3 rfl) ?_
    refine lv_bipush (v := (8 : Int32)) hx hb d_X_digest_15 (by decide) ?_
    refine lv_icmp_lt (tgt := 30) hx hb d_X_digest_17 (by decide) (fun hc6 => ?_) (fun hc6 => ?_)
    · have hf := x_br_t hf hc6
      refine lv_aload_n hx hb d_X_digest_30 rfl (lv_at hl 0 rfl) ?_
      refine va_get (D := x_D G) (ci := 3) (v := .ref (x_ad G (r3 + 3))) (C := "ContentLibrary$Kept") (T := x_TK) (N := 6) hx hb hts x_inK hown hK hP r3 (x_lk_K G _ hr3) rfl 2 (by decide) (hts _ t_94) (fun _ h9 => h9) rfl d_X_digest_31 ?_
      refine lv_iload_n hx hb d_X_digest_34 rfl (lv_at hl 3 rfl) ?_
      obtain ⟨hin7, hf⟩ := x_ck_some hf
      refine va_iald hx hb hK hP (r3 + 3) 0 (x_lk_A G _ (x_K_A3 hr3)) rfl hin7 d_X_digest_35 ?_
      exact absurd hf x_no_x
    · have hf := x_br_f hf hc6
      obtain ⟨rfl, rfl⟩ := x_retx hf
      exact e_throw (text := "a digest has the words 0 .. 7") (is := 147) hx hb hl9 hown (by decide +kernel) (by decide) (by decide +kernel) hts t_457 t_14 at_149_IndexOutOfBoundsException hG hS (hl.1.trans hml.symm) d_X_digest_20 d_X_digest_23 d_X_digest_24 d_X_digest_26 d_X_digest_29 hEx (Nat.le_of_ble_eq_true rfl) (Nat.le_of_ble_eq_true rfl) (Nat.le_of_ble_eq_true rfl) (Nat.le_of_ble_eq_true rfl) hlocks (fun t hW hsz hk => x_pwk hP hD hK hG hS hz hsz hk hW) (Nat.le_of_ble_eq_true rfl) (Nat.le_of_ble_eq_true rfl)
abbrev rm_X_print : Room := { frames := 7, cells := 0, slots := 0, locals := 103 }
abbrev rx_X_print : Room := { frames := 7, cells := 1, slots := 6, locals := 103 }
set_option maxHeartbeats 4000000 in
set_option maxRecDepth 100000 in
theorem c_X_print (l : Launch) (G : x_G) (p1 : Int32) (z0 : x_St) (r : Int64) (zo : x_St) (hf : f_X_print (x_n G) p1 z0 = some (Sum.inr r, zo)) : Met l (⟨"ContentLibrary", "print", "(I)J"⟩ : MethodName) (x_ws (⟨"ContentLibrary", "print", "(I)J"⟩ : MethodName) prog_1_method_6_code 2 (some .long)) rm_X_print (va_Pc [.ref (x_ad G 0), .int p1] (x_PW G z0)) (va_Ql (fun a u => r = a ∧ zo = u) (x_PW G) (x_A G)) 0 0 (x_A G) := by
  refine Met.ofW (cc := prog_1_method_6_code) (maxL := 2) (ret := (some .long)) (by decide) rfl ?_
  intro p e s m args below meth c s₁ B hml hv
  obtain ⟨rfl, hz, hP, hD, hK, hG⟩ := hv
  have C0 : x_Ctx G p s m _ meth c prog_1_method_6_code "ContentLibrary" 2 (some .long) := ⟨B.exec, B.bytes, B.returns, hml, findClass_of_methodNamed B.named, fun w h => atoms_spec (ws := (x_ws (⟨"ContentLibrary", "print", "(I)J"⟩ : MethodName) prog_1_method_6_code 2 (some .long))) B.pre w (List.mem_cons_of_mem _ h), B.notSynchronized, hz, hK, hG⟩
  obtain ⟨hx, hb, hr, hml, hown, hts, hlocks, hz, hK, hG⟩ := id C0
  have hS : va_S (x_A G) s.heap s.heap [] := va_S.rf
  have hl := lv_entry ([.ref (x_ad G 0), .int p1]) (n := 2) (Nat.le_of_ble_eq_true rfl)
  rw [lg_entry_eq]
  generalize (lg_sl ([.ref (x_ad G 0), .int p1]) ++ List.replicate (2 - (lg_sl ([.ref (x_ad G 0), .int p1])).length) Slot.unset).toArray = ls at hl ⊢
  have hl : lv_has ls 2 [(0, .ref (x_ad G 0)), (1, .int p1)] := hl
  rw [f_X_print] at hf
  refine lv_aload_n hx hb d_X_print_0 rfl (lv_at hl 0 rfl) ?_
  obtain ⟨r1, z1, hq2, hf⟩ := x_clx_r hf
  refine va_callv (va_runV (As := []) (rest := []) ⟨hx, hb, hml, hown, hts⟩ (c_X_refuseWhenCut l G z0 r1 z1 hq2) (cwV 0 hts (x_gV t_335 t_337 sel_ContentLibrary_refuseWhenCut t_1 t_338) rfl rfl rfl (by decide +kernel) ⟨Nat.le_of_ble_eq_true rfl, Nat.le_of_ble_eq_true rfl⟩) ⟨x_blind _ _ _, va_recv hK hP (ci := 0) (q0 := 0) rfl (x_lk_X G _), fun U hU hW => ⟨rfl, x_pw hP hD hK hG hS hz hU hW⟩⟩ rfl rfl hl.1 rfl (lv_room (Nat.le_of_ble_eq_true rfl)) d_X_print_1 ⟨Nat.le_of_ble_eq_true rfl, Nat.le_of_ble_eq_true rfl⟩) hS (fun q _ h => h) (fun q h => h) (fun u t H locs ht hvm hw hB _ _ hS => ?_)
  obtain ⟨rfl, rfl⟩ := hw
  obtain ⟨hP, hD⟩ := x_back hB ht
  refine lv_aload_n hx hb d_X_print_4 rfl (lv_at hl 0 rfl) ?_
  refine lv_iload_n hx hb d_X_print_5 rfl (lv_at hl 1 rfl) ?_
  obtain ⟨r3, z3, hq4, hf⟩ := x_clx_r hf
  refine va_callr (va_runV (As := [.int p1]) (rest := []) ⟨hx, hb, hml, hown, hts⟩ (c_X_keptAt l G p1 z1 r3 z3 hq4) (cwV 1 hts (x_gV t_558 t_560 sel_ContentLibrary_keptAt t_1 t_561) rfl rfl rfl (by decide +kernel) ⟨Nat.le_of_ble_eq_true rfl, Nat.le_of_ble_eq_true rfl⟩) ⟨x_blind _ _ _, va_recv hK hP (ci := 0) (q0 := 0) rfl (x_lk_X G _), fun U hU hW => ⟨rfl, x_pw hP hD hK hG hS hz hU hW⟩⟩ rfl rfl hl.1 rfl (lv_room (Nat.le_of_ble_eq_true rfl)) d_X_print_6 ⟨Nat.le_of_ble_eq_true rfl, Nat.le_of_ble_eq_true rfl⟩) hS (fun q _ h => h) (fun q h => h) (fun u ra t H locs ht hvm hw hB _ _ hS => ?_)
  obtain rfl := hw
  obtain ⟨_, rfl, hr3, rfl, hB⟩ := hB
  obtain ⟨hP, hD⟩ := x_back hB ht
  refine va_get (D := x_D G) (ci := 3) (v := .long (z3.2 r3 3)) (C := "ContentLibrary$Kept") (T := x_TK) (N := 6) hx hb hts x_inK hown hK hP r3 (x_lk_K G _ hr3) rfl 3 (by decide) (hts _ t_96) (fun _ h9 => h9) rfl d_X_print_9 ?_
  obtain ⟨rfl, rfl⟩ := x_retr hf
  exact W.lret (v := (z3.2 r3 3)) hx hb hr (fun t ht hW => ⟨⟨_, _, rfl, ⟨rfl, rfl⟩, x_pw hP hD hK hG hS hz ht hW⟩, hS.F ht⟩) hS.2.2 d_X_print_12
set_option maxHeartbeats 4000000 in
set_option maxRecDepth 100000 in
theorem c_X_print_x (l : Launch) (G : x_G) (hl9 : l.stackTraces = false) (p1 : Int32) (z0 : x_St) (E : String) (zo : x_St) (hf : f_X_print (x_n G) p1 z0 = some (Sum.inl E, zo)) : e_Met l G (⟨"ContentLibrary", "print", "(I)J"⟩ : MethodName) (x_ws (⟨"ContentLibrary", "print", "(I)J"⟩ : MethodName) prog_1_method_6_code 2 (some .long)) rx_X_print (va_Pc [.ref (x_ad G 0), .int p1] (x_PW G z0)) E zo 1 6 := by
  refine e_ofW (cc := prog_1_method_6_code) (maxL := 2) (ret := (some .long)) (by decide) rfl ?_
  intro p e s m args below meth c s₁ B hml hEx hv
  obtain ⟨rfl, hz, hP, hD, hK, hG⟩ := hv
  have C0 : x_Ctx G p s m _ meth c prog_1_method_6_code "ContentLibrary" 2 (some .long) := ⟨B.exec, B.bytes, B.returns, hml, findClass_of_methodNamed B.named, fun w h => atoms_spec (ws := (x_ws (⟨"ContentLibrary", "print", "(I)J"⟩ : MethodName) prog_1_method_6_code 2 (some .long))) B.pre w (List.mem_cons_of_mem _ h), B.notSynchronized, hz, hK, hG⟩
  obtain ⟨hx, hb, hr, hml, hown, hts, hlocks, hz, hK, hG⟩ := id C0
  have hS : va_S (x_A G) s.heap s.heap [] := va_S.rf
  have hl := lv_entry ([.ref (x_ad G 0), .int p1]) (n := 2) (Nat.le_of_ble_eq_true rfl)
  rw [lg_entry_eq]
  generalize (lg_sl ([.ref (x_ad G 0), .int p1]) ++ List.replicate (2 - (lg_sl ([.ref (x_ad G 0), .int p1])).length) Slot.unset).toArray = ls at hl ⊢
  have hl : lv_has ls 2 [(0, .ref (x_ad G 0)), (1, .int p1)] := hl
  rw [f_X_print] at hf
  refine lv_aload_n hx hb d_X_print_0 rfl (lv_at hl 0 rfl) ?_
  rcases x_clx_x hf with hq2 | ⟨r1, z1, hq2, hf⟩
  · exact e_callV (As := []) (rest := []) ⟨hx, hb, hml, hown, hts⟩ (c_X_refuseWhenCut_x l G hl9 z0 E zo hq2) (cwV 0 hts (x_gV t_335 t_337 sel_ContentLibrary_refuseWhenCut t_1 t_338) rfl rfl rfl (by decide +kernel) ⟨Nat.le_of_ble_eq_true rfl, Nat.le_of_ble_eq_true rfl⟩) ⟨x_blind _ _ _, va_recv hK hP (ci := 0) (q0 := 0) rfl (x_lk_X G _), fun U hU hW => ⟨rfl, x_pw hP hD hK hG hS hz hU hW⟩⟩ rfl hl.1 rfl (lv_room (Nat.le_of_ble_eq_true rfl)) d_X_print_1 ⟨Nat.le_of_ble_eq_true rfl, Nat.le_of_ble_eq_true rfl⟩ hz hS (fun q ce H locs hP hD hS hce hcv hcl => e_out (fun x hx => (hEx x hx).elim) hlocks hce hcv hcl hS (fun t ht hW => x_pw hP hD hK hG hS hz ht hW) (Nat.le_of_ble_eq_true rfl) (Nat.le_of_ble_eq_true rfl))
  refine va_callv (va_runV (As := []) (rest := []) ⟨hx, hb, hml, hown, hts⟩ (c_X_refuseWhenCut l G z0 r1 z1 hq2) (cwV 0 hts (x_gV t_335 t_337 sel_ContentLibrary_refuseWhenCut t_1 t_338) rfl rfl rfl (by decide +kernel) ⟨Nat.le_of_ble_eq_true rfl, Nat.le_of_ble_eq_true rfl⟩) ⟨x_blind _ _ _, va_recv hK hP (ci := 0) (q0 := 0) rfl (x_lk_X G _), fun U hU hW => ⟨rfl, x_pw hP hD hK hG hS hz hU hW⟩⟩ rfl rfl hl.1 rfl (lv_room (Nat.le_of_ble_eq_true rfl)) d_X_print_1 ⟨Nat.le_of_ble_eq_true rfl, Nat.le_of_ble_eq_true rfl⟩) hS (fun q _ h => h) (fun q h => h) (fun u t H locs ht hvm hw hB _ _ hS => ?_)
  obtain ⟨rfl, rfl⟩ := hw
  obtain ⟨hP, hD⟩ := x_back hB ht
  refine lv_aload_n hx hb d_X_print_4 rfl (lv_at hl 0 rfl) ?_
  refine lv_iload_n hx hb d_X_print_5 rfl (lv_at hl 1 rfl) ?_
  rcases x_clx_x hf with hq4 | ⟨r3, z3, hq4, hf⟩
  · exact e_callV (As := [.int p1]) (rest := []) ⟨hx, hb, hml, hown, hts⟩ (c_X_keptAt_x l G hl9 p1 z1 E zo hq4) (cwV 1 hts (x_gV t_558 t_560 sel_ContentLibrary_keptAt t_1 t_561) rfl rfl rfl (by decide +kernel) ⟨Nat.le_of_ble_eq_true rfl, Nat.le_of_ble_eq_true rfl⟩) ⟨x_blind _ _ _, va_recv hK hP (ci := 0) (q0 := 0) rfl (x_lk_X G _), fun U hU hW => ⟨rfl, x_pw hP hD hK hG hS hz hU hW⟩⟩ rfl hl.1 rfl (lv_room (Nat.le_of_ble_eq_true rfl)) d_X_print_6 ⟨Nat.le_of_ble_eq_true rfl, Nat.le_of_ble_eq_true rfl⟩ hz hS (fun q ce H locs hP hD hS hce hcv hcl => e_out (fun x hx => (hEx x hx).elim) hlocks hce hcv hcl hS (fun t ht hW => x_pw hP hD hK hG hS hz ht hW) (Nat.le_of_ble_eq_true rfl) (Nat.le_of_ble_eq_true rfl))
  refine va_callr (va_runV (As := [.int p1]) (rest := []) ⟨hx, hb, hml, hown, hts⟩ (c_X_keptAt l G p1 z1 r3 z3 hq4) (cwV 1 hts (x_gV t_558 t_560 sel_ContentLibrary_keptAt t_1 t_561) rfl rfl rfl (by decide +kernel) ⟨Nat.le_of_ble_eq_true rfl, Nat.le_of_ble_eq_true rfl⟩) ⟨x_blind _ _ _, va_recv hK hP (ci := 0) (q0 := 0) rfl (x_lk_X G _), fun U hU hW => ⟨rfl, x_pw hP hD hK hG hS hz hU hW⟩⟩ rfl rfl hl.1 rfl (lv_room (Nat.le_of_ble_eq_true rfl)) d_X_print_6 ⟨Nat.le_of_ble_eq_true rfl, Nat.le_of_ble_eq_true rfl⟩) hS (fun q _ h => h) (fun q h => h) (fun u ra t H locs ht hvm hw hB _ _ hS => ?_)
  obtain rfl := hw
  obtain ⟨_, rfl, hr3, rfl, hB⟩ := hB
  obtain ⟨hP, hD⟩ := x_back hB ht
  refine va_get (D := x_D G) (ci := 3) (v := .long (z3.2 r3 3)) (C := "ContentLibrary$Kept") (T := x_TK) (N := 6) hx hb hts x_inK hown hK hP r3 (x_lk_K G _ hr3) rfl 3 (by decide) (hts _ t_96) (fun _ h9 => h9) rfl d_X_print_9 ?_
  exact absurd hf x_no_x
abbrev rm_X_sample : Room := { frames := 7, cells := 0, slots := 0, locals := 103 }
abbrev rx_X_sample : Room := { frames := 7, cells := 1, slots := 6, locals := 103 }
set_option maxHeartbeats 4000000 in
set_option maxRecDepth 100000 in
theorem c_X_sample (l : Launch) (G : x_G) (p1 : Int32) (p2 : Int32) (p3 : Int32) (z0 : x_St) (r : Int32) (zo : x_St) (hf : f_X_sample (x_n G) p1 p2 p3 z0 = some (Sum.inr r, zo)) : Met l (⟨"ContentLibrary", "sample", "(III)I"⟩ : MethodName) (x_ws (⟨"ContentLibrary", "sample", "(III)I"⟩ : MethodName) prog_1_method_7_code 5 (some .int)) rm_X_sample (va_Pc [.ref (x_ad G 0), .int p1, .int p2, .int p3] (x_PW G z0)) (va_Qi (fun a u => r = a ∧ zo = u) (x_PW G) (x_A G)) 0 0 (x_A G) := by
  refine Met.ofW (cc := prog_1_method_7_code) (maxL := 5) (ret := (some .int)) (by decide) rfl ?_
  intro p e s m args below meth c s₁ B hml hv
  obtain ⟨rfl, hz, hP, hD, hK, hG⟩ := hv
  have C0 : x_Ctx G p s m _ meth c prog_1_method_7_code "ContentLibrary" 5 (some .int) := ⟨B.exec, B.bytes, B.returns, hml, findClass_of_methodNamed B.named, fun w h => atoms_spec (ws := (x_ws (⟨"ContentLibrary", "sample", "(III)I"⟩ : MethodName) prog_1_method_7_code 5 (some .int))) B.pre w (List.mem_cons_of_mem _ h), B.notSynchronized, hz, hK, hG⟩
  obtain ⟨hx, hb, hr, hml, hown, hts, hlocks, hz, hK, hG⟩ := id C0
  have hS : va_S (x_A G) s.heap s.heap [] := va_S.rf
  have hl := lv_entry ([.ref (x_ad G 0), .int p1, .int p2, .int p3]) (n := 5) (Nat.le_of_ble_eq_true rfl)
  rw [lg_entry_eq]
  generalize (lg_sl ([.ref (x_ad G 0), .int p1, .int p2, .int p3]) ++ List.replicate (5 - (lg_sl ([.ref (x_ad G 0), .int p1, .int p2, .int p3])).length) Slot.unset).toArray = ls at hl ⊢
  have hl : lv_has ls 5 [(0, .ref (x_ad G 0)), (1, .int p1), (2, .int p2), (3, .int p3)] := hl
  rw [f_X_sample] at hf
  refine lv_aload_n hx hb d_X_sample_0 rfl (lv_at hl 0 rfl) ?_
  obtain ⟨r1, z1, hq2, hf⟩ := x_clx_r hf
  refine va_callv (va_runV (As := []) (rest := []) ⟨hx, hb, hml, hown, hts⟩ (c_X_refuseWhenCut l G z0 r1 z1 hq2) (cwV 0 hts (x_gV t_335 t_337 sel_ContentLibrary_refuseWhenCut t_1 t_338) rfl rfl rfl (by decide +kernel) ⟨Nat.le_of_ble_eq_true rfl, Nat.le_of_ble_eq_true rfl⟩) ⟨x_blind _ _ _, va_recv hK hP (ci := 0) (q0 := 0) rfl (x_lk_X G _), fun U hU hW => ⟨rfl, x_pw hP hD hK hG hS hz hU hW⟩⟩ rfl rfl hl.1 rfl (lv_room (Nat.le_of_ble_eq_true rfl)) d_X_sample_1 ⟨Nat.le_of_ble_eq_true rfl, Nat.le_of_ble_eq_true rfl⟩) hS (fun q _ h => h) (fun q h => h) (fun u t H locs ht hvm hw hB _ _ hS => ?_)
  obtain ⟨rfl, rfl⟩ := hw
  obtain ⟨hP, hD⟩ := x_back hB ht
  refine lv_aload_n hx hb d_X_sample_4 rfl (lv_at hl 0 rfl) ?_
  refine lv_iload_n hx hb d_X_sample_5 rfl (lv_at hl 1 rfl) ?_
  obtain ⟨r3, z3, hq4, hf⟩ := x_clx_r hf
  refine va_callr (va_runV (As := [.int p1]) (rest := []) ⟨hx, hb, hml, hown, hts⟩ (c_X_keptAt l G p1 z1 r3 z3 hq4) (cwV 1 hts (x_gV t_558 t_560 sel_ContentLibrary_keptAt t_1 t_561) rfl rfl rfl (by decide +kernel) ⟨Nat.le_of_ble_eq_true rfl, Nat.le_of_ble_eq_true rfl⟩) ⟨x_blind _ _ _, va_recv hK hP (ci := 0) (q0 := 0) rfl (x_lk_X G _), fun U hU hW => ⟨rfl, x_pw hP hD hK hG hS hz hU hW⟩⟩ rfl rfl hl.1 rfl (lv_room (Nat.le_of_ble_eq_true rfl)) d_X_sample_6 ⟨Nat.le_of_ble_eq_true rfl, Nat.le_of_ble_eq_true rfl⟩) hS (fun q _ h => h) (fun q h => h) (fun u ra t H locs ht hvm hw hB _ _ hS => ?_)
  obtain rfl := hw
  obtain ⟨_, rfl, hr3, rfl, hB⟩ := hB
  obtain ⟨hP, hD⟩ := x_back hB ht
  refine va_get (D := x_D G) (ci := 3) (v := .ref (x_ad G (r3 + 1))) (C := "ContentLibrary$Kept") (T := x_TK) (N := 6) hx hb hts x_inK hown hK hP r3 (x_lk_K G _ hr3) rfl 1 (by decide) (hts _ t_92) (fun _ h9 => h9) rfl d_X_sample_9 ?_
  refine lv_astore (lv' := [(4, .ref (x_ad G (r3 + 1))), (0, .ref (x_ad G 0)), (1, .int p1), (2, .int p2), (3, .int p3)]) hx hb d_X_sample_12 hl (by decide) rfl (fun ls hl => ?_)
  refine lv_iload_n hx hb d_X_sample_14 rfl (lv_at hl 3 rfl) ?_
  refine lv_if_lt (tgt := 40) hx hb d_X_sample_15 (by decide) (fun hc5 => ?_) (fun hc5 => ?_)
  · have hf := x_br_t hf hc5
    exact absurd hf x_no_r
  · have hf := x_br_f hf hc5
    refine lv_iload_n hx hb d_X_sample_18 rfl (lv_at hl 3 rfl) ?_
    refine lv_aload hx hb d_X_sample_19 (lv_at hl 0 rfl) ?_
    obtain ⟨r6, z6, hq7, hf⟩ := x_cl_some hf
    refine va_calli (va_runV (As := []) (rest := [.int p2]) ⟨hx, hb, hml, hown, hts⟩ (c_P_width l G (r3 + 1) (x_K_P hr3) z3 r6 z6 hq7) (cwV 0 hts (x_gV t_578 t_220 t_221 t_4 t_222) rfl rfl rfl (by decide +kernel) ⟨Nat.le_of_ble_eq_true rfl, Nat.le_of_ble_eq_true rfl⟩) ⟨x_blind _ _ _, va_recv hK hP (ci := 2) (q0 := (r3 + 1)) rfl (x_lk_P G _ (x_K_P hr3)), fun U hU hW => ⟨rfl, x_pw hP hD hK hG hS hz hU hW⟩⟩ rfl rfl hl.1 rfl (lv_room (Nat.le_of_ble_eq_true rfl)) d_X_sample_21 ⟨Nat.le_of_ble_eq_true rfl, Nat.le_of_ble_eq_true rfl⟩) hS (fun q _ h => h) (fun q h => h) (fun ra u t H locs ht hvm hw hB _ _ hS => ?_)
    obtain ⟨rfl, rfl⟩ := hw
    obtain ⟨hP, hD⟩ := x_back hB ht
    refine lv_icmp_ge (tgt := 40) hx hb d_X_sample_24 (by decide) (fun hc8 => ?_) (fun hc8 => ?_)
    · have hf := x_br_t hf hc8
      exact absurd hf x_no_r
    · have hf := x_br_f hf hc8
      refine lv_iload_n hx hb d_X_sample_27 rfl (lv_at hl 4 rfl) ?_
      refine lv_if_lt (tgt := 40) hx hb d_X_sample_28 (by decide) (fun hc9 => ?_) (fun hc9 => ?_)
      · have hf := x_br_t hf hc9
        exact absurd hf x_no_r
      · have hf := x_br_f hf hc9
        refine lv_iload_n hx hb d_X_sample_31 rfl (lv_at hl 4 rfl) ?_
        refine lv_aload hx hb d_X_sample_32 (lv_at hl 0 rfl) ?_
        obtain ⟨r10, z10, hq11, hf⟩ := x_cl_some hf
        refine va_calli (va_runV (As := []) (rest := [.int p3]) ⟨hx, hb, hml, hown, hts⟩ (c_P_height l G (r3 + 1) (x_K_P hr3) z6 r10 z10 hq11) (cwV 0 hts (x_gV t_579 t_227 t_228 t_4 t_229) rfl rfl rfl (by decide +kernel) ⟨Nat.le_of_ble_eq_true rfl, Nat.le_of_ble_eq_true rfl⟩) ⟨x_blind _ _ _, va_recv hK hP (ci := 2) (q0 := (r3 + 1)) rfl (x_lk_P G _ (x_K_P hr3)), fun U hU hW => ⟨rfl, x_pw hP hD hK hG hS hz hU hW⟩⟩ rfl rfl hl.1 rfl (lv_room (Nat.le_of_ble_eq_true rfl)) d_X_sample_34 ⟨Nat.le_of_ble_eq_true rfl, Nat.le_of_ble_eq_true rfl⟩) hS (fun q _ h => h) (fun q h => h) (fun ra u t H locs ht hvm hw hB _ _ hS => ?_)
        obtain ⟨rfl, rfl⟩ := hw
        obtain ⟨hP, hD⟩ := x_back hB ht
        refine lv_icmp_lt (tgt := 50) hx hb d_X_sample_37 (by decide) (fun hc12 => ?_) (fun hc12 => ?_)
        · have hf := x_br_t hf hc12
          refine lv_aload hx hb d_X_sample_50 (lv_at hl 0 rfl) ?_
          refine lv_iload_n hx hb d_X_sample_52 rfl (lv_at hl 3 rfl) ?_
          refine lv_iload_n hx hb d_X_sample_53 rfl (lv_at hl 4 rfl) ?_
          obtain ⟨r13, z13, hq14, hf⟩ := x_cl_some hf
          refine va_calli (va_runV (As := [.int p2, .int p3]) (rest := []) ⟨hx, hb, hml, hown, hts⟩ (c_P_at l G (r3 + 1) (x_K_P hr3) p2 p3 z10 r13 z13 hq14) (cwV 2 hts (x_gV t_581 t_290 t_291 t_4 t_292) rfl rfl rfl (by decide +kernel) ⟨Nat.le_of_ble_eq_true rfl, Nat.le_of_ble_eq_true rfl⟩) ⟨x_blind _ _ _, va_recv hK hP (ci := 2) (q0 := (r3 + 1)) rfl (x_lk_P G _ (x_K_P hr3)), fun U hU hW => ⟨rfl, x_pw hP hD hK hG hS hz hU hW⟩⟩ rfl rfl hl.1 rfl (lv_room (Nat.le_of_ble_eq_true rfl)) d_X_sample_54 ⟨Nat.le_of_ble_eq_true rfl, Nat.le_of_ble_eq_true rfl⟩) hS (fun q _ h => h) (fun q h => h) (fun ra u t H locs ht hvm hw hB _ _ hS => ?_)
          obtain ⟨rfl, rfl⟩ := hw
          obtain ⟨hP, hD⟩ := x_back hB ht
          obtain ⟨rfl, rfl⟩ := x_retr hf
          exact W.iret (v := r13) hx hb hr (fun t ht hW => ⟨⟨_, _, rfl, ⟨rfl, rfl⟩, x_pw hP hD hK hG hS hz ht hW⟩, hS.F ht⟩) hS.2.2 d_X_sample_57
        · have hf := x_br_f hf hc12
          exact absurd hf x_no_r
set_option maxHeartbeats 4000000 in
set_option maxRecDepth 100000 in
theorem c_X_sample_x (l : Launch) (G : x_G) (hl9 : l.stackTraces = false) (p1 : Int32) (p2 : Int32) (p3 : Int32) (z0 : x_St) (E : String) (zo : x_St) (hf : f_X_sample (x_n G) p1 p2 p3 z0 = some (Sum.inl E, zo)) : e_Met l G (⟨"ContentLibrary", "sample", "(III)I"⟩ : MethodName) (x_ws (⟨"ContentLibrary", "sample", "(III)I"⟩ : MethodName) prog_1_method_7_code 5 (some .int)) rx_X_sample (va_Pc [.ref (x_ad G 0), .int p1, .int p2, .int p3] (x_PW G z0)) E zo 1 6 := by
  refine e_ofW (cc := prog_1_method_7_code) (maxL := 5) (ret := (some .int)) (by decide) rfl ?_
  intro p e s m args below meth c s₁ B hml hEx hv
  obtain ⟨rfl, hz, hP, hD, hK, hG⟩ := hv
  have C0 : x_Ctx G p s m _ meth c prog_1_method_7_code "ContentLibrary" 5 (some .int) := ⟨B.exec, B.bytes, B.returns, hml, findClass_of_methodNamed B.named, fun w h => atoms_spec (ws := (x_ws (⟨"ContentLibrary", "sample", "(III)I"⟩ : MethodName) prog_1_method_7_code 5 (some .int))) B.pre w (List.mem_cons_of_mem _ h), B.notSynchronized, hz, hK, hG⟩
  obtain ⟨hx, hb, hr, hml, hown, hts, hlocks, hz, hK, hG⟩ := id C0
  have hS : va_S (x_A G) s.heap s.heap [] := va_S.rf
  have hl := lv_entry ([.ref (x_ad G 0), .int p1, .int p2, .int p3]) (n := 5) (Nat.le_of_ble_eq_true rfl)
  rw [lg_entry_eq]
  generalize (lg_sl ([.ref (x_ad G 0), .int p1, .int p2, .int p3]) ++ List.replicate (5 - (lg_sl ([.ref (x_ad G 0), .int p1, .int p2, .int p3])).length) Slot.unset).toArray = ls at hl ⊢
  have hl : lv_has ls 5 [(0, .ref (x_ad G 0)), (1, .int p1), (2, .int p2), (3, .int p3)] := hl
  rw [f_X_sample] at hf
  refine lv_aload_n hx hb d_X_sample_0 rfl (lv_at hl 0 rfl) ?_
  rcases x_clx_x hf with hq2 | ⟨r1, z1, hq2, hf⟩
  · exact e_callV (As := []) (rest := []) ⟨hx, hb, hml, hown, hts⟩ (c_X_refuseWhenCut_x l G hl9 z0 E zo hq2) (cwV 0 hts (x_gV t_335 t_337 sel_ContentLibrary_refuseWhenCut t_1 t_338) rfl rfl rfl (by decide +kernel) ⟨Nat.le_of_ble_eq_true rfl, Nat.le_of_ble_eq_true rfl⟩) ⟨x_blind _ _ _, va_recv hK hP (ci := 0) (q0 := 0) rfl (x_lk_X G _), fun U hU hW => ⟨rfl, x_pw hP hD hK hG hS hz hU hW⟩⟩ rfl hl.1 rfl (lv_room (Nat.le_of_ble_eq_true rfl)) d_X_sample_1 ⟨Nat.le_of_ble_eq_true rfl, Nat.le_of_ble_eq_true rfl⟩ hz hS (fun q ce H locs hP hD hS hce hcv hcl => e_out (fun x hx => (hEx x hx).elim) hlocks hce hcv hcl hS (fun t ht hW => x_pw hP hD hK hG hS hz ht hW) (Nat.le_of_ble_eq_true rfl) (Nat.le_of_ble_eq_true rfl))
  refine va_callv (va_runV (As := []) (rest := []) ⟨hx, hb, hml, hown, hts⟩ (c_X_refuseWhenCut l G z0 r1 z1 hq2) (cwV 0 hts (x_gV t_335 t_337 sel_ContentLibrary_refuseWhenCut t_1 t_338) rfl rfl rfl (by decide +kernel) ⟨Nat.le_of_ble_eq_true rfl, Nat.le_of_ble_eq_true rfl⟩) ⟨x_blind _ _ _, va_recv hK hP (ci := 0) (q0 := 0) rfl (x_lk_X G _), fun U hU hW => ⟨rfl, x_pw hP hD hK hG hS hz hU hW⟩⟩ rfl rfl hl.1 rfl (lv_room (Nat.le_of_ble_eq_true rfl)) d_X_sample_1 ⟨Nat.le_of_ble_eq_true rfl, Nat.le_of_ble_eq_true rfl⟩) hS (fun q _ h => h) (fun q h => h) (fun u t H locs ht hvm hw hB _ _ hS => ?_)
  obtain ⟨rfl, rfl⟩ := hw
  obtain ⟨hP, hD⟩ := x_back hB ht
  refine lv_aload_n hx hb d_X_sample_4 rfl (lv_at hl 0 rfl) ?_
  refine lv_iload_n hx hb d_X_sample_5 rfl (lv_at hl 1 rfl) ?_
  rcases x_clx_x hf with hq4 | ⟨r3, z3, hq4, hf⟩
  · exact e_callV (As := [.int p1]) (rest := []) ⟨hx, hb, hml, hown, hts⟩ (c_X_keptAt_x l G hl9 p1 z1 E zo hq4) (cwV 1 hts (x_gV t_558 t_560 sel_ContentLibrary_keptAt t_1 t_561) rfl rfl rfl (by decide +kernel) ⟨Nat.le_of_ble_eq_true rfl, Nat.le_of_ble_eq_true rfl⟩) ⟨x_blind _ _ _, va_recv hK hP (ci := 0) (q0 := 0) rfl (x_lk_X G _), fun U hU hW => ⟨rfl, x_pw hP hD hK hG hS hz hU hW⟩⟩ rfl hl.1 rfl (lv_room (Nat.le_of_ble_eq_true rfl)) d_X_sample_6 ⟨Nat.le_of_ble_eq_true rfl, Nat.le_of_ble_eq_true rfl⟩ hz hS (fun q ce H locs hP hD hS hce hcv hcl => e_out (fun x hx => (hEx x hx).elim) hlocks hce hcv hcl hS (fun t ht hW => x_pw hP hD hK hG hS hz ht hW) (Nat.le_of_ble_eq_true rfl) (Nat.le_of_ble_eq_true rfl))
  refine va_callr (va_runV (As := [.int p1]) (rest := []) ⟨hx, hb, hml, hown, hts⟩ (c_X_keptAt l G p1 z1 r3 z3 hq4) (cwV 1 hts (x_gV t_558 t_560 sel_ContentLibrary_keptAt t_1 t_561) rfl rfl rfl (by decide +kernel) ⟨Nat.le_of_ble_eq_true rfl, Nat.le_of_ble_eq_true rfl⟩) ⟨x_blind _ _ _, va_recv hK hP (ci := 0) (q0 := 0) rfl (x_lk_X G _), fun U hU hW => ⟨rfl, x_pw hP hD hK hG hS hz hU hW⟩⟩ rfl rfl hl.1 rfl (lv_room (Nat.le_of_ble_eq_true rfl)) d_X_sample_6 ⟨Nat.le_of_ble_eq_true rfl, Nat.le_of_ble_eq_true rfl⟩) hS (fun q _ h => h) (fun q h => h) (fun u ra t H locs ht hvm hw hB _ _ hS => ?_)
  obtain rfl := hw
  obtain ⟨_, rfl, hr3, rfl, hB⟩ := hB
  obtain ⟨hP, hD⟩ := x_back hB ht
  refine va_get (D := x_D G) (ci := 3) (v := .ref (x_ad G (r3 + 1))) (C := "ContentLibrary$Kept") (T := x_TK) (N := 6) hx hb hts x_inK hown hK hP r3 (x_lk_K G _ hr3) rfl 1 (by decide) (hts _ t_92) (fun _ h9 => h9) rfl d_X_sample_9 ?_
  refine lv_astore (lv' := [(4, .ref (x_ad G (r3 + 1))), (0, .ref (x_ad G 0)), (1, .int p1), (2, .int p2), (3, .int p3)]) hx hb d_X_sample_12 hl (by decide) rfl (fun ls hl => ?_)
  refine lv_iload_n hx hb d_X_sample_14 rfl (lv_at hl 3 rfl) ?_
  refine lv_if_lt (tgt := 40) hx hb d_X_sample_15 (by decide) (fun hc5 => ?_) (fun hc5 => ?_)
  · have hf := x_br_t hf hc5
    obtain ⟨rfl, rfl⟩ := x_retx hf
    exact e_throw (text := "no such sample") (is := 167) hx hb hl9 hown (by decide +kernel) (by decide) (by decide +kernel) hts t_457 t_14 at_149_IndexOutOfBoundsException hG hS (hl.1.trans hml.symm) d_X_sample_40 d_X_sample_43 d_X_sample_44 d_X_sample_46 d_X_sample_49 hEx (Nat.le_of_ble_eq_true rfl) (Nat.le_of_ble_eq_true rfl) (Nat.le_of_ble_eq_true rfl) (Nat.le_of_ble_eq_true rfl) hlocks (fun t hW hsz hk => x_pwk hP hD hK hG hS hz hsz hk hW) (Nat.le_of_ble_eq_true rfl) (Nat.le_of_ble_eq_true rfl)
  · have hf := x_br_f hf hc5
    refine lv_iload_n hx hb d_X_sample_18 rfl (lv_at hl 3 rfl) ?_
    refine lv_aload hx hb d_X_sample_19 (lv_at hl 0 rfl) ?_
    obtain ⟨r6, z6, hq7, hf⟩ := x_cl_some hf
    refine va_calli (va_runV (As := []) (rest := [.int p2]) ⟨hx, hb, hml, hown, hts⟩ (c_P_width l G (r3 + 1) (x_K_P hr3) z3 r6 z6 hq7) (cwV 0 hts (x_gV t_578 t_220 t_221 t_4 t_222) rfl rfl rfl (by decide +kernel) ⟨Nat.le_of_ble_eq_true rfl, Nat.le_of_ble_eq_true rfl⟩) ⟨x_blind _ _ _, va_recv hK hP (ci := 2) (q0 := (r3 + 1)) rfl (x_lk_P G _ (x_K_P hr3)), fun U hU hW => ⟨rfl, x_pw hP hD hK hG hS hz hU hW⟩⟩ rfl rfl hl.1 rfl (lv_room (Nat.le_of_ble_eq_true rfl)) d_X_sample_21 ⟨Nat.le_of_ble_eq_true rfl, Nat.le_of_ble_eq_true rfl⟩) hS (fun q _ h => h) (fun q h => h) (fun ra u t H locs ht hvm hw hB _ _ hS => ?_)
    obtain ⟨rfl, rfl⟩ := hw
    obtain ⟨hP, hD⟩ := x_back hB ht
    refine lv_icmp_ge (tgt := 40) hx hb d_X_sample_24 (by decide) (fun hc8 => ?_) (fun hc8 => ?_)
    · have hf := x_br_t hf hc8
      obtain ⟨rfl, rfl⟩ := x_retx hf
      exact e_throw (text := "no such sample") (is := 167) hx hb hl9 hown (by decide +kernel) (by decide) (by decide +kernel) hts t_457 t_14 at_149_IndexOutOfBoundsException hG hS (hl.1.trans hml.symm) d_X_sample_40 d_X_sample_43 d_X_sample_44 d_X_sample_46 d_X_sample_49 hEx (Nat.le_of_ble_eq_true rfl) (Nat.le_of_ble_eq_true rfl) (Nat.le_of_ble_eq_true rfl) (Nat.le_of_ble_eq_true rfl) hlocks (fun t hW hsz hk => x_pwk hP hD hK hG hS hz hsz hk hW) (Nat.le_of_ble_eq_true rfl) (Nat.le_of_ble_eq_true rfl)
    · have hf := x_br_f hf hc8
      refine lv_iload_n hx hb d_X_sample_27 rfl (lv_at hl 4 rfl) ?_
      refine lv_if_lt (tgt := 40) hx hb d_X_sample_28 (by decide) (fun hc9 => ?_) (fun hc9 => ?_)
      · have hf := x_br_t hf hc9
        obtain ⟨rfl, rfl⟩ := x_retx hf
        exact e_throw (text := "no such sample") (is := 167) hx hb hl9 hown (by decide +kernel) (by decide) (by decide +kernel) hts t_457 t_14 at_149_IndexOutOfBoundsException hG hS (hl.1.trans hml.symm) d_X_sample_40 d_X_sample_43 d_X_sample_44 d_X_sample_46 d_X_sample_49 hEx (Nat.le_of_ble_eq_true rfl) (Nat.le_of_ble_eq_true rfl) (Nat.le_of_ble_eq_true rfl) (Nat.le_of_ble_eq_true rfl) hlocks (fun t hW hsz hk => x_pwk hP hD hK hG hS hz hsz hk hW) (Nat.le_of_ble_eq_true rfl) (Nat.le_of_ble_eq_true rfl)
      · have hf := x_br_f hf hc9
        refine lv_iload_n hx hb d_X_sample_31 rfl (lv_at hl 4 rfl) ?_
        refine lv_aload hx hb d_X_sample_32 (lv_at hl 0 rfl) ?_
        obtain ⟨r10, z10, hq11, hf⟩ := x_cl_some hf
        refine va_calli (va_runV (As := []) (rest := [.int p3]) ⟨hx, hb, hml, hown, hts⟩ (c_P_height l G (r3 + 1) (x_K_P hr3) z6 r10 z10 hq11) (cwV 0 hts (x_gV t_579 t_227 t_228 t_4 t_229) rfl rfl rfl (by decide +kernel) ⟨Nat.le_of_ble_eq_true rfl, Nat.le_of_ble_eq_true rfl⟩) ⟨x_blind _ _ _, va_recv hK hP (ci := 2) (q0 := (r3 + 1)) rfl (x_lk_P G _ (x_K_P hr3)), fun U hU hW => ⟨rfl, x_pw hP hD hK hG hS hz hU hW⟩⟩ rfl rfl hl.1 rfl (lv_room (Nat.le_of_ble_eq_true rfl)) d_X_sample_34 ⟨Nat.le_of_ble_eq_true rfl, Nat.le_of_ble_eq_true rfl⟩) hS (fun q _ h => h) (fun q h => h) (fun ra u t H locs ht hvm hw hB _ _ hS => ?_)
        obtain ⟨rfl, rfl⟩ := hw
        obtain ⟨hP, hD⟩ := x_back hB ht
        refine lv_icmp_lt (tgt := 50) hx hb d_X_sample_37 (by decide) (fun hc12 => ?_) (fun hc12 => ?_)
        · have hf := x_br_t hf hc12
          refine lv_aload hx hb d_X_sample_50 (lv_at hl 0 rfl) ?_
          refine lv_iload_n hx hb d_X_sample_52 rfl (lv_at hl 3 rfl) ?_
          refine lv_iload_n hx hb d_X_sample_53 rfl (lv_at hl 4 rfl) ?_
          obtain ⟨r13, z13, hq14, hf⟩ := x_cl_some hf
          refine va_calli (va_runV (As := [.int p2, .int p3]) (rest := []) ⟨hx, hb, hml, hown, hts⟩ (c_P_at l G (r3 + 1) (x_K_P hr3) p2 p3 z10 r13 z13 hq14) (cwV 2 hts (x_gV t_581 t_290 t_291 t_4 t_292) rfl rfl rfl (by decide +kernel) ⟨Nat.le_of_ble_eq_true rfl, Nat.le_of_ble_eq_true rfl⟩) ⟨x_blind _ _ _, va_recv hK hP (ci := 2) (q0 := (r3 + 1)) rfl (x_lk_P G _ (x_K_P hr3)), fun U hU hW => ⟨rfl, x_pw hP hD hK hG hS hz hU hW⟩⟩ rfl rfl hl.1 rfl (lv_room (Nat.le_of_ble_eq_true rfl)) d_X_sample_54 ⟨Nat.le_of_ble_eq_true rfl, Nat.le_of_ble_eq_true rfl⟩) hS (fun q _ h => h) (fun q h => h) (fun ra u t H locs ht hvm hw hB _ _ hS => ?_)
          obtain ⟨rfl, rfl⟩ := hw
          obtain ⟨hP, hD⟩ := x_back hB ht
          exact absurd hf x_no_x
        · have hf := x_br_f hf hc12
          obtain ⟨rfl, rfl⟩ := x_retx hf
          exact e_throw (text := "no such sample") (is := 167) hx hb hl9 hown (by decide +kernel) (by decide) (by decide +kernel) hts t_457 t_14 at_149_IndexOutOfBoundsException hG hS (hl.1.trans hml.symm) d_X_sample_40 d_X_sample_43 d_X_sample_44 d_X_sample_46 d_X_sample_49 hEx (Nat.le_of_ble_eq_true rfl) (Nat.le_of_ble_eq_true rfl) (Nat.le_of_ble_eq_true rfl) (Nat.le_of_ble_eq_true rfl) hlocks (fun t hW hsz hk => x_pwk hP hD hK hG hS hz hsz hk hW) (Nat.le_of_ble_eq_true rfl) (Nat.le_of_ble_eq_true rfl)
abbrev rm_X_near : Room := { frames := 7, cells := 0, slots := 0, locals := 103 }
abbrev rx_X_near : Room := { frames := 7, cells := 1, slots := 6, locals := 103 }
set_option maxHeartbeats 4000000 in
set_option maxRecDepth 100000 in
theorem w_X_near_106 (l : Launch) (G : x_G) {p : Program} {e : Env} {s : State} {m : MethodId} {args : Array Value} {below : List Frame} {meth : Method} {c : Code} (C0 : x_Ctx G p s m args meth c prog_1_method_8_code "ContentLibrary" 8 (some .int)) (r : Int32) (zo : x_St) : ∀ (z0 : x_St), f_X_near_106 (x_n G)  z0 = some (Sum.inr r, zo) → ∀ (H : Heap) (locs : List Loc) (ls : Array Slot), va_P (x_D G) vwCl (x_Wd G z0) H → va_D (x_A G) (x_Wd G z0) → va_S (x_A G) s.heap H locs → lv_has ls 8 [(0, .ref (x_ad G 0))] → W p l e rm_X_near s m args below meth c H locs 0 0 (MQ below (va_Qi (fun a u => r = a ∧ zo = u) (x_PW G) (x_A G)) args s 0 0 (x_A G)) (F0 m 106 ls []) := by
  obtain ⟨hx, hb, hr, hml, hown, hts, hlocks, hz, hK, hG⟩ := id C0
  intro  z0 hf H locs ls hP hD hS hl
  rw [f_X_near_106] at hf
  refine lv_aload_n hx hb d_X_near_106 rfl (lv_at hl 0 rfl) ?_
  refine va_get (D := x_D G) (ci := 0) (v := .int (z0.1 0 8)) (C := "ContentLibrary") (T := x_TX) (N := 9) hx hb hts x_inX hown hK hP 0 (x_lk_X G _) rfl 8 (by decide) (hts _ t_138) (fun _ h9 => h9) rfl d_X_near_107 ?_
  obtain ⟨rfl, rfl⟩ := x_retr hf
  exact W.iret (v := (z0.1 0 8)) hx hb hr (fun t ht hW => ⟨⟨_, _, rfl, ⟨rfl, rfl⟩, x_pw hP hD hK hG hS hz ht hW⟩, hS.F ht⟩) hS.2.2 d_X_near_110
set_option maxHeartbeats 4000000 in
set_option maxRecDepth 100000 in
theorem w_X_near_48 (l : Launch) (G : x_G) {p : Program} {e : Env} {s : State} {m : MethodId} {args : Array Value} {below : List Frame} {meth : Method} {c : Code} (C0 : x_Ctx G p s m args meth c prog_1_method_8_code "ContentLibrary" 8 (some .int)) (r : Int32) (zo : x_St) : ∀ (fu : Nat), ∀ (a2 : Int32) (a4 : Int64) (a6 : Int32) (z0 : x_St), f_X_near_48 (x_n G) fu a2 a4 a6 z0 = some (Sum.inr r, zo) → ∀ (H : Heap) (locs : List Loc) (ls : Array Slot), va_P (x_D G) vwCl (x_Wd G z0) H → va_D (x_A G) (x_Wd G z0) → va_S (x_A G) s.heap H locs → lv_has ls 8 [(0, .ref (x_ad G 0)), (2, .int a2), (4, .long a4), (6, .int a6)] → W p l e rm_X_near s m args below meth c H locs 0 0 (MQ below (va_Qi (fun a u => r = a ∧ zo = u) (x_PW G) (x_A G)) args s 0 0 (x_A G)) (F0 m 48 ls []) := by
  obtain ⟨hx, hb, hr, hml, hown, hts, hlocks, hz, hK, hG⟩ := id C0
  intro fu
  induction fu with
  | zero =>
    intro a2 a4 a6 z0 hf
    rw [f_X_near_48] at hf
    cases hf
  | succ fu ih =>
    intro a2 a4 a6 z0 hf H locs ls hP hD hS hl
    rw [f_X_near_48] at hf
    refine lv_iload hx hb d_X_near_48 (lv_at hl 3 rfl) ?_
    refine lv_bipush (v := (16 : Int32)) hx hb d_X_near_50 (by decide) ?_
    refine lv_icmp_ge (tgt := 106) hx hb d_X_near_52 (by decide) (fun hc1 => ?_) (fun hc1 => ?_)
    · have hf := x_br_t hf hc1
      exact w_X_near_106 l G C0 r zo z0 hf _ _ _ hP hD hS (lv_sub hl [0] rfl)
    · have hf := x_br_f hf hc1
      refine lv_aload_n hx hb d_X_near_55 rfl (lv_at hl 0 rfl) ?_
      refine va_get (D := x_D G) (ci := 0) (v := .ref (x_ad G 22)) (C := "ContentLibrary") (T := x_TX) (N := 9) hx hb hts x_inX hown hK hP 0 (x_lk_X G _) rfl 3 (by decide) (hts _ t_133) (fun _ h9 => h9) rfl d_X_near_56 ?_
      refine lv_iload hx hb d_X_near_59 (lv_at hl 3 rfl) ?_
      obtain ⟨hin2, hf⟩ := x_ck_some hf
      refine va_aldq hx hb hK hP 22 3 (x_lk_kept G _) rfl hin2 d_X_near_61 ?_
      refine W.eq (g2 := F0 m 62 ls [.ref (x_ad G (23 + 5 * (a6).toNatClampNeg))]) rfl ?_
      refine va_get (D := x_D G) (ci := 3) (v := .int (z0.1 (23 + 5 * (a6).toNatClampNeg) 0)) (C := "ContentLibrary$Kept") (T := x_TK) (N := 6) hx hb hts x_inK hown hK hP (23 + 5 * (a6).toNatClampNeg) (x_lk_K G _ (x_el_K hin2)) rfl 0 (by decide) (hts _ t_90) (fun _ h9 => h9) rfl d_X_near_62 ?_
      refine lv_if_eq (tgt := 100) hx hb d_X_near_65 (by decide) (fun hc3 => ?_) (fun hc3 => ?_)
      · have hf := x_br_t hf hc3
        refine lv_iinc (v := (a6 + (1 : Int32))) (lv' := [(6, .int (a6 + (1 : Int32))), (0, .ref (x_ad G 0)), (2, .int a2), (4, .long a4)]) hx hb d_X_near_100 hl (k := 3) rfl rfl (by decide) rfl (fun ls hl => ?_)
        refine lv_goto (tgt := 48) hx hb d_X_near_103 (by decide) ?_
        exact ih a2 a4 (a6 + (1 : Int32)) z0 hf _ _ _ hP hD hS (lv_sub hl [1, 2, 3, 0] rfl)
      · have hf := x_br_f hf hc3
        refine lv_lload hx hb d_X_near_68 (lv_at hl 2 rfl) ?_
        refine lv_aload_n hx hb d_X_near_70 rfl (lv_at hl 0 rfl) ?_
        refine va_get (D := x_D G) (ci := 0) (v := .ref (x_ad G 22)) (C := "ContentLibrary") (T := x_TX) (N := 9) hx hb hts x_inX hown hK hP 0 (x_lk_X G _) rfl 3 (by decide) (hts _ t_133) (fun _ h9 => h9) rfl d_X_near_71 ?_
        refine lv_iload hx hb d_X_near_74 (lv_at hl 3 rfl) ?_
        obtain ⟨hin4, hf⟩ := x_ck_some hf
        refine va_aldq hx hb hK hP 22 3 (x_lk_kept G _) rfl hin4 d_X_near_76 ?_
        refine W.eq (g2 := F0 m 77 ls [.ref (x_ad G (23 + 5 * (a6).toNatClampNeg)), .long a4]) rfl ?_
        refine va_get (D := x_D G) (ci := 3) (v := .long (z0.2 (23 + 5 * (a6).toNatClampNeg) 3)) (C := "ContentLibrary$Kept") (T := x_TK) (N := 6) hx hb hts x_inK hown hK hP (23 + 5 * (a6).toNatClampNeg) (x_lk_K G _ (x_el_K hin4)) rfl 3 (by decide) (hts _ t_96) (fun _ h9 => h9) rfl d_X_near_77 ?_
        refine lv_lxor hx hb d_X_near_80 ?_
        obtain ⟨r5, z5, hq6, hf⟩ := x_cl_some hf
        refine va_calli (va_runS (As := [.long (a4 ^^^ (z0.2 (23 + 5 * (a6).toNatClampNeg) 3))]) (rest := []) ⟨hx, hb, hml, hown, hts⟩ (c_Long_bitCount l G (a4 ^^^ (z0.2 (23 + 5 * (a6).toNatClampNeg) 3)) z0 r5 z5 hq6) (va_cwS 1 hts (x_gS t_590 t_591 t_18 t_592) rfl rfl rfl (by decide +kernel) ⟨Nat.le_of_ble_eq_true rfl, Nat.le_of_ble_eq_true rfl⟩) ⟨x_blind _ _ _, fun U hU hW => ⟨rfl, x_pw hP hD hK hG hS hz hU hW⟩⟩ rfl rfl hl.1 rfl (lv_room (Nat.le_of_ble_eq_true rfl)) d_X_near_81 ⟨Nat.le_of_ble_eq_true rfl, Nat.le_of_ble_eq_true rfl⟩) hS (fun q _ h => h) (fun q h => h) (fun ra u t H locs ht hvm hw hB _ _ hS => ?_)
        obtain ⟨rfl, rfl⟩ := hw
        obtain ⟨hP, hD⟩ := x_back hB ht
        refine lv_istore (lv' := [(7, .int r5), (0, .ref (x_ad G 0)), (2, .int a2), (4, .long a4), (6, .int a6)]) hx hb d_X_near_84 hl (by decide) rfl (fun ls hl => ?_)
        refine lv_iload hx hb d_X_near_86 (lv_at hl 0 rfl) ?_
        refine lv_iload_n hx hb d_X_near_88 rfl (lv_at hl 2 rfl) ?_
        refine lv_icmp_gt (tgt := 100) hx hb d_X_near_89 (by decide) (fun hc7 => ?_) (fun hc7 => ?_)
        · have hf := x_br_t hf hc7
          refine lv_iinc (v := (a6 + (1 : Int32))) (lv' := [(6, .int (a6 + (1 : Int32))), (7, .int r5), (0, .ref (x_ad G 0)), (2, .int a2), (4, .long a4)]) hx hb d_X_near_100 hl (k := 4) rfl rfl (by decide) rfl (fun ls hl => ?_)
          refine lv_goto (tgt := 48) hx hb d_X_near_103 (by decide) ?_
          exact ih a2 a4 (a6 + (1 : Int32)) z5 hf _ _ _ hP hD hS (lv_sub hl [2, 3, 4, 0] rfl)
        · have hf := x_br_f hf hc7
          refine lv_aload_n hx hb d_X_near_92 rfl (lv_at hl 1 rfl) ?_
          refine lv_iload hx hb d_X_near_93 (lv_at hl 4 rfl) ?_
          refine lv_iload hx hb d_X_near_95 (lv_at hl 0 rfl) ?_
          obtain ⟨r8, z8, hq9, hf⟩ := x_cl_some hf
          refine va_callv (va_runV (As := [.int a6, .int r5]) (rest := []) ⟨hx, hb, hml, hown, hts⟩ (c_X_enterFound l G a6 r5 z5 r8 z8 hq9) (cwV 2 hts (x_gV t_596 t_598 sel_ContentLibrary_enterFound t_1 t_599) rfl rfl rfl (by decide +kernel) ⟨Nat.le_of_ble_eq_true rfl, Nat.le_of_ble_eq_true rfl⟩) ⟨x_blind _ _ _, va_recv hK hP (ci := 0) (q0 := 0) rfl (x_lk_X G _), fun U hU hW => ⟨rfl, x_pw hP hD hK hG hS hz hU hW⟩⟩ rfl rfl hl.1 rfl (lv_room (Nat.le_of_ble_eq_true rfl)) d_X_near_97 ⟨Nat.le_of_ble_eq_true rfl, Nat.le_of_ble_eq_true rfl⟩) hS (fun q _ h => h) (fun q h => h) (fun u t H locs ht hvm hw hB _ _ hS => ?_)
          obtain ⟨rfl, rfl⟩ := hw
          obtain ⟨hP, hD⟩ := x_back hB ht
          refine lv_iinc (v := (a6 + (1 : Int32))) (lv' := [(6, .int (a6 + (1 : Int32))), (7, .int r5), (0, .ref (x_ad G 0)), (2, .int a2), (4, .long a4)]) hx hb d_X_near_100 hl (k := 4) rfl rfl (by decide) rfl (fun ls hl => ?_)
          refine lv_goto (tgt := 48) hx hb d_X_near_103 (by decide) ?_
          exact ih a2 a4 (a6 + (1 : Int32)) z8 hf _ _ _ hP hD hS (lv_sub hl [2, 3, 4, 0] rfl)
set_option maxHeartbeats 4000000 in
set_option maxRecDepth 100000 in
theorem c_X_near (l : Launch) (G : x_G) (p1 : Int32) (p2 : Int32) (z0 : x_St) (r : Int32) (zo : x_St) (hf : f_X_near (x_n G) p1 p2 z0 = some (Sum.inr r, zo)) : Met l (⟨"ContentLibrary", "near", "(II)I"⟩ : MethodName) (x_ws (⟨"ContentLibrary", "near", "(II)I"⟩ : MethodName) prog_1_method_8_code 8 (some .int)) rm_X_near (va_Pc [.ref (x_ad G 0), .int p1, .int p2] (x_PW G z0)) (va_Qi (fun a u => r = a ∧ zo = u) (x_PW G) (x_A G)) 0 0 (x_A G) := by
  refine Met.ofW (cc := prog_1_method_8_code) (maxL := 8) (ret := (some .int)) (by decide) rfl ?_
  intro p e s m args below meth c s₁ B hml hv
  obtain ⟨rfl, hz, hP, hD, hK, hG⟩ := hv
  have C0 : x_Ctx G p s m _ meth c prog_1_method_8_code "ContentLibrary" 8 (some .int) := ⟨B.exec, B.bytes, B.returns, hml, findClass_of_methodNamed B.named, fun w h => atoms_spec (ws := (x_ws (⟨"ContentLibrary", "near", "(II)I"⟩ : MethodName) prog_1_method_8_code 8 (some .int))) B.pre w (List.mem_cons_of_mem _ h), B.notSynchronized, hz, hK, hG⟩
  obtain ⟨hx, hb, hr, hml, hown, hts, hlocks, hz, hK, hG⟩ := id C0
  have hS : va_S (x_A G) s.heap s.heap [] := va_S.rf
  have hl := lv_entry ([.ref (x_ad G 0), .int p1, .int p2]) (n := 8) (Nat.le_of_ble_eq_true rfl)
  rw [lg_entry_eq]
  generalize (lg_sl ([.ref (x_ad G 0), .int p1, .int p2]) ++ List.replicate (8 - (lg_sl ([.ref (x_ad G 0), .int p1, .int p2])).length) Slot.unset).toArray = ls at hl ⊢
  have hl : lv_has ls 8 [(0, .ref (x_ad G 0)), (1, .int p1), (2, .int p2)] := hl
  rw [f_X_near] at hf
  refine lv_aload_n hx hb d_X_near_0 rfl (lv_at hl 0 rfl) ?_
  obtain ⟨r10, z10, hq11, hf⟩ := x_clx_r hf
  refine va_callv (va_runV (As := []) (rest := []) ⟨hx, hb, hml, hown, hts⟩ (c_X_refuseWhenCut l G z0 r10 z10 hq11) (cwV 0 hts (x_gV t_335 t_337 sel_ContentLibrary_refuseWhenCut t_1 t_338) rfl rfl rfl (by decide +kernel) ⟨Nat.le_of_ble_eq_true rfl, Nat.le_of_ble_eq_true rfl⟩) ⟨x_blind _ _ _, va_recv hK hP (ci := 0) (q0 := 0) rfl (x_lk_X G _), fun U hU hW => ⟨rfl, x_pw hP hD hK hG hS hz hU hW⟩⟩ rfl rfl hl.1 rfl (lv_room (Nat.le_of_ble_eq_true rfl)) d_X_near_1 ⟨Nat.le_of_ble_eq_true rfl, Nat.le_of_ble_eq_true rfl⟩) hS (fun q _ h => h) (fun q h => h) (fun u t H locs ht hvm hw hB _ _ hS => ?_)
  obtain ⟨rfl, rfl⟩ := hw
  obtain ⟨hP, hD⟩ := x_back hB ht
  refine lv_aload_n hx hb d_X_near_4 rfl (lv_at hl 0 rfl) ?_
  refine lv_iload_n hx hb d_X_near_5 rfl (lv_at hl 1 rfl) ?_
  obtain ⟨r12, z12, hq13, hf⟩ := x_clx_r hf
  refine va_callr (va_runV (As := [.int p1]) (rest := []) ⟨hx, hb, hml, hown, hts⟩ (c_X_pictureBeingMade l G p1 z10 r12 z12 hq13) (cwV 1 hts (x_gV t_453 t_455 sel_ContentLibrary_pictureBeingMade t_1 t_456) rfl rfl rfl (by decide +kernel) ⟨Nat.le_of_ble_eq_true rfl, Nat.le_of_ble_eq_true rfl⟩) ⟨x_blind _ _ _, va_recv hK hP (ci := 0) (q0 := 0) rfl (x_lk_X G _), fun U hU hW => ⟨rfl, x_pw hP hD hK hG hS hz hU hW⟩⟩ rfl rfl hl.1 rfl (lv_room (Nat.le_of_ble_eq_true rfl)) d_X_near_6 ⟨Nat.le_of_ble_eq_true rfl, Nat.le_of_ble_eq_true rfl⟩) hS (fun q _ h => h) (fun q h => h) (fun u ra t H locs ht hvm hw hB _ _ hS => ?_)
  obtain rfl := hw
  obtain ⟨_, rfl, hr12, rfl, hB⟩ := hB
  obtain ⟨hP, hD⟩ := x_back hB ht
  refine lv_astore_n (lv' := [(3, .ref (x_ad G r12)), (0, .ref (x_ad G 0)), (1, .int p1), (2, .int p2)]) hx hb d_X_near_9 rfl hl (by decide) rfl (fun ls hl => ?_)
  refine lv_aload_n hx hb d_X_near_10 rfl (lv_at hl 0 rfl) ?_
  obtain ⟨r14, z14, hq15, hf⟩ := x_clx_r hf
  refine va_callv (va_runS (As := [.ref (x_ad G r12)]) (rest := []) ⟨hx, hb, hml, hown, hts⟩ (c_X_refuseUnlessWhole l G r12 hr12 z12 r14 z14 hq15) (va_cwS 1 hts (x_gS t_486 t_487 t_1 t_488) rfl rfl rfl (by decide +kernel) ⟨Nat.le_of_ble_eq_true rfl, Nat.le_of_ble_eq_true rfl⟩) ⟨x_blind _ _ _, fun U hU hW => ⟨rfl, x_pw hP hD hK hG hS hz hU hW⟩⟩ rfl rfl hl.1 rfl (lv_room (Nat.le_of_ble_eq_true rfl)) d_X_near_11 ⟨Nat.le_of_ble_eq_true rfl, Nat.le_of_ble_eq_true rfl⟩) hS (fun q _ h => h) (fun q h => h) (fun u t H locs ht hvm hw hB _ _ hS => ?_)
  obtain ⟨rfl, rfl⟩ := hw
  obtain ⟨hP, hD⟩ := x_back hB ht
  refine lv_iload_n hx hb d_X_near_14 rfl (lv_at hl 3 rfl) ?_
  refine lv_if_lt (tgt := 24) hx hb d_X_near_15 (by decide) (fun hc16 => ?_) (fun hc16 => ?_)
  · have hf := x_br_t hf hc16
    exact absurd hf x_no_r
  · have hf := x_br_f hf hc16
    refine lv_iload_n hx hb d_X_near_18 rfl (lv_at hl 3 rfl) ?_
    refine lv_bipush (v := (64 : Int32)) hx hb d_X_near_19 (by decide) ?_
    refine lv_icmp_le (tgt := 34) hx hb d_X_near_21 (by decide) (fun hc17 => ?_) (fun hc17 => ?_)
    · have hf := x_br_t hf hc17
      refine lv_aload_n hx hb d_X_near_34 rfl (lv_at hl 0 rfl) ?_
      obtain ⟨r18, z18, hq19, hf⟩ := x_cl_some hf
      refine va_calll (va_runV (As := []) (rest := []) ⟨hx, hb, hml, hown, hts⟩ (c_P_printBits l G r12 hr12 z14 r18 z18 hq19) (cwV 0 hts (x_gV t_285 t_286 t_287 t_4 t_288) rfl rfl rfl (by decide +kernel) ⟨Nat.le_of_ble_eq_true rfl, Nat.le_of_ble_eq_true rfl⟩) ⟨x_blind _ _ _, va_recv hK hP (ci := 2) (q0 := r12) rfl (x_lk_P G _ hr12), fun U hU hW => ⟨rfl, x_pw hP hD hK hG hS hz hU hW⟩⟩ rfl rfl hl.1 rfl (lv_room (Nat.le_of_ble_eq_true rfl)) d_X_near_35 ⟨Nat.le_of_ble_eq_true rfl, Nat.le_of_ble_eq_true rfl⟩) hS (fun q _ h => h) (fun q h => h) (fun ra u t H locs ht hvm hw hB _ _ hS => ?_)
      obtain ⟨rfl, rfl⟩ := hw
      obtain ⟨hP, hD⟩ := x_back hB ht
      refine lv_lstore (lv' := [(4, .long r18), (3, .ref (x_ad G r12)), (0, .ref (x_ad G 0)), (1, .int p1), (2, .int p2)]) hx hb d_X_near_38 hl (by decide) rfl (fun ls hl => ?_)
      refine lv_aload_n hx hb d_X_near_40 rfl (lv_at hl 2 rfl) ?_
      refine lv_iconst (v := (0 : Int32)) hx hb d_X_near_41 (by decide) ?_
      refine va_put (D := x_D G) (ci := 0) (v := .int (0 : Int32)) (ty := .int) (C := "ContentLibrary") (T := x_TX) (N := 9) hx hb hts x_inX x_tyX x_tyX_ok x_nmX hown hK hP hD hS 0 (x_lk_X G _) rfl 8 (by decide) (hts _ t_138) (fun _ h9 => h9) rfl (by decide +kernel) rfl rfl (Nat.le_of_ble_eq_true rfl) d_X_near_42 (fun H locs hP hD hS => ?_)
      rw [x_st_X8 G _] at hP hD
      refine lv_iconst (v := (0 : Int32)) hx hb d_X_near_45 (by decide) ?_
      refine lv_istore (lv' := [(6, .int (0 : Int32)), (4, .long r18), (3, .ref (x_ad G r12)), (0, .ref (x_ad G 0)), (1, .int p1), (2, .int p2)]) hx hb d_X_near_46 hl (by decide) rfl (fun ls hl => ?_)
      exact w_X_near_48 l G C0 r zo x_FU p2 r18 (0 : Int32) (x_put z18 0 8 (0 : Int32)) hf _ _ _ hP hD hS (lv_sub hl [3, 5, 1, 0] rfl)
    · have hf := x_br_f hf hc17
      exact absurd hf x_no_r
set_option maxHeartbeats 4000000 in
set_option maxRecDepth 100000 in
theorem w_X_near_106_x (l : Launch) (G : x_G) {p : Program} {e : Env} {s : State} {m : MethodId} {args : Array Value} {below : List Frame} {meth : Method} {c : Code} (C0 : x_Ctx G p s m args meth c prog_1_method_8_code "ContentLibrary" 8 (some .int)) (hl9 : l.stackTraces = false) (hEx : ∀ x ∈ c.exceptionTable.toList, False) (E : String) (zo : x_St) : ∀ (z0 : x_St), f_X_near_106 (x_n G)  z0 = some (Sum.inl E, zo) → ∀ (H : Heap) (locs : List Loc) (ls : Array Slot), va_P (x_D G) vwCl (x_Wd G z0) H → va_D (x_A G) (x_Wd G z0) → va_S (x_A G) s.heap H locs → lv_has ls 8 [(0, .ref (x_ad G 0))] → W p l e rx_X_near s m args below meth c H locs 0 0 (e_MQ below G E zo s 1 6) (F0 m 106 ls []) := by
  obtain ⟨hx, hb, hr, hml, hown, hts, hlocks, hz, hK, hG⟩ := id C0
  intro  z0 hf H locs ls hP hD hS hl
  rw [f_X_near_106] at hf
  refine lv_aload_n hx hb d_X_near_106 rfl (lv_at hl 0 rfl) ?_
  refine va_get (D := x_D G) (ci := 0) (v := .int (z0.1 0 8)) (C := "ContentLibrary") (T := x_TX) (N := 9) hx hb hts x_inX hown hK hP 0 (x_lk_X G _) rfl 8 (by decide) (hts _ t_138) (fun _ h9 => h9) rfl d_X_near_107 ?_
  exact absurd hf x_no_x
set_option maxHeartbeats 4000000 in
set_option maxRecDepth 100000 in
theorem w_X_near_48_x (l : Launch) (G : x_G) {p : Program} {e : Env} {s : State} {m : MethodId} {args : Array Value} {below : List Frame} {meth : Method} {c : Code} (C0 : x_Ctx G p s m args meth c prog_1_method_8_code "ContentLibrary" 8 (some .int)) (hl9 : l.stackTraces = false) (hEx : ∀ x ∈ c.exceptionTable.toList, False) (E : String) (zo : x_St) : ∀ (fu : Nat), ∀ (a2 : Int32) (a4 : Int64) (a6 : Int32) (z0 : x_St), f_X_near_48 (x_n G) fu a2 a4 a6 z0 = some (Sum.inl E, zo) → ∀ (H : Heap) (locs : List Loc) (ls : Array Slot), va_P (x_D G) vwCl (x_Wd G z0) H → va_D (x_A G) (x_Wd G z0) → va_S (x_A G) s.heap H locs → lv_has ls 8 [(0, .ref (x_ad G 0)), (2, .int a2), (4, .long a4), (6, .int a6)] → W p l e rx_X_near s m args below meth c H locs 0 0 (e_MQ below G E zo s 1 6) (F0 m 48 ls []) := by
  obtain ⟨hx, hb, hr, hml, hown, hts, hlocks, hz, hK, hG⟩ := id C0
  intro fu
  induction fu with
  | zero =>
    intro a2 a4 a6 z0 hf
    rw [f_X_near_48] at hf
    cases hf
  | succ fu ih =>
    intro a2 a4 a6 z0 hf H locs ls hP hD hS hl
    rw [f_X_near_48] at hf
    refine lv_iload hx hb d_X_near_48 (lv_at hl 3 rfl) ?_
    refine lv_bipush (v := (16 : Int32)) hx hb d_X_near_50 (by decide) ?_
    refine lv_icmp_ge (tgt := 106) hx hb d_X_near_52 (by decide) (fun hc1 => ?_) (fun hc1 => ?_)
    · have hf := x_br_t hf hc1
      exact w_X_near_106_x l G C0 hl9 hEx E zo z0 hf _ _ _ hP hD hS (lv_sub hl [0] rfl)
    · have hf := x_br_f hf hc1
      refine lv_aload_n hx hb d_X_near_55 rfl (lv_at hl 0 rfl) ?_
      refine va_get (D := x_D G) (ci := 0) (v := .ref (x_ad G 22)) (C := "ContentLibrary") (T := x_TX) (N := 9) hx hb hts x_inX hown hK hP 0 (x_lk_X G _) rfl 3 (by decide) (hts _ t_133) (fun _ h9 => h9) rfl d_X_near_56 ?_
      refine lv_iload hx hb d_X_near_59 (lv_at hl 3 rfl) ?_
      obtain ⟨hin2, hf⟩ := x_ck_some hf
      refine va_aldq hx hb hK hP 22 3 (x_lk_kept G _) rfl hin2 d_X_near_61 ?_
      refine W.eq (g2 := F0 m 62 ls [.ref (x_ad G (23 + 5 * (a6).toNatClampNeg))]) rfl ?_
      refine va_get (D := x_D G) (ci := 3) (v := .int (z0.1 (23 + 5 * (a6).toNatClampNeg) 0)) (C := "ContentLibrary$Kept") (T := x_TK) (N := 6) hx hb hts x_inK hown hK hP (23 + 5 * (a6).toNatClampNeg) (x_lk_K G _ (x_el_K hin2)) rfl 0 (by decide) (hts _ t_90) (fun _ h9 => h9) rfl d_X_near_62 ?_
      refine lv_if_eq (tgt := 100) hx hb d_X_near_65 (by decide) (fun hc3 => ?_) (fun hc3 => ?_)
      · have hf := x_br_t hf hc3
        refine lv_iinc (v := (a6 + (1 : Int32))) (lv' := [(6, .int (a6 + (1 : Int32))), (0, .ref (x_ad G 0)), (2, .int a2), (4, .long a4)]) hx hb d_X_near_100 hl (k := 3) rfl rfl (by decide) rfl (fun ls hl => ?_)
        refine lv_goto (tgt := 48) hx hb d_X_near_103 (by decide) ?_
        exact ih a2 a4 (a6 + (1 : Int32)) z0 hf _ _ _ hP hD hS (lv_sub hl [1, 2, 3, 0] rfl)
      · have hf := x_br_f hf hc3
        refine lv_lload hx hb d_X_near_68 (lv_at hl 2 rfl) ?_
        refine lv_aload_n hx hb d_X_near_70 rfl (lv_at hl 0 rfl) ?_
        refine va_get (D := x_D G) (ci := 0) (v := .ref (x_ad G 22)) (C := "ContentLibrary") (T := x_TX) (N := 9) hx hb hts x_inX hown hK hP 0 (x_lk_X G _) rfl 3 (by decide) (hts _ t_133) (fun _ h9 => h9) rfl d_X_near_71 ?_
        refine lv_iload hx hb d_X_near_74 (lv_at hl 3 rfl) ?_
        obtain ⟨hin4, hf⟩ := x_ck_some hf
        refine va_aldq hx hb hK hP 22 3 (x_lk_kept G _) rfl hin4 d_X_near_76 ?_
        refine W.eq (g2 := F0 m 77 ls [.ref (x_ad G (23 + 5 * (a6).toNatClampNeg)), .long a4]) rfl ?_
        refine va_get (D := x_D G) (ci := 3) (v := .long (z0.2 (23 + 5 * (a6).toNatClampNeg) 3)) (C := "ContentLibrary$Kept") (T := x_TK) (N := 6) hx hb hts x_inK hown hK hP (23 + 5 * (a6).toNatClampNeg) (x_lk_K G _ (x_el_K hin4)) rfl 3 (by decide) (hts _ t_96) (fun _ h9 => h9) rfl d_X_near_77 ?_
        refine lv_lxor hx hb d_X_near_80 ?_
        obtain ⟨r5, z5, hq6, hf⟩ := x_cl_some hf
        refine va_calli (va_runS (As := [.long (a4 ^^^ (z0.2 (23 + 5 * (a6).toNatClampNeg) 3))]) (rest := []) ⟨hx, hb, hml, hown, hts⟩ (c_Long_bitCount l G (a4 ^^^ (z0.2 (23 + 5 * (a6).toNatClampNeg) 3)) z0 r5 z5 hq6) (va_cwS 1 hts (x_gS t_590 t_591 t_18 t_592) rfl rfl rfl (by decide +kernel) ⟨Nat.le_of_ble_eq_true rfl, Nat.le_of_ble_eq_true rfl⟩) ⟨x_blind _ _ _, fun U hU hW => ⟨rfl, x_pw hP hD hK hG hS hz hU hW⟩⟩ rfl rfl hl.1 rfl (lv_room (Nat.le_of_ble_eq_true rfl)) d_X_near_81 ⟨Nat.le_of_ble_eq_true rfl, Nat.le_of_ble_eq_true rfl⟩) hS (fun q _ h => h) (fun q h => h) (fun ra u t H locs ht hvm hw hB _ _ hS => ?_)
        obtain ⟨rfl, rfl⟩ := hw
        obtain ⟨hP, hD⟩ := x_back hB ht
        refine lv_istore (lv' := [(7, .int r5), (0, .ref (x_ad G 0)), (2, .int a2), (4, .long a4), (6, .int a6)]) hx hb d_X_near_84 hl (by decide) rfl (fun ls hl => ?_)
        refine lv_iload hx hb d_X_near_86 (lv_at hl 0 rfl) ?_
        refine lv_iload_n hx hb d_X_near_88 rfl (lv_at hl 2 rfl) ?_
        refine lv_icmp_gt (tgt := 100) hx hb d_X_near_89 (by decide) (fun hc7 => ?_) (fun hc7 => ?_)
        · have hf := x_br_t hf hc7
          refine lv_iinc (v := (a6 + (1 : Int32))) (lv' := [(6, .int (a6 + (1 : Int32))), (7, .int r5), (0, .ref (x_ad G 0)), (2, .int a2), (4, .long a4)]) hx hb d_X_near_100 hl (k := 4) rfl rfl (by decide) rfl (fun ls hl => ?_)
          refine lv_goto (tgt := 48) hx hb d_X_near_103 (by decide) ?_
          exact ih a2 a4 (a6 + (1 : Int32)) z5 hf _ _ _ hP hD hS (lv_sub hl [2, 3, 4, 0] rfl)
        · have hf := x_br_f hf hc7
          refine lv_aload_n hx hb d_X_near_92 rfl (lv_at hl 1 rfl) ?_
          refine lv_iload hx hb d_X_near_93 (lv_at hl 4 rfl) ?_
          refine lv_iload hx hb d_X_near_95 (lv_at hl 0 rfl) ?_
          obtain ⟨r8, z8, hq9, hf⟩ := x_cl_some hf
          refine va_callv (va_runV (As := [.int a6, .int r5]) (rest := []) ⟨hx, hb, hml, hown, hts⟩ (c_X_enterFound l G a6 r5 z5 r8 z8 hq9) (cwV 2 hts (x_gV t_596 t_598 sel_ContentLibrary_enterFound t_1 t_599) rfl rfl rfl (by decide +kernel) ⟨Nat.le_of_ble_eq_true rfl, Nat.le_of_ble_eq_true rfl⟩) ⟨x_blind _ _ _, va_recv hK hP (ci := 0) (q0 := 0) rfl (x_lk_X G _), fun U hU hW => ⟨rfl, x_pw hP hD hK hG hS hz hU hW⟩⟩ rfl rfl hl.1 rfl (lv_room (Nat.le_of_ble_eq_true rfl)) d_X_near_97 ⟨Nat.le_of_ble_eq_true rfl, Nat.le_of_ble_eq_true rfl⟩) hS (fun q _ h => h) (fun q h => h) (fun u t H locs ht hvm hw hB _ _ hS => ?_)
          obtain ⟨rfl, rfl⟩ := hw
          obtain ⟨hP, hD⟩ := x_back hB ht
          refine lv_iinc (v := (a6 + (1 : Int32))) (lv' := [(6, .int (a6 + (1 : Int32))), (7, .int r5), (0, .ref (x_ad G 0)), (2, .int a2), (4, .long a4)]) hx hb d_X_near_100 hl (k := 4) rfl rfl (by decide) rfl (fun ls hl => ?_)
          refine lv_goto (tgt := 48) hx hb d_X_near_103 (by decide) ?_
          exact ih a2 a4 (a6 + (1 : Int32)) z8 hf _ _ _ hP hD hS (lv_sub hl [2, 3, 4, 0] rfl)
set_option maxHeartbeats 4000000 in
set_option maxRecDepth 100000 in
theorem c_X_near_x (l : Launch) (G : x_G) (hl9 : l.stackTraces = false) (p1 : Int32) (p2 : Int32) (z0 : x_St) (E : String) (zo : x_St) (hf : f_X_near (x_n G) p1 p2 z0 = some (Sum.inl E, zo)) : e_Met l G (⟨"ContentLibrary", "near", "(II)I"⟩ : MethodName) (x_ws (⟨"ContentLibrary", "near", "(II)I"⟩ : MethodName) prog_1_method_8_code 8 (some .int)) rx_X_near (va_Pc [.ref (x_ad G 0), .int p1, .int p2] (x_PW G z0)) E zo 1 6 := by
  refine e_ofW (cc := prog_1_method_8_code) (maxL := 8) (ret := (some .int)) (by decide) rfl ?_
  intro p e s m args below meth c s₁ B hml hEx hv
  obtain ⟨rfl, hz, hP, hD, hK, hG⟩ := hv
  have C0 : x_Ctx G p s m _ meth c prog_1_method_8_code "ContentLibrary" 8 (some .int) := ⟨B.exec, B.bytes, B.returns, hml, findClass_of_methodNamed B.named, fun w h => atoms_spec (ws := (x_ws (⟨"ContentLibrary", "near", "(II)I"⟩ : MethodName) prog_1_method_8_code 8 (some .int))) B.pre w (List.mem_cons_of_mem _ h), B.notSynchronized, hz, hK, hG⟩
  obtain ⟨hx, hb, hr, hml, hown, hts, hlocks, hz, hK, hG⟩ := id C0
  have hS : va_S (x_A G) s.heap s.heap [] := va_S.rf
  have hl := lv_entry ([.ref (x_ad G 0), .int p1, .int p2]) (n := 8) (Nat.le_of_ble_eq_true rfl)
  rw [lg_entry_eq]
  generalize (lg_sl ([.ref (x_ad G 0), .int p1, .int p2]) ++ List.replicate (8 - (lg_sl ([.ref (x_ad G 0), .int p1, .int p2])).length) Slot.unset).toArray = ls at hl ⊢
  have hl : lv_has ls 8 [(0, .ref (x_ad G 0)), (1, .int p1), (2, .int p2)] := hl
  rw [f_X_near] at hf
  refine lv_aload_n hx hb d_X_near_0 rfl (lv_at hl 0 rfl) ?_
  rcases x_clx_x hf with hq11 | ⟨r10, z10, hq11, hf⟩
  · exact e_callV (As := []) (rest := []) ⟨hx, hb, hml, hown, hts⟩ (c_X_refuseWhenCut_x l G hl9 z0 E zo hq11) (cwV 0 hts (x_gV t_335 t_337 sel_ContentLibrary_refuseWhenCut t_1 t_338) rfl rfl rfl (by decide +kernel) ⟨Nat.le_of_ble_eq_true rfl, Nat.le_of_ble_eq_true rfl⟩) ⟨x_blind _ _ _, va_recv hK hP (ci := 0) (q0 := 0) rfl (x_lk_X G _), fun U hU hW => ⟨rfl, x_pw hP hD hK hG hS hz hU hW⟩⟩ rfl hl.1 rfl (lv_room (Nat.le_of_ble_eq_true rfl)) d_X_near_1 ⟨Nat.le_of_ble_eq_true rfl, Nat.le_of_ble_eq_true rfl⟩ hz hS (fun q ce H locs hP hD hS hce hcv hcl => e_out (fun x hx => (hEx x hx).elim) hlocks hce hcv hcl hS (fun t ht hW => x_pw hP hD hK hG hS hz ht hW) (Nat.le_of_ble_eq_true rfl) (Nat.le_of_ble_eq_true rfl))
  refine va_callv (va_runV (As := []) (rest := []) ⟨hx, hb, hml, hown, hts⟩ (c_X_refuseWhenCut l G z0 r10 z10 hq11) (cwV 0 hts (x_gV t_335 t_337 sel_ContentLibrary_refuseWhenCut t_1 t_338) rfl rfl rfl (by decide +kernel) ⟨Nat.le_of_ble_eq_true rfl, Nat.le_of_ble_eq_true rfl⟩) ⟨x_blind _ _ _, va_recv hK hP (ci := 0) (q0 := 0) rfl (x_lk_X G _), fun U hU hW => ⟨rfl, x_pw hP hD hK hG hS hz hU hW⟩⟩ rfl rfl hl.1 rfl (lv_room (Nat.le_of_ble_eq_true rfl)) d_X_near_1 ⟨Nat.le_of_ble_eq_true rfl, Nat.le_of_ble_eq_true rfl⟩) hS (fun q _ h => h) (fun q h => h) (fun u t H locs ht hvm hw hB _ _ hS => ?_)
  obtain ⟨rfl, rfl⟩ := hw
  obtain ⟨hP, hD⟩ := x_back hB ht
  refine lv_aload_n hx hb d_X_near_4 rfl (lv_at hl 0 rfl) ?_
  refine lv_iload_n hx hb d_X_near_5 rfl (lv_at hl 1 rfl) ?_
  rcases x_clx_x hf with hq13 | ⟨r12, z12, hq13, hf⟩
  · exact e_callV (As := [.int p1]) (rest := []) ⟨hx, hb, hml, hown, hts⟩ (c_X_pictureBeingMade_x l G hl9 p1 z10 E zo hq13) (cwV 1 hts (x_gV t_453 t_455 sel_ContentLibrary_pictureBeingMade t_1 t_456) rfl rfl rfl (by decide +kernel) ⟨Nat.le_of_ble_eq_true rfl, Nat.le_of_ble_eq_true rfl⟩) ⟨x_blind _ _ _, va_recv hK hP (ci := 0) (q0 := 0) rfl (x_lk_X G _), fun U hU hW => ⟨rfl, x_pw hP hD hK hG hS hz hU hW⟩⟩ rfl hl.1 rfl (lv_room (Nat.le_of_ble_eq_true rfl)) d_X_near_6 ⟨Nat.le_of_ble_eq_true rfl, Nat.le_of_ble_eq_true rfl⟩ hz hS (fun q ce H locs hP hD hS hce hcv hcl => e_out (fun x hx => (hEx x hx).elim) hlocks hce hcv hcl hS (fun t ht hW => x_pw hP hD hK hG hS hz ht hW) (Nat.le_of_ble_eq_true rfl) (Nat.le_of_ble_eq_true rfl))
  refine va_callr (va_runV (As := [.int p1]) (rest := []) ⟨hx, hb, hml, hown, hts⟩ (c_X_pictureBeingMade l G p1 z10 r12 z12 hq13) (cwV 1 hts (x_gV t_453 t_455 sel_ContentLibrary_pictureBeingMade t_1 t_456) rfl rfl rfl (by decide +kernel) ⟨Nat.le_of_ble_eq_true rfl, Nat.le_of_ble_eq_true rfl⟩) ⟨x_blind _ _ _, va_recv hK hP (ci := 0) (q0 := 0) rfl (x_lk_X G _), fun U hU hW => ⟨rfl, x_pw hP hD hK hG hS hz hU hW⟩⟩ rfl rfl hl.1 rfl (lv_room (Nat.le_of_ble_eq_true rfl)) d_X_near_6 ⟨Nat.le_of_ble_eq_true rfl, Nat.le_of_ble_eq_true rfl⟩) hS (fun q _ h => h) (fun q h => h) (fun u ra t H locs ht hvm hw hB _ _ hS => ?_)
  obtain rfl := hw
  obtain ⟨_, rfl, hr12, rfl, hB⟩ := hB
  obtain ⟨hP, hD⟩ := x_back hB ht
  refine lv_astore_n (lv' := [(3, .ref (x_ad G r12)), (0, .ref (x_ad G 0)), (1, .int p1), (2, .int p2)]) hx hb d_X_near_9 rfl hl (by decide) rfl (fun ls hl => ?_)
  refine lv_aload_n hx hb d_X_near_10 rfl (lv_at hl 0 rfl) ?_
  rcases x_clx_x hf with hq15 | ⟨r14, z14, hq15, hf⟩
  · exact e_callS (As := [.ref (x_ad G r12)]) (rest := []) ⟨hx, hb, hml, hown, hts⟩ (c_X_refuseUnlessWhole_x l G hl9 r12 hr12 z12 E zo hq15) (va_cwS 1 hts (x_gS t_486 t_487 t_1 t_488) rfl rfl rfl (by decide +kernel) ⟨Nat.le_of_ble_eq_true rfl, Nat.le_of_ble_eq_true rfl⟩) ⟨x_blind _ _ _, fun U hU hW => ⟨rfl, x_pw hP hD hK hG hS hz hU hW⟩⟩ rfl hl.1 rfl (lv_room (Nat.le_of_ble_eq_true rfl)) d_X_near_11 ⟨Nat.le_of_ble_eq_true rfl, Nat.le_of_ble_eq_true rfl⟩ hz hS (fun q ce H locs hP hD hS hce hcv hcl => e_out (fun x hx => (hEx x hx).elim) hlocks hce hcv hcl hS (fun t ht hW => x_pw hP hD hK hG hS hz ht hW) (Nat.le_of_ble_eq_true rfl) (Nat.le_of_ble_eq_true rfl))
  refine va_callv (va_runS (As := [.ref (x_ad G r12)]) (rest := []) ⟨hx, hb, hml, hown, hts⟩ (c_X_refuseUnlessWhole l G r12 hr12 z12 r14 z14 hq15) (va_cwS 1 hts (x_gS t_486 t_487 t_1 t_488) rfl rfl rfl (by decide +kernel) ⟨Nat.le_of_ble_eq_true rfl, Nat.le_of_ble_eq_true rfl⟩) ⟨x_blind _ _ _, fun U hU hW => ⟨rfl, x_pw hP hD hK hG hS hz hU hW⟩⟩ rfl rfl hl.1 rfl (lv_room (Nat.le_of_ble_eq_true rfl)) d_X_near_11 ⟨Nat.le_of_ble_eq_true rfl, Nat.le_of_ble_eq_true rfl⟩) hS (fun q _ h => h) (fun q h => h) (fun u t H locs ht hvm hw hB _ _ hS => ?_)
  obtain ⟨rfl, rfl⟩ := hw
  obtain ⟨hP, hD⟩ := x_back hB ht
  refine lv_iload_n hx hb d_X_near_14 rfl (lv_at hl 3 rfl) ?_
  refine lv_if_lt (tgt := 24) hx hb d_X_near_15 (by decide) (fun hc16 => ?_) (fun hc16 => ?_)
  · have hf := x_br_t hf hc16
    obtain ⟨rfl, rfl⟩ := x_retx hf
    exact e_throw (text := "a bound is 0 .. 64") (is := 172) hx hb hl9 hown (by decide +kernel) (by decide) (by decide +kernel) hts t_409 t_12 at_77_IllegalArgumentException hG hS (hl.1.trans hml.symm) d_X_near_24 d_X_near_27 d_X_near_28 d_X_near_30 d_X_near_33 hEx (Nat.le_of_ble_eq_true rfl) (Nat.le_of_ble_eq_true rfl) (Nat.le_of_ble_eq_true rfl) (Nat.le_of_ble_eq_true rfl) hlocks (fun t hW hsz hk => x_pwk hP hD hK hG hS hz hsz hk hW) (Nat.le_of_ble_eq_true rfl) (Nat.le_of_ble_eq_true rfl)
  · have hf := x_br_f hf hc16
    refine lv_iload_n hx hb d_X_near_18 rfl (lv_at hl 3 rfl) ?_
    refine lv_bipush (v := (64 : Int32)) hx hb d_X_near_19 (by decide) ?_
    refine lv_icmp_le (tgt := 34) hx hb d_X_near_21 (by decide) (fun hc17 => ?_) (fun hc17 => ?_)
    · have hf := x_br_t hf hc17
      refine lv_aload_n hx hb d_X_near_34 rfl (lv_at hl 0 rfl) ?_
      obtain ⟨r18, z18, hq19, hf⟩ := x_cl_some hf
      refine va_calll (va_runV (As := []) (rest := []) ⟨hx, hb, hml, hown, hts⟩ (c_P_printBits l G r12 hr12 z14 r18 z18 hq19) (cwV 0 hts (x_gV t_285 t_286 t_287 t_4 t_288) rfl rfl rfl (by decide +kernel) ⟨Nat.le_of_ble_eq_true rfl, Nat.le_of_ble_eq_true rfl⟩) ⟨x_blind _ _ _, va_recv hK hP (ci := 2) (q0 := r12) rfl (x_lk_P G _ hr12), fun U hU hW => ⟨rfl, x_pw hP hD hK hG hS hz hU hW⟩⟩ rfl rfl hl.1 rfl (lv_room (Nat.le_of_ble_eq_true rfl)) d_X_near_35 ⟨Nat.le_of_ble_eq_true rfl, Nat.le_of_ble_eq_true rfl⟩) hS (fun q _ h => h) (fun q h => h) (fun ra u t H locs ht hvm hw hB _ _ hS => ?_)
      obtain ⟨rfl, rfl⟩ := hw
      obtain ⟨hP, hD⟩ := x_back hB ht
      refine lv_lstore (lv' := [(4, .long r18), (3, .ref (x_ad G r12)), (0, .ref (x_ad G 0)), (1, .int p1), (2, .int p2)]) hx hb d_X_near_38 hl (by decide) rfl (fun ls hl => ?_)
      refine lv_aload_n hx hb d_X_near_40 rfl (lv_at hl 2 rfl) ?_
      refine lv_iconst (v := (0 : Int32)) hx hb d_X_near_41 (by decide) ?_
      refine va_put (D := x_D G) (ci := 0) (v := .int (0 : Int32)) (ty := .int) (C := "ContentLibrary") (T := x_TX) (N := 9) hx hb hts x_inX x_tyX x_tyX_ok x_nmX hown hK hP hD hS 0 (x_lk_X G _) rfl 8 (by decide) (hts _ t_138) (fun _ h9 => h9) rfl (by decide +kernel) rfl rfl (Nat.le_of_ble_eq_true rfl) d_X_near_42 (fun H locs hP hD hS => ?_)
      rw [x_st_X8 G _] at hP hD
      refine lv_iconst (v := (0 : Int32)) hx hb d_X_near_45 (by decide) ?_
      refine lv_istore (lv' := [(6, .int (0 : Int32)), (4, .long r18), (3, .ref (x_ad G r12)), (0, .ref (x_ad G 0)), (1, .int p1), (2, .int p2)]) hx hb d_X_near_46 hl (by decide) rfl (fun ls hl => ?_)
      exact w_X_near_48_x l G C0 hl9 hEx E zo x_FU p2 r18 (0 : Int32) (x_put z18 0 8 (0 : Int32)) hf _ _ _ hP hD hS (lv_sub hl [3, 5, 1, 0] rfl)
    · have hf := x_br_f hf hc17
      obtain ⟨rfl, rfl⟩ := x_retx hf
      exact e_throw (text := "a bound is 0 .. 64") (is := 172) hx hb hl9 hown (by decide +kernel) (by decide) (by decide +kernel) hts t_409 t_12 at_77_IllegalArgumentException hG hS (hl.1.trans hml.symm) d_X_near_24 d_X_near_27 d_X_near_28 d_X_near_30 d_X_near_33 hEx (Nat.le_of_ble_eq_true rfl) (Nat.le_of_ble_eq_true rfl) (Nat.le_of_ble_eq_true rfl) (Nat.le_of_ble_eq_true rfl) hlocks (fun t hW hsz hk => x_pwk hP hD hK hG hS hz hsz hk hW) (Nat.le_of_ble_eq_true rfl) (Nat.le_of_ble_eq_true rfl)
