theorem t_328 : Cond.classLink "ContentLibraryLaw" 13 "java/lang/IllegalStateException" ∈ x_big := x_bt 328 (by decide +kernel) (by decide +kernel)
theorem t_329 : Cond.classLink "ContentLibraryLaw" 15 "java/lang/IllegalArgumentException" ∈ x_big := x_bt 329 (by decide +kernel) (by decide +kernel)
theorem t_330 : Cond.classLink "ContentLibraryLaw" 17 "java/lang/UnsupportedOperationException" ∈ x_big := x_bt 330 (by decide +kernel) (by decide +kernel)
theorem t_331 : Cond.methodLink "ContentLibraryLaw" 7 (⟨"ContentLibrary", "picture", "(II)I"⟩ : MethodName) ∈ x_big := x_bt 331 (by decide +kernel) (by decide +kernel)
theorem t_332 : Cond.instanceMethod (⟨"ContentLibrary", "picture", "(II)I"⟩ : MethodName) ∈ x_big := x_bt 332 (by decide +kernel) (by decide +kernel)
theorem t_333 : Cond.selects "ContentLibrary" (⟨"ContentLibrary", "picture", "(II)I"⟩ : MethodName) (⟨"ContentLibrary", "picture", "(II)I"⟩ : MethodName) ∈ x_big := x_bt 333 (by decide +kernel) (by decide +kernel)
theorem t_334 : Cond.code (⟨"ContentLibrary", "picture", "(II)I"⟩ : MethodName) prog_1_method_2_code 4 (some .int) ∈ x_big := x_bt 334 (by decide +kernel) (by decide +kernel)
theorem t_448 : Cond.classLink "ContentLibraryLaw" 23 "java/lang/IndexOutOfBoundsException" ∈ x_big := x_bt 448 (by decide +kernel) (by decide +kernel)
theorem t_449 : Cond.methodLink "ContentLibraryLaw" 19 (⟨"ContentLibrary", "samples", "(IIII)I"⟩ : MethodName) ∈ x_big := x_bt 449 (by decide +kernel) (by decide +kernel)
theorem t_450 : Cond.instanceMethod (⟨"ContentLibrary", "samples", "(IIII)I"⟩ : MethodName) ∈ x_big := x_bt 450 (by decide +kernel) (by decide +kernel)
theorem t_451 : Cond.selects "ContentLibrary" (⟨"ContentLibrary", "samples", "(IIII)I"⟩ : MethodName) (⟨"ContentLibrary", "samples", "(IIII)I"⟩ : MethodName) ∈ x_big := x_bt 451 (by decide +kernel) (by decide +kernel)
theorem t_452 : Cond.code (⟨"ContentLibrary", "samples", "(IIII)I"⟩ : MethodName) prog_1_method_3_code 6 (some .int) ∈ x_big := x_bt 452 (by decide +kernel) (by decide +kernel)
theorem t_482 : Cond.methodLink "ContentLibraryLaw" 25 (⟨"ContentLibrary", "keep", "(I)I"⟩ : MethodName) ∈ x_big := x_bt 482 (by decide +kernel) (by decide +kernel)
theorem t_483 : Cond.instanceMethod (⟨"ContentLibrary", "keep", "(I)I"⟩ : MethodName) ∈ x_big := x_bt 483 (by decide +kernel) (by decide +kernel)
theorem t_484 : Cond.selects "ContentLibrary" (⟨"ContentLibrary", "keep", "(I)I"⟩ : MethodName) (⟨"ContentLibrary", "keep", "(I)I"⟩ : MethodName) ∈ x_big := x_bt 484 (by decide +kernel) (by decide +kernel)
theorem t_485 : Cond.code (⟨"ContentLibrary", "keep", "(I)I"⟩ : MethodName) prog_1_method_4_code 4 (some .int) ∈ x_big := x_bt 485 (by decide +kernel) (by decide +kernel)
theorem t_554 : Cond.methodLink "ContentLibraryLaw" 29 (⟨"ContentLibrary", "digest", "(II)I"⟩ : MethodName) ∈ x_big := x_bt 554 (by decide +kernel) (by decide +kernel)
theorem t_555 : Cond.instanceMethod (⟨"ContentLibrary", "digest", "(II)I"⟩ : MethodName) ∈ x_big := x_bt 555 (by decide +kernel) (by decide +kernel)
theorem t_556 : Cond.selects "ContentLibrary" (⟨"ContentLibrary", "digest", "(II)I"⟩ : MethodName) (⟨"ContentLibrary", "digest", "(II)I"⟩ : MethodName) ∈ x_big := x_bt 556 (by decide +kernel) (by decide +kernel)
theorem t_557 : Cond.code (⟨"ContentLibrary", "digest", "(II)I"⟩ : MethodName) prog_1_method_5_code 4 (some .int) ∈ x_big := x_bt 557 (by decide +kernel) (by decide +kernel)
theorem t_567 : Cond.methodLink "ContentLibraryLaw" 32 (⟨"ContentLibrary", "print", "(I)J"⟩ : MethodName) ∈ x_big := x_bt 567 (by decide +kernel) (by decide +kernel)
theorem t_568 : Cond.instanceMethod (⟨"ContentLibrary", "print", "(I)J"⟩ : MethodName) ∈ x_big := x_bt 568 (by decide +kernel) (by decide +kernel)
theorem t_569 : Cond.selects "ContentLibrary" (⟨"ContentLibrary", "print", "(I)J"⟩ : MethodName) (⟨"ContentLibrary", "print", "(I)J"⟩ : MethodName) ∈ x_big := x_bt 569 (by decide +kernel) (by decide +kernel)
theorem t_570 : Cond.code (⟨"ContentLibrary", "print", "(I)J"⟩ : MethodName) prog_1_method_6_code 2 (some .long) ∈ x_big := x_bt 570 (by decide +kernel) (by decide +kernel)
theorem t_574 : Cond.methodLink "ContentLibraryLaw" 36 (⟨"ContentLibrary", "sample", "(III)I"⟩ : MethodName) ∈ x_big := x_bt 574 (by decide +kernel) (by decide +kernel)
theorem t_575 : Cond.instanceMethod (⟨"ContentLibrary", "sample", "(III)I"⟩ : MethodName) ∈ x_big := x_bt 575 (by decide +kernel) (by decide +kernel)
theorem t_576 : Cond.selects "ContentLibrary" (⟨"ContentLibrary", "sample", "(III)I"⟩ : MethodName) (⟨"ContentLibrary", "sample", "(III)I"⟩ : MethodName) ∈ x_big := x_bt 576 (by decide +kernel) (by decide +kernel)
theorem t_577 : Cond.code (⟨"ContentLibrary", "sample", "(III)I"⟩ : MethodName) prog_1_method_7_code 5 (some .int) ∈ x_big := x_bt 577 (by decide +kernel) (by decide +kernel)
theorem t_585 : Cond.methodLink "ContentLibraryLaw" 40 (⟨"ContentLibrary", "near", "(II)I"⟩ : MethodName) ∈ x_big := x_bt 585 (by decide +kernel) (by decide +kernel)
theorem t_586 : Cond.instanceMethod (⟨"ContentLibrary", "near", "(II)I"⟩ : MethodName) ∈ x_big := x_bt 586 (by decide +kernel) (by decide +kernel)
theorem t_587 : Cond.selects "ContentLibrary" (⟨"ContentLibrary", "near", "(II)I"⟩ : MethodName) (⟨"ContentLibrary", "near", "(II)I"⟩ : MethodName) ∈ x_big := x_bt 587 (by decide +kernel) (by decide +kernel)
theorem t_588 : Cond.code (⟨"ContentLibrary", "near", "(II)I"⟩ : MethodName) prog_1_method_8_code 8 (some .int) ∈ x_big := x_bt 588 (by decide +kernel) (by decide +kernel)
theorem t_603 : Cond.methodLink "ContentLibraryLaw" 43 (⟨"ContentLibrary", "found", "(II)I"⟩ : MethodName) ∈ x_big := x_bt 603 (by decide +kernel) (by decide +kernel)
theorem t_604 : Cond.instanceMethod (⟨"ContentLibrary", "found", "(II)I"⟩ : MethodName) ∈ x_big := x_bt 604 (by decide +kernel) (by decide +kernel)
theorem t_605 : Cond.selects "ContentLibrary" (⟨"ContentLibrary", "found", "(II)I"⟩ : MethodName) (⟨"ContentLibrary", "found", "(II)I"⟩ : MethodName) ∈ x_big := x_bt 605 (by decide +kernel) (by decide +kernel)
theorem t_606 : Cond.code (⟨"ContentLibrary", "found", "(II)I"⟩ : MethodName) prog_1_method_9_code 3 (some .int) ∈ x_big := x_bt 606 (by decide +kernel) (by decide +kernel)
theorem t_612 : Cond.methodLink "ContentLibraryLaw" 46 (⟨"ContentLibrary", "drop", "(I)I"⟩ : MethodName) ∈ x_big := x_bt 612 (by decide +kernel) (by decide +kernel)
theorem t_613 : Cond.instanceMethod (⟨"ContentLibrary", "drop", "(I)I"⟩ : MethodName) ∈ x_big := x_bt 613 (by decide +kernel) (by decide +kernel)
theorem t_614 : Cond.selects "ContentLibrary" (⟨"ContentLibrary", "drop", "(I)I"⟩ : MethodName) (⟨"ContentLibrary", "drop", "(I)I"⟩ : MethodName) ∈ x_big := x_bt 614 (by decide +kernel) (by decide +kernel)
theorem t_615 : Cond.code (⟨"ContentLibrary", "drop", "(I)I"⟩ : MethodName) prog_1_method_10_code 5 (some .int) ∈ x_big := x_bt 615 (by decide +kernel) (by decide +kernel)
theorem t_619 : Cond.methodLink "ContentLibraryLaw" 49 (⟨"ContentLibrary", "sweep", "()I"⟩ : MethodName) ∈ x_big := x_bt 619 (by decide +kernel) (by decide +kernel)
theorem t_620 : Cond.instanceMethod (⟨"ContentLibrary", "sweep", "()I"⟩ : MethodName) ∈ x_big := x_bt 620 (by decide +kernel) (by decide +kernel)
theorem t_621 : Cond.selects "ContentLibrary" (⟨"ContentLibrary", "sweep", "()I"⟩ : MethodName) (⟨"ContentLibrary", "sweep", "()I"⟩ : MethodName) ∈ x_big := x_bt 621 (by decide +kernel) (by decide +kernel)
theorem t_622 : Cond.code (⟨"ContentLibrary", "sweep", "()I"⟩ : MethodName) prog_1_method_11_code 2 (some .int) ∈ x_big := x_bt 622 (by decide +kernel) (by decide +kernel)
theorem t_626 : Cond.methodLink "ContentLibraryLaw" 53 (⟨"ContentLibrary", "fuse", "(I)I"⟩ : MethodName) ∈ x_big := x_bt 626 (by decide +kernel) (by decide +kernel)
theorem t_627 : Cond.instanceMethod (⟨"ContentLibrary", "fuse", "(I)I"⟩ : MethodName) ∈ x_big := x_bt 627 (by decide +kernel) (by decide +kernel)
theorem t_628 : Cond.selects "ContentLibrary" (⟨"ContentLibrary", "fuse", "(I)I"⟩ : MethodName) (⟨"ContentLibrary", "fuse", "(I)I"⟩ : MethodName) ∈ x_big := x_bt 628 (by decide +kernel) (by decide +kernel)
theorem t_629 : Cond.code (⟨"ContentLibrary", "fuse", "(I)I"⟩ : MethodName) prog_1_method_12_code 3 (some .int) ∈ x_big := x_bt 629 (by decide +kernel) (by decide +kernel)
theorem t_634 : Cond.methodLink "ContentLibraryLaw" 56 (⟨"ContentLibrary", "poke", "(III)I"⟩ : MethodName) ∈ x_big := x_bt 634 (by decide +kernel) (by decide +kernel)
theorem t_635 : Cond.instanceMethod (⟨"ContentLibrary", "poke", "(III)I"⟩ : MethodName) ∈ x_big := x_bt 635 (by decide +kernel) (by decide +kernel)
theorem t_636 : Cond.selects "ContentLibrary" (⟨"ContentLibrary", "poke", "(III)I"⟩ : MethodName) (⟨"ContentLibrary", "poke", "(III)I"⟩ : MethodName) ∈ x_big := x_bt 636 (by decide +kernel) (by decide +kernel)
theorem t_637 : Cond.code (⟨"ContentLibrary", "poke", "(III)I"⟩ : MethodName) prog_1_method_14_code 4 (some .int) ∈ x_big := x_bt 637 (by decide +kernel) (by decide +kernel)
theorem t_651 : Cond.methodLink "ContentLibraryLaw" 59 (⟨"ContentLibrary", "byteAt", "(II)I"⟩ : MethodName) ∈ x_big := x_bt 651 (by decide +kernel) (by decide +kernel)
theorem t_652 : Cond.instanceMethod (⟨"ContentLibrary", "byteAt", "(II)I"⟩ : MethodName) ∈ x_big := x_bt 652 (by decide +kernel) (by decide +kernel)
theorem t_653 : Cond.selects "ContentLibrary" (⟨"ContentLibrary", "byteAt", "(II)I"⟩ : MethodName) (⟨"ContentLibrary", "byteAt", "(II)I"⟩ : MethodName) ∈ x_big := x_bt 653 (by decide +kernel) (by decide +kernel)
theorem t_654 : Cond.code (⟨"ContentLibrary", "byteAt", "(II)I"⟩ : MethodName) prog_1_method_16_code 3 (some .int) ∈ x_big := x_bt 654 (by decide +kernel) (by decide +kernel)
theorem d_L_picture_0 : decode method_3_code 0 = .ok (.aload_n 3, 1) := by decide +kernel
theorem d_L_picture_1 : decode method_3_code 1 = .ok (.iconst 0, 1) := by decide +kernel
theorem d_L_picture_2 : decode method_3_code 2 = .ok (.aload_n 0, 1) := by decide +kernel
theorem d_L_picture_3 : decode method_3_code 3 = .ok (.iload_n 1, 1) := by decide +kernel
theorem d_L_picture_4 : decode method_3_code 4 = .ok (.iload_n 2, 1) := by decide +kernel
theorem d_L_picture_5 : decode method_3_code 5 = .ok (.invokevirtual 7, 3) := by decide +kernel
theorem d_L_picture_13 : decode method_3_code 13 = .ok (.astore 4, 2) := by decide +kernel
theorem d_L_picture_15 : decode method_3_code 15 = .ok (.iconst 1, 1) := by decide +kernel
theorem d_L_picture_16 : decode method_3_code 16 = .ok (.ireturn, 1) := by decide +kernel
theorem d_L_picture_17 : decode method_3_code 17 = .ok (.astore 4, 2) := by decide +kernel
theorem d_L_picture_19 : decode method_3_code 19 = .ok (.iconst 2, 1) := by decide +kernel
theorem d_L_picture_20 : decode method_3_code 20 = .ok (.ireturn, 1) := by decide +kernel
theorem d_L_picture_21 : decode method_3_code 21 = .ok (.astore 4, 2) := by decide +kernel
theorem d_L_picture_23 : decode method_3_code 23 = .ok (.iconst 3, 1) := by decide +kernel
theorem d_L_picture_24 : decode method_3_code 24 = .ok (.ireturn, 1) := by decide +kernel
theorem d_L_picture_8 : decode method_3_code 8 = .ok (.i2l, 1) := by decide +kernel
theorem d_L_picture_9 : decode method_3_code 9 = .ok (.lastore, 1) := by decide +kernel
theorem d_L_picture_10 : decode method_3_code 10 = .ok (.goto 15, 3) := by decide +kernel
theorem d_L_picture_25 : decode method_3_code 25 = .ok (.iconst 0, 1) := by decide +kernel
theorem d_L_picture_26 : decode method_3_code 26 = .ok (.ireturn, 1) := by decide +kernel
theorem d_L_samples_0 : decode method_4_code 0 = .ok (.aload 5, 2) := by decide +kernel
theorem d_L_samples_2 : decode method_4_code 2 = .ok (.iconst 0, 1) := by decide +kernel
theorem d_L_samples_3 : decode method_4_code 3 = .ok (.aload_n 0, 1) := by decide +kernel
theorem d_L_samples_4 : decode method_4_code 4 = .ok (.iload_n 1, 1) := by decide +kernel
theorem d_L_samples_5 : decode method_4_code 5 = .ok (.iload_n 2, 1) := by decide +kernel
theorem d_L_samples_6 : decode method_4_code 6 = .ok (.iload_n 3, 1) := by decide +kernel
theorem d_L_samples_7 : decode method_4_code 7 = .ok (.iload 4, 2) := by decide +kernel
theorem d_L_samples_9 : decode method_4_code 9 = .ok (.invokevirtual 19, 3) := by decide +kernel
theorem d_L_samples_17 : decode method_4_code 17 = .ok (.astore 6, 2) := by decide +kernel
theorem d_L_samples_19 : decode method_4_code 19 = .ok (.iconst 1, 1) := by decide +kernel
theorem d_L_samples_20 : decode method_4_code 20 = .ok (.ireturn, 1) := by decide +kernel
theorem d_L_samples_21 : decode method_4_code 21 = .ok (.astore 6, 2) := by decide +kernel
theorem d_L_samples_23 : decode method_4_code 23 = .ok (.iconst 2, 1) := by decide +kernel
theorem d_L_samples_24 : decode method_4_code 24 = .ok (.ireturn, 1) := by decide +kernel
theorem d_L_samples_25 : decode method_4_code 25 = .ok (.astore 6, 2) := by decide +kernel
theorem d_L_samples_27 : decode method_4_code 27 = .ok (.iconst 3, 1) := by decide +kernel
theorem d_L_samples_28 : decode method_4_code 28 = .ok (.ireturn, 1) := by decide +kernel
theorem d_L_samples_12 : decode method_4_code 12 = .ok (.i2l, 1) := by decide +kernel
theorem d_L_samples_13 : decode method_4_code 13 = .ok (.lastore, 1) := by decide +kernel
theorem d_L_samples_14 : decode method_4_code 14 = .ok (.goto 15, 3) := by decide +kernel
theorem d_L_samples_29 : decode method_4_code 29 = .ok (.iconst 0, 1) := by decide +kernel
theorem d_L_samples_30 : decode method_4_code 30 = .ok (.ireturn, 1) := by decide +kernel
theorem d_L_keep_0 : decode method_5_code 0 = .ok (.aload_n 2, 1) := by decide +kernel
theorem d_L_keep_1 : decode method_5_code 1 = .ok (.iconst 0, 1) := by decide +kernel
theorem d_L_keep_2 : decode method_5_code 2 = .ok (.aload_n 0, 1) := by decide +kernel
theorem d_L_keep_3 : decode method_5_code 3 = .ok (.iload_n 1, 1) := by decide +kernel
theorem d_L_keep_4 : decode method_5_code 4 = .ok (.invokevirtual 25, 3) := by decide +kernel
theorem d_L_keep_12 : decode method_5_code 12 = .ok (.astore_n 3, 1) := by decide +kernel
theorem d_L_keep_13 : decode method_5_code 13 = .ok (.iconst 1, 1) := by decide +kernel
theorem d_L_keep_14 : decode method_5_code 14 = .ok (.ireturn, 1) := by decide +kernel
theorem d_L_keep_15 : decode method_5_code 15 = .ok (.astore_n 3, 1) := by decide +kernel
theorem d_L_keep_16 : decode method_5_code 16 = .ok (.iconst 2, 1) := by decide +kernel
theorem d_L_keep_17 : decode method_5_code 17 = .ok (.ireturn, 1) := by decide +kernel
theorem d_L_keep_18 : decode method_5_code 18 = .ok (.astore_n 3, 1) := by decide +kernel
theorem d_L_keep_19 : decode method_5_code 19 = .ok (.iconst 3, 1) := by decide +kernel
theorem d_L_keep_20 : decode method_5_code 20 = .ok (.ireturn, 1) := by decide +kernel
theorem d_L_keep_21 : decode method_5_code 21 = .ok (.astore_n 3, 1) := by decide +kernel
theorem d_L_keep_22 : decode method_5_code 22 = .ok (.iconst 4, 1) := by decide +kernel
theorem d_L_keep_23 : decode method_5_code 23 = .ok (.ireturn, 1) := by decide +kernel
theorem d_L_keep_7 : decode method_5_code 7 = .ok (.i2l, 1) := by decide +kernel
theorem d_L_keep_8 : decode method_5_code 8 = .ok (.lastore, 1) := by decide +kernel
theorem d_L_keep_9 : decode method_5_code 9 = .ok (.goto 15, 3) := by decide +kernel
theorem d_L_keep_24 : decode method_5_code 24 = .ok (.iconst 0, 1) := by decide +kernel
theorem d_L_keep_25 : decode method_5_code 25 = .ok (.ireturn, 1) := by decide +kernel
theorem d_L_digest_0 : decode method_6_code 0 = .ok (.aload_n 3, 1) := by decide +kernel
theorem d_L_digest_1 : decode method_6_code 1 = .ok (.iconst 0, 1) := by decide +kernel
theorem d_L_digest_2 : decode method_6_code 2 = .ok (.aload_n 0, 1) := by decide +kernel
theorem d_L_digest_3 : decode method_6_code 3 = .ok (.iload_n 1, 1) := by decide +kernel
theorem d_L_digest_4 : decode method_6_code 4 = .ok (.iload_n 2, 1) := by decide +kernel
theorem d_L_digest_5 : decode method_6_code 5 = .ok (.invokevirtual 29, 3) := by decide +kernel
theorem d_L_digest_13 : decode method_6_code 13 = .ok (.astore 4, 2) := by decide +kernel
theorem d_L_digest_15 : decode method_6_code 15 = .ok (.iconst 1, 1) := by decide +kernel
theorem d_L_digest_16 : decode method_6_code 16 = .ok (.ireturn, 1) := by decide +kernel
theorem d_L_digest_17 : decode method_6_code 17 = .ok (.astore 4, 2) := by decide +kernel
theorem d_L_digest_19 : decode method_6_code 19 = .ok (.iconst 2, 1) := by decide +kernel
theorem d_L_digest_20 : decode method_6_code 20 = .ok (.ireturn, 1) := by decide +kernel
theorem d_L_digest_8 : decode method_6_code 8 = .ok (.i2l, 1) := by decide +kernel
theorem d_L_digest_9 : decode method_6_code 9 = .ok (.lastore, 1) := by decide +kernel
theorem d_L_digest_10 : decode method_6_code 10 = .ok (.goto 11, 3) := by decide +kernel
theorem d_L_digest_21 : decode method_6_code 21 = .ok (.iconst 0, 1) := by decide +kernel
theorem d_L_digest_22 : decode method_6_code 22 = .ok (.ireturn, 1) := by decide +kernel
theorem d_L_print_0 : decode method_7_code 0 = .ok (.aload_n 2, 1) := by decide +kernel
theorem d_L_print_1 : decode method_7_code 1 = .ok (.iconst 0, 1) := by decide +kernel
theorem d_L_print_2 : decode method_7_code 2 = .ok (.aload_n 0, 1) := by decide +kernel
theorem d_L_print_3 : decode method_7_code 3 = .ok (.iload_n 1, 1) := by decide +kernel
theorem d_L_print_4 : decode method_7_code 4 = .ok (.invokevirtual 32, 3) := by decide +kernel
theorem d_L_print_11 : decode method_7_code 11 = .ok (.astore_n 3, 1) := by decide +kernel
theorem d_L_print_12 : decode method_7_code 12 = .ok (.iconst 1, 1) := by decide +kernel
theorem d_L_print_13 : decode method_7_code 13 = .ok (.ireturn, 1) := by decide +kernel
theorem d_L_print_14 : decode method_7_code 14 = .ok (.astore_n 3, 1) := by decide +kernel
theorem d_L_print_15 : decode method_7_code 15 = .ok (.iconst 2, 1) := by decide +kernel
theorem d_L_print_16 : decode method_7_code 16 = .ok (.ireturn, 1) := by decide +kernel
theorem d_L_print_7 : decode method_7_code 7 = .ok (.lastore, 1) := by decide +kernel
theorem d_L_print_8 : decode method_7_code 8 = .ok (.goto 9, 3) := by decide +kernel
theorem d_L_print_17 : decode method_7_code 17 = .ok (.iconst 0, 1) := by decide +kernel
theorem d_L_print_18 : decode method_7_code 18 = .ok (.ireturn, 1) := by decide +kernel
theorem d_L_sample_0 : decode method_8_code 0 = .ok (.aload 4, 2) := by decide +kernel
theorem d_L_sample_2 : decode method_8_code 2 = .ok (.iconst 0, 1) := by decide +kernel
theorem d_L_sample_3 : decode method_8_code 3 = .ok (.aload_n 0, 1) := by decide +kernel
theorem d_L_sample_4 : decode method_8_code 4 = .ok (.iload_n 1, 1) := by decide +kernel
theorem d_L_sample_5 : decode method_8_code 5 = .ok (.iload_n 2, 1) := by decide +kernel
theorem d_L_sample_6 : decode method_8_code 6 = .ok (.iload_n 3, 1) := by decide +kernel
theorem d_L_sample_7 : decode method_8_code 7 = .ok (.invokevirtual 36, 3) := by decide +kernel
theorem d_L_sample_15 : decode method_8_code 15 = .ok (.astore 5, 2) := by decide +kernel
theorem d_L_sample_17 : decode method_8_code 17 = .ok (.iconst 1, 1) := by decide +kernel
theorem d_L_sample_18 : decode method_8_code 18 = .ok (.ireturn, 1) := by decide +kernel
theorem d_L_sample_19 : decode method_8_code 19 = .ok (.astore 5, 2) := by decide +kernel
theorem d_L_sample_21 : decode method_8_code 21 = .ok (.iconst 2, 1) := by decide +kernel
theorem d_L_sample_22 : decode method_8_code 22 = .ok (.ireturn, 1) := by decide +kernel
theorem d_L_sample_10 : decode method_8_code 10 = .ok (.i2l, 1) := by decide +kernel
theorem d_L_sample_11 : decode method_8_code 11 = .ok (.lastore, 1) := by decide +kernel
theorem d_L_sample_12 : decode method_8_code 12 = .ok (.goto 11, 3) := by decide +kernel
theorem d_L_sample_23 : decode method_8_code 23 = .ok (.iconst 0, 1) := by decide +kernel
theorem d_L_sample_24 : decode method_8_code 24 = .ok (.ireturn, 1) := by decide +kernel
theorem d_L_near_0 : decode method_9_code 0 = .ok (.aload_n 3, 1) := by decide +kernel
theorem d_L_near_1 : decode method_9_code 1 = .ok (.iconst 0, 1) := by decide +kernel
theorem d_L_near_2 : decode method_9_code 2 = .ok (.aload_n 0, 1) := by decide +kernel
theorem d_L_near_3 : decode method_9_code 3 = .ok (.iload_n 1, 1) := by decide +kernel
theorem d_L_near_4 : decode method_9_code 4 = .ok (.iload_n 2, 1) := by decide +kernel
theorem d_L_near_5 : decode method_9_code 5 = .ok (.invokevirtual 40, 3) := by decide +kernel
theorem d_L_near_13 : decode method_9_code 13 = .ok (.astore 4, 2) := by decide +kernel
theorem d_L_near_15 : decode method_9_code 15 = .ok (.iconst 1, 1) := by decide +kernel
theorem d_L_near_16 : decode method_9_code 16 = .ok (.ireturn, 1) := by decide +kernel
theorem d_L_near_17 : decode method_9_code 17 = .ok (.astore 4, 2) := by decide +kernel
theorem d_L_near_19 : decode method_9_code 19 = .ok (.iconst 2, 1) := by decide +kernel
theorem d_L_near_20 : decode method_9_code 20 = .ok (.ireturn, 1) := by decide +kernel
theorem d_L_near_21 : decode method_9_code 21 = .ok (.astore 4, 2) := by decide +kernel
theorem d_L_near_23 : decode method_9_code 23 = .ok (.iconst 3, 1) := by decide +kernel
theorem d_L_near_24 : decode method_9_code 24 = .ok (.ireturn, 1) := by decide +kernel
theorem d_L_near_8 : decode method_9_code 8 = .ok (.i2l, 1) := by decide +kernel
theorem d_L_near_9 : decode method_9_code 9 = .ok (.lastore, 1) := by decide +kernel
theorem d_L_near_10 : decode method_9_code 10 = .ok (.goto 15, 3) := by decide +kernel
theorem d_L_near_25 : decode method_9_code 25 = .ok (.iconst 0, 1) := by decide +kernel
theorem d_L_near_26 : decode method_9_code 26 = .ok (.ireturn, 1) := by decide +kernel
theorem d_L_found_0 : decode method_10_code 0 = .ok (.aload_n 3, 1) := by decide +kernel
theorem d_L_found_1 : decode method_10_code 1 = .ok (.iconst 0, 1) := by decide +kernel
theorem d_L_found_2 : decode method_10_code 2 = .ok (.aload_n 0, 1) := by decide +kernel
theorem d_L_found_3 : decode method_10_code 3 = .ok (.iload_n 1, 1) := by decide +kernel
theorem d_L_found_4 : decode method_10_code 4 = .ok (.iload_n 2, 1) := by decide +kernel
theorem d_L_found_5 : decode method_10_code 5 = .ok (.invokevirtual 43, 3) := by decide +kernel
theorem d_L_found_13 : decode method_10_code 13 = .ok (.astore 4, 2) := by decide +kernel
theorem d_L_found_15 : decode method_10_code 15 = .ok (.iconst 1, 1) := by decide +kernel
theorem d_L_found_16 : decode method_10_code 16 = .ok (.ireturn, 1) := by decide +kernel
theorem d_L_found_17 : decode method_10_code 17 = .ok (.astore 4, 2) := by decide +kernel
theorem d_L_found_19 : decode method_10_code 19 = .ok (.iconst 2, 1) := by decide +kernel
theorem d_L_found_20 : decode method_10_code 20 = .ok (.ireturn, 1) := by decide +kernel
theorem d_L_found_21 : decode method_10_code 21 = .ok (.astore 4, 2) := by decide +kernel
theorem d_L_found_23 : decode method_10_code 23 = .ok (.iconst 3, 1) := by decide +kernel
theorem d_L_found_24 : decode method_10_code 24 = .ok (.ireturn, 1) := by decide +kernel
theorem d_L_found_8 : decode method_10_code 8 = .ok (.i2l, 1) := by decide +kernel
theorem d_L_found_9 : decode method_10_code 9 = .ok (.lastore, 1) := by decide +kernel
theorem d_L_found_10 : decode method_10_code 10 = .ok (.goto 15, 3) := by decide +kernel
theorem d_L_found_25 : decode method_10_code 25 = .ok (.iconst 0, 1) := by decide +kernel
theorem d_L_found_26 : decode method_10_code 26 = .ok (.ireturn, 1) := by decide +kernel
theorem d_L_drop_0 : decode method_11_code 0 = .ok (.aload_n 2, 1) := by decide +kernel
theorem d_L_drop_1 : decode method_11_code 1 = .ok (.iconst 0, 1) := by decide +kernel
theorem d_L_drop_2 : decode method_11_code 2 = .ok (.aload_n 0, 1) := by decide +kernel
theorem d_L_drop_3 : decode method_11_code 3 = .ok (.iload_n 1, 1) := by decide +kernel
theorem d_L_drop_4 : decode method_11_code 4 = .ok (.invokevirtual 46, 3) := by decide +kernel
theorem d_L_drop_12 : decode method_11_code 12 = .ok (.astore_n 3, 1) := by decide +kernel
theorem d_L_drop_13 : decode method_11_code 13 = .ok (.iconst 1, 1) := by decide +kernel
theorem d_L_drop_14 : decode method_11_code 14 = .ok (.ireturn, 1) := by decide +kernel
theorem d_L_drop_15 : decode method_11_code 15 = .ok (.astore_n 3, 1) := by decide +kernel
theorem d_L_drop_16 : decode method_11_code 16 = .ok (.iconst 2, 1) := by decide +kernel
theorem d_L_drop_17 : decode method_11_code 17 = .ok (.ireturn, 1) := by decide +kernel
theorem d_L_drop_7 : decode method_11_code 7 = .ok (.i2l, 1) := by decide +kernel
theorem d_L_drop_8 : decode method_11_code 8 = .ok (.lastore, 1) := by decide +kernel
theorem d_L_drop_9 : decode method_11_code 9 = .ok (.goto 9, 3) := by decide +kernel
theorem d_L_drop_18 : decode method_11_code 18 = .ok (.iconst 0, 1) := by decide +kernel
theorem d_L_drop_19 : decode method_11_code 19 = .ok (.ireturn, 1) := by decide +kernel
theorem d_L_sweep_0 : decode method_12_code 0 = .ok (.aload_n 1, 1) := by decide +kernel
theorem d_L_sweep_1 : decode method_12_code 1 = .ok (.iconst 0, 1) := by decide +kernel
theorem d_L_sweep_2 : decode method_12_code 2 = .ok (.aload_n 0, 1) := by decide +kernel
theorem d_L_sweep_3 : decode method_12_code 3 = .ok (.invokevirtual 49, 3) := by decide +kernel
theorem d_L_sweep_11 : decode method_12_code 11 = .ok (.astore_n 2, 1) := by decide +kernel
theorem d_L_sweep_12 : decode method_12_code 12 = .ok (.iconst 1, 1) := by decide +kernel
theorem d_L_sweep_13 : decode method_12_code 13 = .ok (.ireturn, 1) := by decide +kernel
theorem d_L_sweep_6 : decode method_12_code 6 = .ok (.i2l, 1) := by decide +kernel
theorem d_L_sweep_7 : decode method_12_code 7 = .ok (.lastore, 1) := by decide +kernel
theorem d_L_sweep_8 : decode method_12_code 8 = .ok (.goto 6, 3) := by decide +kernel
theorem d_L_sweep_14 : decode method_12_code 14 = .ok (.iconst 0, 1) := by decide +kernel
theorem d_L_sweep_15 : decode method_12_code 15 = .ok (.ireturn, 1) := by decide +kernel
theorem d_L_fuse_0 : decode method_13_code 0 = .ok (.aload_n 2, 1) := by decide +kernel
theorem d_L_fuse_1 : decode method_13_code 1 = .ok (.iconst 0, 1) := by decide +kernel
theorem d_L_fuse_2 : decode method_13_code 2 = .ok (.aload_n 0, 1) := by decide +kernel
theorem d_L_fuse_3 : decode method_13_code 3 = .ok (.iload_n 1, 1) := by decide +kernel
theorem d_L_fuse_4 : decode method_13_code 4 = .ok (.invokevirtual 53, 3) := by decide +kernel
theorem d_L_fuse_12 : decode method_13_code 12 = .ok (.astore_n 3, 1) := by decide +kernel
theorem d_L_fuse_13 : decode method_13_code 13 = .ok (.iconst 1, 1) := by decide +kernel
theorem d_L_fuse_14 : decode method_13_code 14 = .ok (.ireturn, 1) := by decide +kernel
theorem d_L_fuse_15 : decode method_13_code 15 = .ok (.astore_n 3, 1) := by decide +kernel
theorem d_L_fuse_16 : decode method_13_code 16 = .ok (.iconst 2, 1) := by decide +kernel
theorem d_L_fuse_17 : decode method_13_code 17 = .ok (.ireturn, 1) := by decide +kernel
theorem d_L_fuse_7 : decode method_13_code 7 = .ok (.i2l, 1) := by decide +kernel
theorem d_L_fuse_8 : decode method_13_code 8 = .ok (.lastore, 1) := by decide +kernel
theorem d_L_fuse_9 : decode method_13_code 9 = .ok (.goto 9, 3) := by decide +kernel
theorem d_L_fuse_18 : decode method_13_code 18 = .ok (.iconst 0, 1) := by decide +kernel
theorem d_L_fuse_19 : decode method_13_code 19 = .ok (.ireturn, 1) := by decide +kernel
theorem d_L_poke_0 : decode method_14_code 0 = .ok (.aload 4, 2) := by decide +kernel
theorem d_L_poke_2 : decode method_14_code 2 = .ok (.iconst 0, 1) := by decide +kernel
theorem d_L_poke_3 : decode method_14_code 3 = .ok (.aload_n 0, 1) := by decide +kernel
theorem d_L_poke_4 : decode method_14_code 4 = .ok (.iload_n 1, 1) := by decide +kernel
theorem d_L_poke_5 : decode method_14_code 5 = .ok (.iload_n 2, 1) := by decide +kernel
theorem d_L_poke_6 : decode method_14_code 6 = .ok (.iload_n 3, 1) := by decide +kernel
theorem d_L_poke_7 : decode method_14_code 7 = .ok (.invokevirtual 56, 3) := by decide +kernel
theorem d_L_poke_15 : decode method_14_code 15 = .ok (.astore 5, 2) := by decide +kernel
theorem d_L_poke_17 : decode method_14_code 17 = .ok (.iconst 1, 1) := by decide +kernel
theorem d_L_poke_18 : decode method_14_code 18 = .ok (.ireturn, 1) := by decide +kernel
theorem d_L_poke_19 : decode method_14_code 19 = .ok (.astore 5, 2) := by decide +kernel
theorem d_L_poke_21 : decode method_14_code 21 = .ok (.iconst 2, 1) := by decide +kernel
theorem d_L_poke_22 : decode method_14_code 22 = .ok (.ireturn, 1) := by decide +kernel
theorem d_L_poke_10 : decode method_14_code 10 = .ok (.i2l, 1) := by decide +kernel
theorem d_L_poke_11 : decode method_14_code 11 = .ok (.lastore, 1) := by decide +kernel
theorem d_L_poke_12 : decode method_14_code 12 = .ok (.goto 11, 3) := by decide +kernel
theorem d_L_poke_23 : decode method_14_code 23 = .ok (.iconst 0, 1) := by decide +kernel
theorem d_L_poke_24 : decode method_14_code 24 = .ok (.ireturn, 1) := by decide +kernel
theorem d_L_byteAt_0 : decode method_15_code 0 = .ok (.aload_n 3, 1) := by decide +kernel
theorem d_L_byteAt_1 : decode method_15_code 1 = .ok (.iconst 0, 1) := by decide +kernel
theorem d_L_byteAt_2 : decode method_15_code 2 = .ok (.aload_n 0, 1) := by decide +kernel
theorem d_L_byteAt_3 : decode method_15_code 3 = .ok (.iload_n 1, 1) := by decide +kernel
theorem d_L_byteAt_4 : decode method_15_code 4 = .ok (.iload_n 2, 1) := by decide +kernel
theorem d_L_byteAt_5 : decode method_15_code 5 = .ok (.invokevirtual 59, 3) := by decide +kernel
theorem d_L_byteAt_13 : decode method_15_code 13 = .ok (.astore 4, 2) := by decide +kernel
theorem d_L_byteAt_15 : decode method_15_code 15 = .ok (.iconst 1, 1) := by decide +kernel
theorem d_L_byteAt_16 : decode method_15_code 16 = .ok (.ireturn, 1) := by decide +kernel
theorem d_L_byteAt_8 : decode method_15_code 8 = .ok (.i2l, 1) := by decide +kernel
theorem d_L_byteAt_9 : decode method_15_code 9 = .ok (.lastore, 1) := by decide +kernel
theorem d_L_byteAt_10 : decode method_15_code 10 = .ok (.goto 7, 3) := by decide +kernel
theorem d_L_byteAt_17 : decode method_15_code 17 = .ok (.iconst 0, 1) := by decide +kernel
theorem d_L_byteAt_18 : decode method_15_code 18 = .ok (.ireturn, 1) := by decide +kernel
def f_L_picture (xn : Nat) (p2 : Int32) (p3 : Int32) (z0 : x_St) : Option (Int32 × x_St) :=
  (x_try (f_X_picture xn p2 p3 z0) (fun r1 z1 =>
  (x_ck (0 : Int32) 1
  (some ((0 : Int32), (x_putL z1 110 ((0 : Int32)).toNatClampNeg ((r1).toInt64)))))) (fun E z1 =>
  (if E = "java/lang/IllegalStateException" then
  (some ((1 : Int32), z1))
  else
  (if E = "java/lang/IllegalArgumentException" then
  (some ((2 : Int32), z1))
  else
  (if E = "java/lang/UnsupportedOperationException" then
  (some ((3 : Int32), z1))
  else
  none)))))
def f_L_samples (xn : Nat) (p2 : Int32) (p3 : Int32) (p4 : Int32) (p5 : Int32) (z0 : x_St) : Option (Int32 × x_St) :=
  (x_try (f_X_samples xn p2 p3 p4 p5 z0) (fun r1 z1 =>
  (x_ck (0 : Int32) 1
  (some ((0 : Int32), (x_putL z1 110 ((0 : Int32)).toNatClampNeg ((r1).toInt64)))))) (fun E z1 =>
  (if E = "java/lang/IllegalStateException" then
  (some ((1 : Int32), z1))
  else
  (if E = "java/lang/IndexOutOfBoundsException" then
  (some ((2 : Int32), z1))
  else
  (if E = "java/lang/IllegalArgumentException" then
  (some ((3 : Int32), z1))
  else
  none)))))
def f_L_keep (xn : Nat) (p2 : Int32) (z0 : x_St) : Option (Int32 × x_St) :=
  (x_try (f_X_keep xn p2 z0) (fun r1 z1 =>
  (x_ck (0 : Int32) 1
  (some ((0 : Int32), (x_putL z1 110 ((0 : Int32)).toNatClampNeg ((r1).toInt64)))))) (fun E z1 =>
  (if E = "java/lang/IllegalStateException" then
  (some ((1 : Int32), z1))
  else
  (if E = "java/lang/IndexOutOfBoundsException" then
  (some ((2 : Int32), z1))
  else
  (if E = "java/lang/IllegalArgumentException" then
  (some ((3 : Int32), z1))
  else
  (if E = "java/lang/UnsupportedOperationException" then
  (some ((4 : Int32), z1))
  else
  none))))))
def f_L_digest (xn : Nat) (p2 : Int32) (p3 : Int32) (z0 : x_St) : Option (Int32 × x_St) :=
  (x_try (f_X_digest xn p2 p3 z0) (fun r1 z1 =>
  (x_ck (0 : Int32) 1
  (some ((0 : Int32), (x_putL z1 110 ((0 : Int32)).toNatClampNeg ((r1).toInt64)))))) (fun E z1 =>
  (if E = "java/lang/IllegalStateException" then
  (some ((1 : Int32), z1))
  else
  (if E = "java/lang/IndexOutOfBoundsException" then
  (some ((2 : Int32), z1))
  else
  none))))
def f_L_print (xn : Nat) (p2 : Int32) (z0 : x_St) : Option (Int32 × x_St) :=
  (x_try (f_X_print xn p2 z0) (fun r1 z1 =>
  (x_ck (0 : Int32) 1
  (some ((0 : Int32), (x_putL z1 110 ((0 : Int32)).toNatClampNeg r1))))) (fun E z1 =>
  (if E = "java/lang/IllegalStateException" then
  (some ((1 : Int32), z1))
  else
  (if E = "java/lang/IndexOutOfBoundsException" then
  (some ((2 : Int32), z1))
  else
  none))))
def f_L_sample (xn : Nat) (p2 : Int32) (p3 : Int32) (p4 : Int32) (z0 : x_St) : Option (Int32 × x_St) :=
  (x_try (f_X_sample xn p2 p3 p4 z0) (fun r1 z1 =>
  (x_ck (0 : Int32) 1
  (some ((0 : Int32), (x_putL z1 110 ((0 : Int32)).toNatClampNeg ((r1).toInt64)))))) (fun E z1 =>
  (if E = "java/lang/IllegalStateException" then
  (some ((1 : Int32), z1))
  else
  (if E = "java/lang/IndexOutOfBoundsException" then
  (some ((2 : Int32), z1))
  else
  none))))
def f_L_near (xn : Nat) (p2 : Int32) (p3 : Int32) (z0 : x_St) : Option (Int32 × x_St) :=
  (x_try (f_X_near xn p2 p3 z0) (fun r1 z1 =>
  (x_ck (0 : Int32) 1
  (some ((0 : Int32), (x_putL z1 110 ((0 : Int32)).toNatClampNeg ((r1).toInt64)))))) (fun E z1 =>
  (if E = "java/lang/IllegalStateException" then
  (some ((1 : Int32), z1))
  else
  (if E = "java/lang/IndexOutOfBoundsException" then
  (some ((2 : Int32), z1))
  else
  (if E = "java/lang/IllegalArgumentException" then
  (some ((3 : Int32), z1))
  else
  none)))))
def f_L_found (xn : Nat) (p2 : Int32) (p3 : Int32) (z0 : x_St) : Option (Int32 × x_St) :=
  (x_try (f_X_found xn p2 p3 z0) (fun r1 z1 =>
  (x_ck (0 : Int32) 1
  (some ((0 : Int32), (x_putL z1 110 ((0 : Int32)).toNatClampNeg ((r1).toInt64)))))) (fun E z1 =>
  (if E = "java/lang/IllegalStateException" then
  (some ((1 : Int32), z1))
  else
  (if E = "java/lang/IndexOutOfBoundsException" then
  (some ((2 : Int32), z1))
  else
  (if E = "java/lang/IllegalArgumentException" then
  (some ((3 : Int32), z1))
  else
  none)))))
def f_L_drop (xn : Nat) (p2 : Int32) (z0 : x_St) : Option (Int32 × x_St) :=
  (x_try (f_X_drop xn p2 z0) (fun r1 z1 =>
  (x_ck (0 : Int32) 1
  (some ((0 : Int32), (x_putL z1 110 ((0 : Int32)).toNatClampNeg ((r1).toInt64)))))) (fun E z1 =>
  (if E = "java/lang/IllegalStateException" then
  (some ((1 : Int32), z1))
  else
  (if E = "java/lang/IndexOutOfBoundsException" then
  (some ((2 : Int32), z1))
  else
  none))))
def f_L_sweep (xn : Nat)  (z0 : x_St) : Option (Int32 × x_St) :=
  (x_try (f_X_sweep xn z0) (fun r1 z1 =>
  (x_ck (0 : Int32) 1
  (some ((0 : Int32), (x_putL z1 110 ((0 : Int32)).toNatClampNeg ((r1).toInt64)))))) (fun E z1 =>
  (if E = "java/lang/IllegalStateException" then
  (some ((1 : Int32), z1))
  else
  none)))
def f_L_fuse (xn : Nat) (p2 : Int32) (z0 : x_St) : Option (Int32 × x_St) :=
  (x_try (f_X_fuse xn p2 z0) (fun r1 z1 =>
  (x_ck (0 : Int32) 1
  (some ((0 : Int32), (x_putL z1 110 ((0 : Int32)).toNatClampNeg ((r1).toInt64)))))) (fun E z1 =>
  (if E = "java/lang/IllegalStateException" then
  (some ((1 : Int32), z1))
  else
  (if E = "java/lang/IllegalArgumentException" then
  (some ((2 : Int32), z1))
  else
  none))))
def f_L_poke (xn : Nat) (p2 : Int32) (p3 : Int32) (p4 : Int32) (z0 : x_St) : Option (Int32 × x_St) :=
  (x_try (f_X_poke xn p2 p3 p4 z0) (fun r1 z1 =>
  (x_ck (0 : Int32) 1
  (some ((0 : Int32), (x_putL z1 110 ((0 : Int32)).toNatClampNeg ((r1).toInt64)))))) (fun E z1 =>
  (if E = "java/lang/IndexOutOfBoundsException" then
  (some ((1 : Int32), z1))
  else
  (if E = "java/lang/IllegalArgumentException" then
  (some ((2 : Int32), z1))
  else
  none))))
def f_L_byteAt (xn : Nat) (p2 : Int32) (p3 : Int32) (z0 : x_St) : Option (Int32 × x_St) :=
  (x_try (f_X_byteAt xn p2 p3 z0) (fun r1 z1 =>
  (x_ck (0 : Int32) 1
  (some ((0 : Int32), (x_putL z1 110 ((0 : Int32)).toNatClampNeg ((r1).toInt64)))))) (fun E z1 =>
  (if E = "java/lang/IndexOutOfBoundsException" then
  (some ((1 : Int32), z1))
  else
  none)))
abbrev rm_L_picture : Room := { frames := 8, cells := 1, slots := 6, locals := 125 }
set_option maxHeartbeats 4000000 in
set_option maxRecDepth 100000 in
theorem c_L_picture (l : Launch) (G : x_G) (hl9 : l.stackTraces = false) (p2 : Int32) (p3 : Int32) (z0 : x_St) (r : Int32) (zo : x_St) (hf : f_L_picture (x_n G) p2 p3 z0 = some (r, zo)) : Met l (⟨"ContentLibraryLaw", "picture", "(LContentLibrary;II[J)I"⟩ : MethodName) (x_wsW (⟨"ContentLibraryLaw", "picture", "(LContentLibrary;II[J)I"⟩ : MethodName) method_3_code 5 (some .int) [(0, 10, 13, 13), (0, 10, 17, 15), (0, 10, 21, 17)]) rm_L_picture (va_Pc [.ref (x_ad G 0), .int p2, .int p3, .ref (x_ad G 110)] (x_PW G z0)) (va_Qi (fun a u => r = a ∧ zo = u) (x_PW G) (x_A G)) 1 6 (x_A G) := by
  refine va_MetW (hh := [(0, 10, 13, 13), (0, 10, 17, 15), (0, 10, 21, 17)]) (cc := method_3_code) (maxL := 5) (ret := (some .int)) (by decide) rfl ?_
  intro p e s m args below meth c s₁ B hml hv
  obtain ⟨rfl, hz, hP, hD, hK, hG⟩ := hv
  have hTab := e_table B (atoms_spec (ws := (x_wsW (⟨"ContentLibraryLaw", "picture", "(LContentLibrary;II[J)I"⟩ : MethodName) method_3_code 5 (some .int) [(0, 10, 13, 13), (0, 10, 17, 15), (0, 10, 21, 17)])) B.pre _ List.mem_cons_self)
  obtain ⟨hx, hb, hr, hml, hown, hts, hlocks, hz, hK, hG⟩ : x_Ctx G p s m _ meth c method_3_code "ContentLibraryLaw" 5 (some .int) := ⟨B.exec, B.bytes, B.returns, hml, findClass_of_methodNamed B.named, fun w h => atoms_spec (ws := (x_wsW (⟨"ContentLibraryLaw", "picture", "(LContentLibrary;II[J)I"⟩ : MethodName) method_3_code 5 (some .int) [(0, 10, 13, 13), (0, 10, 17, 15), (0, 10, 21, 17)])) B.pre w (List.mem_cons_of_mem _ h), B.notSynchronized, hz, hK, hG⟩
  have hS : va_S (x_A G) s.heap s.heap [] := va_S.rf
  have hl := lv_entry ([.ref (x_ad G 0), .int p2, .int p3, .ref (x_ad G 110)]) (n := 5) (Nat.le_of_ble_eq_true rfl)
  rw [lg_entry_eq]
  generalize (lg_sl ([.ref (x_ad G 0), .int p2, .int p3, .ref (x_ad G 110)]) ++ List.replicate (5 - (lg_sl ([.ref (x_ad G 0), .int p2, .int p3, .ref (x_ad G 110)])).length) Slot.unset).toArray = ls at hl ⊢
  have hl : lv_has ls 5 [(0, .ref (x_ad G 0)), (1, .int p2), (2, .int p3), (3, .ref (x_ad G 110))] := hl
  rw [f_L_picture] at hf
  refine lv_aload_n hx hb d_L_picture_0 rfl (lv_at hl 3 rfl) ?_
  refine lv_iconst (v := (0 : Int32)) hx hb d_L_picture_1 (by decide) ?_
  refine lv_aload_n hx hb d_L_picture_2 rfl (lv_at hl 0 rfl) ?_
  refine lv_iload_n hx hb d_L_picture_3 rfl (lv_at hl 1 rfl) ?_
  refine lv_iload_n hx hb d_L_picture_4 rfl (lv_at hl 2 rfl) ?_
  rcases x_try_some hf with ⟨E, z1, hq2, hf⟩ | ⟨r1, z1, hq2, hf⟩
  · by_cases hE : E = "java/lang/IllegalStateException"
    · subst hE
      have hf := x_br_t hf rfl
      refine e_callV (As := [.int p2, .int p3]) (rest := [.int (0 : Int32), .ref (x_ad G 110)]) ⟨hx, hb, hml, hown, hts⟩ (c_X_picture_x l G hl9 p2 p3 z0 _ z1 hq2) (cwV 2 hts (x_gV t_331 t_332 t_333 t_1 t_334) rfl rfl rfl (by decide +kernel) ⟨Nat.le_of_ble_eq_true rfl, Nat.le_of_ble_eq_true rfl⟩) ⟨x_blind _ _ _, va_recv hK hP (ci := 0) (q0 := 0) rfl (x_lk_X G _), fun U hU hW => ⟨rfl, x_pw hP hD hK hG hS hz hU hW⟩⟩ rfl hl.1 rfl (lv_room (Nat.le_of_ble_eq_true rfl)) d_L_picture_5 ⟨Nat.le_of_ble_eq_true rfl, Nat.le_of_ble_eq_true rfl⟩ hz hS (fun q ce H locs hP hD hS hce hcv hcl => e_catch hown [] ⟨0, 10, 13, 13⟩ [⟨0, 10, 17, 15⟩, ⟨0, 10, 21, 17⟩] hTab (fun w h => absurd h List.not_mem_nil) (by decide) (by decide) (hts _ t_328) (va_Nw.use rfl (hG.2.1.1 _ (by decide))) hce hcv hcl ?_)
      refine lv_astore (lv' := [(4, .ref q), (0, .ref (x_ad G 0)), (1, .int p2), (2, .int p3), (3, .ref (x_ad G 110))]) hx hb d_L_picture_13 hl (by decide) rfl (fun ls hl => ?_)
      refine lv_iconst (v := (1 : Int32)) hx hb d_L_picture_15 (by decide) ?_
      obtain ⟨rfl, rfl⟩ := x_ret hf
      exact W.iret (v := (1 : Int32)) hx hb hr (fun t ht hW => ⟨⟨_, _, rfl, ⟨rfl, rfl⟩, x_pw hP hD hK hG hS hz ht hW⟩, hS.F ht⟩) hS.2.2 d_L_picture_16
    have hf := x_br_f hf hE
    by_cases hE : E = "java/lang/IllegalArgumentException"
    · subst hE
      have hf := x_br_t hf rfl
      refine e_callV (As := [.int p2, .int p3]) (rest := [.int (0 : Int32), .ref (x_ad G 110)]) ⟨hx, hb, hml, hown, hts⟩ (c_X_picture_x l G hl9 p2 p3 z0 _ z1 hq2) (cwV 2 hts (x_gV t_331 t_332 t_333 t_1 t_334) rfl rfl rfl (by decide +kernel) ⟨Nat.le_of_ble_eq_true rfl, Nat.le_of_ble_eq_true rfl⟩) ⟨x_blind _ _ _, va_recv hK hP (ci := 0) (q0 := 0) rfl (x_lk_X G _), fun U hU hW => ⟨rfl, x_pw hP hD hK hG hS hz hU hW⟩⟩ rfl hl.1 rfl (lv_room (Nat.le_of_ble_eq_true rfl)) d_L_picture_5 ⟨Nat.le_of_ble_eq_true rfl, Nat.le_of_ble_eq_true rfl⟩ hz hS (fun q ce H locs hP hD hS hce hcv hcl => e_catch hown [⟨0, 10, 13, 13⟩] ⟨0, 10, 17, 15⟩ [⟨0, 10, 21, 17⟩] hTab (List.forall_mem_cons.mpr ⟨⟨by decide, "java/lang/IllegalStateException", hts _ t_328, hG.2.1.2 _ (by decide) _ (by decide) (by decide)⟩, (fun w h => absurd h List.not_mem_nil)⟩) (by decide) (by decide) (hts _ t_329) (va_Nw.use rfl (hG.2.1.1 _ (by decide))) hce hcv hcl ?_)
      refine lv_astore (lv' := [(4, .ref q), (0, .ref (x_ad G 0)), (1, .int p2), (2, .int p3), (3, .ref (x_ad G 110))]) hx hb d_L_picture_17 hl (by decide) rfl (fun ls hl => ?_)
      refine lv_iconst (v := (2 : Int32)) hx hb d_L_picture_19 (by decide) ?_
      obtain ⟨rfl, rfl⟩ := x_ret hf
      exact W.iret (v := (2 : Int32)) hx hb hr (fun t ht hW => ⟨⟨_, _, rfl, ⟨rfl, rfl⟩, x_pw hP hD hK hG hS hz ht hW⟩, hS.F ht⟩) hS.2.2 d_L_picture_20
    have hf := x_br_f hf hE
    by_cases hE : E = "java/lang/UnsupportedOperationException"
    · subst hE
      have hf := x_br_t hf rfl
      refine e_callV (As := [.int p2, .int p3]) (rest := [.int (0 : Int32), .ref (x_ad G 110)]) ⟨hx, hb, hml, hown, hts⟩ (c_X_picture_x l G hl9 p2 p3 z0 _ z1 hq2) (cwV 2 hts (x_gV t_331 t_332 t_333 t_1 t_334) rfl rfl rfl (by decide +kernel) ⟨Nat.le_of_ble_eq_true rfl, Nat.le_of_ble_eq_true rfl⟩) ⟨x_blind _ _ _, va_recv hK hP (ci := 0) (q0 := 0) rfl (x_lk_X G _), fun U hU hW => ⟨rfl, x_pw hP hD hK hG hS hz hU hW⟩⟩ rfl hl.1 rfl (lv_room (Nat.le_of_ble_eq_true rfl)) d_L_picture_5 ⟨Nat.le_of_ble_eq_true rfl, Nat.le_of_ble_eq_true rfl⟩ hz hS (fun q ce H locs hP hD hS hce hcv hcl => e_catch hown [⟨0, 10, 13, 13⟩, ⟨0, 10, 17, 15⟩] ⟨0, 10, 21, 17⟩ [] hTab (List.forall_mem_cons.mpr ⟨⟨by decide, "java/lang/IllegalStateException", hts _ t_328, hG.2.1.2 _ (by decide) _ (by decide) (by decide)⟩, (List.forall_mem_cons.mpr ⟨⟨by decide, "java/lang/IllegalArgumentException", hts _ t_329, hG.2.1.2 _ (by decide) _ (by decide) (by decide)⟩, (fun w h => absurd h List.not_mem_nil)⟩)⟩) (by decide) (by decide) (hts _ t_330) (va_Nw.use rfl (hG.2.1.1 _ (by decide))) hce hcv hcl ?_)
      refine lv_astore (lv' := [(4, .ref q), (0, .ref (x_ad G 0)), (1, .int p2), (2, .int p3), (3, .ref (x_ad G 110))]) hx hb d_L_picture_21 hl (by decide) rfl (fun ls hl => ?_)
      refine lv_iconst (v := (3 : Int32)) hx hb d_L_picture_23 (by decide) ?_
      obtain ⟨rfl, rfl⟩ := x_ret hf
      exact W.iret (v := (3 : Int32)) hx hb hr (fun t ht hW => ⟨⟨_, _, rfl, ⟨rfl, rfl⟩, x_pw hP hD hK hG hS hz ht hW⟩, hS.F ht⟩) hS.2.2 d_L_picture_24
    have hf := x_br_f hf hE
    cases hf
  refine va_calli (va_runV (As := [.int p2, .int p3]) (rest := [.int (0 : Int32), .ref (x_ad G 110)]) ⟨hx, hb, hml, hown, hts⟩ (c_X_picture l G p2 p3 z0 r1 z1 hq2) (cwV 2 hts (x_gV t_331 t_332 t_333 t_1 t_334) rfl rfl rfl (by decide +kernel) ⟨Nat.le_of_ble_eq_true rfl, Nat.le_of_ble_eq_true rfl⟩) ⟨x_blind _ _ _, va_recv hK hP (ci := 0) (q0 := 0) rfl (x_lk_X G _), fun U hU hW => ⟨rfl, x_pw hP hD hK hG hS hz hU hW⟩⟩ rfl rfl hl.1 rfl (lv_room (Nat.le_of_ble_eq_true rfl)) d_L_picture_5 ⟨Nat.le_of_ble_eq_true rfl, Nat.le_of_ble_eq_true rfl⟩) hS (fun q _ h => h) (fun q h => h) (fun ra u t H locs ht hvm hw hB _ _ hS => ?_)
  obtain ⟨rfl, rfl⟩ := hw
  obtain ⟨hP, hD⟩ := x_back hB ht
  refine lv_i2l (v := (r1).toInt64) hx hb d_L_picture_8 rfl ?_
  obtain ⟨hin3, hf⟩ := x_ck_some hf
  refine va_last hx hb hK hP hD hS 110 4 (x_lk_O G _) rfl hin3 d_L_picture_9 (fun H locs hP hD hS => ?_)
  rw [x_st_O G _] at hP hD
  refine lv_goto (tgt := 25) hx hb d_L_picture_10 (by decide) ?_
  refine lv_iconst (v := (0 : Int32)) hx hb d_L_picture_25 (by decide) ?_
  obtain ⟨rfl, rfl⟩ := x_ret hf
  refine W.widen (k := 1) (n := 6) (Nat.le_of_ble_eq_true rfl) (Nat.le_of_ble_eq_true rfl) ?_
  exact W.iret (v := (0 : Int32)) hx hb hr (fun t ht hW => ⟨⟨_, _, rfl, ⟨rfl, rfl⟩, x_pw hP hD hK hG hS hz ht hW⟩, hS.F ht⟩) hS.2.2 d_L_picture_26
abbrev rm_L_samples : Room := { frames := 8, cells := 1, slots := 6, locals := 128 }
set_option maxHeartbeats 4000000 in
set_option maxRecDepth 100000 in
theorem c_L_samples (l : Launch) (G : x_G) (hl9 : l.stackTraces = false) (p2 : Int32) (p3 : Int32) (p4 : Int32) (p5 : Int32) (z0 : x_St) (r : Int32) (zo : x_St) (hf : f_L_samples (x_n G) p2 p3 p4 p5 z0 = some (r, zo)) : Met l (⟨"ContentLibraryLaw", "samples", "(LContentLibrary;IIII[J)I"⟩ : MethodName) (x_wsW (⟨"ContentLibraryLaw", "samples", "(LContentLibrary;IIII[J)I"⟩ : MethodName) method_4_code 7 (some .int) [(0, 14, 17, 13), (0, 14, 21, 23), (0, 14, 25, 15)]) rm_L_samples (va_Pc [.ref (x_ad G 0), .int p2, .int p3, .int p4, .int p5, .ref (x_ad G 110)] (x_PW G z0)) (va_Qi (fun a u => r = a ∧ zo = u) (x_PW G) (x_A G)) 1 6 (x_A G) := by
  refine va_MetW (hh := [(0, 14, 17, 13), (0, 14, 21, 23), (0, 14, 25, 15)]) (cc := method_4_code) (maxL := 7) (ret := (some .int)) (by decide) rfl ?_
  intro p e s m args below meth c s₁ B hml hv
  obtain ⟨rfl, hz, hP, hD, hK, hG⟩ := hv
  have hTab := e_table B (atoms_spec (ws := (x_wsW (⟨"ContentLibraryLaw", "samples", "(LContentLibrary;IIII[J)I"⟩ : MethodName) method_4_code 7 (some .int) [(0, 14, 17, 13), (0, 14, 21, 23), (0, 14, 25, 15)])) B.pre _ List.mem_cons_self)
  obtain ⟨hx, hb, hr, hml, hown, hts, hlocks, hz, hK, hG⟩ : x_Ctx G p s m _ meth c method_4_code "ContentLibraryLaw" 7 (some .int) := ⟨B.exec, B.bytes, B.returns, hml, findClass_of_methodNamed B.named, fun w h => atoms_spec (ws := (x_wsW (⟨"ContentLibraryLaw", "samples", "(LContentLibrary;IIII[J)I"⟩ : MethodName) method_4_code 7 (some .int) [(0, 14, 17, 13), (0, 14, 21, 23), (0, 14, 25, 15)])) B.pre w (List.mem_cons_of_mem _ h), B.notSynchronized, hz, hK, hG⟩
  have hS : va_S (x_A G) s.heap s.heap [] := va_S.rf
  have hl := lv_entry ([.ref (x_ad G 0), .int p2, .int p3, .int p4, .int p5, .ref (x_ad G 110)]) (n := 7) (Nat.le_of_ble_eq_true rfl)
  rw [lg_entry_eq]
  generalize (lg_sl ([.ref (x_ad G 0), .int p2, .int p3, .int p4, .int p5, .ref (x_ad G 110)]) ++ List.replicate (7 - (lg_sl ([.ref (x_ad G 0), .int p2, .int p3, .int p4, .int p5, .ref (x_ad G 110)])).length) Slot.unset).toArray = ls at hl ⊢
  have hl : lv_has ls 7 [(0, .ref (x_ad G 0)), (1, .int p2), (2, .int p3), (3, .int p4), (4, .int p5), (5, .ref (x_ad G 110))] := hl
  rw [f_L_samples] at hf
  refine lv_aload hx hb d_L_samples_0 (lv_at hl 5 rfl) ?_
  refine lv_iconst (v := (0 : Int32)) hx hb d_L_samples_2 (by decide) ?_
  refine lv_aload_n hx hb d_L_samples_3 rfl (lv_at hl 0 rfl) ?_
  refine lv_iload_n hx hb d_L_samples_4 rfl (lv_at hl 1 rfl) ?_
  refine lv_iload_n hx hb d_L_samples_5 rfl (lv_at hl 2 rfl) ?_
  refine lv_iload_n hx hb d_L_samples_6 rfl (lv_at hl 3 rfl) ?_
  refine lv_iload hx hb d_L_samples_7 (lv_at hl 4 rfl) ?_
  rcases x_try_some hf with ⟨E, z1, hq2, hf⟩ | ⟨r1, z1, hq2, hf⟩
  · by_cases hE : E = "java/lang/IllegalStateException"
    · subst hE
      have hf := x_br_t hf rfl
      refine e_callV (As := [.int p2, .int p3, .int p4, .int p5]) (rest := [.int (0 : Int32), .ref (x_ad G 110)]) ⟨hx, hb, hml, hown, hts⟩ (c_X_samples_x l G hl9 p2 p3 p4 p5 z0 _ z1 hq2) (cwV 4 hts (x_gV t_449 t_450 t_451 t_1 t_452) rfl rfl rfl (by decide +kernel) ⟨Nat.le_of_ble_eq_true rfl, Nat.le_of_ble_eq_true rfl⟩) ⟨x_blind _ _ _, va_recv hK hP (ci := 0) (q0 := 0) rfl (x_lk_X G _), fun U hU hW => ⟨rfl, x_pw hP hD hK hG hS hz hU hW⟩⟩ rfl hl.1 rfl (lv_room (Nat.le_of_ble_eq_true rfl)) d_L_samples_9 ⟨Nat.le_of_ble_eq_true rfl, Nat.le_of_ble_eq_true rfl⟩ hz hS (fun q ce H locs hP hD hS hce hcv hcl => e_catch hown [] ⟨0, 14, 17, 13⟩ [⟨0, 14, 21, 23⟩, ⟨0, 14, 25, 15⟩] hTab (fun w h => absurd h List.not_mem_nil) (by decide) (by decide) (hts _ t_328) (va_Nw.use rfl (hG.2.1.1 _ (by decide))) hce hcv hcl ?_)
      refine lv_astore (lv' := [(6, .ref q), (0, .ref (x_ad G 0)), (1, .int p2), (2, .int p3), (3, .int p4), (4, .int p5), (5, .ref (x_ad G 110))]) hx hb d_L_samples_17 hl (by decide) rfl (fun ls hl => ?_)
      refine lv_iconst (v := (1 : Int32)) hx hb d_L_samples_19 (by decide) ?_
      obtain ⟨rfl, rfl⟩ := x_ret hf
      exact W.iret (v := (1 : Int32)) hx hb hr (fun t ht hW => ⟨⟨_, _, rfl, ⟨rfl, rfl⟩, x_pw hP hD hK hG hS hz ht hW⟩, hS.F ht⟩) hS.2.2 d_L_samples_20
    have hf := x_br_f hf hE
    by_cases hE : E = "java/lang/IndexOutOfBoundsException"
    · subst hE
      have hf := x_br_t hf rfl
      refine e_callV (As := [.int p2, .int p3, .int p4, .int p5]) (rest := [.int (0 : Int32), .ref (x_ad G 110)]) ⟨hx, hb, hml, hown, hts⟩ (c_X_samples_x l G hl9 p2 p3 p4 p5 z0 _ z1 hq2) (cwV 4 hts (x_gV t_449 t_450 t_451 t_1 t_452) rfl rfl rfl (by decide +kernel) ⟨Nat.le_of_ble_eq_true rfl, Nat.le_of_ble_eq_true rfl⟩) ⟨x_blind _ _ _, va_recv hK hP (ci := 0) (q0 := 0) rfl (x_lk_X G _), fun U hU hW => ⟨rfl, x_pw hP hD hK hG hS hz hU hW⟩⟩ rfl hl.1 rfl (lv_room (Nat.le_of_ble_eq_true rfl)) d_L_samples_9 ⟨Nat.le_of_ble_eq_true rfl, Nat.le_of_ble_eq_true rfl⟩ hz hS (fun q ce H locs hP hD hS hce hcv hcl => e_catch hown [⟨0, 14, 17, 13⟩] ⟨0, 14, 21, 23⟩ [⟨0, 14, 25, 15⟩] hTab (List.forall_mem_cons.mpr ⟨⟨by decide, "java/lang/IllegalStateException", hts _ t_328, hG.2.1.2 _ (by decide) _ (by decide) (by decide)⟩, (fun w h => absurd h List.not_mem_nil)⟩) (by decide) (by decide) (hts _ t_448) (va_Nw.use rfl (hG.2.1.1 _ (by decide))) hce hcv hcl ?_)
      refine lv_astore (lv' := [(6, .ref q), (0, .ref (x_ad G 0)), (1, .int p2), (2, .int p3), (3, .int p4), (4, .int p5), (5, .ref (x_ad G 110))]) hx hb d_L_samples_21 hl (by decide) rfl (fun ls hl => ?_)
      refine lv_iconst (v := (2 : Int32)) hx hb d_L_samples_23 (by decide) ?_
      obtain ⟨rfl, rfl⟩ := x_ret hf
      exact W.iret (v := (2 : Int32)) hx hb hr (fun t ht hW => ⟨⟨_, _, rfl, ⟨rfl, rfl⟩, x_pw hP hD hK hG hS hz ht hW⟩, hS.F ht⟩) hS.2.2 d_L_samples_24
    have hf := x_br_f hf hE
    by_cases hE : E = "java/lang/IllegalArgumentException"
    · subst hE
      have hf := x_br_t hf rfl
      refine e_callV (As := [.int p2, .int p3, .int p4, .int p5]) (rest := [.int (0 : Int32), .ref (x_ad G 110)]) ⟨hx, hb, hml, hown, hts⟩ (c_X_samples_x l G hl9 p2 p3 p4 p5 z0 _ z1 hq2) (cwV 4 hts (x_gV t_449 t_450 t_451 t_1 t_452) rfl rfl rfl (by decide +kernel) ⟨Nat.le_of_ble_eq_true rfl, Nat.le_of_ble_eq_true rfl⟩) ⟨x_blind _ _ _, va_recv hK hP (ci := 0) (q0 := 0) rfl (x_lk_X G _), fun U hU hW => ⟨rfl, x_pw hP hD hK hG hS hz hU hW⟩⟩ rfl hl.1 rfl (lv_room (Nat.le_of_ble_eq_true rfl)) d_L_samples_9 ⟨Nat.le_of_ble_eq_true rfl, Nat.le_of_ble_eq_true rfl⟩ hz hS (fun q ce H locs hP hD hS hce hcv hcl => e_catch hown [⟨0, 14, 17, 13⟩, ⟨0, 14, 21, 23⟩] ⟨0, 14, 25, 15⟩ [] hTab (List.forall_mem_cons.mpr ⟨⟨by decide, "java/lang/IllegalStateException", hts _ t_328, hG.2.1.2 _ (by decide) _ (by decide) (by decide)⟩, (List.forall_mem_cons.mpr ⟨⟨by decide, "java/lang/IndexOutOfBoundsException", hts _ t_448, hG.2.1.2 _ (by decide) _ (by decide) (by decide)⟩, (fun w h => absurd h List.not_mem_nil)⟩)⟩) (by decide) (by decide) (hts _ t_329) (va_Nw.use rfl (hG.2.1.1 _ (by decide))) hce hcv hcl ?_)
      refine lv_astore (lv' := [(6, .ref q), (0, .ref (x_ad G 0)), (1, .int p2), (2, .int p3), (3, .int p4), (4, .int p5), (5, .ref (x_ad G 110))]) hx hb d_L_samples_25 hl (by decide) rfl (fun ls hl => ?_)
      refine lv_iconst (v := (3 : Int32)) hx hb d_L_samples_27 (by decide) ?_
      obtain ⟨rfl, rfl⟩ := x_ret hf
      exact W.iret (v := (3 : Int32)) hx hb hr (fun t ht hW => ⟨⟨_, _, rfl, ⟨rfl, rfl⟩, x_pw hP hD hK hG hS hz ht hW⟩, hS.F ht⟩) hS.2.2 d_L_samples_28
    have hf := x_br_f hf hE
    cases hf
  refine va_calli (va_runV (As := [.int p2, .int p3, .int p4, .int p5]) (rest := [.int (0 : Int32), .ref (x_ad G 110)]) ⟨hx, hb, hml, hown, hts⟩ (c_X_samples l G p2 p3 p4 p5 z0 r1 z1 hq2) (cwV 4 hts (x_gV t_449 t_450 t_451 t_1 t_452) rfl rfl rfl (by decide +kernel) ⟨Nat.le_of_ble_eq_true rfl, Nat.le_of_ble_eq_true rfl⟩) ⟨x_blind _ _ _, va_recv hK hP (ci := 0) (q0 := 0) rfl (x_lk_X G _), fun U hU hW => ⟨rfl, x_pw hP hD hK hG hS hz hU hW⟩⟩ rfl rfl hl.1 rfl (lv_room (Nat.le_of_ble_eq_true rfl)) d_L_samples_9 ⟨Nat.le_of_ble_eq_true rfl, Nat.le_of_ble_eq_true rfl⟩) hS (fun q _ h => h) (fun q h => h) (fun ra u t H locs ht hvm hw hB _ _ hS => ?_)
  obtain ⟨rfl, rfl⟩ := hw
  obtain ⟨hP, hD⟩ := x_back hB ht
  refine lv_i2l (v := (r1).toInt64) hx hb d_L_samples_12 rfl ?_
  obtain ⟨hin3, hf⟩ := x_ck_some hf
  refine va_last hx hb hK hP hD hS 110 4 (x_lk_O G _) rfl hin3 d_L_samples_13 (fun H locs hP hD hS => ?_)
  rw [x_st_O G _] at hP hD
  refine lv_goto (tgt := 29) hx hb d_L_samples_14 (by decide) ?_
  refine lv_iconst (v := (0 : Int32)) hx hb d_L_samples_29 (by decide) ?_
  obtain ⟨rfl, rfl⟩ := x_ret hf
  refine W.widen (k := 1) (n := 6) (Nat.le_of_ble_eq_true rfl) (Nat.le_of_ble_eq_true rfl) ?_
  exact W.iret (v := (0 : Int32)) hx hb hr (fun t ht hW => ⟨⟨_, _, rfl, ⟨rfl, rfl⟩, x_pw hP hD hK hG hS hz ht hW⟩, hS.F ht⟩) hS.2.2 d_L_samples_30
abbrev rm_L_keep : Room := { frames := 8, cells := 1, slots := 6, locals := 126 }
set_option maxHeartbeats 4000000 in
set_option maxRecDepth 100000 in
theorem c_L_keep (l : Launch) (G : x_G) (hl9 : l.stackTraces = false) (p2 : Int32) (z0 : x_St) (r : Int32) (zo : x_St) (hf : f_L_keep (x_n G) p2 z0 = some (r, zo)) : Met l (⟨"ContentLibraryLaw", "keep", "(LContentLibrary;I[J)I"⟩ : MethodName) (x_wsW (⟨"ContentLibraryLaw", "keep", "(LContentLibrary;I[J)I"⟩ : MethodName) method_5_code 4 (some .int) [(0, 9, 12, 13), (0, 9, 15, 23), (0, 9, 18, 15), (0, 9, 21, 17)]) rm_L_keep (va_Pc [.ref (x_ad G 0), .int p2, .ref (x_ad G 110)] (x_PW G z0)) (va_Qi (fun a u => r = a ∧ zo = u) (x_PW G) (x_A G)) 1 6 (x_A G) := by
  refine va_MetW (hh := [(0, 9, 12, 13), (0, 9, 15, 23), (0, 9, 18, 15), (0, 9, 21, 17)]) (cc := method_5_code) (maxL := 4) (ret := (some .int)) (by decide) rfl ?_
  intro p e s m args below meth c s₁ B hml hv
  obtain ⟨rfl, hz, hP, hD, hK, hG⟩ := hv
  have hTab := e_table B (atoms_spec (ws := (x_wsW (⟨"ContentLibraryLaw", "keep", "(LContentLibrary;I[J)I"⟩ : MethodName) method_5_code 4 (some .int) [(0, 9, 12, 13), (0, 9, 15, 23), (0, 9, 18, 15), (0, 9, 21, 17)])) B.pre _ List.mem_cons_self)
  obtain ⟨hx, hb, hr, hml, hown, hts, hlocks, hz, hK, hG⟩ : x_Ctx G p s m _ meth c method_5_code "ContentLibraryLaw" 4 (some .int) := ⟨B.exec, B.bytes, B.returns, hml, findClass_of_methodNamed B.named, fun w h => atoms_spec (ws := (x_wsW (⟨"ContentLibraryLaw", "keep", "(LContentLibrary;I[J)I"⟩ : MethodName) method_5_code 4 (some .int) [(0, 9, 12, 13), (0, 9, 15, 23), (0, 9, 18, 15), (0, 9, 21, 17)])) B.pre w (List.mem_cons_of_mem _ h), B.notSynchronized, hz, hK, hG⟩
  have hS : va_S (x_A G) s.heap s.heap [] := va_S.rf
  have hl := lv_entry ([.ref (x_ad G 0), .int p2, .ref (x_ad G 110)]) (n := 4) (Nat.le_of_ble_eq_true rfl)
  rw [lg_entry_eq]
  generalize (lg_sl ([.ref (x_ad G 0), .int p2, .ref (x_ad G 110)]) ++ List.replicate (4 - (lg_sl ([.ref (x_ad G 0), .int p2, .ref (x_ad G 110)])).length) Slot.unset).toArray = ls at hl ⊢
  have hl : lv_has ls 4 [(0, .ref (x_ad G 0)), (1, .int p2), (2, .ref (x_ad G 110))] := hl
  rw [f_L_keep] at hf
  refine lv_aload_n hx hb d_L_keep_0 rfl (lv_at hl 2 rfl) ?_
  refine lv_iconst (v := (0 : Int32)) hx hb d_L_keep_1 (by decide) ?_
  refine lv_aload_n hx hb d_L_keep_2 rfl (lv_at hl 0 rfl) ?_
  refine lv_iload_n hx hb d_L_keep_3 rfl (lv_at hl 1 rfl) ?_
  rcases x_try_some hf with ⟨E, z1, hq2, hf⟩ | ⟨r1, z1, hq2, hf⟩
  · by_cases hE : E = "java/lang/IllegalStateException"
    · subst hE
      have hf := x_br_t hf rfl
      refine e_callV (As := [.int p2]) (rest := [.int (0 : Int32), .ref (x_ad G 110)]) ⟨hx, hb, hml, hown, hts⟩ (c_X_keep_x l G hl9 p2 z0 _ z1 hq2) (cwV 1 hts (x_gV t_482 t_483 t_484 t_1 t_485) rfl rfl rfl (by decide +kernel) ⟨Nat.le_of_ble_eq_true rfl, Nat.le_of_ble_eq_true rfl⟩) ⟨x_blind _ _ _, va_recv hK hP (ci := 0) (q0 := 0) rfl (x_lk_X G _), fun U hU hW => ⟨rfl, x_pw hP hD hK hG hS hz hU hW⟩⟩ rfl hl.1 rfl (lv_room (Nat.le_of_ble_eq_true rfl)) d_L_keep_4 ⟨Nat.le_of_ble_eq_true rfl, Nat.le_of_ble_eq_true rfl⟩ hz hS (fun q ce H locs hP hD hS hce hcv hcl => e_catch hown [] ⟨0, 9, 12, 13⟩ [⟨0, 9, 15, 23⟩, ⟨0, 9, 18, 15⟩, ⟨0, 9, 21, 17⟩] hTab (fun w h => absurd h List.not_mem_nil) (by decide) (by decide) (hts _ t_328) (va_Nw.use rfl (hG.2.1.1 _ (by decide))) hce hcv hcl ?_)
      refine lv_astore_n (lv' := [(3, .ref q), (0, .ref (x_ad G 0)), (1, .int p2), (2, .ref (x_ad G 110))]) hx hb d_L_keep_12 rfl hl (by decide) rfl (fun ls hl => ?_)
      refine lv_iconst (v := (1 : Int32)) hx hb d_L_keep_13 (by decide) ?_
      obtain ⟨rfl, rfl⟩ := x_ret hf
      exact W.iret (v := (1 : Int32)) hx hb hr (fun t ht hW => ⟨⟨_, _, rfl, ⟨rfl, rfl⟩, x_pw hP hD hK hG hS hz ht hW⟩, hS.F ht⟩) hS.2.2 d_L_keep_14
    have hf := x_br_f hf hE
    by_cases hE : E = "java/lang/IndexOutOfBoundsException"
    · subst hE
      have hf := x_br_t hf rfl
      refine e_callV (As := [.int p2]) (rest := [.int (0 : Int32), .ref (x_ad G 110)]) ⟨hx, hb, hml, hown, hts⟩ (c_X_keep_x l G hl9 p2 z0 _ z1 hq2) (cwV 1 hts (x_gV t_482 t_483 t_484 t_1 t_485) rfl rfl rfl (by decide +kernel) ⟨Nat.le_of_ble_eq_true rfl, Nat.le_of_ble_eq_true rfl⟩) ⟨x_blind _ _ _, va_recv hK hP (ci := 0) (q0 := 0) rfl (x_lk_X G _), fun U hU hW => ⟨rfl, x_pw hP hD hK hG hS hz hU hW⟩⟩ rfl hl.1 rfl (lv_room (Nat.le_of_ble_eq_true rfl)) d_L_keep_4 ⟨Nat.le_of_ble_eq_true rfl, Nat.le_of_ble_eq_true rfl⟩ hz hS (fun q ce H locs hP hD hS hce hcv hcl => e_catch hown [⟨0, 9, 12, 13⟩] ⟨0, 9, 15, 23⟩ [⟨0, 9, 18, 15⟩, ⟨0, 9, 21, 17⟩] hTab (List.forall_mem_cons.mpr ⟨⟨by decide, "java/lang/IllegalStateException", hts _ t_328, hG.2.1.2 _ (by decide) _ (by decide) (by decide)⟩, (fun w h => absurd h List.not_mem_nil)⟩) (by decide) (by decide) (hts _ t_448) (va_Nw.use rfl (hG.2.1.1 _ (by decide))) hce hcv hcl ?_)
      refine lv_astore_n (lv' := [(3, .ref q), (0, .ref (x_ad G 0)), (1, .int p2), (2, .ref (x_ad G 110))]) hx hb d_L_keep_15 rfl hl (by decide) rfl (fun ls hl => ?_)
      refine lv_iconst (v := (2 : Int32)) hx hb d_L_keep_16 (by decide) ?_
      obtain ⟨rfl, rfl⟩ := x_ret hf
      exact W.iret (v := (2 : Int32)) hx hb hr (fun t ht hW => ⟨⟨_, _, rfl, ⟨rfl, rfl⟩, x_pw hP hD hK hG hS hz ht hW⟩, hS.F ht⟩) hS.2.2 d_L_keep_17
    have hf := x_br_f hf hE
    by_cases hE : E = "java/lang/IllegalArgumentException"
    · subst hE
      have hf := x_br_t hf rfl
      refine e_callV (As := [.int p2]) (rest := [.int (0 : Int32), .ref (x_ad G 110)]) ⟨hx, hb, hml, hown, hts⟩ (c_X_keep_x l G hl9 p2 z0 _ z1 hq2) (cwV 1 hts (x_gV t_482 t_483 t_484 t_1 t_485) rfl rfl rfl (by decide +kernel) ⟨Nat.le_of_ble_eq_true rfl, Nat.le_of_ble_eq_true rfl⟩) ⟨x_blind _ _ _, va_recv hK hP (ci := 0) (q0 := 0) rfl (x_lk_X G _), fun U hU hW => ⟨rfl, x_pw hP hD hK hG hS hz hU hW⟩⟩ rfl hl.1 rfl (lv_room (Nat.le_of_ble_eq_true rfl)) d_L_keep_4 ⟨Nat.le_of_ble_eq_true rfl, Nat.le_of_ble_eq_true rfl⟩ hz hS (fun q ce H locs hP hD hS hce hcv hcl => e_catch hown [⟨0, 9, 12, 13⟩, ⟨0, 9, 15, 23⟩] ⟨0, 9, 18, 15⟩ [⟨0, 9, 21, 17⟩] hTab (List.forall_mem_cons.mpr ⟨⟨by decide, "java/lang/IllegalStateException", hts _ t_328, hG.2.1.2 _ (by decide) _ (by decide) (by decide)⟩, (List.forall_mem_cons.mpr ⟨⟨by decide, "java/lang/IndexOutOfBoundsException", hts _ t_448, hG.2.1.2 _ (by decide) _ (by decide) (by decide)⟩, (fun w h => absurd h List.not_mem_nil)⟩)⟩) (by decide) (by decide) (hts _ t_329) (va_Nw.use rfl (hG.2.1.1 _ (by decide))) hce hcv hcl ?_)
      refine lv_astore_n (lv' := [(3, .ref q), (0, .ref (x_ad G 0)), (1, .int p2), (2, .ref (x_ad G 110))]) hx hb d_L_keep_18 rfl hl (by decide) rfl (fun ls hl => ?_)
      refine lv_iconst (v := (3 : Int32)) hx hb d_L_keep_19 (by decide) ?_
      obtain ⟨rfl, rfl⟩ := x_ret hf
      exact W.iret (v := (3 : Int32)) hx hb hr (fun t ht hW => ⟨⟨_, _, rfl, ⟨rfl, rfl⟩, x_pw hP hD hK hG hS hz ht hW⟩, hS.F ht⟩) hS.2.2 d_L_keep_20
    have hf := x_br_f hf hE
    by_cases hE : E = "java/lang/UnsupportedOperationException"
    · subst hE
      have hf := x_br_t hf rfl
      refine e_callV (As := [.int p2]) (rest := [.int (0 : Int32), .ref (x_ad G 110)]) ⟨hx, hb, hml, hown, hts⟩ (c_X_keep_x l G hl9 p2 z0 _ z1 hq2) (cwV 1 hts (x_gV t_482 t_483 t_484 t_1 t_485) rfl rfl rfl (by decide +kernel) ⟨Nat.le_of_ble_eq_true rfl, Nat.le_of_ble_eq_true rfl⟩) ⟨x_blind _ _ _, va_recv hK hP (ci := 0) (q0 := 0) rfl (x_lk_X G _), fun U hU hW => ⟨rfl, x_pw hP hD hK hG hS hz hU hW⟩⟩ rfl hl.1 rfl (lv_room (Nat.le_of_ble_eq_true rfl)) d_L_keep_4 ⟨Nat.le_of_ble_eq_true rfl, Nat.le_of_ble_eq_true rfl⟩ hz hS (fun q ce H locs hP hD hS hce hcv hcl => e_catch hown [⟨0, 9, 12, 13⟩, ⟨0, 9, 15, 23⟩, ⟨0, 9, 18, 15⟩] ⟨0, 9, 21, 17⟩ [] hTab (List.forall_mem_cons.mpr ⟨⟨by decide, "java/lang/IllegalStateException", hts _ t_328, hG.2.1.2 _ (by decide) _ (by decide) (by decide)⟩, (List.forall_mem_cons.mpr ⟨⟨by decide, "java/lang/IndexOutOfBoundsException", hts _ t_448, hG.2.1.2 _ (by decide) _ (by decide) (by decide)⟩, (List.forall_mem_cons.mpr ⟨⟨by decide, "java/lang/IllegalArgumentException", hts _ t_329, hG.2.1.2 _ (by decide) _ (by decide) (by decide)⟩, (fun w h => absurd h List.not_mem_nil)⟩)⟩)⟩) (by decide) (by decide) (hts _ t_330) (va_Nw.use rfl (hG.2.1.1 _ (by decide))) hce hcv hcl ?_)
      refine lv_astore_n (lv' := [(3, .ref q), (0, .ref (x_ad G 0)), (1, .int p2), (2, .ref (x_ad G 110))]) hx hb d_L_keep_21 rfl hl (by decide) rfl (fun ls hl => ?_)
      refine lv_iconst (v := (4 : Int32)) hx hb d_L_keep_22 (by decide) ?_
      obtain ⟨rfl, rfl⟩ := x_ret hf
      exact W.iret (v := (4 : Int32)) hx hb hr (fun t ht hW => ⟨⟨_, _, rfl, ⟨rfl, rfl⟩, x_pw hP hD hK hG hS hz ht hW⟩, hS.F ht⟩) hS.2.2 d_L_keep_23
    have hf := x_br_f hf hE
    cases hf
  refine va_calli (va_runV (As := [.int p2]) (rest := [.int (0 : Int32), .ref (x_ad G 110)]) ⟨hx, hb, hml, hown, hts⟩ (c_X_keep l G p2 z0 r1 z1 hq2) (cwV 1 hts (x_gV t_482 t_483 t_484 t_1 t_485) rfl rfl rfl (by decide +kernel) ⟨Nat.le_of_ble_eq_true rfl, Nat.le_of_ble_eq_true rfl⟩) ⟨x_blind _ _ _, va_recv hK hP (ci := 0) (q0 := 0) rfl (x_lk_X G _), fun U hU hW => ⟨rfl, x_pw hP hD hK hG hS hz hU hW⟩⟩ rfl rfl hl.1 rfl (lv_room (Nat.le_of_ble_eq_true rfl)) d_L_keep_4 ⟨Nat.le_of_ble_eq_true rfl, Nat.le_of_ble_eq_true rfl⟩) hS (fun q _ h => h) (fun q h => h) (fun ra u t H locs ht hvm hw hB _ _ hS => ?_)
  obtain ⟨rfl, rfl⟩ := hw
  obtain ⟨hP, hD⟩ := x_back hB ht
  refine lv_i2l (v := (r1).toInt64) hx hb d_L_keep_7 rfl ?_
  obtain ⟨hin3, hf⟩ := x_ck_some hf
  refine va_last hx hb hK hP hD hS 110 4 (x_lk_O G _) rfl hin3 d_L_keep_8 (fun H locs hP hD hS => ?_)
  rw [x_st_O G _] at hP hD
  refine lv_goto (tgt := 24) hx hb d_L_keep_9 (by decide) ?_
  refine lv_iconst (v := (0 : Int32)) hx hb d_L_keep_24 (by decide) ?_
  obtain ⟨rfl, rfl⟩ := x_ret hf
  refine W.widen (k := 1) (n := 6) (Nat.le_of_ble_eq_true rfl) (Nat.le_of_ble_eq_true rfl) ?_
  exact W.iret (v := (0 : Int32)) hx hb hr (fun t ht hW => ⟨⟨_, _, rfl, ⟨rfl, rfl⟩, x_pw hP hD hK hG hS hz ht hW⟩, hS.F ht⟩) hS.2.2 d_L_keep_25
abbrev rm_L_digest : Room := { frames := 8, cells := 1, slots := 6, locals := 126 }
set_option maxHeartbeats 4000000 in
set_option maxRecDepth 100000 in
theorem c_L_digest (l : Launch) (G : x_G) (hl9 : l.stackTraces = false) (p2 : Int32) (p3 : Int32) (z0 : x_St) (r : Int32) (zo : x_St) (hf : f_L_digest (x_n G) p2 p3 z0 = some (r, zo)) : Met l (⟨"ContentLibraryLaw", "digest", "(LContentLibrary;II[J)I"⟩ : MethodName) (x_wsW (⟨"ContentLibraryLaw", "digest", "(LContentLibrary;II[J)I"⟩ : MethodName) method_6_code 5 (some .int) [(0, 10, 13, 13), (0, 10, 17, 23)]) rm_L_digest (va_Pc [.ref (x_ad G 0), .int p2, .int p3, .ref (x_ad G 110)] (x_PW G z0)) (va_Qi (fun a u => r = a ∧ zo = u) (x_PW G) (x_A G)) 1 6 (x_A G) := by
  refine va_MetW (hh := [(0, 10, 13, 13), (0, 10, 17, 23)]) (cc := method_6_code) (maxL := 5) (ret := (some .int)) (by decide) rfl ?_
  intro p e s m args below meth c s₁ B hml hv
  obtain ⟨rfl, hz, hP, hD, hK, hG⟩ := hv
  have hTab := e_table B (atoms_spec (ws := (x_wsW (⟨"ContentLibraryLaw", "digest", "(LContentLibrary;II[J)I"⟩ : MethodName) method_6_code 5 (some .int) [(0, 10, 13, 13), (0, 10, 17, 23)])) B.pre _ List.mem_cons_self)
  obtain ⟨hx, hb, hr, hml, hown, hts, hlocks, hz, hK, hG⟩ : x_Ctx G p s m _ meth c method_6_code "ContentLibraryLaw" 5 (some .int) := ⟨B.exec, B.bytes, B.returns, hml, findClass_of_methodNamed B.named, fun w h => atoms_spec (ws := (x_wsW (⟨"ContentLibraryLaw", "digest", "(LContentLibrary;II[J)I"⟩ : MethodName) method_6_code 5 (some .int) [(0, 10, 13, 13), (0, 10, 17, 23)])) B.pre w (List.mem_cons_of_mem _ h), B.notSynchronized, hz, hK, hG⟩
  have hS : va_S (x_A G) s.heap s.heap [] := va_S.rf
  have hl := lv_entry ([.ref (x_ad G 0), .int p2, .int p3, .ref (x_ad G 110)]) (n := 5) (Nat.le_of_ble_eq_true rfl)
  rw [lg_entry_eq]
  generalize (lg_sl ([.ref (x_ad G 0), .int p2, .int p3, .ref (x_ad G 110)]) ++ List.replicate (5 - (lg_sl ([.ref (x_ad G 0), .int p2, .int p3, .ref (x_ad G 110)])).length) Slot.unset).toArray = ls at hl ⊢
  have hl : lv_has ls 5 [(0, .ref (x_ad G 0)), (1, .int p2), (2, .int p3), (3, .ref (x_ad G 110))] := hl
  rw [f_L_digest] at hf
  refine lv_aload_n hx hb d_L_digest_0 rfl (lv_at hl 3 rfl) ?_
  refine lv_iconst (v := (0 : Int32)) hx hb d_L_digest_1 (by decide) ?_
  refine lv_aload_n hx hb d_L_digest_2 rfl (lv_at hl 0 rfl) ?_
  refine lv_iload_n hx hb d_L_digest_3 rfl (lv_at hl 1 rfl) ?_
  refine lv_iload_n hx hb d_L_digest_4 rfl (lv_at hl 2 rfl) ?_
  rcases x_try_some hf with ⟨E, z1, hq2, hf⟩ | ⟨r1, z1, hq2, hf⟩
  · by_cases hE : E = "java/lang/IllegalStateException"
    · subst hE
      have hf := x_br_t hf rfl
      refine e_callV (As := [.int p2, .int p3]) (rest := [.int (0 : Int32), .ref (x_ad G 110)]) ⟨hx, hb, hml, hown, hts⟩ (c_X_digest_x l G hl9 p2 p3 z0 _ z1 hq2) (cwV 2 hts (x_gV t_554 t_555 t_556 t_1 t_557) rfl rfl rfl (by decide +kernel) ⟨Nat.le_of_ble_eq_true rfl, Nat.le_of_ble_eq_true rfl⟩) ⟨x_blind _ _ _, va_recv hK hP (ci := 0) (q0 := 0) rfl (x_lk_X G _), fun U hU hW => ⟨rfl, x_pw hP hD hK hG hS hz hU hW⟩⟩ rfl hl.1 rfl (lv_room (Nat.le_of_ble_eq_true rfl)) d_L_digest_5 ⟨Nat.le_of_ble_eq_true rfl, Nat.le_of_ble_eq_true rfl⟩ hz hS (fun q ce H locs hP hD hS hce hcv hcl => e_catch hown [] ⟨0, 10, 13, 13⟩ [⟨0, 10, 17, 23⟩] hTab (fun w h => absurd h List.not_mem_nil) (by decide) (by decide) (hts _ t_328) (va_Nw.use rfl (hG.2.1.1 _ (by decide))) hce hcv hcl ?_)
      refine lv_astore (lv' := [(4, .ref q), (0, .ref (x_ad G 0)), (1, .int p2), (2, .int p3), (3, .ref (x_ad G 110))]) hx hb d_L_digest_13 hl (by decide) rfl (fun ls hl => ?_)
      refine lv_iconst (v := (1 : Int32)) hx hb d_L_digest_15 (by decide) ?_
      obtain ⟨rfl, rfl⟩ := x_ret hf
      exact W.iret (v := (1 : Int32)) hx hb hr (fun t ht hW => ⟨⟨_, _, rfl, ⟨rfl, rfl⟩, x_pw hP hD hK hG hS hz ht hW⟩, hS.F ht⟩) hS.2.2 d_L_digest_16
    have hf := x_br_f hf hE
    by_cases hE : E = "java/lang/IndexOutOfBoundsException"
    · subst hE
      have hf := x_br_t hf rfl
      refine e_callV (As := [.int p2, .int p3]) (rest := [.int (0 : Int32), .ref (x_ad G 110)]) ⟨hx, hb, hml, hown, hts⟩ (c_X_digest_x l G hl9 p2 p3 z0 _ z1 hq2) (cwV 2 hts (x_gV t_554 t_555 t_556 t_1 t_557) rfl rfl rfl (by decide +kernel) ⟨Nat.le_of_ble_eq_true rfl, Nat.le_of_ble_eq_true rfl⟩) ⟨x_blind _ _ _, va_recv hK hP (ci := 0) (q0 := 0) rfl (x_lk_X G _), fun U hU hW => ⟨rfl, x_pw hP hD hK hG hS hz hU hW⟩⟩ rfl hl.1 rfl (lv_room (Nat.le_of_ble_eq_true rfl)) d_L_digest_5 ⟨Nat.le_of_ble_eq_true rfl, Nat.le_of_ble_eq_true rfl⟩ hz hS (fun q ce H locs hP hD hS hce hcv hcl => e_catch hown [⟨0, 10, 13, 13⟩] ⟨0, 10, 17, 23⟩ [] hTab (List.forall_mem_cons.mpr ⟨⟨by decide, "java/lang/IllegalStateException", hts _ t_328, hG.2.1.2 _ (by decide) _ (by decide) (by decide)⟩, (fun w h => absurd h List.not_mem_nil)⟩) (by decide) (by decide) (hts _ t_448) (va_Nw.use rfl (hG.2.1.1 _ (by decide))) hce hcv hcl ?_)
      refine lv_astore (lv' := [(4, .ref q), (0, .ref (x_ad G 0)), (1, .int p2), (2, .int p3), (3, .ref (x_ad G 110))]) hx hb d_L_digest_17 hl (by decide) rfl (fun ls hl => ?_)
      refine lv_iconst (v := (2 : Int32)) hx hb d_L_digest_19 (by decide) ?_
      obtain ⟨rfl, rfl⟩ := x_ret hf
      exact W.iret (v := (2 : Int32)) hx hb hr (fun t ht hW => ⟨⟨_, _, rfl, ⟨rfl, rfl⟩, x_pw hP hD hK hG hS hz ht hW⟩, hS.F ht⟩) hS.2.2 d_L_digest_20
    have hf := x_br_f hf hE
    cases hf
  refine va_calli (va_runV (As := [.int p2, .int p3]) (rest := [.int (0 : Int32), .ref (x_ad G 110)]) ⟨hx, hb, hml, hown, hts⟩ (c_X_digest l G p2 p3 z0 r1 z1 hq2) (cwV 2 hts (x_gV t_554 t_555 t_556 t_1 t_557) rfl rfl rfl (by decide +kernel) ⟨Nat.le_of_ble_eq_true rfl, Nat.le_of_ble_eq_true rfl⟩) ⟨x_blind _ _ _, va_recv hK hP (ci := 0) (q0 := 0) rfl (x_lk_X G _), fun U hU hW => ⟨rfl, x_pw hP hD hK hG hS hz hU hW⟩⟩ rfl rfl hl.1 rfl (lv_room (Nat.le_of_ble_eq_true rfl)) d_L_digest_5 ⟨Nat.le_of_ble_eq_true rfl, Nat.le_of_ble_eq_true rfl⟩) hS (fun q _ h => h) (fun q h => h) (fun ra u t H locs ht hvm hw hB _ _ hS => ?_)
  obtain ⟨rfl, rfl⟩ := hw
  obtain ⟨hP, hD⟩ := x_back hB ht
  refine lv_i2l (v := (r1).toInt64) hx hb d_L_digest_8 rfl ?_
  obtain ⟨hin3, hf⟩ := x_ck_some hf
  refine va_last hx hb hK hP hD hS 110 4 (x_lk_O G _) rfl hin3 d_L_digest_9 (fun H locs hP hD hS => ?_)
  rw [x_st_O G _] at hP hD
  refine lv_goto (tgt := 21) hx hb d_L_digest_10 (by decide) ?_
  refine lv_iconst (v := (0 : Int32)) hx hb d_L_digest_21 (by decide) ?_
  obtain ⟨rfl, rfl⟩ := x_ret hf
  refine W.widen (k := 1) (n := 6) (Nat.le_of_ble_eq_true rfl) (Nat.le_of_ble_eq_true rfl) ?_
  exact W.iret (v := (0 : Int32)) hx hb hr (fun t ht hW => ⟨⟨_, _, rfl, ⟨rfl, rfl⟩, x_pw hP hD hK hG hS hz ht hW⟩, hS.F ht⟩) hS.2.2 d_L_digest_22
abbrev rm_L_print : Room := { frames := 8, cells := 1, slots := 6, locals := 124 }
set_option maxHeartbeats 4000000 in
set_option maxRecDepth 100000 in
theorem c_L_print (l : Launch) (G : x_G) (hl9 : l.stackTraces = false) (p2 : Int32) (z0 : x_St) (r : Int32) (zo : x_St) (hf : f_L_print (x_n G) p2 z0 = some (r, zo)) : Met l (⟨"ContentLibraryLaw", "print", "(LContentLibrary;I[J)I"⟩ : MethodName) (x_wsW (⟨"ContentLibraryLaw", "print", "(LContentLibrary;I[J)I"⟩ : MethodName) method_7_code 4 (some .int) [(0, 8, 11, 13), (0, 8, 14, 23)]) rm_L_print (va_Pc [.ref (x_ad G 0), .int p2, .ref (x_ad G 110)] (x_PW G z0)) (va_Qi (fun a u => r = a ∧ zo = u) (x_PW G) (x_A G)) 1 6 (x_A G) := by
  refine va_MetW (hh := [(0, 8, 11, 13), (0, 8, 14, 23)]) (cc := method_7_code) (maxL := 4) (ret := (some .int)) (by decide) rfl ?_
  intro p e s m args below meth c s₁ B hml hv
  obtain ⟨rfl, hz, hP, hD, hK, hG⟩ := hv
  have hTab := e_table B (atoms_spec (ws := (x_wsW (⟨"ContentLibraryLaw", "print", "(LContentLibrary;I[J)I"⟩ : MethodName) method_7_code 4 (some .int) [(0, 8, 11, 13), (0, 8, 14, 23)])) B.pre _ List.mem_cons_self)
  obtain ⟨hx, hb, hr, hml, hown, hts, hlocks, hz, hK, hG⟩ : x_Ctx G p s m _ meth c method_7_code "ContentLibraryLaw" 4 (some .int) := ⟨B.exec, B.bytes, B.returns, hml, findClass_of_methodNamed B.named, fun w h => atoms_spec (ws := (x_wsW (⟨"ContentLibraryLaw", "print", "(LContentLibrary;I[J)I"⟩ : MethodName) method_7_code 4 (some .int) [(0, 8, 11, 13), (0, 8, 14, 23)])) B.pre w (List.mem_cons_of_mem _ h), B.notSynchronized, hz, hK, hG⟩
  have hS : va_S (x_A G) s.heap s.heap [] := va_S.rf
  have hl := lv_entry ([.ref (x_ad G 0), .int p2, .ref (x_ad G 110)]) (n := 4) (Nat.le_of_ble_eq_true rfl)
  rw [lg_entry_eq]
  generalize (lg_sl ([.ref (x_ad G 0), .int p2, .ref (x_ad G 110)]) ++ List.replicate (4 - (lg_sl ([.ref (x_ad G 0), .int p2, .ref (x_ad G 110)])).length) Slot.unset).toArray = ls at hl ⊢
  have hl : lv_has ls 4 [(0, .ref (x_ad G 0)), (1, .int p2), (2, .ref (x_ad G 110))] := hl
  rw [f_L_print] at hf
  refine lv_aload_n hx hb d_L_print_0 rfl (lv_at hl 2 rfl) ?_
  refine lv_iconst (v := (0 : Int32)) hx hb d_L_print_1 (by decide) ?_
  refine lv_aload_n hx hb d_L_print_2 rfl (lv_at hl 0 rfl) ?_
  refine lv_iload_n hx hb d_L_print_3 rfl (lv_at hl 1 rfl) ?_
  rcases x_try_some hf with ⟨E, z1, hq2, hf⟩ | ⟨r1, z1, hq2, hf⟩
  · by_cases hE : E = "java/lang/IllegalStateException"
    · subst hE
      have hf := x_br_t hf rfl
      refine e_callV (As := [.int p2]) (rest := [.int (0 : Int32), .ref (x_ad G 110)]) ⟨hx, hb, hml, hown, hts⟩ (c_X_print_x l G hl9 p2 z0 _ z1 hq2) (cwV 1 hts (x_gV t_567 t_568 t_569 t_1 t_570) rfl rfl rfl (by decide +kernel) ⟨Nat.le_of_ble_eq_true rfl, Nat.le_of_ble_eq_true rfl⟩) ⟨x_blind _ _ _, va_recv hK hP (ci := 0) (q0 := 0) rfl (x_lk_X G _), fun U hU hW => ⟨rfl, x_pw hP hD hK hG hS hz hU hW⟩⟩ rfl hl.1 rfl (lv_room (Nat.le_of_ble_eq_true rfl)) d_L_print_4 ⟨Nat.le_of_ble_eq_true rfl, Nat.le_of_ble_eq_true rfl⟩ hz hS (fun q ce H locs hP hD hS hce hcv hcl => e_catch hown [] ⟨0, 8, 11, 13⟩ [⟨0, 8, 14, 23⟩] hTab (fun w h => absurd h List.not_mem_nil) (by decide) (by decide) (hts _ t_328) (va_Nw.use rfl (hG.2.1.1 _ (by decide))) hce hcv hcl ?_)
      refine lv_astore_n (lv' := [(3, .ref q), (0, .ref (x_ad G 0)), (1, .int p2), (2, .ref (x_ad G 110))]) hx hb d_L_print_11 rfl hl (by decide) rfl (fun ls hl => ?_)
      refine lv_iconst (v := (1 : Int32)) hx hb d_L_print_12 (by decide) ?_
      obtain ⟨rfl, rfl⟩ := x_ret hf
      exact W.iret (v := (1 : Int32)) hx hb hr (fun t ht hW => ⟨⟨_, _, rfl, ⟨rfl, rfl⟩, x_pw hP hD hK hG hS hz ht hW⟩, hS.F ht⟩) hS.2.2 d_L_print_13
    have hf := x_br_f hf hE
    by_cases hE : E = "java/lang/IndexOutOfBoundsException"
    · subst hE
      have hf := x_br_t hf rfl
      refine e_callV (As := [.int p2]) (rest := [.int (0 : Int32), .ref (x_ad G 110)]) ⟨hx, hb, hml, hown, hts⟩ (c_X_print_x l G hl9 p2 z0 _ z1 hq2) (cwV 1 hts (x_gV t_567 t_568 t_569 t_1 t_570) rfl rfl rfl (by decide +kernel) ⟨Nat.le_of_ble_eq_true rfl, Nat.le_of_ble_eq_true rfl⟩) ⟨x_blind _ _ _, va_recv hK hP (ci := 0) (q0 := 0) rfl (x_lk_X G _), fun U hU hW => ⟨rfl, x_pw hP hD hK hG hS hz hU hW⟩⟩ rfl hl.1 rfl (lv_room (Nat.le_of_ble_eq_true rfl)) d_L_print_4 ⟨Nat.le_of_ble_eq_true rfl, Nat.le_of_ble_eq_true rfl⟩ hz hS (fun q ce H locs hP hD hS hce hcv hcl => e_catch hown [⟨0, 8, 11, 13⟩] ⟨0, 8, 14, 23⟩ [] hTab (List.forall_mem_cons.mpr ⟨⟨by decide, "java/lang/IllegalStateException", hts _ t_328, hG.2.1.2 _ (by decide) _ (by decide) (by decide)⟩, (fun w h => absurd h List.not_mem_nil)⟩) (by decide) (by decide) (hts _ t_448) (va_Nw.use rfl (hG.2.1.1 _ (by decide))) hce hcv hcl ?_)
      refine lv_astore_n (lv' := [(3, .ref q), (0, .ref (x_ad G 0)), (1, .int p2), (2, .ref (x_ad G 110))]) hx hb d_L_print_14 rfl hl (by decide) rfl (fun ls hl => ?_)
      refine lv_iconst (v := (2 : Int32)) hx hb d_L_print_15 (by decide) ?_
      obtain ⟨rfl, rfl⟩ := x_ret hf
      exact W.iret (v := (2 : Int32)) hx hb hr (fun t ht hW => ⟨⟨_, _, rfl, ⟨rfl, rfl⟩, x_pw hP hD hK hG hS hz ht hW⟩, hS.F ht⟩) hS.2.2 d_L_print_16
    have hf := x_br_f hf hE
    cases hf
  refine va_calll (va_runV (As := [.int p2]) (rest := [.int (0 : Int32), .ref (x_ad G 110)]) ⟨hx, hb, hml, hown, hts⟩ (c_X_print l G p2 z0 r1 z1 hq2) (cwV 1 hts (x_gV t_567 t_568 t_569 t_1 t_570) rfl rfl rfl (by decide +kernel) ⟨Nat.le_of_ble_eq_true rfl, Nat.le_of_ble_eq_true rfl⟩) ⟨x_blind _ _ _, va_recv hK hP (ci := 0) (q0 := 0) rfl (x_lk_X G _), fun U hU hW => ⟨rfl, x_pw hP hD hK hG hS hz hU hW⟩⟩ rfl rfl hl.1 rfl (lv_room (Nat.le_of_ble_eq_true rfl)) d_L_print_4 ⟨Nat.le_of_ble_eq_true rfl, Nat.le_of_ble_eq_true rfl⟩) hS (fun q _ h => h) (fun q h => h) (fun ra u t H locs ht hvm hw hB _ _ hS => ?_)
  obtain ⟨rfl, rfl⟩ := hw
  obtain ⟨hP, hD⟩ := x_back hB ht
  obtain ⟨hin3, hf⟩ := x_ck_some hf
  refine va_last hx hb hK hP hD hS 110 4 (x_lk_O G _) rfl hin3 d_L_print_7 (fun H locs hP hD hS => ?_)
  rw [x_st_O G _] at hP hD
  refine lv_goto (tgt := 17) hx hb d_L_print_8 (by decide) ?_
  refine lv_iconst (v := (0 : Int32)) hx hb d_L_print_17 (by decide) ?_
  obtain ⟨rfl, rfl⟩ := x_ret hf
  refine W.widen (k := 1) (n := 6) (Nat.le_of_ble_eq_true rfl) (Nat.le_of_ble_eq_true rfl) ?_
  exact W.iret (v := (0 : Int32)) hx hb hr (fun t ht hW => ⟨⟨_, _, rfl, ⟨rfl, rfl⟩, x_pw hP hD hK hG hS hz ht hW⟩, hS.F ht⟩) hS.2.2 d_L_print_18
abbrev rm_L_sample : Room := { frames := 8, cells := 1, slots := 6, locals := 127 }
set_option maxHeartbeats 4000000 in
set_option maxRecDepth 100000 in
theorem c_L_sample (l : Launch) (G : x_G) (hl9 : l.stackTraces = false) (p2 : Int32) (p3 : Int32) (p4 : Int32) (z0 : x_St) (r : Int32) (zo : x_St) (hf : f_L_sample (x_n G) p2 p3 p4 z0 = some (r, zo)) : Met l (⟨"ContentLibraryLaw", "sample", "(LContentLibrary;III[J)I"⟩ : MethodName) (x_wsW (⟨"ContentLibraryLaw", "sample", "(LContentLibrary;III[J)I"⟩ : MethodName) method_8_code 6 (some .int) [(0, 12, 15, 13), (0, 12, 19, 23)]) rm_L_sample (va_Pc [.ref (x_ad G 0), .int p2, .int p3, .int p4, .ref (x_ad G 110)] (x_PW G z0)) (va_Qi (fun a u => r = a ∧ zo = u) (x_PW G) (x_A G)) 1 6 (x_A G) := by
  refine va_MetW (hh := [(0, 12, 15, 13), (0, 12, 19, 23)]) (cc := method_8_code) (maxL := 6) (ret := (some .int)) (by decide) rfl ?_
  intro p e s m args below meth c s₁ B hml hv
  obtain ⟨rfl, hz, hP, hD, hK, hG⟩ := hv
  have hTab := e_table B (atoms_spec (ws := (x_wsW (⟨"ContentLibraryLaw", "sample", "(LContentLibrary;III[J)I"⟩ : MethodName) method_8_code 6 (some .int) [(0, 12, 15, 13), (0, 12, 19, 23)])) B.pre _ List.mem_cons_self)
  obtain ⟨hx, hb, hr, hml, hown, hts, hlocks, hz, hK, hG⟩ : x_Ctx G p s m _ meth c method_8_code "ContentLibraryLaw" 6 (some .int) := ⟨B.exec, B.bytes, B.returns, hml, findClass_of_methodNamed B.named, fun w h => atoms_spec (ws := (x_wsW (⟨"ContentLibraryLaw", "sample", "(LContentLibrary;III[J)I"⟩ : MethodName) method_8_code 6 (some .int) [(0, 12, 15, 13), (0, 12, 19, 23)])) B.pre w (List.mem_cons_of_mem _ h), B.notSynchronized, hz, hK, hG⟩
  have hS : va_S (x_A G) s.heap s.heap [] := va_S.rf
  have hl := lv_entry ([.ref (x_ad G 0), .int p2, .int p3, .int p4, .ref (x_ad G 110)]) (n := 6) (Nat.le_of_ble_eq_true rfl)
  rw [lg_entry_eq]
  generalize (lg_sl ([.ref (x_ad G 0), .int p2, .int p3, .int p4, .ref (x_ad G 110)]) ++ List.replicate (6 - (lg_sl ([.ref (x_ad G 0), .int p2, .int p3, .int p4, .ref (x_ad G 110)])).length) Slot.unset).toArray = ls at hl ⊢
  have hl : lv_has ls 6 [(0, .ref (x_ad G 0)), (1, .int p2), (2, .int p3), (3, .int p4), (4, .ref (x_ad G 110))] := hl
  rw [f_L_sample] at hf
  refine lv_aload hx hb d_L_sample_0 (lv_at hl 4 rfl) ?_
  refine lv_iconst (v := (0 : Int32)) hx hb d_L_sample_2 (by decide) ?_
  refine lv_aload_n hx hb d_L_sample_3 rfl (lv_at hl 0 rfl) ?_
  refine lv_iload_n hx hb d_L_sample_4 rfl (lv_at hl 1 rfl) ?_
  refine lv_iload_n hx hb d_L_sample_5 rfl (lv_at hl 2 rfl) ?_
  refine lv_iload_n hx hb d_L_sample_6 rfl (lv_at hl 3 rfl) ?_
  rcases x_try_some hf with ⟨E, z1, hq2, hf⟩ | ⟨r1, z1, hq2, hf⟩
  · by_cases hE : E = "java/lang/IllegalStateException"
    · subst hE
      have hf := x_br_t hf rfl
      refine e_callV (As := [.int p2, .int p3, .int p4]) (rest := [.int (0 : Int32), .ref (x_ad G 110)]) ⟨hx, hb, hml, hown, hts⟩ (c_X_sample_x l G hl9 p2 p3 p4 z0 _ z1 hq2) (cwV 3 hts (x_gV t_574 t_575 t_576 t_1 t_577) rfl rfl rfl (by decide +kernel) ⟨Nat.le_of_ble_eq_true rfl, Nat.le_of_ble_eq_true rfl⟩) ⟨x_blind _ _ _, va_recv hK hP (ci := 0) (q0 := 0) rfl (x_lk_X G _), fun U hU hW => ⟨rfl, x_pw hP hD hK hG hS hz hU hW⟩⟩ rfl hl.1 rfl (lv_room (Nat.le_of_ble_eq_true rfl)) d_L_sample_7 ⟨Nat.le_of_ble_eq_true rfl, Nat.le_of_ble_eq_true rfl⟩ hz hS (fun q ce H locs hP hD hS hce hcv hcl => e_catch hown [] ⟨0, 12, 15, 13⟩ [⟨0, 12, 19, 23⟩] hTab (fun w h => absurd h List.not_mem_nil) (by decide) (by decide) (hts _ t_328) (va_Nw.use rfl (hG.2.1.1 _ (by decide))) hce hcv hcl ?_)
      refine lv_astore (lv' := [(5, .ref q), (0, .ref (x_ad G 0)), (1, .int p2), (2, .int p3), (3, .int p4), (4, .ref (x_ad G 110))]) hx hb d_L_sample_15 hl (by decide) rfl (fun ls hl => ?_)
      refine lv_iconst (v := (1 : Int32)) hx hb d_L_sample_17 (by decide) ?_
      obtain ⟨rfl, rfl⟩ := x_ret hf
      exact W.iret (v := (1 : Int32)) hx hb hr (fun t ht hW => ⟨⟨_, _, rfl, ⟨rfl, rfl⟩, x_pw hP hD hK hG hS hz ht hW⟩, hS.F ht⟩) hS.2.2 d_L_sample_18
    have hf := x_br_f hf hE
    by_cases hE : E = "java/lang/IndexOutOfBoundsException"
    · subst hE
      have hf := x_br_t hf rfl
      refine e_callV (As := [.int p2, .int p3, .int p4]) (rest := [.int (0 : Int32), .ref (x_ad G 110)]) ⟨hx, hb, hml, hown, hts⟩ (c_X_sample_x l G hl9 p2 p3 p4 z0 _ z1 hq2) (cwV 3 hts (x_gV t_574 t_575 t_576 t_1 t_577) rfl rfl rfl (by decide +kernel) ⟨Nat.le_of_ble_eq_true rfl, Nat.le_of_ble_eq_true rfl⟩) ⟨x_blind _ _ _, va_recv hK hP (ci := 0) (q0 := 0) rfl (x_lk_X G _), fun U hU hW => ⟨rfl, x_pw hP hD hK hG hS hz hU hW⟩⟩ rfl hl.1 rfl (lv_room (Nat.le_of_ble_eq_true rfl)) d_L_sample_7 ⟨Nat.le_of_ble_eq_true rfl, Nat.le_of_ble_eq_true rfl⟩ hz hS (fun q ce H locs hP hD hS hce hcv hcl => e_catch hown [⟨0, 12, 15, 13⟩] ⟨0, 12, 19, 23⟩ [] hTab (List.forall_mem_cons.mpr ⟨⟨by decide, "java/lang/IllegalStateException", hts _ t_328, hG.2.1.2 _ (by decide) _ (by decide) (by decide)⟩, (fun w h => absurd h List.not_mem_nil)⟩) (by decide) (by decide) (hts _ t_448) (va_Nw.use rfl (hG.2.1.1 _ (by decide))) hce hcv hcl ?_)
      refine lv_astore (lv' := [(5, .ref q), (0, .ref (x_ad G 0)), (1, .int p2), (2, .int p3), (3, .int p4), (4, .ref (x_ad G 110))]) hx hb d_L_sample_19 hl (by decide) rfl (fun ls hl => ?_)
      refine lv_iconst (v := (2 : Int32)) hx hb d_L_sample_21 (by decide) ?_
      obtain ⟨rfl, rfl⟩ := x_ret hf
      exact W.iret (v := (2 : Int32)) hx hb hr (fun t ht hW => ⟨⟨_, _, rfl, ⟨rfl, rfl⟩, x_pw hP hD hK hG hS hz ht hW⟩, hS.F ht⟩) hS.2.2 d_L_sample_22
    have hf := x_br_f hf hE
    cases hf
  refine va_calli (va_runV (As := [.int p2, .int p3, .int p4]) (rest := [.int (0 : Int32), .ref (x_ad G 110)]) ⟨hx, hb, hml, hown, hts⟩ (c_X_sample l G p2 p3 p4 z0 r1 z1 hq2) (cwV 3 hts (x_gV t_574 t_575 t_576 t_1 t_577) rfl rfl rfl (by decide +kernel) ⟨Nat.le_of_ble_eq_true rfl, Nat.le_of_ble_eq_true rfl⟩) ⟨x_blind _ _ _, va_recv hK hP (ci := 0) (q0 := 0) rfl (x_lk_X G _), fun U hU hW => ⟨rfl, x_pw hP hD hK hG hS hz hU hW⟩⟩ rfl rfl hl.1 rfl (lv_room (Nat.le_of_ble_eq_true rfl)) d_L_sample_7 ⟨Nat.le_of_ble_eq_true rfl, Nat.le_of_ble_eq_true rfl⟩) hS (fun q _ h => h) (fun q h => h) (fun ra u t H locs ht hvm hw hB _ _ hS => ?_)
  obtain ⟨rfl, rfl⟩ := hw
  obtain ⟨hP, hD⟩ := x_back hB ht
  refine lv_i2l (v := (r1).toInt64) hx hb d_L_sample_10 rfl ?_
  obtain ⟨hin3, hf⟩ := x_ck_some hf
  refine va_last hx hb hK hP hD hS 110 4 (x_lk_O G _) rfl hin3 d_L_sample_11 (fun H locs hP hD hS => ?_)
  rw [x_st_O G _] at hP hD
  refine lv_goto (tgt := 23) hx hb d_L_sample_12 (by decide) ?_
  refine lv_iconst (v := (0 : Int32)) hx hb d_L_sample_23 (by decide) ?_
  obtain ⟨rfl, rfl⟩ := x_ret hf
  refine W.widen (k := 1) (n := 6) (Nat.le_of_ble_eq_true rfl) (Nat.le_of_ble_eq_true rfl) ?_
  exact W.iret (v := (0 : Int32)) hx hb hr (fun t ht hW => ⟨⟨_, _, rfl, ⟨rfl, rfl⟩, x_pw hP hD hK hG hS hz ht hW⟩, hS.F ht⟩) hS.2.2 d_L_sample_24
abbrev rm_L_near : Room := { frames := 8, cells := 1, slots := 6, locals := 130 }
set_option maxHeartbeats 4000000 in
set_option maxRecDepth 100000 in
theorem c_L_near (l : Launch) (G : x_G) (hl9 : l.stackTraces = false) (p2 : Int32) (p3 : Int32) (z0 : x_St) (r : Int32) (zo : x_St) (hf : f_L_near (x_n G) p2 p3 z0 = some (r, zo)) : Met l (⟨"ContentLibraryLaw", "near", "(LContentLibrary;II[J)I"⟩ : MethodName) (x_wsW (⟨"ContentLibraryLaw", "near", "(LContentLibrary;II[J)I"⟩ : MethodName) method_9_code 5 (some .int) [(0, 10, 13, 13), (0, 10, 17, 23), (0, 10, 21, 15)]) rm_L_near (va_Pc [.ref (x_ad G 0), .int p2, .int p3, .ref (x_ad G 110)] (x_PW G z0)) (va_Qi (fun a u => r = a ∧ zo = u) (x_PW G) (x_A G)) 1 6 (x_A G) := by
  refine va_MetW (hh := [(0, 10, 13, 13), (0, 10, 17, 23), (0, 10, 21, 15)]) (cc := method_9_code) (maxL := 5) (ret := (some .int)) (by decide) rfl ?_
  intro p e s m args below meth c s₁ B hml hv
  obtain ⟨rfl, hz, hP, hD, hK, hG⟩ := hv
  have hTab := e_table B (atoms_spec (ws := (x_wsW (⟨"ContentLibraryLaw", "near", "(LContentLibrary;II[J)I"⟩ : MethodName) method_9_code 5 (some .int) [(0, 10, 13, 13), (0, 10, 17, 23), (0, 10, 21, 15)])) B.pre _ List.mem_cons_self)
  obtain ⟨hx, hb, hr, hml, hown, hts, hlocks, hz, hK, hG⟩ : x_Ctx G p s m _ meth c method_9_code "ContentLibraryLaw" 5 (some .int) := ⟨B.exec, B.bytes, B.returns, hml, findClass_of_methodNamed B.named, fun w h => atoms_spec (ws := (x_wsW (⟨"ContentLibraryLaw", "near", "(LContentLibrary;II[J)I"⟩ : MethodName) method_9_code 5 (some .int) [(0, 10, 13, 13), (0, 10, 17, 23), (0, 10, 21, 15)])) B.pre w (List.mem_cons_of_mem _ h), B.notSynchronized, hz, hK, hG⟩
  have hS : va_S (x_A G) s.heap s.heap [] := va_S.rf
  have hl := lv_entry ([.ref (x_ad G 0), .int p2, .int p3, .ref (x_ad G 110)]) (n := 5) (Nat.le_of_ble_eq_true rfl)
  rw [lg_entry_eq]
  generalize (lg_sl ([.ref (x_ad G 0), .int p2, .int p3, .ref (x_ad G 110)]) ++ List.replicate (5 - (lg_sl ([.ref (x_ad G 0), .int p2, .int p3, .ref (x_ad G 110)])).length) Slot.unset).toArray = ls at hl ⊢
  have hl : lv_has ls 5 [(0, .ref (x_ad G 0)), (1, .int p2), (2, .int p3), (3, .ref (x_ad G 110))] := hl
  rw [f_L_near] at hf
  refine lv_aload_n hx hb d_L_near_0 rfl (lv_at hl 3 rfl) ?_
  refine lv_iconst (v := (0 : Int32)) hx hb d_L_near_1 (by decide) ?_
  refine lv_aload_n hx hb d_L_near_2 rfl (lv_at hl 0 rfl) ?_
  refine lv_iload_n hx hb d_L_near_3 rfl (lv_at hl 1 rfl) ?_
  refine lv_iload_n hx hb d_L_near_4 rfl (lv_at hl 2 rfl) ?_
  rcases x_try_some hf with ⟨E, z1, hq2, hf⟩ | ⟨r1, z1, hq2, hf⟩
  · by_cases hE : E = "java/lang/IllegalStateException"
    · subst hE
      have hf := x_br_t hf rfl
      refine e_callV (As := [.int p2, .int p3]) (rest := [.int (0 : Int32), .ref (x_ad G 110)]) ⟨hx, hb, hml, hown, hts⟩ (c_X_near_x l G hl9 p2 p3 z0 _ z1 hq2) (cwV 2 hts (x_gV t_585 t_586 t_587 t_1 t_588) rfl rfl rfl (by decide +kernel) ⟨Nat.le_of_ble_eq_true rfl, Nat.le_of_ble_eq_true rfl⟩) ⟨x_blind _ _ _, va_recv hK hP (ci := 0) (q0 := 0) rfl (x_lk_X G _), fun U hU hW => ⟨rfl, x_pw hP hD hK hG hS hz hU hW⟩⟩ rfl hl.1 rfl (lv_room (Nat.le_of_ble_eq_true rfl)) d_L_near_5 ⟨Nat.le_of_ble_eq_true rfl, Nat.le_of_ble_eq_true rfl⟩ hz hS (fun q ce H locs hP hD hS hce hcv hcl => e_catch hown [] ⟨0, 10, 13, 13⟩ [⟨0, 10, 17, 23⟩, ⟨0, 10, 21, 15⟩] hTab (fun w h => absurd h List.not_mem_nil) (by decide) (by decide) (hts _ t_328) (va_Nw.use rfl (hG.2.1.1 _ (by decide))) hce hcv hcl ?_)
      refine lv_astore (lv' := [(4, .ref q), (0, .ref (x_ad G 0)), (1, .int p2), (2, .int p3), (3, .ref (x_ad G 110))]) hx hb d_L_near_13 hl (by decide) rfl (fun ls hl => ?_)
      refine lv_iconst (v := (1 : Int32)) hx hb d_L_near_15 (by decide) ?_
      obtain ⟨rfl, rfl⟩ := x_ret hf
      exact W.iret (v := (1 : Int32)) hx hb hr (fun t ht hW => ⟨⟨_, _, rfl, ⟨rfl, rfl⟩, x_pw hP hD hK hG hS hz ht hW⟩, hS.F ht⟩) hS.2.2 d_L_near_16
    have hf := x_br_f hf hE
    by_cases hE : E = "java/lang/IndexOutOfBoundsException"
    · subst hE
      have hf := x_br_t hf rfl
      refine e_callV (As := [.int p2, .int p3]) (rest := [.int (0 : Int32), .ref (x_ad G 110)]) ⟨hx, hb, hml, hown, hts⟩ (c_X_near_x l G hl9 p2 p3 z0 _ z1 hq2) (cwV 2 hts (x_gV t_585 t_586 t_587 t_1 t_588) rfl rfl rfl (by decide +kernel) ⟨Nat.le_of_ble_eq_true rfl, Nat.le_of_ble_eq_true rfl⟩) ⟨x_blind _ _ _, va_recv hK hP (ci := 0) (q0 := 0) rfl (x_lk_X G _), fun U hU hW => ⟨rfl, x_pw hP hD hK hG hS hz hU hW⟩⟩ rfl hl.1 rfl (lv_room (Nat.le_of_ble_eq_true rfl)) d_L_near_5 ⟨Nat.le_of_ble_eq_true rfl, Nat.le_of_ble_eq_true rfl⟩ hz hS (fun q ce H locs hP hD hS hce hcv hcl => e_catch hown [⟨0, 10, 13, 13⟩] ⟨0, 10, 17, 23⟩ [⟨0, 10, 21, 15⟩] hTab (List.forall_mem_cons.mpr ⟨⟨by decide, "java/lang/IllegalStateException", hts _ t_328, hG.2.1.2 _ (by decide) _ (by decide) (by decide)⟩, (fun w h => absurd h List.not_mem_nil)⟩) (by decide) (by decide) (hts _ t_448) (va_Nw.use rfl (hG.2.1.1 _ (by decide))) hce hcv hcl ?_)
      refine lv_astore (lv' := [(4, .ref q), (0, .ref (x_ad G 0)), (1, .int p2), (2, .int p3), (3, .ref (x_ad G 110))]) hx hb d_L_near_17 hl (by decide) rfl (fun ls hl => ?_)
      refine lv_iconst (v := (2 : Int32)) hx hb d_L_near_19 (by decide) ?_
      obtain ⟨rfl, rfl⟩ := x_ret hf
      exact W.iret (v := (2 : Int32)) hx hb hr (fun t ht hW => ⟨⟨_, _, rfl, ⟨rfl, rfl⟩, x_pw hP hD hK hG hS hz ht hW⟩, hS.F ht⟩) hS.2.2 d_L_near_20
    have hf := x_br_f hf hE
    by_cases hE : E = "java/lang/IllegalArgumentException"
    · subst hE
      have hf := x_br_t hf rfl
      refine e_callV (As := [.int p2, .int p3]) (rest := [.int (0 : Int32), .ref (x_ad G 110)]) ⟨hx, hb, hml, hown, hts⟩ (c_X_near_x l G hl9 p2 p3 z0 _ z1 hq2) (cwV 2 hts (x_gV t_585 t_586 t_587 t_1 t_588) rfl rfl rfl (by decide +kernel) ⟨Nat.le_of_ble_eq_true rfl, Nat.le_of_ble_eq_true rfl⟩) ⟨x_blind _ _ _, va_recv hK hP (ci := 0) (q0 := 0) rfl (x_lk_X G _), fun U hU hW => ⟨rfl, x_pw hP hD hK hG hS hz hU hW⟩⟩ rfl hl.1 rfl (lv_room (Nat.le_of_ble_eq_true rfl)) d_L_near_5 ⟨Nat.le_of_ble_eq_true rfl, Nat.le_of_ble_eq_true rfl⟩ hz hS (fun q ce H locs hP hD hS hce hcv hcl => e_catch hown [⟨0, 10, 13, 13⟩, ⟨0, 10, 17, 23⟩] ⟨0, 10, 21, 15⟩ [] hTab (List.forall_mem_cons.mpr ⟨⟨by decide, "java/lang/IllegalStateException", hts _ t_328, hG.2.1.2 _ (by decide) _ (by decide) (by decide)⟩, (List.forall_mem_cons.mpr ⟨⟨by decide, "java/lang/IndexOutOfBoundsException", hts _ t_448, hG.2.1.2 _ (by decide) _ (by decide) (by decide)⟩, (fun w h => absurd h List.not_mem_nil)⟩)⟩) (by decide) (by decide) (hts _ t_329) (va_Nw.use rfl (hG.2.1.1 _ (by decide))) hce hcv hcl ?_)
      refine lv_astore (lv' := [(4, .ref q), (0, .ref (x_ad G 0)), (1, .int p2), (2, .int p3), (3, .ref (x_ad G 110))]) hx hb d_L_near_21 hl (by decide) rfl (fun ls hl => ?_)
      refine lv_iconst (v := (3 : Int32)) hx hb d_L_near_23 (by decide) ?_
      obtain ⟨rfl, rfl⟩ := x_ret hf
      exact W.iret (v := (3 : Int32)) hx hb hr (fun t ht hW => ⟨⟨_, _, rfl, ⟨rfl, rfl⟩, x_pw hP hD hK hG hS hz ht hW⟩, hS.F ht⟩) hS.2.2 d_L_near_24
    have hf := x_br_f hf hE
    cases hf
  refine va_calli (va_runV (As := [.int p2, .int p3]) (rest := [.int (0 : Int32), .ref (x_ad G 110)]) ⟨hx, hb, hml, hown, hts⟩ (c_X_near l G p2 p3 z0 r1 z1 hq2) (cwV 2 hts (x_gV t_585 t_586 t_587 t_1 t_588) rfl rfl rfl (by decide +kernel) ⟨Nat.le_of_ble_eq_true rfl, Nat.le_of_ble_eq_true rfl⟩) ⟨x_blind _ _ _, va_recv hK hP (ci := 0) (q0 := 0) rfl (x_lk_X G _), fun U hU hW => ⟨rfl, x_pw hP hD hK hG hS hz hU hW⟩⟩ rfl rfl hl.1 rfl (lv_room (Nat.le_of_ble_eq_true rfl)) d_L_near_5 ⟨Nat.le_of_ble_eq_true rfl, Nat.le_of_ble_eq_true rfl⟩) hS (fun q _ h => h) (fun q h => h) (fun ra u t H locs ht hvm hw hB _ _ hS => ?_)
  obtain ⟨rfl, rfl⟩ := hw
  obtain ⟨hP, hD⟩ := x_back hB ht
  refine lv_i2l (v := (r1).toInt64) hx hb d_L_near_8 rfl ?_
  obtain ⟨hin3, hf⟩ := x_ck_some hf
  refine va_last hx hb hK hP hD hS 110 4 (x_lk_O G _) rfl hin3 d_L_near_9 (fun H locs hP hD hS => ?_)
  rw [x_st_O G _] at hP hD
  refine lv_goto (tgt := 25) hx hb d_L_near_10 (by decide) ?_
  refine lv_iconst (v := (0 : Int32)) hx hb d_L_near_25 (by decide) ?_
  obtain ⟨rfl, rfl⟩ := x_ret hf
  refine W.widen (k := 1) (n := 6) (Nat.le_of_ble_eq_true rfl) (Nat.le_of_ble_eq_true rfl) ?_
  exact W.iret (v := (0 : Int32)) hx hb hr (fun t ht hW => ⟨⟨_, _, rfl, ⟨rfl, rfl⟩, x_pw hP hD hK hG hS hz ht hW⟩, hS.F ht⟩) hS.2.2 d_L_near_26
abbrev rm_L_found : Room := { frames := 8, cells := 1, slots := 6, locals := 124 }
set_option maxHeartbeats 4000000 in
set_option maxRecDepth 100000 in
theorem c_L_found (l : Launch) (G : x_G) (hl9 : l.stackTraces = false) (p2 : Int32) (p3 : Int32) (z0 : x_St) (r : Int32) (zo : x_St) (hf : f_L_found (x_n G) p2 p3 z0 = some (r, zo)) : Met l (⟨"ContentLibraryLaw", "found", "(LContentLibrary;II[J)I"⟩ : MethodName) (x_wsW (⟨"ContentLibraryLaw", "found", "(LContentLibrary;II[J)I"⟩ : MethodName) method_10_code 5 (some .int) [(0, 10, 13, 13), (0, 10, 17, 23), (0, 10, 21, 15)]) rm_L_found (va_Pc [.ref (x_ad G 0), .int p2, .int p3, .ref (x_ad G 110)] (x_PW G z0)) (va_Qi (fun a u => r = a ∧ zo = u) (x_PW G) (x_A G)) 1 6 (x_A G) := by
  refine va_MetW (hh := [(0, 10, 13, 13), (0, 10, 17, 23), (0, 10, 21, 15)]) (cc := method_10_code) (maxL := 5) (ret := (some .int)) (by decide) rfl ?_
  intro p e s m args below meth c s₁ B hml hv
  obtain ⟨rfl, hz, hP, hD, hK, hG⟩ := hv
  have hTab := e_table B (atoms_spec (ws := (x_wsW (⟨"ContentLibraryLaw", "found", "(LContentLibrary;II[J)I"⟩ : MethodName) method_10_code 5 (some .int) [(0, 10, 13, 13), (0, 10, 17, 23), (0, 10, 21, 15)])) B.pre _ List.mem_cons_self)
  obtain ⟨hx, hb, hr, hml, hown, hts, hlocks, hz, hK, hG⟩ : x_Ctx G p s m _ meth c method_10_code "ContentLibraryLaw" 5 (some .int) := ⟨B.exec, B.bytes, B.returns, hml, findClass_of_methodNamed B.named, fun w h => atoms_spec (ws := (x_wsW (⟨"ContentLibraryLaw", "found", "(LContentLibrary;II[J)I"⟩ : MethodName) method_10_code 5 (some .int) [(0, 10, 13, 13), (0, 10, 17, 23), (0, 10, 21, 15)])) B.pre w (List.mem_cons_of_mem _ h), B.notSynchronized, hz, hK, hG⟩
  have hS : va_S (x_A G) s.heap s.heap [] := va_S.rf
  have hl := lv_entry ([.ref (x_ad G 0), .int p2, .int p3, .ref (x_ad G 110)]) (n := 5) (Nat.le_of_ble_eq_true rfl)
  rw [lg_entry_eq]
  generalize (lg_sl ([.ref (x_ad G 0), .int p2, .int p3, .ref (x_ad G 110)]) ++ List.replicate (5 - (lg_sl ([.ref (x_ad G 0), .int p2, .int p3, .ref (x_ad G 110)])).length) Slot.unset).toArray = ls at hl ⊢
  have hl : lv_has ls 5 [(0, .ref (x_ad G 0)), (1, .int p2), (2, .int p3), (3, .ref (x_ad G 110))] := hl
  rw [f_L_found] at hf
  refine lv_aload_n hx hb d_L_found_0 rfl (lv_at hl 3 rfl) ?_
  refine lv_iconst (v := (0 : Int32)) hx hb d_L_found_1 (by decide) ?_
  refine lv_aload_n hx hb d_L_found_2 rfl (lv_at hl 0 rfl) ?_
  refine lv_iload_n hx hb d_L_found_3 rfl (lv_at hl 1 rfl) ?_
  refine lv_iload_n hx hb d_L_found_4 rfl (lv_at hl 2 rfl) ?_
  rcases x_try_some hf with ⟨E, z1, hq2, hf⟩ | ⟨r1, z1, hq2, hf⟩
  · by_cases hE : E = "java/lang/IllegalStateException"
    · subst hE
      have hf := x_br_t hf rfl
      refine e_callV (As := [.int p2, .int p3]) (rest := [.int (0 : Int32), .ref (x_ad G 110)]) ⟨hx, hb, hml, hown, hts⟩ (c_X_found_x l G hl9 p2 p3 z0 _ z1 hq2) (cwV 2 hts (x_gV t_603 t_604 t_605 t_1 t_606) rfl rfl rfl (by decide +kernel) ⟨Nat.le_of_ble_eq_true rfl, Nat.le_of_ble_eq_true rfl⟩) ⟨x_blind _ _ _, va_recv hK hP (ci := 0) (q0 := 0) rfl (x_lk_X G _), fun U hU hW => ⟨rfl, x_pw hP hD hK hG hS hz hU hW⟩⟩ rfl hl.1 rfl (lv_room (Nat.le_of_ble_eq_true rfl)) d_L_found_5 ⟨Nat.le_of_ble_eq_true rfl, Nat.le_of_ble_eq_true rfl⟩ hz hS (fun q ce H locs hP hD hS hce hcv hcl => e_catch hown [] ⟨0, 10, 13, 13⟩ [⟨0, 10, 17, 23⟩, ⟨0, 10, 21, 15⟩] hTab (fun w h => absurd h List.not_mem_nil) (by decide) (by decide) (hts _ t_328) (va_Nw.use rfl (hG.2.1.1 _ (by decide))) hce hcv hcl ?_)
      refine lv_astore (lv' := [(4, .ref q), (0, .ref (x_ad G 0)), (1, .int p2), (2, .int p3), (3, .ref (x_ad G 110))]) hx hb d_L_found_13 hl (by decide) rfl (fun ls hl => ?_)
      refine lv_iconst (v := (1 : Int32)) hx hb d_L_found_15 (by decide) ?_
      obtain ⟨rfl, rfl⟩ := x_ret hf
      exact W.iret (v := (1 : Int32)) hx hb hr (fun t ht hW => ⟨⟨_, _, rfl, ⟨rfl, rfl⟩, x_pw hP hD hK hG hS hz ht hW⟩, hS.F ht⟩) hS.2.2 d_L_found_16
    have hf := x_br_f hf hE
    by_cases hE : E = "java/lang/IndexOutOfBoundsException"
    · subst hE
      have hf := x_br_t hf rfl
      refine e_callV (As := [.int p2, .int p3]) (rest := [.int (0 : Int32), .ref (x_ad G 110)]) ⟨hx, hb, hml, hown, hts⟩ (c_X_found_x l G hl9 p2 p3 z0 _ z1 hq2) (cwV 2 hts (x_gV t_603 t_604 t_605 t_1 t_606) rfl rfl rfl (by decide +kernel) ⟨Nat.le_of_ble_eq_true rfl, Nat.le_of_ble_eq_true rfl⟩) ⟨x_blind _ _ _, va_recv hK hP (ci := 0) (q0 := 0) rfl (x_lk_X G _), fun U hU hW => ⟨rfl, x_pw hP hD hK hG hS hz hU hW⟩⟩ rfl hl.1 rfl (lv_room (Nat.le_of_ble_eq_true rfl)) d_L_found_5 ⟨Nat.le_of_ble_eq_true rfl, Nat.le_of_ble_eq_true rfl⟩ hz hS (fun q ce H locs hP hD hS hce hcv hcl => e_catch hown [⟨0, 10, 13, 13⟩] ⟨0, 10, 17, 23⟩ [⟨0, 10, 21, 15⟩] hTab (List.forall_mem_cons.mpr ⟨⟨by decide, "java/lang/IllegalStateException", hts _ t_328, hG.2.1.2 _ (by decide) _ (by decide) (by decide)⟩, (fun w h => absurd h List.not_mem_nil)⟩) (by decide) (by decide) (hts _ t_448) (va_Nw.use rfl (hG.2.1.1 _ (by decide))) hce hcv hcl ?_)
      refine lv_astore (lv' := [(4, .ref q), (0, .ref (x_ad G 0)), (1, .int p2), (2, .int p3), (3, .ref (x_ad G 110))]) hx hb d_L_found_17 hl (by decide) rfl (fun ls hl => ?_)
      refine lv_iconst (v := (2 : Int32)) hx hb d_L_found_19 (by decide) ?_
      obtain ⟨rfl, rfl⟩ := x_ret hf
      exact W.iret (v := (2 : Int32)) hx hb hr (fun t ht hW => ⟨⟨_, _, rfl, ⟨rfl, rfl⟩, x_pw hP hD hK hG hS hz ht hW⟩, hS.F ht⟩) hS.2.2 d_L_found_20
    have hf := x_br_f hf hE
    by_cases hE : E = "java/lang/IllegalArgumentException"
    · subst hE
      have hf := x_br_t hf rfl
      refine e_callV (As := [.int p2, .int p3]) (rest := [.int (0 : Int32), .ref (x_ad G 110)]) ⟨hx, hb, hml, hown, hts⟩ (c_X_found_x l G hl9 p2 p3 z0 _ z1 hq2) (cwV 2 hts (x_gV t_603 t_604 t_605 t_1 t_606) rfl rfl rfl (by decide +kernel) ⟨Nat.le_of_ble_eq_true rfl, Nat.le_of_ble_eq_true rfl⟩) ⟨x_blind _ _ _, va_recv hK hP (ci := 0) (q0 := 0) rfl (x_lk_X G _), fun U hU hW => ⟨rfl, x_pw hP hD hK hG hS hz hU hW⟩⟩ rfl hl.1 rfl (lv_room (Nat.le_of_ble_eq_true rfl)) d_L_found_5 ⟨Nat.le_of_ble_eq_true rfl, Nat.le_of_ble_eq_true rfl⟩ hz hS (fun q ce H locs hP hD hS hce hcv hcl => e_catch hown [⟨0, 10, 13, 13⟩, ⟨0, 10, 17, 23⟩] ⟨0, 10, 21, 15⟩ [] hTab (List.forall_mem_cons.mpr ⟨⟨by decide, "java/lang/IllegalStateException", hts _ t_328, hG.2.1.2 _ (by decide) _ (by decide) (by decide)⟩, (List.forall_mem_cons.mpr ⟨⟨by decide, "java/lang/IndexOutOfBoundsException", hts _ t_448, hG.2.1.2 _ (by decide) _ (by decide) (by decide)⟩, (fun w h => absurd h List.not_mem_nil)⟩)⟩) (by decide) (by decide) (hts _ t_329) (va_Nw.use rfl (hG.2.1.1 _ (by decide))) hce hcv hcl ?_)
      refine lv_astore (lv' := [(4, .ref q), (0, .ref (x_ad G 0)), (1, .int p2), (2, .int p3), (3, .ref (x_ad G 110))]) hx hb d_L_found_21 hl (by decide) rfl (fun ls hl => ?_)
      refine lv_iconst (v := (3 : Int32)) hx hb d_L_found_23 (by decide) ?_
      obtain ⟨rfl, rfl⟩ := x_ret hf
      exact W.iret (v := (3 : Int32)) hx hb hr (fun t ht hW => ⟨⟨_, _, rfl, ⟨rfl, rfl⟩, x_pw hP hD hK hG hS hz ht hW⟩, hS.F ht⟩) hS.2.2 d_L_found_24
    have hf := x_br_f hf hE
    cases hf
  refine va_calli (va_runV (As := [.int p2, .int p3]) (rest := [.int (0 : Int32), .ref (x_ad G 110)]) ⟨hx, hb, hml, hown, hts⟩ (c_X_found l G p2 p3 z0 r1 z1 hq2) (cwV 2 hts (x_gV t_603 t_604 t_605 t_1 t_606) rfl rfl rfl (by decide +kernel) ⟨Nat.le_of_ble_eq_true rfl, Nat.le_of_ble_eq_true rfl⟩) ⟨x_blind _ _ _, va_recv hK hP (ci := 0) (q0 := 0) rfl (x_lk_X G _), fun U hU hW => ⟨rfl, x_pw hP hD hK hG hS hz hU hW⟩⟩ rfl rfl hl.1 rfl (lv_room (Nat.le_of_ble_eq_true rfl)) d_L_found_5 ⟨Nat.le_of_ble_eq_true rfl, Nat.le_of_ble_eq_true rfl⟩) hS (fun q _ h => h) (fun q h => h) (fun ra u t H locs ht hvm hw hB _ _ hS => ?_)
  obtain ⟨rfl, rfl⟩ := hw
  obtain ⟨hP, hD⟩ := x_back hB ht
  refine lv_i2l (v := (r1).toInt64) hx hb d_L_found_8 rfl ?_
  obtain ⟨hin3, hf⟩ := x_ck_some hf
  refine va_last hx hb hK hP hD hS 110 4 (x_lk_O G _) rfl hin3 d_L_found_9 (fun H locs hP hD hS => ?_)
  rw [x_st_O G _] at hP hD
  refine lv_goto (tgt := 25) hx hb d_L_found_10 (by decide) ?_
  refine lv_iconst (v := (0 : Int32)) hx hb d_L_found_25 (by decide) ?_
  obtain ⟨rfl, rfl⟩ := x_ret hf
  refine W.widen (k := 1) (n := 6) (Nat.le_of_ble_eq_true rfl) (Nat.le_of_ble_eq_true rfl) ?_
  exact W.iret (v := (0 : Int32)) hx hb hr (fun t ht hW => ⟨⟨_, _, rfl, ⟨rfl, rfl⟩, x_pw hP hD hK hG hS hz ht hW⟩, hS.F ht⟩) hS.2.2 d_L_found_26
abbrev rm_L_drop : Room := { frames := 8, cells := 1, slots := 6, locals := 127 }
set_option maxHeartbeats 4000000 in
set_option maxRecDepth 100000 in
theorem c_L_drop (l : Launch) (G : x_G) (hl9 : l.stackTraces = false) (p2 : Int32) (z0 : x_St) (r : Int32) (zo : x_St) (hf : f_L_drop (x_n G) p2 z0 = some (r, zo)) : Met l (⟨"ContentLibraryLaw", "drop", "(LContentLibrary;I[J)I"⟩ : MethodName) (x_wsW (⟨"ContentLibraryLaw", "drop", "(LContentLibrary;I[J)I"⟩ : MethodName) method_11_code 4 (some .int) [(0, 9, 12, 13), (0, 9, 15, 23)]) rm_L_drop (va_Pc [.ref (x_ad G 0), .int p2, .ref (x_ad G 110)] (x_PW G z0)) (va_Qi (fun a u => r = a ∧ zo = u) (x_PW G) (x_A G)) 1 6 (x_A G) := by
  refine va_MetW (hh := [(0, 9, 12, 13), (0, 9, 15, 23)]) (cc := method_11_code) (maxL := 4) (ret := (some .int)) (by decide) rfl ?_
  intro p e s m args below meth c s₁ B hml hv
  obtain ⟨rfl, hz, hP, hD, hK, hG⟩ := hv
  have hTab := e_table B (atoms_spec (ws := (x_wsW (⟨"ContentLibraryLaw", "drop", "(LContentLibrary;I[J)I"⟩ : MethodName) method_11_code 4 (some .int) [(0, 9, 12, 13), (0, 9, 15, 23)])) B.pre _ List.mem_cons_self)
  obtain ⟨hx, hb, hr, hml, hown, hts, hlocks, hz, hK, hG⟩ : x_Ctx G p s m _ meth c method_11_code "ContentLibraryLaw" 4 (some .int) := ⟨B.exec, B.bytes, B.returns, hml, findClass_of_methodNamed B.named, fun w h => atoms_spec (ws := (x_wsW (⟨"ContentLibraryLaw", "drop", "(LContentLibrary;I[J)I"⟩ : MethodName) method_11_code 4 (some .int) [(0, 9, 12, 13), (0, 9, 15, 23)])) B.pre w (List.mem_cons_of_mem _ h), B.notSynchronized, hz, hK, hG⟩
  have hS : va_S (x_A G) s.heap s.heap [] := va_S.rf
  have hl := lv_entry ([.ref (x_ad G 0), .int p2, .ref (x_ad G 110)]) (n := 4) (Nat.le_of_ble_eq_true rfl)
  rw [lg_entry_eq]
  generalize (lg_sl ([.ref (x_ad G 0), .int p2, .ref (x_ad G 110)]) ++ List.replicate (4 - (lg_sl ([.ref (x_ad G 0), .int p2, .ref (x_ad G 110)])).length) Slot.unset).toArray = ls at hl ⊢
  have hl : lv_has ls 4 [(0, .ref (x_ad G 0)), (1, .int p2), (2, .ref (x_ad G 110))] := hl
  rw [f_L_drop] at hf
  refine lv_aload_n hx hb d_L_drop_0 rfl (lv_at hl 2 rfl) ?_
  refine lv_iconst (v := (0 : Int32)) hx hb d_L_drop_1 (by decide) ?_
  refine lv_aload_n hx hb d_L_drop_2 rfl (lv_at hl 0 rfl) ?_
  refine lv_iload_n hx hb d_L_drop_3 rfl (lv_at hl 1 rfl) ?_
  rcases x_try_some hf with ⟨E, z1, hq2, hf⟩ | ⟨r1, z1, hq2, hf⟩
  · by_cases hE : E = "java/lang/IllegalStateException"
    · subst hE
      have hf := x_br_t hf rfl
      refine e_callV (As := [.int p2]) (rest := [.int (0 : Int32), .ref (x_ad G 110)]) ⟨hx, hb, hml, hown, hts⟩ (c_X_drop_x l G hl9 p2 z0 _ z1 hq2) (cwV 1 hts (x_gV t_612 t_613 t_614 t_1 t_615) rfl rfl rfl (by decide +kernel) ⟨Nat.le_of_ble_eq_true rfl, Nat.le_of_ble_eq_true rfl⟩) ⟨x_blind _ _ _, va_recv hK hP (ci := 0) (q0 := 0) rfl (x_lk_X G _), fun U hU hW => ⟨rfl, x_pw hP hD hK hG hS hz hU hW⟩⟩ rfl hl.1 rfl (lv_room (Nat.le_of_ble_eq_true rfl)) d_L_drop_4 ⟨Nat.le_of_ble_eq_true rfl, Nat.le_of_ble_eq_true rfl⟩ hz hS (fun q ce H locs hP hD hS hce hcv hcl => e_catch hown [] ⟨0, 9, 12, 13⟩ [⟨0, 9, 15, 23⟩] hTab (fun w h => absurd h List.not_mem_nil) (by decide) (by decide) (hts _ t_328) (va_Nw.use rfl (hG.2.1.1 _ (by decide))) hce hcv hcl ?_)
      refine lv_astore_n (lv' := [(3, .ref q), (0, .ref (x_ad G 0)), (1, .int p2), (2, .ref (x_ad G 110))]) hx hb d_L_drop_12 rfl hl (by decide) rfl (fun ls hl => ?_)
      refine lv_iconst (v := (1 : Int32)) hx hb d_L_drop_13 (by decide) ?_
      obtain ⟨rfl, rfl⟩ := x_ret hf
      exact W.iret (v := (1 : Int32)) hx hb hr (fun t ht hW => ⟨⟨_, _, rfl, ⟨rfl, rfl⟩, x_pw hP hD hK hG hS hz ht hW⟩, hS.F ht⟩) hS.2.2 d_L_drop_14
    have hf := x_br_f hf hE
    by_cases hE : E = "java/lang/IndexOutOfBoundsException"
    · subst hE
      have hf := x_br_t hf rfl
      refine e_callV (As := [.int p2]) (rest := [.int (0 : Int32), .ref (x_ad G 110)]) ⟨hx, hb, hml, hown, hts⟩ (c_X_drop_x l G hl9 p2 z0 _ z1 hq2) (cwV 1 hts (x_gV t_612 t_613 t_614 t_1 t_615) rfl rfl rfl (by decide +kernel) ⟨Nat.le_of_ble_eq_true rfl, Nat.le_of_ble_eq_true rfl⟩) ⟨x_blind _ _ _, va_recv hK hP (ci := 0) (q0 := 0) rfl (x_lk_X G _), fun U hU hW => ⟨rfl, x_pw hP hD hK hG hS hz hU hW⟩⟩ rfl hl.1 rfl (lv_room (Nat.le_of_ble_eq_true rfl)) d_L_drop_4 ⟨Nat.le_of_ble_eq_true rfl, Nat.le_of_ble_eq_true rfl⟩ hz hS (fun q ce H locs hP hD hS hce hcv hcl => e_catch hown [⟨0, 9, 12, 13⟩] ⟨0, 9, 15, 23⟩ [] hTab (List.forall_mem_cons.mpr ⟨⟨by decide, "java/lang/IllegalStateException", hts _ t_328, hG.2.1.2 _ (by decide) _ (by decide) (by decide)⟩, (fun w h => absurd h List.not_mem_nil)⟩) (by decide) (by decide) (hts _ t_448) (va_Nw.use rfl (hG.2.1.1 _ (by decide))) hce hcv hcl ?_)
      refine lv_astore_n (lv' := [(3, .ref q), (0, .ref (x_ad G 0)), (1, .int p2), (2, .ref (x_ad G 110))]) hx hb d_L_drop_15 rfl hl (by decide) rfl (fun ls hl => ?_)
      refine lv_iconst (v := (2 : Int32)) hx hb d_L_drop_16 (by decide) ?_
      obtain ⟨rfl, rfl⟩ := x_ret hf
      exact W.iret (v := (2 : Int32)) hx hb hr (fun t ht hW => ⟨⟨_, _, rfl, ⟨rfl, rfl⟩, x_pw hP hD hK hG hS hz ht hW⟩, hS.F ht⟩) hS.2.2 d_L_drop_17
    have hf := x_br_f hf hE
    cases hf
  refine va_calli (va_runV (As := [.int p2]) (rest := [.int (0 : Int32), .ref (x_ad G 110)]) ⟨hx, hb, hml, hown, hts⟩ (c_X_drop l G p2 z0 r1 z1 hq2) (cwV 1 hts (x_gV t_612 t_613 t_614 t_1 t_615) rfl rfl rfl (by decide +kernel) ⟨Nat.le_of_ble_eq_true rfl, Nat.le_of_ble_eq_true rfl⟩) ⟨x_blind _ _ _, va_recv hK hP (ci := 0) (q0 := 0) rfl (x_lk_X G _), fun U hU hW => ⟨rfl, x_pw hP hD hK hG hS hz hU hW⟩⟩ rfl rfl hl.1 rfl (lv_room (Nat.le_of_ble_eq_true rfl)) d_L_drop_4 ⟨Nat.le_of_ble_eq_true rfl, Nat.le_of_ble_eq_true rfl⟩) hS (fun q _ h => h) (fun q h => h) (fun ra u t H locs ht hvm hw hB _ _ hS => ?_)
  obtain ⟨rfl, rfl⟩ := hw
  obtain ⟨hP, hD⟩ := x_back hB ht
  refine lv_i2l (v := (r1).toInt64) hx hb d_L_drop_7 rfl ?_
  obtain ⟨hin3, hf⟩ := x_ck_some hf
  refine va_last hx hb hK hP hD hS 110 4 (x_lk_O G _) rfl hin3 d_L_drop_8 (fun H locs hP hD hS => ?_)
  rw [x_st_O G _] at hP hD
  refine lv_goto (tgt := 18) hx hb d_L_drop_9 (by decide) ?_
  refine lv_iconst (v := (0 : Int32)) hx hb d_L_drop_18 (by decide) ?_
  obtain ⟨rfl, rfl⟩ := x_ret hf
  refine W.widen (k := 1) (n := 6) (Nat.le_of_ble_eq_true rfl) (Nat.le_of_ble_eq_true rfl) ?_
  exact W.iret (v := (0 : Int32)) hx hb hr (fun t ht hW => ⟨⟨_, _, rfl, ⟨rfl, rfl⟩, x_pw hP hD hK hG hS hz ht hW⟩, hS.F ht⟩) hS.2.2 d_L_drop_19
abbrev rm_L_sweep : Room := { frames := 8, cells := 1, slots := 6, locals := 123 }
set_option maxHeartbeats 4000000 in
set_option maxRecDepth 100000 in
theorem c_L_sweep (l : Launch) (G : x_G) (hl9 : l.stackTraces = false)  (z0 : x_St) (r : Int32) (zo : x_St) (hf : f_L_sweep (x_n G)  z0 = some (r, zo)) : Met l (⟨"ContentLibraryLaw", "sweep", "(LContentLibrary;[J)I"⟩ : MethodName) (x_wsW (⟨"ContentLibraryLaw", "sweep", "(LContentLibrary;[J)I"⟩ : MethodName) method_12_code 3 (some .int) [(0, 8, 11, 13)]) rm_L_sweep (va_Pc [.ref (x_ad G 0), .ref (x_ad G 110)] (x_PW G z0)) (va_Qi (fun a u => r = a ∧ zo = u) (x_PW G) (x_A G)) 1 6 (x_A G) := by
  refine va_MetW (hh := [(0, 8, 11, 13)]) (cc := method_12_code) (maxL := 3) (ret := (some .int)) (by decide) rfl ?_
  intro p e s m args below meth c s₁ B hml hv
  obtain ⟨rfl, hz, hP, hD, hK, hG⟩ := hv
  have hTab := e_table B (atoms_spec (ws := (x_wsW (⟨"ContentLibraryLaw", "sweep", "(LContentLibrary;[J)I"⟩ : MethodName) method_12_code 3 (some .int) [(0, 8, 11, 13)])) B.pre _ List.mem_cons_self)
  obtain ⟨hx, hb, hr, hml, hown, hts, hlocks, hz, hK, hG⟩ : x_Ctx G p s m _ meth c method_12_code "ContentLibraryLaw" 3 (some .int) := ⟨B.exec, B.bytes, B.returns, hml, findClass_of_methodNamed B.named, fun w h => atoms_spec (ws := (x_wsW (⟨"ContentLibraryLaw", "sweep", "(LContentLibrary;[J)I"⟩ : MethodName) method_12_code 3 (some .int) [(0, 8, 11, 13)])) B.pre w (List.mem_cons_of_mem _ h), B.notSynchronized, hz, hK, hG⟩
  have hS : va_S (x_A G) s.heap s.heap [] := va_S.rf
  have hl := lv_entry ([.ref (x_ad G 0), .ref (x_ad G 110)]) (n := 3) (Nat.le_of_ble_eq_true rfl)
  rw [lg_entry_eq]
  generalize (lg_sl ([.ref (x_ad G 0), .ref (x_ad G 110)]) ++ List.replicate (3 - (lg_sl ([.ref (x_ad G 0), .ref (x_ad G 110)])).length) Slot.unset).toArray = ls at hl ⊢
  have hl : lv_has ls 3 [(0, .ref (x_ad G 0)), (1, .ref (x_ad G 110))] := hl
  rw [f_L_sweep] at hf
  refine lv_aload_n hx hb d_L_sweep_0 rfl (lv_at hl 1 rfl) ?_
  refine lv_iconst (v := (0 : Int32)) hx hb d_L_sweep_1 (by decide) ?_
  refine lv_aload_n hx hb d_L_sweep_2 rfl (lv_at hl 0 rfl) ?_
  rcases x_try_some hf with ⟨E, z1, hq2, hf⟩ | ⟨r1, z1, hq2, hf⟩
  · by_cases hE : E = "java/lang/IllegalStateException"
    · subst hE
      have hf := x_br_t hf rfl
      refine e_callV (As := []) (rest := [.int (0 : Int32), .ref (x_ad G 110)]) ⟨hx, hb, hml, hown, hts⟩ (c_X_sweep_x l G hl9 z0 _ z1 hq2) (cwV 0 hts (x_gV t_619 t_620 t_621 t_1 t_622) rfl rfl rfl (by decide +kernel) ⟨Nat.le_of_ble_eq_true rfl, Nat.le_of_ble_eq_true rfl⟩) ⟨x_blind _ _ _, va_recv hK hP (ci := 0) (q0 := 0) rfl (x_lk_X G _), fun U hU hW => ⟨rfl, x_pw hP hD hK hG hS hz hU hW⟩⟩ rfl hl.1 rfl (lv_room (Nat.le_of_ble_eq_true rfl)) d_L_sweep_3 ⟨Nat.le_of_ble_eq_true rfl, Nat.le_of_ble_eq_true rfl⟩ hz hS (fun q ce H locs hP hD hS hce hcv hcl => e_catch hown [] ⟨0, 8, 11, 13⟩ [] hTab (fun w h => absurd h List.not_mem_nil) (by decide) (by decide) (hts _ t_328) (va_Nw.use rfl (hG.2.1.1 _ (by decide))) hce hcv hcl ?_)
      refine lv_astore_n (lv' := [(2, .ref q), (0, .ref (x_ad G 0)), (1, .ref (x_ad G 110))]) hx hb d_L_sweep_11 rfl hl (by decide) rfl (fun ls hl => ?_)
      refine lv_iconst (v := (1 : Int32)) hx hb d_L_sweep_12 (by decide) ?_
      obtain ⟨rfl, rfl⟩ := x_ret hf
      exact W.iret (v := (1 : Int32)) hx hb hr (fun t ht hW => ⟨⟨_, _, rfl, ⟨rfl, rfl⟩, x_pw hP hD hK hG hS hz ht hW⟩, hS.F ht⟩) hS.2.2 d_L_sweep_13
    have hf := x_br_f hf hE
    cases hf
  refine va_calli (va_runV (As := []) (rest := [.int (0 : Int32), .ref (x_ad G 110)]) ⟨hx, hb, hml, hown, hts⟩ (c_X_sweep l G z0 r1 z1 hq2) (cwV 0 hts (x_gV t_619 t_620 t_621 t_1 t_622) rfl rfl rfl (by decide +kernel) ⟨Nat.le_of_ble_eq_true rfl, Nat.le_of_ble_eq_true rfl⟩) ⟨x_blind _ _ _, va_recv hK hP (ci := 0) (q0 := 0) rfl (x_lk_X G _), fun U hU hW => ⟨rfl, x_pw hP hD hK hG hS hz hU hW⟩⟩ rfl rfl hl.1 rfl (lv_room (Nat.le_of_ble_eq_true rfl)) d_L_sweep_3 ⟨Nat.le_of_ble_eq_true rfl, Nat.le_of_ble_eq_true rfl⟩) hS (fun q _ h => h) (fun q h => h) (fun ra u t H locs ht hvm hw hB _ _ hS => ?_)
  obtain ⟨rfl, rfl⟩ := hw
  obtain ⟨hP, hD⟩ := x_back hB ht
  refine lv_i2l (v := (r1).toInt64) hx hb d_L_sweep_6 rfl ?_
  obtain ⟨hin3, hf⟩ := x_ck_some hf
  refine va_last hx hb hK hP hD hS 110 4 (x_lk_O G _) rfl hin3 d_L_sweep_7 (fun H locs hP hD hS => ?_)
  rw [x_st_O G _] at hP hD
  refine lv_goto (tgt := 14) hx hb d_L_sweep_8 (by decide) ?_
  refine lv_iconst (v := (0 : Int32)) hx hb d_L_sweep_14 (by decide) ?_
  obtain ⟨rfl, rfl⟩ := x_ret hf
  refine W.widen (k := 1) (n := 6) (Nat.le_of_ble_eq_true rfl) (Nat.le_of_ble_eq_true rfl) ?_
  exact W.iret (v := (0 : Int32)) hx hb hr (fun t ht hW => ⟨⟨_, _, rfl, ⟨rfl, rfl⟩, x_pw hP hD hK hG hS hz ht hW⟩, hS.F ht⟩) hS.2.2 d_L_sweep_15
abbrev rm_L_fuse : Room := { frames := 8, cells := 1, slots := 6, locals := 124 }
set_option maxHeartbeats 4000000 in
set_option maxRecDepth 100000 in
theorem c_L_fuse (l : Launch) (G : x_G) (hl9 : l.stackTraces = false) (p2 : Int32) (z0 : x_St) (r : Int32) (zo : x_St) (hf : f_L_fuse (x_n G) p2 z0 = some (r, zo)) : Met l (⟨"ContentLibraryLaw", "fuse", "(LContentLibrary;I[J)I"⟩ : MethodName) (x_wsW (⟨"ContentLibraryLaw", "fuse", "(LContentLibrary;I[J)I"⟩ : MethodName) method_13_code 4 (some .int) [(0, 9, 12, 13), (0, 9, 15, 15)]) rm_L_fuse (va_Pc [.ref (x_ad G 0), .int p2, .ref (x_ad G 110)] (x_PW G z0)) (va_Qi (fun a u => r = a ∧ zo = u) (x_PW G) (x_A G)) 1 6 (x_A G) := by
  refine va_MetW (hh := [(0, 9, 12, 13), (0, 9, 15, 15)]) (cc := method_13_code) (maxL := 4) (ret := (some .int)) (by decide) rfl ?_
  intro p e s m args below meth c s₁ B hml hv
  obtain ⟨rfl, hz, hP, hD, hK, hG⟩ := hv
  have hTab := e_table B (atoms_spec (ws := (x_wsW (⟨"ContentLibraryLaw", "fuse", "(LContentLibrary;I[J)I"⟩ : MethodName) method_13_code 4 (some .int) [(0, 9, 12, 13), (0, 9, 15, 15)])) B.pre _ List.mem_cons_self)
  obtain ⟨hx, hb, hr, hml, hown, hts, hlocks, hz, hK, hG⟩ : x_Ctx G p s m _ meth c method_13_code "ContentLibraryLaw" 4 (some .int) := ⟨B.exec, B.bytes, B.returns, hml, findClass_of_methodNamed B.named, fun w h => atoms_spec (ws := (x_wsW (⟨"ContentLibraryLaw", "fuse", "(LContentLibrary;I[J)I"⟩ : MethodName) method_13_code 4 (some .int) [(0, 9, 12, 13), (0, 9, 15, 15)])) B.pre w (List.mem_cons_of_mem _ h), B.notSynchronized, hz, hK, hG⟩
  have hS : va_S (x_A G) s.heap s.heap [] := va_S.rf
  have hl := lv_entry ([.ref (x_ad G 0), .int p2, .ref (x_ad G 110)]) (n := 4) (Nat.le_of_ble_eq_true rfl)
  rw [lg_entry_eq]
  generalize (lg_sl ([.ref (x_ad G 0), .int p2, .ref (x_ad G 110)]) ++ List.replicate (4 - (lg_sl ([.ref (x_ad G 0), .int p2, .ref (x_ad G 110)])).length) Slot.unset).toArray = ls at hl ⊢
  have hl : lv_has ls 4 [(0, .ref (x_ad G 0)), (1, .int p2), (2, .ref (x_ad G 110))] := hl
  rw [f_L_fuse] at hf
  refine lv_aload_n hx hb d_L_fuse_0 rfl (lv_at hl 2 rfl) ?_
  refine lv_iconst (v := (0 : Int32)) hx hb d_L_fuse_1 (by decide) ?_
  refine lv_aload_n hx hb d_L_fuse_2 rfl (lv_at hl 0 rfl) ?_
  refine lv_iload_n hx hb d_L_fuse_3 rfl (lv_at hl 1 rfl) ?_
  rcases x_try_some hf with ⟨E, z1, hq2, hf⟩ | ⟨r1, z1, hq2, hf⟩
  · by_cases hE : E = "java/lang/IllegalStateException"
    · subst hE
      have hf := x_br_t hf rfl
      refine e_callV (As := [.int p2]) (rest := [.int (0 : Int32), .ref (x_ad G 110)]) ⟨hx, hb, hml, hown, hts⟩ (c_X_fuse_x l G hl9 p2 z0 _ z1 hq2) (cwV 1 hts (x_gV t_626 t_627 t_628 t_1 t_629) rfl rfl rfl (by decide +kernel) ⟨Nat.le_of_ble_eq_true rfl, Nat.le_of_ble_eq_true rfl⟩) ⟨x_blind _ _ _, va_recv hK hP (ci := 0) (q0 := 0) rfl (x_lk_X G _), fun U hU hW => ⟨rfl, x_pw hP hD hK hG hS hz hU hW⟩⟩ rfl hl.1 rfl (lv_room (Nat.le_of_ble_eq_true rfl)) d_L_fuse_4 ⟨Nat.le_of_ble_eq_true rfl, Nat.le_of_ble_eq_true rfl⟩ hz hS (fun q ce H locs hP hD hS hce hcv hcl => e_catch hown [] ⟨0, 9, 12, 13⟩ [⟨0, 9, 15, 15⟩] hTab (fun w h => absurd h List.not_mem_nil) (by decide) (by decide) (hts _ t_328) (va_Nw.use rfl (hG.2.1.1 _ (by decide))) hce hcv hcl ?_)
      refine lv_astore_n (lv' := [(3, .ref q), (0, .ref (x_ad G 0)), (1, .int p2), (2, .ref (x_ad G 110))]) hx hb d_L_fuse_12 rfl hl (by decide) rfl (fun ls hl => ?_)
      refine lv_iconst (v := (1 : Int32)) hx hb d_L_fuse_13 (by decide) ?_
      obtain ⟨rfl, rfl⟩ := x_ret hf
      exact W.iret (v := (1 : Int32)) hx hb hr (fun t ht hW => ⟨⟨_, _, rfl, ⟨rfl, rfl⟩, x_pw hP hD hK hG hS hz ht hW⟩, hS.F ht⟩) hS.2.2 d_L_fuse_14
    have hf := x_br_f hf hE
    by_cases hE : E = "java/lang/IllegalArgumentException"
    · subst hE
      have hf := x_br_t hf rfl
      refine e_callV (As := [.int p2]) (rest := [.int (0 : Int32), .ref (x_ad G 110)]) ⟨hx, hb, hml, hown, hts⟩ (c_X_fuse_x l G hl9 p2 z0 _ z1 hq2) (cwV 1 hts (x_gV t_626 t_627 t_628 t_1 t_629) rfl rfl rfl (by decide +kernel) ⟨Nat.le_of_ble_eq_true rfl, Nat.le_of_ble_eq_true rfl⟩) ⟨x_blind _ _ _, va_recv hK hP (ci := 0) (q0 := 0) rfl (x_lk_X G _), fun U hU hW => ⟨rfl, x_pw hP hD hK hG hS hz hU hW⟩⟩ rfl hl.1 rfl (lv_room (Nat.le_of_ble_eq_true rfl)) d_L_fuse_4 ⟨Nat.le_of_ble_eq_true rfl, Nat.le_of_ble_eq_true rfl⟩ hz hS (fun q ce H locs hP hD hS hce hcv hcl => e_catch hown [⟨0, 9, 12, 13⟩] ⟨0, 9, 15, 15⟩ [] hTab (List.forall_mem_cons.mpr ⟨⟨by decide, "java/lang/IllegalStateException", hts _ t_328, hG.2.1.2 _ (by decide) _ (by decide) (by decide)⟩, (fun w h => absurd h List.not_mem_nil)⟩) (by decide) (by decide) (hts _ t_329) (va_Nw.use rfl (hG.2.1.1 _ (by decide))) hce hcv hcl ?_)
      refine lv_astore_n (lv' := [(3, .ref q), (0, .ref (x_ad G 0)), (1, .int p2), (2, .ref (x_ad G 110))]) hx hb d_L_fuse_15 rfl hl (by decide) rfl (fun ls hl => ?_)
      refine lv_iconst (v := (2 : Int32)) hx hb d_L_fuse_16 (by decide) ?_
      obtain ⟨rfl, rfl⟩ := x_ret hf
      exact W.iret (v := (2 : Int32)) hx hb hr (fun t ht hW => ⟨⟨_, _, rfl, ⟨rfl, rfl⟩, x_pw hP hD hK hG hS hz ht hW⟩, hS.F ht⟩) hS.2.2 d_L_fuse_17
    have hf := x_br_f hf hE
    cases hf
  refine va_calli (va_runV (As := [.int p2]) (rest := [.int (0 : Int32), .ref (x_ad G 110)]) ⟨hx, hb, hml, hown, hts⟩ (c_X_fuse l G p2 z0 r1 z1 hq2) (cwV 1 hts (x_gV t_626 t_627 t_628 t_1 t_629) rfl rfl rfl (by decide +kernel) ⟨Nat.le_of_ble_eq_true rfl, Nat.le_of_ble_eq_true rfl⟩) ⟨x_blind _ _ _, va_recv hK hP (ci := 0) (q0 := 0) rfl (x_lk_X G _), fun U hU hW => ⟨rfl, x_pw hP hD hK hG hS hz hU hW⟩⟩ rfl rfl hl.1 rfl (lv_room (Nat.le_of_ble_eq_true rfl)) d_L_fuse_4 ⟨Nat.le_of_ble_eq_true rfl, Nat.le_of_ble_eq_true rfl⟩) hS (fun q _ h => h) (fun q h => h) (fun ra u t H locs ht hvm hw hB _ _ hS => ?_)
  obtain ⟨rfl, rfl⟩ := hw
  obtain ⟨hP, hD⟩ := x_back hB ht
  refine lv_i2l (v := (r1).toInt64) hx hb d_L_fuse_7 rfl ?_
  obtain ⟨hin3, hf⟩ := x_ck_some hf
  refine va_last hx hb hK hP hD hS 110 4 (x_lk_O G _) rfl hin3 d_L_fuse_8 (fun H locs hP hD hS => ?_)
  rw [x_st_O G _] at hP hD
  refine lv_goto (tgt := 18) hx hb d_L_fuse_9 (by decide) ?_
  refine lv_iconst (v := (0 : Int32)) hx hb d_L_fuse_18 (by decide) ?_
  obtain ⟨rfl, rfl⟩ := x_ret hf
  refine W.widen (k := 1) (n := 6) (Nat.le_of_ble_eq_true rfl) (Nat.le_of_ble_eq_true rfl) ?_
  exact W.iret (v := (0 : Int32)) hx hb hr (fun t ht hW => ⟨⟨_, _, rfl, ⟨rfl, rfl⟩, x_pw hP hD hK hG hS hz ht hW⟩, hS.F ht⟩) hS.2.2 d_L_fuse_19
abbrev rm_L_poke : Room := { frames := 8, cells := 1, slots := 6, locals := 127 }
set_option maxHeartbeats 4000000 in
set_option maxRecDepth 100000 in
theorem c_L_poke (l : Launch) (G : x_G) (hl9 : l.stackTraces = false) (p2 : Int32) (p3 : Int32) (p4 : Int32) (z0 : x_St) (r : Int32) (zo : x_St) (hf : f_L_poke (x_n G) p2 p3 p4 z0 = some (r, zo)) : Met l (⟨"ContentLibraryLaw", "poke", "(LContentLibrary;III[J)I"⟩ : MethodName) (x_wsW (⟨"ContentLibraryLaw", "poke", "(LContentLibrary;III[J)I"⟩ : MethodName) method_14_code 6 (some .int) [(0, 12, 15, 23), (0, 12, 19, 15)]) rm_L_poke (va_Pc [.ref (x_ad G 0), .int p2, .int p3, .int p4, .ref (x_ad G 110)] (x_PW G z0)) (va_Qi (fun a u => r = a ∧ zo = u) (x_PW G) (x_A G)) 1 6 (x_A G) := by
  refine va_MetW (hh := [(0, 12, 15, 23), (0, 12, 19, 15)]) (cc := method_14_code) (maxL := 6) (ret := (some .int)) (by decide) rfl ?_
  intro p e s m args below meth c s₁ B hml hv
  obtain ⟨rfl, hz, hP, hD, hK, hG⟩ := hv
  have hTab := e_table B (atoms_spec (ws := (x_wsW (⟨"ContentLibraryLaw", "poke", "(LContentLibrary;III[J)I"⟩ : MethodName) method_14_code 6 (some .int) [(0, 12, 15, 23), (0, 12, 19, 15)])) B.pre _ List.mem_cons_self)
  obtain ⟨hx, hb, hr, hml, hown, hts, hlocks, hz, hK, hG⟩ : x_Ctx G p s m _ meth c method_14_code "ContentLibraryLaw" 6 (some .int) := ⟨B.exec, B.bytes, B.returns, hml, findClass_of_methodNamed B.named, fun w h => atoms_spec (ws := (x_wsW (⟨"ContentLibraryLaw", "poke", "(LContentLibrary;III[J)I"⟩ : MethodName) method_14_code 6 (some .int) [(0, 12, 15, 23), (0, 12, 19, 15)])) B.pre w (List.mem_cons_of_mem _ h), B.notSynchronized, hz, hK, hG⟩
  have hS : va_S (x_A G) s.heap s.heap [] := va_S.rf
  have hl := lv_entry ([.ref (x_ad G 0), .int p2, .int p3, .int p4, .ref (x_ad G 110)]) (n := 6) (Nat.le_of_ble_eq_true rfl)
  rw [lg_entry_eq]
  generalize (lg_sl ([.ref (x_ad G 0), .int p2, .int p3, .int p4, .ref (x_ad G 110)]) ++ List.replicate (6 - (lg_sl ([.ref (x_ad G 0), .int p2, .int p3, .int p4, .ref (x_ad G 110)])).length) Slot.unset).toArray = ls at hl ⊢
  have hl : lv_has ls 6 [(0, .ref (x_ad G 0)), (1, .int p2), (2, .int p3), (3, .int p4), (4, .ref (x_ad G 110))] := hl
  rw [f_L_poke] at hf
  refine lv_aload hx hb d_L_poke_0 (lv_at hl 4 rfl) ?_
  refine lv_iconst (v := (0 : Int32)) hx hb d_L_poke_2 (by decide) ?_
  refine lv_aload_n hx hb d_L_poke_3 rfl (lv_at hl 0 rfl) ?_
  refine lv_iload_n hx hb d_L_poke_4 rfl (lv_at hl 1 rfl) ?_
  refine lv_iload_n hx hb d_L_poke_5 rfl (lv_at hl 2 rfl) ?_
  refine lv_iload_n hx hb d_L_poke_6 rfl (lv_at hl 3 rfl) ?_
  rcases x_try_some hf with ⟨E, z1, hq2, hf⟩ | ⟨r1, z1, hq2, hf⟩
  · by_cases hE : E = "java/lang/IndexOutOfBoundsException"
    · subst hE
      have hf := x_br_t hf rfl
      refine e_callV (As := [.int p2, .int p3, .int p4]) (rest := [.int (0 : Int32), .ref (x_ad G 110)]) ⟨hx, hb, hml, hown, hts⟩ (c_X_poke_x l G hl9 p2 p3 p4 z0 _ z1 hq2) (cwV 3 hts (x_gV t_634 t_635 t_636 t_1 t_637) rfl rfl rfl (by decide +kernel) ⟨Nat.le_of_ble_eq_true rfl, Nat.le_of_ble_eq_true rfl⟩) ⟨x_blind _ _ _, va_recv hK hP (ci := 0) (q0 := 0) rfl (x_lk_X G _), fun U hU hW => ⟨rfl, x_pw hP hD hK hG hS hz hU hW⟩⟩ rfl hl.1 rfl (lv_room (Nat.le_of_ble_eq_true rfl)) d_L_poke_7 ⟨Nat.le_of_ble_eq_true rfl, Nat.le_of_ble_eq_true rfl⟩ hz hS (fun q ce H locs hP hD hS hce hcv hcl => e_catch hown [] ⟨0, 12, 15, 23⟩ [⟨0, 12, 19, 15⟩] hTab (fun w h => absurd h List.not_mem_nil) (by decide) (by decide) (hts _ t_448) (va_Nw.use rfl (hG.2.1.1 _ (by decide))) hce hcv hcl ?_)
      refine lv_astore (lv' := [(5, .ref q), (0, .ref (x_ad G 0)), (1, .int p2), (2, .int p3), (3, .int p4), (4, .ref (x_ad G 110))]) hx hb d_L_poke_15 hl (by decide) rfl (fun ls hl => ?_)
      refine lv_iconst (v := (1 : Int32)) hx hb d_L_poke_17 (by decide) ?_
      obtain ⟨rfl, rfl⟩ := x_ret hf
      exact W.iret (v := (1 : Int32)) hx hb hr (fun t ht hW => ⟨⟨_, _, rfl, ⟨rfl, rfl⟩, x_pw hP hD hK hG hS hz ht hW⟩, hS.F ht⟩) hS.2.2 d_L_poke_18
    have hf := x_br_f hf hE
    by_cases hE : E = "java/lang/IllegalArgumentException"
    · subst hE
      have hf := x_br_t hf rfl
      refine e_callV (As := [.int p2, .int p3, .int p4]) (rest := [.int (0 : Int32), .ref (x_ad G 110)]) ⟨hx, hb, hml, hown, hts⟩ (c_X_poke_x l G hl9 p2 p3 p4 z0 _ z1 hq2) (cwV 3 hts (x_gV t_634 t_635 t_636 t_1 t_637) rfl rfl rfl (by decide +kernel) ⟨Nat.le_of_ble_eq_true rfl, Nat.le_of_ble_eq_true rfl⟩) ⟨x_blind _ _ _, va_recv hK hP (ci := 0) (q0 := 0) rfl (x_lk_X G _), fun U hU hW => ⟨rfl, x_pw hP hD hK hG hS hz hU hW⟩⟩ rfl hl.1 rfl (lv_room (Nat.le_of_ble_eq_true rfl)) d_L_poke_7 ⟨Nat.le_of_ble_eq_true rfl, Nat.le_of_ble_eq_true rfl⟩ hz hS (fun q ce H locs hP hD hS hce hcv hcl => e_catch hown [⟨0, 12, 15, 23⟩] ⟨0, 12, 19, 15⟩ [] hTab (List.forall_mem_cons.mpr ⟨⟨by decide, "java/lang/IndexOutOfBoundsException", hts _ t_448, hG.2.1.2 _ (by decide) _ (by decide) (by decide)⟩, (fun w h => absurd h List.not_mem_nil)⟩) (by decide) (by decide) (hts _ t_329) (va_Nw.use rfl (hG.2.1.1 _ (by decide))) hce hcv hcl ?_)
      refine lv_astore (lv' := [(5, .ref q), (0, .ref (x_ad G 0)), (1, .int p2), (2, .int p3), (3, .int p4), (4, .ref (x_ad G 110))]) hx hb d_L_poke_19 hl (by decide) rfl (fun ls hl => ?_)
      refine lv_iconst (v := (2 : Int32)) hx hb d_L_poke_21 (by decide) ?_
      obtain ⟨rfl, rfl⟩ := x_ret hf
      exact W.iret (v := (2 : Int32)) hx hb hr (fun t ht hW => ⟨⟨_, _, rfl, ⟨rfl, rfl⟩, x_pw hP hD hK hG hS hz ht hW⟩, hS.F ht⟩) hS.2.2 d_L_poke_22
    have hf := x_br_f hf hE
    cases hf
  refine va_calli (va_runV (As := [.int p2, .int p3, .int p4]) (rest := [.int (0 : Int32), .ref (x_ad G 110)]) ⟨hx, hb, hml, hown, hts⟩ (c_X_poke l G p2 p3 p4 z0 r1 z1 hq2) (cwV 3 hts (x_gV t_634 t_635 t_636 t_1 t_637) rfl rfl rfl (by decide +kernel) ⟨Nat.le_of_ble_eq_true rfl, Nat.le_of_ble_eq_true rfl⟩) ⟨x_blind _ _ _, va_recv hK hP (ci := 0) (q0 := 0) rfl (x_lk_X G _), fun U hU hW => ⟨rfl, x_pw hP hD hK hG hS hz hU hW⟩⟩ rfl rfl hl.1 rfl (lv_room (Nat.le_of_ble_eq_true rfl)) d_L_poke_7 ⟨Nat.le_of_ble_eq_true rfl, Nat.le_of_ble_eq_true rfl⟩) hS (fun q _ h => h) (fun q h => h) (fun ra u t H locs ht hvm hw hB _ _ hS => ?_)
  obtain ⟨rfl, rfl⟩ := hw
  obtain ⟨hP, hD⟩ := x_back hB ht
  refine lv_i2l (v := (r1).toInt64) hx hb d_L_poke_10 rfl ?_
  obtain ⟨hin3, hf⟩ := x_ck_some hf
  refine va_last hx hb hK hP hD hS 110 4 (x_lk_O G _) rfl hin3 d_L_poke_11 (fun H locs hP hD hS => ?_)
  rw [x_st_O G _] at hP hD
  refine lv_goto (tgt := 23) hx hb d_L_poke_12 (by decide) ?_
  refine lv_iconst (v := (0 : Int32)) hx hb d_L_poke_23 (by decide) ?_
  obtain ⟨rfl, rfl⟩ := x_ret hf
  refine W.widen (k := 1) (n := 6) (Nat.le_of_ble_eq_true rfl) (Nat.le_of_ble_eq_true rfl) ?_
  exact W.iret (v := (0 : Int32)) hx hb hr (fun t ht hW => ⟨⟨_, _, rfl, ⟨rfl, rfl⟩, x_pw hP hD hK hG hS hz ht hW⟩, hS.F ht⟩) hS.2.2 d_L_poke_24
abbrev rm_L_byteAt : Room := { frames := 8, cells := 1, slots := 6, locals := 126 }
set_option maxHeartbeats 4000000 in
set_option maxRecDepth 100000 in
theorem c_L_byteAt (l : Launch) (G : x_G) (hl9 : l.stackTraces = false) (p2 : Int32) (p3 : Int32) (z0 : x_St) (r : Int32) (zo : x_St) (hf : f_L_byteAt (x_n G) p2 p3 z0 = some (r, zo)) : Met l (⟨"ContentLibraryLaw", "byteAt", "(LContentLibrary;II[J)I"⟩ : MethodName) (x_wsW (⟨"ContentLibraryLaw", "byteAt", "(LContentLibrary;II[J)I"⟩ : MethodName) method_15_code 5 (some .int) [(0, 10, 13, 23)]) rm_L_byteAt (va_Pc [.ref (x_ad G 0), .int p2, .int p3, .ref (x_ad G 110)] (x_PW G z0)) (va_Qi (fun a u => r = a ∧ zo = u) (x_PW G) (x_A G)) 1 6 (x_A G) := by
  refine va_MetW (hh := [(0, 10, 13, 23)]) (cc := method_15_code) (maxL := 5) (ret := (some .int)) (by decide) rfl ?_
  intro p e s m args below meth c s₁ B hml hv
  obtain ⟨rfl, hz, hP, hD, hK, hG⟩ := hv
  have hTab := e_table B (atoms_spec (ws := (x_wsW (⟨"ContentLibraryLaw", "byteAt", "(LContentLibrary;II[J)I"⟩ : MethodName) method_15_code 5 (some .int) [(0, 10, 13, 23)])) B.pre _ List.mem_cons_self)
  obtain ⟨hx, hb, hr, hml, hown, hts, hlocks, hz, hK, hG⟩ : x_Ctx G p s m _ meth c method_15_code "ContentLibraryLaw" 5 (some .int) := ⟨B.exec, B.bytes, B.returns, hml, findClass_of_methodNamed B.named, fun w h => atoms_spec (ws := (x_wsW (⟨"ContentLibraryLaw", "byteAt", "(LContentLibrary;II[J)I"⟩ : MethodName) method_15_code 5 (some .int) [(0, 10, 13, 23)])) B.pre w (List.mem_cons_of_mem _ h), B.notSynchronized, hz, hK, hG⟩
  have hS : va_S (x_A G) s.heap s.heap [] := va_S.rf
  have hl := lv_entry ([.ref (x_ad G 0), .int p2, .int p3, .ref (x_ad G 110)]) (n := 5) (Nat.le_of_ble_eq_true rfl)
  rw [lg_entry_eq]
  generalize (lg_sl ([.ref (x_ad G 0), .int p2, .int p3, .ref (x_ad G 110)]) ++ List.replicate (5 - (lg_sl ([.ref (x_ad G 0), .int p2, .int p3, .ref (x_ad G 110)])).length) Slot.unset).toArray = ls at hl ⊢
  have hl : lv_has ls 5 [(0, .ref (x_ad G 0)), (1, .int p2), (2, .int p3), (3, .ref (x_ad G 110))] := hl
  rw [f_L_byteAt] at hf
  refine lv_aload_n hx hb d_L_byteAt_0 rfl (lv_at hl 3 rfl) ?_
  refine lv_iconst (v := (0 : Int32)) hx hb d_L_byteAt_1 (by decide) ?_
  refine lv_aload_n hx hb d_L_byteAt_2 rfl (lv_at hl 0 rfl) ?_
  refine lv_iload_n hx hb d_L_byteAt_3 rfl (lv_at hl 1 rfl) ?_
  refine lv_iload_n hx hb d_L_byteAt_4 rfl (lv_at hl 2 rfl) ?_
  rcases x_try_some hf with ⟨E, z1, hq2, hf⟩ | ⟨r1, z1, hq2, hf⟩
  · by_cases hE : E = "java/lang/IndexOutOfBoundsException"
    · subst hE
      have hf := x_br_t hf rfl
      refine e_callV (As := [.int p2, .int p3]) (rest := [.int (0 : Int32), .ref (x_ad G 110)]) ⟨hx, hb, hml, hown, hts⟩ (c_X_byteAt_x l G hl9 p2 p3 z0 _ z1 hq2) (cwV 2 hts (x_gV t_651 t_652 t_653 t_1 t_654) rfl rfl rfl (by decide +kernel) ⟨Nat.le_of_ble_eq_true rfl, Nat.le_of_ble_eq_true rfl⟩) ⟨x_blind _ _ _, va_recv hK hP (ci := 0) (q0 := 0) rfl (x_lk_X G _), fun U hU hW => ⟨rfl, x_pw hP hD hK hG hS hz hU hW⟩⟩ rfl hl.1 rfl (lv_room (Nat.le_of_ble_eq_true rfl)) d_L_byteAt_5 ⟨Nat.le_of_ble_eq_true rfl, Nat.le_of_ble_eq_true rfl⟩ hz hS (fun q ce H locs hP hD hS hce hcv hcl => e_catch hown [] ⟨0, 10, 13, 23⟩ [] hTab (fun w h => absurd h List.not_mem_nil) (by decide) (by decide) (hts _ t_448) (va_Nw.use rfl (hG.2.1.1 _ (by decide))) hce hcv hcl ?_)
      refine lv_astore (lv' := [(4, .ref q), (0, .ref (x_ad G 0)), (1, .int p2), (2, .int p3), (3, .ref (x_ad G 110))]) hx hb d_L_byteAt_13 hl (by decide) rfl (fun ls hl => ?_)
      refine lv_iconst (v := (1 : Int32)) hx hb d_L_byteAt_15 (by decide) ?_
      obtain ⟨rfl, rfl⟩ := x_ret hf
      exact W.iret (v := (1 : Int32)) hx hb hr (fun t ht hW => ⟨⟨_, _, rfl, ⟨rfl, rfl⟩, x_pw hP hD hK hG hS hz ht hW⟩, hS.F ht⟩) hS.2.2 d_L_byteAt_16
    have hf := x_br_f hf hE
    cases hf
  refine va_calli (va_runV (As := [.int p2, .int p3]) (rest := [.int (0 : Int32), .ref (x_ad G 110)]) ⟨hx, hb, hml, hown, hts⟩ (c_X_byteAt l G p2 p3 z0 r1 z1 hq2) (cwV 2 hts (x_gV t_651 t_652 t_653 t_1 t_654) rfl rfl rfl (by decide +kernel) ⟨Nat.le_of_ble_eq_true rfl, Nat.le_of_ble_eq_true rfl⟩) ⟨x_blind _ _ _, va_recv hK hP (ci := 0) (q0 := 0) rfl (x_lk_X G _), fun U hU hW => ⟨rfl, x_pw hP hD hK hG hS hz hU hW⟩⟩ rfl rfl hl.1 rfl (lv_room (Nat.le_of_ble_eq_true rfl)) d_L_byteAt_5 ⟨Nat.le_of_ble_eq_true rfl, Nat.le_of_ble_eq_true rfl⟩) hS (fun q _ h => h) (fun q h => h) (fun ra u t H locs ht hvm hw hB _ _ hS => ?_)
  obtain ⟨rfl, rfl⟩ := hw
  obtain ⟨hP, hD⟩ := x_back hB ht
  refine lv_i2l (v := (r1).toInt64) hx hb d_L_byteAt_8 rfl ?_
  obtain ⟨hin3, hf⟩ := x_ck_some hf
  refine va_last hx hb hK hP hD hS 110 4 (x_lk_O G _) rfl hin3 d_L_byteAt_9 (fun H locs hP hD hS => ?_)
  rw [x_st_O G _] at hP hD
  refine lv_goto (tgt := 17) hx hb d_L_byteAt_10 (by decide) ?_
  refine lv_iconst (v := (0 : Int32)) hx hb d_L_byteAt_17 (by decide) ?_
  obtain ⟨rfl, rfl⟩ := x_ret hf
  refine W.widen (k := 1) (n := 6) (Nat.le_of_ble_eq_true rfl) (Nat.le_of_ble_eq_true rfl) ?_
  exact W.iret (v := (0 : Int32)) hx hb hr (fun t ht hW => ⟨⟨_, _, rfl, ⟨rfl, rfl⟩, x_pw hP hD hK hG hS hz ht hW⟩, hS.F ht⟩) hS.2.2 d_L_byteAt_18
