theorem t_7 : Cond.initialized "ContentLibraryModel" ∈ x_big := x_bt 7 (by decide +kernel) (by decide +kernel)
theorem t_672 : Cond.fieldLink "ContentLibraryModel" 102 "ContentLibraryModel" "code" "I" ∈ x_big := x_bt 672 (by decide +kernel) (by decide +kernel)
theorem t_673 : Cond.fieldLink "ContentLibraryModel" 91 "ContentLibraryModel" "blocks" "I" ∈ x_big := x_bt 673 (by decide +kernel) (by decide +kernel)
theorem t_674 : Cond.fieldLink "ContentLibraryModel" 7 "ContentLibraryModel" "bytes" "[I" ∈ x_big := x_bt 674 (by decide +kernel) (by decide +kernel)
theorem t_675 : Cond.fieldLink "ContentLibraryModel" 130 "ContentLibraryModel" "cut" "Z" ∈ x_big := x_bt 675 (by decide +kernel) (by decide +kernel)
theorem t_676 : Cond.fieldLink "ContentLibraryModel" 13 "ContentLibraryModel" "left" "I" ∈ x_big := x_bt 676 (by decide +kernel) (by decide +kernel)
theorem t_677 : Cond.fieldLink "ContentLibraryModel" 17 "ContentLibraryModel" "made" "[Z" ∈ x_big := x_bt 677 (by decide +kernel) (by decide +kernel)
theorem t_678 : Cond.fieldLink "ContentLibraryModel" 21 "ContentLibraryModel" "widths" "[I" ∈ x_big := x_bt 678 (by decide +kernel) (by decide +kernel)
theorem t_679 : Cond.fieldLink "ContentLibraryModel" 24 "ContentLibraryModel" "heights" "[I" ∈ x_big := x_bt 679 (by decide +kernel) (by decide +kernel)
theorem t_680 : Cond.fieldLink "ContentLibraryModel" 27 "ContentLibraryModel" "many" "[I" ∈ x_big := x_bt 680 (by decide +kernel) (by decide +kernel)
theorem t_682 : Cond.fieldLink "ContentLibraryModel" 33 "ContentLibraryModel" "there" "[Z" ∈ x_big := x_bt 682 (by decide +kernel) (by decide +kernel)
theorem t_690 : Cond.fieldLink "ContentLibraryModel" 58 "ContentLibraryModel" "owner" "[I" ∈ x_big := x_bt 690 (by decide +kernel) (by decide +kernel)
theorem t_691 : Cond.fieldLink "ContentLibraryModel" 143 "ContentLibraryModel" "foundMany" "I" ∈ x_big := x_bt 691 (by decide +kernel) (by decide +kernel)
theorem t_779 : Cond.methodLink "ContentLibraryModel" 149 (⟨"ContentLibraryModel", "isMade", "(I)Z"⟩ : MethodName) ∈ x_big := x_bt 779 (by decide +kernel) (by decide +kernel)
theorem t_781 : Cond.instanceMethod (⟨"ContentLibraryModel", "isMade", "(I)Z"⟩ : MethodName) ∈ x_big := x_bt 781 (by decide +kernel) (by decide +kernel)
theorem t_782 : Cond.code (⟨"ContentLibraryModel", "isMade", "(I)Z"⟩ : MethodName) prog_7_method_22_code 2 (some .boolean) ∈ x_big := x_bt 782 (by decide +kernel) (by decide +kernel)
theorem t_783 : Cond.methodLink "ContentLibraryModel" 152 (⟨"ContentLibraryModel", "isWhole", "(I)Z"⟩ : MethodName) ∈ x_big := x_bt 783 (by decide +kernel) (by decide +kernel)
theorem t_785 : Cond.instanceMethod (⟨"ContentLibraryModel", "isWhole", "(I)Z"⟩ : MethodName) ∈ x_big := x_bt 785 (by decide +kernel) (by decide +kernel)
theorem t_786 : Cond.code (⟨"ContentLibraryModel", "isWhole", "(I)Z"⟩ : MethodName) prog_7_method_23_code 2 (some .boolean) ∈ x_big := x_bt 786 (by decide +kernel) (by decide +kernel)
theorem t_822 : Cond.methodLink "ContentLibraryModel" 134 (⟨"ContentLibraryModel", "write", "(II)V"⟩ : MethodName) ∈ x_big := x_bt 822 (by decide +kernel) (by decide +kernel)
theorem t_824 : Cond.instanceMethod (⟨"ContentLibraryModel", "write", "(II)V"⟩ : MethodName) ∈ x_big := x_bt 824 (by decide +kernel) (by decide +kernel)
theorem t_825 : Cond.code (⟨"ContentLibraryModel", "write", "(II)V"⟩ : MethodName) prog_7_method_12_code 3 none ∈ x_big := x_bt 825 (by decide +kernel) (by decide +kernel)
theorem t_834 : Cond.constant "ContentLibraryModel" 138 374761393 ∈ x_big := x_bt 834 (by decide +kernel) (by decide +kernel)
theorem t_839 : Cond.methodLink "ContentLibraryModel" 146 (⟨"ContentLibraryModel", "forget", "()V"⟩ : MethodName) ∈ x_big := x_bt 839 (by decide +kernel) (by decide +kernel)
theorem t_841 : Cond.instanceMethod (⟨"ContentLibraryModel", "forget", "()V"⟩ : MethodName) ∈ x_big := x_bt 841 (by decide +kernel) (by decide +kernel)
theorem t_842 : Cond.code (⟨"ContentLibraryModel", "forget", "()V"⟩ : MethodName) prog_7_method_18_code 2 none ∈ x_big := x_bt 842 (by decide +kernel) (by decide +kernel)
theorem t_850 : Cond.methodLink "ContentLibraryModel" 181 (⟨"ContentLibraryModel", "isThere", "(I)Z"⟩ : MethodName) ∈ x_big := x_bt 850 (by decide +kernel) (by decide +kernel)
theorem t_852 : Cond.instanceMethod (⟨"ContentLibraryModel", "isThere", "(I)Z"⟩ : MethodName) ∈ x_big := x_bt 852 (by decide +kernel) (by decide +kernel)
theorem t_853 : Cond.code (⟨"ContentLibraryModel", "isThere", "(I)Z"⟩ : MethodName) prog_7_method_26_code 2 (some .boolean) ∈ x_big := x_bt 853 (by decide +kernel) (by decide +kernel)
theorem sel_ContentLibraryModel_forget : Cond.selects "ContentLibraryModel" (⟨"ContentLibraryModel", "forget", "()V"⟩ : MethodName) (⟨"ContentLibraryModel", "forget", "()V"⟩ : MethodName) ∈ x_big := x_bs 40 (by decide +kernel) (by decide +kernel)
theorem sel_ContentLibraryModel_isMade : Cond.selects "ContentLibraryModel" (⟨"ContentLibraryModel", "isMade", "(I)Z"⟩ : MethodName) (⟨"ContentLibraryModel", "isMade", "(I)Z"⟩ : MethodName) ∈ x_big := x_bs 27 (by decide +kernel) (by decide +kernel)
theorem sel_ContentLibraryModel_isThere : Cond.selects "ContentLibraryModel" (⟨"ContentLibraryModel", "isThere", "(I)Z"⟩ : MethodName) (⟨"ContentLibraryModel", "isThere", "(I)Z"⟩ : MethodName) ∈ x_big := x_bs 41 (by decide +kernel) (by decide +kernel)
theorem sel_ContentLibraryModel_isWhole : Cond.selects "ContentLibraryModel" (⟨"ContentLibraryModel", "isWhole", "(I)Z"⟩ : MethodName) (⟨"ContentLibraryModel", "isWhole", "(I)Z"⟩ : MethodName) ∈ x_big := x_bs 28 (by decide +kernel) (by decide +kernel)
theorem sel_ContentLibraryModel_write : Cond.selects "ContentLibraryModel" (⟨"ContentLibraryModel", "write", "(II)V"⟩ : MethodName) (⟨"ContentLibraryModel", "write", "(II)V"⟩ : MethodName) ∈ x_big := x_bs 36 (by decide +kernel) (by decide +kernel)
theorem d_M_thrown_0 : decode prog_7_method_2_code 0 = .ok (.aload_n 0, 1) := by decide +kernel
theorem d_M_thrown_1 : decode prog_7_method_2_code 1 = .ok (.getfield 102, 3) := by decide +kernel
theorem d_M_thrown_4 : decode prog_7_method_2_code 4 = .ok (.ireturn, 1) := by decide +kernel
theorem d_M_write_0 : decode prog_7_method_12_code 0 = .ok (.aload_n 0, 1) := by decide +kernel
theorem d_M_write_1 : decode prog_7_method_12_code 1 = .ok (.getfield 130, 3) := by decide +kernel
theorem d_M_write_4 : decode prog_7_method_12_code 4 = .ok (.ifCond .eq 4, 3) := by decide +kernel
theorem d_M_write_7 : decode prog_7_method_12_code 7 = .ok (.return_, 1) := by decide +kernel
theorem d_M_write_8 : decode prog_7_method_12_code 8 = .ok (.aload_n 0, 1) := by decide +kernel
theorem d_M_write_9 : decode prog_7_method_12_code 9 = .ok (.getfield 13, 3) := by decide +kernel
theorem d_M_write_12 : decode prog_7_method_12_code 12 = .ok (.ifCond .ne 9, 3) := by decide +kernel
theorem d_M_write_15 : decode prog_7_method_12_code 15 = .ok (.aload_n 0, 1) := by decide +kernel
theorem d_M_write_16 : decode prog_7_method_12_code 16 = .ok (.iconst 1, 1) := by decide +kernel
theorem d_M_write_17 : decode prog_7_method_12_code 17 = .ok (.putfield 130, 3) := by decide +kernel
theorem d_M_write_20 : decode prog_7_method_12_code 20 = .ok (.return_, 1) := by decide +kernel
theorem d_M_write_21 : decode prog_7_method_12_code 21 = .ok (.aload_n 0, 1) := by decide +kernel
theorem d_M_write_22 : decode prog_7_method_12_code 22 = .ok (.dup, 1) := by decide +kernel
theorem d_M_write_23 : decode prog_7_method_12_code 23 = .ok (.getfield 13, 3) := by decide +kernel
theorem d_M_write_26 : decode prog_7_method_12_code 26 = .ok (.aload_n 0, 1) := by decide +kernel
theorem d_M_write_27 : decode prog_7_method_12_code 27 = .ok (.getfield 13, 3) := by decide +kernel
theorem d_M_write_30 : decode prog_7_method_12_code 30 = .ok (.ifCond .le 7, 3) := by decide +kernel
theorem d_M_write_33 : decode prog_7_method_12_code 33 = .ok (.iconst 1, 1) := by decide +kernel
theorem d_M_write_34 : decode prog_7_method_12_code 34 = .ok (.goto 4, 3) := by decide +kernel
theorem d_M_write_38 : decode prog_7_method_12_code 38 = .ok (.isub, 1) := by decide +kernel
theorem d_M_write_39 : decode prog_7_method_12_code 39 = .ok (.putfield 13, 3) := by decide +kernel
theorem d_M_write_42 : decode prog_7_method_12_code 42 = .ok (.aload_n 0, 1) := by decide +kernel
theorem d_M_write_43 : decode prog_7_method_12_code 43 = .ok (.getfield 7, 3) := by decide +kernel
theorem d_M_write_46 : decode prog_7_method_12_code 46 = .ok (.iload_n 1, 1) := by decide +kernel
theorem d_M_write_47 : decode prog_7_method_12_code 47 = .ok (.iload_n 2, 1) := by decide +kernel
theorem d_M_write_48 : decode prog_7_method_12_code 48 = .ok (.iastore, 1) := by decide +kernel
theorem d_M_write_49 : decode prog_7_method_12_code 49 = .ok (.return_, 1) := by decide +kernel
theorem d_M_write_37 : decode prog_7_method_12_code 37 = .ok (.iconst 0, 1) := by decide +kernel
theorem d_M_wipe_0 : decode prog_7_method_13_code 0 = .ok (.bipush 64, 2) := by decide +kernel
theorem d_M_wipe_2 : decode prog_7_method_13_code 2 = .ok (.iload_n 1, 1) := by decide +kernel
theorem d_M_wipe_3 : decode prog_7_method_13_code 3 = .ok (.imul, 1) := by decide +kernel
theorem d_M_wipe_4 : decode prog_7_method_13_code 4 = .ok (.istore_n 2, 1) := by decide +kernel
theorem d_M_wipe_5 : decode prog_7_method_13_code 5 = .ok (.aload_n 0, 1) := by decide +kernel
theorem d_M_wipe_6 : decode prog_7_method_13_code 6 = .ok (.iload_n 2, 1) := by decide +kernel
theorem d_M_wipe_7 : decode prog_7_method_13_code 7 = .ok (.iconst 4, 1) := by decide +kernel
theorem d_M_wipe_8 : decode prog_7_method_13_code 8 = .ok (.iadd, 1) := by decide +kernel
theorem d_M_wipe_9 : decode prog_7_method_13_code 9 = .ok (.iconst 0, 1) := by decide +kernel
theorem d_M_wipe_10 : decode prog_7_method_13_code 10 = .ok (.invokevirtual 134, 3) := by decide +kernel
theorem d_M_wipe_13 : decode prog_7_method_13_code 13 = .ok (.iconst 0, 1) := by decide +kernel
theorem d_M_wipe_14 : decode prog_7_method_13_code 14 = .ok (.istore_n 3, 1) := by decide +kernel
theorem d_M_wipe_15 : decode prog_7_method_13_code 15 = .ok (.iload_n 3, 1) := by decide +kernel
theorem d_M_wipe_16 : decode prog_7_method_13_code 16 = .ok (.bipush 64, 2) := by decide +kernel
theorem d_M_wipe_18 : decode prog_7_method_13_code 18 = .ok (.if_icmp .ge 22, 3) := by decide +kernel
theorem d_M_wipe_21 : decode prog_7_method_13_code 21 = .ok (.iload_n 3, 1) := by decide +kernel
theorem d_M_wipe_22 : decode prog_7_method_13_code 22 = .ok (.iconst 4, 1) := by decide +kernel
theorem d_M_wipe_23 : decode prog_7_method_13_code 23 = .ok (.if_icmp .eq 11, 3) := by decide +kernel
theorem d_M_wipe_26 : decode prog_7_method_13_code 26 = .ok (.aload_n 0, 1) := by decide +kernel
theorem d_M_wipe_27 : decode prog_7_method_13_code 27 = .ok (.iload_n 2, 1) := by decide +kernel
theorem d_M_wipe_28 : decode prog_7_method_13_code 28 = .ok (.iload_n 3, 1) := by decide +kernel
theorem d_M_wipe_29 : decode prog_7_method_13_code 29 = .ok (.iadd, 1) := by decide +kernel
theorem d_M_wipe_30 : decode prog_7_method_13_code 30 = .ok (.iconst 0, 1) := by decide +kernel
theorem d_M_wipe_31 : decode prog_7_method_13_code 31 = .ok (.invokevirtual 134, 3) := by decide +kernel
theorem d_M_wipe_34 : decode prog_7_method_13_code 34 = .ok (.iinc 3 1, 3) := by decide +kernel
theorem d_M_wipe_37 : decode prog_7_method_13_code 37 = .ok (.goto (-22), 3) := by decide +kernel
theorem d_M_wipe_40 : decode prog_7_method_13_code 40 = .ok (.return_, 1) := by decide +kernel
theorem d_M_sumOf_0 : decode prog_7_method_14_code 0 = .ok (.iload_n 1, 1) := by decide +kernel
theorem d_M_sumOf_1 : decode prog_7_method_14_code 1 = .ok (.sipush 256, 3) := by decide +kernel
theorem d_M_sumOf_4 : decode prog_7_method_14_code 4 = .ok (.iadd, 1) := by decide +kernel
theorem d_M_sumOf_5 : decode prog_7_method_14_code 5 = .ok (.istore_n 2, 1) := by decide +kernel
theorem d_M_sumOf_6 : decode prog_7_method_14_code 6 = .ok (.iconst 4, 1) := by decide +kernel
theorem d_M_sumOf_7 : decode prog_7_method_14_code 7 = .ok (.istore_n 3, 1) := by decide +kernel
theorem d_M_sumOf_8 : decode prog_7_method_14_code 8 = .ok (.iload_n 3, 1) := by decide +kernel
theorem d_M_sumOf_9 : decode prog_7_method_14_code 9 = .ok (.bipush 64, 2) := by decide +kernel
theorem d_M_sumOf_11 : decode prog_7_method_14_code 11 = .ok (.if_icmp .ge 38, 3) := by decide +kernel
theorem d_M_sumOf_14 : decode prog_7_method_14_code 14 = .ok (.iload_n 2, 1) := by decide +kernel
theorem d_M_sumOf_15 : decode prog_7_method_14_code 15 = .ok (.aload_n 0, 1) := by decide +kernel
theorem d_M_sumOf_16 : decode prog_7_method_14_code 16 = .ok (.getfield 7, 3) := by decide +kernel
theorem d_M_sumOf_19 : decode prog_7_method_14_code 19 = .ok (.bipush 64, 2) := by decide +kernel
theorem d_M_sumOf_21 : decode prog_7_method_14_code 21 = .ok (.iload_n 1, 1) := by decide +kernel
theorem d_M_sumOf_22 : decode prog_7_method_14_code 22 = .ok (.imul, 1) := by decide +kernel
theorem d_M_sumOf_23 : decode prog_7_method_14_code 23 = .ok (.iload_n 3, 1) := by decide +kernel
theorem d_M_sumOf_24 : decode prog_7_method_14_code 24 = .ok (.iadd, 1) := by decide +kernel
theorem d_M_sumOf_25 : decode prog_7_method_14_code 25 = .ok (.iaload, 1) := by decide +kernel
theorem d_M_sumOf_26 : decode prog_7_method_14_code 26 = .ok (.ixor, 1) := by decide +kernel
theorem d_M_sumOf_27 : decode prog_7_method_14_code 27 = .ok (.istore_n 2, 1) := by decide +kernel
theorem d_M_sumOf_28 : decode prog_7_method_14_code 28 = .ok (.iload_n 2, 1) := by decide +kernel
theorem d_M_sumOf_29 : decode prog_7_method_14_code 29 = .ok (.bipush 7, 2) := by decide +kernel
theorem d_M_sumOf_31 : decode prog_7_method_14_code 31 = .ok (.ishl, 1) := by decide +kernel
theorem d_M_sumOf_32 : decode prog_7_method_14_code 32 = .ok (.iload_n 2, 1) := by decide +kernel
theorem d_M_sumOf_33 : decode prog_7_method_14_code 33 = .ok (.bipush 25, 2) := by decide +kernel
theorem d_M_sumOf_35 : decode prog_7_method_14_code 35 = .ok (.iushr, 1) := by decide +kernel
theorem d_M_sumOf_36 : decode prog_7_method_14_code 36 = .ok (.ior, 1) := by decide +kernel
theorem d_M_sumOf_37 : decode prog_7_method_14_code 37 = .ok (.istore_n 2, 1) := by decide +kernel
theorem d_M_sumOf_38 : decode prog_7_method_14_code 38 = .ok (.iload_n 2, 1) := by decide +kernel
theorem d_M_sumOf_39 : decode prog_7_method_14_code 39 = .ok (.ldc 138, 2) := by decide +kernel
theorem d_M_sumOf_41 : decode prog_7_method_14_code 41 = .ok (.imul, 1) := by decide +kernel
theorem d_M_sumOf_42 : decode prog_7_method_14_code 42 = .ok (.istore_n 2, 1) := by decide +kernel
theorem d_M_sumOf_43 : decode prog_7_method_14_code 43 = .ok (.iinc 3 1, 3) := by decide +kernel
theorem d_M_sumOf_46 : decode prog_7_method_14_code 46 = .ok (.goto (-38), 3) := by decide +kernel
theorem d_M_sumOf_49 : decode prog_7_method_14_code 49 = .ok (.iload_n 2, 1) := by decide +kernel
theorem d_M_sumOf_50 : decode prog_7_method_14_code 50 = .ok (.ireturn, 1) := by decide +kernel
theorem d_M_isNothing_0 : decode prog_7_method_17_code 0 = .ok (.iconst 1, 1) := by decide +kernel
theorem d_M_isNothing_1 : decode prog_7_method_17_code 1 = .ok (.istore_n 2, 1) := by decide +kernel
theorem d_M_isNothing_2 : decode prog_7_method_17_code 2 = .ok (.bipush 64, 2) := by decide +kernel
theorem d_M_isNothing_4 : decode prog_7_method_17_code 4 = .ok (.iload_n 1, 1) := by decide +kernel
theorem d_M_isNothing_5 : decode prog_7_method_17_code 5 = .ok (.imul, 1) := by decide +kernel
theorem d_M_isNothing_6 : decode prog_7_method_17_code 6 = .ok (.istore_n 3, 1) := by decide +kernel
theorem d_M_isNothing_7 : decode prog_7_method_17_code 7 = .ok (.iload_n 3, 1) := by decide +kernel
theorem d_M_isNothing_8 : decode prog_7_method_17_code 8 = .ok (.bipush 64, 2) := by decide +kernel
theorem d_M_isNothing_10 : decode prog_7_method_17_code 10 = .ok (.iload_n 1, 1) := by decide +kernel
theorem d_M_isNothing_11 : decode prog_7_method_17_code 11 = .ok (.imul, 1) := by decide +kernel
theorem d_M_isNothing_12 : decode prog_7_method_17_code 12 = .ok (.bipush 64, 2) := by decide +kernel
theorem d_M_isNothing_14 : decode prog_7_method_17_code 14 = .ok (.iadd, 1) := by decide +kernel
theorem d_M_isNothing_15 : decode prog_7_method_17_code 15 = .ok (.if_icmp .ge 28, 3) := by decide +kernel
theorem d_M_isNothing_18 : decode prog_7_method_17_code 18 = .ok (.iload_n 2, 1) := by decide +kernel
theorem d_M_isNothing_19 : decode prog_7_method_17_code 19 = .ok (.ifCond .eq 16, 3) := by decide +kernel
theorem d_M_isNothing_22 : decode prog_7_method_17_code 22 = .ok (.aload_n 0, 1) := by decide +kernel
theorem d_M_isNothing_23 : decode prog_7_method_17_code 23 = .ok (.getfield 7, 3) := by decide +kernel
theorem d_M_isNothing_26 : decode prog_7_method_17_code 26 = .ok (.iload_n 3, 1) := by decide +kernel
theorem d_M_isNothing_27 : decode prog_7_method_17_code 27 = .ok (.iaload, 1) := by decide +kernel
theorem d_M_isNothing_28 : decode prog_7_method_17_code 28 = .ok (.ifCond .ne 7, 3) := by decide +kernel
theorem d_M_isNothing_31 : decode prog_7_method_17_code 31 = .ok (.iconst 1, 1) := by decide +kernel
theorem d_M_isNothing_32 : decode prog_7_method_17_code 32 = .ok (.goto 4, 3) := by decide +kernel
theorem d_M_isNothing_36 : decode prog_7_method_17_code 36 = .ok (.istore_n 2, 1) := by decide +kernel
theorem d_M_isNothing_37 : decode prog_7_method_17_code 37 = .ok (.iinc 3 1, 3) := by decide +kernel
theorem d_M_isNothing_40 : decode prog_7_method_17_code 40 = .ok (.goto (-33), 3) := by decide +kernel
theorem d_M_isNothing_35 : decode prog_7_method_17_code 35 = .ok (.iconst 0, 1) := by decide +kernel
theorem d_M_isNothing_43 : decode prog_7_method_17_code 43 = .ok (.iload_n 2, 1) := by decide +kernel
theorem d_M_isNothing_44 : decode prog_7_method_17_code 44 = .ok (.ireturn, 1) := by decide +kernel
theorem d_M_forget_0 : decode prog_7_method_18_code 0 = .ok (.iconst 0, 1) := by decide +kernel
theorem d_M_forget_1 : decode prog_7_method_18_code 1 = .ok (.istore_n 1, 1) := by decide +kernel
theorem d_M_forget_2 : decode prog_7_method_18_code 2 = .ok (.iload_n 1, 1) := by decide +kernel
theorem d_M_forget_3 : decode prog_7_method_18_code 3 = .ok (.bipush 16, 2) := by decide +kernel
theorem d_M_forget_5 : decode prog_7_method_18_code 5 = .ok (.if_icmp .ge 16, 3) := by decide +kernel
theorem d_M_forget_8 : decode prog_7_method_18_code 8 = .ok (.aload_n 0, 1) := by decide +kernel
theorem d_M_forget_9 : decode prog_7_method_18_code 9 = .ok (.getfield 33, 3) := by decide +kernel
theorem d_M_forget_12 : decode prog_7_method_18_code 12 = .ok (.iload_n 1, 1) := by decide +kernel
theorem d_M_forget_13 : decode prog_7_method_18_code 13 = .ok (.iconst 0, 1) := by decide +kernel
theorem d_M_forget_14 : decode prog_7_method_18_code 14 = .ok (.bastore, 1) := by decide +kernel
theorem d_M_forget_15 : decode prog_7_method_18_code 15 = .ok (.iinc 1 1, 3) := by decide +kernel
theorem d_M_forget_18 : decode prog_7_method_18_code 18 = .ok (.goto (-16), 3) := by decide +kernel
theorem d_M_forget_21 : decode prog_7_method_18_code 21 = .ok (.iconst 0, 1) := by decide +kernel
theorem d_M_forget_22 : decode prog_7_method_18_code 22 = .ok (.istore_n 1, 1) := by decide +kernel
theorem d_M_forget_23 : decode prog_7_method_18_code 23 = .ok (.iload_n 1, 1) := by decide +kernel
theorem d_M_forget_24 : decode prog_7_method_18_code 24 = .ok (.bipush 40, 2) := by decide +kernel
theorem d_M_forget_26 : decode prog_7_method_18_code 26 = .ok (.if_icmp .ge 16, 3) := by decide +kernel
theorem d_M_forget_29 : decode prog_7_method_18_code 29 = .ok (.aload_n 0, 1) := by decide +kernel
theorem d_M_forget_30 : decode prog_7_method_18_code 30 = .ok (.getfield 58, 3) := by decide +kernel
theorem d_M_forget_33 : decode prog_7_method_18_code 33 = .ok (.iload_n 1, 1) := by decide +kernel
theorem d_M_forget_34 : decode prog_7_method_18_code 34 = .ok (.iconst (-1), 1) := by decide +kernel
theorem d_M_forget_35 : decode prog_7_method_18_code 35 = .ok (.iastore, 1) := by decide +kernel
theorem d_M_forget_36 : decode prog_7_method_18_code 36 = .ok (.iinc 1 1, 3) := by decide +kernel
theorem d_M_forget_39 : decode prog_7_method_18_code 39 = .ok (.goto (-16), 3) := by decide +kernel
theorem d_M_forget_42 : decode prog_7_method_18_code 42 = .ok (.iconst 0, 1) := by decide +kernel
theorem d_M_forget_43 : decode prog_7_method_18_code 43 = .ok (.istore_n 1, 1) := by decide +kernel
theorem d_M_forget_44 : decode prog_7_method_18_code 44 = .ok (.iload_n 1, 1) := by decide +kernel
theorem d_M_forget_45 : decode prog_7_method_18_code 45 = .ok (.bipush 8, 2) := by decide +kernel
theorem d_M_forget_47 : decode prog_7_method_18_code 47 = .ok (.if_icmp .ge 16, 3) := by decide +kernel
theorem d_M_forget_50 : decode prog_7_method_18_code 50 = .ok (.aload_n 0, 1) := by decide +kernel
theorem d_M_forget_51 : decode prog_7_method_18_code 51 = .ok (.getfield 17, 3) := by decide +kernel
theorem d_M_forget_54 : decode prog_7_method_18_code 54 = .ok (.iload_n 1, 1) := by decide +kernel
theorem d_M_forget_55 : decode prog_7_method_18_code 55 = .ok (.iconst 0, 1) := by decide +kernel
theorem d_M_forget_56 : decode prog_7_method_18_code 56 = .ok (.bastore, 1) := by decide +kernel
theorem d_M_forget_57 : decode prog_7_method_18_code 57 = .ok (.iinc 1 1, 3) := by decide +kernel
theorem d_M_forget_60 : decode prog_7_method_18_code 60 = .ok (.goto (-16), 3) := by decide +kernel
theorem d_M_forget_63 : decode prog_7_method_18_code 63 = .ok (.aload_n 0, 1) := by decide +kernel
theorem d_M_forget_64 : decode prog_7_method_18_code 64 = .ok (.iconst 0, 1) := by decide +kernel
theorem d_M_forget_65 : decode prog_7_method_18_code 65 = .ok (.putfield 143, 3) := by decide +kernel
theorem d_M_forget_68 : decode prog_7_method_18_code 68 = .ok (.return_, 1) := by decide +kernel
theorem d_M_isGone_0 : decode prog_7_method_19_code 0 = .ok (.aload_n 0, 1) := by decide +kernel
theorem d_M_isGone_1 : decode prog_7_method_19_code 1 = .ok (.getfield 130, 3) := by decide +kernel
theorem d_M_isGone_4 : decode prog_7_method_19_code 4 = .ok (.ifCond .eq 7, 3) := by decide +kernel
theorem d_M_isGone_7 : decode prog_7_method_19_code 7 = .ok (.aload_n 0, 1) := by decide +kernel
theorem d_M_isGone_8 : decode prog_7_method_19_code 8 = .ok (.invokevirtual 146, 3) := by decide +kernel
theorem d_M_isGone_11 : decode prog_7_method_19_code 11 = .ok (.aload_n 0, 1) := by decide +kernel
theorem d_M_isGone_12 : decode prog_7_method_19_code 12 = .ok (.getfield 130, 3) := by decide +kernel
theorem d_M_isGone_15 : decode prog_7_method_19_code 15 = .ok (.ireturn, 1) := by decide +kernel
theorem d_M_freeBlocks_0 : decode prog_7_method_20_code 0 = .ok (.iconst 0, 1) := by decide +kernel
theorem d_M_freeBlocks_1 : decode prog_7_method_20_code 1 = .ok (.istore_n 1, 1) := by decide +kernel
theorem d_M_freeBlocks_2 : decode prog_7_method_20_code 2 = .ok (.iconst 0, 1) := by decide +kernel
theorem d_M_freeBlocks_3 : decode prog_7_method_20_code 3 = .ok (.istore_n 2, 1) := by decide +kernel
theorem d_M_freeBlocks_4 : decode prog_7_method_20_code 4 = .ok (.iload_n 2, 1) := by decide +kernel
theorem d_M_freeBlocks_5 : decode prog_7_method_20_code 5 = .ok (.aload_n 0, 1) := by decide +kernel
theorem d_M_freeBlocks_6 : decode prog_7_method_20_code 6 = .ok (.getfield 91, 3) := by decide +kernel
theorem d_M_freeBlocks_9 : decode prog_7_method_20_code 9 = .ok (.if_icmp .ge 27, 3) := by decide +kernel
theorem d_M_freeBlocks_12 : decode prog_7_method_20_code 12 = .ok (.iload_n 1, 1) := by decide +kernel
theorem d_M_freeBlocks_13 : decode prog_7_method_20_code 13 = .ok (.aload_n 0, 1) := by decide +kernel
theorem d_M_freeBlocks_14 : decode prog_7_method_20_code 14 = .ok (.getfield 58, 3) := by decide +kernel
theorem d_M_freeBlocks_17 : decode prog_7_method_20_code 17 = .ok (.iload_n 2, 1) := by decide +kernel
theorem d_M_freeBlocks_18 : decode prog_7_method_20_code 18 = .ok (.iaload, 1) := by decide +kernel
theorem d_M_freeBlocks_19 : decode prog_7_method_20_code 19 = .ok (.iconst (-1), 1) := by decide +kernel
theorem d_M_freeBlocks_20 : decode prog_7_method_20_code 20 = .ok (.if_icmp .ne 7, 3) := by decide +kernel
theorem d_M_freeBlocks_23 : decode prog_7_method_20_code 23 = .ok (.iconst 1, 1) := by decide +kernel
theorem d_M_freeBlocks_24 : decode prog_7_method_20_code 24 = .ok (.goto 4, 3) := by decide +kernel
theorem d_M_freeBlocks_28 : decode prog_7_method_20_code 28 = .ok (.iadd, 1) := by decide +kernel
theorem d_M_freeBlocks_29 : decode prog_7_method_20_code 29 = .ok (.istore_n 1, 1) := by decide +kernel
theorem d_M_freeBlocks_30 : decode prog_7_method_20_code 30 = .ok (.iinc 2 1, 3) := by decide +kernel
theorem d_M_freeBlocks_33 : decode prog_7_method_20_code 33 = .ok (.goto (-29), 3) := by decide +kernel
theorem d_M_freeBlocks_27 : decode prog_7_method_20_code 27 = .ok (.iconst 0, 1) := by decide +kernel
theorem d_M_freeBlocks_36 : decode prog_7_method_20_code 36 = .ok (.iload_n 1, 1) := by decide +kernel
theorem d_M_freeBlocks_37 : decode prog_7_method_20_code 37 = .ok (.ireturn, 1) := by decide +kernel
theorem d_M_picture_0 : decode prog_7_method_21_code 0 = .ok (.iconst (-1), 1) := by decide +kernel
theorem d_M_picture_1 : decode prog_7_method_21_code 1 = .ok (.istore_n 3, 1) := by decide +kernel
theorem d_M_picture_2 : decode prog_7_method_21_code 2 = .ok (.bipush 7, 2) := by decide +kernel
theorem d_M_picture_4 : decode prog_7_method_21_code 4 = .ok (.istore 4, 2) := by decide +kernel
theorem d_M_picture_6 : decode prog_7_method_21_code 6 = .ok (.iload 4, 2) := by decide +kernel
theorem d_M_picture_8 : decode prog_7_method_21_code 8 = .ok (.ifCond .lt 26, 3) := by decide +kernel
theorem d_M_picture_11 : decode prog_7_method_21_code 11 = .ok (.aload_n 0, 1) := by decide +kernel
theorem d_M_picture_12 : decode prog_7_method_21_code 12 = .ok (.getfield 17, 3) := by decide +kernel
theorem d_M_picture_15 : decode prog_7_method_21_code 15 = .ok (.iload 4, 2) := by decide +kernel
theorem d_M_picture_17 : decode prog_7_method_21_code 17 = .ok (.baload, 1) := by decide +kernel
theorem d_M_picture_18 : decode prog_7_method_21_code 18 = .ok (.ifCond .eq 7, 3) := by decide +kernel
theorem d_M_picture_21 : decode prog_7_method_21_code 21 = .ok (.iload_n 3, 1) := by decide +kernel
theorem d_M_picture_22 : decode prog_7_method_21_code 22 = .ok (.goto 5, 3) := by decide +kernel
theorem d_M_picture_27 : decode prog_7_method_21_code 27 = .ok (.istore_n 3, 1) := by decide +kernel
theorem d_M_picture_28 : decode prog_7_method_21_code 28 = .ok (.iinc 4 (-1), 3) := by decide +kernel
theorem d_M_picture_31 : decode prog_7_method_21_code 31 = .ok (.goto (-25), 3) := by decide +kernel
theorem d_M_picture_25 : decode prog_7_method_21_code 25 = .ok (.iload 4, 2) := by decide +kernel
theorem d_M_picture_34 : decode prog_7_method_21_code 34 = .ok (.aload_n 0, 1) := by decide +kernel
theorem d_M_picture_35 : decode prog_7_method_21_code 35 = .ok (.aload_n 0, 1) := by decide +kernel
theorem d_M_picture_36 : decode prog_7_method_21_code 36 = .ok (.getfield 130, 3) := by decide +kernel
theorem d_M_picture_39 : decode prog_7_method_21_code 39 = .ok (.ifCond .eq 7, 3) := by decide +kernel
theorem d_M_picture_42 : decode prog_7_method_21_code 42 = .ok (.iconst 1, 1) := by decide +kernel
theorem d_M_picture_43 : decode prog_7_method_21_code 43 = .ok (.goto 39, 3) := by decide +kernel
theorem d_M_picture_82 : decode prog_7_method_21_code 82 = .ok (.putfield 102, 3) := by decide +kernel
theorem d_M_picture_85 : decode prog_7_method_21_code 85 = .ok (.aload_n 0, 1) := by decide +kernel
theorem d_M_picture_86 : decode prog_7_method_21_code 86 = .ok (.getfield 102, 3) := by decide +kernel
theorem d_M_picture_89 : decode prog_7_method_21_code 89 = .ok (.ifCond .le 5, 3) := by decide +kernel
theorem d_M_picture_92 : decode prog_7_method_21_code 92 = .ok (.iconst 0, 1) := by decide +kernel
theorem d_M_picture_93 : decode prog_7_method_21_code 93 = .ok (.ireturn, 1) := by decide +kernel
theorem d_M_picture_94 : decode prog_7_method_21_code 94 = .ok (.aload_n 0, 1) := by decide +kernel
theorem d_M_picture_95 : decode prog_7_method_21_code 95 = .ok (.getfield 17, 3) := by decide +kernel
theorem d_M_picture_98 : decode prog_7_method_21_code 98 = .ok (.iload_n 3, 1) := by decide +kernel
theorem d_M_picture_99 : decode prog_7_method_21_code 99 = .ok (.iconst 1, 1) := by decide +kernel
theorem d_M_picture_100 : decode prog_7_method_21_code 100 = .ok (.bastore, 1) := by decide +kernel
theorem d_M_picture_101 : decode prog_7_method_21_code 101 = .ok (.aload_n 0, 1) := by decide +kernel
theorem d_M_picture_102 : decode prog_7_method_21_code 102 = .ok (.getfield 21, 3) := by decide +kernel
theorem d_M_picture_105 : decode prog_7_method_21_code 105 = .ok (.iload_n 3, 1) := by decide +kernel
theorem d_M_picture_106 : decode prog_7_method_21_code 106 = .ok (.iload_n 1, 1) := by decide +kernel
theorem d_M_picture_107 : decode prog_7_method_21_code 107 = .ok (.iastore, 1) := by decide +kernel
theorem d_M_picture_108 : decode prog_7_method_21_code 108 = .ok (.aload_n 0, 1) := by decide +kernel
theorem d_M_picture_109 : decode prog_7_method_21_code 109 = .ok (.getfield 24, 3) := by decide +kernel
theorem d_M_picture_112 : decode prog_7_method_21_code 112 = .ok (.iload_n 3, 1) := by decide +kernel
theorem d_M_picture_113 : decode prog_7_method_21_code 113 = .ok (.iload_n 2, 1) := by decide +kernel
theorem d_M_picture_114 : decode prog_7_method_21_code 114 = .ok (.iastore, 1) := by decide +kernel
theorem d_M_picture_115 : decode prog_7_method_21_code 115 = .ok (.aload_n 0, 1) := by decide +kernel
theorem d_M_picture_116 : decode prog_7_method_21_code 116 = .ok (.getfield 27, 3) := by decide +kernel
theorem d_M_picture_119 : decode prog_7_method_21_code 119 = .ok (.iload_n 3, 1) := by decide +kernel
theorem d_M_picture_120 : decode prog_7_method_21_code 120 = .ok (.iconst 0, 1) := by decide +kernel
theorem d_M_picture_121 : decode prog_7_method_21_code 121 = .ok (.iastore, 1) := by decide +kernel
theorem d_M_picture_122 : decode prog_7_method_21_code 122 = .ok (.iload_n 3, 1) := by decide +kernel
theorem d_M_picture_123 : decode prog_7_method_21_code 123 = .ok (.ireturn, 1) := by decide +kernel
theorem d_M_picture_46 : decode prog_7_method_21_code 46 = .ok (.iload_n 1, 1) := by decide +kernel
theorem d_M_picture_47 : decode prog_7_method_21_code 47 = .ok (.iconst 1, 1) := by decide +kernel
theorem d_M_picture_48 : decode prog_7_method_21_code 48 = .ok (.if_icmp .lt 20, 3) := by decide +kernel
theorem d_M_picture_51 : decode prog_7_method_21_code 51 = .ok (.iload_n 1, 1) := by decide +kernel
theorem d_M_picture_52 : decode prog_7_method_21_code 52 = .ok (.bipush 8, 2) := by decide +kernel
theorem d_M_picture_54 : decode prog_7_method_21_code 54 = .ok (.if_icmp .gt 14, 3) := by decide +kernel
theorem d_M_picture_57 : decode prog_7_method_21_code 57 = .ok (.iload_n 2, 1) := by decide +kernel
theorem d_M_picture_58 : decode prog_7_method_21_code 58 = .ok (.iconst 1, 1) := by decide +kernel
theorem d_M_picture_59 : decode prog_7_method_21_code 59 = .ok (.if_icmp .lt 9, 3) := by decide +kernel
theorem d_M_picture_62 : decode prog_7_method_21_code 62 = .ok (.iload_n 2, 1) := by decide +kernel
theorem d_M_picture_63 : decode prog_7_method_21_code 63 = .ok (.bipush 8, 2) := by decide +kernel
theorem d_M_picture_65 : decode prog_7_method_21_code 65 = .ok (.if_icmp .le 7, 3) := by decide +kernel
theorem d_M_picture_68 : decode prog_7_method_21_code 68 = .ok (.iconst 2, 1) := by decide +kernel
theorem d_M_picture_69 : decode prog_7_method_21_code 69 = .ok (.goto 13, 3) := by decide +kernel
theorem d_M_picture_72 : decode prog_7_method_21_code 72 = .ok (.iload_n 3, 1) := by decide +kernel
theorem d_M_picture_73 : decode prog_7_method_21_code 73 = .ok (.iconst (-1), 1) := by decide +kernel
theorem d_M_picture_74 : decode prog_7_method_21_code 74 = .ok (.if_icmp .ne 7, 3) := by decide +kernel
theorem d_M_picture_77 : decode prog_7_method_21_code 77 = .ok (.iconst 3, 1) := by decide +kernel
theorem d_M_picture_78 : decode prog_7_method_21_code 78 = .ok (.goto 4, 3) := by decide +kernel
theorem d_M_picture_81 : decode prog_7_method_21_code 81 = .ok (.iconst 0, 1) := by decide +kernel
theorem d_M_isMade_0 : decode prog_7_method_22_code 0 = .ok (.iload_n 1, 1) := by decide +kernel
theorem d_M_isMade_1 : decode prog_7_method_22_code 1 = .ok (.ifCond .lt 22, 3) := by decide +kernel
theorem d_M_isMade_4 : decode prog_7_method_22_code 4 = .ok (.iload_n 1, 1) := by decide +kernel
theorem d_M_isMade_5 : decode prog_7_method_22_code 5 = .ok (.bipush 8, 2) := by decide +kernel
theorem d_M_isMade_7 : decode prog_7_method_22_code 7 = .ok (.if_icmp .ge 16, 3) := by decide +kernel
theorem d_M_isMade_10 : decode prog_7_method_22_code 10 = .ok (.aload_n 0, 1) := by decide +kernel
theorem d_M_isMade_11 : decode prog_7_method_22_code 11 = .ok (.getfield 17, 3) := by decide +kernel
theorem d_M_isMade_14 : decode prog_7_method_22_code 14 = .ok (.iload_n 1, 1) := by decide +kernel
theorem d_M_isMade_15 : decode prog_7_method_22_code 15 = .ok (.baload, 1) := by decide +kernel
theorem d_M_isMade_16 : decode prog_7_method_22_code 16 = .ok (.ifCond .eq 7, 3) := by decide +kernel
theorem d_M_isMade_19 : decode prog_7_method_22_code 19 = .ok (.iconst 1, 1) := by decide +kernel
theorem d_M_isMade_20 : decode prog_7_method_22_code 20 = .ok (.goto 4, 3) := by decide +kernel
theorem d_M_isMade_24 : decode prog_7_method_22_code 24 = .ok (.ireturn, 1) := by decide +kernel
theorem d_M_isMade_23 : decode prog_7_method_22_code 23 = .ok (.iconst 0, 1) := by decide +kernel
theorem d_M_isWhole_0 : decode prog_7_method_23_code 0 = .ok (.aload_n 0, 1) := by decide +kernel
theorem d_M_isWhole_1 : decode prog_7_method_23_code 1 = .ok (.getfield 27, 3) := by decide +kernel
theorem d_M_isWhole_4 : decode prog_7_method_23_code 4 = .ok (.iload_n 1, 1) := by decide +kernel
theorem d_M_isWhole_5 : decode prog_7_method_23_code 5 = .ok (.iaload, 1) := by decide +kernel
theorem d_M_isWhole_6 : decode prog_7_method_23_code 6 = .ok (.aload_n 0, 1) := by decide +kernel
theorem d_M_isWhole_7 : decode prog_7_method_23_code 7 = .ok (.getfield 21, 3) := by decide +kernel
theorem d_M_isWhole_10 : decode prog_7_method_23_code 10 = .ok (.iload_n 1, 1) := by decide +kernel
theorem d_M_isWhole_11 : decode prog_7_method_23_code 11 = .ok (.iaload, 1) := by decide +kernel
theorem d_M_isWhole_12 : decode prog_7_method_23_code 12 = .ok (.aload_n 0, 1) := by decide +kernel
theorem d_M_isWhole_13 : decode prog_7_method_23_code 13 = .ok (.getfield 24, 3) := by decide +kernel
theorem d_M_isWhole_16 : decode prog_7_method_23_code 16 = .ok (.iload_n 1, 1) := by decide +kernel
theorem d_M_isWhole_17 : decode prog_7_method_23_code 17 = .ok (.iaload, 1) := by decide +kernel
theorem d_M_isWhole_18 : decode prog_7_method_23_code 18 = .ok (.imul, 1) := by decide +kernel
theorem d_M_isWhole_19 : decode prog_7_method_23_code 19 = .ok (.if_icmp .ne 7, 3) := by decide +kernel
theorem d_M_isWhole_22 : decode prog_7_method_23_code 22 = .ok (.iconst 1, 1) := by decide +kernel
theorem d_M_isWhole_23 : decode prog_7_method_23_code 23 = .ok (.goto 4, 3) := by decide +kernel
theorem d_M_isWhole_27 : decode prog_7_method_23_code 27 = .ok (.ireturn, 1) := by decide +kernel
theorem d_M_isWhole_26 : decode prog_7_method_23_code 26 = .ok (.iconst 0, 1) := by decide +kernel
theorem d_M_samples_0 : decode prog_7_method_24_code 0 = .ok (.aload_n 0, 1) := by decide +kernel
theorem d_M_samples_1 : decode prog_7_method_24_code 1 = .ok (.aload_n 0, 1) := by decide +kernel
theorem d_M_samples_2 : decode prog_7_method_24_code 2 = .ok (.getfield 130, 3) := by decide +kernel
theorem d_M_samples_5 : decode prog_7_method_24_code 5 = .ok (.ifCond .eq 7, 3) := by decide +kernel
theorem d_M_samples_8 : decode prog_7_method_24_code 8 = .ok (.iconst 1, 1) := by decide +kernel
theorem d_M_samples_9 : decode prog_7_method_24_code 9 = .ok (.goto 25, 3) := by decide +kernel
theorem d_M_samples_34 : decode prog_7_method_24_code 34 = .ok (.putfield 102, 3) := by decide +kernel
theorem d_M_samples_37 : decode prog_7_method_24_code 37 = .ok (.aload_n 0, 1) := by decide +kernel
theorem d_M_samples_38 : decode prog_7_method_24_code 38 = .ok (.getfield 102, 3) := by decide +kernel
theorem d_M_samples_41 : decode prog_7_method_24_code 41 = .ok (.ifCond .le 5, 3) := by decide +kernel
theorem d_M_samples_44 : decode prog_7_method_24_code 44 = .ok (.iconst 0, 1) := by decide +kernel
theorem d_M_samples_45 : decode prog_7_method_24_code 45 = .ok (.ireturn, 1) := by decide +kernel
theorem d_M_samples_12 : decode prog_7_method_24_code 12 = .ok (.aload_n 0, 1) := by decide +kernel
theorem d_M_samples_13 : decode prog_7_method_24_code 13 = .ok (.iload_n 1, 1) := by decide +kernel
theorem d_M_samples_14 : decode prog_7_method_24_code 14 = .ok (.invokevirtual 149, 3) := by decide +kernel
theorem d_M_samples_17 : decode prog_7_method_24_code 17 = .ok (.ifCond .ne 7, 3) := by decide +kernel
theorem d_M_samples_20 : decode prog_7_method_24_code 20 = .ok (.iconst 2, 1) := by decide +kernel
theorem d_M_samples_21 : decode prog_7_method_24_code 21 = .ok (.goto 13, 3) := by decide +kernel
theorem d_M_samples_24 : decode prog_7_method_24_code 24 = .ok (.iload_n 2, 1) := by decide +kernel
theorem d_M_samples_25 : decode prog_7_method_24_code 25 = .ok (.iconst 1, 1) := by decide +kernel
theorem d_M_samples_26 : decode prog_7_method_24_code 26 = .ok (.if_icmp .ge 7, 3) := by decide +kernel
theorem d_M_samples_29 : decode prog_7_method_24_code 29 = .ok (.iconst 3, 1) := by decide +kernel
theorem d_M_samples_30 : decode prog_7_method_24_code 30 = .ok (.goto 4, 3) := by decide +kernel
theorem d_M_samples_33 : decode prog_7_method_24_code 33 = .ok (.iconst 0, 1) := by decide +kernel
theorem d_M_keep_0 : decode prog_7_method_25_code 0 = .ok (.aload_n 0, 1) := by decide +kernel
theorem d_M_keep_1 : decode prog_7_method_25_code 1 = .ok (.aload_n 0, 1) := by decide +kernel
theorem d_M_keep_2 : decode prog_7_method_25_code 2 = .ok (.getfield 130, 3) := by decide +kernel
theorem d_M_keep_5 : decode prog_7_method_25_code 5 = .ok (.ifCond .eq 7, 3) := by decide +kernel
theorem d_M_keep_8 : decode prog_7_method_25_code 8 = .ok (.iconst 1, 1) := by decide +kernel
theorem d_M_keep_9 : decode prog_7_method_25_code 9 = .ok (.goto 28, 3) := by decide +kernel
theorem d_M_keep_37 : decode prog_7_method_25_code 37 = .ok (.putfield 102, 3) := by decide +kernel
theorem d_M_keep_40 : decode prog_7_method_25_code 40 = .ok (.aload_n 0, 1) := by decide +kernel
theorem d_M_keep_41 : decode prog_7_method_25_code 41 = .ok (.getfield 102, 3) := by decide +kernel
theorem d_M_keep_44 : decode prog_7_method_25_code 44 = .ok (.ifCond .le 5, 3) := by decide +kernel
theorem d_M_keep_47 : decode prog_7_method_25_code 47 = .ok (.iconst 0, 1) := by decide +kernel
theorem d_M_keep_48 : decode prog_7_method_25_code 48 = .ok (.ireturn, 1) := by decide +kernel
theorem d_M_keep_12 : decode prog_7_method_25_code 12 = .ok (.aload_n 0, 1) := by decide +kernel
theorem d_M_keep_13 : decode prog_7_method_25_code 13 = .ok (.iload_n 1, 1) := by decide +kernel
theorem d_M_keep_14 : decode prog_7_method_25_code 14 = .ok (.invokevirtual 149, 3) := by decide +kernel
theorem d_M_keep_17 : decode prog_7_method_25_code 17 = .ok (.ifCond .ne 7, 3) := by decide +kernel
theorem d_M_keep_20 : decode prog_7_method_25_code 20 = .ok (.iconst 2, 1) := by decide +kernel
theorem d_M_keep_21 : decode prog_7_method_25_code 21 = .ok (.goto 16, 3) := by decide +kernel
theorem d_M_keep_24 : decode prog_7_method_25_code 24 = .ok (.aload_n 0, 1) := by decide +kernel
theorem d_M_keep_25 : decode prog_7_method_25_code 25 = .ok (.iload_n 1, 1) := by decide +kernel
theorem d_M_keep_26 : decode prog_7_method_25_code 26 = .ok (.invokevirtual 152, 3) := by decide +kernel
theorem d_M_keep_29 : decode prog_7_method_25_code 29 = .ok (.ifCond .ne 7, 3) := by decide +kernel
theorem d_M_keep_32 : decode prog_7_method_25_code 32 = .ok (.iconst 3, 1) := by decide +kernel
theorem d_M_keep_33 : decode prog_7_method_25_code 33 = .ok (.goto 4, 3) := by decide +kernel
theorem d_M_keep_36 : decode prog_7_method_25_code 36 = .ok (.iconst 0, 1) := by decide +kernel
theorem d_M_isThere_0 : decode prog_7_method_26_code 0 = .ok (.iload_n 1, 1) := by decide +kernel
theorem d_M_isThere_1 : decode prog_7_method_26_code 1 = .ok (.ifCond .lt 22, 3) := by decide +kernel
theorem d_M_isThere_4 : decode prog_7_method_26_code 4 = .ok (.iload_n 1, 1) := by decide +kernel
theorem d_M_isThere_5 : decode prog_7_method_26_code 5 = .ok (.bipush 16, 2) := by decide +kernel
theorem d_M_isThere_7 : decode prog_7_method_26_code 7 = .ok (.if_icmp .ge 16, 3) := by decide +kernel
theorem d_M_isThere_10 : decode prog_7_method_26_code 10 = .ok (.aload_n 0, 1) := by decide +kernel
theorem d_M_isThere_11 : decode prog_7_method_26_code 11 = .ok (.getfield 33, 3) := by decide +kernel
theorem d_M_isThere_14 : decode prog_7_method_26_code 14 = .ok (.iload_n 1, 1) := by decide +kernel
theorem d_M_isThere_15 : decode prog_7_method_26_code 15 = .ok (.baload, 1) := by decide +kernel
theorem d_M_isThere_16 : decode prog_7_method_26_code 16 = .ok (.ifCond .eq 7, 3) := by decide +kernel
theorem d_M_isThere_19 : decode prog_7_method_26_code 19 = .ok (.iconst 1, 1) := by decide +kernel
theorem d_M_isThere_20 : decode prog_7_method_26_code 20 = .ok (.goto 4, 3) := by decide +kernel
theorem d_M_isThere_24 : decode prog_7_method_26_code 24 = .ok (.ireturn, 1) := by decide +kernel
theorem d_M_isThere_23 : decode prog_7_method_26_code 23 = .ok (.iconst 0, 1) := by decide +kernel
theorem d_M_digest_0 : decode prog_7_method_27_code 0 = .ok (.aload_n 0, 1) := by decide +kernel
theorem d_M_digest_1 : decode prog_7_method_27_code 1 = .ok (.aload_n 0, 1) := by decide +kernel
theorem d_M_digest_2 : decode prog_7_method_27_code 2 = .ok (.getfield 130, 3) := by decide +kernel
theorem d_M_digest_5 : decode prog_7_method_27_code 5 = .ok (.ifCond .eq 7, 3) := by decide +kernel
theorem d_M_digest_8 : decode prog_7_method_27_code 8 = .ok (.iconst 1, 1) := by decide +kernel
theorem d_M_digest_9 : decode prog_7_method_27_code 9 = .ok (.goto 26, 3) := by decide +kernel
theorem d_M_digest_35 : decode prog_7_method_27_code 35 = .ok (.putfield 102, 3) := by decide +kernel
theorem d_M_digest_38 : decode prog_7_method_27_code 38 = .ok (.aload_n 0, 1) := by decide +kernel
theorem d_M_digest_39 : decode prog_7_method_27_code 39 = .ok (.getfield 102, 3) := by decide +kernel
theorem d_M_digest_42 : decode prog_7_method_27_code 42 = .ok (.ifCond .le 5, 3) := by decide +kernel
theorem d_M_digest_45 : decode prog_7_method_27_code 45 = .ok (.iconst 0, 1) := by decide +kernel
theorem d_M_digest_46 : decode prog_7_method_27_code 46 = .ok (.ireturn, 1) := by decide +kernel
theorem d_M_digest_12 : decode prog_7_method_27_code 12 = .ok (.aload_n 0, 1) := by decide +kernel
theorem d_M_digest_13 : decode prog_7_method_27_code 13 = .ok (.iload_n 1, 1) := by decide +kernel
theorem d_M_digest_14 : decode prog_7_method_27_code 14 = .ok (.invokevirtual 181, 3) := by decide +kernel
theorem d_M_digest_17 : decode prog_7_method_27_code 17 = .ok (.ifCond .eq 13, 3) := by decide +kernel
theorem d_M_digest_20 : decode prog_7_method_27_code 20 = .ok (.iload_n 2, 1) := by decide +kernel
theorem d_M_digest_21 : decode prog_7_method_27_code 21 = .ok (.ifCond .lt 9, 3) := by decide +kernel
theorem d_M_digest_24 : decode prog_7_method_27_code 24 = .ok (.iload_n 2, 1) := by decide +kernel
theorem d_M_digest_25 : decode prog_7_method_27_code 25 = .ok (.bipush 7, 2) := by decide +kernel
theorem d_M_digest_27 : decode prog_7_method_27_code 27 = .ok (.if_icmp .le 7, 3) := by decide +kernel
theorem d_M_digest_30 : decode prog_7_method_27_code 30 = .ok (.iconst 2, 1) := by decide +kernel
theorem d_M_digest_31 : decode prog_7_method_27_code 31 = .ok (.goto 4, 3) := by decide +kernel
theorem d_M_digest_34 : decode prog_7_method_27_code 34 = .ok (.iconst 0, 1) := by decide +kernel
def f_M_thrown (xn : Nat)  (z0 : x_St) : Option (Int32 × x_St) :=
  (some ((z0.1 0 0), z0))
def f_M_write (xn : Nat) (p1 : Int32) (p2 : Int32) (z0 : x_St) : Option (Unit × x_St) :=
  (if (z0.1 0 3) = 0 then
  (if (z0.1 0 4) = 0 then
  (some ((), (x_put z0 0 3 (1 : Int32))))
  else
  (if (z0.1 0 4) ≤ 0 then
  (x_ck p1 (m_ln xn 1)
  (some ((), (x_put (x_put z0 0 4 ((z0.1 0 4) - (0 : Int32))) 1 (p1).toNatClampNeg p2))))
  else
  (x_ck p1 (m_ln xn 1)
  (some ((), (x_put (x_put z0 0 4 ((z0.1 0 4) - (1 : Int32))) 1 (p1).toNatClampNeg p2))))))
  else
  (some ((), z0)))
def f_M_wipe_15 (xn : Nat) : Nat → Int32 → Int32 → x_St → Option (Unit × x_St)
  | 0, _, _, _ => none
  | fu + 1, a2, a3, z0 =>
    (if (64 : Int32) ≤ a3 then
    (some ((), z0))
    else
    (if a3 = (4 : Int32) then
    (f_M_wipe_15 xn fu a2 (a3 + (1 : Int32)) z0)
    else
    (x_cl (f_M_write xn (a2 + a3) (0 : Int32) z0) (fun r3 z3 =>
    (f_M_wipe_15 xn fu a2 (a3 + (1 : Int32)) z3)))))
def f_M_wipe (xn : Nat) (p1 : Int32) (z0 : x_St) : Option (Unit × x_St) :=
  (x_cl (f_M_write xn (((64 : Int32) * p1) + (4 : Int32)) (0 : Int32) z0) (fun r5 z5 =>
  (f_M_wipe_15 xn x_FU ((64 : Int32) * p1) (0 : Int32) z5)))
def f_M_sumOf_49 (xn : Nat) (a2 : Int32) (z0 : x_St) : Option (Int32 × x_St) :=
  (some (a2, z0))
def f_M_sumOf_8 (xn : Nat) : Nat → Int32 → Int32 → Int32 → x_St → Option (Int32 × x_St)
  | 0, _, _, _, _ => none
  | fu + 1, a1, a2, a3, z0 =>
    (if (64 : Int32) ≤ a3 then
    (f_M_sumOf_49 xn a2 z0)
    else
    (x_ck (((64 : Int32) * a1) + a3) (m_ln xn 1)
    (f_M_sumOf_8 xn fu a1 ((((a2 ^^^ (z0.1 1 ((((64 : Int32) * a1) + a3)).toNatClampNeg)) <<< ((7 : Int32) &&& 31)) ||| (x_ushr (a2 ^^^ (z0.1 1 ((((64 : Int32) * a1) + a3)).toNatClampNeg)) (25 : Int32))) * (374761393 : Int32)) (a3 + (1 : Int32)) z0)))
def f_M_sumOf (xn : Nat) (p1 : Int32) (z0 : x_St) : Option (Int32 × x_St) :=
  (f_M_sumOf_8 xn x_FU p1 (p1 + (256 : Int32)) (4 : Int32) z0)
def f_M_isNothing_43 (xn : Nat) (a2 : Int32) (z0 : x_St) : Option (Int32 × x_St) :=
  (x_ckb a2
  (some (a2, z0)))
def f_M_isNothing_7 (xn : Nat) : Nat → Int32 → Int32 → Int32 → x_St → Option (Int32 × x_St)
  | 0, _, _, _, _ => none
  | fu + 1, a1, a2, a3, z0 =>
    (if (((64 : Int32) * a1) + (64 : Int32)) ≤ a3 then
    (f_M_isNothing_43 xn a2 z0)
    else
    (if a2 = 0 then
    (f_M_isNothing_7 xn fu a1 (0 : Int32) (a3 + (1 : Int32)) z0)
    else
    (x_ck a3 (m_ln xn 1)
    (if (z0.1 1 (a3).toNatClampNeg) = 0 then
    (f_M_isNothing_7 xn fu a1 (1 : Int32) (a3 + (1 : Int32)) z0)
    else
    (f_M_isNothing_7 xn fu a1 (0 : Int32) (a3 + (1 : Int32)) z0)))))
def f_M_isNothing (xn : Nat) (p1 : Int32) (z0 : x_St) : Option (Int32 × x_St) :=
  (f_M_isNothing_7 xn x_FU p1 (1 : Int32) ((64 : Int32) * p1) z0)
def f_M_forget_63 (xn : Nat)  (z0 : x_St) : Option (Unit × x_St) :=
  (some ((), (x_put z0 0 19 (0 : Int32))))
def f_M_forget_44 (xn : Nat) : Nat → Int32 → x_St → Option (Unit × x_St)
  | 0, _, _ => none
  | fu + 1, a1, z0 =>
    (if (8 : Int32) ≤ a1 then
    (f_M_forget_63 xn z0)
    else
    (x_ck a1 (m_ln xn 2)
    (f_M_forget_44 xn fu (a1 + (1 : Int32)) (x_put z0 2 (a1).toNatClampNeg (vp_nar .boolean (0 : Int32))))))
def f_M_forget_42 (xn : Nat)  (z0 : x_St) : Option (Unit × x_St) :=
  (f_M_forget_44 xn x_FU (0 : Int32) z0)
def f_M_forget_23 (xn : Nat) : Nat → Int32 → x_St → Option (Unit × x_St)
  | 0, _, _ => none
  | fu + 1, a1, z0 =>
    (if (40 : Int32) ≤ a1 then
    (f_M_forget_42 xn z0)
    else
    (x_ck a1 (m_ln xn 15)
    (f_M_forget_23 xn fu (a1 + (1 : Int32)) (x_put z0 15 (a1).toNatClampNeg (-1 : Int32)))))
def f_M_forget_21 (xn : Nat)  (z0 : x_St) : Option (Unit × x_St) :=
  (f_M_forget_23 xn x_FU (0 : Int32) z0)
def f_M_forget_2 (xn : Nat) : Nat → Int32 → x_St → Option (Unit × x_St)
  | 0, _, _ => none
  | fu + 1, a1, z0 =>
    (if (16 : Int32) ≤ a1 then
    (f_M_forget_21 xn z0)
    else
    (x_ck a1 (m_ln xn 7)
    (f_M_forget_2 xn fu (a1 + (1 : Int32)) (x_put z0 7 (a1).toNatClampNeg (vp_nar .boolean (0 : Int32))))))
def f_M_forget (xn : Nat)  (z0 : x_St) : Option (Unit × x_St) :=
  (f_M_forget_2 xn x_FU (0 : Int32) z0)
def f_M_isGone_11 (xn : Nat)  (z0 : x_St) : Option (Int32 × x_St) :=
  (x_ckb (z0.1 0 3)
  (some ((z0.1 0 3), z0)))
def f_M_isGone (xn : Nat)  (z0 : x_St) : Option (Int32 × x_St) :=
  (if (z0.1 0 3) = 0 then
  (f_M_isGone_11 xn z0)
  else
  (x_cl (f_M_forget xn z0) (fun r2 z2 =>
  (f_M_isGone_11 xn z2))))
def f_M_freeBlocks_36 (xn : Nat) (a1 : Int32) (z0 : x_St) : Option (Int32 × x_St) :=
  (some (a1, z0))
def f_M_freeBlocks_4 (xn : Nat) : Nat → Int32 → Int32 → x_St → Option (Int32 × x_St)
  | 0, _, _, _ => none
  | fu + 1, a1, a2, z0 =>
    (if (z0.1 0 1) ≤ a2 then
    (f_M_freeBlocks_36 xn a1 z0)
    else
    (x_ck a2 (m_ln xn 15)
    (if (z0.1 15 (a2).toNatClampNeg) = (-1 : Int32) then
    (f_M_freeBlocks_4 xn fu (a1 + (1 : Int32)) (a2 + (1 : Int32)) z0)
    else
    (f_M_freeBlocks_4 xn fu (a1 + (0 : Int32)) (a2 + (1 : Int32)) z0))))
def f_M_freeBlocks (xn : Nat)  (z0 : x_St) : Option (Int32 × x_St) :=
  (f_M_freeBlocks_4 xn x_FU (0 : Int32) (0 : Int32) z0)
def f_M_picture_34 (xn : Nat) (a1 : Int32) (a2 : Int32) (a3 : Int32) (z0 : x_St) : Option (Int32 × x_St) :=
  (if (z0.1 0 3) = 0 then
  (if a1 < (1 : Int32) then
  (if ((x_put z0 0 0 (2 : Int32)).1 0 0) ≤ 0 then
  (x_ck a3 (m_ln xn 2)
  (x_ck a3 (m_ln xn 3)
  (x_ck a3 (m_ln xn 4)
  (x_ck a3 (m_ln xn 5)
  (some (a3, (x_put (x_put (x_put (x_put (x_put z0 0 0 (2 : Int32)) 2 (a3).toNatClampNeg (vp_nar .boolean (1 : Int32))) 3 (a3).toNatClampNeg a1) 4 (a3).toNatClampNeg a2) 5 (a3).toNatClampNeg (0 : Int32))))))))
  else
  (some ((0 : Int32), (x_put z0 0 0 (2 : Int32)))))
  else
  (if (8 : Int32) < a1 then
  (if ((x_put z0 0 0 (2 : Int32)).1 0 0) ≤ 0 then
  (x_ck a3 (m_ln xn 2)
  (x_ck a3 (m_ln xn 3)
  (x_ck a3 (m_ln xn 4)
  (x_ck a3 (m_ln xn 5)
  (some (a3, (x_put (x_put (x_put (x_put (x_put z0 0 0 (2 : Int32)) 2 (a3).toNatClampNeg (vp_nar .boolean (1 : Int32))) 3 (a3).toNatClampNeg a1) 4 (a3).toNatClampNeg a2) 5 (a3).toNatClampNeg (0 : Int32))))))))
  else
  (some ((0 : Int32), (x_put z0 0 0 (2 : Int32)))))
  else
  (if a2 < (1 : Int32) then
  (if ((x_put z0 0 0 (2 : Int32)).1 0 0) ≤ 0 then
  (x_ck a3 (m_ln xn 2)
  (x_ck a3 (m_ln xn 3)
  (x_ck a3 (m_ln xn 4)
  (x_ck a3 (m_ln xn 5)
  (some (a3, (x_put (x_put (x_put (x_put (x_put z0 0 0 (2 : Int32)) 2 (a3).toNatClampNeg (vp_nar .boolean (1 : Int32))) 3 (a3).toNatClampNeg a1) 4 (a3).toNatClampNeg a2) 5 (a3).toNatClampNeg (0 : Int32))))))))
  else
  (some ((0 : Int32), (x_put z0 0 0 (2 : Int32)))))
  else
  (if a2 ≤ (8 : Int32) then
  (if a3 = (-1 : Int32) then
  (if ((x_put z0 0 0 (3 : Int32)).1 0 0) ≤ 0 then
  (x_ck a3 (m_ln xn 2)
  (x_ck a3 (m_ln xn 3)
  (x_ck a3 (m_ln xn 4)
  (x_ck a3 (m_ln xn 5)
  (some (a3, (x_put (x_put (x_put (x_put (x_put z0 0 0 (3 : Int32)) 2 (a3).toNatClampNeg (vp_nar .boolean (1 : Int32))) 3 (a3).toNatClampNeg a1) 4 (a3).toNatClampNeg a2) 5 (a3).toNatClampNeg (0 : Int32))))))))
  else
  (some ((0 : Int32), (x_put z0 0 0 (3 : Int32)))))
  else
  (if ((x_put z0 0 0 (0 : Int32)).1 0 0) ≤ 0 then
  (x_ck a3 (m_ln xn 2)
  (x_ck a3 (m_ln xn 3)
  (x_ck a3 (m_ln xn 4)
  (x_ck a3 (m_ln xn 5)
  (some (a3, (x_put (x_put (x_put (x_put (x_put z0 0 0 (0 : Int32)) 2 (a3).toNatClampNeg (vp_nar .boolean (1 : Int32))) 3 (a3).toNatClampNeg a1) 4 (a3).toNatClampNeg a2) 5 (a3).toNatClampNeg (0 : Int32))))))))
  else
  (some ((0 : Int32), (x_put z0 0 0 (0 : Int32))))))
  else
  (if ((x_put z0 0 0 (2 : Int32)).1 0 0) ≤ 0 then
  (x_ck a3 (m_ln xn 2)
  (x_ck a3 (m_ln xn 3)
  (x_ck a3 (m_ln xn 4)
  (x_ck a3 (m_ln xn 5)
  (some (a3, (x_put (x_put (x_put (x_put (x_put z0 0 0 (2 : Int32)) 2 (a3).toNatClampNeg (vp_nar .boolean (1 : Int32))) 3 (a3).toNatClampNeg a1) 4 (a3).toNatClampNeg a2) 5 (a3).toNatClampNeg (0 : Int32))))))))
  else
  (some ((0 : Int32), (x_put z0 0 0 (2 : Int32)))))))))
  else
  (if ((x_put z0 0 0 (1 : Int32)).1 0 0) ≤ 0 then
  (x_ck a3 (m_ln xn 2)
  (x_ck a3 (m_ln xn 3)
  (x_ck a3 (m_ln xn 4)
  (x_ck a3 (m_ln xn 5)
  (some (a3, (x_put (x_put (x_put (x_put (x_put z0 0 0 (1 : Int32)) 2 (a3).toNatClampNeg (vp_nar .boolean (1 : Int32))) 3 (a3).toNatClampNeg a1) 4 (a3).toNatClampNeg a2) 5 (a3).toNatClampNeg (0 : Int32))))))))
  else
  (some ((0 : Int32), (x_put z0 0 0 (1 : Int32))))))
def f_M_picture_6 (xn : Nat) : Nat → Int32 → Int32 → Int32 → Int32 → x_St → Option (Int32 × x_St)
  | 0, _, _, _, _, _ => none
  | fu + 1, a1, a2, a3, a4, z0 =>
    (if a4 < 0 then
    (f_M_picture_34 xn a1 a2 a3 z0)
    else
    (x_ck a4 (m_ln xn 2)
    (if (z0.1 2 (a4).toNatClampNeg) = 0 then
    (f_M_picture_6 xn fu a1 a2 a4 (a4 + (-1 : Int32)) z0)
    else
    (f_M_picture_6 xn fu a1 a2 a3 (a4 + (-1 : Int32)) z0))))
def f_M_picture (xn : Nat) (p1 : Int32) (p2 : Int32) (z0 : x_St) : Option (Int32 × x_St) :=
  (f_M_picture_6 xn x_FU p1 p2 (-1 : Int32) (7 : Int32) z0)
def f_M_isMade (xn : Nat) (p1 : Int32) (z0 : x_St) : Option (Int32 × x_St) :=
  (if p1 < 0 then
  (some ((0 : Int32), z0))
  else
  (if (8 : Int32) ≤ p1 then
  (some ((0 : Int32), z0))
  else
  (x_ck p1 (m_ln xn 2)
  (if (z0.1 2 (p1).toNatClampNeg) = 0 then
  (some ((0 : Int32), z0))
  else
  (some ((1 : Int32), z0))))))
def f_M_isWhole (xn : Nat) (p1 : Int32) (z0 : x_St) : Option (Int32 × x_St) :=
  (x_ck p1 (m_ln xn 5)
  (x_ck p1 (m_ln xn 3)
  (x_ck p1 (m_ln xn 4)
  (if (z0.1 5 (p1).toNatClampNeg) = ((z0.1 3 (p1).toNatClampNeg) * (z0.1 4 (p1).toNatClampNeg)) then
  (some ((1 : Int32), z0))
  else
  (some ((0 : Int32), z0))))))
def f_M_samples (xn : Nat) (p1 : Int32) (p2 : Int32) (p3 : Int32) (p4 : Int32) (z0 : x_St) : Option (Int32 × x_St) :=
  (if (z0.1 0 3) = 0 then
  (x_cl (f_M_isMade xn p1 z0) (fun r2 z2 =>
  (if r2 = 0 then
  (if ((x_put z2 0 0 (2 : Int32)).1 0 0) ≤ 0 then
  none
  else
  (some ((0 : Int32), (x_put z2 0 0 (2 : Int32)))))
  else
  (if (1 : Int32) ≤ p2 then
  (if ((x_put z2 0 0 (0 : Int32)).1 0 0) ≤ 0 then
  none
  else
  (some ((0 : Int32), (x_put z2 0 0 (0 : Int32)))))
  else
  (if ((x_put z2 0 0 (3 : Int32)).1 0 0) ≤ 0 then
  none
  else
  (some ((0 : Int32), (x_put z2 0 0 (3 : Int32)))))))))
  else
  (if ((x_put z0 0 0 (1 : Int32)).1 0 0) ≤ 0 then
  none
  else
  (some ((0 : Int32), (x_put z0 0 0 (1 : Int32))))))
def f_M_keep (xn : Nat) (p1 : Int32) (z0 : x_St) : Option (Int32 × x_St) :=
  (if (z0.1 0 3) = 0 then
  (x_cl (f_M_isMade xn p1 z0) (fun r2 z2 =>
  (if r2 = 0 then
  (if ((x_put z2 0 0 (2 : Int32)).1 0 0) ≤ 0 then
  none
  else
  (some ((0 : Int32), (x_put z2 0 0 (2 : Int32)))))
  else
  (x_cl (f_M_isWhole xn p1 z2) (fun r5 z5 =>
  (if r5 = 0 then
  (if ((x_put z5 0 0 (3 : Int32)).1 0 0) ≤ 0 then
  none
  else
  (some ((0 : Int32), (x_put z5 0 0 (3 : Int32)))))
  else
  (if ((x_put z5 0 0 (0 : Int32)).1 0 0) ≤ 0 then
  none
  else
  (some ((0 : Int32), (x_put z5 0 0 (0 : Int32)))))))))))
  else
  (if ((x_put z0 0 0 (1 : Int32)).1 0 0) ≤ 0 then
  none
  else
  (some ((0 : Int32), (x_put z0 0 0 (1 : Int32))))))
def f_M_isThere (xn : Nat) (p1 : Int32) (z0 : x_St) : Option (Int32 × x_St) :=
  (if p1 < 0 then
  (some ((0 : Int32), z0))
  else
  (if (16 : Int32) ≤ p1 then
  (some ((0 : Int32), z0))
  else
  (x_ck p1 (m_ln xn 7)
  (if (z0.1 7 (p1).toNatClampNeg) = 0 then
  (some ((0 : Int32), z0))
  else
  (some ((1 : Int32), z0))))))
def f_M_digest (xn : Nat) (p1 : Int32) (p2 : Int32) (z0 : x_St) : Option (Int32 × x_St) :=
  (if (z0.1 0 3) = 0 then
  (x_cl (f_M_isThere xn p1 z0) (fun r2 z2 =>
  (if r2 = 0 then
  (if ((x_put z2 0 0 (2 : Int32)).1 0 0) ≤ 0 then
  none
  else
  (some ((0 : Int32), (x_put z2 0 0 (2 : Int32)))))
  else
  (if p2 < 0 then
  (if ((x_put z2 0 0 (2 : Int32)).1 0 0) ≤ 0 then
  none
  else
  (some ((0 : Int32), (x_put z2 0 0 (2 : Int32)))))
  else
  (if p2 ≤ (7 : Int32) then
  (if ((x_put z2 0 0 (0 : Int32)).1 0 0) ≤ 0 then
  none
  else
  (some ((0 : Int32), (x_put z2 0 0 (0 : Int32)))))
  else
  (if ((x_put z2 0 0 (2 : Int32)).1 0 0) ≤ 0 then
  none
  else
  (some ((0 : Int32), (x_put z2 0 0 (2 : Int32))))))))))
  else
  (if ((x_put z0 0 0 (1 : Int32)).1 0 0) ≤ 0 then
  none
  else
  (some ((0 : Int32), (x_put z0 0 0 (1 : Int32))))))
abbrev rm_M_thrown : Room := { frames := 0, cells := 0, slots := 0, locals := 0 }
set_option maxHeartbeats 4000000 in
set_option maxRecDepth 100000 in
theorem c_M_thrown (l : Launch) (G : x_G)  (z0 : x_St) (r : Int32) (zo : x_St) (hf : f_M_thrown (x_n G)  z0 = some (r, zo)) : Met l (⟨"ContentLibraryModel", "thrown", "()I"⟩ : MethodName) (x_ws (⟨"ContentLibraryModel", "thrown", "()I"⟩ : MethodName) prog_7_method_2_code 1 (some .int)) rm_M_thrown (va_Pc [.ref (x_ad G 0)] (m_PW G z0)) (va_Qi (fun a u => r = a ∧ zo = u) (m_PW G) (x_A G)) 0 0 (x_A G) := by
  refine Met.ofW (cc := prog_7_method_2_code) (maxL := 1) (ret := (some .int)) (by decide) rfl ?_
  intro p e s m args below meth c s₁ B hml hv
  obtain ⟨rfl, hz, hP, hD, hK, hG⟩ := hv
  have C0 : m_Ctx G p s m _ meth c prog_7_method_2_code "ContentLibraryModel" 1 (some .int) := ⟨B.exec, B.bytes, B.returns, hml, findClass_of_methodNamed B.named, fun w h => atoms_spec (ws := (x_ws (⟨"ContentLibraryModel", "thrown", "()I"⟩ : MethodName) prog_7_method_2_code 1 (some .int))) B.pre w (List.mem_cons_of_mem _ h), B.notSynchronized, hz, hK, hG⟩
  obtain ⟨hx, hb, hr, hml, hown, hts, hlocks, hz, hK, hG⟩ := id C0
  have hS : va_S (x_A G) s.heap s.heap [] := va_S.rf
  have hl := lv_entry ([.ref (x_ad G 0)]) (n := 1) (Nat.le_of_ble_eq_true rfl)
  rw [lg_entry_eq]
  generalize (lg_sl ([.ref (x_ad G 0)]) ++ List.replicate (1 - (lg_sl ([.ref (x_ad G 0)])).length) Slot.unset).toArray = ls at hl ⊢
  have hl : lv_has ls 1 [(0, .ref (x_ad G 0))] := hl
  rw [f_M_thrown] at hf
  refine lv_aload_n hx hb d_M_thrown_0 rfl (lv_at hl 0 rfl) ?_
  refine va_get (D := x_D G) (ci := 5) (v := .int (z0.1 0 0)) (C := "ContentLibraryModel") (T := x_TM) (N := 31) hx hb hts x_inM hown hK hP 0 (m_lk_M G _) rfl 0 (by decide) (hts _ t_672) (fun _ h9 => h9) rfl d_M_thrown_1 ?_
  obtain ⟨rfl, rfl⟩ := x_ret hf
  exact W.iret (v := (z0.1 0 0)) hx hb hr (fun t ht hW => ⟨⟨_, _, rfl, ⟨rfl, rfl⟩, m_pw hP hD hK hG hS hz ht hW⟩, hS.F ht⟩) hS.2.2 d_M_thrown_4
abbrev rm_M_write : Room := { frames := 0, cells := 0, slots := 0, locals := 0 }
set_option maxHeartbeats 4000000 in
set_option maxRecDepth 100000 in
theorem c_M_write (l : Launch) (G : x_G) (p1 : Int32) (p2 : Int32) (z0 : x_St) (r : Unit) (zo : x_St) (hf : f_M_write (x_n G) p1 p2 z0 = some (r, zo)) : Met l (⟨"ContentLibraryModel", "write", "(II)V"⟩ : MethodName) (x_ws (⟨"ContentLibraryModel", "write", "(II)V"⟩ : MethodName) prog_7_method_12_code 3 none) rm_M_write (va_Pc [.ref (x_ad G 0), .int p1, .int p2] (m_PW G z0)) (va_Qv (fun u => r = () ∧ zo = u) (m_PW G) (x_A G)) 0 0 (x_A G) := by
  refine Met.ofW (cc := prog_7_method_12_code) (maxL := 3) (ret := none) (by decide) rfl ?_
  intro p e s m args below meth c s₁ B hml hv
  obtain ⟨rfl, hz, hP, hD, hK, hG⟩ := hv
  have C0 : m_Ctx G p s m _ meth c prog_7_method_12_code "ContentLibraryModel" 3 none := ⟨B.exec, B.bytes, B.returns, hml, findClass_of_methodNamed B.named, fun w h => atoms_spec (ws := (x_ws (⟨"ContentLibraryModel", "write", "(II)V"⟩ : MethodName) prog_7_method_12_code 3 none)) B.pre w (List.mem_cons_of_mem _ h), B.notSynchronized, hz, hK, hG⟩
  obtain ⟨hx, hb, hr, hml, hown, hts, hlocks, hz, hK, hG⟩ := id C0
  have hS : va_S (x_A G) s.heap s.heap [] := va_S.rf
  have hl := lv_entry ([.ref (x_ad G 0), .int p1, .int p2]) (n := 3) (Nat.le_of_ble_eq_true rfl)
  rw [lg_entry_eq]
  generalize (lg_sl ([.ref (x_ad G 0), .int p1, .int p2]) ++ List.replicate (3 - (lg_sl ([.ref (x_ad G 0), .int p1, .int p2])).length) Slot.unset).toArray = ls at hl ⊢
  have hl : lv_has ls 3 [(0, .ref (x_ad G 0)), (1, .int p1), (2, .int p2)] := hl
  rw [f_M_write] at hf
  refine lv_aload_n hx hb d_M_write_0 rfl (lv_at hl 0 rfl) ?_
  refine va_get (D := x_D G) (ci := 5) (v := .int (z0.1 0 3)) (C := "ContentLibraryModel") (T := x_TM) (N := 31) hx hb hts x_inM hown hK hP 0 (m_lk_M G _) rfl 3 (by decide) (hts _ t_675) (fun _ h9 => h9) rfl d_M_write_1 ?_
  refine lv_if_eq (tgt := 8) hx hb d_M_write_4 (by decide) (fun hc1 => ?_) (fun hc1 => ?_)
  · have hf := x_br_t hf hc1
    refine lv_aload_n hx hb d_M_write_8 rfl (lv_at hl 0 rfl) ?_
    refine va_get (D := x_D G) (ci := 5) (v := .int (z0.1 0 4)) (C := "ContentLibraryModel") (T := x_TM) (N := 31) hx hb hts x_inM hown hK hP 0 (m_lk_M G _) rfl 4 (by decide) (hts _ t_676) (fun _ h9 => h9) rfl d_M_write_9 ?_
    refine lv_if_ne (tgt := 21) hx hb d_M_write_12 (by decide) (fun hc2 => ?_) (fun hc2 => ?_)
    · have hf := x_br_f hf hc2
      refine lv_aload_n hx hb d_M_write_21 rfl (lv_at hl 0 rfl) ?_
      refine lv_dup hx hb d_M_write_22 rfl ?_
      refine va_get (D := x_D G) (ci := 5) (v := .int (z0.1 0 4)) (C := "ContentLibraryModel") (T := x_TM) (N := 31) hx hb hts x_inM hown hK hP 0 (m_lk_M G _) rfl 4 (by decide) (hts _ t_676) (fun _ h9 => h9) rfl d_M_write_23 ?_
      refine lv_aload_n hx hb d_M_write_26 rfl (lv_at hl 0 rfl) ?_
      refine va_get (D := x_D G) (ci := 5) (v := .int (z0.1 0 4)) (C := "ContentLibraryModel") (T := x_TM) (N := 31) hx hb hts x_inM hown hK hP 0 (m_lk_M G _) rfl 4 (by decide) (hts _ t_676) (fun _ h9 => h9) rfl d_M_write_27 ?_
      refine lv_if_le (tgt := 37) hx hb d_M_write_30 (by decide) (fun hc3 => ?_) (fun hc3 => ?_)
      · have hf := x_br_t hf hc3
        refine lv_iconst (v := (0 : Int32)) hx hb d_M_write_37 (by decide) ?_
        refine lv_isub hx hb d_M_write_38 ?_
        refine va_put (D := x_D G) (ci := 5) (v := .int ((z0.1 0 4) - (0 : Int32))) (ty := .int) (C := "ContentLibraryModel") (T := x_TM) (N := 31) hx hb hts x_inM x_tyM x_tyM_ok x_nmM hown hK hP hD hS 0 (m_lk_M G _) rfl 4 (by decide) (hts _ t_676) (fun _ h9 => h9) rfl (by decide +kernel) rfl rfl (Nat.le_of_ble_eq_true rfl) d_M_write_39 (fun H locs hP hD hS => ?_)
        rw [m_st_M4 G _] at hP hD
        refine lv_aload_n hx hb d_M_write_42 rfl (lv_at hl 0 rfl) ?_
        refine va_get (D := x_D G) (ci := 5) (v := .ref (x_ad G 1)) (C := "ContentLibraryModel") (T := x_TM) (N := 31) hx hb hts x_inM hown hK hP 0 (m_lk_M G _) rfl 2 (by decide) (hts _ t_674) (fun _ h9 => h9) rfl d_M_write_43 ?_
        refine lv_iload_n hx hb d_M_write_46 rfl (lv_at hl 1 rfl) ?_
        refine lv_iload_n hx hb d_M_write_47 rfl (lv_at hl 2 rfl) ?_
        obtain ⟨hin4, hf⟩ := x_ck_some hf
        refine va_iast hx hb hK hP hD hS 1 0 (m_lk_A G _ (k := 1) (by decide)) rfl hin4 d_M_write_48 (fun H locs hP hD hS => ?_)
        rw [m_st_A G _ (k := 1) (by decide)] at hP hD
        obtain ⟨rfl, rfl⟩ := x_ret hf
        exact W.vret hx hb hr (fun t ht hW => ⟨⟨_, rfl, ⟨rfl, rfl⟩, m_pw hP hD hK hG hS hz ht hW⟩, hS.F ht⟩) hS.2.2 d_M_write_49
      · have hf := x_br_f hf hc3
        refine lv_iconst (v := (1 : Int32)) hx hb d_M_write_33 (by decide) ?_
        refine lv_goto (tgt := 38) hx hb d_M_write_34 (by decide) ?_
        refine lv_isub hx hb d_M_write_38 ?_
        refine va_put (D := x_D G) (ci := 5) (v := .int ((z0.1 0 4) - (1 : Int32))) (ty := .int) (C := "ContentLibraryModel") (T := x_TM) (N := 31) hx hb hts x_inM x_tyM x_tyM_ok x_nmM hown hK hP hD hS 0 (m_lk_M G _) rfl 4 (by decide) (hts _ t_676) (fun _ h9 => h9) rfl (by decide +kernel) rfl rfl (Nat.le_of_ble_eq_true rfl) d_M_write_39 (fun H locs hP hD hS => ?_)
        rw [m_st_M4 G _] at hP hD
        refine lv_aload_n hx hb d_M_write_42 rfl (lv_at hl 0 rfl) ?_
        refine va_get (D := x_D G) (ci := 5) (v := .ref (x_ad G 1)) (C := "ContentLibraryModel") (T := x_TM) (N := 31) hx hb hts x_inM hown hK hP 0 (m_lk_M G _) rfl 2 (by decide) (hts _ t_674) (fun _ h9 => h9) rfl d_M_write_43 ?_
        refine lv_iload_n hx hb d_M_write_46 rfl (lv_at hl 1 rfl) ?_
        refine lv_iload_n hx hb d_M_write_47 rfl (lv_at hl 2 rfl) ?_
        obtain ⟨hin5, hf⟩ := x_ck_some hf
        refine va_iast hx hb hK hP hD hS 1 0 (m_lk_A G _ (k := 1) (by decide)) rfl hin5 d_M_write_48 (fun H locs hP hD hS => ?_)
        rw [m_st_A G _ (k := 1) (by decide)] at hP hD
        obtain ⟨rfl, rfl⟩ := x_ret hf
        exact W.vret hx hb hr (fun t ht hW => ⟨⟨_, rfl, ⟨rfl, rfl⟩, m_pw hP hD hK hG hS hz ht hW⟩, hS.F ht⟩) hS.2.2 d_M_write_49
    · have hf := x_br_t hf hc2
      refine lv_aload_n hx hb d_M_write_15 rfl (lv_at hl 0 rfl) ?_
      refine lv_iconst (v := (1 : Int32)) hx hb d_M_write_16 (by decide) ?_
      refine va_put (D := x_D G) (ci := 5) (v := .int (1 : Int32)) (ty := .boolean) (C := "ContentLibraryModel") (T := x_TM) (N := 31) hx hb hts x_inM x_tyM x_tyM_ok x_nmM hown hK hP hD hS 0 (m_lk_M G _) rfl 3 (by decide) (hts _ t_675) (fun _ h9 => h9) rfl (by decide +kernel) rfl rfl (Nat.le_of_ble_eq_true rfl) d_M_write_17 (fun H locs hP hD hS => ?_)
      rw [m_st_M3 G _] at hP hD
      obtain ⟨rfl, rfl⟩ := x_ret hf
      exact W.vret hx hb hr (fun t ht hW => ⟨⟨_, rfl, ⟨rfl, rfl⟩, m_pw hP hD hK hG hS hz ht hW⟩, hS.F ht⟩) hS.2.2 d_M_write_20
  · have hf := x_br_f hf hc1
    obtain ⟨rfl, rfl⟩ := x_ret hf
    exact W.vret hx hb hr (fun t ht hW => ⟨⟨_, rfl, ⟨rfl, rfl⟩, m_pw hP hD hK hG hS hz ht hW⟩, hS.F ht⟩) hS.2.2 d_M_write_7
abbrev rm_M_wipe : Room := { frames := 1, cells := 0, slots := 0, locals := 22 }
set_option maxHeartbeats 4000000 in
set_option maxRecDepth 100000 in
theorem w_M_wipe_15 (l : Launch) (G : x_G) {p : Program} {e : Env} {s : State} {m : MethodId} {args : Array Value} {below : List Frame} {meth : Method} {c : Code} (C0 : m_Ctx G p s m args meth c prog_7_method_13_code "ContentLibraryModel" 4 none) (r : Unit) (zo : x_St) : ∀ (fu : Nat), ∀ (a2 : Int32) (a3 : Int32) (z0 : x_St), f_M_wipe_15 (x_n G) fu a2 a3 z0 = some (r, zo) → ∀ (H : Heap) (locs : List Loc) (ls : Array Slot), va_P (x_D G) vwCl (m_Wd G z0) H → va_D (x_A G) (m_Wd G z0) → va_S (x_A G) s.heap H locs → lv_has ls 4 [(0, .ref (x_ad G 0)), (2, .int a2), (3, .int a3)] → W p l e rm_M_wipe s m args below meth c H locs 0 0 (MQ below (va_Qv (fun u => r = () ∧ zo = u) (m_PW G) (x_A G)) args s 0 0 (x_A G)) (F0 m 15 ls []) := by
  obtain ⟨hx, hb, hr, hml, hown, hts, hlocks, hz, hK, hG⟩ := id C0
  intro fu
  induction fu with
  | zero =>
    intro a2 a3 z0 hf
    rw [f_M_wipe_15] at hf
    cases hf
  | succ fu ih =>
    intro a2 a3 z0 hf H locs ls hP hD hS hl
    rw [f_M_wipe_15] at hf
    refine lv_iload_n hx hb d_M_wipe_15 rfl (lv_at hl 2 rfl) ?_
    refine lv_bipush (v := (64 : Int32)) hx hb d_M_wipe_16 (by decide) ?_
    refine lv_icmp_ge (tgt := 40) hx hb d_M_wipe_18 (by decide) (fun hc1 => ?_) (fun hc1 => ?_)
    · have hf := x_br_t hf hc1
      obtain ⟨rfl, rfl⟩ := x_ret hf
      exact W.vret hx hb hr (fun t ht hW => ⟨⟨_, rfl, ⟨rfl, rfl⟩, m_pw hP hD hK hG hS hz ht hW⟩, hS.F ht⟩) hS.2.2 d_M_wipe_40
    · have hf := x_br_f hf hc1
      refine lv_iload_n hx hb d_M_wipe_21 rfl (lv_at hl 2 rfl) ?_
      refine lv_iconst (v := (4 : Int32)) hx hb d_M_wipe_22 (by decide) ?_
      refine lv_icmp_eq (tgt := 34) hx hb d_M_wipe_23 (by decide) (fun hc2 => ?_) (fun hc2 => ?_)
      · have hf := x_br_t hf hc2
        refine lv_iinc (v := (a3 + (1 : Int32))) (lv' := [(3, .int (a3 + (1 : Int32))), (0, .ref (x_ad G 0)), (2, .int a2)]) hx hb d_M_wipe_34 hl (k := 2) rfl rfl (by decide) rfl (fun ls hl => ?_)
        refine lv_goto (tgt := 15) hx hb d_M_wipe_37 (by decide) ?_
        exact ih a2 (a3 + (1 : Int32)) z0 hf _ _ _ hP hD hS (lv_sub hl [1, 2, 0] rfl)
      · have hf := x_br_f hf hc2
        refine lv_aload_n hx hb d_M_wipe_26 rfl (lv_at hl 0 rfl) ?_
        refine lv_iload_n hx hb d_M_wipe_27 rfl (lv_at hl 1 rfl) ?_
        refine lv_iload_n hx hb d_M_wipe_28 rfl (lv_at hl 2 rfl) ?_
        refine lv_iadd hx hb d_M_wipe_29 ?_
        refine lv_iconst (v := (0 : Int32)) hx hb d_M_wipe_30 (by decide) ?_
        obtain ⟨r3, z3, hq4, hf⟩ := x_cl_some hf
        refine va_callv (va_runV (As := [.int (a2 + a3), .int (0 : Int32)]) (rest := []) ⟨hx, hb, hml, hown, hts⟩ (c_M_write l G (a2 + a3) (0 : Int32) z0 r3 z3 hq4) (cwV 2 hts (x_gV t_822 t_824 sel_ContentLibraryModel_write t_7 t_825) rfl rfl rfl (by decide +kernel) ⟨Nat.le_of_ble_eq_true rfl, Nat.le_of_ble_eq_true rfl⟩) ⟨m_blind _ _ _, va_recv hK hP (ci := 5) (q0 := 0) rfl (m_lk_M G _), fun U hU hW => ⟨rfl, m_pw hP hD hK hG hS hz hU hW⟩⟩ rfl rfl hl.1 rfl (lv_room (Nat.le_of_ble_eq_true rfl)) d_M_wipe_31 ⟨Nat.le_of_ble_eq_true rfl, Nat.le_of_ble_eq_true rfl⟩) hS (fun q _ h => h) (fun q h => h) (fun u t H locs ht hvm hw hB _ _ hS => ?_)
        obtain ⟨rfl, rfl⟩ := hw
        obtain ⟨hP, hD⟩ := m_back hB ht
        refine lv_iinc (v := (a3 + (1 : Int32))) (lv' := [(3, .int (a3 + (1 : Int32))), (0, .ref (x_ad G 0)), (2, .int a2)]) hx hb d_M_wipe_34 hl (k := 2) rfl rfl (by decide) rfl (fun ls hl => ?_)
        refine lv_goto (tgt := 15) hx hb d_M_wipe_37 (by decide) ?_
        exact ih a2 (a3 + (1 : Int32)) z3 hf _ _ _ hP hD hS (lv_sub hl [1, 2, 0] rfl)
set_option maxHeartbeats 4000000 in
set_option maxRecDepth 100000 in
theorem c_M_wipe (l : Launch) (G : x_G) (p1 : Int32) (z0 : x_St) (r : Unit) (zo : x_St) (hf : f_M_wipe (x_n G) p1 z0 = some (r, zo)) : Met l (⟨"ContentLibraryModel", "wipe", "(I)V"⟩ : MethodName) (x_ws (⟨"ContentLibraryModel", "wipe", "(I)V"⟩ : MethodName) prog_7_method_13_code 4 none) rm_M_wipe (va_Pc [.ref (x_ad G 0), .int p1] (m_PW G z0)) (va_Qv (fun u => r = () ∧ zo = u) (m_PW G) (x_A G)) 0 0 (x_A G) := by
  refine Met.ofW (cc := prog_7_method_13_code) (maxL := 4) (ret := none) (by decide) rfl ?_
  intro p e s m args below meth c s₁ B hml hv
  obtain ⟨rfl, hz, hP, hD, hK, hG⟩ := hv
  have C0 : m_Ctx G p s m _ meth c prog_7_method_13_code "ContentLibraryModel" 4 none := ⟨B.exec, B.bytes, B.returns, hml, findClass_of_methodNamed B.named, fun w h => atoms_spec (ws := (x_ws (⟨"ContentLibraryModel", "wipe", "(I)V"⟩ : MethodName) prog_7_method_13_code 4 none)) B.pre w (List.mem_cons_of_mem _ h), B.notSynchronized, hz, hK, hG⟩
  obtain ⟨hx, hb, hr, hml, hown, hts, hlocks, hz, hK, hG⟩ := id C0
  have hS : va_S (x_A G) s.heap s.heap [] := va_S.rf
  have hl := lv_entry ([.ref (x_ad G 0), .int p1]) (n := 4) (Nat.le_of_ble_eq_true rfl)
  rw [lg_entry_eq]
  generalize (lg_sl ([.ref (x_ad G 0), .int p1]) ++ List.replicate (4 - (lg_sl ([.ref (x_ad G 0), .int p1])).length) Slot.unset).toArray = ls at hl ⊢
  have hl : lv_has ls 4 [(0, .ref (x_ad G 0)), (1, .int p1)] := hl
  rw [f_M_wipe] at hf
  refine lv_bipush (v := (64 : Int32)) hx hb d_M_wipe_0 (by decide) ?_
  refine lv_iload_n hx hb d_M_wipe_2 rfl (lv_at hl 1 rfl) ?_
  refine lv_imul hx hb d_M_wipe_3 ?_
  refine lv_istore_n (lv' := [(2, .int ((64 : Int32) * p1)), (0, .ref (x_ad G 0)), (1, .int p1)]) hx hb d_M_wipe_4 rfl hl (by decide) rfl (fun ls hl => ?_)
  refine lv_aload_n hx hb d_M_wipe_5 rfl (lv_at hl 1 rfl) ?_
  refine lv_iload_n hx hb d_M_wipe_6 rfl (lv_at hl 0 rfl) ?_
  refine lv_iconst (v := (4 : Int32)) hx hb d_M_wipe_7 (by decide) ?_
  refine lv_iadd hx hb d_M_wipe_8 ?_
  refine lv_iconst (v := (0 : Int32)) hx hb d_M_wipe_9 (by decide) ?_
  obtain ⟨r5, z5, hq6, hf⟩ := x_cl_some hf
  refine va_callv (va_runV (As := [.int (((64 : Int32) * p1) + (4 : Int32)), .int (0 : Int32)]) (rest := []) ⟨hx, hb, hml, hown, hts⟩ (c_M_write l G (((64 : Int32) * p1) + (4 : Int32)) (0 : Int32) z0 r5 z5 hq6) (cwV 2 hts (x_gV t_822 t_824 sel_ContentLibraryModel_write t_7 t_825) rfl rfl rfl (by decide +kernel) ⟨Nat.le_of_ble_eq_true rfl, Nat.le_of_ble_eq_true rfl⟩) ⟨m_blind _ _ _, va_recv hK hP (ci := 5) (q0 := 0) rfl (m_lk_M G _), fun U hU hW => ⟨rfl, m_pw hP hD hK hG hS hz hU hW⟩⟩ rfl rfl hl.1 rfl (lv_room (Nat.le_of_ble_eq_true rfl)) d_M_wipe_10 ⟨Nat.le_of_ble_eq_true rfl, Nat.le_of_ble_eq_true rfl⟩) hS (fun q _ h => h) (fun q h => h) (fun u t H locs ht hvm hw hB _ _ hS => ?_)
  obtain ⟨rfl, rfl⟩ := hw
  obtain ⟨hP, hD⟩ := m_back hB ht
  refine lv_iconst (v := (0 : Int32)) hx hb d_M_wipe_13 (by decide) ?_
  refine lv_istore_n (lv' := [(3, .int (0 : Int32)), (2, .int ((64 : Int32) * p1)), (0, .ref (x_ad G 0)), (1, .int p1)]) hx hb d_M_wipe_14 rfl hl (by decide) rfl (fun ls hl => ?_)
  exact w_M_wipe_15 l G C0 r zo x_FU ((64 : Int32) * p1) (0 : Int32) z5 hf _ _ _ hP hD hS (lv_sub hl [2, 1, 0] rfl)
abbrev rm_M_sumOf : Room := { frames := 0, cells := 0, slots := 0, locals := 0 }
set_option maxHeartbeats 4000000 in
set_option maxRecDepth 100000 in
theorem w_M_sumOf_49 (l : Launch) (G : x_G) {p : Program} {e : Env} {s : State} {m : MethodId} {args : Array Value} {below : List Frame} {meth : Method} {c : Code} (C0 : m_Ctx G p s m args meth c prog_7_method_14_code "ContentLibraryModel" 4 (some .int)) (r : Int32) (zo : x_St) : ∀ (a2 : Int32) (z0 : x_St), f_M_sumOf_49 (x_n G) a2 z0 = some (r, zo) → ∀ (H : Heap) (locs : List Loc) (ls : Array Slot), va_P (x_D G) vwCl (m_Wd G z0) H → va_D (x_A G) (m_Wd G z0) → va_S (x_A G) s.heap H locs → lv_has ls 4 [(2, .int a2)] → W p l e rm_M_sumOf s m args below meth c H locs 0 0 (MQ below (va_Qi (fun a u => r = a ∧ zo = u) (m_PW G) (x_A G)) args s 0 0 (x_A G)) (F0 m 49 ls []) := by
  obtain ⟨hx, hb, hr, hml, hown, hts, hlocks, hz, hK, hG⟩ := id C0
  intro a2 z0 hf H locs ls hP hD hS hl
  rw [f_M_sumOf_49] at hf
  refine lv_iload_n hx hb d_M_sumOf_49 rfl (lv_at hl 0 rfl) ?_
  obtain ⟨rfl, rfl⟩ := x_ret hf
  exact W.iret (v := a2) hx hb hr (fun t ht hW => ⟨⟨_, _, rfl, ⟨rfl, rfl⟩, m_pw hP hD hK hG hS hz ht hW⟩, hS.F ht⟩) hS.2.2 d_M_sumOf_50
set_option maxHeartbeats 4000000 in
set_option maxRecDepth 100000 in
theorem w_M_sumOf_8 (l : Launch) (G : x_G) {p : Program} {e : Env} {s : State} {m : MethodId} {args : Array Value} {below : List Frame} {meth : Method} {c : Code} (C0 : m_Ctx G p s m args meth c prog_7_method_14_code "ContentLibraryModel" 4 (some .int)) (r : Int32) (zo : x_St) : ∀ (fu : Nat), ∀ (a1 : Int32) (a2 : Int32) (a3 : Int32) (z0 : x_St), f_M_sumOf_8 (x_n G) fu a1 a2 a3 z0 = some (r, zo) → ∀ (H : Heap) (locs : List Loc) (ls : Array Slot), va_P (x_D G) vwCl (m_Wd G z0) H → va_D (x_A G) (m_Wd G z0) → va_S (x_A G) s.heap H locs → lv_has ls 4 [(0, .ref (x_ad G 0)), (1, .int a1), (2, .int a2), (3, .int a3)] → W p l e rm_M_sumOf s m args below meth c H locs 0 0 (MQ below (va_Qi (fun a u => r = a ∧ zo = u) (m_PW G) (x_A G)) args s 0 0 (x_A G)) (F0 m 8 ls []) := by
  obtain ⟨hx, hb, hr, hml, hown, hts, hlocks, hz, hK, hG⟩ := id C0
  intro fu
  induction fu with
  | zero =>
    intro a1 a2 a3 z0 hf
    rw [f_M_sumOf_8] at hf
    cases hf
  | succ fu ih =>
    intro a1 a2 a3 z0 hf H locs ls hP hD hS hl
    rw [f_M_sumOf_8] at hf
    refine lv_iload_n hx hb d_M_sumOf_8 rfl (lv_at hl 3 rfl) ?_
    refine lv_bipush (v := (64 : Int32)) hx hb d_M_sumOf_9 (by decide) ?_
    refine lv_icmp_ge (tgt := 49) hx hb d_M_sumOf_11 (by decide) (fun hc1 => ?_) (fun hc1 => ?_)
    · have hf := x_br_t hf hc1
      exact w_M_sumOf_49 l G C0 r zo a2 z0 hf _ _ _ hP hD hS (lv_sub hl [2] rfl)
    · have hf := x_br_f hf hc1
      refine lv_iload_n hx hb d_M_sumOf_14 rfl (lv_at hl 2 rfl) ?_
      refine lv_aload_n hx hb d_M_sumOf_15 rfl (lv_at hl 0 rfl) ?_
      refine va_get (D := x_D G) (ci := 5) (v := .ref (x_ad G 1)) (C := "ContentLibraryModel") (T := x_TM) (N := 31) hx hb hts x_inM hown hK hP 0 (m_lk_M G _) rfl 2 (by decide) (hts _ t_674) (fun _ h9 => h9) rfl d_M_sumOf_16 ?_
      refine lv_bipush (v := (64 : Int32)) hx hb d_M_sumOf_19 (by decide) ?_
      refine lv_iload_n hx hb d_M_sumOf_21 rfl (lv_at hl 1 rfl) ?_
      refine lv_imul hx hb d_M_sumOf_22 ?_
      refine lv_iload_n hx hb d_M_sumOf_23 rfl (lv_at hl 3 rfl) ?_
      refine lv_iadd hx hb d_M_sumOf_24 ?_
      obtain ⟨hin2, hf⟩ := x_ck_some hf
      refine va_iald hx hb hK hP 1 0 (m_lk_A G _ (k := 1) (by decide)) rfl hin2 d_M_sumOf_25 ?_
      refine lv_ixor hx hb d_M_sumOf_26 ?_
      refine lv_istore_n (lv' := [(2, .int (a2 ^^^ (z0.1 1 ((((64 : Int32) * a1) + a3)).toNatClampNeg))), (0, .ref (x_ad G 0)), (1, .int a1), (3, .int a3)]) hx hb d_M_sumOf_27 rfl hl (by decide) rfl (fun ls hl => ?_)
      refine lv_iload_n hx hb d_M_sumOf_28 rfl (lv_at hl 0 rfl) ?_
      refine lv_bipush (v := (7 : Int32)) hx hb d_M_sumOf_29 (by decide) ?_
      refine lv_ishl hx hb d_M_sumOf_31 ?_
      refine lv_iload_n hx hb d_M_sumOf_32 rfl (lv_at hl 0 rfl) ?_
      refine lv_bipush (v := (25 : Int32)) hx hb d_M_sumOf_33 (by decide) ?_
      refine lv_iushr (v := (x_ushr (a2 ^^^ (z0.1 1 ((((64 : Int32) * a1) + a3)).toNatClampNeg)) (25 : Int32))) hx hb d_M_sumOf_35 rfl ?_
      refine lv_ior hx hb d_M_sumOf_36 ?_
      refine lv_istore_n (lv' := [(2, .int (((a2 ^^^ (z0.1 1 ((((64 : Int32) * a1) + a3)).toNatClampNeg)) <<< ((7 : Int32) &&& 31)) ||| (x_ushr (a2 ^^^ (z0.1 1 ((((64 : Int32) * a1) + a3)).toNatClampNeg)) (25 : Int32)))), (0, .ref (x_ad G 0)), (1, .int a1), (3, .int a3)]) hx hb d_M_sumOf_37 rfl hl (by decide) rfl (fun ls hl => ?_)
      refine lv_iload_n hx hb d_M_sumOf_38 rfl (lv_at hl 0 rfl) ?_
      refine lv_ldc (v := (374761393 : Int32)) hx hb hown (hts _ t_834) d_M_sumOf_39 ?_
      refine lv_imul hx hb d_M_sumOf_41 ?_
      refine lv_istore_n (lv' := [(2, .int ((((a2 ^^^ (z0.1 1 ((((64 : Int32) * a1) + a3)).toNatClampNeg)) <<< ((7 : Int32) &&& 31)) ||| (x_ushr (a2 ^^^ (z0.1 1 ((((64 : Int32) * a1) + a3)).toNatClampNeg)) (25 : Int32))) * (374761393 : Int32))), (0, .ref (x_ad G 0)), (1, .int a1), (3, .int a3)]) hx hb d_M_sumOf_42 rfl hl (by decide) rfl (fun ls hl => ?_)
      refine lv_iinc (v := (a3 + (1 : Int32))) (lv' := [(3, .int (a3 + (1 : Int32))), (2, .int ((((a2 ^^^ (z0.1 1 ((((64 : Int32) * a1) + a3)).toNatClampNeg)) <<< ((7 : Int32) &&& 31)) ||| (x_ushr (a2 ^^^ (z0.1 1 ((((64 : Int32) * a1) + a3)).toNatClampNeg)) (25 : Int32))) * (374761393 : Int32))), (0, .ref (x_ad G 0)), (1, .int a1)]) hx hb d_M_sumOf_43 hl (k := 3) rfl rfl (by decide) rfl (fun ls hl => ?_)
      refine lv_goto (tgt := 8) hx hb d_M_sumOf_46 (by decide) ?_
      exact ih a1 ((((a2 ^^^ (z0.1 1 ((((64 : Int32) * a1) + a3)).toNatClampNeg)) <<< ((7 : Int32) &&& 31)) ||| (x_ushr (a2 ^^^ (z0.1 1 ((((64 : Int32) * a1) + a3)).toNatClampNeg)) (25 : Int32))) * (374761393 : Int32)) (a3 + (1 : Int32)) z0 hf _ _ _ hP hD hS (lv_sub hl [2, 3, 1, 0] rfl)
set_option maxHeartbeats 4000000 in
set_option maxRecDepth 100000 in
theorem c_M_sumOf (l : Launch) (G : x_G) (p1 : Int32) (z0 : x_St) (r : Int32) (zo : x_St) (hf : f_M_sumOf (x_n G) p1 z0 = some (r, zo)) : Met l (⟨"ContentLibraryModel", "sumOf", "(I)I"⟩ : MethodName) (x_ws (⟨"ContentLibraryModel", "sumOf", "(I)I"⟩ : MethodName) prog_7_method_14_code 4 (some .int)) rm_M_sumOf (va_Pc [.ref (x_ad G 0), .int p1] (m_PW G z0)) (va_Qi (fun a u => r = a ∧ zo = u) (m_PW G) (x_A G)) 0 0 (x_A G) := by
  refine Met.ofW (cc := prog_7_method_14_code) (maxL := 4) (ret := (some .int)) (by decide) rfl ?_
  intro p e s m args below meth c s₁ B hml hv
  obtain ⟨rfl, hz, hP, hD, hK, hG⟩ := hv
  have C0 : m_Ctx G p s m _ meth c prog_7_method_14_code "ContentLibraryModel" 4 (some .int) := ⟨B.exec, B.bytes, B.returns, hml, findClass_of_methodNamed B.named, fun w h => atoms_spec (ws := (x_ws (⟨"ContentLibraryModel", "sumOf", "(I)I"⟩ : MethodName) prog_7_method_14_code 4 (some .int))) B.pre w (List.mem_cons_of_mem _ h), B.notSynchronized, hz, hK, hG⟩
  obtain ⟨hx, hb, hr, hml, hown, hts, hlocks, hz, hK, hG⟩ := id C0
  have hS : va_S (x_A G) s.heap s.heap [] := va_S.rf
  have hl := lv_entry ([.ref (x_ad G 0), .int p1]) (n := 4) (Nat.le_of_ble_eq_true rfl)
  rw [lg_entry_eq]
  generalize (lg_sl ([.ref (x_ad G 0), .int p1]) ++ List.replicate (4 - (lg_sl ([.ref (x_ad G 0), .int p1])).length) Slot.unset).toArray = ls at hl ⊢
  have hl : lv_has ls 4 [(0, .ref (x_ad G 0)), (1, .int p1)] := hl
  rw [f_M_sumOf] at hf
  refine lv_iload_n hx hb d_M_sumOf_0 rfl (lv_at hl 1 rfl) ?_
  refine lv_sipush (v := (256 : Int32)) hx hb d_M_sumOf_1 (by decide) ?_
  refine lv_iadd hx hb d_M_sumOf_4 ?_
  refine lv_istore_n (lv' := [(2, .int (p1 + (256 : Int32))), (0, .ref (x_ad G 0)), (1, .int p1)]) hx hb d_M_sumOf_5 rfl hl (by decide) rfl (fun ls hl => ?_)
  refine lv_iconst (v := (4 : Int32)) hx hb d_M_sumOf_6 (by decide) ?_
  refine lv_istore_n (lv' := [(3, .int (4 : Int32)), (2, .int (p1 + (256 : Int32))), (0, .ref (x_ad G 0)), (1, .int p1)]) hx hb d_M_sumOf_7 rfl hl (by decide) rfl (fun ls hl => ?_)
  exact w_M_sumOf_8 l G C0 r zo x_FU p1 (p1 + (256 : Int32)) (4 : Int32) z0 hf _ _ _ hP hD hS (lv_sub hl [2, 3, 1, 0] rfl)
abbrev rm_M_isNothing : Room := { frames := 0, cells := 0, slots := 0, locals := 0 }
set_option maxHeartbeats 4000000 in
set_option maxRecDepth 100000 in
theorem w_M_isNothing_43 (l : Launch) (G : x_G) {p : Program} {e : Env} {s : State} {m : MethodId} {args : Array Value} {below : List Frame} {meth : Method} {c : Code} (C0 : m_Ctx G p s m args meth c prog_7_method_17_code "ContentLibraryModel" 4 (some .boolean)) (r : Int32) (zo : x_St) : ∀ (a2 : Int32) (z0 : x_St), f_M_isNothing_43 (x_n G) a2 z0 = some (r, zo) → ∀ (H : Heap) (locs : List Loc) (ls : Array Slot), va_P (x_D G) vwCl (m_Wd G z0) H → va_D (x_A G) (m_Wd G z0) → va_S (x_A G) s.heap H locs → lv_has ls 4 [(2, .int a2)] → W p l e rm_M_isNothing s m args below meth c H locs 0 0 (MQ below (va_Qi (fun a u => r = a ∧ zo = u) (m_PW G) (x_A G)) args s 0 0 (x_A G)) (F0 m 43 ls []) := by
  obtain ⟨hx, hb, hr, hml, hown, hts, hlocks, hz, hK, hG⟩ := id C0
  intro a2 z0 hf H locs ls hP hD hS hl
  rw [f_M_isNothing_43] at hf
  refine lv_iload_n hx hb d_M_isNothing_43 rfl (lv_at hl 0 rfl) ?_
  obtain ⟨hbo, hf⟩ := x_ckb_some hf
  obtain ⟨rfl, rfl⟩ := x_ret hf
  exact W.zret (v := a2) hx hb hr (x_nb hbo) (fun t ht hW => ⟨⟨_, _, rfl, ⟨rfl, rfl⟩, m_pw hP hD hK hG hS hz ht hW⟩, hS.F ht⟩) hS.2.2 d_M_isNothing_44
set_option maxHeartbeats 4000000 in
set_option maxRecDepth 100000 in
theorem w_M_isNothing_7 (l : Launch) (G : x_G) {p : Program} {e : Env} {s : State} {m : MethodId} {args : Array Value} {below : List Frame} {meth : Method} {c : Code} (C0 : m_Ctx G p s m args meth c prog_7_method_17_code "ContentLibraryModel" 4 (some .boolean)) (r : Int32) (zo : x_St) : ∀ (fu : Nat), ∀ (a1 : Int32) (a2 : Int32) (a3 : Int32) (z0 : x_St), f_M_isNothing_7 (x_n G) fu a1 a2 a3 z0 = some (r, zo) → ∀ (H : Heap) (locs : List Loc) (ls : Array Slot), va_P (x_D G) vwCl (m_Wd G z0) H → va_D (x_A G) (m_Wd G z0) → va_S (x_A G) s.heap H locs → lv_has ls 4 [(0, .ref (x_ad G 0)), (1, .int a1), (2, .int a2), (3, .int a3)] → W p l e rm_M_isNothing s m args below meth c H locs 0 0 (MQ below (va_Qi (fun a u => r = a ∧ zo = u) (m_PW G) (x_A G)) args s 0 0 (x_A G)) (F0 m 7 ls []) := by
  obtain ⟨hx, hb, hr, hml, hown, hts, hlocks, hz, hK, hG⟩ := id C0
  intro fu
  induction fu with
  | zero =>
    intro a1 a2 a3 z0 hf
    rw [f_M_isNothing_7] at hf
    cases hf
  | succ fu ih =>
    intro a1 a2 a3 z0 hf H locs ls hP hD hS hl
    rw [f_M_isNothing_7] at hf
    refine lv_iload_n hx hb d_M_isNothing_7 rfl (lv_at hl 3 rfl) ?_
    refine lv_bipush (v := (64 : Int32)) hx hb d_M_isNothing_8 (by decide) ?_
    refine lv_iload_n hx hb d_M_isNothing_10 rfl (lv_at hl 1 rfl) ?_
    refine lv_imul hx hb d_M_isNothing_11 ?_
    refine lv_bipush (v := (64 : Int32)) hx hb d_M_isNothing_12 (by decide) ?_
    refine lv_iadd hx hb d_M_isNothing_14 ?_
    refine lv_icmp_ge (tgt := 43) hx hb d_M_isNothing_15 (by decide) (fun hc1 => ?_) (fun hc1 => ?_)
    · have hf := x_br_t hf hc1
      exact w_M_isNothing_43 l G C0 r zo a2 z0 hf _ _ _ hP hD hS (lv_sub hl [2] rfl)
    · have hf := x_br_f hf hc1
      refine lv_iload_n hx hb d_M_isNothing_18 rfl (lv_at hl 2 rfl) ?_
      refine lv_if_eq (tgt := 35) hx hb d_M_isNothing_19 (by decide) (fun hc2 => ?_) (fun hc2 => ?_)
      · have hf := x_br_t hf hc2
        refine lv_iconst (v := (0 : Int32)) hx hb d_M_isNothing_35 (by decide) ?_
        refine lv_istore_n (lv' := [(2, .int (0 : Int32)), (0, .ref (x_ad G 0)), (1, .int a1), (3, .int a3)]) hx hb d_M_isNothing_36 rfl hl (by decide) rfl (fun ls hl => ?_)
        refine lv_iinc (v := (a3 + (1 : Int32))) (lv' := [(3, .int (a3 + (1 : Int32))), (2, .int (0 : Int32)), (0, .ref (x_ad G 0)), (1, .int a1)]) hx hb d_M_isNothing_37 hl (k := 3) rfl rfl (by decide) rfl (fun ls hl => ?_)
        refine lv_goto (tgt := 7) hx hb d_M_isNothing_40 (by decide) ?_
        exact ih a1 (0 : Int32) (a3 + (1 : Int32)) z0 hf _ _ _ hP hD hS (lv_sub hl [2, 3, 1, 0] rfl)
      · have hf := x_br_f hf hc2
        refine lv_aload_n hx hb d_M_isNothing_22 rfl (lv_at hl 0 rfl) ?_
        refine va_get (D := x_D G) (ci := 5) (v := .ref (x_ad G 1)) (C := "ContentLibraryModel") (T := x_TM) (N := 31) hx hb hts x_inM hown hK hP 0 (m_lk_M G _) rfl 2 (by decide) (hts _ t_674) (fun _ h9 => h9) rfl d_M_isNothing_23 ?_
        refine lv_iload_n hx hb d_M_isNothing_26 rfl (lv_at hl 3 rfl) ?_
        obtain ⟨hin3, hf⟩ := x_ck_some hf
        refine va_iald hx hb hK hP 1 0 (m_lk_A G _ (k := 1) (by decide)) rfl hin3 d_M_isNothing_27 ?_
        refine lv_if_ne (tgt := 35) hx hb d_M_isNothing_28 (by decide) (fun hc4 => ?_) (fun hc4 => ?_)
        · have hf := x_br_f hf hc4
          refine lv_iconst (v := (0 : Int32)) hx hb d_M_isNothing_35 (by decide) ?_
          refine lv_istore_n (lv' := [(2, .int (0 : Int32)), (0, .ref (x_ad G 0)), (1, .int a1), (3, .int a3)]) hx hb d_M_isNothing_36 rfl hl (by decide) rfl (fun ls hl => ?_)
          refine lv_iinc (v := (a3 + (1 : Int32))) (lv' := [(3, .int (a3 + (1 : Int32))), (2, .int (0 : Int32)), (0, .ref (x_ad G 0)), (1, .int a1)]) hx hb d_M_isNothing_37 hl (k := 3) rfl rfl (by decide) rfl (fun ls hl => ?_)
          refine lv_goto (tgt := 7) hx hb d_M_isNothing_40 (by decide) ?_
          exact ih a1 (0 : Int32) (a3 + (1 : Int32)) z0 hf _ _ _ hP hD hS (lv_sub hl [2, 3, 1, 0] rfl)
        · have hf := x_br_t hf hc4
          refine lv_iconst (v := (1 : Int32)) hx hb d_M_isNothing_31 (by decide) ?_
          refine lv_goto (tgt := 36) hx hb d_M_isNothing_32 (by decide) ?_
          refine lv_istore_n (lv' := [(2, .int (1 : Int32)), (0, .ref (x_ad G 0)), (1, .int a1), (3, .int a3)]) hx hb d_M_isNothing_36 rfl hl (by decide) rfl (fun ls hl => ?_)
          refine lv_iinc (v := (a3 + (1 : Int32))) (lv' := [(3, .int (a3 + (1 : Int32))), (2, .int (1 : Int32)), (0, .ref (x_ad G 0)), (1, .int a1)]) hx hb d_M_isNothing_37 hl (k := 3) rfl rfl (by decide) rfl (fun ls hl => ?_)
          refine lv_goto (tgt := 7) hx hb d_M_isNothing_40 (by decide) ?_
          exact ih a1 (1 : Int32) (a3 + (1 : Int32)) z0 hf _ _ _ hP hD hS (lv_sub hl [2, 3, 1, 0] rfl)
set_option maxHeartbeats 4000000 in
set_option maxRecDepth 100000 in
theorem c_M_isNothing (l : Launch) (G : x_G) (p1 : Int32) (z0 : x_St) (r : Int32) (zo : x_St) (hf : f_M_isNothing (x_n G) p1 z0 = some (r, zo)) : Met l (⟨"ContentLibraryModel", "isNothing", "(I)Z"⟩ : MethodName) (x_ws (⟨"ContentLibraryModel", "isNothing", "(I)Z"⟩ : MethodName) prog_7_method_17_code 4 (some .boolean)) rm_M_isNothing (va_Pc [.ref (x_ad G 0), .int p1] (m_PW G z0)) (va_Qi (fun a u => r = a ∧ zo = u) (m_PW G) (x_A G)) 0 0 (x_A G) := by
  refine Met.ofW (cc := prog_7_method_17_code) (maxL := 4) (ret := (some .boolean)) (by decide) rfl ?_
  intro p e s m args below meth c s₁ B hml hv
  obtain ⟨rfl, hz, hP, hD, hK, hG⟩ := hv
  have C0 : m_Ctx G p s m _ meth c prog_7_method_17_code "ContentLibraryModel" 4 (some .boolean) := ⟨B.exec, B.bytes, B.returns, hml, findClass_of_methodNamed B.named, fun w h => atoms_spec (ws := (x_ws (⟨"ContentLibraryModel", "isNothing", "(I)Z"⟩ : MethodName) prog_7_method_17_code 4 (some .boolean))) B.pre w (List.mem_cons_of_mem _ h), B.notSynchronized, hz, hK, hG⟩
  obtain ⟨hx, hb, hr, hml, hown, hts, hlocks, hz, hK, hG⟩ := id C0
  have hS : va_S (x_A G) s.heap s.heap [] := va_S.rf
  have hl := lv_entry ([.ref (x_ad G 0), .int p1]) (n := 4) (Nat.le_of_ble_eq_true rfl)
  rw [lg_entry_eq]
  generalize (lg_sl ([.ref (x_ad G 0), .int p1]) ++ List.replicate (4 - (lg_sl ([.ref (x_ad G 0), .int p1])).length) Slot.unset).toArray = ls at hl ⊢
  have hl : lv_has ls 4 [(0, .ref (x_ad G 0)), (1, .int p1)] := hl
  rw [f_M_isNothing] at hf
  refine lv_iconst (v := (1 : Int32)) hx hb d_M_isNothing_0 (by decide) ?_
  refine lv_istore_n (lv' := [(2, .int (1 : Int32)), (0, .ref (x_ad G 0)), (1, .int p1)]) hx hb d_M_isNothing_1 rfl hl (by decide) rfl (fun ls hl => ?_)
  refine lv_bipush (v := (64 : Int32)) hx hb d_M_isNothing_2 (by decide) ?_
  refine lv_iload_n hx hb d_M_isNothing_4 rfl (lv_at hl 2 rfl) ?_
  refine lv_imul hx hb d_M_isNothing_5 ?_
  refine lv_istore_n (lv' := [(3, .int ((64 : Int32) * p1)), (2, .int (1 : Int32)), (0, .ref (x_ad G 0)), (1, .int p1)]) hx hb d_M_isNothing_6 rfl hl (by decide) rfl (fun ls hl => ?_)
  exact w_M_isNothing_7 l G C0 r zo x_FU p1 (1 : Int32) ((64 : Int32) * p1) z0 hf _ _ _ hP hD hS (lv_sub hl [2, 3, 1, 0] rfl)
abbrev rm_M_forget : Room := { frames := 0, cells := 0, slots := 0, locals := 0 }
set_option maxHeartbeats 4000000 in
set_option maxRecDepth 100000 in
theorem w_M_forget_63 (l : Launch) (G : x_G) {p : Program} {e : Env} {s : State} {m : MethodId} {args : Array Value} {below : List Frame} {meth : Method} {c : Code} (C0 : m_Ctx G p s m args meth c prog_7_method_18_code "ContentLibraryModel" 2 none) (r : Unit) (zo : x_St) : ∀ (z0 : x_St), f_M_forget_63 (x_n G)  z0 = some (r, zo) → ∀ (H : Heap) (locs : List Loc) (ls : Array Slot), va_P (x_D G) vwCl (m_Wd G z0) H → va_D (x_A G) (m_Wd G z0) → va_S (x_A G) s.heap H locs → lv_has ls 2 [(0, .ref (x_ad G 0))] → W p l e rm_M_forget s m args below meth c H locs 0 0 (MQ below (va_Qv (fun u => r = () ∧ zo = u) (m_PW G) (x_A G)) args s 0 0 (x_A G)) (F0 m 63 ls []) := by
  obtain ⟨hx, hb, hr, hml, hown, hts, hlocks, hz, hK, hG⟩ := id C0
  intro  z0 hf H locs ls hP hD hS hl
  rw [f_M_forget_63] at hf
  refine lv_aload_n hx hb d_M_forget_63 rfl (lv_at hl 0 rfl) ?_
  refine lv_iconst (v := (0 : Int32)) hx hb d_M_forget_64 (by decide) ?_
  refine va_put (D := x_D G) (ci := 5) (v := .int (0 : Int32)) (ty := .int) (C := "ContentLibraryModel") (T := x_TM) (N := 31) hx hb hts x_inM x_tyM x_tyM_ok x_nmM hown hK hP hD hS 0 (m_lk_M G _) rfl 19 (by decide) (hts _ t_691) (fun _ h9 => h9) rfl (by decide +kernel) rfl rfl (Nat.le_of_ble_eq_true rfl) d_M_forget_65 (fun H locs hP hD hS => ?_)
  rw [m_st_M19 G _] at hP hD
  obtain ⟨rfl, rfl⟩ := x_ret hf
  exact W.vret hx hb hr (fun t ht hW => ⟨⟨_, rfl, ⟨rfl, rfl⟩, m_pw hP hD hK hG hS hz ht hW⟩, hS.F ht⟩) hS.2.2 d_M_forget_68
set_option maxHeartbeats 4000000 in
set_option maxRecDepth 100000 in
theorem w_M_forget_44 (l : Launch) (G : x_G) {p : Program} {e : Env} {s : State} {m : MethodId} {args : Array Value} {below : List Frame} {meth : Method} {c : Code} (C0 : m_Ctx G p s m args meth c prog_7_method_18_code "ContentLibraryModel" 2 none) (r : Unit) (zo : x_St) : ∀ (fu : Nat), ∀ (a1 : Int32) (z0 : x_St), f_M_forget_44 (x_n G) fu a1 z0 = some (r, zo) → ∀ (H : Heap) (locs : List Loc) (ls : Array Slot), va_P (x_D G) vwCl (m_Wd G z0) H → va_D (x_A G) (m_Wd G z0) → va_S (x_A G) s.heap H locs → lv_has ls 2 [(0, .ref (x_ad G 0)), (1, .int a1)] → W p l e rm_M_forget s m args below meth c H locs 0 0 (MQ below (va_Qv (fun u => r = () ∧ zo = u) (m_PW G) (x_A G)) args s 0 0 (x_A G)) (F0 m 44 ls []) := by
  obtain ⟨hx, hb, hr, hml, hown, hts, hlocks, hz, hK, hG⟩ := id C0
  intro fu
  induction fu with
  | zero =>
    intro a1 z0 hf
    rw [f_M_forget_44] at hf
    cases hf
  | succ fu ih =>
    intro a1 z0 hf H locs ls hP hD hS hl
    rw [f_M_forget_44] at hf
    refine lv_iload_n hx hb d_M_forget_44 rfl (lv_at hl 1 rfl) ?_
    refine lv_bipush (v := (8 : Int32)) hx hb d_M_forget_45 (by decide) ?_
    refine lv_icmp_ge (tgt := 63) hx hb d_M_forget_47 (by decide) (fun hc1 => ?_) (fun hc1 => ?_)
    · have hf := x_br_t hf hc1
      exact w_M_forget_63 l G C0 r zo z0 hf _ _ _ hP hD hS (lv_sub hl [0] rfl)
    · have hf := x_br_f hf hc1
      refine lv_aload_n hx hb d_M_forget_50 rfl (lv_at hl 0 rfl) ?_
      refine va_get (D := x_D G) (ci := 5) (v := .ref (x_ad G 2)) (C := "ContentLibraryModel") (T := x_TM) (N := 31) hx hb hts x_inM hown hK hP 0 (m_lk_M G _) rfl 5 (by decide) (hts _ t_677) (fun _ h9 => h9) rfl d_M_forget_51 ?_
      refine lv_iload_n hx hb d_M_forget_54 rfl (lv_at hl 1 rfl) ?_
      refine lv_iconst (v := (0 : Int32)) hx hb d_M_forget_55 (by decide) ?_
      obtain ⟨hin2, hf⟩ := x_ck_some hf
      refine va_zast hx hb hK hP hD hS 2 1 (m_lk_Z G _ (k := 2) (by decide)) rfl hin2 d_M_forget_56 (fun H locs hP hD hS => ?_)
      rw [m_st_Z G _ (k := 2) (by decide)] at hP hD
      refine lv_iinc (v := (a1 + (1 : Int32))) (lv' := [(1, .int (a1 + (1 : Int32))), (0, .ref (x_ad G 0))]) hx hb d_M_forget_57 hl (k := 1) rfl rfl (by decide) rfl (fun ls hl => ?_)
      refine lv_goto (tgt := 44) hx hb d_M_forget_60 (by decide) ?_
      exact ih (a1 + (1 : Int32)) (x_put z0 2 (a1).toNatClampNeg (vp_nar .boolean (0 : Int32))) hf _ _ _ hP hD hS (lv_sub hl [1, 0] rfl)
set_option maxHeartbeats 4000000 in
set_option maxRecDepth 100000 in
theorem w_M_forget_42 (l : Launch) (G : x_G) {p : Program} {e : Env} {s : State} {m : MethodId} {args : Array Value} {below : List Frame} {meth : Method} {c : Code} (C0 : m_Ctx G p s m args meth c prog_7_method_18_code "ContentLibraryModel" 2 none) (r : Unit) (zo : x_St) : ∀ (z0 : x_St), f_M_forget_42 (x_n G)  z0 = some (r, zo) → ∀ (H : Heap) (locs : List Loc) (ls : Array Slot), va_P (x_D G) vwCl (m_Wd G z0) H → va_D (x_A G) (m_Wd G z0) → va_S (x_A G) s.heap H locs → lv_has ls 2 [(0, .ref (x_ad G 0))] → W p l e rm_M_forget s m args below meth c H locs 0 0 (MQ below (va_Qv (fun u => r = () ∧ zo = u) (m_PW G) (x_A G)) args s 0 0 (x_A G)) (F0 m 42 ls []) := by
  obtain ⟨hx, hb, hr, hml, hown, hts, hlocks, hz, hK, hG⟩ := id C0
  intro  z0 hf H locs ls hP hD hS hl
  rw [f_M_forget_42] at hf
  refine lv_iconst (v := (0 : Int32)) hx hb d_M_forget_42 (by decide) ?_
  refine lv_istore_n (lv' := [(1, .int (0 : Int32)), (0, .ref (x_ad G 0))]) hx hb d_M_forget_43 rfl hl (by decide) rfl (fun ls hl => ?_)
  exact w_M_forget_44 l G C0 r zo x_FU (0 : Int32) z0 hf _ _ _ hP hD hS (lv_sub hl [1, 0] rfl)
set_option maxHeartbeats 4000000 in
set_option maxRecDepth 100000 in
theorem w_M_forget_23 (l : Launch) (G : x_G) {p : Program} {e : Env} {s : State} {m : MethodId} {args : Array Value} {below : List Frame} {meth : Method} {c : Code} (C0 : m_Ctx G p s m args meth c prog_7_method_18_code "ContentLibraryModel" 2 none) (r : Unit) (zo : x_St) : ∀ (fu : Nat), ∀ (a1 : Int32) (z0 : x_St), f_M_forget_23 (x_n G) fu a1 z0 = some (r, zo) → ∀ (H : Heap) (locs : List Loc) (ls : Array Slot), va_P (x_D G) vwCl (m_Wd G z0) H → va_D (x_A G) (m_Wd G z0) → va_S (x_A G) s.heap H locs → lv_has ls 2 [(0, .ref (x_ad G 0)), (1, .int a1)] → W p l e rm_M_forget s m args below meth c H locs 0 0 (MQ below (va_Qv (fun u => r = () ∧ zo = u) (m_PW G) (x_A G)) args s 0 0 (x_A G)) (F0 m 23 ls []) := by
  obtain ⟨hx, hb, hr, hml, hown, hts, hlocks, hz, hK, hG⟩ := id C0
  intro fu
  induction fu with
  | zero =>
    intro a1 z0 hf
    rw [f_M_forget_23] at hf
    cases hf
  | succ fu ih =>
    intro a1 z0 hf H locs ls hP hD hS hl
    rw [f_M_forget_23] at hf
    refine lv_iload_n hx hb d_M_forget_23 rfl (lv_at hl 1 rfl) ?_
    refine lv_bipush (v := (40 : Int32)) hx hb d_M_forget_24 (by decide) ?_
    refine lv_icmp_ge (tgt := 42) hx hb d_M_forget_26 (by decide) (fun hc3 => ?_) (fun hc3 => ?_)
    · have hf := x_br_t hf hc3
      exact w_M_forget_42 l G C0 r zo z0 hf _ _ _ hP hD hS (lv_sub hl [0] rfl)
    · have hf := x_br_f hf hc3
      refine lv_aload_n hx hb d_M_forget_29 rfl (lv_at hl 0 rfl) ?_
      refine va_get (D := x_D G) (ci := 5) (v := .ref (x_ad G 15)) (C := "ContentLibraryModel") (T := x_TM) (N := 31) hx hb hts x_inM hown hK hP 0 (m_lk_M G _) rfl 18 (by decide) (hts _ t_690) (fun _ h9 => h9) rfl d_M_forget_30 ?_
      refine lv_iload_n hx hb d_M_forget_33 rfl (lv_at hl 1 rfl) ?_
      refine lv_iconst (v := (-1 : Int32)) hx hb d_M_forget_34 (by decide) ?_
      obtain ⟨hin4, hf⟩ := x_ck_some hf
      refine va_iast hx hb hK hP hD hS 15 0 (m_lk_A G _ (k := 15) (by decide)) rfl hin4 d_M_forget_35 (fun H locs hP hD hS => ?_)
      rw [m_st_A G _ (k := 15) (by decide)] at hP hD
      refine lv_iinc (v := (a1 + (1 : Int32))) (lv' := [(1, .int (a1 + (1 : Int32))), (0, .ref (x_ad G 0))]) hx hb d_M_forget_36 hl (k := 1) rfl rfl (by decide) rfl (fun ls hl => ?_)
      refine lv_goto (tgt := 23) hx hb d_M_forget_39 (by decide) ?_
      exact ih (a1 + (1 : Int32)) (x_put z0 15 (a1).toNatClampNeg (-1 : Int32)) hf _ _ _ hP hD hS (lv_sub hl [1, 0] rfl)
set_option maxHeartbeats 4000000 in
set_option maxRecDepth 100000 in
theorem w_M_forget_21 (l : Launch) (G : x_G) {p : Program} {e : Env} {s : State} {m : MethodId} {args : Array Value} {below : List Frame} {meth : Method} {c : Code} (C0 : m_Ctx G p s m args meth c prog_7_method_18_code "ContentLibraryModel" 2 none) (r : Unit) (zo : x_St) : ∀ (z0 : x_St), f_M_forget_21 (x_n G)  z0 = some (r, zo) → ∀ (H : Heap) (locs : List Loc) (ls : Array Slot), va_P (x_D G) vwCl (m_Wd G z0) H → va_D (x_A G) (m_Wd G z0) → va_S (x_A G) s.heap H locs → lv_has ls 2 [(0, .ref (x_ad G 0))] → W p l e rm_M_forget s m args below meth c H locs 0 0 (MQ below (va_Qv (fun u => r = () ∧ zo = u) (m_PW G) (x_A G)) args s 0 0 (x_A G)) (F0 m 21 ls []) := by
  obtain ⟨hx, hb, hr, hml, hown, hts, hlocks, hz, hK, hG⟩ := id C0
  intro  z0 hf H locs ls hP hD hS hl
  rw [f_M_forget_21] at hf
  refine lv_iconst (v := (0 : Int32)) hx hb d_M_forget_21 (by decide) ?_
  refine lv_istore_n (lv' := [(1, .int (0 : Int32)), (0, .ref (x_ad G 0))]) hx hb d_M_forget_22 rfl hl (by decide) rfl (fun ls hl => ?_)
  exact w_M_forget_23 l G C0 r zo x_FU (0 : Int32) z0 hf _ _ _ hP hD hS (lv_sub hl [1, 0] rfl)
set_option maxHeartbeats 4000000 in
set_option maxRecDepth 100000 in
theorem w_M_forget_2 (l : Launch) (G : x_G) {p : Program} {e : Env} {s : State} {m : MethodId} {args : Array Value} {below : List Frame} {meth : Method} {c : Code} (C0 : m_Ctx G p s m args meth c prog_7_method_18_code "ContentLibraryModel" 2 none) (r : Unit) (zo : x_St) : ∀ (fu : Nat), ∀ (a1 : Int32) (z0 : x_St), f_M_forget_2 (x_n G) fu a1 z0 = some (r, zo) → ∀ (H : Heap) (locs : List Loc) (ls : Array Slot), va_P (x_D G) vwCl (m_Wd G z0) H → va_D (x_A G) (m_Wd G z0) → va_S (x_A G) s.heap H locs → lv_has ls 2 [(0, .ref (x_ad G 0)), (1, .int a1)] → W p l e rm_M_forget s m args below meth c H locs 0 0 (MQ below (va_Qv (fun u => r = () ∧ zo = u) (m_PW G) (x_A G)) args s 0 0 (x_A G)) (F0 m 2 ls []) := by
  obtain ⟨hx, hb, hr, hml, hown, hts, hlocks, hz, hK, hG⟩ := id C0
  intro fu
  induction fu with
  | zero =>
    intro a1 z0 hf
    rw [f_M_forget_2] at hf
    cases hf
  | succ fu ih =>
    intro a1 z0 hf H locs ls hP hD hS hl
    rw [f_M_forget_2] at hf
    refine lv_iload_n hx hb d_M_forget_2 rfl (lv_at hl 1 rfl) ?_
    refine lv_bipush (v := (16 : Int32)) hx hb d_M_forget_3 (by decide) ?_
    refine lv_icmp_ge (tgt := 21) hx hb d_M_forget_5 (by decide) (fun hc5 => ?_) (fun hc5 => ?_)
    · have hf := x_br_t hf hc5
      exact w_M_forget_21 l G C0 r zo z0 hf _ _ _ hP hD hS (lv_sub hl [0] rfl)
    · have hf := x_br_f hf hc5
      refine lv_aload_n hx hb d_M_forget_8 rfl (lv_at hl 0 rfl) ?_
      refine va_get (D := x_D G) (ci := 5) (v := .ref (x_ad G 7)) (C := "ContentLibraryModel") (T := x_TM) (N := 31) hx hb hts x_inM hown hK hP 0 (m_lk_M G _) rfl 10 (by decide) (hts _ t_682) (fun _ h9 => h9) rfl d_M_forget_9 ?_
      refine lv_iload_n hx hb d_M_forget_12 rfl (lv_at hl 1 rfl) ?_
      refine lv_iconst (v := (0 : Int32)) hx hb d_M_forget_13 (by decide) ?_
      obtain ⟨hin6, hf⟩ := x_ck_some hf
      refine va_zast hx hb hK hP hD hS 7 1 (m_lk_Z G _ (k := 7) (by decide)) rfl hin6 d_M_forget_14 (fun H locs hP hD hS => ?_)
      rw [m_st_Z G _ (k := 7) (by decide)] at hP hD
      refine lv_iinc (v := (a1 + (1 : Int32))) (lv' := [(1, .int (a1 + (1 : Int32))), (0, .ref (x_ad G 0))]) hx hb d_M_forget_15 hl (k := 1) rfl rfl (by decide) rfl (fun ls hl => ?_)
      refine lv_goto (tgt := 2) hx hb d_M_forget_18 (by decide) ?_
      exact ih (a1 + (1 : Int32)) (x_put z0 7 (a1).toNatClampNeg (vp_nar .boolean (0 : Int32))) hf _ _ _ hP hD hS (lv_sub hl [1, 0] rfl)
set_option maxHeartbeats 4000000 in
set_option maxRecDepth 100000 in
theorem c_M_forget (l : Launch) (G : x_G)  (z0 : x_St) (r : Unit) (zo : x_St) (hf : f_M_forget (x_n G)  z0 = some (r, zo)) : Met l (⟨"ContentLibraryModel", "forget", "()V"⟩ : MethodName) (x_ws (⟨"ContentLibraryModel", "forget", "()V"⟩ : MethodName) prog_7_method_18_code 2 none) rm_M_forget (va_Pc [.ref (x_ad G 0)] (m_PW G z0)) (va_Qv (fun u => r = () ∧ zo = u) (m_PW G) (x_A G)) 0 0 (x_A G) := by
  refine Met.ofW (cc := prog_7_method_18_code) (maxL := 2) (ret := none) (by decide) rfl ?_
  intro p e s m args below meth c s₁ B hml hv
  obtain ⟨rfl, hz, hP, hD, hK, hG⟩ := hv
  have C0 : m_Ctx G p s m _ meth c prog_7_method_18_code "ContentLibraryModel" 2 none := ⟨B.exec, B.bytes, B.returns, hml, findClass_of_methodNamed B.named, fun w h => atoms_spec (ws := (x_ws (⟨"ContentLibraryModel", "forget", "()V"⟩ : MethodName) prog_7_method_18_code 2 none)) B.pre w (List.mem_cons_of_mem _ h), B.notSynchronized, hz, hK, hG⟩
  obtain ⟨hx, hb, hr, hml, hown, hts, hlocks, hz, hK, hG⟩ := id C0
  have hS : va_S (x_A G) s.heap s.heap [] := va_S.rf
  have hl := lv_entry ([.ref (x_ad G 0)]) (n := 2) (Nat.le_of_ble_eq_true rfl)
  rw [lg_entry_eq]
  generalize (lg_sl ([.ref (x_ad G 0)]) ++ List.replicate (2 - (lg_sl ([.ref (x_ad G 0)])).length) Slot.unset).toArray = ls at hl ⊢
  have hl : lv_has ls 2 [(0, .ref (x_ad G 0))] := hl
  rw [f_M_forget] at hf
  refine lv_iconst (v := (0 : Int32)) hx hb d_M_forget_0 (by decide) ?_
  refine lv_istore_n (lv' := [(1, .int (0 : Int32)), (0, .ref (x_ad G 0))]) hx hb d_M_forget_1 rfl hl (by decide) rfl (fun ls hl => ?_)
  exact w_M_forget_2 l G C0 r zo x_FU (0 : Int32) z0 hf _ _ _ hP hD hS (lv_sub hl [1, 0] rfl)
abbrev rm_M_isGone : Room := { frames := 1, cells := 0, slots := 0, locals := 21 }
set_option maxHeartbeats 4000000 in
set_option maxRecDepth 100000 in
theorem w_M_isGone_11 (l : Launch) (G : x_G) {p : Program} {e : Env} {s : State} {m : MethodId} {args : Array Value} {below : List Frame} {meth : Method} {c : Code} (C0 : m_Ctx G p s m args meth c prog_7_method_19_code "ContentLibraryModel" 1 (some .boolean)) (r : Int32) (zo : x_St) : ∀ (z0 : x_St), f_M_isGone_11 (x_n G)  z0 = some (r, zo) → ∀ (H : Heap) (locs : List Loc) (ls : Array Slot), va_P (x_D G) vwCl (m_Wd G z0) H → va_D (x_A G) (m_Wd G z0) → va_S (x_A G) s.heap H locs → lv_has ls 1 [(0, .ref (x_ad G 0))] → W p l e rm_M_isGone s m args below meth c H locs 0 0 (MQ below (va_Qi (fun a u => r = a ∧ zo = u) (m_PW G) (x_A G)) args s 0 0 (x_A G)) (F0 m 11 ls []) := by
  obtain ⟨hx, hb, hr, hml, hown, hts, hlocks, hz, hK, hG⟩ := id C0
  intro  z0 hf H locs ls hP hD hS hl
  rw [f_M_isGone_11] at hf
  refine lv_aload_n hx hb d_M_isGone_11 rfl (lv_at hl 0 rfl) ?_
  refine va_get (D := x_D G) (ci := 5) (v := .int (z0.1 0 3)) (C := "ContentLibraryModel") (T := x_TM) (N := 31) hx hb hts x_inM hown hK hP 0 (m_lk_M G _) rfl 3 (by decide) (hts _ t_675) (fun _ h9 => h9) rfl d_M_isGone_12 ?_
  obtain ⟨hbo, hf⟩ := x_ckb_some hf
  obtain ⟨rfl, rfl⟩ := x_ret hf
  exact W.zret (v := (z0.1 0 3)) hx hb hr (x_nb hbo) (fun t ht hW => ⟨⟨_, _, rfl, ⟨rfl, rfl⟩, m_pw hP hD hK hG hS hz ht hW⟩, hS.F ht⟩) hS.2.2 d_M_isGone_15
set_option maxHeartbeats 4000000 in
set_option maxRecDepth 100000 in
theorem c_M_isGone (l : Launch) (G : x_G)  (z0 : x_St) (r : Int32) (zo : x_St) (hf : f_M_isGone (x_n G)  z0 = some (r, zo)) : Met l (⟨"ContentLibraryModel", "isGone", "()Z"⟩ : MethodName) (x_ws (⟨"ContentLibraryModel", "isGone", "()Z"⟩ : MethodName) prog_7_method_19_code 1 (some .boolean)) rm_M_isGone (va_Pc [.ref (x_ad G 0)] (m_PW G z0)) (va_Qi (fun a u => r = a ∧ zo = u) (m_PW G) (x_A G)) 0 0 (x_A G) := by
  refine Met.ofW (cc := prog_7_method_19_code) (maxL := 1) (ret := (some .boolean)) (by decide) rfl ?_
  intro p e s m args below meth c s₁ B hml hv
  obtain ⟨rfl, hz, hP, hD, hK, hG⟩ := hv
  have C0 : m_Ctx G p s m _ meth c prog_7_method_19_code "ContentLibraryModel" 1 (some .boolean) := ⟨B.exec, B.bytes, B.returns, hml, findClass_of_methodNamed B.named, fun w h => atoms_spec (ws := (x_ws (⟨"ContentLibraryModel", "isGone", "()Z"⟩ : MethodName) prog_7_method_19_code 1 (some .boolean))) B.pre w (List.mem_cons_of_mem _ h), B.notSynchronized, hz, hK, hG⟩
  obtain ⟨hx, hb, hr, hml, hown, hts, hlocks, hz, hK, hG⟩ := id C0
  have hS : va_S (x_A G) s.heap s.heap [] := va_S.rf
  have hl := lv_entry ([.ref (x_ad G 0)]) (n := 1) (Nat.le_of_ble_eq_true rfl)
  rw [lg_entry_eq]
  generalize (lg_sl ([.ref (x_ad G 0)]) ++ List.replicate (1 - (lg_sl ([.ref (x_ad G 0)])).length) Slot.unset).toArray = ls at hl ⊢
  have hl : lv_has ls 1 [(0, .ref (x_ad G 0))] := hl
  rw [f_M_isGone] at hf
  refine lv_aload_n hx hb d_M_isGone_0 rfl (lv_at hl 0 rfl) ?_
  refine va_get (D := x_D G) (ci := 5) (v := .int (z0.1 0 3)) (C := "ContentLibraryModel") (T := x_TM) (N := 31) hx hb hts x_inM hown hK hP 0 (m_lk_M G _) rfl 3 (by decide) (hts _ t_675) (fun _ h9 => h9) rfl d_M_isGone_1 ?_
  refine lv_if_eq (tgt := 11) hx hb d_M_isGone_4 (by decide) (fun hc1 => ?_) (fun hc1 => ?_)
  · have hf := x_br_t hf hc1
    exact w_M_isGone_11 l G C0 r zo z0 hf _ _ _ hP hD hS (lv_sub hl [0] rfl)
  · have hf := x_br_f hf hc1
    refine lv_aload_n hx hb d_M_isGone_7 rfl (lv_at hl 0 rfl) ?_
    obtain ⟨r2, z2, hq3, hf⟩ := x_cl_some hf
    refine va_callv (va_runV (As := []) (rest := []) ⟨hx, hb, hml, hown, hts⟩ (c_M_forget l G z0 r2 z2 hq3) (cwV 0 hts (x_gV t_839 t_841 sel_ContentLibraryModel_forget t_7 t_842) rfl rfl rfl (by decide +kernel) ⟨Nat.le_of_ble_eq_true rfl, Nat.le_of_ble_eq_true rfl⟩) ⟨m_blind _ _ _, va_recv hK hP (ci := 5) (q0 := 0) rfl (m_lk_M G _), fun U hU hW => ⟨rfl, m_pw hP hD hK hG hS hz hU hW⟩⟩ rfl rfl hl.1 rfl (lv_room (Nat.le_of_ble_eq_true rfl)) d_M_isGone_8 ⟨Nat.le_of_ble_eq_true rfl, Nat.le_of_ble_eq_true rfl⟩) hS (fun q _ h => h) (fun q h => h) (fun u t H locs ht hvm hw hB _ _ hS => ?_)
    obtain ⟨rfl, rfl⟩ := hw
    obtain ⟨hP, hD⟩ := m_back hB ht
    exact w_M_isGone_11 l G C0 r zo z2 hf _ _ _ hP hD hS (lv_sub hl [0] rfl)
abbrev rm_M_freeBlocks : Room := { frames := 0, cells := 0, slots := 0, locals := 0 }
set_option maxHeartbeats 4000000 in
set_option maxRecDepth 100000 in
theorem w_M_freeBlocks_36 (l : Launch) (G : x_G) {p : Program} {e : Env} {s : State} {m : MethodId} {args : Array Value} {below : List Frame} {meth : Method} {c : Code} (C0 : m_Ctx G p s m args meth c prog_7_method_20_code "ContentLibraryModel" 3 (some .int)) (r : Int32) (zo : x_St) : ∀ (a1 : Int32) (z0 : x_St), f_M_freeBlocks_36 (x_n G) a1 z0 = some (r, zo) → ∀ (H : Heap) (locs : List Loc) (ls : Array Slot), va_P (x_D G) vwCl (m_Wd G z0) H → va_D (x_A G) (m_Wd G z0) → va_S (x_A G) s.heap H locs → lv_has ls 3 [(1, .int a1)] → W p l e rm_M_freeBlocks s m args below meth c H locs 0 0 (MQ below (va_Qi (fun a u => r = a ∧ zo = u) (m_PW G) (x_A G)) args s 0 0 (x_A G)) (F0 m 36 ls []) := by
  obtain ⟨hx, hb, hr, hml, hown, hts, hlocks, hz, hK, hG⟩ := id C0
  intro a1 z0 hf H locs ls hP hD hS hl
  rw [f_M_freeBlocks_36] at hf
  refine lv_iload_n hx hb d_M_freeBlocks_36 rfl (lv_at hl 0 rfl) ?_
  obtain ⟨rfl, rfl⟩ := x_ret hf
  exact W.iret (v := a1) hx hb hr (fun t ht hW => ⟨⟨_, _, rfl, ⟨rfl, rfl⟩, m_pw hP hD hK hG hS hz ht hW⟩, hS.F ht⟩) hS.2.2 d_M_freeBlocks_37
set_option maxHeartbeats 4000000 in
set_option maxRecDepth 100000 in
theorem w_M_freeBlocks_4 (l : Launch) (G : x_G) {p : Program} {e : Env} {s : State} {m : MethodId} {args : Array Value} {below : List Frame} {meth : Method} {c : Code} (C0 : m_Ctx G p s m args meth c prog_7_method_20_code "ContentLibraryModel" 3 (some .int)) (r : Int32) (zo : x_St) : ∀ (fu : Nat), ∀ (a1 : Int32) (a2 : Int32) (z0 : x_St), f_M_freeBlocks_4 (x_n G) fu a1 a2 z0 = some (r, zo) → ∀ (H : Heap) (locs : List Loc) (ls : Array Slot), va_P (x_D G) vwCl (m_Wd G z0) H → va_D (x_A G) (m_Wd G z0) → va_S (x_A G) s.heap H locs → lv_has ls 3 [(0, .ref (x_ad G 0)), (1, .int a1), (2, .int a2)] → W p l e rm_M_freeBlocks s m args below meth c H locs 0 0 (MQ below (va_Qi (fun a u => r = a ∧ zo = u) (m_PW G) (x_A G)) args s 0 0 (x_A G)) (F0 m 4 ls []) := by
  obtain ⟨hx, hb, hr, hml, hown, hts, hlocks, hz, hK, hG⟩ := id C0
  intro fu
  induction fu with
  | zero =>
    intro a1 a2 z0 hf
    rw [f_M_freeBlocks_4] at hf
    cases hf
  | succ fu ih =>
    intro a1 a2 z0 hf H locs ls hP hD hS hl
    rw [f_M_freeBlocks_4] at hf
    refine lv_iload_n hx hb d_M_freeBlocks_4 rfl (lv_at hl 2 rfl) ?_
    refine lv_aload_n hx hb d_M_freeBlocks_5 rfl (lv_at hl 0 rfl) ?_
    refine va_get (D := x_D G) (ci := 5) (v := .int (z0.1 0 1)) (C := "ContentLibraryModel") (T := x_TM) (N := 31) hx hb hts x_inM hown hK hP 0 (m_lk_M G _) rfl 1 (by decide) (hts _ t_673) (fun _ h9 => h9) rfl d_M_freeBlocks_6 ?_
    refine lv_icmp_ge (tgt := 36) hx hb d_M_freeBlocks_9 (by decide) (fun hc1 => ?_) (fun hc1 => ?_)
    · have hf := x_br_t hf hc1
      exact w_M_freeBlocks_36 l G C0 r zo a1 z0 hf _ _ _ hP hD hS (lv_sub hl [1] rfl)
    · have hf := x_br_f hf hc1
      refine lv_iload_n hx hb d_M_freeBlocks_12 rfl (lv_at hl 1 rfl) ?_
      refine lv_aload_n hx hb d_M_freeBlocks_13 rfl (lv_at hl 0 rfl) ?_
      refine va_get (D := x_D G) (ci := 5) (v := .ref (x_ad G 15)) (C := "ContentLibraryModel") (T := x_TM) (N := 31) hx hb hts x_inM hown hK hP 0 (m_lk_M G _) rfl 18 (by decide) (hts _ t_690) (fun _ h9 => h9) rfl d_M_freeBlocks_14 ?_
      refine lv_iload_n hx hb d_M_freeBlocks_17 rfl (lv_at hl 2 rfl) ?_
      obtain ⟨hin2, hf⟩ := x_ck_some hf
      refine va_iald hx hb hK hP 15 0 (m_lk_A G _ (k := 15) (by decide)) rfl hin2 d_M_freeBlocks_18 ?_
      refine lv_iconst (v := (-1 : Int32)) hx hb d_M_freeBlocks_19 (by decide) ?_
      refine lv_icmp_ne (tgt := 27) hx hb d_M_freeBlocks_20 (by decide) (fun hc3 => ?_) (fun hc3 => ?_)
      · have hf := x_br_f hf hc3
        refine lv_iconst (v := (0 : Int32)) hx hb d_M_freeBlocks_27 (by decide) ?_
        refine lv_iadd hx hb d_M_freeBlocks_28 ?_
        refine lv_istore_n (lv' := [(1, .int (a1 + (0 : Int32))), (0, .ref (x_ad G 0)), (2, .int a2)]) hx hb d_M_freeBlocks_29 rfl hl (by decide) rfl (fun ls hl => ?_)
        refine lv_iinc (v := (a2 + (1 : Int32))) (lv' := [(2, .int (a2 + (1 : Int32))), (1, .int (a1 + (0 : Int32))), (0, .ref (x_ad G 0))]) hx hb d_M_freeBlocks_30 hl (k := 2) rfl rfl (by decide) rfl (fun ls hl => ?_)
        refine lv_goto (tgt := 4) hx hb d_M_freeBlocks_33 (by decide) ?_
        exact ih (a1 + (0 : Int32)) (a2 + (1 : Int32)) z0 hf _ _ _ hP hD hS (lv_sub hl [2, 1, 0] rfl)
      · have hf := x_br_t hf hc3
        refine lv_iconst (v := (1 : Int32)) hx hb d_M_freeBlocks_23 (by decide) ?_
        refine lv_goto (tgt := 28) hx hb d_M_freeBlocks_24 (by decide) ?_
        refine lv_iadd hx hb d_M_freeBlocks_28 ?_
        refine lv_istore_n (lv' := [(1, .int (a1 + (1 : Int32))), (0, .ref (x_ad G 0)), (2, .int a2)]) hx hb d_M_freeBlocks_29 rfl hl (by decide) rfl (fun ls hl => ?_)
        refine lv_iinc (v := (a2 + (1 : Int32))) (lv' := [(2, .int (a2 + (1 : Int32))), (1, .int (a1 + (1 : Int32))), (0, .ref (x_ad G 0))]) hx hb d_M_freeBlocks_30 hl (k := 2) rfl rfl (by decide) rfl (fun ls hl => ?_)
        refine lv_goto (tgt := 4) hx hb d_M_freeBlocks_33 (by decide) ?_
        exact ih (a1 + (1 : Int32)) (a2 + (1 : Int32)) z0 hf _ _ _ hP hD hS (lv_sub hl [2, 1, 0] rfl)
set_option maxHeartbeats 4000000 in
set_option maxRecDepth 100000 in
theorem c_M_freeBlocks (l : Launch) (G : x_G)  (z0 : x_St) (r : Int32) (zo : x_St) (hf : f_M_freeBlocks (x_n G)  z0 = some (r, zo)) : Met l (⟨"ContentLibraryModel", "freeBlocks", "()I"⟩ : MethodName) (x_ws (⟨"ContentLibraryModel", "freeBlocks", "()I"⟩ : MethodName) prog_7_method_20_code 3 (some .int)) rm_M_freeBlocks (va_Pc [.ref (x_ad G 0)] (m_PW G z0)) (va_Qi (fun a u => r = a ∧ zo = u) (m_PW G) (x_A G)) 0 0 (x_A G) := by
  refine Met.ofW (cc := prog_7_method_20_code) (maxL := 3) (ret := (some .int)) (by decide) rfl ?_
  intro p e s m args below meth c s₁ B hml hv
  obtain ⟨rfl, hz, hP, hD, hK, hG⟩ := hv
  have C0 : m_Ctx G p s m _ meth c prog_7_method_20_code "ContentLibraryModel" 3 (some .int) := ⟨B.exec, B.bytes, B.returns, hml, findClass_of_methodNamed B.named, fun w h => atoms_spec (ws := (x_ws (⟨"ContentLibraryModel", "freeBlocks", "()I"⟩ : MethodName) prog_7_method_20_code 3 (some .int))) B.pre w (List.mem_cons_of_mem _ h), B.notSynchronized, hz, hK, hG⟩
  obtain ⟨hx, hb, hr, hml, hown, hts, hlocks, hz, hK, hG⟩ := id C0
  have hS : va_S (x_A G) s.heap s.heap [] := va_S.rf
  have hl := lv_entry ([.ref (x_ad G 0)]) (n := 3) (Nat.le_of_ble_eq_true rfl)
  rw [lg_entry_eq]
  generalize (lg_sl ([.ref (x_ad G 0)]) ++ List.replicate (3 - (lg_sl ([.ref (x_ad G 0)])).length) Slot.unset).toArray = ls at hl ⊢
  have hl : lv_has ls 3 [(0, .ref (x_ad G 0))] := hl
  rw [f_M_freeBlocks] at hf
  refine lv_iconst (v := (0 : Int32)) hx hb d_M_freeBlocks_0 (by decide) ?_
  refine lv_istore_n (lv' := [(1, .int (0 : Int32)), (0, .ref (x_ad G 0))]) hx hb d_M_freeBlocks_1 rfl hl (by decide) rfl (fun ls hl => ?_)
  refine lv_iconst (v := (0 : Int32)) hx hb d_M_freeBlocks_2 (by decide) ?_
  refine lv_istore_n (lv' := [(2, .int (0 : Int32)), (1, .int (0 : Int32)), (0, .ref (x_ad G 0))]) hx hb d_M_freeBlocks_3 rfl hl (by decide) rfl (fun ls hl => ?_)
  exact w_M_freeBlocks_4 l G C0 r zo x_FU (0 : Int32) (0 : Int32) z0 hf _ _ _ hP hD hS (lv_sub hl [2, 1, 0] rfl)
abbrev rm_M_picture : Room := { frames := 0, cells := 0, slots := 0, locals := 0 }
set_option maxHeartbeats 4000000 in
set_option maxRecDepth 100000 in
theorem w_M_picture_34 (l : Launch) (G : x_G) {p : Program} {e : Env} {s : State} {m : MethodId} {args : Array Value} {below : List Frame} {meth : Method} {c : Code} (C0 : m_Ctx G p s m args meth c prog_7_method_21_code "ContentLibraryModel" 5 (some .int)) (r : Int32) (zo : x_St) : ∀ (a1 : Int32) (a2 : Int32) (a3 : Int32) (z0 : x_St), f_M_picture_34 (x_n G) a1 a2 a3 z0 = some (r, zo) → ∀ (H : Heap) (locs : List Loc) (ls : Array Slot), va_P (x_D G) vwCl (m_Wd G z0) H → va_D (x_A G) (m_Wd G z0) → va_S (x_A G) s.heap H locs → lv_has ls 5 [(0, .ref (x_ad G 0)), (1, .int a1), (2, .int a2), (3, .int a3)] → W p l e rm_M_picture s m args below meth c H locs 0 0 (MQ below (va_Qi (fun a u => r = a ∧ zo = u) (m_PW G) (x_A G)) args s 0 0 (x_A G)) (F0 m 34 ls []) := by
  obtain ⟨hx, hb, hr, hml, hown, hts, hlocks, hz, hK, hG⟩ := id C0
  intro a1 a2 a3 z0 hf H locs ls hP hD hS hl
  rw [f_M_picture_34] at hf
  refine lv_aload_n hx hb d_M_picture_34 rfl (lv_at hl 0 rfl) ?_
  refine lv_aload_n hx hb d_M_picture_35 rfl (lv_at hl 0 rfl) ?_
  refine va_get (D := x_D G) (ci := 5) (v := .int (z0.1 0 3)) (C := "ContentLibraryModel") (T := x_TM) (N := 31) hx hb hts x_inM hown hK hP 0 (m_lk_M G _) rfl 3 (by decide) (hts _ t_675) (fun _ h9 => h9) rfl d_M_picture_36 ?_
  refine lv_if_eq (tgt := 46) hx hb d_M_picture_39 (by decide) (fun hc1 => ?_) (fun hc1 => ?_)
  · have hf := x_br_t hf hc1
    refine lv_iload_n hx hb d_M_picture_46 rfl (lv_at hl 1 rfl) ?_
    refine lv_iconst (v := (1 : Int32)) hx hb d_M_picture_47 (by decide) ?_
    refine lv_icmp_lt (tgt := 68) hx hb d_M_picture_48 (by decide) (fun hc2 => ?_) (fun hc2 => ?_)
    · have hf := x_br_t hf hc2
      refine lv_iconst (v := (2 : Int32)) hx hb d_M_picture_68 (by decide) ?_
      refine lv_goto (tgt := 82) hx hb d_M_picture_69 (by decide) ?_
      refine va_put (D := x_D G) (ci := 5) (v := .int (2 : Int32)) (ty := .int) (C := "ContentLibraryModel") (T := x_TM) (N := 31) hx hb hts x_inM x_tyM x_tyM_ok x_nmM hown hK hP hD hS 0 (m_lk_M G _) rfl 0 (by decide) (hts _ t_672) (fun _ h9 => h9) rfl (by decide +kernel) rfl rfl (Nat.le_of_ble_eq_true rfl) d_M_picture_82 (fun H locs hP hD hS => ?_)
      rw [m_st_M0 G _] at hP hD
      refine lv_aload_n hx hb d_M_picture_85 rfl (lv_at hl 0 rfl) ?_
      refine va_get (D := x_D G) (ci := 5) (v := .int ((x_put z0 0 0 (2 : Int32)).1 0 0)) (C := "ContentLibraryModel") (T := x_TM) (N := 31) hx hb hts x_inM hown hK hP 0 (m_lk_M G _) rfl 0 (by decide) (hts _ t_672) (fun _ h9 => h9) rfl d_M_picture_86 ?_
      refine lv_if_le (tgt := 94) hx hb d_M_picture_89 (by decide) (fun hc3 => ?_) (fun hc3 => ?_)
      · have hf := x_br_t hf hc3
        refine lv_aload_n hx hb d_M_picture_94 rfl (lv_at hl 0 rfl) ?_
        refine va_get (D := x_D G) (ci := 5) (v := .ref (x_ad G 2)) (C := "ContentLibraryModel") (T := x_TM) (N := 31) hx hb hts x_inM hown hK hP 0 (m_lk_M G _) rfl 5 (by decide) (hts _ t_677) (fun _ h9 => h9) rfl d_M_picture_95 ?_
        refine lv_iload_n hx hb d_M_picture_98 rfl (lv_at hl 3 rfl) ?_
        refine lv_iconst (v := (1 : Int32)) hx hb d_M_picture_99 (by decide) ?_
        obtain ⟨hin4, hf⟩ := x_ck_some hf
        refine va_zast hx hb hK hP hD hS 2 1 (m_lk_Z G _ (k := 2) (by decide)) rfl hin4 d_M_picture_100 (fun H locs hP hD hS => ?_)
        rw [m_st_Z G _ (k := 2) (by decide)] at hP hD
        refine lv_aload_n hx hb d_M_picture_101 rfl (lv_at hl 0 rfl) ?_
        refine va_get (D := x_D G) (ci := 5) (v := .ref (x_ad G 3)) (C := "ContentLibraryModel") (T := x_TM) (N := 31) hx hb hts x_inM hown hK hP 0 (m_lk_M G _) rfl 6 (by decide) (hts _ t_678) (fun _ h9 => h9) rfl d_M_picture_102 ?_
        refine lv_iload_n hx hb d_M_picture_105 rfl (lv_at hl 3 rfl) ?_
        refine lv_iload_n hx hb d_M_picture_106 rfl (lv_at hl 1 rfl) ?_
        obtain ⟨hin5, hf⟩ := x_ck_some hf
        refine va_iast hx hb hK hP hD hS 3 0 (m_lk_A G _ (k := 3) (by decide)) rfl hin5 d_M_picture_107 (fun H locs hP hD hS => ?_)
        rw [m_st_A G _ (k := 3) (by decide)] at hP hD
        refine lv_aload_n hx hb d_M_picture_108 rfl (lv_at hl 0 rfl) ?_
        refine va_get (D := x_D G) (ci := 5) (v := .ref (x_ad G 4)) (C := "ContentLibraryModel") (T := x_TM) (N := 31) hx hb hts x_inM hown hK hP 0 (m_lk_M G _) rfl 7 (by decide) (hts _ t_679) (fun _ h9 => h9) rfl d_M_picture_109 ?_
        refine lv_iload_n hx hb d_M_picture_112 rfl (lv_at hl 3 rfl) ?_
        refine lv_iload_n hx hb d_M_picture_113 rfl (lv_at hl 2 rfl) ?_
        obtain ⟨hin6, hf⟩ := x_ck_some hf
        refine va_iast hx hb hK hP hD hS 4 0 (m_lk_A G _ (k := 4) (by decide)) rfl hin6 d_M_picture_114 (fun H locs hP hD hS => ?_)
        rw [m_st_A G _ (k := 4) (by decide)] at hP hD
        refine lv_aload_n hx hb d_M_picture_115 rfl (lv_at hl 0 rfl) ?_
        refine va_get (D := x_D G) (ci := 5) (v := .ref (x_ad G 5)) (C := "ContentLibraryModel") (T := x_TM) (N := 31) hx hb hts x_inM hown hK hP 0 (m_lk_M G _) rfl 8 (by decide) (hts _ t_680) (fun _ h9 => h9) rfl d_M_picture_116 ?_
        refine lv_iload_n hx hb d_M_picture_119 rfl (lv_at hl 3 rfl) ?_
        refine lv_iconst (v := (0 : Int32)) hx hb d_M_picture_120 (by decide) ?_
        obtain ⟨hin7, hf⟩ := x_ck_some hf
        refine va_iast hx hb hK hP hD hS 5 0 (m_lk_A G _ (k := 5) (by decide)) rfl hin7 d_M_picture_121 (fun H locs hP hD hS => ?_)
        rw [m_st_A G _ (k := 5) (by decide)] at hP hD
        refine lv_iload_n hx hb d_M_picture_122 rfl (lv_at hl 3 rfl) ?_
        obtain ⟨rfl, rfl⟩ := x_ret hf
        exact W.iret (v := a3) hx hb hr (fun t ht hW => ⟨⟨_, _, rfl, ⟨rfl, rfl⟩, m_pw hP hD hK hG hS hz ht hW⟩, hS.F ht⟩) hS.2.2 d_M_picture_123
      · have hf := x_br_f hf hc3
        refine lv_iconst (v := (0 : Int32)) hx hb d_M_picture_92 (by decide) ?_
        obtain ⟨rfl, rfl⟩ := x_ret hf
        exact W.iret (v := (0 : Int32)) hx hb hr (fun t ht hW => ⟨⟨_, _, rfl, ⟨rfl, rfl⟩, m_pw hP hD hK hG hS hz ht hW⟩, hS.F ht⟩) hS.2.2 d_M_picture_93
    · have hf := x_br_f hf hc2
      refine lv_iload_n hx hb d_M_picture_51 rfl (lv_at hl 1 rfl) ?_
      refine lv_bipush (v := (8 : Int32)) hx hb d_M_picture_52 (by decide) ?_
      refine lv_icmp_gt (tgt := 68) hx hb d_M_picture_54 (by decide) (fun hc8 => ?_) (fun hc8 => ?_)
      · have hf := x_br_t hf hc8
        refine lv_iconst (v := (2 : Int32)) hx hb d_M_picture_68 (by decide) ?_
        refine lv_goto (tgt := 82) hx hb d_M_picture_69 (by decide) ?_
        refine va_put (D := x_D G) (ci := 5) (v := .int (2 : Int32)) (ty := .int) (C := "ContentLibraryModel") (T := x_TM) (N := 31) hx hb hts x_inM x_tyM x_tyM_ok x_nmM hown hK hP hD hS 0 (m_lk_M G _) rfl 0 (by decide) (hts _ t_672) (fun _ h9 => h9) rfl (by decide +kernel) rfl rfl (Nat.le_of_ble_eq_true rfl) d_M_picture_82 (fun H locs hP hD hS => ?_)
        rw [m_st_M0 G _] at hP hD
        refine lv_aload_n hx hb d_M_picture_85 rfl (lv_at hl 0 rfl) ?_
        refine va_get (D := x_D G) (ci := 5) (v := .int ((x_put z0 0 0 (2 : Int32)).1 0 0)) (C := "ContentLibraryModel") (T := x_TM) (N := 31) hx hb hts x_inM hown hK hP 0 (m_lk_M G _) rfl 0 (by decide) (hts _ t_672) (fun _ h9 => h9) rfl d_M_picture_86 ?_
        refine lv_if_le (tgt := 94) hx hb d_M_picture_89 (by decide) (fun hc9 => ?_) (fun hc9 => ?_)
        · have hf := x_br_t hf hc9
          refine lv_aload_n hx hb d_M_picture_94 rfl (lv_at hl 0 rfl) ?_
          refine va_get (D := x_D G) (ci := 5) (v := .ref (x_ad G 2)) (C := "ContentLibraryModel") (T := x_TM) (N := 31) hx hb hts x_inM hown hK hP 0 (m_lk_M G _) rfl 5 (by decide) (hts _ t_677) (fun _ h9 => h9) rfl d_M_picture_95 ?_
          refine lv_iload_n hx hb d_M_picture_98 rfl (lv_at hl 3 rfl) ?_
          refine lv_iconst (v := (1 : Int32)) hx hb d_M_picture_99 (by decide) ?_
          obtain ⟨hin10, hf⟩ := x_ck_some hf
          refine va_zast hx hb hK hP hD hS 2 1 (m_lk_Z G _ (k := 2) (by decide)) rfl hin10 d_M_picture_100 (fun H locs hP hD hS => ?_)
          rw [m_st_Z G _ (k := 2) (by decide)] at hP hD
          refine lv_aload_n hx hb d_M_picture_101 rfl (lv_at hl 0 rfl) ?_
          refine va_get (D := x_D G) (ci := 5) (v := .ref (x_ad G 3)) (C := "ContentLibraryModel") (T := x_TM) (N := 31) hx hb hts x_inM hown hK hP 0 (m_lk_M G _) rfl 6 (by decide) (hts _ t_678) (fun _ h9 => h9) rfl d_M_picture_102 ?_
          refine lv_iload_n hx hb d_M_picture_105 rfl (lv_at hl 3 rfl) ?_
          refine lv_iload_n hx hb d_M_picture_106 rfl (lv_at hl 1 rfl) ?_
          obtain ⟨hin11, hf⟩ := x_ck_some hf
          refine va_iast hx hb hK hP hD hS 3 0 (m_lk_A G _ (k := 3) (by decide)) rfl hin11 d_M_picture_107 (fun H locs hP hD hS => ?_)
          rw [m_st_A G _ (k := 3) (by decide)] at hP hD
          refine lv_aload_n hx hb d_M_picture_108 rfl (lv_at hl 0 rfl) ?_
          refine va_get (D := x_D G) (ci := 5) (v := .ref (x_ad G 4)) (C := "ContentLibraryModel") (T := x_TM) (N := 31) hx hb hts x_inM hown hK hP 0 (m_lk_M G _) rfl 7 (by decide) (hts _ t_679) (fun _ h9 => h9) rfl d_M_picture_109 ?_
          refine lv_iload_n hx hb d_M_picture_112 rfl (lv_at hl 3 rfl) ?_
          refine lv_iload_n hx hb d_M_picture_113 rfl (lv_at hl 2 rfl) ?_
          obtain ⟨hin12, hf⟩ := x_ck_some hf
          refine va_iast hx hb hK hP hD hS 4 0 (m_lk_A G _ (k := 4) (by decide)) rfl hin12 d_M_picture_114 (fun H locs hP hD hS => ?_)
          rw [m_st_A G _ (k := 4) (by decide)] at hP hD
          refine lv_aload_n hx hb d_M_picture_115 rfl (lv_at hl 0 rfl) ?_
          refine va_get (D := x_D G) (ci := 5) (v := .ref (x_ad G 5)) (C := "ContentLibraryModel") (T := x_TM) (N := 31) hx hb hts x_inM hown hK hP 0 (m_lk_M G _) rfl 8 (by decide) (hts _ t_680) (fun _ h9 => h9) rfl d_M_picture_116 ?_
          refine lv_iload_n hx hb d_M_picture_119 rfl (lv_at hl 3 rfl) ?_
          refine lv_iconst (v := (0 : Int32)) hx hb d_M_picture_120 (by decide) ?_
          obtain ⟨hin13, hf⟩ := x_ck_some hf
          refine va_iast hx hb hK hP hD hS 5 0 (m_lk_A G _ (k := 5) (by decide)) rfl hin13 d_M_picture_121 (fun H locs hP hD hS => ?_)
          rw [m_st_A G _ (k := 5) (by decide)] at hP hD
          refine lv_iload_n hx hb d_M_picture_122 rfl (lv_at hl 3 rfl) ?_
          obtain ⟨rfl, rfl⟩ := x_ret hf
          exact W.iret (v := a3) hx hb hr (fun t ht hW => ⟨⟨_, _, rfl, ⟨rfl, rfl⟩, m_pw hP hD hK hG hS hz ht hW⟩, hS.F ht⟩) hS.2.2 d_M_picture_123
        · have hf := x_br_f hf hc9
          refine lv_iconst (v := (0 : Int32)) hx hb d_M_picture_92 (by decide) ?_
          obtain ⟨rfl, rfl⟩ := x_ret hf
          exact W.iret (v := (0 : Int32)) hx hb hr (fun t ht hW => ⟨⟨_, _, rfl, ⟨rfl, rfl⟩, m_pw hP hD hK hG hS hz ht hW⟩, hS.F ht⟩) hS.2.2 d_M_picture_93
      · have hf := x_br_f hf hc8
        refine lv_iload_n hx hb d_M_picture_57 rfl (lv_at hl 2 rfl) ?_
        refine lv_iconst (v := (1 : Int32)) hx hb d_M_picture_58 (by decide) ?_
        refine lv_icmp_lt (tgt := 68) hx hb d_M_picture_59 (by decide) (fun hc14 => ?_) (fun hc14 => ?_)
        · have hf := x_br_t hf hc14
          refine lv_iconst (v := (2 : Int32)) hx hb d_M_picture_68 (by decide) ?_
          refine lv_goto (tgt := 82) hx hb d_M_picture_69 (by decide) ?_
          refine va_put (D := x_D G) (ci := 5) (v := .int (2 : Int32)) (ty := .int) (C := "ContentLibraryModel") (T := x_TM) (N := 31) hx hb hts x_inM x_tyM x_tyM_ok x_nmM hown hK hP hD hS 0 (m_lk_M G _) rfl 0 (by decide) (hts _ t_672) (fun _ h9 => h9) rfl (by decide +kernel) rfl rfl (Nat.le_of_ble_eq_true rfl) d_M_picture_82 (fun H locs hP hD hS => ?_)
          rw [m_st_M0 G _] at hP hD
          refine lv_aload_n hx hb d_M_picture_85 rfl (lv_at hl 0 rfl) ?_
          refine va_get (D := x_D G) (ci := 5) (v := .int ((x_put z0 0 0 (2 : Int32)).1 0 0)) (C := "ContentLibraryModel") (T := x_TM) (N := 31) hx hb hts x_inM hown hK hP 0 (m_lk_M G _) rfl 0 (by decide) (hts _ t_672) (fun _ h9 => h9) rfl d_M_picture_86 ?_
          refine lv_if_le (tgt := 94) hx hb d_M_picture_89 (by decide) (fun hc15 => ?_) (fun hc15 => ?_)
          · have hf := x_br_t hf hc15
            refine lv_aload_n hx hb d_M_picture_94 rfl (lv_at hl 0 rfl) ?_
            refine va_get (D := x_D G) (ci := 5) (v := .ref (x_ad G 2)) (C := "ContentLibraryModel") (T := x_TM) (N := 31) hx hb hts x_inM hown hK hP 0 (m_lk_M G _) rfl 5 (by decide) (hts _ t_677) (fun _ h9 => h9) rfl d_M_picture_95 ?_
            refine lv_iload_n hx hb d_M_picture_98 rfl (lv_at hl 3 rfl) ?_
            refine lv_iconst (v := (1 : Int32)) hx hb d_M_picture_99 (by decide) ?_
            obtain ⟨hin16, hf⟩ := x_ck_some hf
            refine va_zast hx hb hK hP hD hS 2 1 (m_lk_Z G _ (k := 2) (by decide)) rfl hin16 d_M_picture_100 (fun H locs hP hD hS => ?_)
            rw [m_st_Z G _ (k := 2) (by decide)] at hP hD
            refine lv_aload_n hx hb d_M_picture_101 rfl (lv_at hl 0 rfl) ?_
            refine va_get (D := x_D G) (ci := 5) (v := .ref (x_ad G 3)) (C := "ContentLibraryModel") (T := x_TM) (N := 31) hx hb hts x_inM hown hK hP 0 (m_lk_M G _) rfl 6 (by decide) (hts _ t_678) (fun _ h9 => h9) rfl d_M_picture_102 ?_
            refine lv_iload_n hx hb d_M_picture_105 rfl (lv_at hl 3 rfl) ?_
            refine lv_iload_n hx hb d_M_picture_106 rfl (lv_at hl 1 rfl) ?_
            obtain ⟨hin17, hf⟩ := x_ck_some hf
            refine va_iast hx hb hK hP hD hS 3 0 (m_lk_A G _ (k := 3) (by decide)) rfl hin17 d_M_picture_107 (fun H locs hP hD hS => ?_)
            rw [m_st_A G _ (k := 3) (by decide)] at hP hD
            refine lv_aload_n hx hb d_M_picture_108 rfl (lv_at hl 0 rfl) ?_
            refine va_get (D := x_D G) (ci := 5) (v := .ref (x_ad G 4)) (C := "ContentLibraryModel") (T := x_TM) (N := 31) hx hb hts x_inM hown hK hP 0 (m_lk_M G _) rfl 7 (by decide) (hts _ t_679) (fun _ h9 => h9) rfl d_M_picture_109 ?_
            refine lv_iload_n hx hb d_M_picture_112 rfl (lv_at hl 3 rfl) ?_
            refine lv_iload_n hx hb d_M_picture_113 rfl (lv_at hl 2 rfl) ?_
            obtain ⟨hin18, hf⟩ := x_ck_some hf
            refine va_iast hx hb hK hP hD hS 4 0 (m_lk_A G _ (k := 4) (by decide)) rfl hin18 d_M_picture_114 (fun H locs hP hD hS => ?_)
            rw [m_st_A G _ (k := 4) (by decide)] at hP hD
            refine lv_aload_n hx hb d_M_picture_115 rfl (lv_at hl 0 rfl) ?_
            refine va_get (D := x_D G) (ci := 5) (v := .ref (x_ad G 5)) (C := "ContentLibraryModel") (T := x_TM) (N := 31) hx hb hts x_inM hown hK hP 0 (m_lk_M G _) rfl 8 (by decide) (hts _ t_680) (fun _ h9 => h9) rfl d_M_picture_116 ?_
            refine lv_iload_n hx hb d_M_picture_119 rfl (lv_at hl 3 rfl) ?_
            refine lv_iconst (v := (0 : Int32)) hx hb d_M_picture_120 (by decide) ?_
            obtain ⟨hin19, hf⟩ := x_ck_some hf
            refine va_iast hx hb hK hP hD hS 5 0 (m_lk_A G _ (k := 5) (by decide)) rfl hin19 d_M_picture_121 (fun H locs hP hD hS => ?_)
            rw [m_st_A G _ (k := 5) (by decide)] at hP hD
            refine lv_iload_n hx hb d_M_picture_122 rfl (lv_at hl 3 rfl) ?_
            obtain ⟨rfl, rfl⟩ := x_ret hf
            exact W.iret (v := a3) hx hb hr (fun t ht hW => ⟨⟨_, _, rfl, ⟨rfl, rfl⟩, m_pw hP hD hK hG hS hz ht hW⟩, hS.F ht⟩) hS.2.2 d_M_picture_123
          · have hf := x_br_f hf hc15
            refine lv_iconst (v := (0 : Int32)) hx hb d_M_picture_92 (by decide) ?_
            obtain ⟨rfl, rfl⟩ := x_ret hf
            exact W.iret (v := (0 : Int32)) hx hb hr (fun t ht hW => ⟨⟨_, _, rfl, ⟨rfl, rfl⟩, m_pw hP hD hK hG hS hz ht hW⟩, hS.F ht⟩) hS.2.2 d_M_picture_93
        · have hf := x_br_f hf hc14
          refine lv_iload_n hx hb d_M_picture_62 rfl (lv_at hl 2 rfl) ?_
          refine lv_bipush (v := (8 : Int32)) hx hb d_M_picture_63 (by decide) ?_
          refine lv_icmp_le (tgt := 72) hx hb d_M_picture_65 (by decide) (fun hc20 => ?_) (fun hc20 => ?_)
          · have hf := x_br_t hf hc20
            refine lv_iload_n hx hb d_M_picture_72 rfl (lv_at hl 3 rfl) ?_
            refine lv_iconst (v := (-1 : Int32)) hx hb d_M_picture_73 (by decide) ?_
            refine lv_icmp_ne (tgt := 81) hx hb d_M_picture_74 (by decide) (fun hc21 => ?_) (fun hc21 => ?_)
            · have hf := x_br_f hf hc21
              refine lv_iconst (v := (0 : Int32)) hx hb d_M_picture_81 (by decide) ?_
              refine va_put (D := x_D G) (ci := 5) (v := .int (0 : Int32)) (ty := .int) (C := "ContentLibraryModel") (T := x_TM) (N := 31) hx hb hts x_inM x_tyM x_tyM_ok x_nmM hown hK hP hD hS 0 (m_lk_M G _) rfl 0 (by decide) (hts _ t_672) (fun _ h9 => h9) rfl (by decide +kernel) rfl rfl (Nat.le_of_ble_eq_true rfl) d_M_picture_82 (fun H locs hP hD hS => ?_)
              rw [m_st_M0 G _] at hP hD
              refine lv_aload_n hx hb d_M_picture_85 rfl (lv_at hl 0 rfl) ?_
              refine va_get (D := x_D G) (ci := 5) (v := .int ((x_put z0 0 0 (0 : Int32)).1 0 0)) (C := "ContentLibraryModel") (T := x_TM) (N := 31) hx hb hts x_inM hown hK hP 0 (m_lk_M G _) rfl 0 (by decide) (hts _ t_672) (fun _ h9 => h9) rfl d_M_picture_86 ?_
              refine lv_if_le (tgt := 94) hx hb d_M_picture_89 (by decide) (fun hc22 => ?_) (fun hc22 => ?_)
              · have hf := x_br_t hf hc22
                refine lv_aload_n hx hb d_M_picture_94 rfl (lv_at hl 0 rfl) ?_
                refine va_get (D := x_D G) (ci := 5) (v := .ref (x_ad G 2)) (C := "ContentLibraryModel") (T := x_TM) (N := 31) hx hb hts x_inM hown hK hP 0 (m_lk_M G _) rfl 5 (by decide) (hts _ t_677) (fun _ h9 => h9) rfl d_M_picture_95 ?_
                refine lv_iload_n hx hb d_M_picture_98 rfl (lv_at hl 3 rfl) ?_
                refine lv_iconst (v := (1 : Int32)) hx hb d_M_picture_99 (by decide) ?_
                obtain ⟨hin23, hf⟩ := x_ck_some hf
                refine va_zast hx hb hK hP hD hS 2 1 (m_lk_Z G _ (k := 2) (by decide)) rfl hin23 d_M_picture_100 (fun H locs hP hD hS => ?_)
                rw [m_st_Z G _ (k := 2) (by decide)] at hP hD
                refine lv_aload_n hx hb d_M_picture_101 rfl (lv_at hl 0 rfl) ?_
                refine va_get (D := x_D G) (ci := 5) (v := .ref (x_ad G 3)) (C := "ContentLibraryModel") (T := x_TM) (N := 31) hx hb hts x_inM hown hK hP 0 (m_lk_M G _) rfl 6 (by decide) (hts _ t_678) (fun _ h9 => h9) rfl d_M_picture_102 ?_
                refine lv_iload_n hx hb d_M_picture_105 rfl (lv_at hl 3 rfl) ?_
                refine lv_iload_n hx hb d_M_picture_106 rfl (lv_at hl 1 rfl) ?_
                obtain ⟨hin24, hf⟩ := x_ck_some hf
                refine va_iast hx hb hK hP hD hS 3 0 (m_lk_A G _ (k := 3) (by decide)) rfl hin24 d_M_picture_107 (fun H locs hP hD hS => ?_)
                rw [m_st_A G _ (k := 3) (by decide)] at hP hD
                refine lv_aload_n hx hb d_M_picture_108 rfl (lv_at hl 0 rfl) ?_
                refine va_get (D := x_D G) (ci := 5) (v := .ref (x_ad G 4)) (C := "ContentLibraryModel") (T := x_TM) (N := 31) hx hb hts x_inM hown hK hP 0 (m_lk_M G _) rfl 7 (by decide) (hts _ t_679) (fun _ h9 => h9) rfl d_M_picture_109 ?_
                refine lv_iload_n hx hb d_M_picture_112 rfl (lv_at hl 3 rfl) ?_
                refine lv_iload_n hx hb d_M_picture_113 rfl (lv_at hl 2 rfl) ?_
                obtain ⟨hin25, hf⟩ := x_ck_some hf
                refine va_iast hx hb hK hP hD hS 4 0 (m_lk_A G _ (k := 4) (by decide)) rfl hin25 d_M_picture_114 (fun H locs hP hD hS => ?_)
                rw [m_st_A G _ (k := 4) (by decide)] at hP hD
                refine lv_aload_n hx hb d_M_picture_115 rfl (lv_at hl 0 rfl) ?_
                refine va_get (D := x_D G) (ci := 5) (v := .ref (x_ad G 5)) (C := "ContentLibraryModel") (T := x_TM) (N := 31) hx hb hts x_inM hown hK hP 0 (m_lk_M G _) rfl 8 (by decide) (hts _ t_680) (fun _ h9 => h9) rfl d_M_picture_116 ?_
                refine lv_iload_n hx hb d_M_picture_119 rfl (lv_at hl 3 rfl) ?_
                refine lv_iconst (v := (0 : Int32)) hx hb d_M_picture_120 (by decide) ?_
                obtain ⟨hin26, hf⟩ := x_ck_some hf
                refine va_iast hx hb hK hP hD hS 5 0 (m_lk_A G _ (k := 5) (by decide)) rfl hin26 d_M_picture_121 (fun H locs hP hD hS => ?_)
                rw [m_st_A G _ (k := 5) (by decide)] at hP hD
                refine lv_iload_n hx hb d_M_picture_122 rfl (lv_at hl 3 rfl) ?_
                obtain ⟨rfl, rfl⟩ := x_ret hf
                exact W.iret (v := a3) hx hb hr (fun t ht hW => ⟨⟨_, _, rfl, ⟨rfl, rfl⟩, m_pw hP hD hK hG hS hz ht hW⟩, hS.F ht⟩) hS.2.2 d_M_picture_123
              · have hf := x_br_f hf hc22
                refine lv_iconst (v := (0 : Int32)) hx hb d_M_picture_92 (by decide) ?_
                obtain ⟨rfl, rfl⟩ := x_ret hf
                exact W.iret (v := (0 : Int32)) hx hb hr (fun t ht hW => ⟨⟨_, _, rfl, ⟨rfl, rfl⟩, m_pw hP hD hK hG hS hz ht hW⟩, hS.F ht⟩) hS.2.2 d_M_picture_93
            · have hf := x_br_t hf hc21
              refine lv_iconst (v := (3 : Int32)) hx hb d_M_picture_77 (by decide) ?_
              refine lv_goto (tgt := 82) hx hb d_M_picture_78 (by decide) ?_
              refine va_put (D := x_D G) (ci := 5) (v := .int (3 : Int32)) (ty := .int) (C := "ContentLibraryModel") (T := x_TM) (N := 31) hx hb hts x_inM x_tyM x_tyM_ok x_nmM hown hK hP hD hS 0 (m_lk_M G _) rfl 0 (by decide) (hts _ t_672) (fun _ h9 => h9) rfl (by decide +kernel) rfl rfl (Nat.le_of_ble_eq_true rfl) d_M_picture_82 (fun H locs hP hD hS => ?_)
              rw [m_st_M0 G _] at hP hD
              refine lv_aload_n hx hb d_M_picture_85 rfl (lv_at hl 0 rfl) ?_
              refine va_get (D := x_D G) (ci := 5) (v := .int ((x_put z0 0 0 (3 : Int32)).1 0 0)) (C := "ContentLibraryModel") (T := x_TM) (N := 31) hx hb hts x_inM hown hK hP 0 (m_lk_M G _) rfl 0 (by decide) (hts _ t_672) (fun _ h9 => h9) rfl d_M_picture_86 ?_
              refine lv_if_le (tgt := 94) hx hb d_M_picture_89 (by decide) (fun hc27 => ?_) (fun hc27 => ?_)
              · have hf := x_br_t hf hc27
                refine lv_aload_n hx hb d_M_picture_94 rfl (lv_at hl 0 rfl) ?_
                refine va_get (D := x_D G) (ci := 5) (v := .ref (x_ad G 2)) (C := "ContentLibraryModel") (T := x_TM) (N := 31) hx hb hts x_inM hown hK hP 0 (m_lk_M G _) rfl 5 (by decide) (hts _ t_677) (fun _ h9 => h9) rfl d_M_picture_95 ?_
                refine lv_iload_n hx hb d_M_picture_98 rfl (lv_at hl 3 rfl) ?_
                refine lv_iconst (v := (1 : Int32)) hx hb d_M_picture_99 (by decide) ?_
                obtain ⟨hin28, hf⟩ := x_ck_some hf
                refine va_zast hx hb hK hP hD hS 2 1 (m_lk_Z G _ (k := 2) (by decide)) rfl hin28 d_M_picture_100 (fun H locs hP hD hS => ?_)
                rw [m_st_Z G _ (k := 2) (by decide)] at hP hD
                refine lv_aload_n hx hb d_M_picture_101 rfl (lv_at hl 0 rfl) ?_
                refine va_get (D := x_D G) (ci := 5) (v := .ref (x_ad G 3)) (C := "ContentLibraryModel") (T := x_TM) (N := 31) hx hb hts x_inM hown hK hP 0 (m_lk_M G _) rfl 6 (by decide) (hts _ t_678) (fun _ h9 => h9) rfl d_M_picture_102 ?_
                refine lv_iload_n hx hb d_M_picture_105 rfl (lv_at hl 3 rfl) ?_
                refine lv_iload_n hx hb d_M_picture_106 rfl (lv_at hl 1 rfl) ?_
                obtain ⟨hin29, hf⟩ := x_ck_some hf
                refine va_iast hx hb hK hP hD hS 3 0 (m_lk_A G _ (k := 3) (by decide)) rfl hin29 d_M_picture_107 (fun H locs hP hD hS => ?_)
                rw [m_st_A G _ (k := 3) (by decide)] at hP hD
                refine lv_aload_n hx hb d_M_picture_108 rfl (lv_at hl 0 rfl) ?_
                refine va_get (D := x_D G) (ci := 5) (v := .ref (x_ad G 4)) (C := "ContentLibraryModel") (T := x_TM) (N := 31) hx hb hts x_inM hown hK hP 0 (m_lk_M G _) rfl 7 (by decide) (hts _ t_679) (fun _ h9 => h9) rfl d_M_picture_109 ?_
                refine lv_iload_n hx hb d_M_picture_112 rfl (lv_at hl 3 rfl) ?_
                refine lv_iload_n hx hb d_M_picture_113 rfl (lv_at hl 2 rfl) ?_
                obtain ⟨hin30, hf⟩ := x_ck_some hf
                refine va_iast hx hb hK hP hD hS 4 0 (m_lk_A G _ (k := 4) (by decide)) rfl hin30 d_M_picture_114 (fun H locs hP hD hS => ?_)
                rw [m_st_A G _ (k := 4) (by decide)] at hP hD
                refine lv_aload_n hx hb d_M_picture_115 rfl (lv_at hl 0 rfl) ?_
                refine va_get (D := x_D G) (ci := 5) (v := .ref (x_ad G 5)) (C := "ContentLibraryModel") (T := x_TM) (N := 31) hx hb hts x_inM hown hK hP 0 (m_lk_M G _) rfl 8 (by decide) (hts _ t_680) (fun _ h9 => h9) rfl d_M_picture_116 ?_
                refine lv_iload_n hx hb d_M_picture_119 rfl (lv_at hl 3 rfl) ?_
                refine lv_iconst (v := (0 : Int32)) hx hb d_M_picture_120 (by decide) ?_
                obtain ⟨hin31, hf⟩ := x_ck_some hf
                refine va_iast hx hb hK hP hD hS 5 0 (m_lk_A G _ (k := 5) (by decide)) rfl hin31 d_M_picture_121 (fun H locs hP hD hS => ?_)
                rw [m_st_A G _ (k := 5) (by decide)] at hP hD
                refine lv_iload_n hx hb d_M_picture_122 rfl (lv_at hl 3 rfl) ?_
                obtain ⟨rfl, rfl⟩ := x_ret hf
                exact W.iret (v := a3) hx hb hr (fun t ht hW => ⟨⟨_, _, rfl, ⟨rfl, rfl⟩, m_pw hP hD hK hG hS hz ht hW⟩, hS.F ht⟩) hS.2.2 d_M_picture_123
              · have hf := x_br_f hf hc27
                refine lv_iconst (v := (0 : Int32)) hx hb d_M_picture_92 (by decide) ?_
                obtain ⟨rfl, rfl⟩ := x_ret hf
                exact W.iret (v := (0 : Int32)) hx hb hr (fun t ht hW => ⟨⟨_, _, rfl, ⟨rfl, rfl⟩, m_pw hP hD hK hG hS hz ht hW⟩, hS.F ht⟩) hS.2.2 d_M_picture_93
          · have hf := x_br_f hf hc20
            refine lv_iconst (v := (2 : Int32)) hx hb d_M_picture_68 (by decide) ?_
            refine lv_goto (tgt := 82) hx hb d_M_picture_69 (by decide) ?_
            refine va_put (D := x_D G) (ci := 5) (v := .int (2 : Int32)) (ty := .int) (C := "ContentLibraryModel") (T := x_TM) (N := 31) hx hb hts x_inM x_tyM x_tyM_ok x_nmM hown hK hP hD hS 0 (m_lk_M G _) rfl 0 (by decide) (hts _ t_672) (fun _ h9 => h9) rfl (by decide +kernel) rfl rfl (Nat.le_of_ble_eq_true rfl) d_M_picture_82 (fun H locs hP hD hS => ?_)
            rw [m_st_M0 G _] at hP hD
            refine lv_aload_n hx hb d_M_picture_85 rfl (lv_at hl 0 rfl) ?_
            refine va_get (D := x_D G) (ci := 5) (v := .int ((x_put z0 0 0 (2 : Int32)).1 0 0)) (C := "ContentLibraryModel") (T := x_TM) (N := 31) hx hb hts x_inM hown hK hP 0 (m_lk_M G _) rfl 0 (by decide) (hts _ t_672) (fun _ h9 => h9) rfl d_M_picture_86 ?_
            refine lv_if_le (tgt := 94) hx hb d_M_picture_89 (by decide) (fun hc32 => ?_) (fun hc32 => ?_)
            · have hf := x_br_t hf hc32
              refine lv_aload_n hx hb d_M_picture_94 rfl (lv_at hl 0 rfl) ?_
              refine va_get (D := x_D G) (ci := 5) (v := .ref (x_ad G 2)) (C := "ContentLibraryModel") (T := x_TM) (N := 31) hx hb hts x_inM hown hK hP 0 (m_lk_M G _) rfl 5 (by decide) (hts _ t_677) (fun _ h9 => h9) rfl d_M_picture_95 ?_
              refine lv_iload_n hx hb d_M_picture_98 rfl (lv_at hl 3 rfl) ?_
              refine lv_iconst (v := (1 : Int32)) hx hb d_M_picture_99 (by decide) ?_
              obtain ⟨hin33, hf⟩ := x_ck_some hf
              refine va_zast hx hb hK hP hD hS 2 1 (m_lk_Z G _ (k := 2) (by decide)) rfl hin33 d_M_picture_100 (fun H locs hP hD hS => ?_)
              rw [m_st_Z G _ (k := 2) (by decide)] at hP hD
              refine lv_aload_n hx hb d_M_picture_101 rfl (lv_at hl 0 rfl) ?_
              refine va_get (D := x_D G) (ci := 5) (v := .ref (x_ad G 3)) (C := "ContentLibraryModel") (T := x_TM) (N := 31) hx hb hts x_inM hown hK hP 0 (m_lk_M G _) rfl 6 (by decide) (hts _ t_678) (fun _ h9 => h9) rfl d_M_picture_102 ?_
              refine lv_iload_n hx hb d_M_picture_105 rfl (lv_at hl 3 rfl) ?_
              refine lv_iload_n hx hb d_M_picture_106 rfl (lv_at hl 1 rfl) ?_
              obtain ⟨hin34, hf⟩ := x_ck_some hf
              refine va_iast hx hb hK hP hD hS 3 0 (m_lk_A G _ (k := 3) (by decide)) rfl hin34 d_M_picture_107 (fun H locs hP hD hS => ?_)
              rw [m_st_A G _ (k := 3) (by decide)] at hP hD
              refine lv_aload_n hx hb d_M_picture_108 rfl (lv_at hl 0 rfl) ?_
              refine va_get (D := x_D G) (ci := 5) (v := .ref (x_ad G 4)) (C := "ContentLibraryModel") (T := x_TM) (N := 31) hx hb hts x_inM hown hK hP 0 (m_lk_M G _) rfl 7 (by decide) (hts _ t_679) (fun _ h9 => h9) rfl d_M_picture_109 ?_
              refine lv_iload_n hx hb d_M_picture_112 rfl (lv_at hl 3 rfl) ?_
              refine lv_iload_n hx hb d_M_picture_113 rfl (lv_at hl 2 rfl) ?_
              obtain ⟨hin35, hf⟩ := x_ck_some hf
              refine va_iast hx hb hK hP hD hS 4 0 (m_lk_A G _ (k := 4) (by decide)) rfl hin35 d_M_picture_114 (fun H locs hP hD hS => ?_)
              rw [m_st_A G _ (k := 4) (by decide)] at hP hD
              refine lv_aload_n hx hb d_M_picture_115 rfl (lv_at hl 0 rfl) ?_
              refine va_get (D := x_D G) (ci := 5) (v := .ref (x_ad G 5)) (C := "ContentLibraryModel") (T := x_TM) (N := 31) hx hb hts x_inM hown hK hP 0 (m_lk_M G _) rfl 8 (by decide) (hts _ t_680) (fun _ h9 => h9) rfl d_M_picture_116 ?_
              refine lv_iload_n hx hb d_M_picture_119 rfl (lv_at hl 3 rfl) ?_
              refine lv_iconst (v := (0 : Int32)) hx hb d_M_picture_120 (by decide) ?_
              obtain ⟨hin36, hf⟩ := x_ck_some hf
              refine va_iast hx hb hK hP hD hS 5 0 (m_lk_A G _ (k := 5) (by decide)) rfl hin36 d_M_picture_121 (fun H locs hP hD hS => ?_)
              rw [m_st_A G _ (k := 5) (by decide)] at hP hD
              refine lv_iload_n hx hb d_M_picture_122 rfl (lv_at hl 3 rfl) ?_
              obtain ⟨rfl, rfl⟩ := x_ret hf
              exact W.iret (v := a3) hx hb hr (fun t ht hW => ⟨⟨_, _, rfl, ⟨rfl, rfl⟩, m_pw hP hD hK hG hS hz ht hW⟩, hS.F ht⟩) hS.2.2 d_M_picture_123
            · have hf := x_br_f hf hc32
              refine lv_iconst (v := (0 : Int32)) hx hb d_M_picture_92 (by decide) ?_
              obtain ⟨rfl, rfl⟩ := x_ret hf
              exact W.iret (v := (0 : Int32)) hx hb hr (fun t ht hW => ⟨⟨_, _, rfl, ⟨rfl, rfl⟩, m_pw hP hD hK hG hS hz ht hW⟩, hS.F ht⟩) hS.2.2 d_M_picture_93
  · have hf := x_br_f hf hc1
    refine lv_iconst (v := (1 : Int32)) hx hb d_M_picture_42 (by decide) ?_
    refine lv_goto (tgt := 82) hx hb d_M_picture_43 (by decide) ?_
    refine va_put (D := x_D G) (ci := 5) (v := .int (1 : Int32)) (ty := .int) (C := "ContentLibraryModel") (T := x_TM) (N := 31) hx hb hts x_inM x_tyM x_tyM_ok x_nmM hown hK hP hD hS 0 (m_lk_M G _) rfl 0 (by decide) (hts _ t_672) (fun _ h9 => h9) rfl (by decide +kernel) rfl rfl (Nat.le_of_ble_eq_true rfl) d_M_picture_82 (fun H locs hP hD hS => ?_)
    rw [m_st_M0 G _] at hP hD
    refine lv_aload_n hx hb d_M_picture_85 rfl (lv_at hl 0 rfl) ?_
    refine va_get (D := x_D G) (ci := 5) (v := .int ((x_put z0 0 0 (1 : Int32)).1 0 0)) (C := "ContentLibraryModel") (T := x_TM) (N := 31) hx hb hts x_inM hown hK hP 0 (m_lk_M G _) rfl 0 (by decide) (hts _ t_672) (fun _ h9 => h9) rfl d_M_picture_86 ?_
    refine lv_if_le (tgt := 94) hx hb d_M_picture_89 (by decide) (fun hc37 => ?_) (fun hc37 => ?_)
    · have hf := x_br_t hf hc37
      refine lv_aload_n hx hb d_M_picture_94 rfl (lv_at hl 0 rfl) ?_
      refine va_get (D := x_D G) (ci := 5) (v := .ref (x_ad G 2)) (C := "ContentLibraryModel") (T := x_TM) (N := 31) hx hb hts x_inM hown hK hP 0 (m_lk_M G _) rfl 5 (by decide) (hts _ t_677) (fun _ h9 => h9) rfl d_M_picture_95 ?_
      refine lv_iload_n hx hb d_M_picture_98 rfl (lv_at hl 3 rfl) ?_
      refine lv_iconst (v := (1 : Int32)) hx hb d_M_picture_99 (by decide) ?_
      obtain ⟨hin38, hf⟩ := x_ck_some hf
      refine va_zast hx hb hK hP hD hS 2 1 (m_lk_Z G _ (k := 2) (by decide)) rfl hin38 d_M_picture_100 (fun H locs hP hD hS => ?_)
      rw [m_st_Z G _ (k := 2) (by decide)] at hP hD
      refine lv_aload_n hx hb d_M_picture_101 rfl (lv_at hl 0 rfl) ?_
      refine va_get (D := x_D G) (ci := 5) (v := .ref (x_ad G 3)) (C := "ContentLibraryModel") (T := x_TM) (N := 31) hx hb hts x_inM hown hK hP 0 (m_lk_M G _) rfl 6 (by decide) (hts _ t_678) (fun _ h9 => h9) rfl d_M_picture_102 ?_
      refine lv_iload_n hx hb d_M_picture_105 rfl (lv_at hl 3 rfl) ?_
      refine lv_iload_n hx hb d_M_picture_106 rfl (lv_at hl 1 rfl) ?_
      obtain ⟨hin39, hf⟩ := x_ck_some hf
      refine va_iast hx hb hK hP hD hS 3 0 (m_lk_A G _ (k := 3) (by decide)) rfl hin39 d_M_picture_107 (fun H locs hP hD hS => ?_)
      rw [m_st_A G _ (k := 3) (by decide)] at hP hD
      refine lv_aload_n hx hb d_M_picture_108 rfl (lv_at hl 0 rfl) ?_
      refine va_get (D := x_D G) (ci := 5) (v := .ref (x_ad G 4)) (C := "ContentLibraryModel") (T := x_TM) (N := 31) hx hb hts x_inM hown hK hP 0 (m_lk_M G _) rfl 7 (by decide) (hts _ t_679) (fun _ h9 => h9) rfl d_M_picture_109 ?_
      refine lv_iload_n hx hb d_M_picture_112 rfl (lv_at hl 3 rfl) ?_
      refine lv_iload_n hx hb d_M_picture_113 rfl (lv_at hl 2 rfl) ?_
      obtain ⟨hin40, hf⟩ := x_ck_some hf
      refine va_iast hx hb hK hP hD hS 4 0 (m_lk_A G _ (k := 4) (by decide)) rfl hin40 d_M_picture_114 (fun H locs hP hD hS => ?_)
      rw [m_st_A G _ (k := 4) (by decide)] at hP hD
      refine lv_aload_n hx hb d_M_picture_115 rfl (lv_at hl 0 rfl) ?_
      refine va_get (D := x_D G) (ci := 5) (v := .ref (x_ad G 5)) (C := "ContentLibraryModel") (T := x_TM) (N := 31) hx hb hts x_inM hown hK hP 0 (m_lk_M G _) rfl 8 (by decide) (hts _ t_680) (fun _ h9 => h9) rfl d_M_picture_116 ?_
      refine lv_iload_n hx hb d_M_picture_119 rfl (lv_at hl 3 rfl) ?_
      refine lv_iconst (v := (0 : Int32)) hx hb d_M_picture_120 (by decide) ?_
      obtain ⟨hin41, hf⟩ := x_ck_some hf
      refine va_iast hx hb hK hP hD hS 5 0 (m_lk_A G _ (k := 5) (by decide)) rfl hin41 d_M_picture_121 (fun H locs hP hD hS => ?_)
      rw [m_st_A G _ (k := 5) (by decide)] at hP hD
      refine lv_iload_n hx hb d_M_picture_122 rfl (lv_at hl 3 rfl) ?_
      obtain ⟨rfl, rfl⟩ := x_ret hf
      exact W.iret (v := a3) hx hb hr (fun t ht hW => ⟨⟨_, _, rfl, ⟨rfl, rfl⟩, m_pw hP hD hK hG hS hz ht hW⟩, hS.F ht⟩) hS.2.2 d_M_picture_123
    · have hf := x_br_f hf hc37
      refine lv_iconst (v := (0 : Int32)) hx hb d_M_picture_92 (by decide) ?_
      obtain ⟨rfl, rfl⟩ := x_ret hf
      exact W.iret (v := (0 : Int32)) hx hb hr (fun t ht hW => ⟨⟨_, _, rfl, ⟨rfl, rfl⟩, m_pw hP hD hK hG hS hz ht hW⟩, hS.F ht⟩) hS.2.2 d_M_picture_93
set_option maxHeartbeats 4000000 in
set_option maxRecDepth 100000 in
theorem w_M_picture_6 (l : Launch) (G : x_G) {p : Program} {e : Env} {s : State} {m : MethodId} {args : Array Value} {below : List Frame} {meth : Method} {c : Code} (C0 : m_Ctx G p s m args meth c prog_7_method_21_code "ContentLibraryModel" 5 (some .int)) (r : Int32) (zo : x_St) : ∀ (fu : Nat), ∀ (a1 : Int32) (a2 : Int32) (a3 : Int32) (a4 : Int32) (z0 : x_St), f_M_picture_6 (x_n G) fu a1 a2 a3 a4 z0 = some (r, zo) → ∀ (H : Heap) (locs : List Loc) (ls : Array Slot), va_P (x_D G) vwCl (m_Wd G z0) H → va_D (x_A G) (m_Wd G z0) → va_S (x_A G) s.heap H locs → lv_has ls 5 [(0, .ref (x_ad G 0)), (1, .int a1), (2, .int a2), (3, .int a3), (4, .int a4)] → W p l e rm_M_picture s m args below meth c H locs 0 0 (MQ below (va_Qi (fun a u => r = a ∧ zo = u) (m_PW G) (x_A G)) args s 0 0 (x_A G)) (F0 m 6 ls []) := by
  obtain ⟨hx, hb, hr, hml, hown, hts, hlocks, hz, hK, hG⟩ := id C0
  intro fu
  induction fu with
  | zero =>
    intro a1 a2 a3 a4 z0 hf
    rw [f_M_picture_6] at hf
    cases hf
  | succ fu ih =>
    intro a1 a2 a3 a4 z0 hf H locs ls hP hD hS hl
    rw [f_M_picture_6] at hf
    refine lv_iload hx hb d_M_picture_6 (lv_at hl 4 rfl) ?_
    refine lv_if_lt (tgt := 34) hx hb d_M_picture_8 (by decide) (fun hc42 => ?_) (fun hc42 => ?_)
    · have hf := x_br_t hf hc42
      exact w_M_picture_34 l G C0 r zo a1 a2 a3 z0 hf _ _ _ hP hD hS (lv_sub hl [0, 1, 2, 3] rfl)
    · have hf := x_br_f hf hc42
      refine lv_aload_n hx hb d_M_picture_11 rfl (lv_at hl 0 rfl) ?_
      refine va_get (D := x_D G) (ci := 5) (v := .ref (x_ad G 2)) (C := "ContentLibraryModel") (T := x_TM) (N := 31) hx hb hts x_inM hown hK hP 0 (m_lk_M G _) rfl 5 (by decide) (hts _ t_677) (fun _ h9 => h9) rfl d_M_picture_12 ?_
      refine lv_iload hx hb d_M_picture_15 (lv_at hl 4 rfl) ?_
      obtain ⟨hin43, hf⟩ := x_ck_some hf
      refine va_zald hx hb hK hP 2 1 (m_lk_Z G _ (k := 2) (by decide)) rfl hin43 d_M_picture_17 ?_
      refine lv_if_eq (tgt := 25) hx hb d_M_picture_18 (by decide) (fun hc44 => ?_) (fun hc44 => ?_)
      · have hf := x_br_t hf hc44
        refine lv_iload hx hb d_M_picture_25 (lv_at hl 4 rfl) ?_
        refine lv_istore_n (lv' := [(3, .int a4), (0, .ref (x_ad G 0)), (1, .int a1), (2, .int a2), (4, .int a4)]) hx hb d_M_picture_27 rfl hl (by decide) rfl (fun ls hl => ?_)
        refine lv_iinc (v := (a4 + (-1 : Int32))) (lv' := [(4, .int (a4 + (-1 : Int32))), (3, .int a4), (0, .ref (x_ad G 0)), (1, .int a1), (2, .int a2)]) hx hb d_M_picture_28 hl (k := 4) rfl rfl (by decide) rfl (fun ls hl => ?_)
        refine lv_goto (tgt := 6) hx hb d_M_picture_31 (by decide) ?_
        exact ih a1 a2 a4 (a4 + (-1 : Int32)) z0 hf _ _ _ hP hD hS (lv_sub hl [2, 3, 4, 1, 0] rfl)
      · have hf := x_br_f hf hc44
        refine lv_iload_n hx hb d_M_picture_21 rfl (lv_at hl 3 rfl) ?_
        refine lv_goto (tgt := 27) hx hb d_M_picture_22 (by decide) ?_
        refine lv_istore_n (lv' := [(3, .int a3), (0, .ref (x_ad G 0)), (1, .int a1), (2, .int a2), (4, .int a4)]) hx hb d_M_picture_27 rfl hl (by decide) rfl (fun ls hl => ?_)
        refine lv_iinc (v := (a4 + (-1 : Int32))) (lv' := [(4, .int (a4 + (-1 : Int32))), (3, .int a3), (0, .ref (x_ad G 0)), (1, .int a1), (2, .int a2)]) hx hb d_M_picture_28 hl (k := 4) rfl rfl (by decide) rfl (fun ls hl => ?_)
        refine lv_goto (tgt := 6) hx hb d_M_picture_31 (by decide) ?_
        exact ih a1 a2 a3 (a4 + (-1 : Int32)) z0 hf _ _ _ hP hD hS (lv_sub hl [2, 3, 4, 1, 0] rfl)
set_option maxHeartbeats 4000000 in
set_option maxRecDepth 100000 in
theorem c_M_picture (l : Launch) (G : x_G) (p1 : Int32) (p2 : Int32) (z0 : x_St) (r : Int32) (zo : x_St) (hf : f_M_picture (x_n G) p1 p2 z0 = some (r, zo)) : Met l (⟨"ContentLibraryModel", "picture", "(II)I"⟩ : MethodName) (x_ws (⟨"ContentLibraryModel", "picture", "(II)I"⟩ : MethodName) prog_7_method_21_code 5 (some .int)) rm_M_picture (va_Pc [.ref (x_ad G 0), .int p1, .int p2] (m_PW G z0)) (va_Qi (fun a u => r = a ∧ zo = u) (m_PW G) (x_A G)) 0 0 (x_A G) := by
  refine Met.ofW (cc := prog_7_method_21_code) (maxL := 5) (ret := (some .int)) (by decide) rfl ?_
  intro p e s m args below meth c s₁ B hml hv
  obtain ⟨rfl, hz, hP, hD, hK, hG⟩ := hv
  have C0 : m_Ctx G p s m _ meth c prog_7_method_21_code "ContentLibraryModel" 5 (some .int) := ⟨B.exec, B.bytes, B.returns, hml, findClass_of_methodNamed B.named, fun w h => atoms_spec (ws := (x_ws (⟨"ContentLibraryModel", "picture", "(II)I"⟩ : MethodName) prog_7_method_21_code 5 (some .int))) B.pre w (List.mem_cons_of_mem _ h), B.notSynchronized, hz, hK, hG⟩
  obtain ⟨hx, hb, hr, hml, hown, hts, hlocks, hz, hK, hG⟩ := id C0
  have hS : va_S (x_A G) s.heap s.heap [] := va_S.rf
  have hl := lv_entry ([.ref (x_ad G 0), .int p1, .int p2]) (n := 5) (Nat.le_of_ble_eq_true rfl)
  rw [lg_entry_eq]
  generalize (lg_sl ([.ref (x_ad G 0), .int p1, .int p2]) ++ List.replicate (5 - (lg_sl ([.ref (x_ad G 0), .int p1, .int p2])).length) Slot.unset).toArray = ls at hl ⊢
  have hl : lv_has ls 5 [(0, .ref (x_ad G 0)), (1, .int p1), (2, .int p2)] := hl
  rw [f_M_picture] at hf
  refine lv_iconst (v := (-1 : Int32)) hx hb d_M_picture_0 (by decide) ?_
  refine lv_istore_n (lv' := [(3, .int (-1 : Int32)), (0, .ref (x_ad G 0)), (1, .int p1), (2, .int p2)]) hx hb d_M_picture_1 rfl hl (by decide) rfl (fun ls hl => ?_)
  refine lv_bipush (v := (7 : Int32)) hx hb d_M_picture_2 (by decide) ?_
  refine lv_istore (lv' := [(4, .int (7 : Int32)), (3, .int (-1 : Int32)), (0, .ref (x_ad G 0)), (1, .int p1), (2, .int p2)]) hx hb d_M_picture_4 hl (by decide) rfl (fun ls hl => ?_)
  exact w_M_picture_6 l G C0 r zo x_FU p1 p2 (-1 : Int32) (7 : Int32) z0 hf _ _ _ hP hD hS (lv_sub hl [2, 3, 4, 1, 0] rfl)
abbrev rm_M_isMade : Room := { frames := 0, cells := 0, slots := 0, locals := 0 }
set_option maxHeartbeats 4000000 in
set_option maxRecDepth 100000 in
theorem c_M_isMade (l : Launch) (G : x_G) (p1 : Int32) (z0 : x_St) (r : Int32) (zo : x_St) (hf : f_M_isMade (x_n G) p1 z0 = some (r, zo)) : Met l (⟨"ContentLibraryModel", "isMade", "(I)Z"⟩ : MethodName) (x_ws (⟨"ContentLibraryModel", "isMade", "(I)Z"⟩ : MethodName) prog_7_method_22_code 2 (some .boolean)) rm_M_isMade (va_Pc [.ref (x_ad G 0), .int p1] (m_PW G z0)) (va_Qi (fun a u => r = a ∧ zo = u) (m_PW G) (x_A G)) 0 0 (x_A G) := by
  refine Met.ofW (cc := prog_7_method_22_code) (maxL := 2) (ret := (some .boolean)) (by decide) rfl ?_
  intro p e s m args below meth c s₁ B hml hv
  obtain ⟨rfl, hz, hP, hD, hK, hG⟩ := hv
  have C0 : m_Ctx G p s m _ meth c prog_7_method_22_code "ContentLibraryModel" 2 (some .boolean) := ⟨B.exec, B.bytes, B.returns, hml, findClass_of_methodNamed B.named, fun w h => atoms_spec (ws := (x_ws (⟨"ContentLibraryModel", "isMade", "(I)Z"⟩ : MethodName) prog_7_method_22_code 2 (some .boolean))) B.pre w (List.mem_cons_of_mem _ h), B.notSynchronized, hz, hK, hG⟩
  obtain ⟨hx, hb, hr, hml, hown, hts, hlocks, hz, hK, hG⟩ := id C0
  have hS : va_S (x_A G) s.heap s.heap [] := va_S.rf
  have hl := lv_entry ([.ref (x_ad G 0), .int p1]) (n := 2) (Nat.le_of_ble_eq_true rfl)
  rw [lg_entry_eq]
  generalize (lg_sl ([.ref (x_ad G 0), .int p1]) ++ List.replicate (2 - (lg_sl ([.ref (x_ad G 0), .int p1])).length) Slot.unset).toArray = ls at hl ⊢
  have hl : lv_has ls 2 [(0, .ref (x_ad G 0)), (1, .int p1)] := hl
  rw [f_M_isMade] at hf
  refine lv_iload_n hx hb d_M_isMade_0 rfl (lv_at hl 1 rfl) ?_
  refine lv_if_lt (tgt := 23) hx hb d_M_isMade_1 (by decide) (fun hc1 => ?_) (fun hc1 => ?_)
  · have hf := x_br_t hf hc1
    refine lv_iconst (v := (0 : Int32)) hx hb d_M_isMade_23 (by decide) ?_
    obtain ⟨rfl, rfl⟩ := x_ret hf
    exact W.zret (v := (0 : Int32)) hx hb hr rfl (fun t ht hW => ⟨⟨_, _, rfl, ⟨rfl, rfl⟩, m_pw hP hD hK hG hS hz ht hW⟩, hS.F ht⟩) hS.2.2 d_M_isMade_24
  · have hf := x_br_f hf hc1
    refine lv_iload_n hx hb d_M_isMade_4 rfl (lv_at hl 1 rfl) ?_
    refine lv_bipush (v := (8 : Int32)) hx hb d_M_isMade_5 (by decide) ?_
    refine lv_icmp_ge (tgt := 23) hx hb d_M_isMade_7 (by decide) (fun hc2 => ?_) (fun hc2 => ?_)
    · have hf := x_br_t hf hc2
      refine lv_iconst (v := (0 : Int32)) hx hb d_M_isMade_23 (by decide) ?_
      obtain ⟨rfl, rfl⟩ := x_ret hf
      exact W.zret (v := (0 : Int32)) hx hb hr rfl (fun t ht hW => ⟨⟨_, _, rfl, ⟨rfl, rfl⟩, m_pw hP hD hK hG hS hz ht hW⟩, hS.F ht⟩) hS.2.2 d_M_isMade_24
    · have hf := x_br_f hf hc2
      refine lv_aload_n hx hb d_M_isMade_10 rfl (lv_at hl 0 rfl) ?_
      refine va_get (D := x_D G) (ci := 5) (v := .ref (x_ad G 2)) (C := "ContentLibraryModel") (T := x_TM) (N := 31) hx hb hts x_inM hown hK hP 0 (m_lk_M G _) rfl 5 (by decide) (hts _ t_677) (fun _ h9 => h9) rfl d_M_isMade_11 ?_
      refine lv_iload_n hx hb d_M_isMade_14 rfl (lv_at hl 1 rfl) ?_
      obtain ⟨hin3, hf⟩ := x_ck_some hf
      refine va_zald hx hb hK hP 2 1 (m_lk_Z G _ (k := 2) (by decide)) rfl hin3 d_M_isMade_15 ?_
      refine lv_if_eq (tgt := 23) hx hb d_M_isMade_16 (by decide) (fun hc4 => ?_) (fun hc4 => ?_)
      · have hf := x_br_t hf hc4
        refine lv_iconst (v := (0 : Int32)) hx hb d_M_isMade_23 (by decide) ?_
        obtain ⟨rfl, rfl⟩ := x_ret hf
        exact W.zret (v := (0 : Int32)) hx hb hr rfl (fun t ht hW => ⟨⟨_, _, rfl, ⟨rfl, rfl⟩, m_pw hP hD hK hG hS hz ht hW⟩, hS.F ht⟩) hS.2.2 d_M_isMade_24
      · have hf := x_br_f hf hc4
        refine lv_iconst (v := (1 : Int32)) hx hb d_M_isMade_19 (by decide) ?_
        refine lv_goto (tgt := 24) hx hb d_M_isMade_20 (by decide) ?_
        obtain ⟨rfl, rfl⟩ := x_ret hf
        exact W.zret (v := (1 : Int32)) hx hb hr rfl (fun t ht hW => ⟨⟨_, _, rfl, ⟨rfl, rfl⟩, m_pw hP hD hK hG hS hz ht hW⟩, hS.F ht⟩) hS.2.2 d_M_isMade_24
abbrev rm_M_isWhole : Room := { frames := 0, cells := 0, slots := 0, locals := 0 }
set_option maxHeartbeats 4000000 in
set_option maxRecDepth 100000 in
theorem c_M_isWhole (l : Launch) (G : x_G) (p1 : Int32) (z0 : x_St) (r : Int32) (zo : x_St) (hf : f_M_isWhole (x_n G) p1 z0 = some (r, zo)) : Met l (⟨"ContentLibraryModel", "isWhole", "(I)Z"⟩ : MethodName) (x_ws (⟨"ContentLibraryModel", "isWhole", "(I)Z"⟩ : MethodName) prog_7_method_23_code 2 (some .boolean)) rm_M_isWhole (va_Pc [.ref (x_ad G 0), .int p1] (m_PW G z0)) (va_Qi (fun a u => r = a ∧ zo = u) (m_PW G) (x_A G)) 0 0 (x_A G) := by
  refine Met.ofW (cc := prog_7_method_23_code) (maxL := 2) (ret := (some .boolean)) (by decide) rfl ?_
  intro p e s m args below meth c s₁ B hml hv
  obtain ⟨rfl, hz, hP, hD, hK, hG⟩ := hv
  have C0 : m_Ctx G p s m _ meth c prog_7_method_23_code "ContentLibraryModel" 2 (some .boolean) := ⟨B.exec, B.bytes, B.returns, hml, findClass_of_methodNamed B.named, fun w h => atoms_spec (ws := (x_ws (⟨"ContentLibraryModel", "isWhole", "(I)Z"⟩ : MethodName) prog_7_method_23_code 2 (some .boolean))) B.pre w (List.mem_cons_of_mem _ h), B.notSynchronized, hz, hK, hG⟩
  obtain ⟨hx, hb, hr, hml, hown, hts, hlocks, hz, hK, hG⟩ := id C0
  have hS : va_S (x_A G) s.heap s.heap [] := va_S.rf
  have hl := lv_entry ([.ref (x_ad G 0), .int p1]) (n := 2) (Nat.le_of_ble_eq_true rfl)
  rw [lg_entry_eq]
  generalize (lg_sl ([.ref (x_ad G 0), .int p1]) ++ List.replicate (2 - (lg_sl ([.ref (x_ad G 0), .int p1])).length) Slot.unset).toArray = ls at hl ⊢
  have hl : lv_has ls 2 [(0, .ref (x_ad G 0)), (1, .int p1)] := hl
  rw [f_M_isWhole] at hf
  refine lv_aload_n hx hb d_M_isWhole_0 rfl (lv_at hl 0 rfl) ?_
  refine va_get (D := x_D G) (ci := 5) (v := .ref (x_ad G 5)) (C := "ContentLibraryModel") (T := x_TM) (N := 31) hx hb hts x_inM hown hK hP 0 (m_lk_M G _) rfl 8 (by decide) (hts _ t_680) (fun _ h9 => h9) rfl d_M_isWhole_1 ?_
  refine lv_iload_n hx hb d_M_isWhole_4 rfl (lv_at hl 1 rfl) ?_
  obtain ⟨hin1, hf⟩ := x_ck_some hf
  refine va_iald hx hb hK hP 5 0 (m_lk_A G _ (k := 5) (by decide)) rfl hin1 d_M_isWhole_5 ?_
  refine lv_aload_n hx hb d_M_isWhole_6 rfl (lv_at hl 0 rfl) ?_
  refine va_get (D := x_D G) (ci := 5) (v := .ref (x_ad G 3)) (C := "ContentLibraryModel") (T := x_TM) (N := 31) hx hb hts x_inM hown hK hP 0 (m_lk_M G _) rfl 6 (by decide) (hts _ t_678) (fun _ h9 => h9) rfl d_M_isWhole_7 ?_
  refine lv_iload_n hx hb d_M_isWhole_10 rfl (lv_at hl 1 rfl) ?_
  obtain ⟨hin2, hf⟩ := x_ck_some hf
  refine va_iald hx hb hK hP 3 0 (m_lk_A G _ (k := 3) (by decide)) rfl hin2 d_M_isWhole_11 ?_
  refine lv_aload_n hx hb d_M_isWhole_12 rfl (lv_at hl 0 rfl) ?_
  refine va_get (D := x_D G) (ci := 5) (v := .ref (x_ad G 4)) (C := "ContentLibraryModel") (T := x_TM) (N := 31) hx hb hts x_inM hown hK hP 0 (m_lk_M G _) rfl 7 (by decide) (hts _ t_679) (fun _ h9 => h9) rfl d_M_isWhole_13 ?_
  refine lv_iload_n hx hb d_M_isWhole_16 rfl (lv_at hl 1 rfl) ?_
  obtain ⟨hin3, hf⟩ := x_ck_some hf
  refine va_iald hx hb hK hP 4 0 (m_lk_A G _ (k := 4) (by decide)) rfl hin3 d_M_isWhole_17 ?_
  refine lv_imul hx hb d_M_isWhole_18 ?_
  refine lv_icmp_ne (tgt := 26) hx hb d_M_isWhole_19 (by decide) (fun hc4 => ?_) (fun hc4 => ?_)
  · have hf := x_br_f hf hc4
    refine lv_iconst (v := (0 : Int32)) hx hb d_M_isWhole_26 (by decide) ?_
    obtain ⟨rfl, rfl⟩ := x_ret hf
    exact W.zret (v := (0 : Int32)) hx hb hr rfl (fun t ht hW => ⟨⟨_, _, rfl, ⟨rfl, rfl⟩, m_pw hP hD hK hG hS hz ht hW⟩, hS.F ht⟩) hS.2.2 d_M_isWhole_27
  · have hf := x_br_t hf hc4
    refine lv_iconst (v := (1 : Int32)) hx hb d_M_isWhole_22 (by decide) ?_
    refine lv_goto (tgt := 27) hx hb d_M_isWhole_23 (by decide) ?_
    obtain ⟨rfl, rfl⟩ := x_ret hf
    exact W.zret (v := (1 : Int32)) hx hb hr rfl (fun t ht hW => ⟨⟨_, _, rfl, ⟨rfl, rfl⟩, m_pw hP hD hK hG hS hz ht hW⟩, hS.F ht⟩) hS.2.2 d_M_isWhole_27
abbrev rm_M_samples : Room := { frames := 1, cells := 0, slots := 0, locals := 21 }
set_option maxHeartbeats 4000000 in
set_option maxRecDepth 100000 in
theorem c_M_samples (l : Launch) (G : x_G) (p1 : Int32) (p2 : Int32) (p3 : Int32) (p4 : Int32) (z0 : x_St) (r : Int32) (zo : x_St) (hf : f_M_samples (x_n G) p1 p2 p3 p4 z0 = some (r, zo)) : Met l (⟨"ContentLibraryModel", "samples", "(IIII)I"⟩ : MethodName) (x_ws (⟨"ContentLibraryModel", "samples", "(IIII)I"⟩ : MethodName) prog_7_method_24_code 7 (some .int)) rm_M_samples (va_Pc [.ref (x_ad G 0), .int p1, .int p2, .int p3, .int p4] (m_PW G z0)) (va_Qi (fun a u => r = a ∧ zo = u) (m_PW G) (x_A G)) 0 0 (x_A G) := by
  refine Met.ofW (cc := prog_7_method_24_code) (maxL := 7) (ret := (some .int)) (by decide) rfl ?_
  intro p e s m args below meth c s₁ B hml hv
  obtain ⟨rfl, hz, hP, hD, hK, hG⟩ := hv
  have C0 : m_Ctx G p s m _ meth c prog_7_method_24_code "ContentLibraryModel" 7 (some .int) := ⟨B.exec, B.bytes, B.returns, hml, findClass_of_methodNamed B.named, fun w h => atoms_spec (ws := (x_ws (⟨"ContentLibraryModel", "samples", "(IIII)I"⟩ : MethodName) prog_7_method_24_code 7 (some .int))) B.pre w (List.mem_cons_of_mem _ h), B.notSynchronized, hz, hK, hG⟩
  obtain ⟨hx, hb, hr, hml, hown, hts, hlocks, hz, hK, hG⟩ := id C0
  have hS : va_S (x_A G) s.heap s.heap [] := va_S.rf
  have hl := lv_entry ([.ref (x_ad G 0), .int p1, .int p2, .int p3, .int p4]) (n := 7) (Nat.le_of_ble_eq_true rfl)
  rw [lg_entry_eq]
  generalize (lg_sl ([.ref (x_ad G 0), .int p1, .int p2, .int p3, .int p4]) ++ List.replicate (7 - (lg_sl ([.ref (x_ad G 0), .int p1, .int p2, .int p3, .int p4])).length) Slot.unset).toArray = ls at hl ⊢
  have hl : lv_has ls 7 [(0, .ref (x_ad G 0)), (1, .int p1), (2, .int p2), (3, .int p3), (4, .int p4)] := hl
  rw [f_M_samples] at hf
  refine lv_aload_n hx hb d_M_samples_0 rfl (lv_at hl 0 rfl) ?_
  refine lv_aload_n hx hb d_M_samples_1 rfl (lv_at hl 0 rfl) ?_
  refine va_get (D := x_D G) (ci := 5) (v := .int (z0.1 0 3)) (C := "ContentLibraryModel") (T := x_TM) (N := 31) hx hb hts x_inM hown hK hP 0 (m_lk_M G _) rfl 3 (by decide) (hts _ t_675) (fun _ h9 => h9) rfl d_M_samples_2 ?_
  refine lv_if_eq (tgt := 12) hx hb d_M_samples_5 (by decide) (fun hc1 => ?_) (fun hc1 => ?_)
  · have hf := x_br_t hf hc1
    refine lv_aload_n hx hb d_M_samples_12 rfl (lv_at hl 0 rfl) ?_
    refine lv_iload_n hx hb d_M_samples_13 rfl (lv_at hl 1 rfl) ?_
    obtain ⟨r2, z2, hq3, hf⟩ := x_cl_some hf
    refine va_calli (va_runV (As := [.int p1]) (rest := [.ref (x_ad G 0)]) ⟨hx, hb, hml, hown, hts⟩ (c_M_isMade l G p1 z0 r2 z2 hq3) (cwV 1 hts (x_gV t_779 t_781 sel_ContentLibraryModel_isMade t_7 t_782) rfl rfl rfl (by decide +kernel) ⟨Nat.le_of_ble_eq_true rfl, Nat.le_of_ble_eq_true rfl⟩) ⟨m_blind _ _ _, va_recv hK hP (ci := 5) (q0 := 0) rfl (m_lk_M G _), fun U hU hW => ⟨rfl, m_pw hP hD hK hG hS hz hU hW⟩⟩ rfl rfl hl.1 rfl (lv_room (Nat.le_of_ble_eq_true rfl)) d_M_samples_14 ⟨Nat.le_of_ble_eq_true rfl, Nat.le_of_ble_eq_true rfl⟩) hS (fun q _ h => h) (fun q h => h) (fun ra u t H locs ht hvm hw hB _ _ hS => ?_)
    obtain ⟨rfl, rfl⟩ := hw
    obtain ⟨hP, hD⟩ := m_back hB ht
    refine lv_if_ne (tgt := 24) hx hb d_M_samples_17 (by decide) (fun hc4 => ?_) (fun hc4 => ?_)
    · have hf := x_br_f hf hc4
      refine lv_iload_n hx hb d_M_samples_24 rfl (lv_at hl 2 rfl) ?_
      refine lv_iconst (v := (1 : Int32)) hx hb d_M_samples_25 (by decide) ?_
      refine lv_icmp_ge (tgt := 33) hx hb d_M_samples_26 (by decide) (fun hc5 => ?_) (fun hc5 => ?_)
      · have hf := x_br_t hf hc5
        refine lv_iconst (v := (0 : Int32)) hx hb d_M_samples_33 (by decide) ?_
        refine va_put (D := x_D G) (ci := 5) (v := .int (0 : Int32)) (ty := .int) (C := "ContentLibraryModel") (T := x_TM) (N := 31) hx hb hts x_inM x_tyM x_tyM_ok x_nmM hown hK hP hD hS 0 (m_lk_M G _) rfl 0 (by decide) (hts _ t_672) (fun _ h9 => h9) rfl (by decide +kernel) rfl rfl (Nat.le_of_ble_eq_true rfl) d_M_samples_34 (fun H locs hP hD hS => ?_)
        rw [m_st_M0 G _] at hP hD
        refine lv_aload_n hx hb d_M_samples_37 rfl (lv_at hl 0 rfl) ?_
        refine va_get (D := x_D G) (ci := 5) (v := .int ((x_put z2 0 0 (0 : Int32)).1 0 0)) (C := "ContentLibraryModel") (T := x_TM) (N := 31) hx hb hts x_inM hown hK hP 0 (m_lk_M G _) rfl 0 (by decide) (hts _ t_672) (fun _ h9 => h9) rfl d_M_samples_38 ?_
        refine lv_if_le (tgt := 46) hx hb d_M_samples_41 (by decide) (fun hc6 => ?_) (fun hc6 => ?_)
        · have hf := x_br_t hf hc6
          cases hf
        · have hf := x_br_f hf hc6
          refine lv_iconst (v := (0 : Int32)) hx hb d_M_samples_44 (by decide) ?_
          obtain ⟨rfl, rfl⟩ := x_ret hf
          exact W.iret (v := (0 : Int32)) hx hb hr (fun t ht hW => ⟨⟨_, _, rfl, ⟨rfl, rfl⟩, m_pw hP hD hK hG hS hz ht hW⟩, hS.F ht⟩) hS.2.2 d_M_samples_45
      · have hf := x_br_f hf hc5
        refine lv_iconst (v := (3 : Int32)) hx hb d_M_samples_29 (by decide) ?_
        refine lv_goto (tgt := 34) hx hb d_M_samples_30 (by decide) ?_
        refine va_put (D := x_D G) (ci := 5) (v := .int (3 : Int32)) (ty := .int) (C := "ContentLibraryModel") (T := x_TM) (N := 31) hx hb hts x_inM x_tyM x_tyM_ok x_nmM hown hK hP hD hS 0 (m_lk_M G _) rfl 0 (by decide) (hts _ t_672) (fun _ h9 => h9) rfl (by decide +kernel) rfl rfl (Nat.le_of_ble_eq_true rfl) d_M_samples_34 (fun H locs hP hD hS => ?_)
        rw [m_st_M0 G _] at hP hD
        refine lv_aload_n hx hb d_M_samples_37 rfl (lv_at hl 0 rfl) ?_
        refine va_get (D := x_D G) (ci := 5) (v := .int ((x_put z2 0 0 (3 : Int32)).1 0 0)) (C := "ContentLibraryModel") (T := x_TM) (N := 31) hx hb hts x_inM hown hK hP 0 (m_lk_M G _) rfl 0 (by decide) (hts _ t_672) (fun _ h9 => h9) rfl d_M_samples_38 ?_
        refine lv_if_le (tgt := 46) hx hb d_M_samples_41 (by decide) (fun hc7 => ?_) (fun hc7 => ?_)
        · have hf := x_br_t hf hc7
          cases hf
        · have hf := x_br_f hf hc7
          refine lv_iconst (v := (0 : Int32)) hx hb d_M_samples_44 (by decide) ?_
          obtain ⟨rfl, rfl⟩ := x_ret hf
          exact W.iret (v := (0 : Int32)) hx hb hr (fun t ht hW => ⟨⟨_, _, rfl, ⟨rfl, rfl⟩, m_pw hP hD hK hG hS hz ht hW⟩, hS.F ht⟩) hS.2.2 d_M_samples_45
    · have hf := x_br_t hf hc4
      refine lv_iconst (v := (2 : Int32)) hx hb d_M_samples_20 (by decide) ?_
      refine lv_goto (tgt := 34) hx hb d_M_samples_21 (by decide) ?_
      refine va_put (D := x_D G) (ci := 5) (v := .int (2 : Int32)) (ty := .int) (C := "ContentLibraryModel") (T := x_TM) (N := 31) hx hb hts x_inM x_tyM x_tyM_ok x_nmM hown hK hP hD hS 0 (m_lk_M G _) rfl 0 (by decide) (hts _ t_672) (fun _ h9 => h9) rfl (by decide +kernel) rfl rfl (Nat.le_of_ble_eq_true rfl) d_M_samples_34 (fun H locs hP hD hS => ?_)
      rw [m_st_M0 G _] at hP hD
      refine lv_aload_n hx hb d_M_samples_37 rfl (lv_at hl 0 rfl) ?_
      refine va_get (D := x_D G) (ci := 5) (v := .int ((x_put z2 0 0 (2 : Int32)).1 0 0)) (C := "ContentLibraryModel") (T := x_TM) (N := 31) hx hb hts x_inM hown hK hP 0 (m_lk_M G _) rfl 0 (by decide) (hts _ t_672) (fun _ h9 => h9) rfl d_M_samples_38 ?_
      refine lv_if_le (tgt := 46) hx hb d_M_samples_41 (by decide) (fun hc8 => ?_) (fun hc8 => ?_)
      · have hf := x_br_t hf hc8
        cases hf
      · have hf := x_br_f hf hc8
        refine lv_iconst (v := (0 : Int32)) hx hb d_M_samples_44 (by decide) ?_
        obtain ⟨rfl, rfl⟩ := x_ret hf
        exact W.iret (v := (0 : Int32)) hx hb hr (fun t ht hW => ⟨⟨_, _, rfl, ⟨rfl, rfl⟩, m_pw hP hD hK hG hS hz ht hW⟩, hS.F ht⟩) hS.2.2 d_M_samples_45
  · have hf := x_br_f hf hc1
    refine lv_iconst (v := (1 : Int32)) hx hb d_M_samples_8 (by decide) ?_
    refine lv_goto (tgt := 34) hx hb d_M_samples_9 (by decide) ?_
    refine va_put (D := x_D G) (ci := 5) (v := .int (1 : Int32)) (ty := .int) (C := "ContentLibraryModel") (T := x_TM) (N := 31) hx hb hts x_inM x_tyM x_tyM_ok x_nmM hown hK hP hD hS 0 (m_lk_M G _) rfl 0 (by decide) (hts _ t_672) (fun _ h9 => h9) rfl (by decide +kernel) rfl rfl (Nat.le_of_ble_eq_true rfl) d_M_samples_34 (fun H locs hP hD hS => ?_)
    rw [m_st_M0 G _] at hP hD
    refine lv_aload_n hx hb d_M_samples_37 rfl (lv_at hl 0 rfl) ?_
    refine va_get (D := x_D G) (ci := 5) (v := .int ((x_put z0 0 0 (1 : Int32)).1 0 0)) (C := "ContentLibraryModel") (T := x_TM) (N := 31) hx hb hts x_inM hown hK hP 0 (m_lk_M G _) rfl 0 (by decide) (hts _ t_672) (fun _ h9 => h9) rfl d_M_samples_38 ?_
    refine lv_if_le (tgt := 46) hx hb d_M_samples_41 (by decide) (fun hc9 => ?_) (fun hc9 => ?_)
    · have hf := x_br_t hf hc9
      cases hf
    · have hf := x_br_f hf hc9
      refine lv_iconst (v := (0 : Int32)) hx hb d_M_samples_44 (by decide) ?_
      obtain ⟨rfl, rfl⟩ := x_ret hf
      exact W.iret (v := (0 : Int32)) hx hb hr (fun t ht hW => ⟨⟨_, _, rfl, ⟨rfl, rfl⟩, m_pw hP hD hK hG hS hz ht hW⟩, hS.F ht⟩) hS.2.2 d_M_samples_45
abbrev rm_M_keep : Room := { frames := 1, cells := 0, slots := 0, locals := 21 }
set_option maxHeartbeats 4000000 in
set_option maxRecDepth 100000 in
theorem c_M_keep (l : Launch) (G : x_G) (p1 : Int32) (z0 : x_St) (r : Int32) (zo : x_St) (hf : f_M_keep (x_n G) p1 z0 = some (r, zo)) : Met l (⟨"ContentLibraryModel", "keep", "(I)I"⟩ : MethodName) (x_ws (⟨"ContentLibraryModel", "keep", "(I)I"⟩ : MethodName) prog_7_method_25_code 8 (some .int)) rm_M_keep (va_Pc [.ref (x_ad G 0), .int p1] (m_PW G z0)) (va_Qi (fun a u => r = a ∧ zo = u) (m_PW G) (x_A G)) 0 0 (x_A G) := by
  refine Met.ofW (cc := prog_7_method_25_code) (maxL := 8) (ret := (some .int)) (by decide) rfl ?_
  intro p e s m args below meth c s₁ B hml hv
  obtain ⟨rfl, hz, hP, hD, hK, hG⟩ := hv
  have C0 : m_Ctx G p s m _ meth c prog_7_method_25_code "ContentLibraryModel" 8 (some .int) := ⟨B.exec, B.bytes, B.returns, hml, findClass_of_methodNamed B.named, fun w h => atoms_spec (ws := (x_ws (⟨"ContentLibraryModel", "keep", "(I)I"⟩ : MethodName) prog_7_method_25_code 8 (some .int))) B.pre w (List.mem_cons_of_mem _ h), B.notSynchronized, hz, hK, hG⟩
  obtain ⟨hx, hb, hr, hml, hown, hts, hlocks, hz, hK, hG⟩ := id C0
  have hS : va_S (x_A G) s.heap s.heap [] := va_S.rf
  have hl := lv_entry ([.ref (x_ad G 0), .int p1]) (n := 8) (Nat.le_of_ble_eq_true rfl)
  rw [lg_entry_eq]
  generalize (lg_sl ([.ref (x_ad G 0), .int p1]) ++ List.replicate (8 - (lg_sl ([.ref (x_ad G 0), .int p1])).length) Slot.unset).toArray = ls at hl ⊢
  have hl : lv_has ls 8 [(0, .ref (x_ad G 0)), (1, .int p1)] := hl
  rw [f_M_keep] at hf
  refine lv_aload_n hx hb d_M_keep_0 rfl (lv_at hl 0 rfl) ?_
  refine lv_aload_n hx hb d_M_keep_1 rfl (lv_at hl 0 rfl) ?_
  refine va_get (D := x_D G) (ci := 5) (v := .int (z0.1 0 3)) (C := "ContentLibraryModel") (T := x_TM) (N := 31) hx hb hts x_inM hown hK hP 0 (m_lk_M G _) rfl 3 (by decide) (hts _ t_675) (fun _ h9 => h9) rfl d_M_keep_2 ?_
  refine lv_if_eq (tgt := 12) hx hb d_M_keep_5 (by decide) (fun hc1 => ?_) (fun hc1 => ?_)
  · have hf := x_br_t hf hc1
    refine lv_aload_n hx hb d_M_keep_12 rfl (lv_at hl 0 rfl) ?_
    refine lv_iload_n hx hb d_M_keep_13 rfl (lv_at hl 1 rfl) ?_
    obtain ⟨r2, z2, hq3, hf⟩ := x_cl_some hf
    refine va_calli (va_runV (As := [.int p1]) (rest := [.ref (x_ad G 0)]) ⟨hx, hb, hml, hown, hts⟩ (c_M_isMade l G p1 z0 r2 z2 hq3) (cwV 1 hts (x_gV t_779 t_781 sel_ContentLibraryModel_isMade t_7 t_782) rfl rfl rfl (by decide +kernel) ⟨Nat.le_of_ble_eq_true rfl, Nat.le_of_ble_eq_true rfl⟩) ⟨m_blind _ _ _, va_recv hK hP (ci := 5) (q0 := 0) rfl (m_lk_M G _), fun U hU hW => ⟨rfl, m_pw hP hD hK hG hS hz hU hW⟩⟩ rfl rfl hl.1 rfl (lv_room (Nat.le_of_ble_eq_true rfl)) d_M_keep_14 ⟨Nat.le_of_ble_eq_true rfl, Nat.le_of_ble_eq_true rfl⟩) hS (fun q _ h => h) (fun q h => h) (fun ra u t H locs ht hvm hw hB _ _ hS => ?_)
    obtain ⟨rfl, rfl⟩ := hw
    obtain ⟨hP, hD⟩ := m_back hB ht
    refine lv_if_ne (tgt := 24) hx hb d_M_keep_17 (by decide) (fun hc4 => ?_) (fun hc4 => ?_)
    · have hf := x_br_f hf hc4
      refine lv_aload_n hx hb d_M_keep_24 rfl (lv_at hl 0 rfl) ?_
      refine lv_iload_n hx hb d_M_keep_25 rfl (lv_at hl 1 rfl) ?_
      obtain ⟨r5, z5, hq6, hf⟩ := x_cl_some hf
      refine va_calli (va_runV (As := [.int p1]) (rest := [.ref (x_ad G 0)]) ⟨hx, hb, hml, hown, hts⟩ (c_M_isWhole l G p1 z2 r5 z5 hq6) (cwV 1 hts (x_gV t_783 t_785 sel_ContentLibraryModel_isWhole t_7 t_786) rfl rfl rfl (by decide +kernel) ⟨Nat.le_of_ble_eq_true rfl, Nat.le_of_ble_eq_true rfl⟩) ⟨m_blind _ _ _, va_recv hK hP (ci := 5) (q0 := 0) rfl (m_lk_M G _), fun U hU hW => ⟨rfl, m_pw hP hD hK hG hS hz hU hW⟩⟩ rfl rfl hl.1 rfl (lv_room (Nat.le_of_ble_eq_true rfl)) d_M_keep_26 ⟨Nat.le_of_ble_eq_true rfl, Nat.le_of_ble_eq_true rfl⟩) hS (fun q _ h => h) (fun q h => h) (fun ra u t H locs ht hvm hw hB _ _ hS => ?_)
      obtain ⟨rfl, rfl⟩ := hw
      obtain ⟨hP, hD⟩ := m_back hB ht
      refine lv_if_ne (tgt := 36) hx hb d_M_keep_29 (by decide) (fun hc7 => ?_) (fun hc7 => ?_)
      · have hf := x_br_f hf hc7
        refine lv_iconst (v := (0 : Int32)) hx hb d_M_keep_36 (by decide) ?_
        refine va_put (D := x_D G) (ci := 5) (v := .int (0 : Int32)) (ty := .int) (C := "ContentLibraryModel") (T := x_TM) (N := 31) hx hb hts x_inM x_tyM x_tyM_ok x_nmM hown hK hP hD hS 0 (m_lk_M G _) rfl 0 (by decide) (hts _ t_672) (fun _ h9 => h9) rfl (by decide +kernel) rfl rfl (Nat.le_of_ble_eq_true rfl) d_M_keep_37 (fun H locs hP hD hS => ?_)
        rw [m_st_M0 G _] at hP hD
        refine lv_aload_n hx hb d_M_keep_40 rfl (lv_at hl 0 rfl) ?_
        refine va_get (D := x_D G) (ci := 5) (v := .int ((x_put z5 0 0 (0 : Int32)).1 0 0)) (C := "ContentLibraryModel") (T := x_TM) (N := 31) hx hb hts x_inM hown hK hP 0 (m_lk_M G _) rfl 0 (by decide) (hts _ t_672) (fun _ h9 => h9) rfl d_M_keep_41 ?_
        refine lv_if_le (tgt := 49) hx hb d_M_keep_44 (by decide) (fun hc8 => ?_) (fun hc8 => ?_)
        · have hf := x_br_t hf hc8
          cases hf
        · have hf := x_br_f hf hc8
          refine lv_iconst (v := (0 : Int32)) hx hb d_M_keep_47 (by decide) ?_
          obtain ⟨rfl, rfl⟩ := x_ret hf
          exact W.iret (v := (0 : Int32)) hx hb hr (fun t ht hW => ⟨⟨_, _, rfl, ⟨rfl, rfl⟩, m_pw hP hD hK hG hS hz ht hW⟩, hS.F ht⟩) hS.2.2 d_M_keep_48
      · have hf := x_br_t hf hc7
        refine lv_iconst (v := (3 : Int32)) hx hb d_M_keep_32 (by decide) ?_
        refine lv_goto (tgt := 37) hx hb d_M_keep_33 (by decide) ?_
        refine va_put (D := x_D G) (ci := 5) (v := .int (3 : Int32)) (ty := .int) (C := "ContentLibraryModel") (T := x_TM) (N := 31) hx hb hts x_inM x_tyM x_tyM_ok x_nmM hown hK hP hD hS 0 (m_lk_M G _) rfl 0 (by decide) (hts _ t_672) (fun _ h9 => h9) rfl (by decide +kernel) rfl rfl (Nat.le_of_ble_eq_true rfl) d_M_keep_37 (fun H locs hP hD hS => ?_)
        rw [m_st_M0 G _] at hP hD
        refine lv_aload_n hx hb d_M_keep_40 rfl (lv_at hl 0 rfl) ?_
        refine va_get (D := x_D G) (ci := 5) (v := .int ((x_put z5 0 0 (3 : Int32)).1 0 0)) (C := "ContentLibraryModel") (T := x_TM) (N := 31) hx hb hts x_inM hown hK hP 0 (m_lk_M G _) rfl 0 (by decide) (hts _ t_672) (fun _ h9 => h9) rfl d_M_keep_41 ?_
        refine lv_if_le (tgt := 49) hx hb d_M_keep_44 (by decide) (fun hc9 => ?_) (fun hc9 => ?_)
        · have hf := x_br_t hf hc9
          cases hf
        · have hf := x_br_f hf hc9
          refine lv_iconst (v := (0 : Int32)) hx hb d_M_keep_47 (by decide) ?_
          obtain ⟨rfl, rfl⟩ := x_ret hf
          exact W.iret (v := (0 : Int32)) hx hb hr (fun t ht hW => ⟨⟨_, _, rfl, ⟨rfl, rfl⟩, m_pw hP hD hK hG hS hz ht hW⟩, hS.F ht⟩) hS.2.2 d_M_keep_48
    · have hf := x_br_t hf hc4
      refine lv_iconst (v := (2 : Int32)) hx hb d_M_keep_20 (by decide) ?_
      refine lv_goto (tgt := 37) hx hb d_M_keep_21 (by decide) ?_
      refine va_put (D := x_D G) (ci := 5) (v := .int (2 : Int32)) (ty := .int) (C := "ContentLibraryModel") (T := x_TM) (N := 31) hx hb hts x_inM x_tyM x_tyM_ok x_nmM hown hK hP hD hS 0 (m_lk_M G _) rfl 0 (by decide) (hts _ t_672) (fun _ h9 => h9) rfl (by decide +kernel) rfl rfl (Nat.le_of_ble_eq_true rfl) d_M_keep_37 (fun H locs hP hD hS => ?_)
      rw [m_st_M0 G _] at hP hD
      refine lv_aload_n hx hb d_M_keep_40 rfl (lv_at hl 0 rfl) ?_
      refine va_get (D := x_D G) (ci := 5) (v := .int ((x_put z2 0 0 (2 : Int32)).1 0 0)) (C := "ContentLibraryModel") (T := x_TM) (N := 31) hx hb hts x_inM hown hK hP 0 (m_lk_M G _) rfl 0 (by decide) (hts _ t_672) (fun _ h9 => h9) rfl d_M_keep_41 ?_
      refine lv_if_le (tgt := 49) hx hb d_M_keep_44 (by decide) (fun hc10 => ?_) (fun hc10 => ?_)
      · have hf := x_br_t hf hc10
        cases hf
      · have hf := x_br_f hf hc10
        refine lv_iconst (v := (0 : Int32)) hx hb d_M_keep_47 (by decide) ?_
        obtain ⟨rfl, rfl⟩ := x_ret hf
        exact W.iret (v := (0 : Int32)) hx hb hr (fun t ht hW => ⟨⟨_, _, rfl, ⟨rfl, rfl⟩, m_pw hP hD hK hG hS hz ht hW⟩, hS.F ht⟩) hS.2.2 d_M_keep_48
  · have hf := x_br_f hf hc1
    refine lv_iconst (v := (1 : Int32)) hx hb d_M_keep_8 (by decide) ?_
    refine lv_goto (tgt := 37) hx hb d_M_keep_9 (by decide) ?_
    refine va_put (D := x_D G) (ci := 5) (v := .int (1 : Int32)) (ty := .int) (C := "ContentLibraryModel") (T := x_TM) (N := 31) hx hb hts x_inM x_tyM x_tyM_ok x_nmM hown hK hP hD hS 0 (m_lk_M G _) rfl 0 (by decide) (hts _ t_672) (fun _ h9 => h9) rfl (by decide +kernel) rfl rfl (Nat.le_of_ble_eq_true rfl) d_M_keep_37 (fun H locs hP hD hS => ?_)
    rw [m_st_M0 G _] at hP hD
    refine lv_aload_n hx hb d_M_keep_40 rfl (lv_at hl 0 rfl) ?_
    refine va_get (D := x_D G) (ci := 5) (v := .int ((x_put z0 0 0 (1 : Int32)).1 0 0)) (C := "ContentLibraryModel") (T := x_TM) (N := 31) hx hb hts x_inM hown hK hP 0 (m_lk_M G _) rfl 0 (by decide) (hts _ t_672) (fun _ h9 => h9) rfl d_M_keep_41 ?_
    refine lv_if_le (tgt := 49) hx hb d_M_keep_44 (by decide) (fun hc11 => ?_) (fun hc11 => ?_)
    · have hf := x_br_t hf hc11
      cases hf
    · have hf := x_br_f hf hc11
      refine lv_iconst (v := (0 : Int32)) hx hb d_M_keep_47 (by decide) ?_
      obtain ⟨rfl, rfl⟩ := x_ret hf
      exact W.iret (v := (0 : Int32)) hx hb hr (fun t ht hW => ⟨⟨_, _, rfl, ⟨rfl, rfl⟩, m_pw hP hD hK hG hS hz ht hW⟩, hS.F ht⟩) hS.2.2 d_M_keep_48
abbrev rm_M_isThere : Room := { frames := 0, cells := 0, slots := 0, locals := 0 }
set_option maxHeartbeats 4000000 in
set_option maxRecDepth 100000 in
theorem c_M_isThere (l : Launch) (G : x_G) (p1 : Int32) (z0 : x_St) (r : Int32) (zo : x_St) (hf : f_M_isThere (x_n G) p1 z0 = some (r, zo)) : Met l (⟨"ContentLibraryModel", "isThere", "(I)Z"⟩ : MethodName) (x_ws (⟨"ContentLibraryModel", "isThere", "(I)Z"⟩ : MethodName) prog_7_method_26_code 2 (some .boolean)) rm_M_isThere (va_Pc [.ref (x_ad G 0), .int p1] (m_PW G z0)) (va_Qi (fun a u => r = a ∧ zo = u) (m_PW G) (x_A G)) 0 0 (x_A G) := by
  refine Met.ofW (cc := prog_7_method_26_code) (maxL := 2) (ret := (some .boolean)) (by decide) rfl ?_
  intro p e s m args below meth c s₁ B hml hv
  obtain ⟨rfl, hz, hP, hD, hK, hG⟩ := hv
  have C0 : m_Ctx G p s m _ meth c prog_7_method_26_code "ContentLibraryModel" 2 (some .boolean) := ⟨B.exec, B.bytes, B.returns, hml, findClass_of_methodNamed B.named, fun w h => atoms_spec (ws := (x_ws (⟨"ContentLibraryModel", "isThere", "(I)Z"⟩ : MethodName) prog_7_method_26_code 2 (some .boolean))) B.pre w (List.mem_cons_of_mem _ h), B.notSynchronized, hz, hK, hG⟩
  obtain ⟨hx, hb, hr, hml, hown, hts, hlocks, hz, hK, hG⟩ := id C0
  have hS : va_S (x_A G) s.heap s.heap [] := va_S.rf
  have hl := lv_entry ([.ref (x_ad G 0), .int p1]) (n := 2) (Nat.le_of_ble_eq_true rfl)
  rw [lg_entry_eq]
  generalize (lg_sl ([.ref (x_ad G 0), .int p1]) ++ List.replicate (2 - (lg_sl ([.ref (x_ad G 0), .int p1])).length) Slot.unset).toArray = ls at hl ⊢
  have hl : lv_has ls 2 [(0, .ref (x_ad G 0)), (1, .int p1)] := hl
  rw [f_M_isThere] at hf
  refine lv_iload_n hx hb d_M_isThere_0 rfl (lv_at hl 1 rfl) ?_
  refine lv_if_lt (tgt := 23) hx hb d_M_isThere_1 (by decide) (fun hc1 => ?_) (fun hc1 => ?_)
  · have hf := x_br_t hf hc1
    refine lv_iconst (v := (0 : Int32)) hx hb d_M_isThere_23 (by decide) ?_
    obtain ⟨rfl, rfl⟩ := x_ret hf
    exact W.zret (v := (0 : Int32)) hx hb hr rfl (fun t ht hW => ⟨⟨_, _, rfl, ⟨rfl, rfl⟩, m_pw hP hD hK hG hS hz ht hW⟩, hS.F ht⟩) hS.2.2 d_M_isThere_24
  · have hf := x_br_f hf hc1
    refine lv_iload_n hx hb d_M_isThere_4 rfl (lv_at hl 1 rfl) ?_
    refine lv_bipush (v := (16 : Int32)) hx hb d_M_isThere_5 (by decide) ?_
    refine lv_icmp_ge (tgt := 23) hx hb d_M_isThere_7 (by decide) (fun hc2 => ?_) (fun hc2 => ?_)
    · have hf := x_br_t hf hc2
      refine lv_iconst (v := (0 : Int32)) hx hb d_M_isThere_23 (by decide) ?_
      obtain ⟨rfl, rfl⟩ := x_ret hf
      exact W.zret (v := (0 : Int32)) hx hb hr rfl (fun t ht hW => ⟨⟨_, _, rfl, ⟨rfl, rfl⟩, m_pw hP hD hK hG hS hz ht hW⟩, hS.F ht⟩) hS.2.2 d_M_isThere_24
    · have hf := x_br_f hf hc2
      refine lv_aload_n hx hb d_M_isThere_10 rfl (lv_at hl 0 rfl) ?_
      refine va_get (D := x_D G) (ci := 5) (v := .ref (x_ad G 7)) (C := "ContentLibraryModel") (T := x_TM) (N := 31) hx hb hts x_inM hown hK hP 0 (m_lk_M G _) rfl 10 (by decide) (hts _ t_682) (fun _ h9 => h9) rfl d_M_isThere_11 ?_
      refine lv_iload_n hx hb d_M_isThere_14 rfl (lv_at hl 1 rfl) ?_
      obtain ⟨hin3, hf⟩ := x_ck_some hf
      refine va_zald hx hb hK hP 7 1 (m_lk_Z G _ (k := 7) (by decide)) rfl hin3 d_M_isThere_15 ?_
      refine lv_if_eq (tgt := 23) hx hb d_M_isThere_16 (by decide) (fun hc4 => ?_) (fun hc4 => ?_)
      · have hf := x_br_t hf hc4
        refine lv_iconst (v := (0 : Int32)) hx hb d_M_isThere_23 (by decide) ?_
        obtain ⟨rfl, rfl⟩ := x_ret hf
        exact W.zret (v := (0 : Int32)) hx hb hr rfl (fun t ht hW => ⟨⟨_, _, rfl, ⟨rfl, rfl⟩, m_pw hP hD hK hG hS hz ht hW⟩, hS.F ht⟩) hS.2.2 d_M_isThere_24
      · have hf := x_br_f hf hc4
        refine lv_iconst (v := (1 : Int32)) hx hb d_M_isThere_19 (by decide) ?_
        refine lv_goto (tgt := 24) hx hb d_M_isThere_20 (by decide) ?_
        obtain ⟨rfl, rfl⟩ := x_ret hf
        exact W.zret (v := (1 : Int32)) hx hb hr rfl (fun t ht hW => ⟨⟨_, _, rfl, ⟨rfl, rfl⟩, m_pw hP hD hK hG hS hz ht hW⟩, hS.F ht⟩) hS.2.2 d_M_isThere_24
abbrev rm_M_digest : Room := { frames := 1, cells := 0, slots := 0, locals := 21 }
set_option maxHeartbeats 4000000 in
set_option maxRecDepth 100000 in
theorem c_M_digest (l : Launch) (G : x_G) (p1 : Int32) (p2 : Int32) (z0 : x_St) (r : Int32) (zo : x_St) (hf : f_M_digest (x_n G) p1 p2 z0 = some (r, zo)) : Met l (⟨"ContentLibraryModel", "digest", "(II)I"⟩ : MethodName) (x_ws (⟨"ContentLibraryModel", "digest", "(II)I"⟩ : MethodName) prog_7_method_27_code 3 (some .int)) rm_M_digest (va_Pc [.ref (x_ad G 0), .int p1, .int p2] (m_PW G z0)) (va_Qi (fun a u => r = a ∧ zo = u) (m_PW G) (x_A G)) 0 0 (x_A G) := by
  refine Met.ofW (cc := prog_7_method_27_code) (maxL := 3) (ret := (some .int)) (by decide) rfl ?_
  intro p e s m args below meth c s₁ B hml hv
  obtain ⟨rfl, hz, hP, hD, hK, hG⟩ := hv
  have C0 : m_Ctx G p s m _ meth c prog_7_method_27_code "ContentLibraryModel" 3 (some .int) := ⟨B.exec, B.bytes, B.returns, hml, findClass_of_methodNamed B.named, fun w h => atoms_spec (ws := (x_ws (⟨"ContentLibraryModel", "digest", "(II)I"⟩ : MethodName) prog_7_method_27_code 3 (some .int))) B.pre w (List.mem_cons_of_mem _ h), B.notSynchronized, hz, hK, hG⟩
  obtain ⟨hx, hb, hr, hml, hown, hts, hlocks, hz, hK, hG⟩ := id C0
  have hS : va_S (x_A G) s.heap s.heap [] := va_S.rf
  have hl := lv_entry ([.ref (x_ad G 0), .int p1, .int p2]) (n := 3) (Nat.le_of_ble_eq_true rfl)
  rw [lg_entry_eq]
  generalize (lg_sl ([.ref (x_ad G 0), .int p1, .int p2]) ++ List.replicate (3 - (lg_sl ([.ref (x_ad G 0), .int p1, .int p2])).length) Slot.unset).toArray = ls at hl ⊢
  have hl : lv_has ls 3 [(0, .ref (x_ad G 0)), (1, .int p1), (2, .int p2)] := hl
  rw [f_M_digest] at hf
  refine lv_aload_n hx hb d_M_digest_0 rfl (lv_at hl 0 rfl) ?_
  refine lv_aload_n hx hb d_M_digest_1 rfl (lv_at hl 0 rfl) ?_
  refine va_get (D := x_D G) (ci := 5) (v := .int (z0.1 0 3)) (C := "ContentLibraryModel") (T := x_TM) (N := 31) hx hb hts x_inM hown hK hP 0 (m_lk_M G _) rfl 3 (by decide) (hts _ t_675) (fun _ h9 => h9) rfl d_M_digest_2 ?_
  refine lv_if_eq (tgt := 12) hx hb d_M_digest_5 (by decide) (fun hc1 => ?_) (fun hc1 => ?_)
  · have hf := x_br_t hf hc1
    refine lv_aload_n hx hb d_M_digest_12 rfl (lv_at hl 0 rfl) ?_
    refine lv_iload_n hx hb d_M_digest_13 rfl (lv_at hl 1 rfl) ?_
    obtain ⟨r2, z2, hq3, hf⟩ := x_cl_some hf
    refine va_calli (va_runV (As := [.int p1]) (rest := [.ref (x_ad G 0)]) ⟨hx, hb, hml, hown, hts⟩ (c_M_isThere l G p1 z0 r2 z2 hq3) (cwV 1 hts (x_gV t_850 t_852 sel_ContentLibraryModel_isThere t_7 t_853) rfl rfl rfl (by decide +kernel) ⟨Nat.le_of_ble_eq_true rfl, Nat.le_of_ble_eq_true rfl⟩) ⟨m_blind _ _ _, va_recv hK hP (ci := 5) (q0 := 0) rfl (m_lk_M G _), fun U hU hW => ⟨rfl, m_pw hP hD hK hG hS hz hU hW⟩⟩ rfl rfl hl.1 rfl (lv_room (Nat.le_of_ble_eq_true rfl)) d_M_digest_14 ⟨Nat.le_of_ble_eq_true rfl, Nat.le_of_ble_eq_true rfl⟩) hS (fun q _ h => h) (fun q h => h) (fun ra u t H locs ht hvm hw hB _ _ hS => ?_)
    obtain ⟨rfl, rfl⟩ := hw
    obtain ⟨hP, hD⟩ := m_back hB ht
    refine lv_if_eq (tgt := 30) hx hb d_M_digest_17 (by decide) (fun hc4 => ?_) (fun hc4 => ?_)
    · have hf := x_br_t hf hc4
      refine lv_iconst (v := (2 : Int32)) hx hb d_M_digest_30 (by decide) ?_
      refine lv_goto (tgt := 35) hx hb d_M_digest_31 (by decide) ?_
      refine va_put (D := x_D G) (ci := 5) (v := .int (2 : Int32)) (ty := .int) (C := "ContentLibraryModel") (T := x_TM) (N := 31) hx hb hts x_inM x_tyM x_tyM_ok x_nmM hown hK hP hD hS 0 (m_lk_M G _) rfl 0 (by decide) (hts _ t_672) (fun _ h9 => h9) rfl (by decide +kernel) rfl rfl (Nat.le_of_ble_eq_true rfl) d_M_digest_35 (fun H locs hP hD hS => ?_)
      rw [m_st_M0 G _] at hP hD
      refine lv_aload_n hx hb d_M_digest_38 rfl (lv_at hl 0 rfl) ?_
      refine va_get (D := x_D G) (ci := 5) (v := .int ((x_put z2 0 0 (2 : Int32)).1 0 0)) (C := "ContentLibraryModel") (T := x_TM) (N := 31) hx hb hts x_inM hown hK hP 0 (m_lk_M G _) rfl 0 (by decide) (hts _ t_672) (fun _ h9 => h9) rfl d_M_digest_39 ?_
      refine lv_if_le (tgt := 47) hx hb d_M_digest_42 (by decide) (fun hc5 => ?_) (fun hc5 => ?_)
      · have hf := x_br_t hf hc5
        cases hf
      · have hf := x_br_f hf hc5
        refine lv_iconst (v := (0 : Int32)) hx hb d_M_digest_45 (by decide) ?_
        obtain ⟨rfl, rfl⟩ := x_ret hf
        exact W.iret (v := (0 : Int32)) hx hb hr (fun t ht hW => ⟨⟨_, _, rfl, ⟨rfl, rfl⟩, m_pw hP hD hK hG hS hz ht hW⟩, hS.F ht⟩) hS.2.2 d_M_digest_46
    · have hf := x_br_f hf hc4
      refine lv_iload_n hx hb d_M_digest_20 rfl (lv_at hl 2 rfl) ?_
      refine lv_if_lt (tgt := 30) hx hb d_M_digest_21 (by decide) (fun hc6 => ?_) (fun hc6 => ?_)
      · have hf := x_br_t hf hc6
        refine lv_iconst (v := (2 : Int32)) hx hb d_M_digest_30 (by decide) ?_
        refine lv_goto (tgt := 35) hx hb d_M_digest_31 (by decide) ?_
        refine va_put (D := x_D G) (ci := 5) (v := .int (2 : Int32)) (ty := .int) (C := "ContentLibraryModel") (T := x_TM) (N := 31) hx hb hts x_inM x_tyM x_tyM_ok x_nmM hown hK hP hD hS 0 (m_lk_M G _) rfl 0 (by decide) (hts _ t_672) (fun _ h9 => h9) rfl (by decide +kernel) rfl rfl (Nat.le_of_ble_eq_true rfl) d_M_digest_35 (fun H locs hP hD hS => ?_)
        rw [m_st_M0 G _] at hP hD
        refine lv_aload_n hx hb d_M_digest_38 rfl (lv_at hl 0 rfl) ?_
        refine va_get (D := x_D G) (ci := 5) (v := .int ((x_put z2 0 0 (2 : Int32)).1 0 0)) (C := "ContentLibraryModel") (T := x_TM) (N := 31) hx hb hts x_inM hown hK hP 0 (m_lk_M G _) rfl 0 (by decide) (hts _ t_672) (fun _ h9 => h9) rfl d_M_digest_39 ?_
        refine lv_if_le (tgt := 47) hx hb d_M_digest_42 (by decide) (fun hc7 => ?_) (fun hc7 => ?_)
        · have hf := x_br_t hf hc7
          cases hf
        · have hf := x_br_f hf hc7
          refine lv_iconst (v := (0 : Int32)) hx hb d_M_digest_45 (by decide) ?_
          obtain ⟨rfl, rfl⟩ := x_ret hf
          exact W.iret (v := (0 : Int32)) hx hb hr (fun t ht hW => ⟨⟨_, _, rfl, ⟨rfl, rfl⟩, m_pw hP hD hK hG hS hz ht hW⟩, hS.F ht⟩) hS.2.2 d_M_digest_46
      · have hf := x_br_f hf hc6
        refine lv_iload_n hx hb d_M_digest_24 rfl (lv_at hl 2 rfl) ?_
        refine lv_bipush (v := (7 : Int32)) hx hb d_M_digest_25 (by decide) ?_
        refine lv_icmp_le (tgt := 34) hx hb d_M_digest_27 (by decide) (fun hc8 => ?_) (fun hc8 => ?_)
        · have hf := x_br_t hf hc8
          refine lv_iconst (v := (0 : Int32)) hx hb d_M_digest_34 (by decide) ?_
          refine va_put (D := x_D G) (ci := 5) (v := .int (0 : Int32)) (ty := .int) (C := "ContentLibraryModel") (T := x_TM) (N := 31) hx hb hts x_inM x_tyM x_tyM_ok x_nmM hown hK hP hD hS 0 (m_lk_M G _) rfl 0 (by decide) (hts _ t_672) (fun _ h9 => h9) rfl (by decide +kernel) rfl rfl (Nat.le_of_ble_eq_true rfl) d_M_digest_35 (fun H locs hP hD hS => ?_)
          rw [m_st_M0 G _] at hP hD
          refine lv_aload_n hx hb d_M_digest_38 rfl (lv_at hl 0 rfl) ?_
          refine va_get (D := x_D G) (ci := 5) (v := .int ((x_put z2 0 0 (0 : Int32)).1 0 0)) (C := "ContentLibraryModel") (T := x_TM) (N := 31) hx hb hts x_inM hown hK hP 0 (m_lk_M G _) rfl 0 (by decide) (hts _ t_672) (fun _ h9 => h9) rfl d_M_digest_39 ?_
          refine lv_if_le (tgt := 47) hx hb d_M_digest_42 (by decide) (fun hc9 => ?_) (fun hc9 => ?_)
          · have hf := x_br_t hf hc9
            cases hf
          · have hf := x_br_f hf hc9
            refine lv_iconst (v := (0 : Int32)) hx hb d_M_digest_45 (by decide) ?_
            obtain ⟨rfl, rfl⟩ := x_ret hf
            exact W.iret (v := (0 : Int32)) hx hb hr (fun t ht hW => ⟨⟨_, _, rfl, ⟨rfl, rfl⟩, m_pw hP hD hK hG hS hz ht hW⟩, hS.F ht⟩) hS.2.2 d_M_digest_46
        · have hf := x_br_f hf hc8
          refine lv_iconst (v := (2 : Int32)) hx hb d_M_digest_30 (by decide) ?_
          refine lv_goto (tgt := 35) hx hb d_M_digest_31 (by decide) ?_
          refine va_put (D := x_D G) (ci := 5) (v := .int (2 : Int32)) (ty := .int) (C := "ContentLibraryModel") (T := x_TM) (N := 31) hx hb hts x_inM x_tyM x_tyM_ok x_nmM hown hK hP hD hS 0 (m_lk_M G _) rfl 0 (by decide) (hts _ t_672) (fun _ h9 => h9) rfl (by decide +kernel) rfl rfl (Nat.le_of_ble_eq_true rfl) d_M_digest_35 (fun H locs hP hD hS => ?_)
          rw [m_st_M0 G _] at hP hD
          refine lv_aload_n hx hb d_M_digest_38 rfl (lv_at hl 0 rfl) ?_
          refine va_get (D := x_D G) (ci := 5) (v := .int ((x_put z2 0 0 (2 : Int32)).1 0 0)) (C := "ContentLibraryModel") (T := x_TM) (N := 31) hx hb hts x_inM hown hK hP 0 (m_lk_M G _) rfl 0 (by decide) (hts _ t_672) (fun _ h9 => h9) rfl d_M_digest_39 ?_
          refine lv_if_le (tgt := 47) hx hb d_M_digest_42 (by decide) (fun hc10 => ?_) (fun hc10 => ?_)
          · have hf := x_br_t hf hc10
            cases hf
          · have hf := x_br_f hf hc10
            refine lv_iconst (v := (0 : Int32)) hx hb d_M_digest_45 (by decide) ?_
            obtain ⟨rfl, rfl⟩ := x_ret hf
            exact W.iret (v := (0 : Int32)) hx hb hr (fun t ht hW => ⟨⟨_, _, rfl, ⟨rfl, rfl⟩, m_pw hP hD hK hG hS hz ht hW⟩, hS.F ht⟩) hS.2.2 d_M_digest_46
  · have hf := x_br_f hf hc1
    refine lv_iconst (v := (1 : Int32)) hx hb d_M_digest_8 (by decide) ?_
    refine lv_goto (tgt := 35) hx hb d_M_digest_9 (by decide) ?_
    refine va_put (D := x_D G) (ci := 5) (v := .int (1 : Int32)) (ty := .int) (C := "ContentLibraryModel") (T := x_TM) (N := 31) hx hb hts x_inM x_tyM x_tyM_ok x_nmM hown hK hP hD hS 0 (m_lk_M G _) rfl 0 (by decide) (hts _ t_672) (fun _ h9 => h9) rfl (by decide +kernel) rfl rfl (Nat.le_of_ble_eq_true rfl) d_M_digest_35 (fun H locs hP hD hS => ?_)
    rw [m_st_M0 G _] at hP hD
    refine lv_aload_n hx hb d_M_digest_38 rfl (lv_at hl 0 rfl) ?_
    refine va_get (D := x_D G) (ci := 5) (v := .int ((x_put z0 0 0 (1 : Int32)).1 0 0)) (C := "ContentLibraryModel") (T := x_TM) (N := 31) hx hb hts x_inM hown hK hP 0 (m_lk_M G _) rfl 0 (by decide) (hts _ t_672) (fun _ h9 => h9) rfl d_M_digest_39 ?_
    refine lv_if_le (tgt := 47) hx hb d_M_digest_42 (by decide) (fun hc11 => ?_) (fun hc11 => ?_)
    · have hf := x_br_t hf hc11
      cases hf
    · have hf := x_br_f hf hc11
      refine lv_iconst (v := (0 : Int32)) hx hb d_M_digest_45 (by decide) ?_
      obtain ⟨rfl, rfl⟩ := x_ret hf
      exact W.iret (v := (0 : Int32)) hx hb hr (fun t ht hW => ⟨⟨_, _, rfl, ⟨rfl, rfl⟩, m_pw hP hD hK hG hS hz ht hW⟩, hS.F ht⟩) hS.2.2 d_M_digest_46
