theorem t_683 : Cond.fieldLink "ContentLibraryModel" 36 "ContentLibraryModel" "wide" "[I" ∈ x_big := x_bt 683 (by decide +kernel) (by decide +kernel)
theorem t_684 : Cond.fieldLink "ContentLibraryModel" 39 "ContentLibraryModel" "high" "[I" ∈ x_big := x_bt 684 (by decide +kernel) (by decide +kernel)
theorem t_685 : Cond.fieldLink "ContentLibraryModel" 42 "ContentLibraryModel" "kept" "[I" ∈ x_big := x_bt 685 (by decide +kernel) (by decide +kernel)
theorem t_689 : Cond.fieldLink "ContentLibraryModel" 54 "ContentLibraryModel" "prints" "[J" ∈ x_big := x_bt 689 (by decide +kernel) (by decide +kernel)
theorem t_692 : Cond.fieldLink "ContentLibraryModel" 61 "ContentLibraryModel" "foundNumber" "[I" ∈ x_big := x_bt 692 (by decide +kernel) (by decide +kernel)
theorem t_693 : Cond.fieldLink "ContentLibraryModel" 64 "ContentLibraryModel" "foundBits" "[I" ∈ x_big := x_bt 693 (by decide +kernel) (by decide +kernel)
theorem t_810 : Cond.methodLink "ContentLibraryModel" 159 (⟨"ContentLibraryModel", "freeBlocks", "()I"⟩ : MethodName) ∈ x_big := x_bt 810 (by decide +kernel) (by decide +kernel)
theorem t_812 : Cond.instanceMethod (⟨"ContentLibraryModel", "freeBlocks", "()I"⟩ : MethodName) ∈ x_big := x_bt 812 (by decide +kernel) (by decide +kernel)
theorem t_813 : Cond.code (⟨"ContentLibraryModel", "freeBlocks", "()I"⟩ : MethodName) prog_7_method_20_code 3 (some .int) ∈ x_big := x_bt 813 (by decide +kernel) (by decide +kernel)
theorem t_814 : Cond.methodLink "ContentLibraryModel" 163 (⟨"ContentLibraryModel", "isNothing", "(I)Z"⟩ : MethodName) ∈ x_big := x_bt 814 (by decide +kernel) (by decide +kernel)
theorem t_816 : Cond.instanceMethod (⟨"ContentLibraryModel", "isNothing", "(I)Z"⟩ : MethodName) ∈ x_big := x_bt 816 (by decide +kernel) (by decide +kernel)
theorem t_817 : Cond.code (⟨"ContentLibraryModel", "isNothing", "(I)Z"⟩ : MethodName) prog_7_method_17_code 4 (some .boolean) ∈ x_big := x_bt 817 (by decide +kernel) (by decide +kernel)
theorem t_818 : Cond.methodLink "ContentLibraryModel" 166 (⟨"ContentLibraryModel", "wipe", "(I)V"⟩ : MethodName) ∈ x_big := x_bt 818 (by decide +kernel) (by decide +kernel)
theorem t_820 : Cond.instanceMethod (⟨"ContentLibraryModel", "wipe", "(I)V"⟩ : MethodName) ∈ x_big := x_bt 820 (by decide +kernel) (by decide +kernel)
theorem t_821 : Cond.code (⟨"ContentLibraryModel", "wipe", "(I)V"⟩ : MethodName) prog_7_method_13_code 4 none ∈ x_big := x_bt 821 (by decide +kernel) (by decide +kernel)
theorem t_835 : Cond.methodLink "ContentLibraryModel" 173 (⟨"ContentLibraryModel", "isGone", "()Z"⟩ : MethodName) ∈ x_big := x_bt 835 (by decide +kernel) (by decide +kernel)
theorem t_837 : Cond.instanceMethod (⟨"ContentLibraryModel", "isGone", "()Z"⟩ : MethodName) ∈ x_big := x_bt 837 (by decide +kernel) (by decide +kernel)
theorem t_838 : Cond.code (⟨"ContentLibraryModel", "isGone", "()Z"⟩ : MethodName) prog_7_method_19_code 1 (some .boolean) ∈ x_big := x_bt 838 (by decide +kernel) (by decide +kernel)
theorem t_889 : Cond.methodLink "ContentLibraryModel" 198 (⟨"ContentLibraryModel", "openNumber", "(I)V"⟩ : MethodName) ∈ x_big := x_bt 889 (by decide +kernel) (by decide +kernel)
theorem t_891 : Cond.instanceMethod (⟨"ContentLibraryModel", "openNumber", "(I)V"⟩ : MethodName) ∈ x_big := x_bt 891 (by decide +kernel) (by decide +kernel)
theorem t_892 : Cond.code (⟨"ContentLibraryModel", "openNumber", "(I)V"⟩ : MethodName) prog_7_method_38_code 9 none ∈ x_big := x_bt 892 (by decide +kernel) (by decide +kernel)
theorem t_893 : Cond.methodLink "ContentLibraryModel" 194 (⟨"ContentLibraryModel", "only", "(III)I"⟩ : MethodName) ∈ x_big := x_bt 893 (by decide +kernel) (by decide +kernel)
theorem t_895 : Cond.instanceMethod (⟨"ContentLibraryModel", "only", "(III)I"⟩ : MethodName) ∈ x_big := x_bt 895 (by decide +kernel) (by decide +kernel)
theorem t_896 : Cond.code (⟨"ContentLibraryModel", "only", "(III)I"⟩ : MethodName) prog_7_method_37_code 8 (some .int) ∈ x_big := x_bt 896 (by decide +kernel) (by decide +kernel)
theorem t_897 : Cond.methodLink "ContentLibraryModel" 191 (⟨"ContentLibraryModel", "isGood", "(I)Z"⟩ : MethodName) ∈ x_big := x_bt 897 (by decide +kernel) (by decide +kernel)
theorem t_899 : Cond.instanceMethod (⟨"ContentLibraryModel", "isGood", "(I)Z"⟩ : MethodName) ∈ x_big := x_bt 899 (by decide +kernel) (by decide +kernel)
theorem t_900 : Cond.code (⟨"ContentLibraryModel", "isGood", "(I)Z"⟩ : MethodName) prog_7_method_36_code 4 (some .boolean) ∈ x_big := x_bt 900 (by decide +kernel) (by decide +kernel)
theorem t_901 : Cond.methodLink "ContentLibraryModel" 188 (⟨"ContentLibraryModel", "sumOf", "(I)I"⟩ : MethodName) ∈ x_big := x_bt 901 (by decide +kernel) (by decide +kernel)
theorem t_903 : Cond.instanceMethod (⟨"ContentLibraryModel", "sumOf", "(I)I"⟩ : MethodName) ∈ x_big := x_bt 903 (by decide +kernel) (by decide +kernel)
theorem t_904 : Cond.code (⟨"ContentLibraryModel", "sumOf", "(I)I"⟩ : MethodName) prog_7_method_14_code 4 (some .int) ∈ x_big := x_bt 904 (by decide +kernel) (by decide +kernel)
theorem sel_ContentLibraryModel_freeBlocks : Cond.selects "ContentLibraryModel" (⟨"ContentLibraryModel", "freeBlocks", "()I"⟩ : MethodName) (⟨"ContentLibraryModel", "freeBlocks", "()I"⟩ : MethodName) ∈ x_big := x_bs 33 (by decide +kernel) (by decide +kernel)
theorem sel_ContentLibraryModel_isGone : Cond.selects "ContentLibraryModel" (⟨"ContentLibraryModel", "isGone", "()Z"⟩ : MethodName) (⟨"ContentLibraryModel", "isGone", "()Z"⟩ : MethodName) ∈ x_big := x_bs 39 (by decide +kernel) (by decide +kernel)
theorem sel_ContentLibraryModel_isGood : Cond.selects "ContentLibraryModel" (⟨"ContentLibraryModel", "isGood", "(I)Z"⟩ : MethodName) (⟨"ContentLibraryModel", "isGood", "(I)Z"⟩ : MethodName) ∈ x_big := x_bs 44 (by decide +kernel) (by decide +kernel)
theorem sel_ContentLibraryModel_isNothing : Cond.selects "ContentLibraryModel" (⟨"ContentLibraryModel", "isNothing", "(I)Z"⟩ : MethodName) (⟨"ContentLibraryModel", "isNothing", "(I)Z"⟩ : MethodName) ∈ x_big := x_bs 34 (by decide +kernel) (by decide +kernel)
theorem sel_ContentLibraryModel_only : Cond.selects "ContentLibraryModel" (⟨"ContentLibraryModel", "only", "(III)I"⟩ : MethodName) (⟨"ContentLibraryModel", "only", "(III)I"⟩ : MethodName) ∈ x_big := x_bs 43 (by decide +kernel) (by decide +kernel)
theorem sel_ContentLibraryModel_openNumber : Cond.selects "ContentLibraryModel" (⟨"ContentLibraryModel", "openNumber", "(I)V"⟩ : MethodName) (⟨"ContentLibraryModel", "openNumber", "(I)V"⟩ : MethodName) ∈ x_big := x_bs 42 (by decide +kernel) (by decide +kernel)
theorem sel_ContentLibraryModel_sumOf : Cond.selects "ContentLibraryModel" (⟨"ContentLibraryModel", "sumOf", "(I)I"⟩ : MethodName) (⟨"ContentLibraryModel", "sumOf", "(I)I"⟩ : MethodName) ∈ x_big := x_bs 45 (by decide +kernel) (by decide +kernel)
theorem sel_ContentLibraryModel_wipe : Cond.selects "ContentLibraryModel" (⟨"ContentLibraryModel", "wipe", "(I)V"⟩ : MethodName) (⟨"ContentLibraryModel", "wipe", "(I)V"⟩ : MethodName) ∈ x_big := x_bs 35 (by decide +kernel) (by decide +kernel)
theorem d_M_print_0 : decode prog_7_method_28_code 0 = .ok (.aload_n 0, 1) := by decide +kernel
theorem d_M_print_1 : decode prog_7_method_28_code 1 = .ok (.aload_n 0, 1) := by decide +kernel
theorem d_M_print_2 : decode prog_7_method_28_code 2 = .ok (.getfield 130, 3) := by decide +kernel
theorem d_M_print_5 : decode prog_7_method_28_code 5 = .ok (.ifCond .eq 7, 3) := by decide +kernel
theorem d_M_print_8 : decode prog_7_method_28_code 8 = .ok (.iconst 1, 1) := by decide +kernel
theorem d_M_print_9 : decode prog_7_method_28_code 9 = .ok (.goto 16, 3) := by decide +kernel
theorem d_M_print_25 : decode prog_7_method_28_code 25 = .ok (.putfield 102, 3) := by decide +kernel
theorem d_M_print_28 : decode prog_7_method_28_code 28 = .ok (.aload_n 0, 1) := by decide +kernel
theorem d_M_print_29 : decode prog_7_method_28_code 29 = .ok (.getfield 102, 3) := by decide +kernel
theorem d_M_print_32 : decode prog_7_method_28_code 32 = .ok (.ifCond .le 7, 3) := by decide +kernel
theorem d_M_print_35 : decode prog_7_method_28_code 35 = .ok (.lconst 0, 1) := by decide +kernel
theorem d_M_print_36 : decode prog_7_method_28_code 36 = .ok (.goto 9, 3) := by decide +kernel
theorem d_M_print_45 : decode prog_7_method_28_code 45 = .ok (.lreturn, 1) := by decide +kernel
theorem d_M_print_39 : decode prog_7_method_28_code 39 = .ok (.aload_n 0, 1) := by decide +kernel
theorem d_M_print_40 : decode prog_7_method_28_code 40 = .ok (.getfield 54, 3) := by decide +kernel
theorem d_M_print_43 : decode prog_7_method_28_code 43 = .ok (.iload_n 1, 1) := by decide +kernel
theorem d_M_print_44 : decode prog_7_method_28_code 44 = .ok (.laload, 1) := by decide +kernel
theorem d_M_print_12 : decode prog_7_method_28_code 12 = .ok (.aload_n 0, 1) := by decide +kernel
theorem d_M_print_13 : decode prog_7_method_28_code 13 = .ok (.iload_n 1, 1) := by decide +kernel
theorem d_M_print_14 : decode prog_7_method_28_code 14 = .ok (.invokevirtual 181, 3) := by decide +kernel
theorem d_M_print_17 : decode prog_7_method_28_code 17 = .ok (.ifCond .ne 7, 3) := by decide +kernel
theorem d_M_print_20 : decode prog_7_method_28_code 20 = .ok (.iconst 2, 1) := by decide +kernel
theorem d_M_print_21 : decode prog_7_method_28_code 21 = .ok (.goto 4, 3) := by decide +kernel
theorem d_M_print_24 : decode prog_7_method_28_code 24 = .ok (.iconst 0, 1) := by decide +kernel
theorem d_M_sample_0 : decode prog_7_method_29_code 0 = .ok (.aload_n 0, 1) := by decide +kernel
theorem d_M_sample_1 : decode prog_7_method_29_code 1 = .ok (.aload_n 0, 1) := by decide +kernel
theorem d_M_sample_2 : decode prog_7_method_29_code 2 = .ok (.getfield 130, 3) := by decide +kernel
theorem d_M_sample_5 : decode prog_7_method_29_code 5 = .ok (.ifCond .eq 7, 3) := by decide +kernel
theorem d_M_sample_8 : decode prog_7_method_29_code 8 = .ok (.iconst 1, 1) := by decide +kernel
theorem d_M_sample_9 : decode prog_7_method_29_code 9 = .ok (.goto 44, 3) := by decide +kernel
theorem d_M_sample_53 : decode prog_7_method_29_code 53 = .ok (.putfield 102, 3) := by decide +kernel
theorem d_M_sample_56 : decode prog_7_method_29_code 56 = .ok (.aload_n 0, 1) := by decide +kernel
theorem d_M_sample_57 : decode prog_7_method_29_code 57 = .ok (.getfield 102, 3) := by decide +kernel
theorem d_M_sample_60 : decode prog_7_method_29_code 60 = .ok (.ifCond .le 7, 3) := by decide +kernel
theorem d_M_sample_63 : decode prog_7_method_29_code 63 = .ok (.iconst 0, 1) := by decide +kernel
theorem d_M_sample_64 : decode prog_7_method_29_code 64 = .ok (.goto 23, 3) := by decide +kernel
theorem d_M_sample_87 : decode prog_7_method_29_code 87 = .ok (.ireturn, 1) := by decide +kernel
theorem d_M_sample_67 : decode prog_7_method_29_code 67 = .ok (.aload_n 0, 1) := by decide +kernel
theorem d_M_sample_68 : decode prog_7_method_29_code 68 = .ok (.getfield 42, 3) := by decide +kernel
theorem d_M_sample_71 : decode prog_7_method_29_code 71 = .ok (.bipush 64, 2) := by decide +kernel
theorem d_M_sample_73 : decode prog_7_method_29_code 73 = .ok (.iload_n 1, 1) := by decide +kernel
theorem d_M_sample_74 : decode prog_7_method_29_code 74 = .ok (.imul, 1) := by decide +kernel
theorem d_M_sample_75 : decode prog_7_method_29_code 75 = .ok (.iload_n 3, 1) := by decide +kernel
theorem d_M_sample_76 : decode prog_7_method_29_code 76 = .ok (.aload_n 0, 1) := by decide +kernel
theorem d_M_sample_77 : decode prog_7_method_29_code 77 = .ok (.getfield 36, 3) := by decide +kernel
theorem d_M_sample_80 : decode prog_7_method_29_code 80 = .ok (.iload_n 1, 1) := by decide +kernel
theorem d_M_sample_81 : decode prog_7_method_29_code 81 = .ok (.iaload, 1) := by decide +kernel
theorem d_M_sample_82 : decode prog_7_method_29_code 82 = .ok (.imul, 1) := by decide +kernel
theorem d_M_sample_83 : decode prog_7_method_29_code 83 = .ok (.iadd, 1) := by decide +kernel
theorem d_M_sample_84 : decode prog_7_method_29_code 84 = .ok (.iload_n 2, 1) := by decide +kernel
theorem d_M_sample_85 : decode prog_7_method_29_code 85 = .ok (.iadd, 1) := by decide +kernel
theorem d_M_sample_86 : decode prog_7_method_29_code 86 = .ok (.iaload, 1) := by decide +kernel
theorem d_M_sample_12 : decode prog_7_method_29_code 12 = .ok (.aload_n 0, 1) := by decide +kernel
theorem d_M_sample_13 : decode prog_7_method_29_code 13 = .ok (.iload_n 1, 1) := by decide +kernel
theorem d_M_sample_14 : decode prog_7_method_29_code 14 = .ok (.invokevirtual 181, 3) := by decide +kernel
theorem d_M_sample_17 : decode prog_7_method_29_code 17 = .ok (.ifCond .eq 31, 3) := by decide +kernel
theorem d_M_sample_20 : decode prog_7_method_29_code 20 = .ok (.iload_n 2, 1) := by decide +kernel
theorem d_M_sample_21 : decode prog_7_method_29_code 21 = .ok (.ifCond .lt 27, 3) := by decide +kernel
theorem d_M_sample_24 : decode prog_7_method_29_code 24 = .ok (.iload_n 2, 1) := by decide +kernel
theorem d_M_sample_25 : decode prog_7_method_29_code 25 = .ok (.aload_n 0, 1) := by decide +kernel
theorem d_M_sample_26 : decode prog_7_method_29_code 26 = .ok (.getfield 36, 3) := by decide +kernel
theorem d_M_sample_29 : decode prog_7_method_29_code 29 = .ok (.iload_n 1, 1) := by decide +kernel
theorem d_M_sample_30 : decode prog_7_method_29_code 30 = .ok (.iaload, 1) := by decide +kernel
theorem d_M_sample_31 : decode prog_7_method_29_code 31 = .ok (.if_icmp .ge 17, 3) := by decide +kernel
theorem d_M_sample_34 : decode prog_7_method_29_code 34 = .ok (.iload_n 3, 1) := by decide +kernel
theorem d_M_sample_35 : decode prog_7_method_29_code 35 = .ok (.ifCond .lt 13, 3) := by decide +kernel
theorem d_M_sample_38 : decode prog_7_method_29_code 38 = .ok (.iload_n 3, 1) := by decide +kernel
theorem d_M_sample_39 : decode prog_7_method_29_code 39 = .ok (.aload_n 0, 1) := by decide +kernel
theorem d_M_sample_40 : decode prog_7_method_29_code 40 = .ok (.getfield 39, 3) := by decide +kernel
theorem d_M_sample_43 : decode prog_7_method_29_code 43 = .ok (.iload_n 1, 1) := by decide +kernel
theorem d_M_sample_44 : decode prog_7_method_29_code 44 = .ok (.iaload, 1) := by decide +kernel
theorem d_M_sample_45 : decode prog_7_method_29_code 45 = .ok (.if_icmp .lt 7, 3) := by decide +kernel
theorem d_M_sample_48 : decode prog_7_method_29_code 48 = .ok (.iconst 2, 1) := by decide +kernel
theorem d_M_sample_49 : decode prog_7_method_29_code 49 = .ok (.goto 4, 3) := by decide +kernel
theorem d_M_sample_52 : decode prog_7_method_29_code 52 = .ok (.iconst 0, 1) := by decide +kernel
theorem d_M_near_0 : decode prog_7_method_30_code 0 = .ok (.aload_n 0, 1) := by decide +kernel
theorem d_M_near_1 : decode prog_7_method_30_code 1 = .ok (.aload_n 0, 1) := by decide +kernel
theorem d_M_near_2 : decode prog_7_method_30_code 2 = .ok (.getfield 130, 3) := by decide +kernel
theorem d_M_near_5 : decode prog_7_method_30_code 5 = .ok (.ifCond .eq 7, 3) := by decide +kernel
theorem d_M_near_8 : decode prog_7_method_30_code 8 = .ok (.iconst 1, 1) := by decide +kernel
theorem d_M_near_9 : decode prog_7_method_30_code 9 = .ok (.goto 38, 3) := by decide +kernel
theorem d_M_near_47 : decode prog_7_method_30_code 47 = .ok (.putfield 102, 3) := by decide +kernel
theorem d_M_near_50 : decode prog_7_method_30_code 50 = .ok (.aload_n 0, 1) := by decide +kernel
theorem d_M_near_51 : decode prog_7_method_30_code 51 = .ok (.getfield 102, 3) := by decide +kernel
theorem d_M_near_54 : decode prog_7_method_30_code 54 = .ok (.ifCond .le 5, 3) := by decide +kernel
theorem d_M_near_57 : decode prog_7_method_30_code 57 = .ok (.iconst 0, 1) := by decide +kernel
theorem d_M_near_58 : decode prog_7_method_30_code 58 = .ok (.ireturn, 1) := by decide +kernel
theorem d_M_near_12 : decode prog_7_method_30_code 12 = .ok (.aload_n 0, 1) := by decide +kernel
theorem d_M_near_13 : decode prog_7_method_30_code 13 = .ok (.iload_n 1, 1) := by decide +kernel
theorem d_M_near_14 : decode prog_7_method_30_code 14 = .ok (.invokevirtual 149, 3) := by decide +kernel
theorem d_M_near_17 : decode prog_7_method_30_code 17 = .ok (.ifCond .ne 7, 3) := by decide +kernel
theorem d_M_near_20 : decode prog_7_method_30_code 20 = .ok (.iconst 2, 1) := by decide +kernel
theorem d_M_near_21 : decode prog_7_method_30_code 21 = .ok (.goto 26, 3) := by decide +kernel
theorem d_M_near_24 : decode prog_7_method_30_code 24 = .ok (.aload_n 0, 1) := by decide +kernel
theorem d_M_near_25 : decode prog_7_method_30_code 25 = .ok (.iload_n 1, 1) := by decide +kernel
theorem d_M_near_26 : decode prog_7_method_30_code 26 = .ok (.invokevirtual 152, 3) := by decide +kernel
theorem d_M_near_29 : decode prog_7_method_30_code 29 = .ok (.ifCond .eq 13, 3) := by decide +kernel
theorem d_M_near_32 : decode prog_7_method_30_code 32 = .ok (.iload_n 2, 1) := by decide +kernel
theorem d_M_near_33 : decode prog_7_method_30_code 33 = .ok (.ifCond .lt 9, 3) := by decide +kernel
theorem d_M_near_36 : decode prog_7_method_30_code 36 = .ok (.iload_n 2, 1) := by decide +kernel
theorem d_M_near_37 : decode prog_7_method_30_code 37 = .ok (.bipush 64, 2) := by decide +kernel
theorem d_M_near_39 : decode prog_7_method_30_code 39 = .ok (.if_icmp .le 7, 3) := by decide +kernel
theorem d_M_near_42 : decode prog_7_method_30_code 42 = .ok (.iconst 3, 1) := by decide +kernel
theorem d_M_near_43 : decode prog_7_method_30_code 43 = .ok (.goto 4, 3) := by decide +kernel
theorem d_M_near_46 : decode prog_7_method_30_code 46 = .ok (.iconst 0, 1) := by decide +kernel
theorem d_M_found_0 : decode prog_7_method_32_code 0 = .ok (.aload_n 0, 1) := by decide +kernel
theorem d_M_found_1 : decode prog_7_method_32_code 1 = .ok (.aload_n 0, 1) := by decide +kernel
theorem d_M_found_2 : decode prog_7_method_32_code 2 = .ok (.getfield 130, 3) := by decide +kernel
theorem d_M_found_5 : decode prog_7_method_32_code 5 = .ok (.ifCond .eq 7, 3) := by decide +kernel
theorem d_M_found_8 : decode prog_7_method_32_code 8 = .ok (.iconst 1, 1) := by decide +kernel
theorem d_M_found_9 : decode prog_7_method_32_code 9 = .ok (.goto 33, 3) := by decide +kernel
theorem d_M_found_42 : decode prog_7_method_32_code 42 = .ok (.putfield 102, 3) := by decide +kernel
theorem d_M_found_45 : decode prog_7_method_32_code 45 = .ok (.aload_n 0, 1) := by decide +kernel
theorem d_M_found_46 : decode prog_7_method_32_code 46 = .ok (.getfield 102, 3) := by decide +kernel
theorem d_M_found_49 : decode prog_7_method_32_code 49 = .ok (.ifCond .le 7, 3) := by decide +kernel
theorem d_M_found_52 : decode prog_7_method_32_code 52 = .ok (.iconst 0, 1) := by decide +kernel
theorem d_M_found_53 : decode prog_7_method_32_code 53 = .ok (.goto 22, 3) := by decide +kernel
theorem d_M_found_75 : decode prog_7_method_32_code 75 = .ok (.ireturn, 1) := by decide +kernel
theorem d_M_found_56 : decode prog_7_method_32_code 56 = .ok (.iload_n 2, 1) := by decide +kernel
theorem d_M_found_57 : decode prog_7_method_32_code 57 = .ok (.ifCond .ne 12, 3) := by decide +kernel
theorem d_M_found_60 : decode prog_7_method_32_code 60 = .ok (.aload_n 0, 1) := by decide +kernel
theorem d_M_found_61 : decode prog_7_method_32_code 61 = .ok (.getfield 61, 3) := by decide +kernel
theorem d_M_found_64 : decode prog_7_method_32_code 64 = .ok (.iload_n 1, 1) := by decide +kernel
theorem d_M_found_65 : decode prog_7_method_32_code 65 = .ok (.iaload, 1) := by decide +kernel
theorem d_M_found_66 : decode prog_7_method_32_code 66 = .ok (.goto 9, 3) := by decide +kernel
theorem d_M_found_69 : decode prog_7_method_32_code 69 = .ok (.aload_n 0, 1) := by decide +kernel
theorem d_M_found_70 : decode prog_7_method_32_code 70 = .ok (.getfield 64, 3) := by decide +kernel
theorem d_M_found_73 : decode prog_7_method_32_code 73 = .ok (.iload_n 1, 1) := by decide +kernel
theorem d_M_found_74 : decode prog_7_method_32_code 74 = .ok (.iaload, 1) := by decide +kernel
theorem d_M_found_12 : decode prog_7_method_32_code 12 = .ok (.iload_n 1, 1) := by decide +kernel
theorem d_M_found_13 : decode prog_7_method_32_code 13 = .ok (.ifCond .lt 11, 3) := by decide +kernel
theorem d_M_found_16 : decode prog_7_method_32_code 16 = .ok (.iload_n 1, 1) := by decide +kernel
theorem d_M_found_17 : decode prog_7_method_32_code 17 = .ok (.aload_n 0, 1) := by decide +kernel
theorem d_M_found_18 : decode prog_7_method_32_code 18 = .ok (.getfield 143, 3) := by decide +kernel
theorem d_M_found_21 : decode prog_7_method_32_code 21 = .ok (.if_icmp .lt 7, 3) := by decide +kernel
theorem d_M_found_24 : decode prog_7_method_32_code 24 = .ok (.iconst 2, 1) := by decide +kernel
theorem d_M_found_25 : decode prog_7_method_32_code 25 = .ok (.goto 17, 3) := by decide +kernel
theorem d_M_found_28 : decode prog_7_method_32_code 28 = .ok (.iload_n 2, 1) := by decide +kernel
theorem d_M_found_29 : decode prog_7_method_32_code 29 = .ok (.ifCond .lt 8, 3) := by decide +kernel
theorem d_M_found_32 : decode prog_7_method_32_code 32 = .ok (.iload_n 2, 1) := by decide +kernel
theorem d_M_found_33 : decode prog_7_method_32_code 33 = .ok (.iconst 1, 1) := by decide +kernel
theorem d_M_found_34 : decode prog_7_method_32_code 34 = .ok (.if_icmp .le 7, 3) := by decide +kernel
theorem d_M_found_37 : decode prog_7_method_32_code 37 = .ok (.iconst 3, 1) := by decide +kernel
theorem d_M_found_38 : decode prog_7_method_32_code 38 = .ok (.goto 4, 3) := by decide +kernel
theorem d_M_found_41 : decode prog_7_method_32_code 41 = .ok (.iconst 0, 1) := by decide +kernel
theorem d_M_drop_0 : decode prog_7_method_33_code 0 = .ok (.aload_n 0, 1) := by decide +kernel
theorem d_M_drop_1 : decode prog_7_method_33_code 1 = .ok (.aload_n 0, 1) := by decide +kernel
theorem d_M_drop_2 : decode prog_7_method_33_code 2 = .ok (.getfield 130, 3) := by decide +kernel
theorem d_M_drop_5 : decode prog_7_method_33_code 5 = .ok (.ifCond .eq 7, 3) := by decide +kernel
theorem d_M_drop_8 : decode prog_7_method_33_code 8 = .ok (.iconst 1, 1) := by decide +kernel
theorem d_M_drop_9 : decode prog_7_method_33_code 9 = .ok (.goto 16, 3) := by decide +kernel
theorem d_M_drop_25 : decode prog_7_method_33_code 25 = .ok (.putfield 102, 3) := by decide +kernel
theorem d_M_drop_28 : decode prog_7_method_33_code 28 = .ok (.aload_n 0, 1) := by decide +kernel
theorem d_M_drop_29 : decode prog_7_method_33_code 29 = .ok (.getfield 102, 3) := by decide +kernel
theorem d_M_drop_32 : decode prog_7_method_33_code 32 = .ok (.ifCond .le 5, 3) := by decide +kernel
theorem d_M_drop_35 : decode prog_7_method_33_code 35 = .ok (.iconst 0, 1) := by decide +kernel
theorem d_M_drop_36 : decode prog_7_method_33_code 36 = .ok (.ireturn, 1) := by decide +kernel
theorem d_M_drop_12 : decode prog_7_method_33_code 12 = .ok (.aload_n 0, 1) := by decide +kernel
theorem d_M_drop_13 : decode prog_7_method_33_code 13 = .ok (.iload_n 1, 1) := by decide +kernel
theorem d_M_drop_14 : decode prog_7_method_33_code 14 = .ok (.invokevirtual 181, 3) := by decide +kernel
theorem d_M_drop_17 : decode prog_7_method_33_code 17 = .ok (.ifCond .ne 7, 3) := by decide +kernel
theorem d_M_drop_20 : decode prog_7_method_33_code 20 = .ok (.iconst 2, 1) := by decide +kernel
theorem d_M_drop_21 : decode prog_7_method_33_code 21 = .ok (.goto 4, 3) := by decide +kernel
theorem d_M_drop_24 : decode prog_7_method_33_code 24 = .ok (.iconst 0, 1) := by decide +kernel
theorem d_M_sweep_0 : decode prog_7_method_34_code 0 = .ok (.aload_n 0, 1) := by decide +kernel
theorem d_M_sweep_1 : decode prog_7_method_34_code 1 = .ok (.aload_n 0, 1) := by decide +kernel
theorem d_M_sweep_2 : decode prog_7_method_34_code 2 = .ok (.getfield 130, 3) := by decide +kernel
theorem d_M_sweep_5 : decode prog_7_method_34_code 5 = .ok (.ifCond .eq 7, 3) := by decide +kernel
theorem d_M_sweep_8 : decode prog_7_method_34_code 8 = .ok (.iconst 1, 1) := by decide +kernel
theorem d_M_sweep_9 : decode prog_7_method_34_code 9 = .ok (.goto 4, 3) := by decide +kernel
theorem d_M_sweep_13 : decode prog_7_method_34_code 13 = .ok (.putfield 102, 3) := by decide +kernel
theorem d_M_sweep_16 : decode prog_7_method_34_code 16 = .ok (.aload_n 0, 1) := by decide +kernel
theorem d_M_sweep_17 : decode prog_7_method_34_code 17 = .ok (.getfield 102, 3) := by decide +kernel
theorem d_M_sweep_20 : decode prog_7_method_34_code 20 = .ok (.ifCond .le 5, 3) := by decide +kernel
theorem d_M_sweep_23 : decode prog_7_method_34_code 23 = .ok (.iconst 0, 1) := by decide +kernel
theorem d_M_sweep_24 : decode prog_7_method_34_code 24 = .ok (.ireturn, 1) := by decide +kernel
theorem d_M_sweep_25 : decode prog_7_method_34_code 25 = .ok (.iconst 0, 1) := by decide +kernel
theorem d_M_sweep_26 : decode prog_7_method_34_code 26 = .ok (.istore_n 1, 1) := by decide +kernel
theorem d_M_sweep_27 : decode prog_7_method_34_code 27 = .ok (.iconst 0, 1) := by decide +kernel
theorem d_M_sweep_28 : decode prog_7_method_34_code 28 = .ok (.istore_n 2, 1) := by decide +kernel
theorem d_M_sweep_29 : decode prog_7_method_34_code 29 = .ok (.iload_n 2, 1) := by decide +kernel
theorem d_M_sweep_30 : decode prog_7_method_34_code 30 = .ok (.aload_n 0, 1) := by decide +kernel
theorem d_M_sweep_31 : decode prog_7_method_34_code 31 = .ok (.getfield 91, 3) := by decide +kernel
theorem d_M_sweep_34 : decode prog_7_method_34_code 34 = .ok (.if_icmp .ge 42, 3) := by decide +kernel
theorem d_M_sweep_37 : decode prog_7_method_34_code 37 = .ok (.aload_n 0, 1) := by decide +kernel
theorem d_M_sweep_38 : decode prog_7_method_34_code 38 = .ok (.getfield 130, 3) := by decide +kernel
theorem d_M_sweep_41 : decode prog_7_method_34_code 41 = .ok (.ifCond .ne 29, 3) := by decide +kernel
theorem d_M_sweep_44 : decode prog_7_method_34_code 44 = .ok (.aload_n 0, 1) := by decide +kernel
theorem d_M_sweep_45 : decode prog_7_method_34_code 45 = .ok (.getfield 58, 3) := by decide +kernel
theorem d_M_sweep_48 : decode prog_7_method_34_code 48 = .ok (.iload_n 2, 1) := by decide +kernel
theorem d_M_sweep_49 : decode prog_7_method_34_code 49 = .ok (.iaload, 1) := by decide +kernel
theorem d_M_sweep_50 : decode prog_7_method_34_code 50 = .ok (.iconst (-1), 1) := by decide +kernel
theorem d_M_sweep_51 : decode prog_7_method_34_code 51 = .ok (.if_icmp .ne 19, 3) := by decide +kernel
theorem d_M_sweep_54 : decode prog_7_method_34_code 54 = .ok (.aload_n 0, 1) := by decide +kernel
theorem d_M_sweep_55 : decode prog_7_method_34_code 55 = .ok (.iload_n 2, 1) := by decide +kernel
theorem d_M_sweep_56 : decode prog_7_method_34_code 56 = .ok (.invokevirtual 163, 3) := by decide +kernel
theorem d_M_sweep_59 : decode prog_7_method_34_code 59 = .ok (.ifCond .ne 11, 3) := by decide +kernel
theorem d_M_sweep_62 : decode prog_7_method_34_code 62 = .ok (.aload_n 0, 1) := by decide +kernel
theorem d_M_sweep_63 : decode prog_7_method_34_code 63 = .ok (.iload_n 2, 1) := by decide +kernel
theorem d_M_sweep_64 : decode prog_7_method_34_code 64 = .ok (.invokevirtual 166, 3) := by decide +kernel
theorem d_M_sweep_67 : decode prog_7_method_34_code 67 = .ok (.iinc 1 1, 3) := by decide +kernel
theorem d_M_sweep_70 : decode prog_7_method_34_code 70 = .ok (.iinc 2 1, 3) := by decide +kernel
theorem d_M_sweep_73 : decode prog_7_method_34_code 73 = .ok (.goto (-44), 3) := by decide +kernel
theorem d_M_sweep_76 : decode prog_7_method_34_code 76 = .ok (.aload_n 0, 1) := by decide +kernel
theorem d_M_sweep_77 : decode prog_7_method_34_code 77 = .ok (.invokevirtual 173, 3) := by decide +kernel
theorem d_M_sweep_80 : decode prog_7_method_34_code 80 = .ok (.ifCond .eq 8, 3) := by decide +kernel
theorem d_M_sweep_83 : decode prog_7_method_34_code 83 = .ok (.bipush (-2), 2) := by decide +kernel
theorem d_M_sweep_85 : decode prog_7_method_34_code 85 = .ok (.goto 4, 3) := by decide +kernel
theorem d_M_sweep_89 : decode prog_7_method_34_code 89 = .ok (.ireturn, 1) := by decide +kernel
theorem d_M_sweep_88 : decode prog_7_method_34_code 88 = .ok (.iload_n 1, 1) := by decide +kernel
theorem d_M_sweep_12 : decode prog_7_method_34_code 12 = .ok (.iconst 0, 1) := by decide +kernel
theorem d_M_fuse_0 : decode prog_7_method_35_code 0 = .ok (.aload_n 0, 1) := by decide +kernel
theorem d_M_fuse_1 : decode prog_7_method_35_code 1 = .ok (.aload_n 0, 1) := by decide +kernel
theorem d_M_fuse_2 : decode prog_7_method_35_code 2 = .ok (.getfield 130, 3) := by decide +kernel
theorem d_M_fuse_5 : decode prog_7_method_35_code 5 = .ok (.ifCond .eq 7, 3) := by decide +kernel
theorem d_M_fuse_8 : decode prog_7_method_35_code 8 = .ok (.iconst 1, 1) := by decide +kernel
theorem d_M_fuse_9 : decode prog_7_method_35_code 9 = .ok (.goto 13, 3) := by decide +kernel
theorem d_M_fuse_22 : decode prog_7_method_35_code 22 = .ok (.putfield 102, 3) := by decide +kernel
theorem d_M_fuse_25 : decode prog_7_method_35_code 25 = .ok (.aload_n 0, 1) := by decide +kernel
theorem d_M_fuse_26 : decode prog_7_method_35_code 26 = .ok (.getfield 102, 3) := by decide +kernel
theorem d_M_fuse_29 : decode prog_7_method_35_code 29 = .ok (.ifCond .le 5, 3) := by decide +kernel
theorem d_M_fuse_32 : decode prog_7_method_35_code 32 = .ok (.iconst 0, 1) := by decide +kernel
theorem d_M_fuse_33 : decode prog_7_method_35_code 33 = .ok (.ireturn, 1) := by decide +kernel
theorem d_M_fuse_34 : decode prog_7_method_35_code 34 = .ok (.aload_n 0, 1) := by decide +kernel
theorem d_M_fuse_35 : decode prog_7_method_35_code 35 = .ok (.getfield 13, 3) := by decide +kernel
theorem d_M_fuse_38 : decode prog_7_method_35_code 38 = .ok (.istore_n 2, 1) := by decide +kernel
theorem d_M_fuse_39 : decode prog_7_method_35_code 39 = .ok (.aload_n 0, 1) := by decide +kernel
theorem d_M_fuse_40 : decode prog_7_method_35_code 40 = .ok (.iload_n 1, 1) := by decide +kernel
theorem d_M_fuse_41 : decode prog_7_method_35_code 41 = .ok (.putfield 13, 3) := by decide +kernel
theorem d_M_fuse_44 : decode prog_7_method_35_code 44 = .ok (.iload_n 2, 1) := by decide +kernel
theorem d_M_fuse_45 : decode prog_7_method_35_code 45 = .ok (.ireturn, 1) := by decide +kernel
theorem d_M_fuse_12 : decode prog_7_method_35_code 12 = .ok (.iload_n 1, 1) := by decide +kernel
theorem d_M_fuse_13 : decode prog_7_method_35_code 13 = .ok (.iconst (-1), 1) := by decide +kernel
theorem d_M_fuse_14 : decode prog_7_method_35_code 14 = .ok (.if_icmp .ge 7, 3) := by decide +kernel
theorem d_M_fuse_17 : decode prog_7_method_35_code 17 = .ok (.iconst 2, 1) := by decide +kernel
theorem d_M_fuse_18 : decode prog_7_method_35_code 18 = .ok (.goto 4, 3) := by decide +kernel
theorem d_M_fuse_21 : decode prog_7_method_35_code 21 = .ok (.iconst 0, 1) := by decide +kernel
theorem d_M_isGood_0 : decode prog_7_method_36_code 0 = .ok (.bipush 64, 2) := by decide +kernel
theorem d_M_isGood_2 : decode prog_7_method_36_code 2 = .ok (.iload_n 1, 1) := by decide +kernel
theorem d_M_isGood_3 : decode prog_7_method_36_code 3 = .ok (.imul, 1) := by decide +kernel
theorem d_M_isGood_4 : decode prog_7_method_36_code 4 = .ok (.istore_n 2, 1) := by decide +kernel
theorem d_M_isGood_5 : decode prog_7_method_36_code 5 = .ok (.aload_n 0, 1) := by decide +kernel
theorem d_M_isGood_6 : decode prog_7_method_36_code 6 = .ok (.getfield 7, 3) := by decide +kernel
theorem d_M_isGood_9 : decode prog_7_method_36_code 9 = .ok (.iload_n 2, 1) := by decide +kernel
theorem d_M_isGood_10 : decode prog_7_method_36_code 10 = .ok (.iaload, 1) := by decide +kernel
theorem d_M_isGood_11 : decode prog_7_method_36_code 11 = .ok (.aload_n 0, 1) := by decide +kernel
theorem d_M_isGood_12 : decode prog_7_method_36_code 12 = .ok (.getfield 7, 3) := by decide +kernel
theorem d_M_isGood_15 : decode prog_7_method_36_code 15 = .ok (.iload_n 2, 1) := by decide +kernel
theorem d_M_isGood_16 : decode prog_7_method_36_code 16 = .ok (.iconst 1, 1) := by decide +kernel
theorem d_M_isGood_17 : decode prog_7_method_36_code 17 = .ok (.iadd, 1) := by decide +kernel
theorem d_M_isGood_18 : decode prog_7_method_36_code 18 = .ok (.iaload, 1) := by decide +kernel
theorem d_M_isGood_19 : decode prog_7_method_36_code 19 = .ok (.bipush 8, 2) := by decide +kernel
theorem d_M_isGood_21 : decode prog_7_method_36_code 21 = .ok (.ishl, 1) := by decide +kernel
theorem d_M_isGood_22 : decode prog_7_method_36_code 22 = .ok (.ior, 1) := by decide +kernel
theorem d_M_isGood_23 : decode prog_7_method_36_code 23 = .ok (.aload_n 0, 1) := by decide +kernel
theorem d_M_isGood_24 : decode prog_7_method_36_code 24 = .ok (.getfield 7, 3) := by decide +kernel
theorem d_M_isGood_27 : decode prog_7_method_36_code 27 = .ok (.iload_n 2, 1) := by decide +kernel
theorem d_M_isGood_28 : decode prog_7_method_36_code 28 = .ok (.iconst 2, 1) := by decide +kernel
theorem d_M_isGood_29 : decode prog_7_method_36_code 29 = .ok (.iadd, 1) := by decide +kernel
theorem d_M_isGood_30 : decode prog_7_method_36_code 30 = .ok (.iaload, 1) := by decide +kernel
theorem d_M_isGood_31 : decode prog_7_method_36_code 31 = .ok (.bipush 16, 2) := by decide +kernel
theorem d_M_isGood_33 : decode prog_7_method_36_code 33 = .ok (.ishl, 1) := by decide +kernel
theorem d_M_isGood_34 : decode prog_7_method_36_code 34 = .ok (.ior, 1) := by decide +kernel
theorem d_M_isGood_35 : decode prog_7_method_36_code 35 = .ok (.aload_n 0, 1) := by decide +kernel
theorem d_M_isGood_36 : decode prog_7_method_36_code 36 = .ok (.getfield 7, 3) := by decide +kernel
theorem d_M_isGood_39 : decode prog_7_method_36_code 39 = .ok (.iload_n 2, 1) := by decide +kernel
theorem d_M_isGood_40 : decode prog_7_method_36_code 40 = .ok (.iconst 3, 1) := by decide +kernel
theorem d_M_isGood_41 : decode prog_7_method_36_code 41 = .ok (.iadd, 1) := by decide +kernel
theorem d_M_isGood_42 : decode prog_7_method_36_code 42 = .ok (.iaload, 1) := by decide +kernel
theorem d_M_isGood_43 : decode prog_7_method_36_code 43 = .ok (.bipush 24, 2) := by decide +kernel
theorem d_M_isGood_45 : decode prog_7_method_36_code 45 = .ok (.ishl, 1) := by decide +kernel
theorem d_M_isGood_46 : decode prog_7_method_36_code 46 = .ok (.ior, 1) := by decide +kernel
theorem d_M_isGood_47 : decode prog_7_method_36_code 47 = .ok (.istore_n 3, 1) := by decide +kernel
theorem d_M_isGood_48 : decode prog_7_method_36_code 48 = .ok (.aload_n 0, 1) := by decide +kernel
theorem d_M_isGood_49 : decode prog_7_method_36_code 49 = .ok (.getfield 7, 3) := by decide +kernel
theorem d_M_isGood_52 : decode prog_7_method_36_code 52 = .ok (.iload_n 2, 1) := by decide +kernel
theorem d_M_isGood_53 : decode prog_7_method_36_code 53 = .ok (.iconst 4, 1) := by decide +kernel
theorem d_M_isGood_54 : decode prog_7_method_36_code 54 = .ok (.iadd, 1) := by decide +kernel
theorem d_M_isGood_55 : decode prog_7_method_36_code 55 = .ok (.iaload, 1) := by decide +kernel
theorem d_M_isGood_56 : decode prog_7_method_36_code 56 = .ok (.iconst 1, 1) := by decide +kernel
theorem d_M_isGood_57 : decode prog_7_method_36_code 57 = .ok (.if_icmp .lt 55, 3) := by decide +kernel
theorem d_M_isGood_60 : decode prog_7_method_36_code 60 = .ok (.aload_n 0, 1) := by decide +kernel
theorem d_M_isGood_61 : decode prog_7_method_36_code 61 = .ok (.getfield 7, 3) := by decide +kernel
theorem d_M_isGood_64 : decode prog_7_method_36_code 64 = .ok (.iload_n 2, 1) := by decide +kernel
theorem d_M_isGood_65 : decode prog_7_method_36_code 65 = .ok (.iconst 4, 1) := by decide +kernel
theorem d_M_isGood_66 : decode prog_7_method_36_code 66 = .ok (.iadd, 1) := by decide +kernel
theorem d_M_isGood_67 : decode prog_7_method_36_code 67 = .ok (.iaload, 1) := by decide +kernel
theorem d_M_isGood_68 : decode prog_7_method_36_code 68 = .ok (.iconst 3, 1) := by decide +kernel
theorem d_M_isGood_69 : decode prog_7_method_36_code 69 = .ok (.if_icmp .gt 43, 3) := by decide +kernel
theorem d_M_isGood_72 : decode prog_7_method_36_code 72 = .ok (.aload_n 0, 1) := by decide +kernel
theorem d_M_isGood_73 : decode prog_7_method_36_code 73 = .ok (.getfield 7, 3) := by decide +kernel
theorem d_M_isGood_76 : decode prog_7_method_36_code 76 = .ok (.iload_n 2, 1) := by decide +kernel
theorem d_M_isGood_77 : decode prog_7_method_36_code 77 = .ok (.iconst 5, 1) := by decide +kernel
theorem d_M_isGood_78 : decode prog_7_method_36_code 78 = .ok (.iadd, 1) := by decide +kernel
theorem d_M_isGood_79 : decode prog_7_method_36_code 79 = .ok (.iaload, 1) := by decide +kernel
theorem d_M_isGood_80 : decode prog_7_method_36_code 80 = .ok (.bipush 16, 2) := by decide +kernel
theorem d_M_isGood_82 : decode prog_7_method_36_code 82 = .ok (.if_icmp .ge 30, 3) := by decide +kernel
theorem d_M_isGood_85 : decode prog_7_method_36_code 85 = .ok (.aload_n 0, 1) := by decide +kernel
theorem d_M_isGood_86 : decode prog_7_method_36_code 86 = .ok (.getfield 7, 3) := by decide +kernel
theorem d_M_isGood_89 : decode prog_7_method_36_code 89 = .ok (.iload_n 2, 1) := by decide +kernel
theorem d_M_isGood_90 : decode prog_7_method_36_code 90 = .ok (.bipush 7, 2) := by decide +kernel
theorem d_M_isGood_92 : decode prog_7_method_36_code 92 = .ok (.iadd, 1) := by decide +kernel
theorem d_M_isGood_93 : decode prog_7_method_36_code 93 = .ok (.iaload, 1) := by decide +kernel
theorem d_M_isGood_94 : decode prog_7_method_36_code 94 = .ok (.bipush 56, 2) := by decide +kernel
theorem d_M_isGood_96 : decode prog_7_method_36_code 96 = .ok (.if_icmp .gt 16, 3) := by decide +kernel
theorem d_M_isGood_99 : decode prog_7_method_36_code 99 = .ok (.iload_n 3, 1) := by decide +kernel
theorem d_M_isGood_100 : decode prog_7_method_36_code 100 = .ok (.aload_n 0, 1) := by decide +kernel
theorem d_M_isGood_101 : decode prog_7_method_36_code 101 = .ok (.iload_n 1, 1) := by decide +kernel
theorem d_M_isGood_102 : decode prog_7_method_36_code 102 = .ok (.invokevirtual 188, 3) := by decide +kernel
theorem d_M_isGood_105 : decode prog_7_method_36_code 105 = .ok (.if_icmp .ne 7, 3) := by decide +kernel
theorem d_M_isGood_108 : decode prog_7_method_36_code 108 = .ok (.iconst 1, 1) := by decide +kernel
theorem d_M_isGood_109 : decode prog_7_method_36_code 109 = .ok (.goto 4, 3) := by decide +kernel
theorem d_M_isGood_113 : decode prog_7_method_36_code 113 = .ok (.ireturn, 1) := by decide +kernel
theorem d_M_isGood_112 : decode prog_7_method_36_code 112 = .ok (.iconst 0, 1) := by decide +kernel
theorem d_M_only_0 : decode prog_7_method_37_code 0 = .ok (.iconst (-1), 1) := by decide +kernel
theorem d_M_only_1 : decode prog_7_method_37_code 1 = .ok (.istore 4, 2) := by decide +kernel
theorem d_M_only_3 : decode prog_7_method_37_code 3 = .ok (.iconst 0, 1) := by decide +kernel
theorem d_M_only_4 : decode prog_7_method_37_code 4 = .ok (.istore 5, 2) := by decide +kernel
theorem d_M_only_6 : decode prog_7_method_37_code 6 = .ok (.iconst 0, 1) := by decide +kernel
theorem d_M_only_7 : decode prog_7_method_37_code 7 = .ok (.istore 6, 2) := by decide +kernel
theorem d_M_only_9 : decode prog_7_method_37_code 9 = .ok (.iload 6, 2) := by decide +kernel
theorem d_M_only_11 : decode prog_7_method_37_code 11 = .ok (.aload_n 0, 1) := by decide +kernel
theorem d_M_only_12 : decode prog_7_method_37_code 12 = .ok (.getfield 91, 3) := by decide +kernel
theorem d_M_only_15 : decode prog_7_method_37_code 15 = .ok (.if_icmp .ge 77, 3) := by decide +kernel
theorem d_M_only_18 : decode prog_7_method_37_code 18 = .ok (.bipush 64, 2) := by decide +kernel
theorem d_M_only_20 : decode prog_7_method_37_code 20 = .ok (.iload 6, 2) := by decide +kernel
theorem d_M_only_22 : decode prog_7_method_37_code 22 = .ok (.imul, 1) := by decide +kernel
theorem d_M_only_23 : decode prog_7_method_37_code 23 = .ok (.istore 7, 2) := by decide +kernel
theorem d_M_only_25 : decode prog_7_method_37_code 25 = .ok (.aload_n 0, 1) := by decide +kernel
theorem d_M_only_26 : decode prog_7_method_37_code 26 = .ok (.getfield 7, 3) := by decide +kernel
theorem d_M_only_29 : decode prog_7_method_37_code 29 = .ok (.iload 7, 2) := by decide +kernel
theorem d_M_only_31 : decode prog_7_method_37_code 31 = .ok (.iconst 4, 1) := by decide +kernel
theorem d_M_only_32 : decode prog_7_method_37_code 32 = .ok (.iadd, 1) := by decide +kernel
theorem d_M_only_33 : decode prog_7_method_37_code 33 = .ok (.iaload, 1) := by decide +kernel
theorem d_M_only_34 : decode prog_7_method_37_code 34 = .ok (.iload_n 1, 1) := by decide +kernel
theorem d_M_only_35 : decode prog_7_method_37_code 35 = .ok (.if_icmp .ne 51, 3) := by decide +kernel
theorem d_M_only_38 : decode prog_7_method_37_code 38 = .ok (.aload_n 0, 1) := by decide +kernel
theorem d_M_only_39 : decode prog_7_method_37_code 39 = .ok (.getfield 7, 3) := by decide +kernel
theorem d_M_only_42 : decode prog_7_method_37_code 42 = .ok (.iload 7, 2) := by decide +kernel
theorem d_M_only_44 : decode prog_7_method_37_code 44 = .ok (.iconst 5, 1) := by decide +kernel
theorem d_M_only_45 : decode prog_7_method_37_code 45 = .ok (.iadd, 1) := by decide +kernel
theorem d_M_only_46 : decode prog_7_method_37_code 46 = .ok (.iaload, 1) := by decide +kernel
theorem d_M_only_47 : decode prog_7_method_37_code 47 = .ok (.iload_n 2, 1) := by decide +kernel
theorem d_M_only_48 : decode prog_7_method_37_code 48 = .ok (.if_icmp .ne 38, 3) := by decide +kernel
theorem d_M_only_51 : decode prog_7_method_37_code 51 = .ok (.iload_n 1, 1) := by decide +kernel
theorem d_M_only_52 : decode prog_7_method_37_code 52 = .ok (.iconst 3, 1) := by decide +kernel
theorem d_M_only_53 : decode prog_7_method_37_code 53 = .ok (.if_icmp .eq 17, 3) := by decide +kernel
theorem d_M_only_56 : decode prog_7_method_37_code 56 = .ok (.aload_n 0, 1) := by decide +kernel
theorem d_M_only_57 : decode prog_7_method_37_code 57 = .ok (.getfield 7, 3) := by decide +kernel
theorem d_M_only_60 : decode prog_7_method_37_code 60 = .ok (.iload 7, 2) := by decide +kernel
theorem d_M_only_62 : decode prog_7_method_37_code 62 = .ok (.bipush 6, 2) := by decide +kernel
theorem d_M_only_64 : decode prog_7_method_37_code 64 = .ok (.iadd, 1) := by decide +kernel
theorem d_M_only_65 : decode prog_7_method_37_code 65 = .ok (.iaload, 1) := by decide +kernel
theorem d_M_only_66 : decode prog_7_method_37_code 66 = .ok (.iload_n 3, 1) := by decide +kernel
theorem d_M_only_67 : decode prog_7_method_37_code 67 = .ok (.if_icmp .ne 19, 3) := by decide +kernel
theorem d_M_only_70 : decode prog_7_method_37_code 70 = .ok (.aload_n 0, 1) := by decide +kernel
theorem d_M_only_71 : decode prog_7_method_37_code 71 = .ok (.iload 6, 2) := by decide +kernel
theorem d_M_only_73 : decode prog_7_method_37_code 73 = .ok (.invokevirtual 191, 3) := by decide +kernel
theorem d_M_only_76 : decode prog_7_method_37_code 76 = .ok (.ifCond .eq 10, 3) := by decide +kernel
theorem d_M_only_79 : decode prog_7_method_37_code 79 = .ok (.iload 6, 2) := by decide +kernel
theorem d_M_only_81 : decode prog_7_method_37_code 81 = .ok (.istore 4, 2) := by decide +kernel
theorem d_M_only_83 : decode prog_7_method_37_code 83 = .ok (.iinc 5 1, 3) := by decide +kernel
theorem d_M_only_86 : decode prog_7_method_37_code 86 = .ok (.iinc 6 1, 3) := by decide +kernel
theorem d_M_only_89 : decode prog_7_method_37_code 89 = .ok (.goto (-80), 3) := by decide +kernel
theorem d_M_only_92 : decode prog_7_method_37_code 92 = .ok (.iload 5, 2) := by decide +kernel
theorem d_M_only_94 : decode prog_7_method_37_code 94 = .ok (.iconst 1, 1) := by decide +kernel
theorem d_M_only_95 : decode prog_7_method_37_code 95 = .ok (.if_icmp .ne 8, 3) := by decide +kernel
theorem d_M_only_98 : decode prog_7_method_37_code 98 = .ok (.iload 4, 2) := by decide +kernel
theorem d_M_only_100 : decode prog_7_method_37_code 100 = .ok (.goto 4, 3) := by decide +kernel
theorem d_M_only_104 : decode prog_7_method_37_code 104 = .ok (.ireturn, 1) := by decide +kernel
theorem d_M_only_103 : decode prog_7_method_37_code 103 = .ok (.iconst (-1), 1) := by decide +kernel
theorem d_M_openNumber_0 : decode prog_7_method_38_code 0 = .ok (.aload_n 0, 1) := by decide +kernel
theorem d_M_openNumber_1 : decode prog_7_method_38_code 1 = .ok (.iconst 3, 1) := by decide +kernel
theorem d_M_openNumber_2 : decode prog_7_method_38_code 2 = .ok (.iload_n 1, 1) := by decide +kernel
theorem d_M_openNumber_3 : decode prog_7_method_38_code 3 = .ok (.iconst 0, 1) := by decide +kernel
theorem d_M_openNumber_4 : decode prog_7_method_38_code 4 = .ok (.invokevirtual 194, 3) := by decide +kernel
theorem d_M_openNumber_7 : decode prog_7_method_38_code 7 = .ok (.istore_n 2, 1) := by decide +kernel
theorem d_M_openNumber_8 : decode prog_7_method_38_code 8 = .ok (.iload_n 2, 1) := by decide +kernel
theorem d_M_openNumber_9 : decode prog_7_method_38_code 9 = .ok (.iconst (-1), 1) := by decide +kernel
theorem d_M_openNumber_10 : decode prog_7_method_38_code 10 = .ok (.if_icmp .eq 34, 3) := by decide +kernel
theorem d_M_openNumber_44 : decode prog_7_method_38_code 44 = .ok (.return_, 1) := by decide +kernel
theorem d_M_reopen_0 : decode prog_7_method_39_code 0 = .ok (.aload_n 0, 1) := by decide +kernel
theorem d_M_reopen_1 : decode prog_7_method_39_code 1 = .ok (.iconst 0, 1) := by decide +kernel
theorem d_M_reopen_2 : decode prog_7_method_39_code 2 = .ok (.putfield 102, 3) := by decide +kernel
theorem d_M_reopen_5 : decode prog_7_method_39_code 5 = .ok (.aload_n 0, 1) := by decide +kernel
theorem d_M_reopen_6 : decode prog_7_method_39_code 6 = .ok (.iconst 0, 1) := by decide +kernel
theorem d_M_reopen_7 : decode prog_7_method_39_code 7 = .ok (.putfield 130, 3) := by decide +kernel
theorem d_M_reopen_10 : decode prog_7_method_39_code 10 = .ok (.aload_n 0, 1) := by decide +kernel
theorem d_M_reopen_11 : decode prog_7_method_39_code 11 = .ok (.iconst (-1), 1) := by decide +kernel
theorem d_M_reopen_12 : decode prog_7_method_39_code 12 = .ok (.putfield 13, 3) := by decide +kernel
theorem d_M_reopen_15 : decode prog_7_method_39_code 15 = .ok (.aload_n 0, 1) := by decide +kernel
theorem d_M_reopen_16 : decode prog_7_method_39_code 16 = .ok (.invokevirtual 146, 3) := by decide +kernel
theorem d_M_reopen_19 : decode prog_7_method_39_code 19 = .ok (.iconst 0, 1) := by decide +kernel
theorem d_M_reopen_20 : decode prog_7_method_39_code 20 = .ok (.istore_n 1, 1) := by decide +kernel
theorem d_M_reopen_21 : decode prog_7_method_39_code 21 = .ok (.iconst 0, 1) := by decide +kernel
theorem d_M_reopen_22 : decode prog_7_method_39_code 22 = .ok (.istore_n 2, 1) := by decide +kernel
theorem d_M_reopen_23 : decode prog_7_method_39_code 23 = .ok (.iload_n 2, 1) := by decide +kernel
theorem d_M_reopen_24 : decode prog_7_method_39_code 24 = .ok (.bipush 16, 2) := by decide +kernel
theorem d_M_reopen_26 : decode prog_7_method_39_code 26 = .ok (.if_icmp .ge 31, 3) := by decide +kernel
theorem d_M_reopen_29 : decode prog_7_method_39_code 29 = .ok (.aload_n 0, 1) := by decide +kernel
theorem d_M_reopen_30 : decode prog_7_method_39_code 30 = .ok (.iload_n 2, 1) := by decide +kernel
theorem d_M_reopen_31 : decode prog_7_method_39_code 31 = .ok (.invokevirtual 198, 3) := by decide +kernel
theorem d_M_reopen_34 : decode prog_7_method_39_code 34 = .ok (.iload_n 1, 1) := by decide +kernel
theorem d_M_reopen_35 : decode prog_7_method_39_code 35 = .ok (.aload_n 0, 1) := by decide +kernel
theorem d_M_reopen_36 : decode prog_7_method_39_code 36 = .ok (.getfield 33, 3) := by decide +kernel
theorem d_M_reopen_39 : decode prog_7_method_39_code 39 = .ok (.iload_n 2, 1) := by decide +kernel
theorem d_M_reopen_40 : decode prog_7_method_39_code 40 = .ok (.baload, 1) := by decide +kernel
theorem d_M_reopen_41 : decode prog_7_method_39_code 41 = .ok (.ifCond .eq 7, 3) := by decide +kernel
theorem d_M_reopen_44 : decode prog_7_method_39_code 44 = .ok (.iconst 1, 1) := by decide +kernel
theorem d_M_reopen_45 : decode prog_7_method_39_code 45 = .ok (.goto 4, 3) := by decide +kernel
theorem d_M_reopen_49 : decode prog_7_method_39_code 49 = .ok (.iadd, 1) := by decide +kernel
theorem d_M_reopen_50 : decode prog_7_method_39_code 50 = .ok (.istore_n 1, 1) := by decide +kernel
theorem d_M_reopen_51 : decode prog_7_method_39_code 51 = .ok (.iinc 2 1, 3) := by decide +kernel
theorem d_M_reopen_54 : decode prog_7_method_39_code 54 = .ok (.goto (-31), 3) := by decide +kernel
theorem d_M_reopen_48 : decode prog_7_method_39_code 48 = .ok (.iconst 0, 1) := by decide +kernel
theorem d_M_reopen_57 : decode prog_7_method_39_code 57 = .ok (.iload_n 1, 1) := by decide +kernel
theorem d_M_reopen_58 : decode prog_7_method_39_code 58 = .ok (.ireturn, 1) := by decide +kernel
theorem d_M_poke_0 : decode prog_7_method_40_code 0 = .ok (.aload_n 0, 1) := by decide +kernel
theorem d_M_poke_1 : decode prog_7_method_40_code 1 = .ok (.iload_n 1, 1) := by decide +kernel
theorem d_M_poke_2 : decode prog_7_method_40_code 2 = .ok (.ifCond .lt 21, 3) := by decide +kernel
theorem d_M_poke_5 : decode prog_7_method_40_code 5 = .ok (.iload_n 1, 1) := by decide +kernel
theorem d_M_poke_6 : decode prog_7_method_40_code 6 = .ok (.aload_n 0, 1) := by decide +kernel
theorem d_M_poke_7 : decode prog_7_method_40_code 7 = .ok (.getfield 91, 3) := by decide +kernel
theorem d_M_poke_10 : decode prog_7_method_40_code 10 = .ok (.if_icmp .ge 13, 3) := by decide +kernel
theorem d_M_poke_13 : decode prog_7_method_40_code 13 = .ok (.iload_n 2, 1) := by decide +kernel
theorem d_M_poke_14 : decode prog_7_method_40_code 14 = .ok (.ifCond .lt 9, 3) := by decide +kernel
theorem d_M_poke_17 : decode prog_7_method_40_code 17 = .ok (.iload_n 2, 1) := by decide +kernel
theorem d_M_poke_18 : decode prog_7_method_40_code 18 = .ok (.bipush 64, 2) := by decide +kernel
theorem d_M_poke_20 : decode prog_7_method_40_code 20 = .ok (.if_icmp .lt 7, 3) := by decide +kernel
theorem d_M_poke_23 : decode prog_7_method_40_code 23 = .ok (.iconst 1, 1) := by decide +kernel
theorem d_M_poke_24 : decode prog_7_method_40_code 24 = .ok (.goto 19, 3) := by decide +kernel
theorem d_M_poke_43 : decode prog_7_method_40_code 43 = .ok (.putfield 102, 3) := by decide +kernel
theorem d_M_poke_46 : decode prog_7_method_40_code 46 = .ok (.aload_n 0, 1) := by decide +kernel
theorem d_M_poke_47 : decode prog_7_method_40_code 47 = .ok (.getfield 102, 3) := by decide +kernel
theorem d_M_poke_50 : decode prog_7_method_40_code 50 = .ok (.ifCond .le 5, 3) := by decide +kernel
theorem d_M_poke_53 : decode prog_7_method_40_code 53 = .ok (.iconst 0, 1) := by decide +kernel
theorem d_M_poke_54 : decode prog_7_method_40_code 54 = .ok (.ireturn, 1) := by decide +kernel
theorem d_M_poke_55 : decode prog_7_method_40_code 55 = .ok (.aload_n 0, 1) := by decide +kernel
theorem d_M_poke_56 : decode prog_7_method_40_code 56 = .ok (.getfield 7, 3) := by decide +kernel
theorem d_M_poke_59 : decode prog_7_method_40_code 59 = .ok (.bipush 64, 2) := by decide +kernel
theorem d_M_poke_61 : decode prog_7_method_40_code 61 = .ok (.iload_n 1, 1) := by decide +kernel
theorem d_M_poke_62 : decode prog_7_method_40_code 62 = .ok (.imul, 1) := by decide +kernel
theorem d_M_poke_63 : decode prog_7_method_40_code 63 = .ok (.iload_n 2, 1) := by decide +kernel
theorem d_M_poke_64 : decode prog_7_method_40_code 64 = .ok (.iadd, 1) := by decide +kernel
theorem d_M_poke_65 : decode prog_7_method_40_code 65 = .ok (.dup2, 1) := by decide +kernel
theorem d_M_poke_66 : decode prog_7_method_40_code 66 = .ok (.iaload, 1) := by decide +kernel
theorem d_M_poke_67 : decode prog_7_method_40_code 67 = .ok (.iload_n 3, 1) := by decide +kernel
theorem d_M_poke_68 : decode prog_7_method_40_code 68 = .ok (.ixor, 1) := by decide +kernel
theorem d_M_poke_69 : decode prog_7_method_40_code 69 = .ok (.iastore, 1) := by decide +kernel
theorem d_M_poke_70 : decode prog_7_method_40_code 70 = .ok (.aload_n 0, 1) := by decide +kernel
theorem d_M_poke_71 : decode prog_7_method_40_code 71 = .ok (.getfield 7, 3) := by decide +kernel
theorem d_M_poke_74 : decode prog_7_method_40_code 74 = .ok (.bipush 64, 2) := by decide +kernel
theorem d_M_poke_76 : decode prog_7_method_40_code 76 = .ok (.iload_n 1, 1) := by decide +kernel
theorem d_M_poke_77 : decode prog_7_method_40_code 77 = .ok (.imul, 1) := by decide +kernel
theorem d_M_poke_78 : decode prog_7_method_40_code 78 = .ok (.iload_n 2, 1) := by decide +kernel
theorem d_M_poke_79 : decode prog_7_method_40_code 79 = .ok (.iadd, 1) := by decide +kernel
theorem d_M_poke_80 : decode prog_7_method_40_code 80 = .ok (.iaload, 1) := by decide +kernel
theorem d_M_poke_81 : decode prog_7_method_40_code 81 = .ok (.ireturn, 1) := by decide +kernel
theorem d_M_poke_27 : decode prog_7_method_40_code 27 = .ok (.iload_n 3, 1) := by decide +kernel
theorem d_M_poke_28 : decode prog_7_method_40_code 28 = .ok (.ifCond .lt 10, 3) := by decide +kernel
theorem d_M_poke_31 : decode prog_7_method_40_code 31 = .ok (.iload_n 3, 1) := by decide +kernel
theorem d_M_poke_32 : decode prog_7_method_40_code 32 = .ok (.sipush 255, 3) := by decide +kernel
theorem d_M_poke_35 : decode prog_7_method_40_code 35 = .ok (.if_icmp .le 7, 3) := by decide +kernel
theorem d_M_poke_38 : decode prog_7_method_40_code 38 = .ok (.iconst 2, 1) := by decide +kernel
theorem d_M_poke_39 : decode prog_7_method_40_code 39 = .ok (.goto 4, 3) := by decide +kernel
theorem d_M_poke_42 : decode prog_7_method_40_code 42 = .ok (.iconst 0, 1) := by decide +kernel
theorem d_M_badAt_0 : decode prog_7_method_41_code 0 = .ok (.aload_n 0, 1) := by decide +kernel
theorem d_M_badAt_1 : decode prog_7_method_41_code 1 = .ok (.iconst 0, 1) := by decide +kernel
theorem d_M_badAt_2 : decode prog_7_method_41_code 2 = .ok (.putfield 102, 3) := by decide +kernel
theorem d_M_badAt_5 : decode prog_7_method_41_code 5 = .ok (.iconst 0, 1) := by decide +kernel
theorem d_M_badAt_6 : decode prog_7_method_41_code 6 = .ok (.istore_n 1, 1) := by decide +kernel
theorem d_M_badAt_7 : decode prog_7_method_41_code 7 = .ok (.iload_n 1, 1) := by decide +kernel
theorem d_M_badAt_8 : decode prog_7_method_41_code 8 = .ok (.aload_n 0, 1) := by decide +kernel
theorem d_M_badAt_9 : decode prog_7_method_41_code 9 = .ok (.getfield 91, 3) := by decide +kernel
theorem d_M_badAt_12 : decode prog_7_method_41_code 12 = .ok (.if_icmp .ge 27, 3) := by decide +kernel
theorem d_M_badAt_15 : decode prog_7_method_41_code 15 = .ok (.aload_n 0, 1) := by decide +kernel
theorem d_M_badAt_16 : decode prog_7_method_41_code 16 = .ok (.iload_n 1, 1) := by decide +kernel
theorem d_M_badAt_17 : decode prog_7_method_41_code 17 = .ok (.invokevirtual 163, 3) := by decide +kernel
theorem d_M_badAt_20 : decode prog_7_method_41_code 20 = .ok (.ifCond .ne 13, 3) := by decide +kernel
theorem d_M_badAt_23 : decode prog_7_method_41_code 23 = .ok (.aload_n 0, 1) := by decide +kernel
theorem d_M_badAt_24 : decode prog_7_method_41_code 24 = .ok (.iload_n 1, 1) := by decide +kernel
theorem d_M_badAt_25 : decode prog_7_method_41_code 25 = .ok (.invokevirtual 191, 3) := by decide +kernel
theorem d_M_badAt_28 : decode prog_7_method_41_code 28 = .ok (.ifCond .ne 5, 3) := by decide +kernel
theorem d_M_badAt_31 : decode prog_7_method_41_code 31 = .ok (.iload_n 1, 1) := by decide +kernel
theorem d_M_badAt_32 : decode prog_7_method_41_code 32 = .ok (.ireturn, 1) := by decide +kernel
theorem d_M_badAt_33 : decode prog_7_method_41_code 33 = .ok (.iinc 1 1, 3) := by decide +kernel
theorem d_M_badAt_36 : decode prog_7_method_41_code 36 = .ok (.goto (-29), 3) := by decide +kernel
theorem d_M_badAt_39 : decode prog_7_method_41_code 39 = .ok (.iconst (-1), 1) := by decide +kernel
theorem d_M_badAt_40 : decode prog_7_method_41_code 40 = .ok (.ireturn, 1) := by decide +kernel
theorem d_M_byteAt_0 : decode prog_7_method_42_code 0 = .ok (.aload_n 0, 1) := by decide +kernel
theorem d_M_byteAt_1 : decode prog_7_method_42_code 1 = .ok (.iload_n 1, 1) := by decide +kernel
theorem d_M_byteAt_2 : decode prog_7_method_42_code 2 = .ok (.ifCond .lt 21, 3) := by decide +kernel
theorem d_M_byteAt_5 : decode prog_7_method_42_code 5 = .ok (.iload_n 1, 1) := by decide +kernel
theorem d_M_byteAt_6 : decode prog_7_method_42_code 6 = .ok (.aload_n 0, 1) := by decide +kernel
theorem d_M_byteAt_7 : decode prog_7_method_42_code 7 = .ok (.getfield 91, 3) := by decide +kernel
theorem d_M_byteAt_10 : decode prog_7_method_42_code 10 = .ok (.if_icmp .ge 13, 3) := by decide +kernel
theorem d_M_byteAt_13 : decode prog_7_method_42_code 13 = .ok (.iload_n 2, 1) := by decide +kernel
theorem d_M_byteAt_14 : decode prog_7_method_42_code 14 = .ok (.ifCond .lt 9, 3) := by decide +kernel
theorem d_M_byteAt_17 : decode prog_7_method_42_code 17 = .ok (.iload_n 2, 1) := by decide +kernel
theorem d_M_byteAt_18 : decode prog_7_method_42_code 18 = .ok (.bipush 64, 2) := by decide +kernel
theorem d_M_byteAt_20 : decode prog_7_method_42_code 20 = .ok (.if_icmp .lt 7, 3) := by decide +kernel
theorem d_M_byteAt_23 : decode prog_7_method_42_code 23 = .ok (.iconst 1, 1) := by decide +kernel
theorem d_M_byteAt_24 : decode prog_7_method_42_code 24 = .ok (.goto 4, 3) := by decide +kernel
theorem d_M_byteAt_28 : decode prog_7_method_42_code 28 = .ok (.putfield 102, 3) := by decide +kernel
theorem d_M_byteAt_31 : decode prog_7_method_42_code 31 = .ok (.aload_n 0, 1) := by decide +kernel
theorem d_M_byteAt_32 : decode prog_7_method_42_code 32 = .ok (.getfield 102, 3) := by decide +kernel
theorem d_M_byteAt_35 : decode prog_7_method_42_code 35 = .ok (.ifCond .le 7, 3) := by decide +kernel
theorem d_M_byteAt_38 : decode prog_7_method_42_code 38 = .ok (.iconst 0, 1) := by decide +kernel
theorem d_M_byteAt_39 : decode prog_7_method_42_code 39 = .ok (.goto 14, 3) := by decide +kernel
theorem d_M_byteAt_53 : decode prog_7_method_42_code 53 = .ok (.ireturn, 1) := by decide +kernel
theorem d_M_byteAt_42 : decode prog_7_method_42_code 42 = .ok (.aload_n 0, 1) := by decide +kernel
theorem d_M_byteAt_43 : decode prog_7_method_42_code 43 = .ok (.getfield 7, 3) := by decide +kernel
theorem d_M_byteAt_46 : decode prog_7_method_42_code 46 = .ok (.bipush 64, 2) := by decide +kernel
theorem d_M_byteAt_48 : decode prog_7_method_42_code 48 = .ok (.iload_n 1, 1) := by decide +kernel
theorem d_M_byteAt_49 : decode prog_7_method_42_code 49 = .ok (.imul, 1) := by decide +kernel
theorem d_M_byteAt_50 : decode prog_7_method_42_code 50 = .ok (.iload_n 2, 1) := by decide +kernel
theorem d_M_byteAt_51 : decode prog_7_method_42_code 51 = .ok (.iadd, 1) := by decide +kernel
theorem d_M_byteAt_52 : decode prog_7_method_42_code 52 = .ok (.iaload, 1) := by decide +kernel
theorem d_M_byteAt_27 : decode prog_7_method_42_code 27 = .ok (.iconst 0, 1) := by decide +kernel
theorem d_M_told_0 : decode prog_7_method_43_code 0 = .ok (.aload_n 0, 1) := by decide +kernel
theorem d_M_told_1 : decode prog_7_method_43_code 1 = .ok (.iconst 0, 1) := by decide +kernel
theorem d_M_told_2 : decode prog_7_method_43_code 2 = .ok (.putfield 102, 3) := by decide +kernel
theorem d_M_told_5 : decode prog_7_method_43_code 5 = .ok (.iconst 0, 1) := by decide +kernel
theorem d_M_told_6 : decode prog_7_method_43_code 6 = .ok (.istore_n 2, 1) := by decide +kernel
theorem d_M_told_7 : decode prog_7_method_43_code 7 = .ok (.iload_n 1, 1) := by decide +kernel
theorem d_M_told_8 : decode prog_7_method_43_code 8 = .ok (.tableswitch 154 0 6 #[44, 49, 65, 98, 131, 136, 149], 44) := by decide +kernel
theorem d_M_told_162 : decode prog_7_method_43_code 162 = .ok (.iconst (-1), 1) := by decide +kernel
theorem d_M_told_163 : decode prog_7_method_43_code 163 = .ok (.ireturn, 1) := by decide +kernel
theorem d_M_told_157 : decode prog_7_method_43_code 157 = .ok (.aload_n 0, 1) := by decide +kernel
theorem d_M_told_158 : decode prog_7_method_43_code 158 = .ok (.getfield 13, 3) := by decide +kernel
theorem d_M_told_161 : decode prog_7_method_43_code 161 = .ok (.ireturn, 1) := by decide +kernel
theorem d_M_told_144 : decode prog_7_method_43_code 144 = .ok (.aload_n 0, 1) := by decide +kernel
theorem d_M_told_145 : decode prog_7_method_43_code 145 = .ok (.getfield 130, 3) := by decide +kernel
theorem d_M_told_148 : decode prog_7_method_43_code 148 = .ok (.ifCond .eq 7, 3) := by decide +kernel
theorem d_M_told_151 : decode prog_7_method_43_code 151 = .ok (.iconst 1, 1) := by decide +kernel
theorem d_M_told_152 : decode prog_7_method_43_code 152 = .ok (.goto 4, 3) := by decide +kernel
theorem d_M_told_156 : decode prog_7_method_43_code 156 = .ok (.ireturn, 1) := by decide +kernel
theorem d_M_told_155 : decode prog_7_method_43_code 155 = .ok (.iconst 0, 1) := by decide +kernel
theorem d_M_told_139 : decode prog_7_method_43_code 139 = .ok (.aload_n 0, 1) := by decide +kernel
theorem d_M_told_140 : decode prog_7_method_43_code 140 = .ok (.getfield 143, 3) := by decide +kernel
theorem d_M_told_143 : decode prog_7_method_43_code 143 = .ok (.ireturn, 1) := by decide +kernel
theorem d_M_told_106 : decode prog_7_method_43_code 106 = .ok (.iconst 0, 1) := by decide +kernel
theorem d_M_told_107 : decode prog_7_method_43_code 107 = .ok (.istore_n 3, 1) := by decide +kernel
theorem d_M_told_108 : decode prog_7_method_43_code 108 = .ok (.iload_n 3, 1) := by decide +kernel
theorem d_M_told_109 : decode prog_7_method_43_code 109 = .ok (.bipush 8, 2) := by decide +kernel
theorem d_M_told_111 : decode prog_7_method_43_code 111 = .ok (.if_icmp .ge 26, 3) := by decide +kernel
theorem d_M_told_114 : decode prog_7_method_43_code 114 = .ok (.iload_n 2, 1) := by decide +kernel
theorem d_M_told_115 : decode prog_7_method_43_code 115 = .ok (.aload_n 0, 1) := by decide +kernel
theorem d_M_told_116 : decode prog_7_method_43_code 116 = .ok (.getfield 17, 3) := by decide +kernel
theorem d_M_told_119 : decode prog_7_method_43_code 119 = .ok (.iload_n 3, 1) := by decide +kernel
theorem d_M_told_120 : decode prog_7_method_43_code 120 = .ok (.baload, 1) := by decide +kernel
theorem d_M_told_121 : decode prog_7_method_43_code 121 = .ok (.ifCond .eq 7, 3) := by decide +kernel
theorem d_M_told_124 : decode prog_7_method_43_code 124 = .ok (.iconst 1, 1) := by decide +kernel
theorem d_M_told_125 : decode prog_7_method_43_code 125 = .ok (.goto 4, 3) := by decide +kernel
theorem d_M_told_129 : decode prog_7_method_43_code 129 = .ok (.iadd, 1) := by decide +kernel
theorem d_M_told_130 : decode prog_7_method_43_code 130 = .ok (.istore_n 2, 1) := by decide +kernel
theorem d_M_told_131 : decode prog_7_method_43_code 131 = .ok (.iinc 3 1, 3) := by decide +kernel
theorem d_M_told_134 : decode prog_7_method_43_code 134 = .ok (.goto (-26), 3) := by decide +kernel
theorem d_M_told_128 : decode prog_7_method_43_code 128 = .ok (.iconst 0, 1) := by decide +kernel
theorem d_M_told_137 : decode prog_7_method_43_code 137 = .ok (.iload_n 2, 1) := by decide +kernel
theorem d_M_told_138 : decode prog_7_method_43_code 138 = .ok (.ireturn, 1) := by decide +kernel
theorem d_M_told_73 : decode prog_7_method_43_code 73 = .ok (.iconst 0, 1) := by decide +kernel
theorem d_M_told_74 : decode prog_7_method_43_code 74 = .ok (.istore_n 3, 1) := by decide +kernel
theorem d_M_told_75 : decode prog_7_method_43_code 75 = .ok (.iload_n 3, 1) := by decide +kernel
theorem d_M_told_76 : decode prog_7_method_43_code 76 = .ok (.bipush 16, 2) := by decide +kernel
theorem d_M_told_78 : decode prog_7_method_43_code 78 = .ok (.if_icmp .ge 26, 3) := by decide +kernel
theorem d_M_told_81 : decode prog_7_method_43_code 81 = .ok (.iload_n 2, 1) := by decide +kernel
theorem d_M_told_82 : decode prog_7_method_43_code 82 = .ok (.aload_n 0, 1) := by decide +kernel
theorem d_M_told_83 : decode prog_7_method_43_code 83 = .ok (.getfield 33, 3) := by decide +kernel
theorem d_M_told_86 : decode prog_7_method_43_code 86 = .ok (.iload_n 3, 1) := by decide +kernel
theorem d_M_told_87 : decode prog_7_method_43_code 87 = .ok (.baload, 1) := by decide +kernel
theorem d_M_told_88 : decode prog_7_method_43_code 88 = .ok (.ifCond .eq 7, 3) := by decide +kernel
theorem d_M_told_91 : decode prog_7_method_43_code 91 = .ok (.iconst 1, 1) := by decide +kernel
theorem d_M_told_92 : decode prog_7_method_43_code 92 = .ok (.goto 4, 3) := by decide +kernel
theorem d_M_told_96 : decode prog_7_method_43_code 96 = .ok (.iadd, 1) := by decide +kernel
theorem d_M_told_97 : decode prog_7_method_43_code 97 = .ok (.istore_n 2, 1) := by decide +kernel
theorem d_M_told_98 : decode prog_7_method_43_code 98 = .ok (.iinc 3 1, 3) := by decide +kernel
theorem d_M_told_101 : decode prog_7_method_43_code 101 = .ok (.goto (-26), 3) := by decide +kernel
theorem d_M_told_95 : decode prog_7_method_43_code 95 = .ok (.iconst 0, 1) := by decide +kernel
theorem d_M_told_104 : decode prog_7_method_43_code 104 = .ok (.iload_n 2, 1) := by decide +kernel
theorem d_M_told_105 : decode prog_7_method_43_code 105 = .ok (.ireturn, 1) := by decide +kernel
theorem d_M_told_57 : decode prog_7_method_43_code 57 = .ok (.aload_n 0, 1) := by decide +kernel
theorem d_M_told_58 : decode prog_7_method_43_code 58 = .ok (.getfield 130, 3) := by decide +kernel
theorem d_M_told_61 : decode prog_7_method_43_code 61 = .ok (.ifCond .eq 7, 3) := by decide +kernel
theorem d_M_told_64 : decode prog_7_method_43_code 64 = .ok (.iconst 0, 1) := by decide +kernel
theorem d_M_told_65 : decode prog_7_method_43_code 65 = .ok (.goto 7, 3) := by decide +kernel
theorem d_M_told_72 : decode prog_7_method_43_code 72 = .ok (.ireturn, 1) := by decide +kernel
theorem d_M_told_68 : decode prog_7_method_43_code 68 = .ok (.aload_n 0, 1) := by decide +kernel
theorem d_M_told_69 : decode prog_7_method_43_code 69 = .ok (.invokevirtual 159, 3) := by decide +kernel
theorem d_M_told_52 : decode prog_7_method_43_code 52 = .ok (.aload_n 0, 1) := by decide +kernel
theorem d_M_told_53 : decode prog_7_method_43_code 53 = .ok (.getfield 91, 3) := by decide +kernel
theorem d_M_told_56 : decode prog_7_method_43_code 56 = .ok (.ireturn, 1) := by decide +kernel
def f_M_print (xn : Nat) (p1 : Int32) (z0 : x_St) : Option (Int64 × x_St) :=
  (if (z0.1 0 3) = 0 then
  (x_cl (f_M_isThere xn p1 z0) (fun r2 z2 =>
  (if r2 = 0 then
  (if ((x_put z2 0 0 (2 : Int32)).1 0 0) ≤ 0 then
  (x_ck p1 16
  (some (((x_put z2 0 0 (2 : Int32)).2 14 (p1).toNatClampNeg), (x_put z2 0 0 (2 : Int32)))))
  else
  (some ((0 : Int64), (x_put z2 0 0 (2 : Int32)))))
  else
  (if ((x_put z2 0 0 (0 : Int32)).1 0 0) ≤ 0 then
  (x_ck p1 16
  (some (((x_put z2 0 0 (0 : Int32)).2 14 (p1).toNatClampNeg), (x_put z2 0 0 (0 : Int32)))))
  else
  (some ((0 : Int64), (x_put z2 0 0 (0 : Int32))))))))
  else
  (if ((x_put z0 0 0 (1 : Int32)).1 0 0) ≤ 0 then
  (x_ck p1 16
  (some (((x_put z0 0 0 (1 : Int32)).2 14 (p1).toNatClampNeg), (x_put z0 0 0 (1 : Int32)))))
  else
  (some ((0 : Int64), (x_put z0 0 0 (1 : Int32))))))
def f_M_sample (xn : Nat) (p1 : Int32) (p2 : Int32) (p3 : Int32) (z0 : x_St) : Option (Int32 × x_St) :=
  (if (z0.1 0 3) = 0 then
  (x_cl (f_M_isThere xn p1 z0) (fun r2 z2 =>
  (if r2 = 0 then
  (if ((x_put z2 0 0 (2 : Int32)).1 0 0) ≤ 0 then
  (x_ck p1 (m_ln xn 8)
  (x_ck ((((64 : Int32) * p1) + (p3 * ((x_put z2 0 0 (2 : Int32)).1 8 (p1).toNatClampNeg))) + p2) (m_ln xn 10)
  (some (((x_put z2 0 0 (2 : Int32)).1 10 (((((64 : Int32) * p1) + (p3 * ((x_put z2 0 0 (2 : Int32)).1 8 (p1).toNatClampNeg))) + p2)).toNatClampNeg), (x_put z2 0 0 (2 : Int32))))))
  else
  (some ((0 : Int32), (x_put z2 0 0 (2 : Int32)))))
  else
  (if p2 < 0 then
  (if ((x_put z2 0 0 (2 : Int32)).1 0 0) ≤ 0 then
  (x_ck p1 (m_ln xn 8)
  (x_ck ((((64 : Int32) * p1) + (p3 * ((x_put z2 0 0 (2 : Int32)).1 8 (p1).toNatClampNeg))) + p2) (m_ln xn 10)
  (some (((x_put z2 0 0 (2 : Int32)).1 10 (((((64 : Int32) * p1) + (p3 * ((x_put z2 0 0 (2 : Int32)).1 8 (p1).toNatClampNeg))) + p2)).toNatClampNeg), (x_put z2 0 0 (2 : Int32))))))
  else
  (some ((0 : Int32), (x_put z2 0 0 (2 : Int32)))))
  else
  (x_ck p1 (m_ln xn 8)
  (if (z2.1 8 (p1).toNatClampNeg) ≤ p2 then
  (if ((x_put z2 0 0 (2 : Int32)).1 0 0) ≤ 0 then
  (x_ck p1 (m_ln xn 8)
  (x_ck ((((64 : Int32) * p1) + (p3 * ((x_put z2 0 0 (2 : Int32)).1 8 (p1).toNatClampNeg))) + p2) (m_ln xn 10)
  (some (((x_put z2 0 0 (2 : Int32)).1 10 (((((64 : Int32) * p1) + (p3 * ((x_put z2 0 0 (2 : Int32)).1 8 (p1).toNatClampNeg))) + p2)).toNatClampNeg), (x_put z2 0 0 (2 : Int32))))))
  else
  (some ((0 : Int32), (x_put z2 0 0 (2 : Int32)))))
  else
  (if p3 < 0 then
  (if ((x_put z2 0 0 (2 : Int32)).1 0 0) ≤ 0 then
  (x_ck p1 (m_ln xn 8)
  (x_ck ((((64 : Int32) * p1) + (p3 * ((x_put z2 0 0 (2 : Int32)).1 8 (p1).toNatClampNeg))) + p2) (m_ln xn 10)
  (some (((x_put z2 0 0 (2 : Int32)).1 10 (((((64 : Int32) * p1) + (p3 * ((x_put z2 0 0 (2 : Int32)).1 8 (p1).toNatClampNeg))) + p2)).toNatClampNeg), (x_put z2 0 0 (2 : Int32))))))
  else
  (some ((0 : Int32), (x_put z2 0 0 (2 : Int32)))))
  else
  (x_ck p1 (m_ln xn 9)
  (if p3 < (z2.1 9 (p1).toNatClampNeg) then
  (if ((x_put z2 0 0 (0 : Int32)).1 0 0) ≤ 0 then
  (x_ck p1 (m_ln xn 8)
  (x_ck ((((64 : Int32) * p1) + (p3 * ((x_put z2 0 0 (0 : Int32)).1 8 (p1).toNatClampNeg))) + p2) (m_ln xn 10)
  (some (((x_put z2 0 0 (0 : Int32)).1 10 (((((64 : Int32) * p1) + (p3 * ((x_put z2 0 0 (0 : Int32)).1 8 (p1).toNatClampNeg))) + p2)).toNatClampNeg), (x_put z2 0 0 (0 : Int32))))))
  else
  (some ((0 : Int32), (x_put z2 0 0 (0 : Int32)))))
  else
  (if ((x_put z2 0 0 (2 : Int32)).1 0 0) ≤ 0 then
  (x_ck p1 (m_ln xn 8)
  (x_ck ((((64 : Int32) * p1) + (p3 * ((x_put z2 0 0 (2 : Int32)).1 8 (p1).toNatClampNeg))) + p2) (m_ln xn 10)
  (some (((x_put z2 0 0 (2 : Int32)).1 10 (((((64 : Int32) * p1) + (p3 * ((x_put z2 0 0 (2 : Int32)).1 8 (p1).toNatClampNeg))) + p2)).toNatClampNeg), (x_put z2 0 0 (2 : Int32))))))
  else
  (some ((0 : Int32), (x_put z2 0 0 (2 : Int32))))))))))))))
  else
  (if ((x_put z0 0 0 (1 : Int32)).1 0 0) ≤ 0 then
  (x_ck p1 (m_ln xn 8)
  (x_ck ((((64 : Int32) * p1) + (p3 * ((x_put z0 0 0 (1 : Int32)).1 8 (p1).toNatClampNeg))) + p2) (m_ln xn 10)
  (some (((x_put z0 0 0 (1 : Int32)).1 10 (((((64 : Int32) * p1) + (p3 * ((x_put z0 0 0 (1 : Int32)).1 8 (p1).toNatClampNeg))) + p2)).toNatClampNeg), (x_put z0 0 0 (1 : Int32))))))
  else
  (some ((0 : Int32), (x_put z0 0 0 (1 : Int32))))))
def f_M_near (xn : Nat) (p1 : Int32) (p2 : Int32) (z0 : x_St) : Option (Int32 × x_St) :=
  (if (z0.1 0 3) = 0 then
  (x_cl (f_M_isMade xn p1 z0) (fun r2 z2 =>
  (if r2 = 0 then
  (if ((x_put z2 0 0 (2 : Int32)).1 0 0) ≤ 0 then
  none
  else
  (some ((0 : Int32), (x_put z2 0 0 (2 : Int32)))))
  else
  (x_cl (f_M_isWhole xn p1 z2) (fun r5 z5 =>
  (if r5 = 0 then
  (if ((x_put z5 0 0 (3 : Int32)).1 0 0) ≤ 0 then
  none
  else
  (some ((0 : Int32), (x_put z5 0 0 (3 : Int32)))))
  else
  (if p2 < 0 then
  (if ((x_put z5 0 0 (3 : Int32)).1 0 0) ≤ 0 then
  none
  else
  (some ((0 : Int32), (x_put z5 0 0 (3 : Int32)))))
  else
  (if p2 ≤ (64 : Int32) then
  (if ((x_put z5 0 0 (0 : Int32)).1 0 0) ≤ 0 then
  none
  else
  (some ((0 : Int32), (x_put z5 0 0 (0 : Int32)))))
  else
  (if ((x_put z5 0 0 (3 : Int32)).1 0 0) ≤ 0 then
  none
  else
  (some ((0 : Int32), (x_put z5 0 0 (3 : Int32)))))))))))))
  else
  (if ((x_put z0 0 0 (1 : Int32)).1 0 0) ≤ 0 then
  none
  else
  (some ((0 : Int32), (x_put z0 0 0 (1 : Int32))))))
def f_M_found (xn : Nat) (p1 : Int32) (p2 : Int32) (z0 : x_St) : Option (Int32 × x_St) :=
  (if (z0.1 0 3) = 0 then
  (if p1 < 0 then
  (if ((x_put z0 0 0 (2 : Int32)).1 0 0) ≤ 0 then
  (if p2 = 0 then
  (x_ck p1 (m_ln xn 16)
  (some (((x_put z0 0 0 (2 : Int32)).1 16 (p1).toNatClampNeg), (x_put z0 0 0 (2 : Int32)))))
  else
  (x_ck p1 (m_ln xn 17)
  (some (((x_put z0 0 0 (2 : Int32)).1 17 (p1).toNatClampNeg), (x_put z0 0 0 (2 : Int32))))))
  else
  (some ((0 : Int32), (x_put z0 0 0 (2 : Int32)))))
  else
  (if p1 < (z0.1 0 19) then
  (if p2 < 0 then
  (if ((x_put z0 0 0 (3 : Int32)).1 0 0) ≤ 0 then
  (if p2 = 0 then
  (x_ck p1 (m_ln xn 16)
  (some (((x_put z0 0 0 (3 : Int32)).1 16 (p1).toNatClampNeg), (x_put z0 0 0 (3 : Int32)))))
  else
  (x_ck p1 (m_ln xn 17)
  (some (((x_put z0 0 0 (3 : Int32)).1 17 (p1).toNatClampNeg), (x_put z0 0 0 (3 : Int32))))))
  else
  (some ((0 : Int32), (x_put z0 0 0 (3 : Int32)))))
  else
  (if p2 ≤ (1 : Int32) then
  (if ((x_put z0 0 0 (0 : Int32)).1 0 0) ≤ 0 then
  (if p2 = 0 then
  (x_ck p1 (m_ln xn 16)
  (some (((x_put z0 0 0 (0 : Int32)).1 16 (p1).toNatClampNeg), (x_put z0 0 0 (0 : Int32)))))
  else
  (x_ck p1 (m_ln xn 17)
  (some (((x_put z0 0 0 (0 : Int32)).1 17 (p1).toNatClampNeg), (x_put z0 0 0 (0 : Int32))))))
  else
  (some ((0 : Int32), (x_put z0 0 0 (0 : Int32)))))
  else
  (if ((x_put z0 0 0 (3 : Int32)).1 0 0) ≤ 0 then
  (if p2 = 0 then
  (x_ck p1 (m_ln xn 16)
  (some (((x_put z0 0 0 (3 : Int32)).1 16 (p1).toNatClampNeg), (x_put z0 0 0 (3 : Int32)))))
  else
  (x_ck p1 (m_ln xn 17)
  (some (((x_put z0 0 0 (3 : Int32)).1 17 (p1).toNatClampNeg), (x_put z0 0 0 (3 : Int32))))))
  else
  (some ((0 : Int32), (x_put z0 0 0 (3 : Int32)))))))
  else
  (if ((x_put z0 0 0 (2 : Int32)).1 0 0) ≤ 0 then
  (if p2 = 0 then
  (x_ck p1 (m_ln xn 16)
  (some (((x_put z0 0 0 (2 : Int32)).1 16 (p1).toNatClampNeg), (x_put z0 0 0 (2 : Int32)))))
  else
  (x_ck p1 (m_ln xn 17)
  (some (((x_put z0 0 0 (2 : Int32)).1 17 (p1).toNatClampNeg), (x_put z0 0 0 (2 : Int32))))))
  else
  (some ((0 : Int32), (x_put z0 0 0 (2 : Int32)))))))
  else
  (if ((x_put z0 0 0 (1 : Int32)).1 0 0) ≤ 0 then
  (if p2 = 0 then
  (x_ck p1 (m_ln xn 16)
  (some (((x_put z0 0 0 (1 : Int32)).1 16 (p1).toNatClampNeg), (x_put z0 0 0 (1 : Int32)))))
  else
  (x_ck p1 (m_ln xn 17)
  (some (((x_put z0 0 0 (1 : Int32)).1 17 (p1).toNatClampNeg), (x_put z0 0 0 (1 : Int32))))))
  else
  (some ((0 : Int32), (x_put z0 0 0 (1 : Int32))))))
def f_M_drop (xn : Nat) (p1 : Int32) (z0 : x_St) : Option (Int32 × x_St) :=
  (if (z0.1 0 3) = 0 then
  (x_cl (f_M_isThere xn p1 z0) (fun r2 z2 =>
  (if r2 = 0 then
  (if ((x_put z2 0 0 (2 : Int32)).1 0 0) ≤ 0 then
  none
  else
  (some ((0 : Int32), (x_put z2 0 0 (2 : Int32)))))
  else
  (if ((x_put z2 0 0 (0 : Int32)).1 0 0) ≤ 0 then
  none
  else
  (some ((0 : Int32), (x_put z2 0 0 (0 : Int32))))))))
  else
  (if ((x_put z0 0 0 (1 : Int32)).1 0 0) ≤ 0 then
  none
  else
  (some ((0 : Int32), (x_put z0 0 0 (1 : Int32))))))
def f_M_sweep_76 (xn : Nat) (a1 : Int32) (z0 : x_St) : Option (Int32 × x_St) :=
  (x_cl (f_M_isGone xn z0) (fun r1 z1 =>
  (if r1 = 0 then
  (some (a1, z1))
  else
  (some ((-2 : Int32), z1)))))
def f_M_sweep_29 (xn : Nat) : Nat → Int32 → Int32 → x_St → Option (Int32 × x_St)
  | 0, _, _, _ => none
  | fu + 1, a1, a2, z0 =>
    (if (z0.1 0 1) ≤ a2 then
    (f_M_sweep_76 xn a1 z0)
    else
    (if (z0.1 0 3) = 0 then
    (x_ck a2 (m_ln xn 15)
    (if (z0.1 15 (a2).toNatClampNeg) = (-1 : Int32) then
    (x_cl (f_M_isNothing xn a2 z0) (fun r8 z8 =>
    (if r8 = 0 then
    (x_cl (f_M_wipe xn a2 z8) (fun r11 z11 =>
    (f_M_sweep_29 xn fu (a1 + (1 : Int32)) (a2 + (1 : Int32)) z11)))
    else
    (f_M_sweep_29 xn fu a1 (a2 + (1 : Int32)) z8))))
    else
    (f_M_sweep_29 xn fu a1 (a2 + (1 : Int32)) z0)))
    else
    (f_M_sweep_29 xn fu a1 (a2 + (1 : Int32)) z0)))
def f_M_sweep (xn : Nat)  (z0 : x_St) : Option (Int32 × x_St) :=
  (if (z0.1 0 3) = 0 then
  (if ((x_put z0 0 0 (0 : Int32)).1 0 0) ≤ 0 then
  (f_M_sweep_29 xn x_FU (0 : Int32) (0 : Int32) (x_put z0 0 0 (0 : Int32)))
  else
  (some ((0 : Int32), (x_put z0 0 0 (0 : Int32)))))
  else
  (if ((x_put z0 0 0 (1 : Int32)).1 0 0) ≤ 0 then
  (f_M_sweep_29 xn x_FU (0 : Int32) (0 : Int32) (x_put z0 0 0 (1 : Int32)))
  else
  (some ((0 : Int32), (x_put z0 0 0 (1 : Int32))))))
def f_M_fuse (xn : Nat) (p1 : Int32) (z0 : x_St) : Option (Int32 × x_St) :=
  (if (z0.1 0 3) = 0 then
  (if (-1 : Int32) ≤ p1 then
  (if ((x_put z0 0 0 (0 : Int32)).1 0 0) ≤ 0 then
  (some (((x_put z0 0 0 (0 : Int32)).1 0 4), (x_put (x_put z0 0 0 (0 : Int32)) 0 4 p1)))
  else
  (some ((0 : Int32), (x_put z0 0 0 (0 : Int32)))))
  else
  (if ((x_put z0 0 0 (2 : Int32)).1 0 0) ≤ 0 then
  (some (((x_put z0 0 0 (2 : Int32)).1 0 4), (x_put (x_put z0 0 0 (2 : Int32)) 0 4 p1)))
  else
  (some ((0 : Int32), (x_put z0 0 0 (2 : Int32))))))
  else
  (if ((x_put z0 0 0 (1 : Int32)).1 0 0) ≤ 0 then
  (some (((x_put z0 0 0 (1 : Int32)).1 0 4), (x_put (x_put z0 0 0 (1 : Int32)) 0 4 p1)))
  else
  (some ((0 : Int32), (x_put z0 0 0 (1 : Int32))))))
def f_M_isGood (xn : Nat) (p1 : Int32) (z0 : x_St) : Option (Int32 × x_St) :=
  (x_ck ((64 : Int32) * p1) (m_ln xn 1)
  (x_ck (((64 : Int32) * p1) + (1 : Int32)) (m_ln xn 1)
  (x_ck (((64 : Int32) * p1) + (2 : Int32)) (m_ln xn 1)
  (x_ck (((64 : Int32) * p1) + (3 : Int32)) (m_ln xn 1)
  (x_ck (((64 : Int32) * p1) + (4 : Int32)) (m_ln xn 1)
  (if (z0.1 1 ((((64 : Int32) * p1) + (4 : Int32))).toNatClampNeg) < (1 : Int32) then
  (some ((0 : Int32), z0))
  else
  (x_ck (((64 : Int32) * p1) + (4 : Int32)) (m_ln xn 1)
  (if (3 : Int32) < (z0.1 1 ((((64 : Int32) * p1) + (4 : Int32))).toNatClampNeg) then
  (some ((0 : Int32), z0))
  else
  (x_ck (((64 : Int32) * p1) + (5 : Int32)) (m_ln xn 1)
  (if (16 : Int32) ≤ (z0.1 1 ((((64 : Int32) * p1) + (5 : Int32))).toNatClampNeg) then
  (some ((0 : Int32), z0))
  else
  (x_ck (((64 : Int32) * p1) + (7 : Int32)) (m_ln xn 1)
  (if (56 : Int32) < (z0.1 1 ((((64 : Int32) * p1) + (7 : Int32))).toNatClampNeg) then
  (some ((0 : Int32), z0))
  else
  (x_cl (f_M_sumOf xn p1 z0) (fun r13 z13 =>
  (if ((((z0.1 1 (((64 : Int32) * p1)).toNatClampNeg) ||| ((z0.1 1 ((((64 : Int32) * p1) + (1 : Int32))).toNatClampNeg) <<< ((8 : Int32) &&& 31))) ||| ((z0.1 1 ((((64 : Int32) * p1) + (2 : Int32))).toNatClampNeg) <<< ((16 : Int32) &&& 31))) ||| ((z0.1 1 ((((64 : Int32) * p1) + (3 : Int32))).toNatClampNeg) <<< ((24 : Int32) &&& 31))) = r13 then
  (some ((1 : Int32), z13))
  else
  (some ((0 : Int32), z13)))))))))))))))))
def f_M_only_92 (xn : Nat) (a4 : Int32) (a5 : Int32) (z0 : x_St) : Option (Int32 × x_St) :=
  (if a5 = (1 : Int32) then
  (some (a4, z0))
  else
  (some ((-1 : Int32), z0)))
def f_M_only_9 (xn : Nat) : Nat → Int32 → Int32 → Int32 → Int32 → Int32 → Int32 → x_St → Option (Int32 × x_St)
  | 0, _, _, _, _, _, _, _ => none
  | fu + 1, a1, a2, a3, a4, a5, a6, z0 =>
    (if (z0.1 0 1) ≤ a6 then
    (f_M_only_92 xn a4 a5 z0)
    else
    (x_ck (((64 : Int32) * a6) + (4 : Int32)) (m_ln xn 1)
    (if (z0.1 1 ((((64 : Int32) * a6) + (4 : Int32))).toNatClampNeg) = a1 then
    (x_ck (((64 : Int32) * a6) + (5 : Int32)) (m_ln xn 1)
    (if (z0.1 1 ((((64 : Int32) * a6) + (5 : Int32))).toNatClampNeg) = a2 then
    (if a1 = (3 : Int32) then
    (x_cl (f_M_isGood xn a6 z0) (fun r8 z8 =>
    (if r8 = 0 then
    (f_M_only_9 xn fu a1 a2 a3 a4 a5 (a6 + (1 : Int32)) z8)
    else
    (f_M_only_9 xn fu a1 a2 a3 a6 (a5 + (1 : Int32)) (a6 + (1 : Int32)) z8))))
    else
    (x_ck (((64 : Int32) * a6) + (6 : Int32)) (m_ln xn 1)
    (if (z0.1 1 ((((64 : Int32) * a6) + (6 : Int32))).toNatClampNeg) = a3 then
    (x_cl (f_M_isGood xn a6 z0) (fun r13 z13 =>
    (if r13 = 0 then
    (f_M_only_9 xn fu a1 a2 a3 a4 a5 (a6 + (1 : Int32)) z13)
    else
    (f_M_only_9 xn fu a1 a2 a3 a6 (a5 + (1 : Int32)) (a6 + (1 : Int32)) z13))))
    else
    (f_M_only_9 xn fu a1 a2 a3 a4 a5 (a6 + (1 : Int32)) z0))))
    else
    (f_M_only_9 xn fu a1 a2 a3 a4 a5 (a6 + (1 : Int32)) z0)))
    else
    (f_M_only_9 xn fu a1 a2 a3 a4 a5 (a6 + (1 : Int32)) z0))))
def f_M_only (xn : Nat) (p1 : Int32) (p2 : Int32) (p3 : Int32) (z0 : x_St) : Option (Int32 × x_St) :=
  (f_M_only_9 xn x_FU p1 p2 p3 (-1 : Int32) (0 : Int32) (0 : Int32) z0)
def f_M_openNumber (xn : Nat) (p1 : Int32) (z0 : x_St) : Option (Unit × x_St) :=
  (x_cl (f_M_only xn (3 : Int32) p1 (0 : Int32) z0) (fun r1 z1 =>
  (if r1 = (-1 : Int32) then
  (some ((), z1))
  else
  none)))
def f_M_reopen_57 (xn : Nat) (a1 : Int32) (z0 : x_St) : Option (Int32 × x_St) :=
  (some (a1, z0))
def f_M_reopen_23 (xn : Nat) : Nat → Int32 → Int32 → x_St → Option (Int32 × x_St)
  | 0, _, _, _ => none
  | fu + 1, a1, a2, z0 =>
    (if (16 : Int32) ≤ a2 then
    (f_M_reopen_57 xn a1 z0)
    else
    (x_cl (f_M_openNumber xn a2 z0) (fun r2 z2 =>
    (x_ck a2 (m_ln xn 7)
    (if (z2.1 7 (a2).toNatClampNeg) = 0 then
    (f_M_reopen_23 xn fu (a1 + (0 : Int32)) (a2 + (1 : Int32)) z2)
    else
    (f_M_reopen_23 xn fu (a1 + (1 : Int32)) (a2 + (1 : Int32)) z2))))))
def f_M_reopen (xn : Nat)  (z0 : x_St) : Option (Int32 × x_St) :=
  (x_cl (f_M_forget xn (x_put (x_put (x_put z0 0 0 (0 : Int32)) 0 3 (0 : Int32)) 0 4 (-1 : Int32))) (fun r6 z6 =>
  (f_M_reopen_23 xn x_FU (0 : Int32) (0 : Int32) z6)))
def f_M_poke (xn : Nat) (p1 : Int32) (p2 : Int32) (p3 : Int32) (z0 : x_St) : Option (Int32 × x_St) :=
  (if p1 < 0 then
  (if ((x_put z0 0 0 (1 : Int32)).1 0 0) ≤ 0 then
  (x_ck (((64 : Int32) * p1) + p2) (m_ln xn 1)
  (x_ck (((64 : Int32) * p1) + p2) (m_ln xn 1)
  (x_ck (((64 : Int32) * p1) + p2) (m_ln xn 1)
  (some (((x_put (x_put z0 0 0 (1 : Int32)) 1 ((((64 : Int32) * p1) + p2)).toNatClampNeg (((x_put z0 0 0 (1 : Int32)).1 1 ((((64 : Int32) * p1) + p2)).toNatClampNeg) ^^^ p3)).1 1 ((((64 : Int32) * p1) + p2)).toNatClampNeg), (x_put (x_put z0 0 0 (1 : Int32)) 1 ((((64 : Int32) * p1) + p2)).toNatClampNeg (((x_put z0 0 0 (1 : Int32)).1 1 ((((64 : Int32) * p1) + p2)).toNatClampNeg) ^^^ p3)))))))
  else
  (some ((0 : Int32), (x_put z0 0 0 (1 : Int32)))))
  else
  (if (z0.1 0 1) ≤ p1 then
  (if ((x_put z0 0 0 (1 : Int32)).1 0 0) ≤ 0 then
  (x_ck (((64 : Int32) * p1) + p2) (m_ln xn 1)
  (x_ck (((64 : Int32) * p1) + p2) (m_ln xn 1)
  (x_ck (((64 : Int32) * p1) + p2) (m_ln xn 1)
  (some (((x_put (x_put z0 0 0 (1 : Int32)) 1 ((((64 : Int32) * p1) + p2)).toNatClampNeg (((x_put z0 0 0 (1 : Int32)).1 1 ((((64 : Int32) * p1) + p2)).toNatClampNeg) ^^^ p3)).1 1 ((((64 : Int32) * p1) + p2)).toNatClampNeg), (x_put (x_put z0 0 0 (1 : Int32)) 1 ((((64 : Int32) * p1) + p2)).toNatClampNeg (((x_put z0 0 0 (1 : Int32)).1 1 ((((64 : Int32) * p1) + p2)).toNatClampNeg) ^^^ p3)))))))
  else
  (some ((0 : Int32), (x_put z0 0 0 (1 : Int32)))))
  else
  (if p2 < 0 then
  (if ((x_put z0 0 0 (1 : Int32)).1 0 0) ≤ 0 then
  (x_ck (((64 : Int32) * p1) + p2) (m_ln xn 1)
  (x_ck (((64 : Int32) * p1) + p2) (m_ln xn 1)
  (x_ck (((64 : Int32) * p1) + p2) (m_ln xn 1)
  (some (((x_put (x_put z0 0 0 (1 : Int32)) 1 ((((64 : Int32) * p1) + p2)).toNatClampNeg (((x_put z0 0 0 (1 : Int32)).1 1 ((((64 : Int32) * p1) + p2)).toNatClampNeg) ^^^ p3)).1 1 ((((64 : Int32) * p1) + p2)).toNatClampNeg), (x_put (x_put z0 0 0 (1 : Int32)) 1 ((((64 : Int32) * p1) + p2)).toNatClampNeg (((x_put z0 0 0 (1 : Int32)).1 1 ((((64 : Int32) * p1) + p2)).toNatClampNeg) ^^^ p3)))))))
  else
  (some ((0 : Int32), (x_put z0 0 0 (1 : Int32)))))
  else
  (if p2 < (64 : Int32) then
  (if p3 < 0 then
  (if ((x_put z0 0 0 (2 : Int32)).1 0 0) ≤ 0 then
  (x_ck (((64 : Int32) * p1) + p2) (m_ln xn 1)
  (x_ck (((64 : Int32) * p1) + p2) (m_ln xn 1)
  (x_ck (((64 : Int32) * p1) + p2) (m_ln xn 1)
  (some (((x_put (x_put z0 0 0 (2 : Int32)) 1 ((((64 : Int32) * p1) + p2)).toNatClampNeg (((x_put z0 0 0 (2 : Int32)).1 1 ((((64 : Int32) * p1) + p2)).toNatClampNeg) ^^^ p3)).1 1 ((((64 : Int32) * p1) + p2)).toNatClampNeg), (x_put (x_put z0 0 0 (2 : Int32)) 1 ((((64 : Int32) * p1) + p2)).toNatClampNeg (((x_put z0 0 0 (2 : Int32)).1 1 ((((64 : Int32) * p1) + p2)).toNatClampNeg) ^^^ p3)))))))
  else
  (some ((0 : Int32), (x_put z0 0 0 (2 : Int32)))))
  else
  (if p3 ≤ (255 : Int32) then
  (if ((x_put z0 0 0 (0 : Int32)).1 0 0) ≤ 0 then
  (x_ck (((64 : Int32) * p1) + p2) (m_ln xn 1)
  (x_ck (((64 : Int32) * p1) + p2) (m_ln xn 1)
  (x_ck (((64 : Int32) * p1) + p2) (m_ln xn 1)
  (some (((x_put (x_put z0 0 0 (0 : Int32)) 1 ((((64 : Int32) * p1) + p2)).toNatClampNeg (((x_put z0 0 0 (0 : Int32)).1 1 ((((64 : Int32) * p1) + p2)).toNatClampNeg) ^^^ p3)).1 1 ((((64 : Int32) * p1) + p2)).toNatClampNeg), (x_put (x_put z0 0 0 (0 : Int32)) 1 ((((64 : Int32) * p1) + p2)).toNatClampNeg (((x_put z0 0 0 (0 : Int32)).1 1 ((((64 : Int32) * p1) + p2)).toNatClampNeg) ^^^ p3)))))))
  else
  (some ((0 : Int32), (x_put z0 0 0 (0 : Int32)))))
  else
  (if ((x_put z0 0 0 (2 : Int32)).1 0 0) ≤ 0 then
  (x_ck (((64 : Int32) * p1) + p2) (m_ln xn 1)
  (x_ck (((64 : Int32) * p1) + p2) (m_ln xn 1)
  (x_ck (((64 : Int32) * p1) + p2) (m_ln xn 1)
  (some (((x_put (x_put z0 0 0 (2 : Int32)) 1 ((((64 : Int32) * p1) + p2)).toNatClampNeg (((x_put z0 0 0 (2 : Int32)).1 1 ((((64 : Int32) * p1) + p2)).toNatClampNeg) ^^^ p3)).1 1 ((((64 : Int32) * p1) + p2)).toNatClampNeg), (x_put (x_put z0 0 0 (2 : Int32)) 1 ((((64 : Int32) * p1) + p2)).toNatClampNeg (((x_put z0 0 0 (2 : Int32)).1 1 ((((64 : Int32) * p1) + p2)).toNatClampNeg) ^^^ p3)))))))
  else
  (some ((0 : Int32), (x_put z0 0 0 (2 : Int32)))))))
  else
  (if ((x_put z0 0 0 (1 : Int32)).1 0 0) ≤ 0 then
  (x_ck (((64 : Int32) * p1) + p2) (m_ln xn 1)
  (x_ck (((64 : Int32) * p1) + p2) (m_ln xn 1)
  (x_ck (((64 : Int32) * p1) + p2) (m_ln xn 1)
  (some (((x_put (x_put z0 0 0 (1 : Int32)) 1 ((((64 : Int32) * p1) + p2)).toNatClampNeg (((x_put z0 0 0 (1 : Int32)).1 1 ((((64 : Int32) * p1) + p2)).toNatClampNeg) ^^^ p3)).1 1 ((((64 : Int32) * p1) + p2)).toNatClampNeg), (x_put (x_put z0 0 0 (1 : Int32)) 1 ((((64 : Int32) * p1) + p2)).toNatClampNeg (((x_put z0 0 0 (1 : Int32)).1 1 ((((64 : Int32) * p1) + p2)).toNatClampNeg) ^^^ p3)))))))
  else
  (some ((0 : Int32), (x_put z0 0 0 (1 : Int32)))))))))
def f_M_badAt_31 (xn : Nat) (a1 : Int32) (z0 : x_St) : Option (Int32 × x_St) :=
  (some (a1, z0))
def f_M_badAt_7 (xn : Nat) : Nat → Int32 → x_St → Option (Int32 × x_St)
  | 0, _, _ => none
  | fu + 1, a1, z0 =>
    (if (z0.1 0 1) ≤ a1 then
    (some ((-1 : Int32), z0))
    else
    (x_cl (f_M_isNothing xn a1 z0) (fun r2 z2 =>
    (if r2 = 0 then
    (x_cl (f_M_isGood xn a1 z2) (fun r5 z5 =>
    (if r5 = 0 then
    (f_M_badAt_31 xn a1 z5)
    else
    (f_M_badAt_7 xn fu (a1 + (1 : Int32)) z5))))
    else
    (f_M_badAt_7 xn fu (a1 + (1 : Int32)) z2)))))
def f_M_badAt (xn : Nat)  (z0 : x_St) : Option (Int32 × x_St) :=
  (f_M_badAt_7 xn x_FU (0 : Int32) (x_put z0 0 0 (0 : Int32)))
def f_M_byteAt (xn : Nat) (p1 : Int32) (p2 : Int32) (z0 : x_St) : Option (Int32 × x_St) :=
  (if p1 < 0 then
  (if ((x_put z0 0 0 (1 : Int32)).1 0 0) ≤ 0 then
  (x_ck (((64 : Int32) * p1) + p2) (m_ln xn 1)
  (some (((x_put z0 0 0 (1 : Int32)).1 1 ((((64 : Int32) * p1) + p2)).toNatClampNeg), (x_put z0 0 0 (1 : Int32)))))
  else
  (some ((0 : Int32), (x_put z0 0 0 (1 : Int32)))))
  else
  (if (z0.1 0 1) ≤ p1 then
  (if ((x_put z0 0 0 (1 : Int32)).1 0 0) ≤ 0 then
  (x_ck (((64 : Int32) * p1) + p2) (m_ln xn 1)
  (some (((x_put z0 0 0 (1 : Int32)).1 1 ((((64 : Int32) * p1) + p2)).toNatClampNeg), (x_put z0 0 0 (1 : Int32)))))
  else
  (some ((0 : Int32), (x_put z0 0 0 (1 : Int32)))))
  else
  (if p2 < 0 then
  (if ((x_put z0 0 0 (1 : Int32)).1 0 0) ≤ 0 then
  (x_ck (((64 : Int32) * p1) + p2) (m_ln xn 1)
  (some (((x_put z0 0 0 (1 : Int32)).1 1 ((((64 : Int32) * p1) + p2)).toNatClampNeg), (x_put z0 0 0 (1 : Int32)))))
  else
  (some ((0 : Int32), (x_put z0 0 0 (1 : Int32)))))
  else
  (if p2 < (64 : Int32) then
  (if ((x_put z0 0 0 (0 : Int32)).1 0 0) ≤ 0 then
  (x_ck (((64 : Int32) * p1) + p2) (m_ln xn 1)
  (some (((x_put z0 0 0 (0 : Int32)).1 1 ((((64 : Int32) * p1) + p2)).toNatClampNeg), (x_put z0 0 0 (0 : Int32)))))
  else
  (some ((0 : Int32), (x_put z0 0 0 (0 : Int32)))))
  else
  (if ((x_put z0 0 0 (1 : Int32)).1 0 0) ≤ 0 then
  (x_ck (((64 : Int32) * p1) + p2) (m_ln xn 1)
  (some (((x_put z0 0 0 (1 : Int32)).1 1 ((((64 : Int32) * p1) + p2)).toNatClampNeg), (x_put z0 0 0 (1 : Int32)))))
  else
  (some ((0 : Int32), (x_put z0 0 0 (1 : Int32)))))))))
def f_M_told_137 (xn : Nat) (a2 : Int32) (z0 : x_St) : Option (Int32 × x_St) :=
  (some (a2, z0))
def f_M_told_108 (xn : Nat) : Nat → Int32 → Int32 → x_St → Option (Int32 × x_St)
  | 0, _, _, _ => none
  | fu + 1, a2, a3, z0 =>
    (if (8 : Int32) ≤ a3 then
    (f_M_told_137 xn a2 z0)
    else
    (x_ck a3 (m_ln xn 2)
    (if (z0.1 2 (a3).toNatClampNeg) = 0 then
    (f_M_told_108 xn fu (a2 + (0 : Int32)) (a3 + (1 : Int32)) z0)
    else
    (f_M_told_108 xn fu (a2 + (1 : Int32)) (a3 + (1 : Int32)) z0))))
def f_M_told_104 (xn : Nat) (a2 : Int32) (z0 : x_St) : Option (Int32 × x_St) :=
  (some (a2, z0))
def f_M_told_75 (xn : Nat) : Nat → Int32 → Int32 → x_St → Option (Int32 × x_St)
  | 0, _, _, _ => none
  | fu + 1, a2, a3, z0 =>
    (if (16 : Int32) ≤ a3 then
    (f_M_told_104 xn a2 z0)
    else
    (x_ck a3 (m_ln xn 7)
    (if (z0.1 7 (a3).toNatClampNeg) = 0 then
    (f_M_told_75 xn fu (a2 + (0 : Int32)) (a3 + (1 : Int32)) z0)
    else
    (f_M_told_75 xn fu (a2 + (1 : Int32)) (a3 + (1 : Int32)) z0))))
def f_M_told (xn : Nat) (p1 : Int32) (z0 : x_St) : Option (Int32 × x_St) :=
  (if p1 = (0 : Int32) then
  (some (((x_put z0 0 0 (0 : Int32)).1 0 1), (x_put z0 0 0 (0 : Int32))))
  else
  (if p1 = (1 : Int32) then
  (if ((x_put z0 0 0 (0 : Int32)).1 0 3) = 0 then
  (x_cl (f_M_freeBlocks xn (x_put z0 0 0 (0 : Int32))) (fun r10 z10 =>
  (some (r10, z10))))
  else
  (some ((0 : Int32), (x_put z0 0 0 (0 : Int32)))))
  else
  (if p1 = (2 : Int32) then
  (f_M_told_75 xn x_FU (0 : Int32) (0 : Int32) (x_put z0 0 0 (0 : Int32)))
  else
  (if p1 = (3 : Int32) then
  (f_M_told_108 xn x_FU (0 : Int32) (0 : Int32) (x_put z0 0 0 (0 : Int32)))
  else
  (if p1 = (4 : Int32) then
  (some (((x_put z0 0 0 (0 : Int32)).1 0 19), (x_put z0 0 0 (0 : Int32))))
  else
  (if p1 = (5 : Int32) then
  (if ((x_put z0 0 0 (0 : Int32)).1 0 3) = 0 then
  (some ((0 : Int32), (x_put z0 0 0 (0 : Int32))))
  else
  (some ((1 : Int32), (x_put z0 0 0 (0 : Int32)))))
  else
  (if p1 = (6 : Int32) then
  (some (((x_put z0 0 0 (0 : Int32)).1 0 4), (x_put z0 0 0 (0 : Int32))))
  else
  (some ((-1 : Int32), (x_put z0 0 0 (0 : Int32)))))))))))
abbrev rm_M_print : Room := { frames := 1, cells := 0, slots := 0, locals := 21 }
set_option maxHeartbeats 4000000 in
set_option maxRecDepth 100000 in
theorem c_M_print (l : Launch) (G : x_G) (p1 : Int32) (z0 : x_St) (r : Int64) (zo : x_St) (hf : f_M_print (x_n G) p1 z0 = some (r, zo)) : Met l (⟨"ContentLibraryModel", "print", "(I)J"⟩ : MethodName) (x_ws (⟨"ContentLibraryModel", "print", "(I)J"⟩ : MethodName) prog_7_method_28_code 2 (some .long)) rm_M_print (va_Pc [.ref (x_ad G 0), .int p1] (m_PW G z0)) (va_Ql (fun a u => r = a ∧ zo = u) (m_PW G) (x_A G)) 0 0 (x_A G) := by
  refine Met.ofW (cc := prog_7_method_28_code) (maxL := 2) (ret := (some .long)) (by decide) rfl ?_
  intro p e s m args below meth c s₁ B hml hv
  obtain ⟨rfl, hz, hP, hD, hK, hG⟩ := hv
  have C0 : m_Ctx G p s m _ meth c prog_7_method_28_code "ContentLibraryModel" 2 (some .long) := ⟨B.exec, B.bytes, B.returns, hml, findClass_of_methodNamed B.named, fun w h => atoms_spec (ws := (x_ws (⟨"ContentLibraryModel", "print", "(I)J"⟩ : MethodName) prog_7_method_28_code 2 (some .long))) B.pre w (List.mem_cons_of_mem _ h), B.notSynchronized, hz, hK, hG⟩
  obtain ⟨hx, hb, hr, hml, hown, hts, hlocks, hz, hK, hG⟩ := id C0
  have hS : va_S (x_A G) s.heap s.heap [] := va_S.rf
  have hl := lv_entry ([.ref (x_ad G 0), .int p1]) (n := 2) (Nat.le_of_ble_eq_true rfl)
  rw [lg_entry_eq]
  generalize (lg_sl ([.ref (x_ad G 0), .int p1]) ++ List.replicate (2 - (lg_sl ([.ref (x_ad G 0), .int p1])).length) Slot.unset).toArray = ls at hl ⊢
  have hl : lv_has ls 2 [(0, .ref (x_ad G 0)), (1, .int p1)] := hl
  rw [f_M_print] at hf
  refine lv_aload_n hx hb d_M_print_0 rfl (lv_at hl 0 rfl) ?_
  refine lv_aload_n hx hb d_M_print_1 rfl (lv_at hl 0 rfl) ?_
  refine va_get (D := x_D G) (ci := 5) (v := .int (z0.1 0 3)) (C := "ContentLibraryModel") (T := x_TM) (N := 31) hx hb hts x_inM hown hK hP 0 (m_lk_M G _) rfl 3 (by decide) (hts _ t_675) (fun _ h9 => h9) rfl d_M_print_2 ?_
  refine lv_if_eq (tgt := 12) hx hb d_M_print_5 (by decide) (fun hc1 => ?_) (fun hc1 => ?_)
  · have hf := x_br_t hf hc1
    refine lv_aload_n hx hb d_M_print_12 rfl (lv_at hl 0 rfl) ?_
    refine lv_iload_n hx hb d_M_print_13 rfl (lv_at hl 1 rfl) ?_
    obtain ⟨r2, z2, hq3, hf⟩ := x_cl_some hf
    refine va_calli (va_runV (As := [.int p1]) (rest := [.ref (x_ad G 0)]) ⟨hx, hb, hml, hown, hts⟩ (c_M_isThere l G p1 z0 r2 z2 hq3) (cwV 1 hts (x_gV t_850 t_852 sel_ContentLibraryModel_isThere t_7 t_853) rfl rfl rfl (by decide +kernel) ⟨Nat.le_of_ble_eq_true rfl, Nat.le_of_ble_eq_true rfl⟩) ⟨m_blind _ _ _, va_recv hK hP (ci := 5) (q0 := 0) rfl (m_lk_M G _), fun U hU hW => ⟨rfl, m_pw hP hD hK hG hS hz hU hW⟩⟩ rfl rfl hl.1 rfl (lv_room (Nat.le_of_ble_eq_true rfl)) d_M_print_14 ⟨Nat.le_of_ble_eq_true rfl, Nat.le_of_ble_eq_true rfl⟩) hS (fun q _ h => h) (fun q h => h) (fun ra u t H locs ht hvm hw hB _ _ hS => ?_)
    obtain ⟨rfl, rfl⟩ := hw
    obtain ⟨hP, hD⟩ := m_back hB ht
    refine lv_if_ne (tgt := 24) hx hb d_M_print_17 (by decide) (fun hc4 => ?_) (fun hc4 => ?_)
    · have hf := x_br_f hf hc4
      refine lv_iconst (v := (0 : Int32)) hx hb d_M_print_24 (by decide) ?_
      refine va_put (D := x_D G) (ci := 5) (v := .int (0 : Int32)) (ty := .int) (C := "ContentLibraryModel") (T := x_TM) (N := 31) hx hb hts x_inM x_tyM x_tyM_ok x_nmM hown hK hP hD hS 0 (m_lk_M G _) rfl 0 (by decide) (hts _ t_672) (fun _ h9 => h9) rfl (by decide +kernel) rfl rfl (Nat.le_of_ble_eq_true rfl) d_M_print_25 (fun H locs hP hD hS => ?_)
      rw [m_st_M0 G _] at hP hD
      refine lv_aload_n hx hb d_M_print_28 rfl (lv_at hl 0 rfl) ?_
      refine va_get (D := x_D G) (ci := 5) (v := .int ((x_put z2 0 0 (0 : Int32)).1 0 0)) (C := "ContentLibraryModel") (T := x_TM) (N := 31) hx hb hts x_inM hown hK hP 0 (m_lk_M G _) rfl 0 (by decide) (hts _ t_672) (fun _ h9 => h9) rfl d_M_print_29 ?_
      refine lv_if_le (tgt := 39) hx hb d_M_print_32 (by decide) (fun hc5 => ?_) (fun hc5 => ?_)
      · have hf := x_br_t hf hc5
        refine lv_aload_n hx hb d_M_print_39 rfl (lv_at hl 0 rfl) ?_
        refine va_get (D := x_D G) (ci := 5) (v := .ref (x_ad G 14)) (C := "ContentLibraryModel") (T := x_TM) (N := 31) hx hb hts x_inM hown hK hP 0 (m_lk_M G _) rfl 17 (by decide) (hts _ t_689) (fun _ h9 => h9) rfl d_M_print_40 ?_
        refine lv_iload_n hx hb d_M_print_43 rfl (lv_at hl 1 rfl) ?_
        obtain ⟨hin6, hf⟩ := x_ck_some hf
        refine va_lald hx hb hK hP 14 4 (m_lk_J G _) rfl hin6 d_M_print_44 ?_
        obtain ⟨rfl, rfl⟩ := x_ret hf
        exact W.lret (v := ((x_put z2 0 0 (0 : Int32)).2 14 (p1).toNatClampNeg)) hx hb hr (fun t ht hW => ⟨⟨_, _, rfl, ⟨rfl, rfl⟩, m_pw hP hD hK hG hS hz ht hW⟩, hS.F ht⟩) hS.2.2 d_M_print_45
      · have hf := x_br_f hf hc5
        refine lv_lconst (v := (0 : Int64)) hx hb d_M_print_35 (by decide) ?_
        refine lv_goto (tgt := 45) hx hb d_M_print_36 (by decide) ?_
        obtain ⟨rfl, rfl⟩ := x_ret hf
        exact W.lret (v := (0 : Int64)) hx hb hr (fun t ht hW => ⟨⟨_, _, rfl, ⟨rfl, rfl⟩, m_pw hP hD hK hG hS hz ht hW⟩, hS.F ht⟩) hS.2.2 d_M_print_45
    · have hf := x_br_t hf hc4
      refine lv_iconst (v := (2 : Int32)) hx hb d_M_print_20 (by decide) ?_
      refine lv_goto (tgt := 25) hx hb d_M_print_21 (by decide) ?_
      refine va_put (D := x_D G) (ci := 5) (v := .int (2 : Int32)) (ty := .int) (C := "ContentLibraryModel") (T := x_TM) (N := 31) hx hb hts x_inM x_tyM x_tyM_ok x_nmM hown hK hP hD hS 0 (m_lk_M G _) rfl 0 (by decide) (hts _ t_672) (fun _ h9 => h9) rfl (by decide +kernel) rfl rfl (Nat.le_of_ble_eq_true rfl) d_M_print_25 (fun H locs hP hD hS => ?_)
      rw [m_st_M0 G _] at hP hD
      refine lv_aload_n hx hb d_M_print_28 rfl (lv_at hl 0 rfl) ?_
      refine va_get (D := x_D G) (ci := 5) (v := .int ((x_put z2 0 0 (2 : Int32)).1 0 0)) (C := "ContentLibraryModel") (T := x_TM) (N := 31) hx hb hts x_inM hown hK hP 0 (m_lk_M G _) rfl 0 (by decide) (hts _ t_672) (fun _ h9 => h9) rfl d_M_print_29 ?_
      refine lv_if_le (tgt := 39) hx hb d_M_print_32 (by decide) (fun hc7 => ?_) (fun hc7 => ?_)
      · have hf := x_br_t hf hc7
        refine lv_aload_n hx hb d_M_print_39 rfl (lv_at hl 0 rfl) ?_
        refine va_get (D := x_D G) (ci := 5) (v := .ref (x_ad G 14)) (C := "ContentLibraryModel") (T := x_TM) (N := 31) hx hb hts x_inM hown hK hP 0 (m_lk_M G _) rfl 17 (by decide) (hts _ t_689) (fun _ h9 => h9) rfl d_M_print_40 ?_
        refine lv_iload_n hx hb d_M_print_43 rfl (lv_at hl 1 rfl) ?_
        obtain ⟨hin8, hf⟩ := x_ck_some hf
        refine va_lald hx hb hK hP 14 4 (m_lk_J G _) rfl hin8 d_M_print_44 ?_
        obtain ⟨rfl, rfl⟩ := x_ret hf
        exact W.lret (v := ((x_put z2 0 0 (2 : Int32)).2 14 (p1).toNatClampNeg)) hx hb hr (fun t ht hW => ⟨⟨_, _, rfl, ⟨rfl, rfl⟩, m_pw hP hD hK hG hS hz ht hW⟩, hS.F ht⟩) hS.2.2 d_M_print_45
      · have hf := x_br_f hf hc7
        refine lv_lconst (v := (0 : Int64)) hx hb d_M_print_35 (by decide) ?_
        refine lv_goto (tgt := 45) hx hb d_M_print_36 (by decide) ?_
        obtain ⟨rfl, rfl⟩ := x_ret hf
        exact W.lret (v := (0 : Int64)) hx hb hr (fun t ht hW => ⟨⟨_, _, rfl, ⟨rfl, rfl⟩, m_pw hP hD hK hG hS hz ht hW⟩, hS.F ht⟩) hS.2.2 d_M_print_45
  · have hf := x_br_f hf hc1
    refine lv_iconst (v := (1 : Int32)) hx hb d_M_print_8 (by decide) ?_
    refine lv_goto (tgt := 25) hx hb d_M_print_9 (by decide) ?_
    refine va_put (D := x_D G) (ci := 5) (v := .int (1 : Int32)) (ty := .int) (C := "ContentLibraryModel") (T := x_TM) (N := 31) hx hb hts x_inM x_tyM x_tyM_ok x_nmM hown hK hP hD hS 0 (m_lk_M G _) rfl 0 (by decide) (hts _ t_672) (fun _ h9 => h9) rfl (by decide +kernel) rfl rfl (Nat.le_of_ble_eq_true rfl) d_M_print_25 (fun H locs hP hD hS => ?_)
    rw [m_st_M0 G _] at hP hD
    refine lv_aload_n hx hb d_M_print_28 rfl (lv_at hl 0 rfl) ?_
    refine va_get (D := x_D G) (ci := 5) (v := .int ((x_put z0 0 0 (1 : Int32)).1 0 0)) (C := "ContentLibraryModel") (T := x_TM) (N := 31) hx hb hts x_inM hown hK hP 0 (m_lk_M G _) rfl 0 (by decide) (hts _ t_672) (fun _ h9 => h9) rfl d_M_print_29 ?_
    refine lv_if_le (tgt := 39) hx hb d_M_print_32 (by decide) (fun hc9 => ?_) (fun hc9 => ?_)
    · have hf := x_br_t hf hc9
      refine lv_aload_n hx hb d_M_print_39 rfl (lv_at hl 0 rfl) ?_
      refine va_get (D := x_D G) (ci := 5) (v := .ref (x_ad G 14)) (C := "ContentLibraryModel") (T := x_TM) (N := 31) hx hb hts x_inM hown hK hP 0 (m_lk_M G _) rfl 17 (by decide) (hts _ t_689) (fun _ h9 => h9) rfl d_M_print_40 ?_
      refine lv_iload_n hx hb d_M_print_43 rfl (lv_at hl 1 rfl) ?_
      obtain ⟨hin10, hf⟩ := x_ck_some hf
      refine va_lald hx hb hK hP 14 4 (m_lk_J G _) rfl hin10 d_M_print_44 ?_
      obtain ⟨rfl, rfl⟩ := x_ret hf
      exact W.lret (v := ((x_put z0 0 0 (1 : Int32)).2 14 (p1).toNatClampNeg)) hx hb hr (fun t ht hW => ⟨⟨_, _, rfl, ⟨rfl, rfl⟩, m_pw hP hD hK hG hS hz ht hW⟩, hS.F ht⟩) hS.2.2 d_M_print_45
    · have hf := x_br_f hf hc9
      refine lv_lconst (v := (0 : Int64)) hx hb d_M_print_35 (by decide) ?_
      refine lv_goto (tgt := 45) hx hb d_M_print_36 (by decide) ?_
      obtain ⟨rfl, rfl⟩ := x_ret hf
      exact W.lret (v := (0 : Int64)) hx hb hr (fun t ht hW => ⟨⟨_, _, rfl, ⟨rfl, rfl⟩, m_pw hP hD hK hG hS hz ht hW⟩, hS.F ht⟩) hS.2.2 d_M_print_45
abbrev rm_M_sample : Room := { frames := 1, cells := 0, slots := 0, locals := 21 }
set_option maxHeartbeats 4000000 in
set_option maxRecDepth 100000 in
theorem c_M_sample (l : Launch) (G : x_G) (p1 : Int32) (p2 : Int32) (p3 : Int32) (z0 : x_St) (r : Int32) (zo : x_St) (hf : f_M_sample (x_n G) p1 p2 p3 z0 = some (r, zo)) : Met l (⟨"ContentLibraryModel", "sample", "(III)I"⟩ : MethodName) (x_ws (⟨"ContentLibraryModel", "sample", "(III)I"⟩ : MethodName) prog_7_method_29_code 4 (some .int)) rm_M_sample (va_Pc [.ref (x_ad G 0), .int p1, .int p2, .int p3] (m_PW G z0)) (va_Qi (fun a u => r = a ∧ zo = u) (m_PW G) (x_A G)) 0 0 (x_A G) := by
  refine Met.ofW (cc := prog_7_method_29_code) (maxL := 4) (ret := (some .int)) (by decide) rfl ?_
  intro p e s m args below meth c s₁ B hml hv
  obtain ⟨rfl, hz, hP, hD, hK, hG⟩ := hv
  have C0 : m_Ctx G p s m _ meth c prog_7_method_29_code "ContentLibraryModel" 4 (some .int) := ⟨B.exec, B.bytes, B.returns, hml, findClass_of_methodNamed B.named, fun w h => atoms_spec (ws := (x_ws (⟨"ContentLibraryModel", "sample", "(III)I"⟩ : MethodName) prog_7_method_29_code 4 (some .int))) B.pre w (List.mem_cons_of_mem _ h), B.notSynchronized, hz, hK, hG⟩
  obtain ⟨hx, hb, hr, hml, hown, hts, hlocks, hz, hK, hG⟩ := id C0
  have hS : va_S (x_A G) s.heap s.heap [] := va_S.rf
  have hl := lv_entry ([.ref (x_ad G 0), .int p1, .int p2, .int p3]) (n := 4) (Nat.le_of_ble_eq_true rfl)
  rw [lg_entry_eq]
  generalize (lg_sl ([.ref (x_ad G 0), .int p1, .int p2, .int p3]) ++ List.replicate (4 - (lg_sl ([.ref (x_ad G 0), .int p1, .int p2, .int p3])).length) Slot.unset).toArray = ls at hl ⊢
  have hl : lv_has ls 4 [(0, .ref (x_ad G 0)), (1, .int p1), (2, .int p2), (3, .int p3)] := hl
  rw [f_M_sample] at hf
  refine lv_aload_n hx hb d_M_sample_0 rfl (lv_at hl 0 rfl) ?_
  refine lv_aload_n hx hb d_M_sample_1 rfl (lv_at hl 0 rfl) ?_
  refine va_get (D := x_D G) (ci := 5) (v := .int (z0.1 0 3)) (C := "ContentLibraryModel") (T := x_TM) (N := 31) hx hb hts x_inM hown hK hP 0 (m_lk_M G _) rfl 3 (by decide) (hts _ t_675) (fun _ h9 => h9) rfl d_M_sample_2 ?_
  refine lv_if_eq (tgt := 12) hx hb d_M_sample_5 (by decide) (fun hc1 => ?_) (fun hc1 => ?_)
  · have hf := x_br_t hf hc1
    refine lv_aload_n hx hb d_M_sample_12 rfl (lv_at hl 0 rfl) ?_
    refine lv_iload_n hx hb d_M_sample_13 rfl (lv_at hl 1 rfl) ?_
    obtain ⟨r2, z2, hq3, hf⟩ := x_cl_some hf
    refine va_calli (va_runV (As := [.int p1]) (rest := [.ref (x_ad G 0)]) ⟨hx, hb, hml, hown, hts⟩ (c_M_isThere l G p1 z0 r2 z2 hq3) (cwV 1 hts (x_gV t_850 t_852 sel_ContentLibraryModel_isThere t_7 t_853) rfl rfl rfl (by decide +kernel) ⟨Nat.le_of_ble_eq_true rfl, Nat.le_of_ble_eq_true rfl⟩) ⟨m_blind _ _ _, va_recv hK hP (ci := 5) (q0 := 0) rfl (m_lk_M G _), fun U hU hW => ⟨rfl, m_pw hP hD hK hG hS hz hU hW⟩⟩ rfl rfl hl.1 rfl (lv_room (Nat.le_of_ble_eq_true rfl)) d_M_sample_14 ⟨Nat.le_of_ble_eq_true rfl, Nat.le_of_ble_eq_true rfl⟩) hS (fun q _ h => h) (fun q h => h) (fun ra u t H locs ht hvm hw hB _ _ hS => ?_)
    obtain ⟨rfl, rfl⟩ := hw
    obtain ⟨hP, hD⟩ := m_back hB ht
    refine lv_if_eq (tgt := 48) hx hb d_M_sample_17 (by decide) (fun hc4 => ?_) (fun hc4 => ?_)
    · have hf := x_br_t hf hc4
      refine lv_iconst (v := (2 : Int32)) hx hb d_M_sample_48 (by decide) ?_
      refine lv_goto (tgt := 53) hx hb d_M_sample_49 (by decide) ?_
      refine va_put (D := x_D G) (ci := 5) (v := .int (2 : Int32)) (ty := .int) (C := "ContentLibraryModel") (T := x_TM) (N := 31) hx hb hts x_inM x_tyM x_tyM_ok x_nmM hown hK hP hD hS 0 (m_lk_M G _) rfl 0 (by decide) (hts _ t_672) (fun _ h9 => h9) rfl (by decide +kernel) rfl rfl (Nat.le_of_ble_eq_true rfl) d_M_sample_53 (fun H locs hP hD hS => ?_)
      rw [m_st_M0 G _] at hP hD
      refine lv_aload_n hx hb d_M_sample_56 rfl (lv_at hl 0 rfl) ?_
      refine va_get (D := x_D G) (ci := 5) (v := .int ((x_put z2 0 0 (2 : Int32)).1 0 0)) (C := "ContentLibraryModel") (T := x_TM) (N := 31) hx hb hts x_inM hown hK hP 0 (m_lk_M G _) rfl 0 (by decide) (hts _ t_672) (fun _ h9 => h9) rfl d_M_sample_57 ?_
      refine lv_if_le (tgt := 67) hx hb d_M_sample_60 (by decide) (fun hc5 => ?_) (fun hc5 => ?_)
      · have hf := x_br_t hf hc5
        refine lv_aload_n hx hb d_M_sample_67 rfl (lv_at hl 0 rfl) ?_
        refine va_get (D := x_D G) (ci := 5) (v := .ref (x_ad G 10)) (C := "ContentLibraryModel") (T := x_TM) (N := 31) hx hb hts x_inM hown hK hP 0 (m_lk_M G _) rfl 13 (by decide) (hts _ t_685) (fun _ h9 => h9) rfl d_M_sample_68 ?_
        refine lv_bipush (v := (64 : Int32)) hx hb d_M_sample_71 (by decide) ?_
        refine lv_iload_n hx hb d_M_sample_73 rfl (lv_at hl 1 rfl) ?_
        refine lv_imul hx hb d_M_sample_74 ?_
        refine lv_iload_n hx hb d_M_sample_75 rfl (lv_at hl 3 rfl) ?_
        refine lv_aload_n hx hb d_M_sample_76 rfl (lv_at hl 0 rfl) ?_
        refine va_get (D := x_D G) (ci := 5) (v := .ref (x_ad G 8)) (C := "ContentLibraryModel") (T := x_TM) (N := 31) hx hb hts x_inM hown hK hP 0 (m_lk_M G _) rfl 11 (by decide) (hts _ t_683) (fun _ h9 => h9) rfl d_M_sample_77 ?_
        refine lv_iload_n hx hb d_M_sample_80 rfl (lv_at hl 1 rfl) ?_
        obtain ⟨hin6, hf⟩ := x_ck_some hf
        refine va_iald hx hb hK hP 8 0 (m_lk_A G _ (k := 8) (by decide)) rfl hin6 d_M_sample_81 ?_
        refine lv_imul hx hb d_M_sample_82 ?_
        refine lv_iadd hx hb d_M_sample_83 ?_
        refine lv_iload_n hx hb d_M_sample_84 rfl (lv_at hl 2 rfl) ?_
        refine lv_iadd hx hb d_M_sample_85 ?_
        obtain ⟨hin7, hf⟩ := x_ck_some hf
        refine va_iald hx hb hK hP 10 0 (m_lk_A G _ (k := 10) (by decide)) rfl hin7 d_M_sample_86 ?_
        obtain ⟨rfl, rfl⟩ := x_ret hf
        exact W.iret (v := ((x_put z2 0 0 (2 : Int32)).1 10 (((((64 : Int32) * p1) + (p3 * ((x_put z2 0 0 (2 : Int32)).1 8 (p1).toNatClampNeg))) + p2)).toNatClampNeg)) hx hb hr (fun t ht hW => ⟨⟨_, _, rfl, ⟨rfl, rfl⟩, m_pw hP hD hK hG hS hz ht hW⟩, hS.F ht⟩) hS.2.2 d_M_sample_87
      · have hf := x_br_f hf hc5
        refine lv_iconst (v := (0 : Int32)) hx hb d_M_sample_63 (by decide) ?_
        refine lv_goto (tgt := 87) hx hb d_M_sample_64 (by decide) ?_
        obtain ⟨rfl, rfl⟩ := x_ret hf
        exact W.iret (v := (0 : Int32)) hx hb hr (fun t ht hW => ⟨⟨_, _, rfl, ⟨rfl, rfl⟩, m_pw hP hD hK hG hS hz ht hW⟩, hS.F ht⟩) hS.2.2 d_M_sample_87
    · have hf := x_br_f hf hc4
      refine lv_iload_n hx hb d_M_sample_20 rfl (lv_at hl 2 rfl) ?_
      refine lv_if_lt (tgt := 48) hx hb d_M_sample_21 (by decide) (fun hc8 => ?_) (fun hc8 => ?_)
      · have hf := x_br_t hf hc8
        refine lv_iconst (v := (2 : Int32)) hx hb d_M_sample_48 (by decide) ?_
        refine lv_goto (tgt := 53) hx hb d_M_sample_49 (by decide) ?_
        refine va_put (D := x_D G) (ci := 5) (v := .int (2 : Int32)) (ty := .int) (C := "ContentLibraryModel") (T := x_TM) (N := 31) hx hb hts x_inM x_tyM x_tyM_ok x_nmM hown hK hP hD hS 0 (m_lk_M G _) rfl 0 (by decide) (hts _ t_672) (fun _ h9 => h9) rfl (by decide +kernel) rfl rfl (Nat.le_of_ble_eq_true rfl) d_M_sample_53 (fun H locs hP hD hS => ?_)
        rw [m_st_M0 G _] at hP hD
        refine lv_aload_n hx hb d_M_sample_56 rfl (lv_at hl 0 rfl) ?_
        refine va_get (D := x_D G) (ci := 5) (v := .int ((x_put z2 0 0 (2 : Int32)).1 0 0)) (C := "ContentLibraryModel") (T := x_TM) (N := 31) hx hb hts x_inM hown hK hP 0 (m_lk_M G _) rfl 0 (by decide) (hts _ t_672) (fun _ h9 => h9) rfl d_M_sample_57 ?_
        refine lv_if_le (tgt := 67) hx hb d_M_sample_60 (by decide) (fun hc9 => ?_) (fun hc9 => ?_)
        · have hf := x_br_t hf hc9
          refine lv_aload_n hx hb d_M_sample_67 rfl (lv_at hl 0 rfl) ?_
          refine va_get (D := x_D G) (ci := 5) (v := .ref (x_ad G 10)) (C := "ContentLibraryModel") (T := x_TM) (N := 31) hx hb hts x_inM hown hK hP 0 (m_lk_M G _) rfl 13 (by decide) (hts _ t_685) (fun _ h9 => h9) rfl d_M_sample_68 ?_
          refine lv_bipush (v := (64 : Int32)) hx hb d_M_sample_71 (by decide) ?_
          refine lv_iload_n hx hb d_M_sample_73 rfl (lv_at hl 1 rfl) ?_
          refine lv_imul hx hb d_M_sample_74 ?_
          refine lv_iload_n hx hb d_M_sample_75 rfl (lv_at hl 3 rfl) ?_
          refine lv_aload_n hx hb d_M_sample_76 rfl (lv_at hl 0 rfl) ?_
          refine va_get (D := x_D G) (ci := 5) (v := .ref (x_ad G 8)) (C := "ContentLibraryModel") (T := x_TM) (N := 31) hx hb hts x_inM hown hK hP 0 (m_lk_M G _) rfl 11 (by decide) (hts _ t_683) (fun _ h9 => h9) rfl d_M_sample_77 ?_
          refine lv_iload_n hx hb d_M_sample_80 rfl (lv_at hl 1 rfl) ?_
          obtain ⟨hin10, hf⟩ := x_ck_some hf
          refine va_iald hx hb hK hP 8 0 (m_lk_A G _ (k := 8) (by decide)) rfl hin10 d_M_sample_81 ?_
          refine lv_imul hx hb d_M_sample_82 ?_
          refine lv_iadd hx hb d_M_sample_83 ?_
          refine lv_iload_n hx hb d_M_sample_84 rfl (lv_at hl 2 rfl) ?_
          refine lv_iadd hx hb d_M_sample_85 ?_
          obtain ⟨hin11, hf⟩ := x_ck_some hf
          refine va_iald hx hb hK hP 10 0 (m_lk_A G _ (k := 10) (by decide)) rfl hin11 d_M_sample_86 ?_
          obtain ⟨rfl, rfl⟩ := x_ret hf
          exact W.iret (v := ((x_put z2 0 0 (2 : Int32)).1 10 (((((64 : Int32) * p1) + (p3 * ((x_put z2 0 0 (2 : Int32)).1 8 (p1).toNatClampNeg))) + p2)).toNatClampNeg)) hx hb hr (fun t ht hW => ⟨⟨_, _, rfl, ⟨rfl, rfl⟩, m_pw hP hD hK hG hS hz ht hW⟩, hS.F ht⟩) hS.2.2 d_M_sample_87
        · have hf := x_br_f hf hc9
          refine lv_iconst (v := (0 : Int32)) hx hb d_M_sample_63 (by decide) ?_
          refine lv_goto (tgt := 87) hx hb d_M_sample_64 (by decide) ?_
          obtain ⟨rfl, rfl⟩ := x_ret hf
          exact W.iret (v := (0 : Int32)) hx hb hr (fun t ht hW => ⟨⟨_, _, rfl, ⟨rfl, rfl⟩, m_pw hP hD hK hG hS hz ht hW⟩, hS.F ht⟩) hS.2.2 d_M_sample_87
      · have hf := x_br_f hf hc8
        refine lv_iload_n hx hb d_M_sample_24 rfl (lv_at hl 2 rfl) ?_
        refine lv_aload_n hx hb d_M_sample_25 rfl (lv_at hl 0 rfl) ?_
        refine va_get (D := x_D G) (ci := 5) (v := .ref (x_ad G 8)) (C := "ContentLibraryModel") (T := x_TM) (N := 31) hx hb hts x_inM hown hK hP 0 (m_lk_M G _) rfl 11 (by decide) (hts _ t_683) (fun _ h9 => h9) rfl d_M_sample_26 ?_
        refine lv_iload_n hx hb d_M_sample_29 rfl (lv_at hl 1 rfl) ?_
        obtain ⟨hin12, hf⟩ := x_ck_some hf
        refine va_iald hx hb hK hP 8 0 (m_lk_A G _ (k := 8) (by decide)) rfl hin12 d_M_sample_30 ?_
        refine lv_icmp_ge (tgt := 48) hx hb d_M_sample_31 (by decide) (fun hc13 => ?_) (fun hc13 => ?_)
        · have hf := x_br_t hf hc13
          refine lv_iconst (v := (2 : Int32)) hx hb d_M_sample_48 (by decide) ?_
          refine lv_goto (tgt := 53) hx hb d_M_sample_49 (by decide) ?_
          refine va_put (D := x_D G) (ci := 5) (v := .int (2 : Int32)) (ty := .int) (C := "ContentLibraryModel") (T := x_TM) (N := 31) hx hb hts x_inM x_tyM x_tyM_ok x_nmM hown hK hP hD hS 0 (m_lk_M G _) rfl 0 (by decide) (hts _ t_672) (fun _ h9 => h9) rfl (by decide +kernel) rfl rfl (Nat.le_of_ble_eq_true rfl) d_M_sample_53 (fun H locs hP hD hS => ?_)
          rw [m_st_M0 G _] at hP hD
          refine lv_aload_n hx hb d_M_sample_56 rfl (lv_at hl 0 rfl) ?_
          refine va_get (D := x_D G) (ci := 5) (v := .int ((x_put z2 0 0 (2 : Int32)).1 0 0)) (C := "ContentLibraryModel") (T := x_TM) (N := 31) hx hb hts x_inM hown hK hP 0 (m_lk_M G _) rfl 0 (by decide) (hts _ t_672) (fun _ h9 => h9) rfl d_M_sample_57 ?_
          refine lv_if_le (tgt := 67) hx hb d_M_sample_60 (by decide) (fun hc14 => ?_) (fun hc14 => ?_)
          · have hf := x_br_t hf hc14
            refine lv_aload_n hx hb d_M_sample_67 rfl (lv_at hl 0 rfl) ?_
            refine va_get (D := x_D G) (ci := 5) (v := .ref (x_ad G 10)) (C := "ContentLibraryModel") (T := x_TM) (N := 31) hx hb hts x_inM hown hK hP 0 (m_lk_M G _) rfl 13 (by decide) (hts _ t_685) (fun _ h9 => h9) rfl d_M_sample_68 ?_
            refine lv_bipush (v := (64 : Int32)) hx hb d_M_sample_71 (by decide) ?_
            refine lv_iload_n hx hb d_M_sample_73 rfl (lv_at hl 1 rfl) ?_
            refine lv_imul hx hb d_M_sample_74 ?_
            refine lv_iload_n hx hb d_M_sample_75 rfl (lv_at hl 3 rfl) ?_
            refine lv_aload_n hx hb d_M_sample_76 rfl (lv_at hl 0 rfl) ?_
            refine va_get (D := x_D G) (ci := 5) (v := .ref (x_ad G 8)) (C := "ContentLibraryModel") (T := x_TM) (N := 31) hx hb hts x_inM hown hK hP 0 (m_lk_M G _) rfl 11 (by decide) (hts _ t_683) (fun _ h9 => h9) rfl d_M_sample_77 ?_
            refine lv_iload_n hx hb d_M_sample_80 rfl (lv_at hl 1 rfl) ?_
            obtain ⟨hin15, hf⟩ := x_ck_some hf
            refine va_iald hx hb hK hP 8 0 (m_lk_A G _ (k := 8) (by decide)) rfl hin15 d_M_sample_81 ?_
            refine lv_imul hx hb d_M_sample_82 ?_
            refine lv_iadd hx hb d_M_sample_83 ?_
            refine lv_iload_n hx hb d_M_sample_84 rfl (lv_at hl 2 rfl) ?_
            refine lv_iadd hx hb d_M_sample_85 ?_
            obtain ⟨hin16, hf⟩ := x_ck_some hf
            refine va_iald hx hb hK hP 10 0 (m_lk_A G _ (k := 10) (by decide)) rfl hin16 d_M_sample_86 ?_
            obtain ⟨rfl, rfl⟩ := x_ret hf
            exact W.iret (v := ((x_put z2 0 0 (2 : Int32)).1 10 (((((64 : Int32) * p1) + (p3 * ((x_put z2 0 0 (2 : Int32)).1 8 (p1).toNatClampNeg))) + p2)).toNatClampNeg)) hx hb hr (fun t ht hW => ⟨⟨_, _, rfl, ⟨rfl, rfl⟩, m_pw hP hD hK hG hS hz ht hW⟩, hS.F ht⟩) hS.2.2 d_M_sample_87
          · have hf := x_br_f hf hc14
            refine lv_iconst (v := (0 : Int32)) hx hb d_M_sample_63 (by decide) ?_
            refine lv_goto (tgt := 87) hx hb d_M_sample_64 (by decide) ?_
            obtain ⟨rfl, rfl⟩ := x_ret hf
            exact W.iret (v := (0 : Int32)) hx hb hr (fun t ht hW => ⟨⟨_, _, rfl, ⟨rfl, rfl⟩, m_pw hP hD hK hG hS hz ht hW⟩, hS.F ht⟩) hS.2.2 d_M_sample_87
        · have hf := x_br_f hf hc13
          refine lv_iload_n hx hb d_M_sample_34 rfl (lv_at hl 3 rfl) ?_
          refine lv_if_lt (tgt := 48) hx hb d_M_sample_35 (by decide) (fun hc17 => ?_) (fun hc17 => ?_)
          · have hf := x_br_t hf hc17
            refine lv_iconst (v := (2 : Int32)) hx hb d_M_sample_48 (by decide) ?_
            refine lv_goto (tgt := 53) hx hb d_M_sample_49 (by decide) ?_
            refine va_put (D := x_D G) (ci := 5) (v := .int (2 : Int32)) (ty := .int) (C := "ContentLibraryModel") (T := x_TM) (N := 31) hx hb hts x_inM x_tyM x_tyM_ok x_nmM hown hK hP hD hS 0 (m_lk_M G _) rfl 0 (by decide) (hts _ t_672) (fun _ h9 => h9) rfl (by decide +kernel) rfl rfl (Nat.le_of_ble_eq_true rfl) d_M_sample_53 (fun H locs hP hD hS => ?_)
            rw [m_st_M0 G _] at hP hD
            refine lv_aload_n hx hb d_M_sample_56 rfl (lv_at hl 0 rfl) ?_
            refine va_get (D := x_D G) (ci := 5) (v := .int ((x_put z2 0 0 (2 : Int32)).1 0 0)) (C := "ContentLibraryModel") (T := x_TM) (N := 31) hx hb hts x_inM hown hK hP 0 (m_lk_M G _) rfl 0 (by decide) (hts _ t_672) (fun _ h9 => h9) rfl d_M_sample_57 ?_
            refine lv_if_le (tgt := 67) hx hb d_M_sample_60 (by decide) (fun hc18 => ?_) (fun hc18 => ?_)
            · have hf := x_br_t hf hc18
              refine lv_aload_n hx hb d_M_sample_67 rfl (lv_at hl 0 rfl) ?_
              refine va_get (D := x_D G) (ci := 5) (v := .ref (x_ad G 10)) (C := "ContentLibraryModel") (T := x_TM) (N := 31) hx hb hts x_inM hown hK hP 0 (m_lk_M G _) rfl 13 (by decide) (hts _ t_685) (fun _ h9 => h9) rfl d_M_sample_68 ?_
              refine lv_bipush (v := (64 : Int32)) hx hb d_M_sample_71 (by decide) ?_
              refine lv_iload_n hx hb d_M_sample_73 rfl (lv_at hl 1 rfl) ?_
              refine lv_imul hx hb d_M_sample_74 ?_
              refine lv_iload_n hx hb d_M_sample_75 rfl (lv_at hl 3 rfl) ?_
              refine lv_aload_n hx hb d_M_sample_76 rfl (lv_at hl 0 rfl) ?_
              refine va_get (D := x_D G) (ci := 5) (v := .ref (x_ad G 8)) (C := "ContentLibraryModel") (T := x_TM) (N := 31) hx hb hts x_inM hown hK hP 0 (m_lk_M G _) rfl 11 (by decide) (hts _ t_683) (fun _ h9 => h9) rfl d_M_sample_77 ?_
              refine lv_iload_n hx hb d_M_sample_80 rfl (lv_at hl 1 rfl) ?_
              obtain ⟨hin19, hf⟩ := x_ck_some hf
              refine va_iald hx hb hK hP 8 0 (m_lk_A G _ (k := 8) (by decide)) rfl hin19 d_M_sample_81 ?_
              refine lv_imul hx hb d_M_sample_82 ?_
              refine lv_iadd hx hb d_M_sample_83 ?_
              refine lv_iload_n hx hb d_M_sample_84 rfl (lv_at hl 2 rfl) ?_
              refine lv_iadd hx hb d_M_sample_85 ?_
              obtain ⟨hin20, hf⟩ := x_ck_some hf
              refine va_iald hx hb hK hP 10 0 (m_lk_A G _ (k := 10) (by decide)) rfl hin20 d_M_sample_86 ?_
              obtain ⟨rfl, rfl⟩ := x_ret hf
              exact W.iret (v := ((x_put z2 0 0 (2 : Int32)).1 10 (((((64 : Int32) * p1) + (p3 * ((x_put z2 0 0 (2 : Int32)).1 8 (p1).toNatClampNeg))) + p2)).toNatClampNeg)) hx hb hr (fun t ht hW => ⟨⟨_, _, rfl, ⟨rfl, rfl⟩, m_pw hP hD hK hG hS hz ht hW⟩, hS.F ht⟩) hS.2.2 d_M_sample_87
            · have hf := x_br_f hf hc18
              refine lv_iconst (v := (0 : Int32)) hx hb d_M_sample_63 (by decide) ?_
              refine lv_goto (tgt := 87) hx hb d_M_sample_64 (by decide) ?_
              obtain ⟨rfl, rfl⟩ := x_ret hf
              exact W.iret (v := (0 : Int32)) hx hb hr (fun t ht hW => ⟨⟨_, _, rfl, ⟨rfl, rfl⟩, m_pw hP hD hK hG hS hz ht hW⟩, hS.F ht⟩) hS.2.2 d_M_sample_87
          · have hf := x_br_f hf hc17
            refine lv_iload_n hx hb d_M_sample_38 rfl (lv_at hl 3 rfl) ?_
            refine lv_aload_n hx hb d_M_sample_39 rfl (lv_at hl 0 rfl) ?_
            refine va_get (D := x_D G) (ci := 5) (v := .ref (x_ad G 9)) (C := "ContentLibraryModel") (T := x_TM) (N := 31) hx hb hts x_inM hown hK hP 0 (m_lk_M G _) rfl 12 (by decide) (hts _ t_684) (fun _ h9 => h9) rfl d_M_sample_40 ?_
            refine lv_iload_n hx hb d_M_sample_43 rfl (lv_at hl 1 rfl) ?_
            obtain ⟨hin21, hf⟩ := x_ck_some hf
            refine va_iald hx hb hK hP 9 0 (m_lk_A G _ (k := 9) (by decide)) rfl hin21 d_M_sample_44 ?_
            refine lv_icmp_lt (tgt := 52) hx hb d_M_sample_45 (by decide) (fun hc22 => ?_) (fun hc22 => ?_)
            · have hf := x_br_t hf hc22
              refine lv_iconst (v := (0 : Int32)) hx hb d_M_sample_52 (by decide) ?_
              refine va_put (D := x_D G) (ci := 5) (v := .int (0 : Int32)) (ty := .int) (C := "ContentLibraryModel") (T := x_TM) (N := 31) hx hb hts x_inM x_tyM x_tyM_ok x_nmM hown hK hP hD hS 0 (m_lk_M G _) rfl 0 (by decide) (hts _ t_672) (fun _ h9 => h9) rfl (by decide +kernel) rfl rfl (Nat.le_of_ble_eq_true rfl) d_M_sample_53 (fun H locs hP hD hS => ?_)
              rw [m_st_M0 G _] at hP hD
              refine lv_aload_n hx hb d_M_sample_56 rfl (lv_at hl 0 rfl) ?_
              refine va_get (D := x_D G) (ci := 5) (v := .int ((x_put z2 0 0 (0 : Int32)).1 0 0)) (C := "ContentLibraryModel") (T := x_TM) (N := 31) hx hb hts x_inM hown hK hP 0 (m_lk_M G _) rfl 0 (by decide) (hts _ t_672) (fun _ h9 => h9) rfl d_M_sample_57 ?_
              refine lv_if_le (tgt := 67) hx hb d_M_sample_60 (by decide) (fun hc23 => ?_) (fun hc23 => ?_)
              · have hf := x_br_t hf hc23
                refine lv_aload_n hx hb d_M_sample_67 rfl (lv_at hl 0 rfl) ?_
                refine va_get (D := x_D G) (ci := 5) (v := .ref (x_ad G 10)) (C := "ContentLibraryModel") (T := x_TM) (N := 31) hx hb hts x_inM hown hK hP 0 (m_lk_M G _) rfl 13 (by decide) (hts _ t_685) (fun _ h9 => h9) rfl d_M_sample_68 ?_
                refine lv_bipush (v := (64 : Int32)) hx hb d_M_sample_71 (by decide) ?_
                refine lv_iload_n hx hb d_M_sample_73 rfl (lv_at hl 1 rfl) ?_
                refine lv_imul hx hb d_M_sample_74 ?_
                refine lv_iload_n hx hb d_M_sample_75 rfl (lv_at hl 3 rfl) ?_
                refine lv_aload_n hx hb d_M_sample_76 rfl (lv_at hl 0 rfl) ?_
                refine va_get (D := x_D G) (ci := 5) (v := .ref (x_ad G 8)) (C := "ContentLibraryModel") (T := x_TM) (N := 31) hx hb hts x_inM hown hK hP 0 (m_lk_M G _) rfl 11 (by decide) (hts _ t_683) (fun _ h9 => h9) rfl d_M_sample_77 ?_
                refine lv_iload_n hx hb d_M_sample_80 rfl (lv_at hl 1 rfl) ?_
                obtain ⟨hin24, hf⟩ := x_ck_some hf
                refine va_iald hx hb hK hP 8 0 (m_lk_A G _ (k := 8) (by decide)) rfl hin24 d_M_sample_81 ?_
                refine lv_imul hx hb d_M_sample_82 ?_
                refine lv_iadd hx hb d_M_sample_83 ?_
                refine lv_iload_n hx hb d_M_sample_84 rfl (lv_at hl 2 rfl) ?_
                refine lv_iadd hx hb d_M_sample_85 ?_
                obtain ⟨hin25, hf⟩ := x_ck_some hf
                refine va_iald hx hb hK hP 10 0 (m_lk_A G _ (k := 10) (by decide)) rfl hin25 d_M_sample_86 ?_
                obtain ⟨rfl, rfl⟩ := x_ret hf
                exact W.iret (v := ((x_put z2 0 0 (0 : Int32)).1 10 (((((64 : Int32) * p1) + (p3 * ((x_put z2 0 0 (0 : Int32)).1 8 (p1).toNatClampNeg))) + p2)).toNatClampNeg)) hx hb hr (fun t ht hW => ⟨⟨_, _, rfl, ⟨rfl, rfl⟩, m_pw hP hD hK hG hS hz ht hW⟩, hS.F ht⟩) hS.2.2 d_M_sample_87
              · have hf := x_br_f hf hc23
                refine lv_iconst (v := (0 : Int32)) hx hb d_M_sample_63 (by decide) ?_
                refine lv_goto (tgt := 87) hx hb d_M_sample_64 (by decide) ?_
                obtain ⟨rfl, rfl⟩ := x_ret hf
                exact W.iret (v := (0 : Int32)) hx hb hr (fun t ht hW => ⟨⟨_, _, rfl, ⟨rfl, rfl⟩, m_pw hP hD hK hG hS hz ht hW⟩, hS.F ht⟩) hS.2.2 d_M_sample_87
            · have hf := x_br_f hf hc22
              refine lv_iconst (v := (2 : Int32)) hx hb d_M_sample_48 (by decide) ?_
              refine lv_goto (tgt := 53) hx hb d_M_sample_49 (by decide) ?_
              refine va_put (D := x_D G) (ci := 5) (v := .int (2 : Int32)) (ty := .int) (C := "ContentLibraryModel") (T := x_TM) (N := 31) hx hb hts x_inM x_tyM x_tyM_ok x_nmM hown hK hP hD hS 0 (m_lk_M G _) rfl 0 (by decide) (hts _ t_672) (fun _ h9 => h9) rfl (by decide +kernel) rfl rfl (Nat.le_of_ble_eq_true rfl) d_M_sample_53 (fun H locs hP hD hS => ?_)
              rw [m_st_M0 G _] at hP hD
              refine lv_aload_n hx hb d_M_sample_56 rfl (lv_at hl 0 rfl) ?_
              refine va_get (D := x_D G) (ci := 5) (v := .int ((x_put z2 0 0 (2 : Int32)).1 0 0)) (C := "ContentLibraryModel") (T := x_TM) (N := 31) hx hb hts x_inM hown hK hP 0 (m_lk_M G _) rfl 0 (by decide) (hts _ t_672) (fun _ h9 => h9) rfl d_M_sample_57 ?_
              refine lv_if_le (tgt := 67) hx hb d_M_sample_60 (by decide) (fun hc26 => ?_) (fun hc26 => ?_)
              · have hf := x_br_t hf hc26
                refine lv_aload_n hx hb d_M_sample_67 rfl (lv_at hl 0 rfl) ?_
                refine va_get (D := x_D G) (ci := 5) (v := .ref (x_ad G 10)) (C := "ContentLibraryModel") (T := x_TM) (N := 31) hx hb hts x_inM hown hK hP 0 (m_lk_M G _) rfl 13 (by decide) (hts _ t_685) (fun _ h9 => h9) rfl d_M_sample_68 ?_
                refine lv_bipush (v := (64 : Int32)) hx hb d_M_sample_71 (by decide) ?_
                refine lv_iload_n hx hb d_M_sample_73 rfl (lv_at hl 1 rfl) ?_
                refine lv_imul hx hb d_M_sample_74 ?_
                refine lv_iload_n hx hb d_M_sample_75 rfl (lv_at hl 3 rfl) ?_
                refine lv_aload_n hx hb d_M_sample_76 rfl (lv_at hl 0 rfl) ?_
                refine va_get (D := x_D G) (ci := 5) (v := .ref (x_ad G 8)) (C := "ContentLibraryModel") (T := x_TM) (N := 31) hx hb hts x_inM hown hK hP 0 (m_lk_M G _) rfl 11 (by decide) (hts _ t_683) (fun _ h9 => h9) rfl d_M_sample_77 ?_
                refine lv_iload_n hx hb d_M_sample_80 rfl (lv_at hl 1 rfl) ?_
                obtain ⟨hin27, hf⟩ := x_ck_some hf
                refine va_iald hx hb hK hP 8 0 (m_lk_A G _ (k := 8) (by decide)) rfl hin27 d_M_sample_81 ?_
                refine lv_imul hx hb d_M_sample_82 ?_
                refine lv_iadd hx hb d_M_sample_83 ?_
                refine lv_iload_n hx hb d_M_sample_84 rfl (lv_at hl 2 rfl) ?_
                refine lv_iadd hx hb d_M_sample_85 ?_
                obtain ⟨hin28, hf⟩ := x_ck_some hf
                refine va_iald hx hb hK hP 10 0 (m_lk_A G _ (k := 10) (by decide)) rfl hin28 d_M_sample_86 ?_
                obtain ⟨rfl, rfl⟩ := x_ret hf
                exact W.iret (v := ((x_put z2 0 0 (2 : Int32)).1 10 (((((64 : Int32) * p1) + (p3 * ((x_put z2 0 0 (2 : Int32)).1 8 (p1).toNatClampNeg))) + p2)).toNatClampNeg)) hx hb hr (fun t ht hW => ⟨⟨_, _, rfl, ⟨rfl, rfl⟩, m_pw hP hD hK hG hS hz ht hW⟩, hS.F ht⟩) hS.2.2 d_M_sample_87
              · have hf := x_br_f hf hc26
                refine lv_iconst (v := (0 : Int32)) hx hb d_M_sample_63 (by decide) ?_
                refine lv_goto (tgt := 87) hx hb d_M_sample_64 (by decide) ?_
                obtain ⟨rfl, rfl⟩ := x_ret hf
                exact W.iret (v := (0 : Int32)) hx hb hr (fun t ht hW => ⟨⟨_, _, rfl, ⟨rfl, rfl⟩, m_pw hP hD hK hG hS hz ht hW⟩, hS.F ht⟩) hS.2.2 d_M_sample_87
  · have hf := x_br_f hf hc1
    refine lv_iconst (v := (1 : Int32)) hx hb d_M_sample_8 (by decide) ?_
    refine lv_goto (tgt := 53) hx hb d_M_sample_9 (by decide) ?_
    refine va_put (D := x_D G) (ci := 5) (v := .int (1 : Int32)) (ty := .int) (C := "ContentLibraryModel") (T := x_TM) (N := 31) hx hb hts x_inM x_tyM x_tyM_ok x_nmM hown hK hP hD hS 0 (m_lk_M G _) rfl 0 (by decide) (hts _ t_672) (fun _ h9 => h9) rfl (by decide +kernel) rfl rfl (Nat.le_of_ble_eq_true rfl) d_M_sample_53 (fun H locs hP hD hS => ?_)
    rw [m_st_M0 G _] at hP hD
    refine lv_aload_n hx hb d_M_sample_56 rfl (lv_at hl 0 rfl) ?_
    refine va_get (D := x_D G) (ci := 5) (v := .int ((x_put z0 0 0 (1 : Int32)).1 0 0)) (C := "ContentLibraryModel") (T := x_TM) (N := 31) hx hb hts x_inM hown hK hP 0 (m_lk_M G _) rfl 0 (by decide) (hts _ t_672) (fun _ h9 => h9) rfl d_M_sample_57 ?_
    refine lv_if_le (tgt := 67) hx hb d_M_sample_60 (by decide) (fun hc29 => ?_) (fun hc29 => ?_)
    · have hf := x_br_t hf hc29
      refine lv_aload_n hx hb d_M_sample_67 rfl (lv_at hl 0 rfl) ?_
      refine va_get (D := x_D G) (ci := 5) (v := .ref (x_ad G 10)) (C := "ContentLibraryModel") (T := x_TM) (N := 31) hx hb hts x_inM hown hK hP 0 (m_lk_M G _) rfl 13 (by decide) (hts _ t_685) (fun _ h9 => h9) rfl d_M_sample_68 ?_
      refine lv_bipush (v := (64 : Int32)) hx hb d_M_sample_71 (by decide) ?_
      refine lv_iload_n hx hb d_M_sample_73 rfl (lv_at hl 1 rfl) ?_
      refine lv_imul hx hb d_M_sample_74 ?_
      refine lv_iload_n hx hb d_M_sample_75 rfl (lv_at hl 3 rfl) ?_
      refine lv_aload_n hx hb d_M_sample_76 rfl (lv_at hl 0 rfl) ?_
      refine va_get (D := x_D G) (ci := 5) (v := .ref (x_ad G 8)) (C := "ContentLibraryModel") (T := x_TM) (N := 31) hx hb hts x_inM hown hK hP 0 (m_lk_M G _) rfl 11 (by decide) (hts _ t_683) (fun _ h9 => h9) rfl d_M_sample_77 ?_
      refine lv_iload_n hx hb d_M_sample_80 rfl (lv_at hl 1 rfl) ?_
      obtain ⟨hin30, hf⟩ := x_ck_some hf
      refine va_iald hx hb hK hP 8 0 (m_lk_A G _ (k := 8) (by decide)) rfl hin30 d_M_sample_81 ?_
      refine lv_imul hx hb d_M_sample_82 ?_
      refine lv_iadd hx hb d_M_sample_83 ?_
      refine lv_iload_n hx hb d_M_sample_84 rfl (lv_at hl 2 rfl) ?_
      refine lv_iadd hx hb d_M_sample_85 ?_
      obtain ⟨hin31, hf⟩ := x_ck_some hf
      refine va_iald hx hb hK hP 10 0 (m_lk_A G _ (k := 10) (by decide)) rfl hin31 d_M_sample_86 ?_
      obtain ⟨rfl, rfl⟩ := x_ret hf
      exact W.iret (v := ((x_put z0 0 0 (1 : Int32)).1 10 (((((64 : Int32) * p1) + (p3 * ((x_put z0 0 0 (1 : Int32)).1 8 (p1).toNatClampNeg))) + p2)).toNatClampNeg)) hx hb hr (fun t ht hW => ⟨⟨_, _, rfl, ⟨rfl, rfl⟩, m_pw hP hD hK hG hS hz ht hW⟩, hS.F ht⟩) hS.2.2 d_M_sample_87
    · have hf := x_br_f hf hc29
      refine lv_iconst (v := (0 : Int32)) hx hb d_M_sample_63 (by decide) ?_
      refine lv_goto (tgt := 87) hx hb d_M_sample_64 (by decide) ?_
      obtain ⟨rfl, rfl⟩ := x_ret hf
      exact W.iret (v := (0 : Int32)) hx hb hr (fun t ht hW => ⟨⟨_, _, rfl, ⟨rfl, rfl⟩, m_pw hP hD hK hG hS hz ht hW⟩, hS.F ht⟩) hS.2.2 d_M_sample_87
abbrev rm_M_near : Room := { frames := 1, cells := 0, slots := 0, locals := 21 }
set_option maxHeartbeats 4000000 in
set_option maxRecDepth 100000 in
theorem c_M_near (l : Launch) (G : x_G) (p1 : Int32) (p2 : Int32) (z0 : x_St) (r : Int32) (zo : x_St) (hf : f_M_near (x_n G) p1 p2 z0 = some (r, zo)) : Met l (⟨"ContentLibraryModel", "near", "(II)I"⟩ : MethodName) (x_ws (⟨"ContentLibraryModel", "near", "(II)I"⟩ : MethodName) prog_7_method_30_code 7 (some .int)) rm_M_near (va_Pc [.ref (x_ad G 0), .int p1, .int p2] (m_PW G z0)) (va_Qi (fun a u => r = a ∧ zo = u) (m_PW G) (x_A G)) 0 0 (x_A G) := by
  refine Met.ofW (cc := prog_7_method_30_code) (maxL := 7) (ret := (some .int)) (by decide) rfl ?_
  intro p e s m args below meth c s₁ B hml hv
  obtain ⟨rfl, hz, hP, hD, hK, hG⟩ := hv
  have C0 : m_Ctx G p s m _ meth c prog_7_method_30_code "ContentLibraryModel" 7 (some .int) := ⟨B.exec, B.bytes, B.returns, hml, findClass_of_methodNamed B.named, fun w h => atoms_spec (ws := (x_ws (⟨"ContentLibraryModel", "near", "(II)I"⟩ : MethodName) prog_7_method_30_code 7 (some .int))) B.pre w (List.mem_cons_of_mem _ h), B.notSynchronized, hz, hK, hG⟩
  obtain ⟨hx, hb, hr, hml, hown, hts, hlocks, hz, hK, hG⟩ := id C0
  have hS : va_S (x_A G) s.heap s.heap [] := va_S.rf
  have hl := lv_entry ([.ref (x_ad G 0), .int p1, .int p2]) (n := 7) (Nat.le_of_ble_eq_true rfl)
  rw [lg_entry_eq]
  generalize (lg_sl ([.ref (x_ad G 0), .int p1, .int p2]) ++ List.replicate (7 - (lg_sl ([.ref (x_ad G 0), .int p1, .int p2])).length) Slot.unset).toArray = ls at hl ⊢
  have hl : lv_has ls 7 [(0, .ref (x_ad G 0)), (1, .int p1), (2, .int p2)] := hl
  rw [f_M_near] at hf
  refine lv_aload_n hx hb d_M_near_0 rfl (lv_at hl 0 rfl) ?_
  refine lv_aload_n hx hb d_M_near_1 rfl (lv_at hl 0 rfl) ?_
  refine va_get (D := x_D G) (ci := 5) (v := .int (z0.1 0 3)) (C := "ContentLibraryModel") (T := x_TM) (N := 31) hx hb hts x_inM hown hK hP 0 (m_lk_M G _) rfl 3 (by decide) (hts _ t_675) (fun _ h9 => h9) rfl d_M_near_2 ?_
  refine lv_if_eq (tgt := 12) hx hb d_M_near_5 (by decide) (fun hc1 => ?_) (fun hc1 => ?_)
  · have hf := x_br_t hf hc1
    refine lv_aload_n hx hb d_M_near_12 rfl (lv_at hl 0 rfl) ?_
    refine lv_iload_n hx hb d_M_near_13 rfl (lv_at hl 1 rfl) ?_
    obtain ⟨r2, z2, hq3, hf⟩ := x_cl_some hf
    refine va_calli (va_runV (As := [.int p1]) (rest := [.ref (x_ad G 0)]) ⟨hx, hb, hml, hown, hts⟩ (c_M_isMade l G p1 z0 r2 z2 hq3) (cwV 1 hts (x_gV t_779 t_781 sel_ContentLibraryModel_isMade t_7 t_782) rfl rfl rfl (by decide +kernel) ⟨Nat.le_of_ble_eq_true rfl, Nat.le_of_ble_eq_true rfl⟩) ⟨m_blind _ _ _, va_recv hK hP (ci := 5) (q0 := 0) rfl (m_lk_M G _), fun U hU hW => ⟨rfl, m_pw hP hD hK hG hS hz hU hW⟩⟩ rfl rfl hl.1 rfl (lv_room (Nat.le_of_ble_eq_true rfl)) d_M_near_14 ⟨Nat.le_of_ble_eq_true rfl, Nat.le_of_ble_eq_true rfl⟩) hS (fun q _ h => h) (fun q h => h) (fun ra u t H locs ht hvm hw hB _ _ hS => ?_)
    obtain ⟨rfl, rfl⟩ := hw
    obtain ⟨hP, hD⟩ := m_back hB ht
    refine lv_if_ne (tgt := 24) hx hb d_M_near_17 (by decide) (fun hc4 => ?_) (fun hc4 => ?_)
    · have hf := x_br_f hf hc4
      refine lv_aload_n hx hb d_M_near_24 rfl (lv_at hl 0 rfl) ?_
      refine lv_iload_n hx hb d_M_near_25 rfl (lv_at hl 1 rfl) ?_
      obtain ⟨r5, z5, hq6, hf⟩ := x_cl_some hf
      refine va_calli (va_runV (As := [.int p1]) (rest := [.ref (x_ad G 0)]) ⟨hx, hb, hml, hown, hts⟩ (c_M_isWhole l G p1 z2 r5 z5 hq6) (cwV 1 hts (x_gV t_783 t_785 sel_ContentLibraryModel_isWhole t_7 t_786) rfl rfl rfl (by decide +kernel) ⟨Nat.le_of_ble_eq_true rfl, Nat.le_of_ble_eq_true rfl⟩) ⟨m_blind _ _ _, va_recv hK hP (ci := 5) (q0 := 0) rfl (m_lk_M G _), fun U hU hW => ⟨rfl, m_pw hP hD hK hG hS hz hU hW⟩⟩ rfl rfl hl.1 rfl (lv_room (Nat.le_of_ble_eq_true rfl)) d_M_near_26 ⟨Nat.le_of_ble_eq_true rfl, Nat.le_of_ble_eq_true rfl⟩) hS (fun q _ h => h) (fun q h => h) (fun ra u t H locs ht hvm hw hB _ _ hS => ?_)
      obtain ⟨rfl, rfl⟩ := hw
      obtain ⟨hP, hD⟩ := m_back hB ht
      refine lv_if_eq (tgt := 42) hx hb d_M_near_29 (by decide) (fun hc7 => ?_) (fun hc7 => ?_)
      · have hf := x_br_t hf hc7
        refine lv_iconst (v := (3 : Int32)) hx hb d_M_near_42 (by decide) ?_
        refine lv_goto (tgt := 47) hx hb d_M_near_43 (by decide) ?_
        refine va_put (D := x_D G) (ci := 5) (v := .int (3 : Int32)) (ty := .int) (C := "ContentLibraryModel") (T := x_TM) (N := 31) hx hb hts x_inM x_tyM x_tyM_ok x_nmM hown hK hP hD hS 0 (m_lk_M G _) rfl 0 (by decide) (hts _ t_672) (fun _ h9 => h9) rfl (by decide +kernel) rfl rfl (Nat.le_of_ble_eq_true rfl) d_M_near_47 (fun H locs hP hD hS => ?_)
        rw [m_st_M0 G _] at hP hD
        refine lv_aload_n hx hb d_M_near_50 rfl (lv_at hl 0 rfl) ?_
        refine va_get (D := x_D G) (ci := 5) (v := .int ((x_put z5 0 0 (3 : Int32)).1 0 0)) (C := "ContentLibraryModel") (T := x_TM) (N := 31) hx hb hts x_inM hown hK hP 0 (m_lk_M G _) rfl 0 (by decide) (hts _ t_672) (fun _ h9 => h9) rfl d_M_near_51 ?_
        refine lv_if_le (tgt := 59) hx hb d_M_near_54 (by decide) (fun hc8 => ?_) (fun hc8 => ?_)
        · have hf := x_br_t hf hc8
          cases hf
        · have hf := x_br_f hf hc8
          refine lv_iconst (v := (0 : Int32)) hx hb d_M_near_57 (by decide) ?_
          obtain ⟨rfl, rfl⟩ := x_ret hf
          exact W.iret (v := (0 : Int32)) hx hb hr (fun t ht hW => ⟨⟨_, _, rfl, ⟨rfl, rfl⟩, m_pw hP hD hK hG hS hz ht hW⟩, hS.F ht⟩) hS.2.2 d_M_near_58
      · have hf := x_br_f hf hc7
        refine lv_iload_n hx hb d_M_near_32 rfl (lv_at hl 2 rfl) ?_
        refine lv_if_lt (tgt := 42) hx hb d_M_near_33 (by decide) (fun hc9 => ?_) (fun hc9 => ?_)
        · have hf := x_br_t hf hc9
          refine lv_iconst (v := (3 : Int32)) hx hb d_M_near_42 (by decide) ?_
          refine lv_goto (tgt := 47) hx hb d_M_near_43 (by decide) ?_
          refine va_put (D := x_D G) (ci := 5) (v := .int (3 : Int32)) (ty := .int) (C := "ContentLibraryModel") (T := x_TM) (N := 31) hx hb hts x_inM x_tyM x_tyM_ok x_nmM hown hK hP hD hS 0 (m_lk_M G _) rfl 0 (by decide) (hts _ t_672) (fun _ h9 => h9) rfl (by decide +kernel) rfl rfl (Nat.le_of_ble_eq_true rfl) d_M_near_47 (fun H locs hP hD hS => ?_)
          rw [m_st_M0 G _] at hP hD
          refine lv_aload_n hx hb d_M_near_50 rfl (lv_at hl 0 rfl) ?_
          refine va_get (D := x_D G) (ci := 5) (v := .int ((x_put z5 0 0 (3 : Int32)).1 0 0)) (C := "ContentLibraryModel") (T := x_TM) (N := 31) hx hb hts x_inM hown hK hP 0 (m_lk_M G _) rfl 0 (by decide) (hts _ t_672) (fun _ h9 => h9) rfl d_M_near_51 ?_
          refine lv_if_le (tgt := 59) hx hb d_M_near_54 (by decide) (fun hc10 => ?_) (fun hc10 => ?_)
          · have hf := x_br_t hf hc10
            cases hf
          · have hf := x_br_f hf hc10
            refine lv_iconst (v := (0 : Int32)) hx hb d_M_near_57 (by decide) ?_
            obtain ⟨rfl, rfl⟩ := x_ret hf
            exact W.iret (v := (0 : Int32)) hx hb hr (fun t ht hW => ⟨⟨_, _, rfl, ⟨rfl, rfl⟩, m_pw hP hD hK hG hS hz ht hW⟩, hS.F ht⟩) hS.2.2 d_M_near_58
        · have hf := x_br_f hf hc9
          refine lv_iload_n hx hb d_M_near_36 rfl (lv_at hl 2 rfl) ?_
          refine lv_bipush (v := (64 : Int32)) hx hb d_M_near_37 (by decide) ?_
          refine lv_icmp_le (tgt := 46) hx hb d_M_near_39 (by decide) (fun hc11 => ?_) (fun hc11 => ?_)
          · have hf := x_br_t hf hc11
            refine lv_iconst (v := (0 : Int32)) hx hb d_M_near_46 (by decide) ?_
            refine va_put (D := x_D G) (ci := 5) (v := .int (0 : Int32)) (ty := .int) (C := "ContentLibraryModel") (T := x_TM) (N := 31) hx hb hts x_inM x_tyM x_tyM_ok x_nmM hown hK hP hD hS 0 (m_lk_M G _) rfl 0 (by decide) (hts _ t_672) (fun _ h9 => h9) rfl (by decide +kernel) rfl rfl (Nat.le_of_ble_eq_true rfl) d_M_near_47 (fun H locs hP hD hS => ?_)
            rw [m_st_M0 G _] at hP hD
            refine lv_aload_n hx hb d_M_near_50 rfl (lv_at hl 0 rfl) ?_
            refine va_get (D := x_D G) (ci := 5) (v := .int ((x_put z5 0 0 (0 : Int32)).1 0 0)) (C := "ContentLibraryModel") (T := x_TM) (N := 31) hx hb hts x_inM hown hK hP 0 (m_lk_M G _) rfl 0 (by decide) (hts _ t_672) (fun _ h9 => h9) rfl d_M_near_51 ?_
            refine lv_if_le (tgt := 59) hx hb d_M_near_54 (by decide) (fun hc12 => ?_) (fun hc12 => ?_)
            · have hf := x_br_t hf hc12
              cases hf
            · have hf := x_br_f hf hc12
              refine lv_iconst (v := (0 : Int32)) hx hb d_M_near_57 (by decide) ?_
              obtain ⟨rfl, rfl⟩ := x_ret hf
              exact W.iret (v := (0 : Int32)) hx hb hr (fun t ht hW => ⟨⟨_, _, rfl, ⟨rfl, rfl⟩, m_pw hP hD hK hG hS hz ht hW⟩, hS.F ht⟩) hS.2.2 d_M_near_58
          · have hf := x_br_f hf hc11
            refine lv_iconst (v := (3 : Int32)) hx hb d_M_near_42 (by decide) ?_
            refine lv_goto (tgt := 47) hx hb d_M_near_43 (by decide) ?_
            refine va_put (D := x_D G) (ci := 5) (v := .int (3 : Int32)) (ty := .int) (C := "ContentLibraryModel") (T := x_TM) (N := 31) hx hb hts x_inM x_tyM x_tyM_ok x_nmM hown hK hP hD hS 0 (m_lk_M G _) rfl 0 (by decide) (hts _ t_672) (fun _ h9 => h9) rfl (by decide +kernel) rfl rfl (Nat.le_of_ble_eq_true rfl) d_M_near_47 (fun H locs hP hD hS => ?_)
            rw [m_st_M0 G _] at hP hD
            refine lv_aload_n hx hb d_M_near_50 rfl (lv_at hl 0 rfl) ?_
            refine va_get (D := x_D G) (ci := 5) (v := .int ((x_put z5 0 0 (3 : Int32)).1 0 0)) (C := "ContentLibraryModel") (T := x_TM) (N := 31) hx hb hts x_inM hown hK hP 0 (m_lk_M G _) rfl 0 (by decide) (hts _ t_672) (fun _ h9 => h9) rfl d_M_near_51 ?_
            refine lv_if_le (tgt := 59) hx hb d_M_near_54 (by decide) (fun hc13 => ?_) (fun hc13 => ?_)
            · have hf := x_br_t hf hc13
              cases hf
            · have hf := x_br_f hf hc13
              refine lv_iconst (v := (0 : Int32)) hx hb d_M_near_57 (by decide) ?_
              obtain ⟨rfl, rfl⟩ := x_ret hf
              exact W.iret (v := (0 : Int32)) hx hb hr (fun t ht hW => ⟨⟨_, _, rfl, ⟨rfl, rfl⟩, m_pw hP hD hK hG hS hz ht hW⟩, hS.F ht⟩) hS.2.2 d_M_near_58
    · have hf := x_br_t hf hc4
      refine lv_iconst (v := (2 : Int32)) hx hb d_M_near_20 (by decide) ?_
      refine lv_goto (tgt := 47) hx hb d_M_near_21 (by decide) ?_
      refine va_put (D := x_D G) (ci := 5) (v := .int (2 : Int32)) (ty := .int) (C := "ContentLibraryModel") (T := x_TM) (N := 31) hx hb hts x_inM x_tyM x_tyM_ok x_nmM hown hK hP hD hS 0 (m_lk_M G _) rfl 0 (by decide) (hts _ t_672) (fun _ h9 => h9) rfl (by decide +kernel) rfl rfl (Nat.le_of_ble_eq_true rfl) d_M_near_47 (fun H locs hP hD hS => ?_)
      rw [m_st_M0 G _] at hP hD
      refine lv_aload_n hx hb d_M_near_50 rfl (lv_at hl 0 rfl) ?_
      refine va_get (D := x_D G) (ci := 5) (v := .int ((x_put z2 0 0 (2 : Int32)).1 0 0)) (C := "ContentLibraryModel") (T := x_TM) (N := 31) hx hb hts x_inM hown hK hP 0 (m_lk_M G _) rfl 0 (by decide) (hts _ t_672) (fun _ h9 => h9) rfl d_M_near_51 ?_
      refine lv_if_le (tgt := 59) hx hb d_M_near_54 (by decide) (fun hc14 => ?_) (fun hc14 => ?_)
      · have hf := x_br_t hf hc14
        cases hf
      · have hf := x_br_f hf hc14
        refine lv_iconst (v := (0 : Int32)) hx hb d_M_near_57 (by decide) ?_
        obtain ⟨rfl, rfl⟩ := x_ret hf
        exact W.iret (v := (0 : Int32)) hx hb hr (fun t ht hW => ⟨⟨_, _, rfl, ⟨rfl, rfl⟩, m_pw hP hD hK hG hS hz ht hW⟩, hS.F ht⟩) hS.2.2 d_M_near_58
  · have hf := x_br_f hf hc1
    refine lv_iconst (v := (1 : Int32)) hx hb d_M_near_8 (by decide) ?_
    refine lv_goto (tgt := 47) hx hb d_M_near_9 (by decide) ?_
    refine va_put (D := x_D G) (ci := 5) (v := .int (1 : Int32)) (ty := .int) (C := "ContentLibraryModel") (T := x_TM) (N := 31) hx hb hts x_inM x_tyM x_tyM_ok x_nmM hown hK hP hD hS 0 (m_lk_M G _) rfl 0 (by decide) (hts _ t_672) (fun _ h9 => h9) rfl (by decide +kernel) rfl rfl (Nat.le_of_ble_eq_true rfl) d_M_near_47 (fun H locs hP hD hS => ?_)
    rw [m_st_M0 G _] at hP hD
    refine lv_aload_n hx hb d_M_near_50 rfl (lv_at hl 0 rfl) ?_
    refine va_get (D := x_D G) (ci := 5) (v := .int ((x_put z0 0 0 (1 : Int32)).1 0 0)) (C := "ContentLibraryModel") (T := x_TM) (N := 31) hx hb hts x_inM hown hK hP 0 (m_lk_M G _) rfl 0 (by decide) (hts _ t_672) (fun _ h9 => h9) rfl d_M_near_51 ?_
    refine lv_if_le (tgt := 59) hx hb d_M_near_54 (by decide) (fun hc15 => ?_) (fun hc15 => ?_)
    · have hf := x_br_t hf hc15
      cases hf
    · have hf := x_br_f hf hc15
      refine lv_iconst (v := (0 : Int32)) hx hb d_M_near_57 (by decide) ?_
      obtain ⟨rfl, rfl⟩ := x_ret hf
      exact W.iret (v := (0 : Int32)) hx hb hr (fun t ht hW => ⟨⟨_, _, rfl, ⟨rfl, rfl⟩, m_pw hP hD hK hG hS hz ht hW⟩, hS.F ht⟩) hS.2.2 d_M_near_58
abbrev rm_M_found : Room := { frames := 0, cells := 0, slots := 0, locals := 0 }
set_option maxHeartbeats 4000000 in
set_option maxRecDepth 100000 in
theorem c_M_found (l : Launch) (G : x_G) (p1 : Int32) (p2 : Int32) (z0 : x_St) (r : Int32) (zo : x_St) (hf : f_M_found (x_n G) p1 p2 z0 = some (r, zo)) : Met l (⟨"ContentLibraryModel", "found", "(II)I"⟩ : MethodName) (x_ws (⟨"ContentLibraryModel", "found", "(II)I"⟩ : MethodName) prog_7_method_32_code 3 (some .int)) rm_M_found (va_Pc [.ref (x_ad G 0), .int p1, .int p2] (m_PW G z0)) (va_Qi (fun a u => r = a ∧ zo = u) (m_PW G) (x_A G)) 0 0 (x_A G) := by
  refine Met.ofW (cc := prog_7_method_32_code) (maxL := 3) (ret := (some .int)) (by decide) rfl ?_
  intro p e s m args below meth c s₁ B hml hv
  obtain ⟨rfl, hz, hP, hD, hK, hG⟩ := hv
  have C0 : m_Ctx G p s m _ meth c prog_7_method_32_code "ContentLibraryModel" 3 (some .int) := ⟨B.exec, B.bytes, B.returns, hml, findClass_of_methodNamed B.named, fun w h => atoms_spec (ws := (x_ws (⟨"ContentLibraryModel", "found", "(II)I"⟩ : MethodName) prog_7_method_32_code 3 (some .int))) B.pre w (List.mem_cons_of_mem _ h), B.notSynchronized, hz, hK, hG⟩
  obtain ⟨hx, hb, hr, hml, hown, hts, hlocks, hz, hK, hG⟩ := id C0
  have hS : va_S (x_A G) s.heap s.heap [] := va_S.rf
  have hl := lv_entry ([.ref (x_ad G 0), .int p1, .int p2]) (n := 3) (Nat.le_of_ble_eq_true rfl)
  rw [lg_entry_eq]
  generalize (lg_sl ([.ref (x_ad G 0), .int p1, .int p2]) ++ List.replicate (3 - (lg_sl ([.ref (x_ad G 0), .int p1, .int p2])).length) Slot.unset).toArray = ls at hl ⊢
  have hl : lv_has ls 3 [(0, .ref (x_ad G 0)), (1, .int p1), (2, .int p2)] := hl
  rw [f_M_found] at hf
  refine lv_aload_n hx hb d_M_found_0 rfl (lv_at hl 0 rfl) ?_
  refine lv_aload_n hx hb d_M_found_1 rfl (lv_at hl 0 rfl) ?_
  refine va_get (D := x_D G) (ci := 5) (v := .int (z0.1 0 3)) (C := "ContentLibraryModel") (T := x_TM) (N := 31) hx hb hts x_inM hown hK hP 0 (m_lk_M G _) rfl 3 (by decide) (hts _ t_675) (fun _ h9 => h9) rfl d_M_found_2 ?_
  refine lv_if_eq (tgt := 12) hx hb d_M_found_5 (by decide) (fun hc1 => ?_) (fun hc1 => ?_)
  · have hf := x_br_t hf hc1
    refine lv_iload_n hx hb d_M_found_12 rfl (lv_at hl 1 rfl) ?_
    refine lv_if_lt (tgt := 24) hx hb d_M_found_13 (by decide) (fun hc2 => ?_) (fun hc2 => ?_)
    · have hf := x_br_t hf hc2
      refine lv_iconst (v := (2 : Int32)) hx hb d_M_found_24 (by decide) ?_
      refine lv_goto (tgt := 42) hx hb d_M_found_25 (by decide) ?_
      refine va_put (D := x_D G) (ci := 5) (v := .int (2 : Int32)) (ty := .int) (C := "ContentLibraryModel") (T := x_TM) (N := 31) hx hb hts x_inM x_tyM x_tyM_ok x_nmM hown hK hP hD hS 0 (m_lk_M G _) rfl 0 (by decide) (hts _ t_672) (fun _ h9 => h9) rfl (by decide +kernel) rfl rfl (Nat.le_of_ble_eq_true rfl) d_M_found_42 (fun H locs hP hD hS => ?_)
      rw [m_st_M0 G _] at hP hD
      refine lv_aload_n hx hb d_M_found_45 rfl (lv_at hl 0 rfl) ?_
      refine va_get (D := x_D G) (ci := 5) (v := .int ((x_put z0 0 0 (2 : Int32)).1 0 0)) (C := "ContentLibraryModel") (T := x_TM) (N := 31) hx hb hts x_inM hown hK hP 0 (m_lk_M G _) rfl 0 (by decide) (hts _ t_672) (fun _ h9 => h9) rfl d_M_found_46 ?_
      refine lv_if_le (tgt := 56) hx hb d_M_found_49 (by decide) (fun hc3 => ?_) (fun hc3 => ?_)
      · have hf := x_br_t hf hc3
        refine lv_iload_n hx hb d_M_found_56 rfl (lv_at hl 2 rfl) ?_
        refine lv_if_ne (tgt := 69) hx hb d_M_found_57 (by decide) (fun hc4 => ?_) (fun hc4 => ?_)
        · have hf := x_br_f hf hc4
          refine lv_aload_n hx hb d_M_found_69 rfl (lv_at hl 0 rfl) ?_
          refine va_get (D := x_D G) (ci := 5) (v := .ref (x_ad G 17)) (C := "ContentLibraryModel") (T := x_TM) (N := 31) hx hb hts x_inM hown hK hP 0 (m_lk_M G _) rfl 21 (by decide) (hts _ t_693) (fun _ h9 => h9) rfl d_M_found_70 ?_
          refine lv_iload_n hx hb d_M_found_73 rfl (lv_at hl 1 rfl) ?_
          obtain ⟨hin5, hf⟩ := x_ck_some hf
          refine va_iald hx hb hK hP 17 0 (m_lk_A G _ (k := 17) (by decide)) rfl hin5 d_M_found_74 ?_
          obtain ⟨rfl, rfl⟩ := x_ret hf
          exact W.iret (v := ((x_put z0 0 0 (2 : Int32)).1 17 (p1).toNatClampNeg)) hx hb hr (fun t ht hW => ⟨⟨_, _, rfl, ⟨rfl, rfl⟩, m_pw hP hD hK hG hS hz ht hW⟩, hS.F ht⟩) hS.2.2 d_M_found_75
        · have hf := x_br_t hf hc4
          refine lv_aload_n hx hb d_M_found_60 rfl (lv_at hl 0 rfl) ?_
          refine va_get (D := x_D G) (ci := 5) (v := .ref (x_ad G 16)) (C := "ContentLibraryModel") (T := x_TM) (N := 31) hx hb hts x_inM hown hK hP 0 (m_lk_M G _) rfl 20 (by decide) (hts _ t_692) (fun _ h9 => h9) rfl d_M_found_61 ?_
          refine lv_iload_n hx hb d_M_found_64 rfl (lv_at hl 1 rfl) ?_
          obtain ⟨hin6, hf⟩ := x_ck_some hf
          refine va_iald hx hb hK hP 16 0 (m_lk_A G _ (k := 16) (by decide)) rfl hin6 d_M_found_65 ?_
          refine lv_goto (tgt := 75) hx hb d_M_found_66 (by decide) ?_
          obtain ⟨rfl, rfl⟩ := x_ret hf
          exact W.iret (v := ((x_put z0 0 0 (2 : Int32)).1 16 (p1).toNatClampNeg)) hx hb hr (fun t ht hW => ⟨⟨_, _, rfl, ⟨rfl, rfl⟩, m_pw hP hD hK hG hS hz ht hW⟩, hS.F ht⟩) hS.2.2 d_M_found_75
      · have hf := x_br_f hf hc3
        refine lv_iconst (v := (0 : Int32)) hx hb d_M_found_52 (by decide) ?_
        refine lv_goto (tgt := 75) hx hb d_M_found_53 (by decide) ?_
        obtain ⟨rfl, rfl⟩ := x_ret hf
        exact W.iret (v := (0 : Int32)) hx hb hr (fun t ht hW => ⟨⟨_, _, rfl, ⟨rfl, rfl⟩, m_pw hP hD hK hG hS hz ht hW⟩, hS.F ht⟩) hS.2.2 d_M_found_75
    · have hf := x_br_f hf hc2
      refine lv_iload_n hx hb d_M_found_16 rfl (lv_at hl 1 rfl) ?_
      refine lv_aload_n hx hb d_M_found_17 rfl (lv_at hl 0 rfl) ?_
      refine va_get (D := x_D G) (ci := 5) (v := .int (z0.1 0 19)) (C := "ContentLibraryModel") (T := x_TM) (N := 31) hx hb hts x_inM hown hK hP 0 (m_lk_M G _) rfl 19 (by decide) (hts _ t_691) (fun _ h9 => h9) rfl d_M_found_18 ?_
      refine lv_icmp_lt (tgt := 28) hx hb d_M_found_21 (by decide) (fun hc7 => ?_) (fun hc7 => ?_)
      · have hf := x_br_t hf hc7
        refine lv_iload_n hx hb d_M_found_28 rfl (lv_at hl 2 rfl) ?_
        refine lv_if_lt (tgt := 37) hx hb d_M_found_29 (by decide) (fun hc8 => ?_) (fun hc8 => ?_)
        · have hf := x_br_t hf hc8
          refine lv_iconst (v := (3 : Int32)) hx hb d_M_found_37 (by decide) ?_
          refine lv_goto (tgt := 42) hx hb d_M_found_38 (by decide) ?_
          refine va_put (D := x_D G) (ci := 5) (v := .int (3 : Int32)) (ty := .int) (C := "ContentLibraryModel") (T := x_TM) (N := 31) hx hb hts x_inM x_tyM x_tyM_ok x_nmM hown hK hP hD hS 0 (m_lk_M G _) rfl 0 (by decide) (hts _ t_672) (fun _ h9 => h9) rfl (by decide +kernel) rfl rfl (Nat.le_of_ble_eq_true rfl) d_M_found_42 (fun H locs hP hD hS => ?_)
          rw [m_st_M0 G _] at hP hD
          refine lv_aload_n hx hb d_M_found_45 rfl (lv_at hl 0 rfl) ?_
          refine va_get (D := x_D G) (ci := 5) (v := .int ((x_put z0 0 0 (3 : Int32)).1 0 0)) (C := "ContentLibraryModel") (T := x_TM) (N := 31) hx hb hts x_inM hown hK hP 0 (m_lk_M G _) rfl 0 (by decide) (hts _ t_672) (fun _ h9 => h9) rfl d_M_found_46 ?_
          refine lv_if_le (tgt := 56) hx hb d_M_found_49 (by decide) (fun hc9 => ?_) (fun hc9 => ?_)
          · have hf := x_br_t hf hc9
            refine lv_iload_n hx hb d_M_found_56 rfl (lv_at hl 2 rfl) ?_
            refine lv_if_ne (tgt := 69) hx hb d_M_found_57 (by decide) (fun hc10 => ?_) (fun hc10 => ?_)
            · have hf := x_br_f hf hc10
              refine lv_aload_n hx hb d_M_found_69 rfl (lv_at hl 0 rfl) ?_
              refine va_get (D := x_D G) (ci := 5) (v := .ref (x_ad G 17)) (C := "ContentLibraryModel") (T := x_TM) (N := 31) hx hb hts x_inM hown hK hP 0 (m_lk_M G _) rfl 21 (by decide) (hts _ t_693) (fun _ h9 => h9) rfl d_M_found_70 ?_
              refine lv_iload_n hx hb d_M_found_73 rfl (lv_at hl 1 rfl) ?_
              obtain ⟨hin11, hf⟩ := x_ck_some hf
              refine va_iald hx hb hK hP 17 0 (m_lk_A G _ (k := 17) (by decide)) rfl hin11 d_M_found_74 ?_
              obtain ⟨rfl, rfl⟩ := x_ret hf
              exact W.iret (v := ((x_put z0 0 0 (3 : Int32)).1 17 (p1).toNatClampNeg)) hx hb hr (fun t ht hW => ⟨⟨_, _, rfl, ⟨rfl, rfl⟩, m_pw hP hD hK hG hS hz ht hW⟩, hS.F ht⟩) hS.2.2 d_M_found_75
            · have hf := x_br_t hf hc10
              refine lv_aload_n hx hb d_M_found_60 rfl (lv_at hl 0 rfl) ?_
              refine va_get (D := x_D G) (ci := 5) (v := .ref (x_ad G 16)) (C := "ContentLibraryModel") (T := x_TM) (N := 31) hx hb hts x_inM hown hK hP 0 (m_lk_M G _) rfl 20 (by decide) (hts _ t_692) (fun _ h9 => h9) rfl d_M_found_61 ?_
              refine lv_iload_n hx hb d_M_found_64 rfl (lv_at hl 1 rfl) ?_
              obtain ⟨hin12, hf⟩ := x_ck_some hf
              refine va_iald hx hb hK hP 16 0 (m_lk_A G _ (k := 16) (by decide)) rfl hin12 d_M_found_65 ?_
              refine lv_goto (tgt := 75) hx hb d_M_found_66 (by decide) ?_
              obtain ⟨rfl, rfl⟩ := x_ret hf
              exact W.iret (v := ((x_put z0 0 0 (3 : Int32)).1 16 (p1).toNatClampNeg)) hx hb hr (fun t ht hW => ⟨⟨_, _, rfl, ⟨rfl, rfl⟩, m_pw hP hD hK hG hS hz ht hW⟩, hS.F ht⟩) hS.2.2 d_M_found_75
          · have hf := x_br_f hf hc9
            refine lv_iconst (v := (0 : Int32)) hx hb d_M_found_52 (by decide) ?_
            refine lv_goto (tgt := 75) hx hb d_M_found_53 (by decide) ?_
            obtain ⟨rfl, rfl⟩ := x_ret hf
            exact W.iret (v := (0 : Int32)) hx hb hr (fun t ht hW => ⟨⟨_, _, rfl, ⟨rfl, rfl⟩, m_pw hP hD hK hG hS hz ht hW⟩, hS.F ht⟩) hS.2.2 d_M_found_75
        · have hf := x_br_f hf hc8
          refine lv_iload_n hx hb d_M_found_32 rfl (lv_at hl 2 rfl) ?_
          refine lv_iconst (v := (1 : Int32)) hx hb d_M_found_33 (by decide) ?_
          refine lv_icmp_le (tgt := 41) hx hb d_M_found_34 (by decide) (fun hc13 => ?_) (fun hc13 => ?_)
          · have hf := x_br_t hf hc13
            refine lv_iconst (v := (0 : Int32)) hx hb d_M_found_41 (by decide) ?_
            refine va_put (D := x_D G) (ci := 5) (v := .int (0 : Int32)) (ty := .int) (C := "ContentLibraryModel") (T := x_TM) (N := 31) hx hb hts x_inM x_tyM x_tyM_ok x_nmM hown hK hP hD hS 0 (m_lk_M G _) rfl 0 (by decide) (hts _ t_672) (fun _ h9 => h9) rfl (by decide +kernel) rfl rfl (Nat.le_of_ble_eq_true rfl) d_M_found_42 (fun H locs hP hD hS => ?_)
            rw [m_st_M0 G _] at hP hD
            refine lv_aload_n hx hb d_M_found_45 rfl (lv_at hl 0 rfl) ?_
            refine va_get (D := x_D G) (ci := 5) (v := .int ((x_put z0 0 0 (0 : Int32)).1 0 0)) (C := "ContentLibraryModel") (T := x_TM) (N := 31) hx hb hts x_inM hown hK hP 0 (m_lk_M G _) rfl 0 (by decide) (hts _ t_672) (fun _ h9 => h9) rfl d_M_found_46 ?_
            refine lv_if_le (tgt := 56) hx hb d_M_found_49 (by decide) (fun hc14 => ?_) (fun hc14 => ?_)
            · have hf := x_br_t hf hc14
              refine lv_iload_n hx hb d_M_found_56 rfl (lv_at hl 2 rfl) ?_
              refine lv_if_ne (tgt := 69) hx hb d_M_found_57 (by decide) (fun hc15 => ?_) (fun hc15 => ?_)
              · have hf := x_br_f hf hc15
                refine lv_aload_n hx hb d_M_found_69 rfl (lv_at hl 0 rfl) ?_
                refine va_get (D := x_D G) (ci := 5) (v := .ref (x_ad G 17)) (C := "ContentLibraryModel") (T := x_TM) (N := 31) hx hb hts x_inM hown hK hP 0 (m_lk_M G _) rfl 21 (by decide) (hts _ t_693) (fun _ h9 => h9) rfl d_M_found_70 ?_
                refine lv_iload_n hx hb d_M_found_73 rfl (lv_at hl 1 rfl) ?_
                obtain ⟨hin16, hf⟩ := x_ck_some hf
                refine va_iald hx hb hK hP 17 0 (m_lk_A G _ (k := 17) (by decide)) rfl hin16 d_M_found_74 ?_
                obtain ⟨rfl, rfl⟩ := x_ret hf
                exact W.iret (v := ((x_put z0 0 0 (0 : Int32)).1 17 (p1).toNatClampNeg)) hx hb hr (fun t ht hW => ⟨⟨_, _, rfl, ⟨rfl, rfl⟩, m_pw hP hD hK hG hS hz ht hW⟩, hS.F ht⟩) hS.2.2 d_M_found_75
              · have hf := x_br_t hf hc15
                refine lv_aload_n hx hb d_M_found_60 rfl (lv_at hl 0 rfl) ?_
                refine va_get (D := x_D G) (ci := 5) (v := .ref (x_ad G 16)) (C := "ContentLibraryModel") (T := x_TM) (N := 31) hx hb hts x_inM hown hK hP 0 (m_lk_M G _) rfl 20 (by decide) (hts _ t_692) (fun _ h9 => h9) rfl d_M_found_61 ?_
                refine lv_iload_n hx hb d_M_found_64 rfl (lv_at hl 1 rfl) ?_
                obtain ⟨hin17, hf⟩ := x_ck_some hf
                refine va_iald hx hb hK hP 16 0 (m_lk_A G _ (k := 16) (by decide)) rfl hin17 d_M_found_65 ?_
                refine lv_goto (tgt := 75) hx hb d_M_found_66 (by decide) ?_
                obtain ⟨rfl, rfl⟩ := x_ret hf
                exact W.iret (v := ((x_put z0 0 0 (0 : Int32)).1 16 (p1).toNatClampNeg)) hx hb hr (fun t ht hW => ⟨⟨_, _, rfl, ⟨rfl, rfl⟩, m_pw hP hD hK hG hS hz ht hW⟩, hS.F ht⟩) hS.2.2 d_M_found_75
            · have hf := x_br_f hf hc14
              refine lv_iconst (v := (0 : Int32)) hx hb d_M_found_52 (by decide) ?_
              refine lv_goto (tgt := 75) hx hb d_M_found_53 (by decide) ?_
              obtain ⟨rfl, rfl⟩ := x_ret hf
              exact W.iret (v := (0 : Int32)) hx hb hr (fun t ht hW => ⟨⟨_, _, rfl, ⟨rfl, rfl⟩, m_pw hP hD hK hG hS hz ht hW⟩, hS.F ht⟩) hS.2.2 d_M_found_75
          · have hf := x_br_f hf hc13
            refine lv_iconst (v := (3 : Int32)) hx hb d_M_found_37 (by decide) ?_
            refine lv_goto (tgt := 42) hx hb d_M_found_38 (by decide) ?_
            refine va_put (D := x_D G) (ci := 5) (v := .int (3 : Int32)) (ty := .int) (C := "ContentLibraryModel") (T := x_TM) (N := 31) hx hb hts x_inM x_tyM x_tyM_ok x_nmM hown hK hP hD hS 0 (m_lk_M G _) rfl 0 (by decide) (hts _ t_672) (fun _ h9 => h9) rfl (by decide +kernel) rfl rfl (Nat.le_of_ble_eq_true rfl) d_M_found_42 (fun H locs hP hD hS => ?_)
            rw [m_st_M0 G _] at hP hD
            refine lv_aload_n hx hb d_M_found_45 rfl (lv_at hl 0 rfl) ?_
            refine va_get (D := x_D G) (ci := 5) (v := .int ((x_put z0 0 0 (3 : Int32)).1 0 0)) (C := "ContentLibraryModel") (T := x_TM) (N := 31) hx hb hts x_inM hown hK hP 0 (m_lk_M G _) rfl 0 (by decide) (hts _ t_672) (fun _ h9 => h9) rfl d_M_found_46 ?_
            refine lv_if_le (tgt := 56) hx hb d_M_found_49 (by decide) (fun hc18 => ?_) (fun hc18 => ?_)
            · have hf := x_br_t hf hc18
              refine lv_iload_n hx hb d_M_found_56 rfl (lv_at hl 2 rfl) ?_
              refine lv_if_ne (tgt := 69) hx hb d_M_found_57 (by decide) (fun hc19 => ?_) (fun hc19 => ?_)
              · have hf := x_br_f hf hc19
                refine lv_aload_n hx hb d_M_found_69 rfl (lv_at hl 0 rfl) ?_
                refine va_get (D := x_D G) (ci := 5) (v := .ref (x_ad G 17)) (C := "ContentLibraryModel") (T := x_TM) (N := 31) hx hb hts x_inM hown hK hP 0 (m_lk_M G _) rfl 21 (by decide) (hts _ t_693) (fun _ h9 => h9) rfl d_M_found_70 ?_
                refine lv_iload_n hx hb d_M_found_73 rfl (lv_at hl 1 rfl) ?_
                obtain ⟨hin20, hf⟩ := x_ck_some hf
                refine va_iald hx hb hK hP 17 0 (m_lk_A G _ (k := 17) (by decide)) rfl hin20 d_M_found_74 ?_
                obtain ⟨rfl, rfl⟩ := x_ret hf
                exact W.iret (v := ((x_put z0 0 0 (3 : Int32)).1 17 (p1).toNatClampNeg)) hx hb hr (fun t ht hW => ⟨⟨_, _, rfl, ⟨rfl, rfl⟩, m_pw hP hD hK hG hS hz ht hW⟩, hS.F ht⟩) hS.2.2 d_M_found_75
              · have hf := x_br_t hf hc19
                refine lv_aload_n hx hb d_M_found_60 rfl (lv_at hl 0 rfl) ?_
                refine va_get (D := x_D G) (ci := 5) (v := .ref (x_ad G 16)) (C := "ContentLibraryModel") (T := x_TM) (N := 31) hx hb hts x_inM hown hK hP 0 (m_lk_M G _) rfl 20 (by decide) (hts _ t_692) (fun _ h9 => h9) rfl d_M_found_61 ?_
                refine lv_iload_n hx hb d_M_found_64 rfl (lv_at hl 1 rfl) ?_
                obtain ⟨hin21, hf⟩ := x_ck_some hf
                refine va_iald hx hb hK hP 16 0 (m_lk_A G _ (k := 16) (by decide)) rfl hin21 d_M_found_65 ?_
                refine lv_goto (tgt := 75) hx hb d_M_found_66 (by decide) ?_
                obtain ⟨rfl, rfl⟩ := x_ret hf
                exact W.iret (v := ((x_put z0 0 0 (3 : Int32)).1 16 (p1).toNatClampNeg)) hx hb hr (fun t ht hW => ⟨⟨_, _, rfl, ⟨rfl, rfl⟩, m_pw hP hD hK hG hS hz ht hW⟩, hS.F ht⟩) hS.2.2 d_M_found_75
            · have hf := x_br_f hf hc18
              refine lv_iconst (v := (0 : Int32)) hx hb d_M_found_52 (by decide) ?_
              refine lv_goto (tgt := 75) hx hb d_M_found_53 (by decide) ?_
              obtain ⟨rfl, rfl⟩ := x_ret hf
              exact W.iret (v := (0 : Int32)) hx hb hr (fun t ht hW => ⟨⟨_, _, rfl, ⟨rfl, rfl⟩, m_pw hP hD hK hG hS hz ht hW⟩, hS.F ht⟩) hS.2.2 d_M_found_75
      · have hf := x_br_f hf hc7
        refine lv_iconst (v := (2 : Int32)) hx hb d_M_found_24 (by decide) ?_
        refine lv_goto (tgt := 42) hx hb d_M_found_25 (by decide) ?_
        refine va_put (D := x_D G) (ci := 5) (v := .int (2 : Int32)) (ty := .int) (C := "ContentLibraryModel") (T := x_TM) (N := 31) hx hb hts x_inM x_tyM x_tyM_ok x_nmM hown hK hP hD hS 0 (m_lk_M G _) rfl 0 (by decide) (hts _ t_672) (fun _ h9 => h9) rfl (by decide +kernel) rfl rfl (Nat.le_of_ble_eq_true rfl) d_M_found_42 (fun H locs hP hD hS => ?_)
        rw [m_st_M0 G _] at hP hD
        refine lv_aload_n hx hb d_M_found_45 rfl (lv_at hl 0 rfl) ?_
        refine va_get (D := x_D G) (ci := 5) (v := .int ((x_put z0 0 0 (2 : Int32)).1 0 0)) (C := "ContentLibraryModel") (T := x_TM) (N := 31) hx hb hts x_inM hown hK hP 0 (m_lk_M G _) rfl 0 (by decide) (hts _ t_672) (fun _ h9 => h9) rfl d_M_found_46 ?_
        refine lv_if_le (tgt := 56) hx hb d_M_found_49 (by decide) (fun hc22 => ?_) (fun hc22 => ?_)
        · have hf := x_br_t hf hc22
          refine lv_iload_n hx hb d_M_found_56 rfl (lv_at hl 2 rfl) ?_
          refine lv_if_ne (tgt := 69) hx hb d_M_found_57 (by decide) (fun hc23 => ?_) (fun hc23 => ?_)
          · have hf := x_br_f hf hc23
            refine lv_aload_n hx hb d_M_found_69 rfl (lv_at hl 0 rfl) ?_
            refine va_get (D := x_D G) (ci := 5) (v := .ref (x_ad G 17)) (C := "ContentLibraryModel") (T := x_TM) (N := 31) hx hb hts x_inM hown hK hP 0 (m_lk_M G _) rfl 21 (by decide) (hts _ t_693) (fun _ h9 => h9) rfl d_M_found_70 ?_
            refine lv_iload_n hx hb d_M_found_73 rfl (lv_at hl 1 rfl) ?_
            obtain ⟨hin24, hf⟩ := x_ck_some hf
            refine va_iald hx hb hK hP 17 0 (m_lk_A G _ (k := 17) (by decide)) rfl hin24 d_M_found_74 ?_
            obtain ⟨rfl, rfl⟩ := x_ret hf
            exact W.iret (v := ((x_put z0 0 0 (2 : Int32)).1 17 (p1).toNatClampNeg)) hx hb hr (fun t ht hW => ⟨⟨_, _, rfl, ⟨rfl, rfl⟩, m_pw hP hD hK hG hS hz ht hW⟩, hS.F ht⟩) hS.2.2 d_M_found_75
          · have hf := x_br_t hf hc23
            refine lv_aload_n hx hb d_M_found_60 rfl (lv_at hl 0 rfl) ?_
            refine va_get (D := x_D G) (ci := 5) (v := .ref (x_ad G 16)) (C := "ContentLibraryModel") (T := x_TM) (N := 31) hx hb hts x_inM hown hK hP 0 (m_lk_M G _) rfl 20 (by decide) (hts _ t_692) (fun _ h9 => h9) rfl d_M_found_61 ?_
            refine lv_iload_n hx hb d_M_found_64 rfl (lv_at hl 1 rfl) ?_
            obtain ⟨hin25, hf⟩ := x_ck_some hf
            refine va_iald hx hb hK hP 16 0 (m_lk_A G _ (k := 16) (by decide)) rfl hin25 d_M_found_65 ?_
            refine lv_goto (tgt := 75) hx hb d_M_found_66 (by decide) ?_
            obtain ⟨rfl, rfl⟩ := x_ret hf
            exact W.iret (v := ((x_put z0 0 0 (2 : Int32)).1 16 (p1).toNatClampNeg)) hx hb hr (fun t ht hW => ⟨⟨_, _, rfl, ⟨rfl, rfl⟩, m_pw hP hD hK hG hS hz ht hW⟩, hS.F ht⟩) hS.2.2 d_M_found_75
        · have hf := x_br_f hf hc22
          refine lv_iconst (v := (0 : Int32)) hx hb d_M_found_52 (by decide) ?_
          refine lv_goto (tgt := 75) hx hb d_M_found_53 (by decide) ?_
          obtain ⟨rfl, rfl⟩ := x_ret hf
          exact W.iret (v := (0 : Int32)) hx hb hr (fun t ht hW => ⟨⟨_, _, rfl, ⟨rfl, rfl⟩, m_pw hP hD hK hG hS hz ht hW⟩, hS.F ht⟩) hS.2.2 d_M_found_75
  · have hf := x_br_f hf hc1
    refine lv_iconst (v := (1 : Int32)) hx hb d_M_found_8 (by decide) ?_
    refine lv_goto (tgt := 42) hx hb d_M_found_9 (by decide) ?_
    refine va_put (D := x_D G) (ci := 5) (v := .int (1 : Int32)) (ty := .int) (C := "ContentLibraryModel") (T := x_TM) (N := 31) hx hb hts x_inM x_tyM x_tyM_ok x_nmM hown hK hP hD hS 0 (m_lk_M G _) rfl 0 (by decide) (hts _ t_672) (fun _ h9 => h9) rfl (by decide +kernel) rfl rfl (Nat.le_of_ble_eq_true rfl) d_M_found_42 (fun H locs hP hD hS => ?_)
    rw [m_st_M0 G _] at hP hD
    refine lv_aload_n hx hb d_M_found_45 rfl (lv_at hl 0 rfl) ?_
    refine va_get (D := x_D G) (ci := 5) (v := .int ((x_put z0 0 0 (1 : Int32)).1 0 0)) (C := "ContentLibraryModel") (T := x_TM) (N := 31) hx hb hts x_inM hown hK hP 0 (m_lk_M G _) rfl 0 (by decide) (hts _ t_672) (fun _ h9 => h9) rfl d_M_found_46 ?_
    refine lv_if_le (tgt := 56) hx hb d_M_found_49 (by decide) (fun hc26 => ?_) (fun hc26 => ?_)
    · have hf := x_br_t hf hc26
      refine lv_iload_n hx hb d_M_found_56 rfl (lv_at hl 2 rfl) ?_
      refine lv_if_ne (tgt := 69) hx hb d_M_found_57 (by decide) (fun hc27 => ?_) (fun hc27 => ?_)
      · have hf := x_br_f hf hc27
        refine lv_aload_n hx hb d_M_found_69 rfl (lv_at hl 0 rfl) ?_
        refine va_get (D := x_D G) (ci := 5) (v := .ref (x_ad G 17)) (C := "ContentLibraryModel") (T := x_TM) (N := 31) hx hb hts x_inM hown hK hP 0 (m_lk_M G _) rfl 21 (by decide) (hts _ t_693) (fun _ h9 => h9) rfl d_M_found_70 ?_
        refine lv_iload_n hx hb d_M_found_73 rfl (lv_at hl 1 rfl) ?_
        obtain ⟨hin28, hf⟩ := x_ck_some hf
        refine va_iald hx hb hK hP 17 0 (m_lk_A G _ (k := 17) (by decide)) rfl hin28 d_M_found_74 ?_
        obtain ⟨rfl, rfl⟩ := x_ret hf
        exact W.iret (v := ((x_put z0 0 0 (1 : Int32)).1 17 (p1).toNatClampNeg)) hx hb hr (fun t ht hW => ⟨⟨_, _, rfl, ⟨rfl, rfl⟩, m_pw hP hD hK hG hS hz ht hW⟩, hS.F ht⟩) hS.2.2 d_M_found_75
      · have hf := x_br_t hf hc27
        refine lv_aload_n hx hb d_M_found_60 rfl (lv_at hl 0 rfl) ?_
        refine va_get (D := x_D G) (ci := 5) (v := .ref (x_ad G 16)) (C := "ContentLibraryModel") (T := x_TM) (N := 31) hx hb hts x_inM hown hK hP 0 (m_lk_M G _) rfl 20 (by decide) (hts _ t_692) (fun _ h9 => h9) rfl d_M_found_61 ?_
        refine lv_iload_n hx hb d_M_found_64 rfl (lv_at hl 1 rfl) ?_
        obtain ⟨hin29, hf⟩ := x_ck_some hf
        refine va_iald hx hb hK hP 16 0 (m_lk_A G _ (k := 16) (by decide)) rfl hin29 d_M_found_65 ?_
        refine lv_goto (tgt := 75) hx hb d_M_found_66 (by decide) ?_
        obtain ⟨rfl, rfl⟩ := x_ret hf
        exact W.iret (v := ((x_put z0 0 0 (1 : Int32)).1 16 (p1).toNatClampNeg)) hx hb hr (fun t ht hW => ⟨⟨_, _, rfl, ⟨rfl, rfl⟩, m_pw hP hD hK hG hS hz ht hW⟩, hS.F ht⟩) hS.2.2 d_M_found_75
    · have hf := x_br_f hf hc26
      refine lv_iconst (v := (0 : Int32)) hx hb d_M_found_52 (by decide) ?_
      refine lv_goto (tgt := 75) hx hb d_M_found_53 (by decide) ?_
      obtain ⟨rfl, rfl⟩ := x_ret hf
      exact W.iret (v := (0 : Int32)) hx hb hr (fun t ht hW => ⟨⟨_, _, rfl, ⟨rfl, rfl⟩, m_pw hP hD hK hG hS hz ht hW⟩, hS.F ht⟩) hS.2.2 d_M_found_75
abbrev rm_M_drop : Room := { frames := 1, cells := 0, slots := 0, locals := 21 }
set_option maxHeartbeats 4000000 in
set_option maxRecDepth 100000 in
theorem c_M_drop (l : Launch) (G : x_G) (p1 : Int32) (z0 : x_St) (r : Int32) (zo : x_St) (hf : f_M_drop (x_n G) p1 z0 = some (r, zo)) : Met l (⟨"ContentLibraryModel", "drop", "(I)I"⟩ : MethodName) (x_ws (⟨"ContentLibraryModel", "drop", "(I)I"⟩ : MethodName) prog_7_method_33_code 3 (some .int)) rm_M_drop (va_Pc [.ref (x_ad G 0), .int p1] (m_PW G z0)) (va_Qi (fun a u => r = a ∧ zo = u) (m_PW G) (x_A G)) 0 0 (x_A G) := by
  refine Met.ofW (cc := prog_7_method_33_code) (maxL := 3) (ret := (some .int)) (by decide) rfl ?_
  intro p e s m args below meth c s₁ B hml hv
  obtain ⟨rfl, hz, hP, hD, hK, hG⟩ := hv
  have C0 : m_Ctx G p s m _ meth c prog_7_method_33_code "ContentLibraryModel" 3 (some .int) := ⟨B.exec, B.bytes, B.returns, hml, findClass_of_methodNamed B.named, fun w h => atoms_spec (ws := (x_ws (⟨"ContentLibraryModel", "drop", "(I)I"⟩ : MethodName) prog_7_method_33_code 3 (some .int))) B.pre w (List.mem_cons_of_mem _ h), B.notSynchronized, hz, hK, hG⟩
  obtain ⟨hx, hb, hr, hml, hown, hts, hlocks, hz, hK, hG⟩ := id C0
  have hS : va_S (x_A G) s.heap s.heap [] := va_S.rf
  have hl := lv_entry ([.ref (x_ad G 0), .int p1]) (n := 3) (Nat.le_of_ble_eq_true rfl)
  rw [lg_entry_eq]
  generalize (lg_sl ([.ref (x_ad G 0), .int p1]) ++ List.replicate (3 - (lg_sl ([.ref (x_ad G 0), .int p1])).length) Slot.unset).toArray = ls at hl ⊢
  have hl : lv_has ls 3 [(0, .ref (x_ad G 0)), (1, .int p1)] := hl
  rw [f_M_drop] at hf
  refine lv_aload_n hx hb d_M_drop_0 rfl (lv_at hl 0 rfl) ?_
  refine lv_aload_n hx hb d_M_drop_1 rfl (lv_at hl 0 rfl) ?_
  refine va_get (D := x_D G) (ci := 5) (v := .int (z0.1 0 3)) (C := "ContentLibraryModel") (T := x_TM) (N := 31) hx hb hts x_inM hown hK hP 0 (m_lk_M G _) rfl 3 (by decide) (hts _ t_675) (fun _ h9 => h9) rfl d_M_drop_2 ?_
  refine lv_if_eq (tgt := 12) hx hb d_M_drop_5 (by decide) (fun hc1 => ?_) (fun hc1 => ?_)
  · have hf := x_br_t hf hc1
    refine lv_aload_n hx hb d_M_drop_12 rfl (lv_at hl 0 rfl) ?_
    refine lv_iload_n hx hb d_M_drop_13 rfl (lv_at hl 1 rfl) ?_
    obtain ⟨r2, z2, hq3, hf⟩ := x_cl_some hf
    refine va_calli (va_runV (As := [.int p1]) (rest := [.ref (x_ad G 0)]) ⟨hx, hb, hml, hown, hts⟩ (c_M_isThere l G p1 z0 r2 z2 hq3) (cwV 1 hts (x_gV t_850 t_852 sel_ContentLibraryModel_isThere t_7 t_853) rfl rfl rfl (by decide +kernel) ⟨Nat.le_of_ble_eq_true rfl, Nat.le_of_ble_eq_true rfl⟩) ⟨m_blind _ _ _, va_recv hK hP (ci := 5) (q0 := 0) rfl (m_lk_M G _), fun U hU hW => ⟨rfl, m_pw hP hD hK hG hS hz hU hW⟩⟩ rfl rfl hl.1 rfl (lv_room (Nat.le_of_ble_eq_true rfl)) d_M_drop_14 ⟨Nat.le_of_ble_eq_true rfl, Nat.le_of_ble_eq_true rfl⟩) hS (fun q _ h => h) (fun q h => h) (fun ra u t H locs ht hvm hw hB _ _ hS => ?_)
    obtain ⟨rfl, rfl⟩ := hw
    obtain ⟨hP, hD⟩ := m_back hB ht
    refine lv_if_ne (tgt := 24) hx hb d_M_drop_17 (by decide) (fun hc4 => ?_) (fun hc4 => ?_)
    · have hf := x_br_f hf hc4
      refine lv_iconst (v := (0 : Int32)) hx hb d_M_drop_24 (by decide) ?_
      refine va_put (D := x_D G) (ci := 5) (v := .int (0 : Int32)) (ty := .int) (C := "ContentLibraryModel") (T := x_TM) (N := 31) hx hb hts x_inM x_tyM x_tyM_ok x_nmM hown hK hP hD hS 0 (m_lk_M G _) rfl 0 (by decide) (hts _ t_672) (fun _ h9 => h9) rfl (by decide +kernel) rfl rfl (Nat.le_of_ble_eq_true rfl) d_M_drop_25 (fun H locs hP hD hS => ?_)
      rw [m_st_M0 G _] at hP hD
      refine lv_aload_n hx hb d_M_drop_28 rfl (lv_at hl 0 rfl) ?_
      refine va_get (D := x_D G) (ci := 5) (v := .int ((x_put z2 0 0 (0 : Int32)).1 0 0)) (C := "ContentLibraryModel") (T := x_TM) (N := 31) hx hb hts x_inM hown hK hP 0 (m_lk_M G _) rfl 0 (by decide) (hts _ t_672) (fun _ h9 => h9) rfl d_M_drop_29 ?_
      refine lv_if_le (tgt := 37) hx hb d_M_drop_32 (by decide) (fun hc5 => ?_) (fun hc5 => ?_)
      · have hf := x_br_t hf hc5
        cases hf
      · have hf := x_br_f hf hc5
        refine lv_iconst (v := (0 : Int32)) hx hb d_M_drop_35 (by decide) ?_
        obtain ⟨rfl, rfl⟩ := x_ret hf
        exact W.iret (v := (0 : Int32)) hx hb hr (fun t ht hW => ⟨⟨_, _, rfl, ⟨rfl, rfl⟩, m_pw hP hD hK hG hS hz ht hW⟩, hS.F ht⟩) hS.2.2 d_M_drop_36
    · have hf := x_br_t hf hc4
      refine lv_iconst (v := (2 : Int32)) hx hb d_M_drop_20 (by decide) ?_
      refine lv_goto (tgt := 25) hx hb d_M_drop_21 (by decide) ?_
      refine va_put (D := x_D G) (ci := 5) (v := .int (2 : Int32)) (ty := .int) (C := "ContentLibraryModel") (T := x_TM) (N := 31) hx hb hts x_inM x_tyM x_tyM_ok x_nmM hown hK hP hD hS 0 (m_lk_M G _) rfl 0 (by decide) (hts _ t_672) (fun _ h9 => h9) rfl (by decide +kernel) rfl rfl (Nat.le_of_ble_eq_true rfl) d_M_drop_25 (fun H locs hP hD hS => ?_)
      rw [m_st_M0 G _] at hP hD
      refine lv_aload_n hx hb d_M_drop_28 rfl (lv_at hl 0 rfl) ?_
      refine va_get (D := x_D G) (ci := 5) (v := .int ((x_put z2 0 0 (2 : Int32)).1 0 0)) (C := "ContentLibraryModel") (T := x_TM) (N := 31) hx hb hts x_inM hown hK hP 0 (m_lk_M G _) rfl 0 (by decide) (hts _ t_672) (fun _ h9 => h9) rfl d_M_drop_29 ?_
      refine lv_if_le (tgt := 37) hx hb d_M_drop_32 (by decide) (fun hc6 => ?_) (fun hc6 => ?_)
      · have hf := x_br_t hf hc6
        cases hf
      · have hf := x_br_f hf hc6
        refine lv_iconst (v := (0 : Int32)) hx hb d_M_drop_35 (by decide) ?_
        obtain ⟨rfl, rfl⟩ := x_ret hf
        exact W.iret (v := (0 : Int32)) hx hb hr (fun t ht hW => ⟨⟨_, _, rfl, ⟨rfl, rfl⟩, m_pw hP hD hK hG hS hz ht hW⟩, hS.F ht⟩) hS.2.2 d_M_drop_36
  · have hf := x_br_f hf hc1
    refine lv_iconst (v := (1 : Int32)) hx hb d_M_drop_8 (by decide) ?_
    refine lv_goto (tgt := 25) hx hb d_M_drop_9 (by decide) ?_
    refine va_put (D := x_D G) (ci := 5) (v := .int (1 : Int32)) (ty := .int) (C := "ContentLibraryModel") (T := x_TM) (N := 31) hx hb hts x_inM x_tyM x_tyM_ok x_nmM hown hK hP hD hS 0 (m_lk_M G _) rfl 0 (by decide) (hts _ t_672) (fun _ h9 => h9) rfl (by decide +kernel) rfl rfl (Nat.le_of_ble_eq_true rfl) d_M_drop_25 (fun H locs hP hD hS => ?_)
    rw [m_st_M0 G _] at hP hD
    refine lv_aload_n hx hb d_M_drop_28 rfl (lv_at hl 0 rfl) ?_
    refine va_get (D := x_D G) (ci := 5) (v := .int ((x_put z0 0 0 (1 : Int32)).1 0 0)) (C := "ContentLibraryModel") (T := x_TM) (N := 31) hx hb hts x_inM hown hK hP 0 (m_lk_M G _) rfl 0 (by decide) (hts _ t_672) (fun _ h9 => h9) rfl d_M_drop_29 ?_
    refine lv_if_le (tgt := 37) hx hb d_M_drop_32 (by decide) (fun hc7 => ?_) (fun hc7 => ?_)
    · have hf := x_br_t hf hc7
      cases hf
    · have hf := x_br_f hf hc7
      refine lv_iconst (v := (0 : Int32)) hx hb d_M_drop_35 (by decide) ?_
      obtain ⟨rfl, rfl⟩ := x_ret hf
      exact W.iret (v := (0 : Int32)) hx hb hr (fun t ht hW => ⟨⟨_, _, rfl, ⟨rfl, rfl⟩, m_pw hP hD hK hG hS hz ht hW⟩, hS.F ht⟩) hS.2.2 d_M_drop_36
abbrev rm_M_sweep : Room := { frames := 2, cells := 0, slots := 0, locals := 45 }
set_option maxHeartbeats 4000000 in
set_option maxRecDepth 100000 in
theorem w_M_sweep_76 (l : Launch) (G : x_G) {p : Program} {e : Env} {s : State} {m : MethodId} {args : Array Value} {below : List Frame} {meth : Method} {c : Code} (C0 : m_Ctx G p s m args meth c prog_7_method_34_code "ContentLibraryModel" 3 (some .int)) (r : Int32) (zo : x_St) : ∀ (a1 : Int32) (z0 : x_St), f_M_sweep_76 (x_n G) a1 z0 = some (r, zo) → ∀ (H : Heap) (locs : List Loc) (ls : Array Slot), va_P (x_D G) vwCl (m_Wd G z0) H → va_D (x_A G) (m_Wd G z0) → va_S (x_A G) s.heap H locs → lv_has ls 3 [(0, .ref (x_ad G 0)), (1, .int a1)] → W p l e rm_M_sweep s m args below meth c H locs 0 0 (MQ below (va_Qi (fun a u => r = a ∧ zo = u) (m_PW G) (x_A G)) args s 0 0 (x_A G)) (F0 m 76 ls []) := by
  obtain ⟨hx, hb, hr, hml, hown, hts, hlocks, hz, hK, hG⟩ := id C0
  intro a1 z0 hf H locs ls hP hD hS hl
  rw [f_M_sweep_76] at hf
  refine lv_aload_n hx hb d_M_sweep_76 rfl (lv_at hl 0 rfl) ?_
  obtain ⟨r1, z1, hq2, hf⟩ := x_cl_some hf
  refine va_calli (va_runV (As := []) (rest := []) ⟨hx, hb, hml, hown, hts⟩ (c_M_isGone l G z0 r1 z1 hq2) (cwV 0 hts (x_gV t_835 t_837 sel_ContentLibraryModel_isGone t_7 t_838) rfl rfl rfl (by decide +kernel) ⟨Nat.le_of_ble_eq_true rfl, Nat.le_of_ble_eq_true rfl⟩) ⟨m_blind _ _ _, va_recv hK hP (ci := 5) (q0 := 0) rfl (m_lk_M G _), fun U hU hW => ⟨rfl, m_pw hP hD hK hG hS hz hU hW⟩⟩ rfl rfl hl.1 rfl (lv_room (Nat.le_of_ble_eq_true rfl)) d_M_sweep_77 ⟨Nat.le_of_ble_eq_true rfl, Nat.le_of_ble_eq_true rfl⟩) hS (fun q _ h => h) (fun q h => h) (fun ra u t H locs ht hvm hw hB _ _ hS => ?_)
  obtain ⟨rfl, rfl⟩ := hw
  obtain ⟨hP, hD⟩ := m_back hB ht
  refine lv_if_eq (tgt := 88) hx hb d_M_sweep_80 (by decide) (fun hc3 => ?_) (fun hc3 => ?_)
  · have hf := x_br_t hf hc3
    refine lv_iload_n hx hb d_M_sweep_88 rfl (lv_at hl 1 rfl) ?_
    obtain ⟨rfl, rfl⟩ := x_ret hf
    exact W.iret (v := a1) hx hb hr (fun t ht hW => ⟨⟨_, _, rfl, ⟨rfl, rfl⟩, m_pw hP hD hK hG hS hz ht hW⟩, hS.F ht⟩) hS.2.2 d_M_sweep_89
  · have hf := x_br_f hf hc3
    refine lv_bipush (v := (-2 : Int32)) hx hb d_M_sweep_83 (by decide) ?_
    refine lv_goto (tgt := 89) hx hb d_M_sweep_85 (by decide) ?_
    obtain ⟨rfl, rfl⟩ := x_ret hf
    exact W.iret (v := (-2 : Int32)) hx hb hr (fun t ht hW => ⟨⟨_, _, rfl, ⟨rfl, rfl⟩, m_pw hP hD hK hG hS hz ht hW⟩, hS.F ht⟩) hS.2.2 d_M_sweep_89
set_option maxHeartbeats 4000000 in
set_option maxRecDepth 100000 in
theorem w_M_sweep_29 (l : Launch) (G : x_G) {p : Program} {e : Env} {s : State} {m : MethodId} {args : Array Value} {below : List Frame} {meth : Method} {c : Code} (C0 : m_Ctx G p s m args meth c prog_7_method_34_code "ContentLibraryModel" 3 (some .int)) (r : Int32) (zo : x_St) : ∀ (fu : Nat), ∀ (a1 : Int32) (a2 : Int32) (z0 : x_St), f_M_sweep_29 (x_n G) fu a1 a2 z0 = some (r, zo) → ∀ (H : Heap) (locs : List Loc) (ls : Array Slot), va_P (x_D G) vwCl (m_Wd G z0) H → va_D (x_A G) (m_Wd G z0) → va_S (x_A G) s.heap H locs → lv_has ls 3 [(0, .ref (x_ad G 0)), (1, .int a1), (2, .int a2)] → W p l e rm_M_sweep s m args below meth c H locs 0 0 (MQ below (va_Qi (fun a u => r = a ∧ zo = u) (m_PW G) (x_A G)) args s 0 0 (x_A G)) (F0 m 29 ls []) := by
  obtain ⟨hx, hb, hr, hml, hown, hts, hlocks, hz, hK, hG⟩ := id C0
  intro fu
  induction fu with
  | zero =>
    intro a1 a2 z0 hf
    rw [f_M_sweep_29] at hf
    cases hf
  | succ fu ih =>
    intro a1 a2 z0 hf H locs ls hP hD hS hl
    rw [f_M_sweep_29] at hf
    refine lv_iload_n hx hb d_M_sweep_29 rfl (lv_at hl 2 rfl) ?_
    refine lv_aload_n hx hb d_M_sweep_30 rfl (lv_at hl 0 rfl) ?_
    refine va_get (D := x_D G) (ci := 5) (v := .int (z0.1 0 1)) (C := "ContentLibraryModel") (T := x_TM) (N := 31) hx hb hts x_inM hown hK hP 0 (m_lk_M G _) rfl 1 (by decide) (hts _ t_673) (fun _ h9 => h9) rfl d_M_sweep_31 ?_
    refine lv_icmp_ge (tgt := 76) hx hb d_M_sweep_34 (by decide) (fun hc4 => ?_) (fun hc4 => ?_)
    · have hf := x_br_t hf hc4
      exact w_M_sweep_76 l G C0 r zo a1 z0 hf _ _ _ hP hD hS (lv_sub hl [0, 1] rfl)
    · have hf := x_br_f hf hc4
      refine lv_aload_n hx hb d_M_sweep_37 rfl (lv_at hl 0 rfl) ?_
      refine va_get (D := x_D G) (ci := 5) (v := .int (z0.1 0 3)) (C := "ContentLibraryModel") (T := x_TM) (N := 31) hx hb hts x_inM hown hK hP 0 (m_lk_M G _) rfl 3 (by decide) (hts _ t_675) (fun _ h9 => h9) rfl d_M_sweep_38 ?_
      refine lv_if_ne (tgt := 70) hx hb d_M_sweep_41 (by decide) (fun hc5 => ?_) (fun hc5 => ?_)
      · have hf := x_br_f hf hc5
        refine lv_iinc (v := (a2 + (1 : Int32))) (lv' := [(2, .int (a2 + (1 : Int32))), (0, .ref (x_ad G 0)), (1, .int a1)]) hx hb d_M_sweep_70 hl (k := 2) rfl rfl (by decide) rfl (fun ls hl => ?_)
        refine lv_goto (tgt := 29) hx hb d_M_sweep_73 (by decide) ?_
        exact ih a1 (a2 + (1 : Int32)) z0 hf _ _ _ hP hD hS (lv_sub hl [1, 2, 0] rfl)
      · have hf := x_br_t hf hc5
        refine lv_aload_n hx hb d_M_sweep_44 rfl (lv_at hl 0 rfl) ?_
        refine va_get (D := x_D G) (ci := 5) (v := .ref (x_ad G 15)) (C := "ContentLibraryModel") (T := x_TM) (N := 31) hx hb hts x_inM hown hK hP 0 (m_lk_M G _) rfl 18 (by decide) (hts _ t_690) (fun _ h9 => h9) rfl d_M_sweep_45 ?_
        refine lv_iload_n hx hb d_M_sweep_48 rfl (lv_at hl 2 rfl) ?_
        obtain ⟨hin6, hf⟩ := x_ck_some hf
        refine va_iald hx hb hK hP 15 0 (m_lk_A G _ (k := 15) (by decide)) rfl hin6 d_M_sweep_49 ?_
        refine lv_iconst (v := (-1 : Int32)) hx hb d_M_sweep_50 (by decide) ?_
        refine lv_icmp_ne (tgt := 70) hx hb d_M_sweep_51 (by decide) (fun hc7 => ?_) (fun hc7 => ?_)
        · have hf := x_br_f hf hc7
          refine lv_iinc (v := (a2 + (1 : Int32))) (lv' := [(2, .int (a2 + (1 : Int32))), (0, .ref (x_ad G 0)), (1, .int a1)]) hx hb d_M_sweep_70 hl (k := 2) rfl rfl (by decide) rfl (fun ls hl => ?_)
          refine lv_goto (tgt := 29) hx hb d_M_sweep_73 (by decide) ?_
          exact ih a1 (a2 + (1 : Int32)) z0 hf _ _ _ hP hD hS (lv_sub hl [1, 2, 0] rfl)
        · have hf := x_br_t hf hc7
          refine lv_aload_n hx hb d_M_sweep_54 rfl (lv_at hl 0 rfl) ?_
          refine lv_iload_n hx hb d_M_sweep_55 rfl (lv_at hl 2 rfl) ?_
          obtain ⟨r8, z8, hq9, hf⟩ := x_cl_some hf
          refine va_calli (va_runV (As := [.int a2]) (rest := []) ⟨hx, hb, hml, hown, hts⟩ (c_M_isNothing l G a2 z0 r8 z8 hq9) (cwV 1 hts (x_gV t_814 t_816 sel_ContentLibraryModel_isNothing t_7 t_817) rfl rfl rfl (by decide +kernel) ⟨Nat.le_of_ble_eq_true rfl, Nat.le_of_ble_eq_true rfl⟩) ⟨m_blind _ _ _, va_recv hK hP (ci := 5) (q0 := 0) rfl (m_lk_M G _), fun U hU hW => ⟨rfl, m_pw hP hD hK hG hS hz hU hW⟩⟩ rfl rfl hl.1 rfl (lv_room (Nat.le_of_ble_eq_true rfl)) d_M_sweep_56 ⟨Nat.le_of_ble_eq_true rfl, Nat.le_of_ble_eq_true rfl⟩) hS (fun q _ h => h) (fun q h => h) (fun ra u t H locs ht hvm hw hB _ _ hS => ?_)
          obtain ⟨rfl, rfl⟩ := hw
          obtain ⟨hP, hD⟩ := m_back hB ht
          refine lv_if_ne (tgt := 70) hx hb d_M_sweep_59 (by decide) (fun hc10 => ?_) (fun hc10 => ?_)
          · have hf := x_br_f hf hc10
            refine lv_iinc (v := (a2 + (1 : Int32))) (lv' := [(2, .int (a2 + (1 : Int32))), (0, .ref (x_ad G 0)), (1, .int a1)]) hx hb d_M_sweep_70 hl (k := 2) rfl rfl (by decide) rfl (fun ls hl => ?_)
            refine lv_goto (tgt := 29) hx hb d_M_sweep_73 (by decide) ?_
            exact ih a1 (a2 + (1 : Int32)) z8 hf _ _ _ hP hD hS (lv_sub hl [1, 2, 0] rfl)
          · have hf := x_br_t hf hc10
            refine lv_aload_n hx hb d_M_sweep_62 rfl (lv_at hl 0 rfl) ?_
            refine lv_iload_n hx hb d_M_sweep_63 rfl (lv_at hl 2 rfl) ?_
            obtain ⟨r11, z11, hq12, hf⟩ := x_cl_some hf
            refine va_callv (va_runV (As := [.int a2]) (rest := []) ⟨hx, hb, hml, hown, hts⟩ (c_M_wipe l G a2 z8 r11 z11 hq12) (cwV 1 hts (x_gV t_818 t_820 sel_ContentLibraryModel_wipe t_7 t_821) rfl rfl rfl (by decide +kernel) ⟨Nat.le_of_ble_eq_true rfl, Nat.le_of_ble_eq_true rfl⟩) ⟨m_blind _ _ _, va_recv hK hP (ci := 5) (q0 := 0) rfl (m_lk_M G _), fun U hU hW => ⟨rfl, m_pw hP hD hK hG hS hz hU hW⟩⟩ rfl rfl hl.1 rfl (lv_room (Nat.le_of_ble_eq_true rfl)) d_M_sweep_64 ⟨Nat.le_of_ble_eq_true rfl, Nat.le_of_ble_eq_true rfl⟩) hS (fun q _ h => h) (fun q h => h) (fun u t H locs ht hvm hw hB _ _ hS => ?_)
            obtain ⟨rfl, rfl⟩ := hw
            obtain ⟨hP, hD⟩ := m_back hB ht
            refine lv_iinc (v := (a1 + (1 : Int32))) (lv' := [(1, .int (a1 + (1 : Int32))), (0, .ref (x_ad G 0)), (2, .int a2)]) hx hb d_M_sweep_67 hl (k := 1) rfl rfl (by decide) rfl (fun ls hl => ?_)
            refine lv_iinc (v := (a2 + (1 : Int32))) (lv' := [(2, .int (a2 + (1 : Int32))), (1, .int (a1 + (1 : Int32))), (0, .ref (x_ad G 0))]) hx hb d_M_sweep_70 hl (k := 2) rfl rfl (by decide) rfl (fun ls hl => ?_)
            refine lv_goto (tgt := 29) hx hb d_M_sweep_73 (by decide) ?_
            exact ih (a1 + (1 : Int32)) (a2 + (1 : Int32)) z11 hf _ _ _ hP hD hS (lv_sub hl [2, 1, 0] rfl)
set_option maxHeartbeats 4000000 in
set_option maxRecDepth 100000 in
theorem c_M_sweep (l : Launch) (G : x_G)  (z0 : x_St) (r : Int32) (zo : x_St) (hf : f_M_sweep (x_n G)  z0 = some (r, zo)) : Met l (⟨"ContentLibraryModel", "sweep", "()I"⟩ : MethodName) (x_ws (⟨"ContentLibraryModel", "sweep", "()I"⟩ : MethodName) prog_7_method_34_code 3 (some .int)) rm_M_sweep (va_Pc [.ref (x_ad G 0)] (m_PW G z0)) (va_Qi (fun a u => r = a ∧ zo = u) (m_PW G) (x_A G)) 0 0 (x_A G) := by
  refine Met.ofW (cc := prog_7_method_34_code) (maxL := 3) (ret := (some .int)) (by decide) rfl ?_
  intro p e s m args below meth c s₁ B hml hv
  obtain ⟨rfl, hz, hP, hD, hK, hG⟩ := hv
  have C0 : m_Ctx G p s m _ meth c prog_7_method_34_code "ContentLibraryModel" 3 (some .int) := ⟨B.exec, B.bytes, B.returns, hml, findClass_of_methodNamed B.named, fun w h => atoms_spec (ws := (x_ws (⟨"ContentLibraryModel", "sweep", "()I"⟩ : MethodName) prog_7_method_34_code 3 (some .int))) B.pre w (List.mem_cons_of_mem _ h), B.notSynchronized, hz, hK, hG⟩
  obtain ⟨hx, hb, hr, hml, hown, hts, hlocks, hz, hK, hG⟩ := id C0
  have hS : va_S (x_A G) s.heap s.heap [] := va_S.rf
  have hl := lv_entry ([.ref (x_ad G 0)]) (n := 3) (Nat.le_of_ble_eq_true rfl)
  rw [lg_entry_eq]
  generalize (lg_sl ([.ref (x_ad G 0)]) ++ List.replicate (3 - (lg_sl ([.ref (x_ad G 0)])).length) Slot.unset).toArray = ls at hl ⊢
  have hl : lv_has ls 3 [(0, .ref (x_ad G 0))] := hl
  rw [f_M_sweep] at hf
  refine lv_aload_n hx hb d_M_sweep_0 rfl (lv_at hl 0 rfl) ?_
  refine lv_aload_n hx hb d_M_sweep_1 rfl (lv_at hl 0 rfl) ?_
  refine va_get (D := x_D G) (ci := 5) (v := .int (z0.1 0 3)) (C := "ContentLibraryModel") (T := x_TM) (N := 31) hx hb hts x_inM hown hK hP 0 (m_lk_M G _) rfl 3 (by decide) (hts _ t_675) (fun _ h9 => h9) rfl d_M_sweep_2 ?_
  refine lv_if_eq (tgt := 12) hx hb d_M_sweep_5 (by decide) (fun hc13 => ?_) (fun hc13 => ?_)
  · have hf := x_br_t hf hc13
    refine lv_iconst (v := (0 : Int32)) hx hb d_M_sweep_12 (by decide) ?_
    refine va_put (D := x_D G) (ci := 5) (v := .int (0 : Int32)) (ty := .int) (C := "ContentLibraryModel") (T := x_TM) (N := 31) hx hb hts x_inM x_tyM x_tyM_ok x_nmM hown hK hP hD hS 0 (m_lk_M G _) rfl 0 (by decide) (hts _ t_672) (fun _ h9 => h9) rfl (by decide +kernel) rfl rfl (Nat.le_of_ble_eq_true rfl) d_M_sweep_13 (fun H locs hP hD hS => ?_)
    rw [m_st_M0 G _] at hP hD
    refine lv_aload_n hx hb d_M_sweep_16 rfl (lv_at hl 0 rfl) ?_
    refine va_get (D := x_D G) (ci := 5) (v := .int ((x_put z0 0 0 (0 : Int32)).1 0 0)) (C := "ContentLibraryModel") (T := x_TM) (N := 31) hx hb hts x_inM hown hK hP 0 (m_lk_M G _) rfl 0 (by decide) (hts _ t_672) (fun _ h9 => h9) rfl d_M_sweep_17 ?_
    refine lv_if_le (tgt := 25) hx hb d_M_sweep_20 (by decide) (fun hc14 => ?_) (fun hc14 => ?_)
    · have hf := x_br_t hf hc14
      refine lv_iconst (v := (0 : Int32)) hx hb d_M_sweep_25 (by decide) ?_
      refine lv_istore_n (lv' := [(1, .int (0 : Int32)), (0, .ref (x_ad G 0))]) hx hb d_M_sweep_26 rfl hl (by decide) rfl (fun ls hl => ?_)
      refine lv_iconst (v := (0 : Int32)) hx hb d_M_sweep_27 (by decide) ?_
      refine lv_istore_n (lv' := [(2, .int (0 : Int32)), (1, .int (0 : Int32)), (0, .ref (x_ad G 0))]) hx hb d_M_sweep_28 rfl hl (by decide) rfl (fun ls hl => ?_)
      exact w_M_sweep_29 l G C0 r zo x_FU (0 : Int32) (0 : Int32) (x_put z0 0 0 (0 : Int32)) hf _ _ _ hP hD hS (lv_sub hl [2, 1, 0] rfl)
    · have hf := x_br_f hf hc14
      refine lv_iconst (v := (0 : Int32)) hx hb d_M_sweep_23 (by decide) ?_
      obtain ⟨rfl, rfl⟩ := x_ret hf
      exact W.iret (v := (0 : Int32)) hx hb hr (fun t ht hW => ⟨⟨_, _, rfl, ⟨rfl, rfl⟩, m_pw hP hD hK hG hS hz ht hW⟩, hS.F ht⟩) hS.2.2 d_M_sweep_24
  · have hf := x_br_f hf hc13
    refine lv_iconst (v := (1 : Int32)) hx hb d_M_sweep_8 (by decide) ?_
    refine lv_goto (tgt := 13) hx hb d_M_sweep_9 (by decide) ?_
    refine va_put (D := x_D G) (ci := 5) (v := .int (1 : Int32)) (ty := .int) (C := "ContentLibraryModel") (T := x_TM) (N := 31) hx hb hts x_inM x_tyM x_tyM_ok x_nmM hown hK hP hD hS 0 (m_lk_M G _) rfl 0 (by decide) (hts _ t_672) (fun _ h9 => h9) rfl (by decide +kernel) rfl rfl (Nat.le_of_ble_eq_true rfl) d_M_sweep_13 (fun H locs hP hD hS => ?_)
    rw [m_st_M0 G _] at hP hD
    refine lv_aload_n hx hb d_M_sweep_16 rfl (lv_at hl 0 rfl) ?_
    refine va_get (D := x_D G) (ci := 5) (v := .int ((x_put z0 0 0 (1 : Int32)).1 0 0)) (C := "ContentLibraryModel") (T := x_TM) (N := 31) hx hb hts x_inM hown hK hP 0 (m_lk_M G _) rfl 0 (by decide) (hts _ t_672) (fun _ h9 => h9) rfl d_M_sweep_17 ?_
    refine lv_if_le (tgt := 25) hx hb d_M_sweep_20 (by decide) (fun hc15 => ?_) (fun hc15 => ?_)
    · have hf := x_br_t hf hc15
      refine lv_iconst (v := (0 : Int32)) hx hb d_M_sweep_25 (by decide) ?_
      refine lv_istore_n (lv' := [(1, .int (0 : Int32)), (0, .ref (x_ad G 0))]) hx hb d_M_sweep_26 rfl hl (by decide) rfl (fun ls hl => ?_)
      refine lv_iconst (v := (0 : Int32)) hx hb d_M_sweep_27 (by decide) ?_
      refine lv_istore_n (lv' := [(2, .int (0 : Int32)), (1, .int (0 : Int32)), (0, .ref (x_ad G 0))]) hx hb d_M_sweep_28 rfl hl (by decide) rfl (fun ls hl => ?_)
      exact w_M_sweep_29 l G C0 r zo x_FU (0 : Int32) (0 : Int32) (x_put z0 0 0 (1 : Int32)) hf _ _ _ hP hD hS (lv_sub hl [2, 1, 0] rfl)
    · have hf := x_br_f hf hc15
      refine lv_iconst (v := (0 : Int32)) hx hb d_M_sweep_23 (by decide) ?_
      obtain ⟨rfl, rfl⟩ := x_ret hf
      exact W.iret (v := (0 : Int32)) hx hb hr (fun t ht hW => ⟨⟨_, _, rfl, ⟨rfl, rfl⟩, m_pw hP hD hK hG hS hz ht hW⟩, hS.F ht⟩) hS.2.2 d_M_sweep_24
abbrev rm_M_fuse : Room := { frames := 0, cells := 0, slots := 0, locals := 0 }
set_option maxHeartbeats 4000000 in
set_option maxRecDepth 100000 in
theorem c_M_fuse (l : Launch) (G : x_G) (p1 : Int32) (z0 : x_St) (r : Int32) (zo : x_St) (hf : f_M_fuse (x_n G) p1 z0 = some (r, zo)) : Met l (⟨"ContentLibraryModel", "fuse", "(I)I"⟩ : MethodName) (x_ws (⟨"ContentLibraryModel", "fuse", "(I)I"⟩ : MethodName) prog_7_method_35_code 3 (some .int)) rm_M_fuse (va_Pc [.ref (x_ad G 0), .int p1] (m_PW G z0)) (va_Qi (fun a u => r = a ∧ zo = u) (m_PW G) (x_A G)) 0 0 (x_A G) := by
  refine Met.ofW (cc := prog_7_method_35_code) (maxL := 3) (ret := (some .int)) (by decide) rfl ?_
  intro p e s m args below meth c s₁ B hml hv
  obtain ⟨rfl, hz, hP, hD, hK, hG⟩ := hv
  have C0 : m_Ctx G p s m _ meth c prog_7_method_35_code "ContentLibraryModel" 3 (some .int) := ⟨B.exec, B.bytes, B.returns, hml, findClass_of_methodNamed B.named, fun w h => atoms_spec (ws := (x_ws (⟨"ContentLibraryModel", "fuse", "(I)I"⟩ : MethodName) prog_7_method_35_code 3 (some .int))) B.pre w (List.mem_cons_of_mem _ h), B.notSynchronized, hz, hK, hG⟩
  obtain ⟨hx, hb, hr, hml, hown, hts, hlocks, hz, hK, hG⟩ := id C0
  have hS : va_S (x_A G) s.heap s.heap [] := va_S.rf
  have hl := lv_entry ([.ref (x_ad G 0), .int p1]) (n := 3) (Nat.le_of_ble_eq_true rfl)
  rw [lg_entry_eq]
  generalize (lg_sl ([.ref (x_ad G 0), .int p1]) ++ List.replicate (3 - (lg_sl ([.ref (x_ad G 0), .int p1])).length) Slot.unset).toArray = ls at hl ⊢
  have hl : lv_has ls 3 [(0, .ref (x_ad G 0)), (1, .int p1)] := hl
  rw [f_M_fuse] at hf
  refine lv_aload_n hx hb d_M_fuse_0 rfl (lv_at hl 0 rfl) ?_
  refine lv_aload_n hx hb d_M_fuse_1 rfl (lv_at hl 0 rfl) ?_
  refine va_get (D := x_D G) (ci := 5) (v := .int (z0.1 0 3)) (C := "ContentLibraryModel") (T := x_TM) (N := 31) hx hb hts x_inM hown hK hP 0 (m_lk_M G _) rfl 3 (by decide) (hts _ t_675) (fun _ h9 => h9) rfl d_M_fuse_2 ?_
  refine lv_if_eq (tgt := 12) hx hb d_M_fuse_5 (by decide) (fun hc1 => ?_) (fun hc1 => ?_)
  · have hf := x_br_t hf hc1
    refine lv_iload_n hx hb d_M_fuse_12 rfl (lv_at hl 1 rfl) ?_
    refine lv_iconst (v := (-1 : Int32)) hx hb d_M_fuse_13 (by decide) ?_
    refine lv_icmp_ge (tgt := 21) hx hb d_M_fuse_14 (by decide) (fun hc2 => ?_) (fun hc2 => ?_)
    · have hf := x_br_t hf hc2
      refine lv_iconst (v := (0 : Int32)) hx hb d_M_fuse_21 (by decide) ?_
      refine va_put (D := x_D G) (ci := 5) (v := .int (0 : Int32)) (ty := .int) (C := "ContentLibraryModel") (T := x_TM) (N := 31) hx hb hts x_inM x_tyM x_tyM_ok x_nmM hown hK hP hD hS 0 (m_lk_M G _) rfl 0 (by decide) (hts _ t_672) (fun _ h9 => h9) rfl (by decide +kernel) rfl rfl (Nat.le_of_ble_eq_true rfl) d_M_fuse_22 (fun H locs hP hD hS => ?_)
      rw [m_st_M0 G _] at hP hD
      refine lv_aload_n hx hb d_M_fuse_25 rfl (lv_at hl 0 rfl) ?_
      refine va_get (D := x_D G) (ci := 5) (v := .int ((x_put z0 0 0 (0 : Int32)).1 0 0)) (C := "ContentLibraryModel") (T := x_TM) (N := 31) hx hb hts x_inM hown hK hP 0 (m_lk_M G _) rfl 0 (by decide) (hts _ t_672) (fun _ h9 => h9) rfl d_M_fuse_26 ?_
      refine lv_if_le (tgt := 34) hx hb d_M_fuse_29 (by decide) (fun hc3 => ?_) (fun hc3 => ?_)
      · have hf := x_br_t hf hc3
        refine lv_aload_n hx hb d_M_fuse_34 rfl (lv_at hl 0 rfl) ?_
        refine va_get (D := x_D G) (ci := 5) (v := .int ((x_put z0 0 0 (0 : Int32)).1 0 4)) (C := "ContentLibraryModel") (T := x_TM) (N := 31) hx hb hts x_inM hown hK hP 0 (m_lk_M G _) rfl 4 (by decide) (hts _ t_676) (fun _ h9 => h9) rfl d_M_fuse_35 ?_
        refine lv_istore_n (lv' := [(2, .int ((x_put z0 0 0 (0 : Int32)).1 0 4)), (0, .ref (x_ad G 0)), (1, .int p1)]) hx hb d_M_fuse_38 rfl hl (by decide) rfl (fun ls hl => ?_)
        refine lv_aload_n hx hb d_M_fuse_39 rfl (lv_at hl 1 rfl) ?_
        refine lv_iload_n hx hb d_M_fuse_40 rfl (lv_at hl 2 rfl) ?_
        refine va_put (D := x_D G) (ci := 5) (v := .int p1) (ty := .int) (C := "ContentLibraryModel") (T := x_TM) (N := 31) hx hb hts x_inM x_tyM x_tyM_ok x_nmM hown hK hP hD hS 0 (m_lk_M G _) rfl 4 (by decide) (hts _ t_676) (fun _ h9 => h9) rfl (by decide +kernel) rfl rfl (Nat.le_of_ble_eq_true rfl) d_M_fuse_41 (fun H locs hP hD hS => ?_)
        rw [m_st_M4 G _] at hP hD
        refine lv_iload_n hx hb d_M_fuse_44 rfl (lv_at hl 0 rfl) ?_
        obtain ⟨rfl, rfl⟩ := x_ret hf
        exact W.iret (v := ((x_put z0 0 0 (0 : Int32)).1 0 4)) hx hb hr (fun t ht hW => ⟨⟨_, _, rfl, ⟨rfl, rfl⟩, m_pw hP hD hK hG hS hz ht hW⟩, hS.F ht⟩) hS.2.2 d_M_fuse_45
      · have hf := x_br_f hf hc3
        refine lv_iconst (v := (0 : Int32)) hx hb d_M_fuse_32 (by decide) ?_
        obtain ⟨rfl, rfl⟩ := x_ret hf
        exact W.iret (v := (0 : Int32)) hx hb hr (fun t ht hW => ⟨⟨_, _, rfl, ⟨rfl, rfl⟩, m_pw hP hD hK hG hS hz ht hW⟩, hS.F ht⟩) hS.2.2 d_M_fuse_33
    · have hf := x_br_f hf hc2
      refine lv_iconst (v := (2 : Int32)) hx hb d_M_fuse_17 (by decide) ?_
      refine lv_goto (tgt := 22) hx hb d_M_fuse_18 (by decide) ?_
      refine va_put (D := x_D G) (ci := 5) (v := .int (2 : Int32)) (ty := .int) (C := "ContentLibraryModel") (T := x_TM) (N := 31) hx hb hts x_inM x_tyM x_tyM_ok x_nmM hown hK hP hD hS 0 (m_lk_M G _) rfl 0 (by decide) (hts _ t_672) (fun _ h9 => h9) rfl (by decide +kernel) rfl rfl (Nat.le_of_ble_eq_true rfl) d_M_fuse_22 (fun H locs hP hD hS => ?_)
      rw [m_st_M0 G _] at hP hD
      refine lv_aload_n hx hb d_M_fuse_25 rfl (lv_at hl 0 rfl) ?_
      refine va_get (D := x_D G) (ci := 5) (v := .int ((x_put z0 0 0 (2 : Int32)).1 0 0)) (C := "ContentLibraryModel") (T := x_TM) (N := 31) hx hb hts x_inM hown hK hP 0 (m_lk_M G _) rfl 0 (by decide) (hts _ t_672) (fun _ h9 => h9) rfl d_M_fuse_26 ?_
      refine lv_if_le (tgt := 34) hx hb d_M_fuse_29 (by decide) (fun hc4 => ?_) (fun hc4 => ?_)
      · have hf := x_br_t hf hc4
        refine lv_aload_n hx hb d_M_fuse_34 rfl (lv_at hl 0 rfl) ?_
        refine va_get (D := x_D G) (ci := 5) (v := .int ((x_put z0 0 0 (2 : Int32)).1 0 4)) (C := "ContentLibraryModel") (T := x_TM) (N := 31) hx hb hts x_inM hown hK hP 0 (m_lk_M G _) rfl 4 (by decide) (hts _ t_676) (fun _ h9 => h9) rfl d_M_fuse_35 ?_
        refine lv_istore_n (lv' := [(2, .int ((x_put z0 0 0 (2 : Int32)).1 0 4)), (0, .ref (x_ad G 0)), (1, .int p1)]) hx hb d_M_fuse_38 rfl hl (by decide) rfl (fun ls hl => ?_)
        refine lv_aload_n hx hb d_M_fuse_39 rfl (lv_at hl 1 rfl) ?_
        refine lv_iload_n hx hb d_M_fuse_40 rfl (lv_at hl 2 rfl) ?_
        refine va_put (D := x_D G) (ci := 5) (v := .int p1) (ty := .int) (C := "ContentLibraryModel") (T := x_TM) (N := 31) hx hb hts x_inM x_tyM x_tyM_ok x_nmM hown hK hP hD hS 0 (m_lk_M G _) rfl 4 (by decide) (hts _ t_676) (fun _ h9 => h9) rfl (by decide +kernel) rfl rfl (Nat.le_of_ble_eq_true rfl) d_M_fuse_41 (fun H locs hP hD hS => ?_)
        rw [m_st_M4 G _] at hP hD
        refine lv_iload_n hx hb d_M_fuse_44 rfl (lv_at hl 0 rfl) ?_
        obtain ⟨rfl, rfl⟩ := x_ret hf
        exact W.iret (v := ((x_put z0 0 0 (2 : Int32)).1 0 4)) hx hb hr (fun t ht hW => ⟨⟨_, _, rfl, ⟨rfl, rfl⟩, m_pw hP hD hK hG hS hz ht hW⟩, hS.F ht⟩) hS.2.2 d_M_fuse_45
      · have hf := x_br_f hf hc4
        refine lv_iconst (v := (0 : Int32)) hx hb d_M_fuse_32 (by decide) ?_
        obtain ⟨rfl, rfl⟩ := x_ret hf
        exact W.iret (v := (0 : Int32)) hx hb hr (fun t ht hW => ⟨⟨_, _, rfl, ⟨rfl, rfl⟩, m_pw hP hD hK hG hS hz ht hW⟩, hS.F ht⟩) hS.2.2 d_M_fuse_33
  · have hf := x_br_f hf hc1
    refine lv_iconst (v := (1 : Int32)) hx hb d_M_fuse_8 (by decide) ?_
    refine lv_goto (tgt := 22) hx hb d_M_fuse_9 (by decide) ?_
    refine va_put (D := x_D G) (ci := 5) (v := .int (1 : Int32)) (ty := .int) (C := "ContentLibraryModel") (T := x_TM) (N := 31) hx hb hts x_inM x_tyM x_tyM_ok x_nmM hown hK hP hD hS 0 (m_lk_M G _) rfl 0 (by decide) (hts _ t_672) (fun _ h9 => h9) rfl (by decide +kernel) rfl rfl (Nat.le_of_ble_eq_true rfl) d_M_fuse_22 (fun H locs hP hD hS => ?_)
    rw [m_st_M0 G _] at hP hD
    refine lv_aload_n hx hb d_M_fuse_25 rfl (lv_at hl 0 rfl) ?_
    refine va_get (D := x_D G) (ci := 5) (v := .int ((x_put z0 0 0 (1 : Int32)).1 0 0)) (C := "ContentLibraryModel") (T := x_TM) (N := 31) hx hb hts x_inM hown hK hP 0 (m_lk_M G _) rfl 0 (by decide) (hts _ t_672) (fun _ h9 => h9) rfl d_M_fuse_26 ?_
    refine lv_if_le (tgt := 34) hx hb d_M_fuse_29 (by decide) (fun hc5 => ?_) (fun hc5 => ?_)
    · have hf := x_br_t hf hc5
      refine lv_aload_n hx hb d_M_fuse_34 rfl (lv_at hl 0 rfl) ?_
      refine va_get (D := x_D G) (ci := 5) (v := .int ((x_put z0 0 0 (1 : Int32)).1 0 4)) (C := "ContentLibraryModel") (T := x_TM) (N := 31) hx hb hts x_inM hown hK hP 0 (m_lk_M G _) rfl 4 (by decide) (hts _ t_676) (fun _ h9 => h9) rfl d_M_fuse_35 ?_
      refine lv_istore_n (lv' := [(2, .int ((x_put z0 0 0 (1 : Int32)).1 0 4)), (0, .ref (x_ad G 0)), (1, .int p1)]) hx hb d_M_fuse_38 rfl hl (by decide) rfl (fun ls hl => ?_)
      refine lv_aload_n hx hb d_M_fuse_39 rfl (lv_at hl 1 rfl) ?_
      refine lv_iload_n hx hb d_M_fuse_40 rfl (lv_at hl 2 rfl) ?_
      refine va_put (D := x_D G) (ci := 5) (v := .int p1) (ty := .int) (C := "ContentLibraryModel") (T := x_TM) (N := 31) hx hb hts x_inM x_tyM x_tyM_ok x_nmM hown hK hP hD hS 0 (m_lk_M G _) rfl 4 (by decide) (hts _ t_676) (fun _ h9 => h9) rfl (by decide +kernel) rfl rfl (Nat.le_of_ble_eq_true rfl) d_M_fuse_41 (fun H locs hP hD hS => ?_)
      rw [m_st_M4 G _] at hP hD
      refine lv_iload_n hx hb d_M_fuse_44 rfl (lv_at hl 0 rfl) ?_
      obtain ⟨rfl, rfl⟩ := x_ret hf
      exact W.iret (v := ((x_put z0 0 0 (1 : Int32)).1 0 4)) hx hb hr (fun t ht hW => ⟨⟨_, _, rfl, ⟨rfl, rfl⟩, m_pw hP hD hK hG hS hz ht hW⟩, hS.F ht⟩) hS.2.2 d_M_fuse_45
    · have hf := x_br_f hf hc5
      refine lv_iconst (v := (0 : Int32)) hx hb d_M_fuse_32 (by decide) ?_
      obtain ⟨rfl, rfl⟩ := x_ret hf
      exact W.iret (v := (0 : Int32)) hx hb hr (fun t ht hW => ⟨⟨_, _, rfl, ⟨rfl, rfl⟩, m_pw hP hD hK hG hS hz ht hW⟩, hS.F ht⟩) hS.2.2 d_M_fuse_33
abbrev rm_M_isGood : Room := { frames := 1, cells := 0, slots := 0, locals := 23 }
set_option maxHeartbeats 4000000 in
set_option maxRecDepth 100000 in
theorem c_M_isGood (l : Launch) (G : x_G) (p1 : Int32) (z0 : x_St) (r : Int32) (zo : x_St) (hf : f_M_isGood (x_n G) p1 z0 = some (r, zo)) : Met l (⟨"ContentLibraryModel", "isGood", "(I)Z"⟩ : MethodName) (x_ws (⟨"ContentLibraryModel", "isGood", "(I)Z"⟩ : MethodName) prog_7_method_36_code 4 (some .boolean)) rm_M_isGood (va_Pc [.ref (x_ad G 0), .int p1] (m_PW G z0)) (va_Qi (fun a u => r = a ∧ zo = u) (m_PW G) (x_A G)) 0 0 (x_A G) := by
  refine Met.ofW (cc := prog_7_method_36_code) (maxL := 4) (ret := (some .boolean)) (by decide) rfl ?_
  intro p e s m args below meth c s₁ B hml hv
  obtain ⟨rfl, hz, hP, hD, hK, hG⟩ := hv
  have C0 : m_Ctx G p s m _ meth c prog_7_method_36_code "ContentLibraryModel" 4 (some .boolean) := ⟨B.exec, B.bytes, B.returns, hml, findClass_of_methodNamed B.named, fun w h => atoms_spec (ws := (x_ws (⟨"ContentLibraryModel", "isGood", "(I)Z"⟩ : MethodName) prog_7_method_36_code 4 (some .boolean))) B.pre w (List.mem_cons_of_mem _ h), B.notSynchronized, hz, hK, hG⟩
  obtain ⟨hx, hb, hr, hml, hown, hts, hlocks, hz, hK, hG⟩ := id C0
  have hS : va_S (x_A G) s.heap s.heap [] := va_S.rf
  have hl := lv_entry ([.ref (x_ad G 0), .int p1]) (n := 4) (Nat.le_of_ble_eq_true rfl)
  rw [lg_entry_eq]
  generalize (lg_sl ([.ref (x_ad G 0), .int p1]) ++ List.replicate (4 - (lg_sl ([.ref (x_ad G 0), .int p1])).length) Slot.unset).toArray = ls at hl ⊢
  have hl : lv_has ls 4 [(0, .ref (x_ad G 0)), (1, .int p1)] := hl
  rw [f_M_isGood] at hf
  refine lv_bipush (v := (64 : Int32)) hx hb d_M_isGood_0 (by decide) ?_
  refine lv_iload_n hx hb d_M_isGood_2 rfl (lv_at hl 1 rfl) ?_
  refine lv_imul hx hb d_M_isGood_3 ?_
  refine lv_istore_n (lv' := [(2, .int ((64 : Int32) * p1)), (0, .ref (x_ad G 0)), (1, .int p1)]) hx hb d_M_isGood_4 rfl hl (by decide) rfl (fun ls hl => ?_)
  refine lv_aload_n hx hb d_M_isGood_5 rfl (lv_at hl 1 rfl) ?_
  refine va_get (D := x_D G) (ci := 5) (v := .ref (x_ad G 1)) (C := "ContentLibraryModel") (T := x_TM) (N := 31) hx hb hts x_inM hown hK hP 0 (m_lk_M G _) rfl 2 (by decide) (hts _ t_674) (fun _ h9 => h9) rfl d_M_isGood_6 ?_
  refine lv_iload_n hx hb d_M_isGood_9 rfl (lv_at hl 0 rfl) ?_
  obtain ⟨hin1, hf⟩ := x_ck_some hf
  refine va_iald hx hb hK hP 1 0 (m_lk_A G _ (k := 1) (by decide)) rfl hin1 d_M_isGood_10 ?_
  refine lv_aload_n hx hb d_M_isGood_11 rfl (lv_at hl 1 rfl) ?_
  refine va_get (D := x_D G) (ci := 5) (v := .ref (x_ad G 1)) (C := "ContentLibraryModel") (T := x_TM) (N := 31) hx hb hts x_inM hown hK hP 0 (m_lk_M G _) rfl 2 (by decide) (hts _ t_674) (fun _ h9 => h9) rfl d_M_isGood_12 ?_
  refine lv_iload_n hx hb d_M_isGood_15 rfl (lv_at hl 0 rfl) ?_
  refine lv_iconst (v := (1 : Int32)) hx hb d_M_isGood_16 (by decide) ?_
  refine lv_iadd hx hb d_M_isGood_17 ?_
  obtain ⟨hin2, hf⟩ := x_ck_some hf
  refine va_iald hx hb hK hP 1 0 (m_lk_A G _ (k := 1) (by decide)) rfl hin2 d_M_isGood_18 ?_
  refine lv_bipush (v := (8 : Int32)) hx hb d_M_isGood_19 (by decide) ?_
  refine lv_ishl hx hb d_M_isGood_21 ?_
  refine lv_ior hx hb d_M_isGood_22 ?_
  refine lv_aload_n hx hb d_M_isGood_23 rfl (lv_at hl 1 rfl) ?_
  refine va_get (D := x_D G) (ci := 5) (v := .ref (x_ad G 1)) (C := "ContentLibraryModel") (T := x_TM) (N := 31) hx hb hts x_inM hown hK hP 0 (m_lk_M G _) rfl 2 (by decide) (hts _ t_674) (fun _ h9 => h9) rfl d_M_isGood_24 ?_
  refine lv_iload_n hx hb d_M_isGood_27 rfl (lv_at hl 0 rfl) ?_
  refine lv_iconst (v := (2 : Int32)) hx hb d_M_isGood_28 (by decide) ?_
  refine lv_iadd hx hb d_M_isGood_29 ?_
  obtain ⟨hin3, hf⟩ := x_ck_some hf
  refine va_iald hx hb hK hP 1 0 (m_lk_A G _ (k := 1) (by decide)) rfl hin3 d_M_isGood_30 ?_
  refine lv_bipush (v := (16 : Int32)) hx hb d_M_isGood_31 (by decide) ?_
  refine lv_ishl hx hb d_M_isGood_33 ?_
  refine lv_ior hx hb d_M_isGood_34 ?_
  refine lv_aload_n hx hb d_M_isGood_35 rfl (lv_at hl 1 rfl) ?_
  refine va_get (D := x_D G) (ci := 5) (v := .ref (x_ad G 1)) (C := "ContentLibraryModel") (T := x_TM) (N := 31) hx hb hts x_inM hown hK hP 0 (m_lk_M G _) rfl 2 (by decide) (hts _ t_674) (fun _ h9 => h9) rfl d_M_isGood_36 ?_
  refine lv_iload_n hx hb d_M_isGood_39 rfl (lv_at hl 0 rfl) ?_
  refine lv_iconst (v := (3 : Int32)) hx hb d_M_isGood_40 (by decide) ?_
  refine lv_iadd hx hb d_M_isGood_41 ?_
  obtain ⟨hin4, hf⟩ := x_ck_some hf
  refine va_iald hx hb hK hP 1 0 (m_lk_A G _ (k := 1) (by decide)) rfl hin4 d_M_isGood_42 ?_
  refine lv_bipush (v := (24 : Int32)) hx hb d_M_isGood_43 (by decide) ?_
  refine lv_ishl hx hb d_M_isGood_45 ?_
  refine lv_ior hx hb d_M_isGood_46 ?_
  refine lv_istore_n (lv' := [(3, .int ((((z0.1 1 (((64 : Int32) * p1)).toNatClampNeg) ||| ((z0.1 1 ((((64 : Int32) * p1) + (1 : Int32))).toNatClampNeg) <<< ((8 : Int32) &&& 31))) ||| ((z0.1 1 ((((64 : Int32) * p1) + (2 : Int32))).toNatClampNeg) <<< ((16 : Int32) &&& 31))) ||| ((z0.1 1 ((((64 : Int32) * p1) + (3 : Int32))).toNatClampNeg) <<< ((24 : Int32) &&& 31)))), (2, .int ((64 : Int32) * p1)), (0, .ref (x_ad G 0)), (1, .int p1)]) hx hb d_M_isGood_47 rfl hl (by decide) rfl (fun ls hl => ?_)
  refine lv_aload_n hx hb d_M_isGood_48 rfl (lv_at hl 2 rfl) ?_
  refine va_get (D := x_D G) (ci := 5) (v := .ref (x_ad G 1)) (C := "ContentLibraryModel") (T := x_TM) (N := 31) hx hb hts x_inM hown hK hP 0 (m_lk_M G _) rfl 2 (by decide) (hts _ t_674) (fun _ h9 => h9) rfl d_M_isGood_49 ?_
  refine lv_iload_n hx hb d_M_isGood_52 rfl (lv_at hl 1 rfl) ?_
  refine lv_iconst (v := (4 : Int32)) hx hb d_M_isGood_53 (by decide) ?_
  refine lv_iadd hx hb d_M_isGood_54 ?_
  obtain ⟨hin5, hf⟩ := x_ck_some hf
  refine va_iald hx hb hK hP 1 0 (m_lk_A G _ (k := 1) (by decide)) rfl hin5 d_M_isGood_55 ?_
  refine lv_iconst (v := (1 : Int32)) hx hb d_M_isGood_56 (by decide) ?_
  refine lv_icmp_lt (tgt := 112) hx hb d_M_isGood_57 (by decide) (fun hc6 => ?_) (fun hc6 => ?_)
  · have hf := x_br_t hf hc6
    refine lv_iconst (v := (0 : Int32)) hx hb d_M_isGood_112 (by decide) ?_
    obtain ⟨rfl, rfl⟩ := x_ret hf
    exact W.zret (v := (0 : Int32)) hx hb hr rfl (fun t ht hW => ⟨⟨_, _, rfl, ⟨rfl, rfl⟩, m_pw hP hD hK hG hS hz ht hW⟩, hS.F ht⟩) hS.2.2 d_M_isGood_113
  · have hf := x_br_f hf hc6
    refine lv_aload_n hx hb d_M_isGood_60 rfl (lv_at hl 2 rfl) ?_
    refine va_get (D := x_D G) (ci := 5) (v := .ref (x_ad G 1)) (C := "ContentLibraryModel") (T := x_TM) (N := 31) hx hb hts x_inM hown hK hP 0 (m_lk_M G _) rfl 2 (by decide) (hts _ t_674) (fun _ h9 => h9) rfl d_M_isGood_61 ?_
    refine lv_iload_n hx hb d_M_isGood_64 rfl (lv_at hl 1 rfl) ?_
    refine lv_iconst (v := (4 : Int32)) hx hb d_M_isGood_65 (by decide) ?_
    refine lv_iadd hx hb d_M_isGood_66 ?_
    obtain ⟨hin7, hf⟩ := x_ck_some hf
    refine va_iald hx hb hK hP 1 0 (m_lk_A G _ (k := 1) (by decide)) rfl hin7 d_M_isGood_67 ?_
    refine lv_iconst (v := (3 : Int32)) hx hb d_M_isGood_68 (by decide) ?_
    refine lv_icmp_gt (tgt := 112) hx hb d_M_isGood_69 (by decide) (fun hc8 => ?_) (fun hc8 => ?_)
    · have hf := x_br_t hf hc8
      refine lv_iconst (v := (0 : Int32)) hx hb d_M_isGood_112 (by decide) ?_
      obtain ⟨rfl, rfl⟩ := x_ret hf
      exact W.zret (v := (0 : Int32)) hx hb hr rfl (fun t ht hW => ⟨⟨_, _, rfl, ⟨rfl, rfl⟩, m_pw hP hD hK hG hS hz ht hW⟩, hS.F ht⟩) hS.2.2 d_M_isGood_113
    · have hf := x_br_f hf hc8
      refine lv_aload_n hx hb d_M_isGood_72 rfl (lv_at hl 2 rfl) ?_
      refine va_get (D := x_D G) (ci := 5) (v := .ref (x_ad G 1)) (C := "ContentLibraryModel") (T := x_TM) (N := 31) hx hb hts x_inM hown hK hP 0 (m_lk_M G _) rfl 2 (by decide) (hts _ t_674) (fun _ h9 => h9) rfl d_M_isGood_73 ?_
      refine lv_iload_n hx hb d_M_isGood_76 rfl (lv_at hl 1 rfl) ?_
      refine lv_iconst (v := (5 : Int32)) hx hb d_M_isGood_77 (by decide) ?_
      refine lv_iadd hx hb d_M_isGood_78 ?_
      obtain ⟨hin9, hf⟩ := x_ck_some hf
      refine va_iald hx hb hK hP 1 0 (m_lk_A G _ (k := 1) (by decide)) rfl hin9 d_M_isGood_79 ?_
      refine lv_bipush (v := (16 : Int32)) hx hb d_M_isGood_80 (by decide) ?_
      refine lv_icmp_ge (tgt := 112) hx hb d_M_isGood_82 (by decide) (fun hc10 => ?_) (fun hc10 => ?_)
      · have hf := x_br_t hf hc10
        refine lv_iconst (v := (0 : Int32)) hx hb d_M_isGood_112 (by decide) ?_
        obtain ⟨rfl, rfl⟩ := x_ret hf
        exact W.zret (v := (0 : Int32)) hx hb hr rfl (fun t ht hW => ⟨⟨_, _, rfl, ⟨rfl, rfl⟩, m_pw hP hD hK hG hS hz ht hW⟩, hS.F ht⟩) hS.2.2 d_M_isGood_113
      · have hf := x_br_f hf hc10
        refine lv_aload_n hx hb d_M_isGood_85 rfl (lv_at hl 2 rfl) ?_
        refine va_get (D := x_D G) (ci := 5) (v := .ref (x_ad G 1)) (C := "ContentLibraryModel") (T := x_TM) (N := 31) hx hb hts x_inM hown hK hP 0 (m_lk_M G _) rfl 2 (by decide) (hts _ t_674) (fun _ h9 => h9) rfl d_M_isGood_86 ?_
        refine lv_iload_n hx hb d_M_isGood_89 rfl (lv_at hl 1 rfl) ?_
        refine lv_bipush (v := (7 : Int32)) hx hb d_M_isGood_90 (by decide) ?_
        refine lv_iadd hx hb d_M_isGood_92 ?_
        obtain ⟨hin11, hf⟩ := x_ck_some hf
        refine va_iald hx hb hK hP 1 0 (m_lk_A G _ (k := 1) (by decide)) rfl hin11 d_M_isGood_93 ?_
        refine lv_bipush (v := (56 : Int32)) hx hb d_M_isGood_94 (by decide) ?_
        refine lv_icmp_gt (tgt := 112) hx hb d_M_isGood_96 (by decide) (fun hc12 => ?_) (fun hc12 => ?_)
        · have hf := x_br_t hf hc12
          refine lv_iconst (v := (0 : Int32)) hx hb d_M_isGood_112 (by decide) ?_
          obtain ⟨rfl, rfl⟩ := x_ret hf
          exact W.zret (v := (0 : Int32)) hx hb hr rfl (fun t ht hW => ⟨⟨_, _, rfl, ⟨rfl, rfl⟩, m_pw hP hD hK hG hS hz ht hW⟩, hS.F ht⟩) hS.2.2 d_M_isGood_113
        · have hf := x_br_f hf hc12
          refine lv_iload_n hx hb d_M_isGood_99 rfl (lv_at hl 0 rfl) ?_
          refine lv_aload_n hx hb d_M_isGood_100 rfl (lv_at hl 2 rfl) ?_
          refine lv_iload_n hx hb d_M_isGood_101 rfl (lv_at hl 3 rfl) ?_
          obtain ⟨r13, z13, hq14, hf⟩ := x_cl_some hf
          refine va_calli (va_runV (As := [.int p1]) (rest := [.int ((((z0.1 1 (((64 : Int32) * p1)).toNatClampNeg) ||| ((z0.1 1 ((((64 : Int32) * p1) + (1 : Int32))).toNatClampNeg) <<< ((8 : Int32) &&& 31))) ||| ((z0.1 1 ((((64 : Int32) * p1) + (2 : Int32))).toNatClampNeg) <<< ((16 : Int32) &&& 31))) ||| ((z0.1 1 ((((64 : Int32) * p1) + (3 : Int32))).toNatClampNeg) <<< ((24 : Int32) &&& 31)))]) ⟨hx, hb, hml, hown, hts⟩ (c_M_sumOf l G p1 z0 r13 z13 hq14) (cwV 1 hts (x_gV t_901 t_903 sel_ContentLibraryModel_sumOf t_7 t_904) rfl rfl rfl (by decide +kernel) ⟨Nat.le_of_ble_eq_true rfl, Nat.le_of_ble_eq_true rfl⟩) ⟨m_blind _ _ _, va_recv hK hP (ci := 5) (q0 := 0) rfl (m_lk_M G _), fun U hU hW => ⟨rfl, m_pw hP hD hK hG hS hz hU hW⟩⟩ rfl rfl hl.1 rfl (lv_room (Nat.le_of_ble_eq_true rfl)) d_M_isGood_102 ⟨Nat.le_of_ble_eq_true rfl, Nat.le_of_ble_eq_true rfl⟩) hS (fun q _ h => h) (fun q h => h) (fun ra u t H locs ht hvm hw hB _ _ hS => ?_)
          obtain ⟨rfl, rfl⟩ := hw
          obtain ⟨hP, hD⟩ := m_back hB ht
          refine lv_icmp_ne (tgt := 112) hx hb d_M_isGood_105 (by decide) (fun hc15 => ?_) (fun hc15 => ?_)
          · have hf := x_br_f hf hc15
            refine lv_iconst (v := (0 : Int32)) hx hb d_M_isGood_112 (by decide) ?_
            obtain ⟨rfl, rfl⟩ := x_ret hf
            exact W.zret (v := (0 : Int32)) hx hb hr rfl (fun t ht hW => ⟨⟨_, _, rfl, ⟨rfl, rfl⟩, m_pw hP hD hK hG hS hz ht hW⟩, hS.F ht⟩) hS.2.2 d_M_isGood_113
          · have hf := x_br_t hf hc15
            refine lv_iconst (v := (1 : Int32)) hx hb d_M_isGood_108 (by decide) ?_
            refine lv_goto (tgt := 113) hx hb d_M_isGood_109 (by decide) ?_
            obtain ⟨rfl, rfl⟩ := x_ret hf
            exact W.zret (v := (1 : Int32)) hx hb hr rfl (fun t ht hW => ⟨⟨_, _, rfl, ⟨rfl, rfl⟩, m_pw hP hD hK hG hS hz ht hW⟩, hS.F ht⟩) hS.2.2 d_M_isGood_113
abbrev rm_M_only : Room := { frames := 2, cells := 0, slots := 0, locals := 46 }
set_option maxHeartbeats 4000000 in
set_option maxRecDepth 100000 in
theorem w_M_only_92 (l : Launch) (G : x_G) {p : Program} {e : Env} {s : State} {m : MethodId} {args : Array Value} {below : List Frame} {meth : Method} {c : Code} (C0 : m_Ctx G p s m args meth c prog_7_method_37_code "ContentLibraryModel" 8 (some .int)) (r : Int32) (zo : x_St) : ∀ (a4 : Int32) (a5 : Int32) (z0 : x_St), f_M_only_92 (x_n G) a4 a5 z0 = some (r, zo) → ∀ (H : Heap) (locs : List Loc) (ls : Array Slot), va_P (x_D G) vwCl (m_Wd G z0) H → va_D (x_A G) (m_Wd G z0) → va_S (x_A G) s.heap H locs → lv_has ls 8 [(4, .int a4), (5, .int a5)] → W p l e rm_M_only s m args below meth c H locs 0 0 (MQ below (va_Qi (fun a u => r = a ∧ zo = u) (m_PW G) (x_A G)) args s 0 0 (x_A G)) (F0 m 92 ls []) := by
  obtain ⟨hx, hb, hr, hml, hown, hts, hlocks, hz, hK, hG⟩ := id C0
  intro a4 a5 z0 hf H locs ls hP hD hS hl
  rw [f_M_only_92] at hf
  refine lv_iload hx hb d_M_only_92 (lv_at hl 1 rfl) ?_
  refine lv_iconst (v := (1 : Int32)) hx hb d_M_only_94 (by decide) ?_
  refine lv_icmp_ne (tgt := 103) hx hb d_M_only_95 (by decide) (fun hc1 => ?_) (fun hc1 => ?_)
  · have hf := x_br_f hf hc1
    refine lv_iconst (v := (-1 : Int32)) hx hb d_M_only_103 (by decide) ?_
    obtain ⟨rfl, rfl⟩ := x_ret hf
    exact W.iret (v := (-1 : Int32)) hx hb hr (fun t ht hW => ⟨⟨_, _, rfl, ⟨rfl, rfl⟩, m_pw hP hD hK hG hS hz ht hW⟩, hS.F ht⟩) hS.2.2 d_M_only_104
  · have hf := x_br_t hf hc1
    refine lv_iload hx hb d_M_only_98 (lv_at hl 0 rfl) ?_
    refine lv_goto (tgt := 104) hx hb d_M_only_100 (by decide) ?_
    obtain ⟨rfl, rfl⟩ := x_ret hf
    exact W.iret (v := a4) hx hb hr (fun t ht hW => ⟨⟨_, _, rfl, ⟨rfl, rfl⟩, m_pw hP hD hK hG hS hz ht hW⟩, hS.F ht⟩) hS.2.2 d_M_only_104
set_option maxHeartbeats 4000000 in
set_option maxRecDepth 100000 in
theorem w_M_only_9 (l : Launch) (G : x_G) {p : Program} {e : Env} {s : State} {m : MethodId} {args : Array Value} {below : List Frame} {meth : Method} {c : Code} (C0 : m_Ctx G p s m args meth c prog_7_method_37_code "ContentLibraryModel" 8 (some .int)) (r : Int32) (zo : x_St) : ∀ (fu : Nat), ∀ (a1 : Int32) (a2 : Int32) (a3 : Int32) (a4 : Int32) (a5 : Int32) (a6 : Int32) (z0 : x_St), f_M_only_9 (x_n G) fu a1 a2 a3 a4 a5 a6 z0 = some (r, zo) → ∀ (H : Heap) (locs : List Loc) (ls : Array Slot), va_P (x_D G) vwCl (m_Wd G z0) H → va_D (x_A G) (m_Wd G z0) → va_S (x_A G) s.heap H locs → lv_has ls 8 [(0, .ref (x_ad G 0)), (1, .int a1), (2, .int a2), (3, .int a3), (4, .int a4), (5, .int a5), (6, .int a6)] → W p l e rm_M_only s m args below meth c H locs 0 0 (MQ below (va_Qi (fun a u => r = a ∧ zo = u) (m_PW G) (x_A G)) args s 0 0 (x_A G)) (F0 m 9 ls []) := by
  obtain ⟨hx, hb, hr, hml, hown, hts, hlocks, hz, hK, hG⟩ := id C0
  intro fu
  induction fu with
  | zero =>
    intro a1 a2 a3 a4 a5 a6 z0 hf
    rw [f_M_only_9] at hf
    cases hf
  | succ fu ih =>
    intro a1 a2 a3 a4 a5 a6 z0 hf H locs ls hP hD hS hl
    rw [f_M_only_9] at hf
    refine lv_iload hx hb d_M_only_9 (lv_at hl 6 rfl) ?_
    refine lv_aload_n hx hb d_M_only_11 rfl (lv_at hl 0 rfl) ?_
    refine va_get (D := x_D G) (ci := 5) (v := .int (z0.1 0 1)) (C := "ContentLibraryModel") (T := x_TM) (N := 31) hx hb hts x_inM hown hK hP 0 (m_lk_M G _) rfl 1 (by decide) (hts _ t_673) (fun _ h9 => h9) rfl d_M_only_12 ?_
    refine lv_icmp_ge (tgt := 92) hx hb d_M_only_15 (by decide) (fun hc2 => ?_) (fun hc2 => ?_)
    · have hf := x_br_t hf hc2
      exact w_M_only_92 l G C0 r zo a4 a5 z0 hf _ _ _ hP hD hS (lv_sub hl [4, 5] rfl)
    · have hf := x_br_f hf hc2
      refine lv_bipush (v := (64 : Int32)) hx hb d_M_only_18 (by decide) ?_
      refine lv_iload hx hb d_M_only_20 (lv_at hl 6 rfl) ?_
      refine lv_imul hx hb d_M_only_22 ?_
      refine lv_istore (lv' := [(7, .int ((64 : Int32) * a6)), (0, .ref (x_ad G 0)), (1, .int a1), (2, .int a2), (3, .int a3), (4, .int a4), (5, .int a5), (6, .int a6)]) hx hb d_M_only_23 hl (by decide) rfl (fun ls hl => ?_)
      refine lv_aload_n hx hb d_M_only_25 rfl (lv_at hl 1 rfl) ?_
      refine va_get (D := x_D G) (ci := 5) (v := .ref (x_ad G 1)) (C := "ContentLibraryModel") (T := x_TM) (N := 31) hx hb hts x_inM hown hK hP 0 (m_lk_M G _) rfl 2 (by decide) (hts _ t_674) (fun _ h9 => h9) rfl d_M_only_26 ?_
      refine lv_iload hx hb d_M_only_29 (lv_at hl 0 rfl) ?_
      refine lv_iconst (v := (4 : Int32)) hx hb d_M_only_31 (by decide) ?_
      refine lv_iadd hx hb d_M_only_32 ?_
      obtain ⟨hin3, hf⟩ := x_ck_some hf
      refine va_iald hx hb hK hP 1 0 (m_lk_A G _ (k := 1) (by decide)) rfl hin3 d_M_only_33 ?_
      refine lv_iload_n hx hb d_M_only_34 rfl (lv_at hl 2 rfl) ?_
      refine lv_icmp_ne (tgt := 86) hx hb d_M_only_35 (by decide) (fun hc4 => ?_) (fun hc4 => ?_)
      · have hf := x_br_f hf hc4
        refine lv_iinc (v := (a6 + (1 : Int32))) (lv' := [(6, .int (a6 + (1 : Int32))), (7, .int ((64 : Int32) * a6)), (0, .ref (x_ad G 0)), (1, .int a1), (2, .int a2), (3, .int a3), (4, .int a4), (5, .int a5)]) hx hb d_M_only_86 hl (k := 7) rfl rfl (by decide) rfl (fun ls hl => ?_)
        refine lv_goto (tgt := 9) hx hb d_M_only_89 (by decide) ?_
        exact ih a1 a2 a3 a4 a5 (a6 + (1 : Int32)) z0 hf _ _ _ hP hD hS (lv_sub hl [2, 3, 4, 5, 6, 7, 0] rfl)
      · have hf := x_br_t hf hc4
        refine lv_aload_n hx hb d_M_only_38 rfl (lv_at hl 1 rfl) ?_
        refine va_get (D := x_D G) (ci := 5) (v := .ref (x_ad G 1)) (C := "ContentLibraryModel") (T := x_TM) (N := 31) hx hb hts x_inM hown hK hP 0 (m_lk_M G _) rfl 2 (by decide) (hts _ t_674) (fun _ h9 => h9) rfl d_M_only_39 ?_
        refine lv_iload hx hb d_M_only_42 (lv_at hl 0 rfl) ?_
        refine lv_iconst (v := (5 : Int32)) hx hb d_M_only_44 (by decide) ?_
        refine lv_iadd hx hb d_M_only_45 ?_
        obtain ⟨hin5, hf⟩ := x_ck_some hf
        refine va_iald hx hb hK hP 1 0 (m_lk_A G _ (k := 1) (by decide)) rfl hin5 d_M_only_46 ?_
        refine lv_iload_n hx hb d_M_only_47 rfl (lv_at hl 3 rfl) ?_
        refine lv_icmp_ne (tgt := 86) hx hb d_M_only_48 (by decide) (fun hc6 => ?_) (fun hc6 => ?_)
        · have hf := x_br_f hf hc6
          refine lv_iinc (v := (a6 + (1 : Int32))) (lv' := [(6, .int (a6 + (1 : Int32))), (7, .int ((64 : Int32) * a6)), (0, .ref (x_ad G 0)), (1, .int a1), (2, .int a2), (3, .int a3), (4, .int a4), (5, .int a5)]) hx hb d_M_only_86 hl (k := 7) rfl rfl (by decide) rfl (fun ls hl => ?_)
          refine lv_goto (tgt := 9) hx hb d_M_only_89 (by decide) ?_
          exact ih a1 a2 a3 a4 a5 (a6 + (1 : Int32)) z0 hf _ _ _ hP hD hS (lv_sub hl [2, 3, 4, 5, 6, 7, 0] rfl)
        · have hf := x_br_t hf hc6
          refine lv_iload_n hx hb d_M_only_51 rfl (lv_at hl 2 rfl) ?_
          refine lv_iconst (v := (3 : Int32)) hx hb d_M_only_52 (by decide) ?_
          refine lv_icmp_eq (tgt := 70) hx hb d_M_only_53 (by decide) (fun hc7 => ?_) (fun hc7 => ?_)
          · have hf := x_br_t hf hc7
            refine lv_aload_n hx hb d_M_only_70 rfl (lv_at hl 1 rfl) ?_
            refine lv_iload hx hb d_M_only_71 (lv_at hl 7 rfl) ?_
            obtain ⟨r8, z8, hq9, hf⟩ := x_cl_some hf
            refine va_calli (va_runV (As := [.int a6]) (rest := []) ⟨hx, hb, hml, hown, hts⟩ (c_M_isGood l G a6 z0 r8 z8 hq9) (cwV 1 hts (x_gV t_897 t_899 sel_ContentLibraryModel_isGood t_7 t_900) rfl rfl rfl (by decide +kernel) ⟨Nat.le_of_ble_eq_true rfl, Nat.le_of_ble_eq_true rfl⟩) ⟨m_blind _ _ _, va_recv hK hP (ci := 5) (q0 := 0) rfl (m_lk_M G _), fun U hU hW => ⟨rfl, m_pw hP hD hK hG hS hz hU hW⟩⟩ rfl rfl hl.1 rfl (lv_room (Nat.le_of_ble_eq_true rfl)) d_M_only_73 ⟨Nat.le_of_ble_eq_true rfl, Nat.le_of_ble_eq_true rfl⟩) hS (fun q _ h => h) (fun q h => h) (fun ra u t H locs ht hvm hw hB _ _ hS => ?_)
            obtain ⟨rfl, rfl⟩ := hw
            obtain ⟨hP, hD⟩ := m_back hB ht
            refine lv_if_eq (tgt := 86) hx hb d_M_only_76 (by decide) (fun hc10 => ?_) (fun hc10 => ?_)
            · have hf := x_br_t hf hc10
              refine lv_iinc (v := (a6 + (1 : Int32))) (lv' := [(6, .int (a6 + (1 : Int32))), (7, .int ((64 : Int32) * a6)), (0, .ref (x_ad G 0)), (1, .int a1), (2, .int a2), (3, .int a3), (4, .int a4), (5, .int a5)]) hx hb d_M_only_86 hl (k := 7) rfl rfl (by decide) rfl (fun ls hl => ?_)
              refine lv_goto (tgt := 9) hx hb d_M_only_89 (by decide) ?_
              exact ih a1 a2 a3 a4 a5 (a6 + (1 : Int32)) z8 hf _ _ _ hP hD hS (lv_sub hl [2, 3, 4, 5, 6, 7, 0] rfl)
            · have hf := x_br_f hf hc10
              refine lv_iload hx hb d_M_only_79 (lv_at hl 7 rfl) ?_
              refine lv_istore (lv' := [(4, .int a6), (7, .int ((64 : Int32) * a6)), (0, .ref (x_ad G 0)), (1, .int a1), (2, .int a2), (3, .int a3), (5, .int a5), (6, .int a6)]) hx hb d_M_only_81 hl (by decide) rfl (fun ls hl => ?_)
              refine lv_iinc (v := (a5 + (1 : Int32))) (lv' := [(5, .int (a5 + (1 : Int32))), (4, .int a6), (7, .int ((64 : Int32) * a6)), (0, .ref (x_ad G 0)), (1, .int a1), (2, .int a2), (3, .int a3), (6, .int a6)]) hx hb d_M_only_83 hl (k := 6) rfl rfl (by decide) rfl (fun ls hl => ?_)
              refine lv_iinc (v := (a6 + (1 : Int32))) (lv' := [(6, .int (a6 + (1 : Int32))), (5, .int (a5 + (1 : Int32))), (4, .int a6), (7, .int ((64 : Int32) * a6)), (0, .ref (x_ad G 0)), (1, .int a1), (2, .int a2), (3, .int a3)]) hx hb d_M_only_86 hl (k := 7) rfl rfl (by decide) rfl (fun ls hl => ?_)
              refine lv_goto (tgt := 9) hx hb d_M_only_89 (by decide) ?_
              exact ih a1 a2 a3 a6 (a5 + (1 : Int32)) (a6 + (1 : Int32)) z8 hf _ _ _ hP hD hS (lv_sub hl [4, 5, 6, 7, 2, 1, 0] rfl)
          · have hf := x_br_f hf hc7
            refine lv_aload_n hx hb d_M_only_56 rfl (lv_at hl 1 rfl) ?_
            refine va_get (D := x_D G) (ci := 5) (v := .ref (x_ad G 1)) (C := "ContentLibraryModel") (T := x_TM) (N := 31) hx hb hts x_inM hown hK hP 0 (m_lk_M G _) rfl 2 (by decide) (hts _ t_674) (fun _ h9 => h9) rfl d_M_only_57 ?_
            refine lv_iload hx hb d_M_only_60 (lv_at hl 0 rfl) ?_
            refine lv_bipush (v := (6 : Int32)) hx hb d_M_only_62 (by decide) ?_
            refine lv_iadd hx hb d_M_only_64 ?_
            obtain ⟨hin11, hf⟩ := x_ck_some hf
            refine va_iald hx hb hK hP 1 0 (m_lk_A G _ (k := 1) (by decide)) rfl hin11 d_M_only_65 ?_
            refine lv_iload_n hx hb d_M_only_66 rfl (lv_at hl 4 rfl) ?_
            refine lv_icmp_ne (tgt := 86) hx hb d_M_only_67 (by decide) (fun hc12 => ?_) (fun hc12 => ?_)
            · have hf := x_br_f hf hc12
              refine lv_iinc (v := (a6 + (1 : Int32))) (lv' := [(6, .int (a6 + (1 : Int32))), (7, .int ((64 : Int32) * a6)), (0, .ref (x_ad G 0)), (1, .int a1), (2, .int a2), (3, .int a3), (4, .int a4), (5, .int a5)]) hx hb d_M_only_86 hl (k := 7) rfl rfl (by decide) rfl (fun ls hl => ?_)
              refine lv_goto (tgt := 9) hx hb d_M_only_89 (by decide) ?_
              exact ih a1 a2 a3 a4 a5 (a6 + (1 : Int32)) z0 hf _ _ _ hP hD hS (lv_sub hl [2, 3, 4, 5, 6, 7, 0] rfl)
            · have hf := x_br_t hf hc12
              refine lv_aload_n hx hb d_M_only_70 rfl (lv_at hl 1 rfl) ?_
              refine lv_iload hx hb d_M_only_71 (lv_at hl 7 rfl) ?_
              obtain ⟨r13, z13, hq14, hf⟩ := x_cl_some hf
              refine va_calli (va_runV (As := [.int a6]) (rest := []) ⟨hx, hb, hml, hown, hts⟩ (c_M_isGood l G a6 z0 r13 z13 hq14) (cwV 1 hts (x_gV t_897 t_899 sel_ContentLibraryModel_isGood t_7 t_900) rfl rfl rfl (by decide +kernel) ⟨Nat.le_of_ble_eq_true rfl, Nat.le_of_ble_eq_true rfl⟩) ⟨m_blind _ _ _, va_recv hK hP (ci := 5) (q0 := 0) rfl (m_lk_M G _), fun U hU hW => ⟨rfl, m_pw hP hD hK hG hS hz hU hW⟩⟩ rfl rfl hl.1 rfl (lv_room (Nat.le_of_ble_eq_true rfl)) d_M_only_73 ⟨Nat.le_of_ble_eq_true rfl, Nat.le_of_ble_eq_true rfl⟩) hS (fun q _ h => h) (fun q h => h) (fun ra u t H locs ht hvm hw hB _ _ hS => ?_)
              obtain ⟨rfl, rfl⟩ := hw
              obtain ⟨hP, hD⟩ := m_back hB ht
              refine lv_if_eq (tgt := 86) hx hb d_M_only_76 (by decide) (fun hc15 => ?_) (fun hc15 => ?_)
              · have hf := x_br_t hf hc15
                refine lv_iinc (v := (a6 + (1 : Int32))) (lv' := [(6, .int (a6 + (1 : Int32))), (7, .int ((64 : Int32) * a6)), (0, .ref (x_ad G 0)), (1, .int a1), (2, .int a2), (3, .int a3), (4, .int a4), (5, .int a5)]) hx hb d_M_only_86 hl (k := 7) rfl rfl (by decide) rfl (fun ls hl => ?_)
                refine lv_goto (tgt := 9) hx hb d_M_only_89 (by decide) ?_
                exact ih a1 a2 a3 a4 a5 (a6 + (1 : Int32)) z13 hf _ _ _ hP hD hS (lv_sub hl [2, 3, 4, 5, 6, 7, 0] rfl)
              · have hf := x_br_f hf hc15
                refine lv_iload hx hb d_M_only_79 (lv_at hl 7 rfl) ?_
                refine lv_istore (lv' := [(4, .int a6), (7, .int ((64 : Int32) * a6)), (0, .ref (x_ad G 0)), (1, .int a1), (2, .int a2), (3, .int a3), (5, .int a5), (6, .int a6)]) hx hb d_M_only_81 hl (by decide) rfl (fun ls hl => ?_)
                refine lv_iinc (v := (a5 + (1 : Int32))) (lv' := [(5, .int (a5 + (1 : Int32))), (4, .int a6), (7, .int ((64 : Int32) * a6)), (0, .ref (x_ad G 0)), (1, .int a1), (2, .int a2), (3, .int a3), (6, .int a6)]) hx hb d_M_only_83 hl (k := 6) rfl rfl (by decide) rfl (fun ls hl => ?_)
                refine lv_iinc (v := (a6 + (1 : Int32))) (lv' := [(6, .int (a6 + (1 : Int32))), (5, .int (a5 + (1 : Int32))), (4, .int a6), (7, .int ((64 : Int32) * a6)), (0, .ref (x_ad G 0)), (1, .int a1), (2, .int a2), (3, .int a3)]) hx hb d_M_only_86 hl (k := 7) rfl rfl (by decide) rfl (fun ls hl => ?_)
                refine lv_goto (tgt := 9) hx hb d_M_only_89 (by decide) ?_
                exact ih a1 a2 a3 a6 (a5 + (1 : Int32)) (a6 + (1 : Int32)) z13 hf _ _ _ hP hD hS (lv_sub hl [4, 5, 6, 7, 2, 1, 0] rfl)
set_option maxHeartbeats 4000000 in
set_option maxRecDepth 100000 in
theorem c_M_only (l : Launch) (G : x_G) (p1 : Int32) (p2 : Int32) (p3 : Int32) (z0 : x_St) (r : Int32) (zo : x_St) (hf : f_M_only (x_n G) p1 p2 p3 z0 = some (r, zo)) : Met l (⟨"ContentLibraryModel", "only", "(III)I"⟩ : MethodName) (x_ws (⟨"ContentLibraryModel", "only", "(III)I"⟩ : MethodName) prog_7_method_37_code 8 (some .int)) rm_M_only (va_Pc [.ref (x_ad G 0), .int p1, .int p2, .int p3] (m_PW G z0)) (va_Qi (fun a u => r = a ∧ zo = u) (m_PW G) (x_A G)) 0 0 (x_A G) := by
  refine Met.ofW (cc := prog_7_method_37_code) (maxL := 8) (ret := (some .int)) (by decide) rfl ?_
  intro p e s m args below meth c s₁ B hml hv
  obtain ⟨rfl, hz, hP, hD, hK, hG⟩ := hv
  have C0 : m_Ctx G p s m _ meth c prog_7_method_37_code "ContentLibraryModel" 8 (some .int) := ⟨B.exec, B.bytes, B.returns, hml, findClass_of_methodNamed B.named, fun w h => atoms_spec (ws := (x_ws (⟨"ContentLibraryModel", "only", "(III)I"⟩ : MethodName) prog_7_method_37_code 8 (some .int))) B.pre w (List.mem_cons_of_mem _ h), B.notSynchronized, hz, hK, hG⟩
  obtain ⟨hx, hb, hr, hml, hown, hts, hlocks, hz, hK, hG⟩ := id C0
  have hS : va_S (x_A G) s.heap s.heap [] := va_S.rf
  have hl := lv_entry ([.ref (x_ad G 0), .int p1, .int p2, .int p3]) (n := 8) (Nat.le_of_ble_eq_true rfl)
  rw [lg_entry_eq]
  generalize (lg_sl ([.ref (x_ad G 0), .int p1, .int p2, .int p3]) ++ List.replicate (8 - (lg_sl ([.ref (x_ad G 0), .int p1, .int p2, .int p3])).length) Slot.unset).toArray = ls at hl ⊢
  have hl : lv_has ls 8 [(0, .ref (x_ad G 0)), (1, .int p1), (2, .int p2), (3, .int p3)] := hl
  rw [f_M_only] at hf
  refine lv_iconst (v := (-1 : Int32)) hx hb d_M_only_0 (by decide) ?_
  refine lv_istore (lv' := [(4, .int (-1 : Int32)), (0, .ref (x_ad G 0)), (1, .int p1), (2, .int p2), (3, .int p3)]) hx hb d_M_only_1 hl (by decide) rfl (fun ls hl => ?_)
  refine lv_iconst (v := (0 : Int32)) hx hb d_M_only_3 (by decide) ?_
  refine lv_istore (lv' := [(5, .int (0 : Int32)), (4, .int (-1 : Int32)), (0, .ref (x_ad G 0)), (1, .int p1), (2, .int p2), (3, .int p3)]) hx hb d_M_only_4 hl (by decide) rfl (fun ls hl => ?_)
  refine lv_iconst (v := (0 : Int32)) hx hb d_M_only_6 (by decide) ?_
  refine lv_istore (lv' := [(6, .int (0 : Int32)), (5, .int (0 : Int32)), (4, .int (-1 : Int32)), (0, .ref (x_ad G 0)), (1, .int p1), (2, .int p2), (3, .int p3)]) hx hb d_M_only_7 hl (by decide) rfl (fun ls hl => ?_)
  exact w_M_only_9 l G C0 r zo x_FU p1 p2 p3 (-1 : Int32) (0 : Int32) (0 : Int32) z0 hf _ _ _ hP hD hS (lv_sub hl [3, 4, 5, 6, 2, 1, 0] rfl)
abbrev rm_M_openNumber : Room := { frames := 3, cells := 0, slots := 0, locals := 73 }
set_option maxHeartbeats 4000000 in
set_option maxRecDepth 100000 in
theorem c_M_openNumber (l : Launch) (G : x_G) (p1 : Int32) (z0 : x_St) (r : Unit) (zo : x_St) (hf : f_M_openNumber (x_n G) p1 z0 = some (r, zo)) : Met l (⟨"ContentLibraryModel", "openNumber", "(I)V"⟩ : MethodName) (x_ws (⟨"ContentLibraryModel", "openNumber", "(I)V"⟩ : MethodName) prog_7_method_38_code 9 none) rm_M_openNumber (va_Pc [.ref (x_ad G 0), .int p1] (m_PW G z0)) (va_Qv (fun u => r = () ∧ zo = u) (m_PW G) (x_A G)) 0 0 (x_A G) := by
  refine Met.ofW (cc := prog_7_method_38_code) (maxL := 9) (ret := none) (by decide) rfl ?_
  intro p e s m args below meth c s₁ B hml hv
  obtain ⟨rfl, hz, hP, hD, hK, hG⟩ := hv
  have C0 : m_Ctx G p s m _ meth c prog_7_method_38_code "ContentLibraryModel" 9 none := ⟨B.exec, B.bytes, B.returns, hml, findClass_of_methodNamed B.named, fun w h => atoms_spec (ws := (x_ws (⟨"ContentLibraryModel", "openNumber", "(I)V"⟩ : MethodName) prog_7_method_38_code 9 none)) B.pre w (List.mem_cons_of_mem _ h), B.notSynchronized, hz, hK, hG⟩
  obtain ⟨hx, hb, hr, hml, hown, hts, hlocks, hz, hK, hG⟩ := id C0
  have hS : va_S (x_A G) s.heap s.heap [] := va_S.rf
  have hl := lv_entry ([.ref (x_ad G 0), .int p1]) (n := 9) (Nat.le_of_ble_eq_true rfl)
  rw [lg_entry_eq]
  generalize (lg_sl ([.ref (x_ad G 0), .int p1]) ++ List.replicate (9 - (lg_sl ([.ref (x_ad G 0), .int p1])).length) Slot.unset).toArray = ls at hl ⊢
  have hl : lv_has ls 9 [(0, .ref (x_ad G 0)), (1, .int p1)] := hl
  rw [f_M_openNumber] at hf
  refine lv_aload_n hx hb d_M_openNumber_0 rfl (lv_at hl 0 rfl) ?_
  refine lv_iconst (v := (3 : Int32)) hx hb d_M_openNumber_1 (by decide) ?_
  refine lv_iload_n hx hb d_M_openNumber_2 rfl (lv_at hl 1 rfl) ?_
  refine lv_iconst (v := (0 : Int32)) hx hb d_M_openNumber_3 (by decide) ?_
  obtain ⟨r1, z1, hq2, hf⟩ := x_cl_some hf
  refine va_calli (va_runV (As := [.int (3 : Int32), .int p1, .int (0 : Int32)]) (rest := []) ⟨hx, hb, hml, hown, hts⟩ (c_M_only l G (3 : Int32) p1 (0 : Int32) z0 r1 z1 hq2) (cwV 3 hts (x_gV t_893 t_895 sel_ContentLibraryModel_only t_7 t_896) rfl rfl rfl (by decide +kernel) ⟨Nat.le_of_ble_eq_true rfl, Nat.le_of_ble_eq_true rfl⟩) ⟨m_blind _ _ _, va_recv hK hP (ci := 5) (q0 := 0) rfl (m_lk_M G _), fun U hU hW => ⟨rfl, m_pw hP hD hK hG hS hz hU hW⟩⟩ rfl rfl hl.1 rfl (lv_room (Nat.le_of_ble_eq_true rfl)) d_M_openNumber_4 ⟨Nat.le_of_ble_eq_true rfl, Nat.le_of_ble_eq_true rfl⟩) hS (fun q _ h => h) (fun q h => h) (fun ra u t H locs ht hvm hw hB _ _ hS => ?_)
  obtain ⟨rfl, rfl⟩ := hw
  obtain ⟨hP, hD⟩ := m_back hB ht
  refine lv_istore_n (lv' := [(2, .int r1), (0, .ref (x_ad G 0)), (1, .int p1)]) hx hb d_M_openNumber_7 rfl hl (by decide) rfl (fun ls hl => ?_)
  refine lv_iload_n hx hb d_M_openNumber_8 rfl (lv_at hl 0 rfl) ?_
  refine lv_iconst (v := (-1 : Int32)) hx hb d_M_openNumber_9 (by decide) ?_
  refine lv_icmp_eq (tgt := 44) hx hb d_M_openNumber_10 (by decide) (fun hc3 => ?_) (fun hc3 => ?_)
  · have hf := x_br_t hf hc3
    obtain ⟨rfl, rfl⟩ := x_ret hf
    exact W.vret hx hb hr (fun t ht hW => ⟨⟨_, rfl, ⟨rfl, rfl⟩, m_pw hP hD hK hG hS hz ht hW⟩, hS.F ht⟩) hS.2.2 d_M_openNumber_44
  · have hf := x_br_f hf hc3
    cases hf
abbrev rm_M_reopen : Room := { frames := 4, cells := 0, slots := 0, locals := 101 }
set_option maxHeartbeats 4000000 in
set_option maxRecDepth 100000 in
theorem w_M_reopen_57 (l : Launch) (G : x_G) {p : Program} {e : Env} {s : State} {m : MethodId} {args : Array Value} {below : List Frame} {meth : Method} {c : Code} (C0 : m_Ctx G p s m args meth c prog_7_method_39_code "ContentLibraryModel" 3 (some .int)) (r : Int32) (zo : x_St) : ∀ (a1 : Int32) (z0 : x_St), f_M_reopen_57 (x_n G) a1 z0 = some (r, zo) → ∀ (H : Heap) (locs : List Loc) (ls : Array Slot), va_P (x_D G) vwCl (m_Wd G z0) H → va_D (x_A G) (m_Wd G z0) → va_S (x_A G) s.heap H locs → lv_has ls 3 [(1, .int a1)] → W p l e rm_M_reopen s m args below meth c H locs 0 0 (MQ below (va_Qi (fun a u => r = a ∧ zo = u) (m_PW G) (x_A G)) args s 0 0 (x_A G)) (F0 m 57 ls []) := by
  obtain ⟨hx, hb, hr, hml, hown, hts, hlocks, hz, hK, hG⟩ := id C0
  intro a1 z0 hf H locs ls hP hD hS hl
  rw [f_M_reopen_57] at hf
  refine lv_iload_n hx hb d_M_reopen_57 rfl (lv_at hl 0 rfl) ?_
  obtain ⟨rfl, rfl⟩ := x_ret hf
  exact W.iret (v := a1) hx hb hr (fun t ht hW => ⟨⟨_, _, rfl, ⟨rfl, rfl⟩, m_pw hP hD hK hG hS hz ht hW⟩, hS.F ht⟩) hS.2.2 d_M_reopen_58
set_option maxHeartbeats 4000000 in
set_option maxRecDepth 100000 in
theorem w_M_reopen_23 (l : Launch) (G : x_G) {p : Program} {e : Env} {s : State} {m : MethodId} {args : Array Value} {below : List Frame} {meth : Method} {c : Code} (C0 : m_Ctx G p s m args meth c prog_7_method_39_code "ContentLibraryModel" 3 (some .int)) (r : Int32) (zo : x_St) : ∀ (fu : Nat), ∀ (a1 : Int32) (a2 : Int32) (z0 : x_St), f_M_reopen_23 (x_n G) fu a1 a2 z0 = some (r, zo) → ∀ (H : Heap) (locs : List Loc) (ls : Array Slot), va_P (x_D G) vwCl (m_Wd G z0) H → va_D (x_A G) (m_Wd G z0) → va_S (x_A G) s.heap H locs → lv_has ls 3 [(0, .ref (x_ad G 0)), (1, .int a1), (2, .int a2)] → W p l e rm_M_reopen s m args below meth c H locs 0 0 (MQ below (va_Qi (fun a u => r = a ∧ zo = u) (m_PW G) (x_A G)) args s 0 0 (x_A G)) (F0 m 23 ls []) := by
  obtain ⟨hx, hb, hr, hml, hown, hts, hlocks, hz, hK, hG⟩ := id C0
  intro fu
  induction fu with
  | zero =>
    intro a1 a2 z0 hf
    rw [f_M_reopen_23] at hf
    cases hf
  | succ fu ih =>
    intro a1 a2 z0 hf H locs ls hP hD hS hl
    rw [f_M_reopen_23] at hf
    refine lv_iload_n hx hb d_M_reopen_23 rfl (lv_at hl 2 rfl) ?_
    refine lv_bipush (v := (16 : Int32)) hx hb d_M_reopen_24 (by decide) ?_
    refine lv_icmp_ge (tgt := 57) hx hb d_M_reopen_26 (by decide) (fun hc1 => ?_) (fun hc1 => ?_)
    · have hf := x_br_t hf hc1
      exact w_M_reopen_57 l G C0 r zo a1 z0 hf _ _ _ hP hD hS (lv_sub hl [1] rfl)
    · have hf := x_br_f hf hc1
      refine lv_aload_n hx hb d_M_reopen_29 rfl (lv_at hl 0 rfl) ?_
      refine lv_iload_n hx hb d_M_reopen_30 rfl (lv_at hl 2 rfl) ?_
      obtain ⟨r2, z2, hq3, hf⟩ := x_cl_some hf
      refine va_callv (va_runV (As := [.int a2]) (rest := []) ⟨hx, hb, hml, hown, hts⟩ (c_M_openNumber l G a2 z0 r2 z2 hq3) (cwV 1 hts (x_gV t_889 t_891 sel_ContentLibraryModel_openNumber t_7 t_892) rfl rfl rfl (by decide +kernel) ⟨Nat.le_of_ble_eq_true rfl, Nat.le_of_ble_eq_true rfl⟩) ⟨m_blind _ _ _, va_recv hK hP (ci := 5) (q0 := 0) rfl (m_lk_M G _), fun U hU hW => ⟨rfl, m_pw hP hD hK hG hS hz hU hW⟩⟩ rfl rfl hl.1 rfl (lv_room (Nat.le_of_ble_eq_true rfl)) d_M_reopen_31 ⟨Nat.le_of_ble_eq_true rfl, Nat.le_of_ble_eq_true rfl⟩) hS (fun q _ h => h) (fun q h => h) (fun u t H locs ht hvm hw hB _ _ hS => ?_)
      obtain ⟨rfl, rfl⟩ := hw
      obtain ⟨hP, hD⟩ := m_back hB ht
      refine lv_iload_n hx hb d_M_reopen_34 rfl (lv_at hl 1 rfl) ?_
      refine lv_aload_n hx hb d_M_reopen_35 rfl (lv_at hl 0 rfl) ?_
      refine va_get (D := x_D G) (ci := 5) (v := .ref (x_ad G 7)) (C := "ContentLibraryModel") (T := x_TM) (N := 31) hx hb hts x_inM hown hK hP 0 (m_lk_M G _) rfl 10 (by decide) (hts _ t_682) (fun _ h9 => h9) rfl d_M_reopen_36 ?_
      refine lv_iload_n hx hb d_M_reopen_39 rfl (lv_at hl 2 rfl) ?_
      obtain ⟨hin4, hf⟩ := x_ck_some hf
      refine va_zald hx hb hK hP 7 1 (m_lk_Z G _ (k := 7) (by decide)) rfl hin4 d_M_reopen_40 ?_
      refine lv_if_eq (tgt := 48) hx hb d_M_reopen_41 (by decide) (fun hc5 => ?_) (fun hc5 => ?_)
      · have hf := x_br_t hf hc5
        refine lv_iconst (v := (0 : Int32)) hx hb d_M_reopen_48 (by decide) ?_
        refine lv_iadd hx hb d_M_reopen_49 ?_
        refine lv_istore_n (lv' := [(1, .int (a1 + (0 : Int32))), (0, .ref (x_ad G 0)), (2, .int a2)]) hx hb d_M_reopen_50 rfl hl (by decide) rfl (fun ls hl => ?_)
        refine lv_iinc (v := (a2 + (1 : Int32))) (lv' := [(2, .int (a2 + (1 : Int32))), (1, .int (a1 + (0 : Int32))), (0, .ref (x_ad G 0))]) hx hb d_M_reopen_51 hl (k := 2) rfl rfl (by decide) rfl (fun ls hl => ?_)
        refine lv_goto (tgt := 23) hx hb d_M_reopen_54 (by decide) ?_
        exact ih (a1 + (0 : Int32)) (a2 + (1 : Int32)) z2 hf _ _ _ hP hD hS (lv_sub hl [2, 1, 0] rfl)
      · have hf := x_br_f hf hc5
        refine lv_iconst (v := (1 : Int32)) hx hb d_M_reopen_44 (by decide) ?_
        refine lv_goto (tgt := 49) hx hb d_M_reopen_45 (by decide) ?_
        refine lv_iadd hx hb d_M_reopen_49 ?_
        refine lv_istore_n (lv' := [(1, .int (a1 + (1 : Int32))), (0, .ref (x_ad G 0)), (2, .int a2)]) hx hb d_M_reopen_50 rfl hl (by decide) rfl (fun ls hl => ?_)
        refine lv_iinc (v := (a2 + (1 : Int32))) (lv' := [(2, .int (a2 + (1 : Int32))), (1, .int (a1 + (1 : Int32))), (0, .ref (x_ad G 0))]) hx hb d_M_reopen_51 hl (k := 2) rfl rfl (by decide) rfl (fun ls hl => ?_)
        refine lv_goto (tgt := 23) hx hb d_M_reopen_54 (by decide) ?_
        exact ih (a1 + (1 : Int32)) (a2 + (1 : Int32)) z2 hf _ _ _ hP hD hS (lv_sub hl [2, 1, 0] rfl)
set_option maxHeartbeats 4000000 in
set_option maxRecDepth 100000 in
theorem c_M_reopen (l : Launch) (G : x_G)  (z0 : x_St) (r : Int32) (zo : x_St) (hf : f_M_reopen (x_n G)  z0 = some (r, zo)) : Met l (⟨"ContentLibraryModel", "reopen", "()I"⟩ : MethodName) (x_ws (⟨"ContentLibraryModel", "reopen", "()I"⟩ : MethodName) prog_7_method_39_code 3 (some .int)) rm_M_reopen (va_Pc [.ref (x_ad G 0)] (m_PW G z0)) (va_Qi (fun a u => r = a ∧ zo = u) (m_PW G) (x_A G)) 0 0 (x_A G) := by
  refine Met.ofW (cc := prog_7_method_39_code) (maxL := 3) (ret := (some .int)) (by decide) rfl ?_
  intro p e s m args below meth c s₁ B hml hv
  obtain ⟨rfl, hz, hP, hD, hK, hG⟩ := hv
  have C0 : m_Ctx G p s m _ meth c prog_7_method_39_code "ContentLibraryModel" 3 (some .int) := ⟨B.exec, B.bytes, B.returns, hml, findClass_of_methodNamed B.named, fun w h => atoms_spec (ws := (x_ws (⟨"ContentLibraryModel", "reopen", "()I"⟩ : MethodName) prog_7_method_39_code 3 (some .int))) B.pre w (List.mem_cons_of_mem _ h), B.notSynchronized, hz, hK, hG⟩
  obtain ⟨hx, hb, hr, hml, hown, hts, hlocks, hz, hK, hG⟩ := id C0
  have hS : va_S (x_A G) s.heap s.heap [] := va_S.rf
  have hl := lv_entry ([.ref (x_ad G 0)]) (n := 3) (Nat.le_of_ble_eq_true rfl)
  rw [lg_entry_eq]
  generalize (lg_sl ([.ref (x_ad G 0)]) ++ List.replicate (3 - (lg_sl ([.ref (x_ad G 0)])).length) Slot.unset).toArray = ls at hl ⊢
  have hl : lv_has ls 3 [(0, .ref (x_ad G 0))] := hl
  rw [f_M_reopen] at hf
  refine lv_aload_n hx hb d_M_reopen_0 rfl (lv_at hl 0 rfl) ?_
  refine lv_iconst (v := (0 : Int32)) hx hb d_M_reopen_1 (by decide) ?_
  refine va_put (D := x_D G) (ci := 5) (v := .int (0 : Int32)) (ty := .int) (C := "ContentLibraryModel") (T := x_TM) (N := 31) hx hb hts x_inM x_tyM x_tyM_ok x_nmM hown hK hP hD hS 0 (m_lk_M G _) rfl 0 (by decide) (hts _ t_672) (fun _ h9 => h9) rfl (by decide +kernel) rfl rfl (Nat.le_of_ble_eq_true rfl) d_M_reopen_2 (fun H locs hP hD hS => ?_)
  rw [m_st_M0 G _] at hP hD
  refine lv_aload_n hx hb d_M_reopen_5 rfl (lv_at hl 0 rfl) ?_
  refine lv_iconst (v := (0 : Int32)) hx hb d_M_reopen_6 (by decide) ?_
  refine va_put (D := x_D G) (ci := 5) (v := .int (0 : Int32)) (ty := .boolean) (C := "ContentLibraryModel") (T := x_TM) (N := 31) hx hb hts x_inM x_tyM x_tyM_ok x_nmM hown hK hP hD hS 0 (m_lk_M G _) rfl 3 (by decide) (hts _ t_675) (fun _ h9 => h9) rfl (by decide +kernel) rfl rfl (Nat.le_of_ble_eq_true rfl) d_M_reopen_7 (fun H locs hP hD hS => ?_)
  rw [m_st_M3 G _] at hP hD
  refine lv_aload_n hx hb d_M_reopen_10 rfl (lv_at hl 0 rfl) ?_
  refine lv_iconst (v := (-1 : Int32)) hx hb d_M_reopen_11 (by decide) ?_
  refine va_put (D := x_D G) (ci := 5) (v := .int (-1 : Int32)) (ty := .int) (C := "ContentLibraryModel") (T := x_TM) (N := 31) hx hb hts x_inM x_tyM x_tyM_ok x_nmM hown hK hP hD hS 0 (m_lk_M G _) rfl 4 (by decide) (hts _ t_676) (fun _ h9 => h9) rfl (by decide +kernel) rfl rfl (Nat.le_of_ble_eq_true rfl) d_M_reopen_12 (fun H locs hP hD hS => ?_)
  rw [m_st_M4 G _] at hP hD
  refine lv_aload_n hx hb d_M_reopen_15 rfl (lv_at hl 0 rfl) ?_
  obtain ⟨r6, z6, hq7, hf⟩ := x_cl_some hf
  refine va_callv (va_runV (As := []) (rest := []) ⟨hx, hb, hml, hown, hts⟩ (c_M_forget l G (x_put (x_put (x_put z0 0 0 (0 : Int32)) 0 3 (0 : Int32)) 0 4 (-1 : Int32)) r6 z6 hq7) (cwV 0 hts (x_gV t_839 t_841 sel_ContentLibraryModel_forget t_7 t_842) rfl rfl rfl (by decide +kernel) ⟨Nat.le_of_ble_eq_true rfl, Nat.le_of_ble_eq_true rfl⟩) ⟨m_blind _ _ _, va_recv hK hP (ci := 5) (q0 := 0) rfl (m_lk_M G _), fun U hU hW => ⟨rfl, m_pw hP hD hK hG hS hz hU hW⟩⟩ rfl rfl hl.1 rfl (lv_room (Nat.le_of_ble_eq_true rfl)) d_M_reopen_16 ⟨Nat.le_of_ble_eq_true rfl, Nat.le_of_ble_eq_true rfl⟩) hS (fun q _ h => h) (fun q h => h) (fun u t H locs ht hvm hw hB _ _ hS => ?_)
  obtain ⟨rfl, rfl⟩ := hw
  obtain ⟨hP, hD⟩ := m_back hB ht
  refine lv_iconst (v := (0 : Int32)) hx hb d_M_reopen_19 (by decide) ?_
  refine lv_istore_n (lv' := [(1, .int (0 : Int32)), (0, .ref (x_ad G 0))]) hx hb d_M_reopen_20 rfl hl (by decide) rfl (fun ls hl => ?_)
  refine lv_iconst (v := (0 : Int32)) hx hb d_M_reopen_21 (by decide) ?_
  refine lv_istore_n (lv' := [(2, .int (0 : Int32)), (1, .int (0 : Int32)), (0, .ref (x_ad G 0))]) hx hb d_M_reopen_22 rfl hl (by decide) rfl (fun ls hl => ?_)
  exact w_M_reopen_23 l G C0 r zo x_FU (0 : Int32) (0 : Int32) z6 hf _ _ _ hP hD hS (lv_sub hl [2, 1, 0] rfl)
abbrev rm_M_poke : Room := { frames := 0, cells := 0, slots := 0, locals := 0 }
set_option maxHeartbeats 4000000 in
set_option maxRecDepth 100000 in
theorem c_M_poke (l : Launch) (G : x_G) (p1 : Int32) (p2 : Int32) (p3 : Int32) (z0 : x_St) (r : Int32) (zo : x_St) (hf : f_M_poke (x_n G) p1 p2 p3 z0 = some (r, zo)) : Met l (⟨"ContentLibraryModel", "poke", "(III)I"⟩ : MethodName) (x_ws (⟨"ContentLibraryModel", "poke", "(III)I"⟩ : MethodName) prog_7_method_40_code 4 (some .int)) rm_M_poke (va_Pc [.ref (x_ad G 0), .int p1, .int p2, .int p3] (m_PW G z0)) (va_Qi (fun a u => r = a ∧ zo = u) (m_PW G) (x_A G)) 0 0 (x_A G) := by
  refine Met.ofW (cc := prog_7_method_40_code) (maxL := 4) (ret := (some .int)) (by decide) rfl ?_
  intro p e s m args below meth c s₁ B hml hv
  obtain ⟨rfl, hz, hP, hD, hK, hG⟩ := hv
  have C0 : m_Ctx G p s m _ meth c prog_7_method_40_code "ContentLibraryModel" 4 (some .int) := ⟨B.exec, B.bytes, B.returns, hml, findClass_of_methodNamed B.named, fun w h => atoms_spec (ws := (x_ws (⟨"ContentLibraryModel", "poke", "(III)I"⟩ : MethodName) prog_7_method_40_code 4 (some .int))) B.pre w (List.mem_cons_of_mem _ h), B.notSynchronized, hz, hK, hG⟩
  obtain ⟨hx, hb, hr, hml, hown, hts, hlocks, hz, hK, hG⟩ := id C0
  have hS : va_S (x_A G) s.heap s.heap [] := va_S.rf
  have hl := lv_entry ([.ref (x_ad G 0), .int p1, .int p2, .int p3]) (n := 4) (Nat.le_of_ble_eq_true rfl)
  rw [lg_entry_eq]
  generalize (lg_sl ([.ref (x_ad G 0), .int p1, .int p2, .int p3]) ++ List.replicate (4 - (lg_sl ([.ref (x_ad G 0), .int p1, .int p2, .int p3])).length) Slot.unset).toArray = ls at hl ⊢
  have hl : lv_has ls 4 [(0, .ref (x_ad G 0)), (1, .int p1), (2, .int p2), (3, .int p3)] := hl
  rw [f_M_poke] at hf
  refine lv_aload_n hx hb d_M_poke_0 rfl (lv_at hl 0 rfl) ?_
  refine lv_iload_n hx hb d_M_poke_1 rfl (lv_at hl 1 rfl) ?_
  refine lv_if_lt (tgt := 23) hx hb d_M_poke_2 (by decide) (fun hc1 => ?_) (fun hc1 => ?_)
  · have hf := x_br_t hf hc1
    refine lv_iconst (v := (1 : Int32)) hx hb d_M_poke_23 (by decide) ?_
    refine lv_goto (tgt := 43) hx hb d_M_poke_24 (by decide) ?_
    refine va_put (D := x_D G) (ci := 5) (v := .int (1 : Int32)) (ty := .int) (C := "ContentLibraryModel") (T := x_TM) (N := 31) hx hb hts x_inM x_tyM x_tyM_ok x_nmM hown hK hP hD hS 0 (m_lk_M G _) rfl 0 (by decide) (hts _ t_672) (fun _ h9 => h9) rfl (by decide +kernel) rfl rfl (Nat.le_of_ble_eq_true rfl) d_M_poke_43 (fun H locs hP hD hS => ?_)
    rw [m_st_M0 G _] at hP hD
    refine lv_aload_n hx hb d_M_poke_46 rfl (lv_at hl 0 rfl) ?_
    refine va_get (D := x_D G) (ci := 5) (v := .int ((x_put z0 0 0 (1 : Int32)).1 0 0)) (C := "ContentLibraryModel") (T := x_TM) (N := 31) hx hb hts x_inM hown hK hP 0 (m_lk_M G _) rfl 0 (by decide) (hts _ t_672) (fun _ h9 => h9) rfl d_M_poke_47 ?_
    refine lv_if_le (tgt := 55) hx hb d_M_poke_50 (by decide) (fun hc2 => ?_) (fun hc2 => ?_)
    · have hf := x_br_t hf hc2
      refine lv_aload_n hx hb d_M_poke_55 rfl (lv_at hl 0 rfl) ?_
      refine va_get (D := x_D G) (ci := 5) (v := .ref (x_ad G 1)) (C := "ContentLibraryModel") (T := x_TM) (N := 31) hx hb hts x_inM hown hK hP 0 (m_lk_M G _) rfl 2 (by decide) (hts _ t_674) (fun _ h9 => h9) rfl d_M_poke_56 ?_
      refine lv_bipush (v := (64 : Int32)) hx hb d_M_poke_59 (by decide) ?_
      refine lv_iload_n hx hb d_M_poke_61 rfl (lv_at hl 1 rfl) ?_
      refine lv_imul hx hb d_M_poke_62 ?_
      refine lv_iload_n hx hb d_M_poke_63 rfl (lv_at hl 2 rfl) ?_
      refine lv_iadd hx hb d_M_poke_64 ?_
      refine lv_dup2_11 hx hb d_M_poke_65 rfl rfl ?_
      obtain ⟨hin3, hf⟩ := x_ck_some hf
      refine va_iald hx hb hK hP 1 0 (m_lk_A G _ (k := 1) (by decide)) rfl hin3 d_M_poke_66 ?_
      refine lv_iload_n hx hb d_M_poke_67 rfl (lv_at hl 3 rfl) ?_
      refine lv_ixor hx hb d_M_poke_68 ?_
      obtain ⟨hin4, hf⟩ := x_ck_some hf
      refine va_iast hx hb hK hP hD hS 1 0 (m_lk_A G _ (k := 1) (by decide)) rfl hin4 d_M_poke_69 (fun H locs hP hD hS => ?_)
      rw [m_st_A G _ (k := 1) (by decide)] at hP hD
      refine lv_aload_n hx hb d_M_poke_70 rfl (lv_at hl 0 rfl) ?_
      refine va_get (D := x_D G) (ci := 5) (v := .ref (x_ad G 1)) (C := "ContentLibraryModel") (T := x_TM) (N := 31) hx hb hts x_inM hown hK hP 0 (m_lk_M G _) rfl 2 (by decide) (hts _ t_674) (fun _ h9 => h9) rfl d_M_poke_71 ?_
      refine lv_bipush (v := (64 : Int32)) hx hb d_M_poke_74 (by decide) ?_
      refine lv_iload_n hx hb d_M_poke_76 rfl (lv_at hl 1 rfl) ?_
      refine lv_imul hx hb d_M_poke_77 ?_
      refine lv_iload_n hx hb d_M_poke_78 rfl (lv_at hl 2 rfl) ?_
      refine lv_iadd hx hb d_M_poke_79 ?_
      obtain ⟨hin5, hf⟩ := x_ck_some hf
      refine va_iald hx hb hK hP 1 0 (m_lk_A G _ (k := 1) (by decide)) rfl hin5 d_M_poke_80 ?_
      obtain ⟨rfl, rfl⟩ := x_ret hf
      exact W.iret (v := ((x_put (x_put z0 0 0 (1 : Int32)) 1 ((((64 : Int32) * p1) + p2)).toNatClampNeg (((x_put z0 0 0 (1 : Int32)).1 1 ((((64 : Int32) * p1) + p2)).toNatClampNeg) ^^^ p3)).1 1 ((((64 : Int32) * p1) + p2)).toNatClampNeg)) hx hb hr (fun t ht hW => ⟨⟨_, _, rfl, ⟨rfl, rfl⟩, m_pw hP hD hK hG hS hz ht hW⟩, hS.F ht⟩) hS.2.2 d_M_poke_81
    · have hf := x_br_f hf hc2
      refine lv_iconst (v := (0 : Int32)) hx hb d_M_poke_53 (by decide) ?_
      obtain ⟨rfl, rfl⟩ := x_ret hf
      exact W.iret (v := (0 : Int32)) hx hb hr (fun t ht hW => ⟨⟨_, _, rfl, ⟨rfl, rfl⟩, m_pw hP hD hK hG hS hz ht hW⟩, hS.F ht⟩) hS.2.2 d_M_poke_54
  · have hf := x_br_f hf hc1
    refine lv_iload_n hx hb d_M_poke_5 rfl (lv_at hl 1 rfl) ?_
    refine lv_aload_n hx hb d_M_poke_6 rfl (lv_at hl 0 rfl) ?_
    refine va_get (D := x_D G) (ci := 5) (v := .int (z0.1 0 1)) (C := "ContentLibraryModel") (T := x_TM) (N := 31) hx hb hts x_inM hown hK hP 0 (m_lk_M G _) rfl 1 (by decide) (hts _ t_673) (fun _ h9 => h9) rfl d_M_poke_7 ?_
    refine lv_icmp_ge (tgt := 23) hx hb d_M_poke_10 (by decide) (fun hc6 => ?_) (fun hc6 => ?_)
    · have hf := x_br_t hf hc6
      refine lv_iconst (v := (1 : Int32)) hx hb d_M_poke_23 (by decide) ?_
      refine lv_goto (tgt := 43) hx hb d_M_poke_24 (by decide) ?_
      refine va_put (D := x_D G) (ci := 5) (v := .int (1 : Int32)) (ty := .int) (C := "ContentLibraryModel") (T := x_TM) (N := 31) hx hb hts x_inM x_tyM x_tyM_ok x_nmM hown hK hP hD hS 0 (m_lk_M G _) rfl 0 (by decide) (hts _ t_672) (fun _ h9 => h9) rfl (by decide +kernel) rfl rfl (Nat.le_of_ble_eq_true rfl) d_M_poke_43 (fun H locs hP hD hS => ?_)
      rw [m_st_M0 G _] at hP hD
      refine lv_aload_n hx hb d_M_poke_46 rfl (lv_at hl 0 rfl) ?_
      refine va_get (D := x_D G) (ci := 5) (v := .int ((x_put z0 0 0 (1 : Int32)).1 0 0)) (C := "ContentLibraryModel") (T := x_TM) (N := 31) hx hb hts x_inM hown hK hP 0 (m_lk_M G _) rfl 0 (by decide) (hts _ t_672) (fun _ h9 => h9) rfl d_M_poke_47 ?_
      refine lv_if_le (tgt := 55) hx hb d_M_poke_50 (by decide) (fun hc7 => ?_) (fun hc7 => ?_)
      · have hf := x_br_t hf hc7
        refine lv_aload_n hx hb d_M_poke_55 rfl (lv_at hl 0 rfl) ?_
        refine va_get (D := x_D G) (ci := 5) (v := .ref (x_ad G 1)) (C := "ContentLibraryModel") (T := x_TM) (N := 31) hx hb hts x_inM hown hK hP 0 (m_lk_M G _) rfl 2 (by decide) (hts _ t_674) (fun _ h9 => h9) rfl d_M_poke_56 ?_
        refine lv_bipush (v := (64 : Int32)) hx hb d_M_poke_59 (by decide) ?_
        refine lv_iload_n hx hb d_M_poke_61 rfl (lv_at hl 1 rfl) ?_
        refine lv_imul hx hb d_M_poke_62 ?_
        refine lv_iload_n hx hb d_M_poke_63 rfl (lv_at hl 2 rfl) ?_
        refine lv_iadd hx hb d_M_poke_64 ?_
        refine lv_dup2_11 hx hb d_M_poke_65 rfl rfl ?_
        obtain ⟨hin8, hf⟩ := x_ck_some hf
        refine va_iald hx hb hK hP 1 0 (m_lk_A G _ (k := 1) (by decide)) rfl hin8 d_M_poke_66 ?_
        refine lv_iload_n hx hb d_M_poke_67 rfl (lv_at hl 3 rfl) ?_
        refine lv_ixor hx hb d_M_poke_68 ?_
        obtain ⟨hin9, hf⟩ := x_ck_some hf
        refine va_iast hx hb hK hP hD hS 1 0 (m_lk_A G _ (k := 1) (by decide)) rfl hin9 d_M_poke_69 (fun H locs hP hD hS => ?_)
        rw [m_st_A G _ (k := 1) (by decide)] at hP hD
        refine lv_aload_n hx hb d_M_poke_70 rfl (lv_at hl 0 rfl) ?_
        refine va_get (D := x_D G) (ci := 5) (v := .ref (x_ad G 1)) (C := "ContentLibraryModel") (T := x_TM) (N := 31) hx hb hts x_inM hown hK hP 0 (m_lk_M G _) rfl 2 (by decide) (hts _ t_674) (fun _ h9 => h9) rfl d_M_poke_71 ?_
        refine lv_bipush (v := (64 : Int32)) hx hb d_M_poke_74 (by decide) ?_
        refine lv_iload_n hx hb d_M_poke_76 rfl (lv_at hl 1 rfl) ?_
        refine lv_imul hx hb d_M_poke_77 ?_
        refine lv_iload_n hx hb d_M_poke_78 rfl (lv_at hl 2 rfl) ?_
        refine lv_iadd hx hb d_M_poke_79 ?_
        obtain ⟨hin10, hf⟩ := x_ck_some hf
        refine va_iald hx hb hK hP 1 0 (m_lk_A G _ (k := 1) (by decide)) rfl hin10 d_M_poke_80 ?_
        obtain ⟨rfl, rfl⟩ := x_ret hf
        exact W.iret (v := ((x_put (x_put z0 0 0 (1 : Int32)) 1 ((((64 : Int32) * p1) + p2)).toNatClampNeg (((x_put z0 0 0 (1 : Int32)).1 1 ((((64 : Int32) * p1) + p2)).toNatClampNeg) ^^^ p3)).1 1 ((((64 : Int32) * p1) + p2)).toNatClampNeg)) hx hb hr (fun t ht hW => ⟨⟨_, _, rfl, ⟨rfl, rfl⟩, m_pw hP hD hK hG hS hz ht hW⟩, hS.F ht⟩) hS.2.2 d_M_poke_81
      · have hf := x_br_f hf hc7
        refine lv_iconst (v := (0 : Int32)) hx hb d_M_poke_53 (by decide) ?_
        obtain ⟨rfl, rfl⟩ := x_ret hf
        exact W.iret (v := (0 : Int32)) hx hb hr (fun t ht hW => ⟨⟨_, _, rfl, ⟨rfl, rfl⟩, m_pw hP hD hK hG hS hz ht hW⟩, hS.F ht⟩) hS.2.2 d_M_poke_54
    · have hf := x_br_f hf hc6
      refine lv_iload_n hx hb d_M_poke_13 rfl (lv_at hl 2 rfl) ?_
      refine lv_if_lt (tgt := 23) hx hb d_M_poke_14 (by decide) (fun hc11 => ?_) (fun hc11 => ?_)
      · have hf := x_br_t hf hc11
        refine lv_iconst (v := (1 : Int32)) hx hb d_M_poke_23 (by decide) ?_
        refine lv_goto (tgt := 43) hx hb d_M_poke_24 (by decide) ?_
        refine va_put (D := x_D G) (ci := 5) (v := .int (1 : Int32)) (ty := .int) (C := "ContentLibraryModel") (T := x_TM) (N := 31) hx hb hts x_inM x_tyM x_tyM_ok x_nmM hown hK hP hD hS 0 (m_lk_M G _) rfl 0 (by decide) (hts _ t_672) (fun _ h9 => h9) rfl (by decide +kernel) rfl rfl (Nat.le_of_ble_eq_true rfl) d_M_poke_43 (fun H locs hP hD hS => ?_)
        rw [m_st_M0 G _] at hP hD
        refine lv_aload_n hx hb d_M_poke_46 rfl (lv_at hl 0 rfl) ?_
        refine va_get (D := x_D G) (ci := 5) (v := .int ((x_put z0 0 0 (1 : Int32)).1 0 0)) (C := "ContentLibraryModel") (T := x_TM) (N := 31) hx hb hts x_inM hown hK hP 0 (m_lk_M G _) rfl 0 (by decide) (hts _ t_672) (fun _ h9 => h9) rfl d_M_poke_47 ?_
        refine lv_if_le (tgt := 55) hx hb d_M_poke_50 (by decide) (fun hc12 => ?_) (fun hc12 => ?_)
        · have hf := x_br_t hf hc12
          refine lv_aload_n hx hb d_M_poke_55 rfl (lv_at hl 0 rfl) ?_
          refine va_get (D := x_D G) (ci := 5) (v := .ref (x_ad G 1)) (C := "ContentLibraryModel") (T := x_TM) (N := 31) hx hb hts x_inM hown hK hP 0 (m_lk_M G _) rfl 2 (by decide) (hts _ t_674) (fun _ h9 => h9) rfl d_M_poke_56 ?_
          refine lv_bipush (v := (64 : Int32)) hx hb d_M_poke_59 (by decide) ?_
          refine lv_iload_n hx hb d_M_poke_61 rfl (lv_at hl 1 rfl) ?_
          refine lv_imul hx hb d_M_poke_62 ?_
          refine lv_iload_n hx hb d_M_poke_63 rfl (lv_at hl 2 rfl) ?_
          refine lv_iadd hx hb d_M_poke_64 ?_
          refine lv_dup2_11 hx hb d_M_poke_65 rfl rfl ?_
          obtain ⟨hin13, hf⟩ := x_ck_some hf
          refine va_iald hx hb hK hP 1 0 (m_lk_A G _ (k := 1) (by decide)) rfl hin13 d_M_poke_66 ?_
          refine lv_iload_n hx hb d_M_poke_67 rfl (lv_at hl 3 rfl) ?_
          refine lv_ixor hx hb d_M_poke_68 ?_
          obtain ⟨hin14, hf⟩ := x_ck_some hf
          refine va_iast hx hb hK hP hD hS 1 0 (m_lk_A G _ (k := 1) (by decide)) rfl hin14 d_M_poke_69 (fun H locs hP hD hS => ?_)
          rw [m_st_A G _ (k := 1) (by decide)] at hP hD
          refine lv_aload_n hx hb d_M_poke_70 rfl (lv_at hl 0 rfl) ?_
          refine va_get (D := x_D G) (ci := 5) (v := .ref (x_ad G 1)) (C := "ContentLibraryModel") (T := x_TM) (N := 31) hx hb hts x_inM hown hK hP 0 (m_lk_M G _) rfl 2 (by decide) (hts _ t_674) (fun _ h9 => h9) rfl d_M_poke_71 ?_
          refine lv_bipush (v := (64 : Int32)) hx hb d_M_poke_74 (by decide) ?_
          refine lv_iload_n hx hb d_M_poke_76 rfl (lv_at hl 1 rfl) ?_
          refine lv_imul hx hb d_M_poke_77 ?_
          refine lv_iload_n hx hb d_M_poke_78 rfl (lv_at hl 2 rfl) ?_
          refine lv_iadd hx hb d_M_poke_79 ?_
          obtain ⟨hin15, hf⟩ := x_ck_some hf
          refine va_iald hx hb hK hP 1 0 (m_lk_A G _ (k := 1) (by decide)) rfl hin15 d_M_poke_80 ?_
          obtain ⟨rfl, rfl⟩ := x_ret hf
          exact W.iret (v := ((x_put (x_put z0 0 0 (1 : Int32)) 1 ((((64 : Int32) * p1) + p2)).toNatClampNeg (((x_put z0 0 0 (1 : Int32)).1 1 ((((64 : Int32) * p1) + p2)).toNatClampNeg) ^^^ p3)).1 1 ((((64 : Int32) * p1) + p2)).toNatClampNeg)) hx hb hr (fun t ht hW => ⟨⟨_, _, rfl, ⟨rfl, rfl⟩, m_pw hP hD hK hG hS hz ht hW⟩, hS.F ht⟩) hS.2.2 d_M_poke_81
        · have hf := x_br_f hf hc12
          refine lv_iconst (v := (0 : Int32)) hx hb d_M_poke_53 (by decide) ?_
          obtain ⟨rfl, rfl⟩ := x_ret hf
          exact W.iret (v := (0 : Int32)) hx hb hr (fun t ht hW => ⟨⟨_, _, rfl, ⟨rfl, rfl⟩, m_pw hP hD hK hG hS hz ht hW⟩, hS.F ht⟩) hS.2.2 d_M_poke_54
      · have hf := x_br_f hf hc11
        refine lv_iload_n hx hb d_M_poke_17 rfl (lv_at hl 2 rfl) ?_
        refine lv_bipush (v := (64 : Int32)) hx hb d_M_poke_18 (by decide) ?_
        refine lv_icmp_lt (tgt := 27) hx hb d_M_poke_20 (by decide) (fun hc16 => ?_) (fun hc16 => ?_)
        · have hf := x_br_t hf hc16
          refine lv_iload_n hx hb d_M_poke_27 rfl (lv_at hl 3 rfl) ?_
          refine lv_if_lt (tgt := 38) hx hb d_M_poke_28 (by decide) (fun hc17 => ?_) (fun hc17 => ?_)
          · have hf := x_br_t hf hc17
            refine lv_iconst (v := (2 : Int32)) hx hb d_M_poke_38 (by decide) ?_
            refine lv_goto (tgt := 43) hx hb d_M_poke_39 (by decide) ?_
            refine va_put (D := x_D G) (ci := 5) (v := .int (2 : Int32)) (ty := .int) (C := "ContentLibraryModel") (T := x_TM) (N := 31) hx hb hts x_inM x_tyM x_tyM_ok x_nmM hown hK hP hD hS 0 (m_lk_M G _) rfl 0 (by decide) (hts _ t_672) (fun _ h9 => h9) rfl (by decide +kernel) rfl rfl (Nat.le_of_ble_eq_true rfl) d_M_poke_43 (fun H locs hP hD hS => ?_)
            rw [m_st_M0 G _] at hP hD
            refine lv_aload_n hx hb d_M_poke_46 rfl (lv_at hl 0 rfl) ?_
            refine va_get (D := x_D G) (ci := 5) (v := .int ((x_put z0 0 0 (2 : Int32)).1 0 0)) (C := "ContentLibraryModel") (T := x_TM) (N := 31) hx hb hts x_inM hown hK hP 0 (m_lk_M G _) rfl 0 (by decide) (hts _ t_672) (fun _ h9 => h9) rfl d_M_poke_47 ?_
            refine lv_if_le (tgt := 55) hx hb d_M_poke_50 (by decide) (fun hc18 => ?_) (fun hc18 => ?_)
            · have hf := x_br_t hf hc18
              refine lv_aload_n hx hb d_M_poke_55 rfl (lv_at hl 0 rfl) ?_
              refine va_get (D := x_D G) (ci := 5) (v := .ref (x_ad G 1)) (C := "ContentLibraryModel") (T := x_TM) (N := 31) hx hb hts x_inM hown hK hP 0 (m_lk_M G _) rfl 2 (by decide) (hts _ t_674) (fun _ h9 => h9) rfl d_M_poke_56 ?_
              refine lv_bipush (v := (64 : Int32)) hx hb d_M_poke_59 (by decide) ?_
              refine lv_iload_n hx hb d_M_poke_61 rfl (lv_at hl 1 rfl) ?_
              refine lv_imul hx hb d_M_poke_62 ?_
              refine lv_iload_n hx hb d_M_poke_63 rfl (lv_at hl 2 rfl) ?_
              refine lv_iadd hx hb d_M_poke_64 ?_
              refine lv_dup2_11 hx hb d_M_poke_65 rfl rfl ?_
              obtain ⟨hin19, hf⟩ := x_ck_some hf
              refine va_iald hx hb hK hP 1 0 (m_lk_A G _ (k := 1) (by decide)) rfl hin19 d_M_poke_66 ?_
              refine lv_iload_n hx hb d_M_poke_67 rfl (lv_at hl 3 rfl) ?_
              refine lv_ixor hx hb d_M_poke_68 ?_
              obtain ⟨hin20, hf⟩ := x_ck_some hf
              refine va_iast hx hb hK hP hD hS 1 0 (m_lk_A G _ (k := 1) (by decide)) rfl hin20 d_M_poke_69 (fun H locs hP hD hS => ?_)
              rw [m_st_A G _ (k := 1) (by decide)] at hP hD
              refine lv_aload_n hx hb d_M_poke_70 rfl (lv_at hl 0 rfl) ?_
              refine va_get (D := x_D G) (ci := 5) (v := .ref (x_ad G 1)) (C := "ContentLibraryModel") (T := x_TM) (N := 31) hx hb hts x_inM hown hK hP 0 (m_lk_M G _) rfl 2 (by decide) (hts _ t_674) (fun _ h9 => h9) rfl d_M_poke_71 ?_
              refine lv_bipush (v := (64 : Int32)) hx hb d_M_poke_74 (by decide) ?_
              refine lv_iload_n hx hb d_M_poke_76 rfl (lv_at hl 1 rfl) ?_
              refine lv_imul hx hb d_M_poke_77 ?_
              refine lv_iload_n hx hb d_M_poke_78 rfl (lv_at hl 2 rfl) ?_
              refine lv_iadd hx hb d_M_poke_79 ?_
              obtain ⟨hin21, hf⟩ := x_ck_some hf
              refine va_iald hx hb hK hP 1 0 (m_lk_A G _ (k := 1) (by decide)) rfl hin21 d_M_poke_80 ?_
              obtain ⟨rfl, rfl⟩ := x_ret hf
              exact W.iret (v := ((x_put (x_put z0 0 0 (2 : Int32)) 1 ((((64 : Int32) * p1) + p2)).toNatClampNeg (((x_put z0 0 0 (2 : Int32)).1 1 ((((64 : Int32) * p1) + p2)).toNatClampNeg) ^^^ p3)).1 1 ((((64 : Int32) * p1) + p2)).toNatClampNeg)) hx hb hr (fun t ht hW => ⟨⟨_, _, rfl, ⟨rfl, rfl⟩, m_pw hP hD hK hG hS hz ht hW⟩, hS.F ht⟩) hS.2.2 d_M_poke_81
            · have hf := x_br_f hf hc18
              refine lv_iconst (v := (0 : Int32)) hx hb d_M_poke_53 (by decide) ?_
              obtain ⟨rfl, rfl⟩ := x_ret hf
              exact W.iret (v := (0 : Int32)) hx hb hr (fun t ht hW => ⟨⟨_, _, rfl, ⟨rfl, rfl⟩, m_pw hP hD hK hG hS hz ht hW⟩, hS.F ht⟩) hS.2.2 d_M_poke_54
          · have hf := x_br_f hf hc17
            refine lv_iload_n hx hb d_M_poke_31 rfl (lv_at hl 3 rfl) ?_
            refine lv_sipush (v := (255 : Int32)) hx hb d_M_poke_32 (by decide) ?_
            refine lv_icmp_le (tgt := 42) hx hb d_M_poke_35 (by decide) (fun hc22 => ?_) (fun hc22 => ?_)
            · have hf := x_br_t hf hc22
              refine lv_iconst (v := (0 : Int32)) hx hb d_M_poke_42 (by decide) ?_
              refine va_put (D := x_D G) (ci := 5) (v := .int (0 : Int32)) (ty := .int) (C := "ContentLibraryModel") (T := x_TM) (N := 31) hx hb hts x_inM x_tyM x_tyM_ok x_nmM hown hK hP hD hS 0 (m_lk_M G _) rfl 0 (by decide) (hts _ t_672) (fun _ h9 => h9) rfl (by decide +kernel) rfl rfl (Nat.le_of_ble_eq_true rfl) d_M_poke_43 (fun H locs hP hD hS => ?_)
              rw [m_st_M0 G _] at hP hD
              refine lv_aload_n hx hb d_M_poke_46 rfl (lv_at hl 0 rfl) ?_
              refine va_get (D := x_D G) (ci := 5) (v := .int ((x_put z0 0 0 (0 : Int32)).1 0 0)) (C := "ContentLibraryModel") (T := x_TM) (N := 31) hx hb hts x_inM hown hK hP 0 (m_lk_M G _) rfl 0 (by decide) (hts _ t_672) (fun _ h9 => h9) rfl d_M_poke_47 ?_
              refine lv_if_le (tgt := 55) hx hb d_M_poke_50 (by decide) (fun hc23 => ?_) (fun hc23 => ?_)
              · have hf := x_br_t hf hc23
                refine lv_aload_n hx hb d_M_poke_55 rfl (lv_at hl 0 rfl) ?_
                refine va_get (D := x_D G) (ci := 5) (v := .ref (x_ad G 1)) (C := "ContentLibraryModel") (T := x_TM) (N := 31) hx hb hts x_inM hown hK hP 0 (m_lk_M G _) rfl 2 (by decide) (hts _ t_674) (fun _ h9 => h9) rfl d_M_poke_56 ?_
                refine lv_bipush (v := (64 : Int32)) hx hb d_M_poke_59 (by decide) ?_
                refine lv_iload_n hx hb d_M_poke_61 rfl (lv_at hl 1 rfl) ?_
                refine lv_imul hx hb d_M_poke_62 ?_
                refine lv_iload_n hx hb d_M_poke_63 rfl (lv_at hl 2 rfl) ?_
                refine lv_iadd hx hb d_M_poke_64 ?_
                refine lv_dup2_11 hx hb d_M_poke_65 rfl rfl ?_
                obtain ⟨hin24, hf⟩ := x_ck_some hf
                refine va_iald hx hb hK hP 1 0 (m_lk_A G _ (k := 1) (by decide)) rfl hin24 d_M_poke_66 ?_
                refine lv_iload_n hx hb d_M_poke_67 rfl (lv_at hl 3 rfl) ?_
                refine lv_ixor hx hb d_M_poke_68 ?_
                obtain ⟨hin25, hf⟩ := x_ck_some hf
                refine va_iast hx hb hK hP hD hS 1 0 (m_lk_A G _ (k := 1) (by decide)) rfl hin25 d_M_poke_69 (fun H locs hP hD hS => ?_)
                rw [m_st_A G _ (k := 1) (by decide)] at hP hD
                refine lv_aload_n hx hb d_M_poke_70 rfl (lv_at hl 0 rfl) ?_
                refine va_get (D := x_D G) (ci := 5) (v := .ref (x_ad G 1)) (C := "ContentLibraryModel") (T := x_TM) (N := 31) hx hb hts x_inM hown hK hP 0 (m_lk_M G _) rfl 2 (by decide) (hts _ t_674) (fun _ h9 => h9) rfl d_M_poke_71 ?_
                refine lv_bipush (v := (64 : Int32)) hx hb d_M_poke_74 (by decide) ?_
                refine lv_iload_n hx hb d_M_poke_76 rfl (lv_at hl 1 rfl) ?_
                refine lv_imul hx hb d_M_poke_77 ?_
                refine lv_iload_n hx hb d_M_poke_78 rfl (lv_at hl 2 rfl) ?_
                refine lv_iadd hx hb d_M_poke_79 ?_
                obtain ⟨hin26, hf⟩ := x_ck_some hf
                refine va_iald hx hb hK hP 1 0 (m_lk_A G _ (k := 1) (by decide)) rfl hin26 d_M_poke_80 ?_
                obtain ⟨rfl, rfl⟩ := x_ret hf
                exact W.iret (v := ((x_put (x_put z0 0 0 (0 : Int32)) 1 ((((64 : Int32) * p1) + p2)).toNatClampNeg (((x_put z0 0 0 (0 : Int32)).1 1 ((((64 : Int32) * p1) + p2)).toNatClampNeg) ^^^ p3)).1 1 ((((64 : Int32) * p1) + p2)).toNatClampNeg)) hx hb hr (fun t ht hW => ⟨⟨_, _, rfl, ⟨rfl, rfl⟩, m_pw hP hD hK hG hS hz ht hW⟩, hS.F ht⟩) hS.2.2 d_M_poke_81
              · have hf := x_br_f hf hc23
                refine lv_iconst (v := (0 : Int32)) hx hb d_M_poke_53 (by decide) ?_
                obtain ⟨rfl, rfl⟩ := x_ret hf
                exact W.iret (v := (0 : Int32)) hx hb hr (fun t ht hW => ⟨⟨_, _, rfl, ⟨rfl, rfl⟩, m_pw hP hD hK hG hS hz ht hW⟩, hS.F ht⟩) hS.2.2 d_M_poke_54
            · have hf := x_br_f hf hc22
              refine lv_iconst (v := (2 : Int32)) hx hb d_M_poke_38 (by decide) ?_
              refine lv_goto (tgt := 43) hx hb d_M_poke_39 (by decide) ?_
              refine va_put (D := x_D G) (ci := 5) (v := .int (2 : Int32)) (ty := .int) (C := "ContentLibraryModel") (T := x_TM) (N := 31) hx hb hts x_inM x_tyM x_tyM_ok x_nmM hown hK hP hD hS 0 (m_lk_M G _) rfl 0 (by decide) (hts _ t_672) (fun _ h9 => h9) rfl (by decide +kernel) rfl rfl (Nat.le_of_ble_eq_true rfl) d_M_poke_43 (fun H locs hP hD hS => ?_)
              rw [m_st_M0 G _] at hP hD
              refine lv_aload_n hx hb d_M_poke_46 rfl (lv_at hl 0 rfl) ?_
              refine va_get (D := x_D G) (ci := 5) (v := .int ((x_put z0 0 0 (2 : Int32)).1 0 0)) (C := "ContentLibraryModel") (T := x_TM) (N := 31) hx hb hts x_inM hown hK hP 0 (m_lk_M G _) rfl 0 (by decide) (hts _ t_672) (fun _ h9 => h9) rfl d_M_poke_47 ?_
              refine lv_if_le (tgt := 55) hx hb d_M_poke_50 (by decide) (fun hc27 => ?_) (fun hc27 => ?_)
              · have hf := x_br_t hf hc27
                refine lv_aload_n hx hb d_M_poke_55 rfl (lv_at hl 0 rfl) ?_
                refine va_get (D := x_D G) (ci := 5) (v := .ref (x_ad G 1)) (C := "ContentLibraryModel") (T := x_TM) (N := 31) hx hb hts x_inM hown hK hP 0 (m_lk_M G _) rfl 2 (by decide) (hts _ t_674) (fun _ h9 => h9) rfl d_M_poke_56 ?_
                refine lv_bipush (v := (64 : Int32)) hx hb d_M_poke_59 (by decide) ?_
                refine lv_iload_n hx hb d_M_poke_61 rfl (lv_at hl 1 rfl) ?_
                refine lv_imul hx hb d_M_poke_62 ?_
                refine lv_iload_n hx hb d_M_poke_63 rfl (lv_at hl 2 rfl) ?_
                refine lv_iadd hx hb d_M_poke_64 ?_
                refine lv_dup2_11 hx hb d_M_poke_65 rfl rfl ?_
                obtain ⟨hin28, hf⟩ := x_ck_some hf
                refine va_iald hx hb hK hP 1 0 (m_lk_A G _ (k := 1) (by decide)) rfl hin28 d_M_poke_66 ?_
                refine lv_iload_n hx hb d_M_poke_67 rfl (lv_at hl 3 rfl) ?_
                refine lv_ixor hx hb d_M_poke_68 ?_
                obtain ⟨hin29, hf⟩ := x_ck_some hf
                refine va_iast hx hb hK hP hD hS 1 0 (m_lk_A G _ (k := 1) (by decide)) rfl hin29 d_M_poke_69 (fun H locs hP hD hS => ?_)
                rw [m_st_A G _ (k := 1) (by decide)] at hP hD
                refine lv_aload_n hx hb d_M_poke_70 rfl (lv_at hl 0 rfl) ?_
                refine va_get (D := x_D G) (ci := 5) (v := .ref (x_ad G 1)) (C := "ContentLibraryModel") (T := x_TM) (N := 31) hx hb hts x_inM hown hK hP 0 (m_lk_M G _) rfl 2 (by decide) (hts _ t_674) (fun _ h9 => h9) rfl d_M_poke_71 ?_
                refine lv_bipush (v := (64 : Int32)) hx hb d_M_poke_74 (by decide) ?_
                refine lv_iload_n hx hb d_M_poke_76 rfl (lv_at hl 1 rfl) ?_
                refine lv_imul hx hb d_M_poke_77 ?_
                refine lv_iload_n hx hb d_M_poke_78 rfl (lv_at hl 2 rfl) ?_
                refine lv_iadd hx hb d_M_poke_79 ?_
                obtain ⟨hin30, hf⟩ := x_ck_some hf
                refine va_iald hx hb hK hP 1 0 (m_lk_A G _ (k := 1) (by decide)) rfl hin30 d_M_poke_80 ?_
                obtain ⟨rfl, rfl⟩ := x_ret hf
                exact W.iret (v := ((x_put (x_put z0 0 0 (2 : Int32)) 1 ((((64 : Int32) * p1) + p2)).toNatClampNeg (((x_put z0 0 0 (2 : Int32)).1 1 ((((64 : Int32) * p1) + p2)).toNatClampNeg) ^^^ p3)).1 1 ((((64 : Int32) * p1) + p2)).toNatClampNeg)) hx hb hr (fun t ht hW => ⟨⟨_, _, rfl, ⟨rfl, rfl⟩, m_pw hP hD hK hG hS hz ht hW⟩, hS.F ht⟩) hS.2.2 d_M_poke_81
              · have hf := x_br_f hf hc27
                refine lv_iconst (v := (0 : Int32)) hx hb d_M_poke_53 (by decide) ?_
                obtain ⟨rfl, rfl⟩ := x_ret hf
                exact W.iret (v := (0 : Int32)) hx hb hr (fun t ht hW => ⟨⟨_, _, rfl, ⟨rfl, rfl⟩, m_pw hP hD hK hG hS hz ht hW⟩, hS.F ht⟩) hS.2.2 d_M_poke_54
        · have hf := x_br_f hf hc16
          refine lv_iconst (v := (1 : Int32)) hx hb d_M_poke_23 (by decide) ?_
          refine lv_goto (tgt := 43) hx hb d_M_poke_24 (by decide) ?_
          refine va_put (D := x_D G) (ci := 5) (v := .int (1 : Int32)) (ty := .int) (C := "ContentLibraryModel") (T := x_TM) (N := 31) hx hb hts x_inM x_tyM x_tyM_ok x_nmM hown hK hP hD hS 0 (m_lk_M G _) rfl 0 (by decide) (hts _ t_672) (fun _ h9 => h9) rfl (by decide +kernel) rfl rfl (Nat.le_of_ble_eq_true rfl) d_M_poke_43 (fun H locs hP hD hS => ?_)
          rw [m_st_M0 G _] at hP hD
          refine lv_aload_n hx hb d_M_poke_46 rfl (lv_at hl 0 rfl) ?_
          refine va_get (D := x_D G) (ci := 5) (v := .int ((x_put z0 0 0 (1 : Int32)).1 0 0)) (C := "ContentLibraryModel") (T := x_TM) (N := 31) hx hb hts x_inM hown hK hP 0 (m_lk_M G _) rfl 0 (by decide) (hts _ t_672) (fun _ h9 => h9) rfl d_M_poke_47 ?_
          refine lv_if_le (tgt := 55) hx hb d_M_poke_50 (by decide) (fun hc31 => ?_) (fun hc31 => ?_)
          · have hf := x_br_t hf hc31
            refine lv_aload_n hx hb d_M_poke_55 rfl (lv_at hl 0 rfl) ?_
            refine va_get (D := x_D G) (ci := 5) (v := .ref (x_ad G 1)) (C := "ContentLibraryModel") (T := x_TM) (N := 31) hx hb hts x_inM hown hK hP 0 (m_lk_M G _) rfl 2 (by decide) (hts _ t_674) (fun _ h9 => h9) rfl d_M_poke_56 ?_
            refine lv_bipush (v := (64 : Int32)) hx hb d_M_poke_59 (by decide) ?_
            refine lv_iload_n hx hb d_M_poke_61 rfl (lv_at hl 1 rfl) ?_
            refine lv_imul hx hb d_M_poke_62 ?_
            refine lv_iload_n hx hb d_M_poke_63 rfl (lv_at hl 2 rfl) ?_
            refine lv_iadd hx hb d_M_poke_64 ?_
            refine lv_dup2_11 hx hb d_M_poke_65 rfl rfl ?_
            obtain ⟨hin32, hf⟩ := x_ck_some hf
            refine va_iald hx hb hK hP 1 0 (m_lk_A G _ (k := 1) (by decide)) rfl hin32 d_M_poke_66 ?_
            refine lv_iload_n hx hb d_M_poke_67 rfl (lv_at hl 3 rfl) ?_
            refine lv_ixor hx hb d_M_poke_68 ?_
            obtain ⟨hin33, hf⟩ := x_ck_some hf
            refine va_iast hx hb hK hP hD hS 1 0 (m_lk_A G _ (k := 1) (by decide)) rfl hin33 d_M_poke_69 (fun H locs hP hD hS => ?_)
            rw [m_st_A G _ (k := 1) (by decide)] at hP hD
            refine lv_aload_n hx hb d_M_poke_70 rfl (lv_at hl 0 rfl) ?_
            refine va_get (D := x_D G) (ci := 5) (v := .ref (x_ad G 1)) (C := "ContentLibraryModel") (T := x_TM) (N := 31) hx hb hts x_inM hown hK hP 0 (m_lk_M G _) rfl 2 (by decide) (hts _ t_674) (fun _ h9 => h9) rfl d_M_poke_71 ?_
            refine lv_bipush (v := (64 : Int32)) hx hb d_M_poke_74 (by decide) ?_
            refine lv_iload_n hx hb d_M_poke_76 rfl (lv_at hl 1 rfl) ?_
            refine lv_imul hx hb d_M_poke_77 ?_
            refine lv_iload_n hx hb d_M_poke_78 rfl (lv_at hl 2 rfl) ?_
            refine lv_iadd hx hb d_M_poke_79 ?_
            obtain ⟨hin34, hf⟩ := x_ck_some hf
            refine va_iald hx hb hK hP 1 0 (m_lk_A G _ (k := 1) (by decide)) rfl hin34 d_M_poke_80 ?_
            obtain ⟨rfl, rfl⟩ := x_ret hf
            exact W.iret (v := ((x_put (x_put z0 0 0 (1 : Int32)) 1 ((((64 : Int32) * p1) + p2)).toNatClampNeg (((x_put z0 0 0 (1 : Int32)).1 1 ((((64 : Int32) * p1) + p2)).toNatClampNeg) ^^^ p3)).1 1 ((((64 : Int32) * p1) + p2)).toNatClampNeg)) hx hb hr (fun t ht hW => ⟨⟨_, _, rfl, ⟨rfl, rfl⟩, m_pw hP hD hK hG hS hz ht hW⟩, hS.F ht⟩) hS.2.2 d_M_poke_81
          · have hf := x_br_f hf hc31
            refine lv_iconst (v := (0 : Int32)) hx hb d_M_poke_53 (by decide) ?_
            obtain ⟨rfl, rfl⟩ := x_ret hf
            exact W.iret (v := (0 : Int32)) hx hb hr (fun t ht hW => ⟨⟨_, _, rfl, ⟨rfl, rfl⟩, m_pw hP hD hK hG hS hz ht hW⟩, hS.F ht⟩) hS.2.2 d_M_poke_54
abbrev rm_M_badAt : Room := { frames := 2, cells := 0, slots := 0, locals := 46 }
set_option maxHeartbeats 4000000 in
set_option maxRecDepth 100000 in
theorem w_M_badAt_31 (l : Launch) (G : x_G) {p : Program} {e : Env} {s : State} {m : MethodId} {args : Array Value} {below : List Frame} {meth : Method} {c : Code} (C0 : m_Ctx G p s m args meth c prog_7_method_41_code "ContentLibraryModel" 2 (some .int)) (r : Int32) (zo : x_St) : ∀ (a1 : Int32) (z0 : x_St), f_M_badAt_31 (x_n G) a1 z0 = some (r, zo) → ∀ (H : Heap) (locs : List Loc) (ls : Array Slot), va_P (x_D G) vwCl (m_Wd G z0) H → va_D (x_A G) (m_Wd G z0) → va_S (x_A G) s.heap H locs → lv_has ls 2 [(1, .int a1)] → W p l e rm_M_badAt s m args below meth c H locs 0 0 (MQ below (va_Qi (fun a u => r = a ∧ zo = u) (m_PW G) (x_A G)) args s 0 0 (x_A G)) (F0 m 31 ls []) := by
  obtain ⟨hx, hb, hr, hml, hown, hts, hlocks, hz, hK, hG⟩ := id C0
  intro a1 z0 hf H locs ls hP hD hS hl
  rw [f_M_badAt_31] at hf
  refine lv_iload_n hx hb d_M_badAt_31 rfl (lv_at hl 0 rfl) ?_
  obtain ⟨rfl, rfl⟩ := x_ret hf
  exact W.iret (v := a1) hx hb hr (fun t ht hW => ⟨⟨_, _, rfl, ⟨rfl, rfl⟩, m_pw hP hD hK hG hS hz ht hW⟩, hS.F ht⟩) hS.2.2 d_M_badAt_32
set_option maxHeartbeats 4000000 in
set_option maxRecDepth 100000 in
theorem w_M_badAt_7 (l : Launch) (G : x_G) {p : Program} {e : Env} {s : State} {m : MethodId} {args : Array Value} {below : List Frame} {meth : Method} {c : Code} (C0 : m_Ctx G p s m args meth c prog_7_method_41_code "ContentLibraryModel" 2 (some .int)) (r : Int32) (zo : x_St) : ∀ (fu : Nat), ∀ (a1 : Int32) (z0 : x_St), f_M_badAt_7 (x_n G) fu a1 z0 = some (r, zo) → ∀ (H : Heap) (locs : List Loc) (ls : Array Slot), va_P (x_D G) vwCl (m_Wd G z0) H → va_D (x_A G) (m_Wd G z0) → va_S (x_A G) s.heap H locs → lv_has ls 2 [(0, .ref (x_ad G 0)), (1, .int a1)] → W p l e rm_M_badAt s m args below meth c H locs 0 0 (MQ below (va_Qi (fun a u => r = a ∧ zo = u) (m_PW G) (x_A G)) args s 0 0 (x_A G)) (F0 m 7 ls []) := by
  obtain ⟨hx, hb, hr, hml, hown, hts, hlocks, hz, hK, hG⟩ := id C0
  intro fu
  induction fu with
  | zero =>
    intro a1 z0 hf
    rw [f_M_badAt_7] at hf
    cases hf
  | succ fu ih =>
    intro a1 z0 hf H locs ls hP hD hS hl
    rw [f_M_badAt_7] at hf
    refine lv_iload_n hx hb d_M_badAt_7 rfl (lv_at hl 1 rfl) ?_
    refine lv_aload_n hx hb d_M_badAt_8 rfl (lv_at hl 0 rfl) ?_
    refine va_get (D := x_D G) (ci := 5) (v := .int (z0.1 0 1)) (C := "ContentLibraryModel") (T := x_TM) (N := 31) hx hb hts x_inM hown hK hP 0 (m_lk_M G _) rfl 1 (by decide) (hts _ t_673) (fun _ h9 => h9) rfl d_M_badAt_9 ?_
    refine lv_icmp_ge (tgt := 39) hx hb d_M_badAt_12 (by decide) (fun hc1 => ?_) (fun hc1 => ?_)
    · have hf := x_br_t hf hc1
      refine lv_iconst (v := (-1 : Int32)) hx hb d_M_badAt_39 (by decide) ?_
      obtain ⟨rfl, rfl⟩ := x_ret hf
      exact W.iret (v := (-1 : Int32)) hx hb hr (fun t ht hW => ⟨⟨_, _, rfl, ⟨rfl, rfl⟩, m_pw hP hD hK hG hS hz ht hW⟩, hS.F ht⟩) hS.2.2 d_M_badAt_40
    · have hf := x_br_f hf hc1
      refine lv_aload_n hx hb d_M_badAt_15 rfl (lv_at hl 0 rfl) ?_
      refine lv_iload_n hx hb d_M_badAt_16 rfl (lv_at hl 1 rfl) ?_
      obtain ⟨r2, z2, hq3, hf⟩ := x_cl_some hf
      refine va_calli (va_runV (As := [.int a1]) (rest := []) ⟨hx, hb, hml, hown, hts⟩ (c_M_isNothing l G a1 z0 r2 z2 hq3) (cwV 1 hts (x_gV t_814 t_816 sel_ContentLibraryModel_isNothing t_7 t_817) rfl rfl rfl (by decide +kernel) ⟨Nat.le_of_ble_eq_true rfl, Nat.le_of_ble_eq_true rfl⟩) ⟨m_blind _ _ _, va_recv hK hP (ci := 5) (q0 := 0) rfl (m_lk_M G _), fun U hU hW => ⟨rfl, m_pw hP hD hK hG hS hz hU hW⟩⟩ rfl rfl hl.1 rfl (lv_room (Nat.le_of_ble_eq_true rfl)) d_M_badAt_17 ⟨Nat.le_of_ble_eq_true rfl, Nat.le_of_ble_eq_true rfl⟩) hS (fun q _ h => h) (fun q h => h) (fun ra u t H locs ht hvm hw hB _ _ hS => ?_)
      obtain ⟨rfl, rfl⟩ := hw
      obtain ⟨hP, hD⟩ := m_back hB ht
      refine lv_if_ne (tgt := 33) hx hb d_M_badAt_20 (by decide) (fun hc4 => ?_) (fun hc4 => ?_)
      · have hf := x_br_f hf hc4
        refine lv_iinc (v := (a1 + (1 : Int32))) (lv' := [(1, .int (a1 + (1 : Int32))), (0, .ref (x_ad G 0))]) hx hb d_M_badAt_33 hl (k := 1) rfl rfl (by decide) rfl (fun ls hl => ?_)
        refine lv_goto (tgt := 7) hx hb d_M_badAt_36 (by decide) ?_
        exact ih (a1 + (1 : Int32)) z2 hf _ _ _ hP hD hS (lv_sub hl [1, 0] rfl)
      · have hf := x_br_t hf hc4
        refine lv_aload_n hx hb d_M_badAt_23 rfl (lv_at hl 0 rfl) ?_
        refine lv_iload_n hx hb d_M_badAt_24 rfl (lv_at hl 1 rfl) ?_
        obtain ⟨r5, z5, hq6, hf⟩ := x_cl_some hf
        refine va_calli (va_runV (As := [.int a1]) (rest := []) ⟨hx, hb, hml, hown, hts⟩ (c_M_isGood l G a1 z2 r5 z5 hq6) (cwV 1 hts (x_gV t_897 t_899 sel_ContentLibraryModel_isGood t_7 t_900) rfl rfl rfl (by decide +kernel) ⟨Nat.le_of_ble_eq_true rfl, Nat.le_of_ble_eq_true rfl⟩) ⟨m_blind _ _ _, va_recv hK hP (ci := 5) (q0 := 0) rfl (m_lk_M G _), fun U hU hW => ⟨rfl, m_pw hP hD hK hG hS hz hU hW⟩⟩ rfl rfl hl.1 rfl (lv_room (Nat.le_of_ble_eq_true rfl)) d_M_badAt_25 ⟨Nat.le_of_ble_eq_true rfl, Nat.le_of_ble_eq_true rfl⟩) hS (fun q _ h => h) (fun q h => h) (fun ra u t H locs ht hvm hw hB _ _ hS => ?_)
        obtain ⟨rfl, rfl⟩ := hw
        obtain ⟨hP, hD⟩ := m_back hB ht
        refine lv_if_ne (tgt := 33) hx hb d_M_badAt_28 (by decide) (fun hc7 => ?_) (fun hc7 => ?_)
        · have hf := x_br_f hf hc7
          refine lv_iinc (v := (a1 + (1 : Int32))) (lv' := [(1, .int (a1 + (1 : Int32))), (0, .ref (x_ad G 0))]) hx hb d_M_badAt_33 hl (k := 1) rfl rfl (by decide) rfl (fun ls hl => ?_)
          refine lv_goto (tgt := 7) hx hb d_M_badAt_36 (by decide) ?_
          exact ih (a1 + (1 : Int32)) z5 hf _ _ _ hP hD hS (lv_sub hl [1, 0] rfl)
        · have hf := x_br_t hf hc7
          exact w_M_badAt_31 l G C0 r zo a1 z5 hf _ _ _ hP hD hS (lv_sub hl [1] rfl)
set_option maxHeartbeats 4000000 in
set_option maxRecDepth 100000 in
theorem c_M_badAt (l : Launch) (G : x_G)  (z0 : x_St) (r : Int32) (zo : x_St) (hf : f_M_badAt (x_n G)  z0 = some (r, zo)) : Met l (⟨"ContentLibraryModel", "badAt", "()I"⟩ : MethodName) (x_ws (⟨"ContentLibraryModel", "badAt", "()I"⟩ : MethodName) prog_7_method_41_code 2 (some .int)) rm_M_badAt (va_Pc [.ref (x_ad G 0)] (m_PW G z0)) (va_Qi (fun a u => r = a ∧ zo = u) (m_PW G) (x_A G)) 0 0 (x_A G) := by
  refine Met.ofW (cc := prog_7_method_41_code) (maxL := 2) (ret := (some .int)) (by decide) rfl ?_
  intro p e s m args below meth c s₁ B hml hv
  obtain ⟨rfl, hz, hP, hD, hK, hG⟩ := hv
  have C0 : m_Ctx G p s m _ meth c prog_7_method_41_code "ContentLibraryModel" 2 (some .int) := ⟨B.exec, B.bytes, B.returns, hml, findClass_of_methodNamed B.named, fun w h => atoms_spec (ws := (x_ws (⟨"ContentLibraryModel", "badAt", "()I"⟩ : MethodName) prog_7_method_41_code 2 (some .int))) B.pre w (List.mem_cons_of_mem _ h), B.notSynchronized, hz, hK, hG⟩
  obtain ⟨hx, hb, hr, hml, hown, hts, hlocks, hz, hK, hG⟩ := id C0
  have hS : va_S (x_A G) s.heap s.heap [] := va_S.rf
  have hl := lv_entry ([.ref (x_ad G 0)]) (n := 2) (Nat.le_of_ble_eq_true rfl)
  rw [lg_entry_eq]
  generalize (lg_sl ([.ref (x_ad G 0)]) ++ List.replicate (2 - (lg_sl ([.ref (x_ad G 0)])).length) Slot.unset).toArray = ls at hl ⊢
  have hl : lv_has ls 2 [(0, .ref (x_ad G 0))] := hl
  rw [f_M_badAt] at hf
  refine lv_aload_n hx hb d_M_badAt_0 rfl (lv_at hl 0 rfl) ?_
  refine lv_iconst (v := (0 : Int32)) hx hb d_M_badAt_1 (by decide) ?_
  refine va_put (D := x_D G) (ci := 5) (v := .int (0 : Int32)) (ty := .int) (C := "ContentLibraryModel") (T := x_TM) (N := 31) hx hb hts x_inM x_tyM x_tyM_ok x_nmM hown hK hP hD hS 0 (m_lk_M G _) rfl 0 (by decide) (hts _ t_672) (fun _ h9 => h9) rfl (by decide +kernel) rfl rfl (Nat.le_of_ble_eq_true rfl) d_M_badAt_2 (fun H locs hP hD hS => ?_)
  rw [m_st_M0 G _] at hP hD
  refine lv_iconst (v := (0 : Int32)) hx hb d_M_badAt_5 (by decide) ?_
  refine lv_istore_n (lv' := [(1, .int (0 : Int32)), (0, .ref (x_ad G 0))]) hx hb d_M_badAt_6 rfl hl (by decide) rfl (fun ls hl => ?_)
  exact w_M_badAt_7 l G C0 r zo x_FU (0 : Int32) (x_put z0 0 0 (0 : Int32)) hf _ _ _ hP hD hS (lv_sub hl [1, 0] rfl)
abbrev rm_M_byteAt : Room := { frames := 0, cells := 0, slots := 0, locals := 0 }
set_option maxHeartbeats 4000000 in
set_option maxRecDepth 100000 in
theorem c_M_byteAt (l : Launch) (G : x_G) (p1 : Int32) (p2 : Int32) (z0 : x_St) (r : Int32) (zo : x_St) (hf : f_M_byteAt (x_n G) p1 p2 z0 = some (r, zo)) : Met l (⟨"ContentLibraryModel", "byteAt", "(II)I"⟩ : MethodName) (x_ws (⟨"ContentLibraryModel", "byteAt", "(II)I"⟩ : MethodName) prog_7_method_42_code 3 (some .int)) rm_M_byteAt (va_Pc [.ref (x_ad G 0), .int p1, .int p2] (m_PW G z0)) (va_Qi (fun a u => r = a ∧ zo = u) (m_PW G) (x_A G)) 0 0 (x_A G) := by
  refine Met.ofW (cc := prog_7_method_42_code) (maxL := 3) (ret := (some .int)) (by decide) rfl ?_
  intro p e s m args below meth c s₁ B hml hv
  obtain ⟨rfl, hz, hP, hD, hK, hG⟩ := hv
  have C0 : m_Ctx G p s m _ meth c prog_7_method_42_code "ContentLibraryModel" 3 (some .int) := ⟨B.exec, B.bytes, B.returns, hml, findClass_of_methodNamed B.named, fun w h => atoms_spec (ws := (x_ws (⟨"ContentLibraryModel", "byteAt", "(II)I"⟩ : MethodName) prog_7_method_42_code 3 (some .int))) B.pre w (List.mem_cons_of_mem _ h), B.notSynchronized, hz, hK, hG⟩
  obtain ⟨hx, hb, hr, hml, hown, hts, hlocks, hz, hK, hG⟩ := id C0
  have hS : va_S (x_A G) s.heap s.heap [] := va_S.rf
  have hl := lv_entry ([.ref (x_ad G 0), .int p1, .int p2]) (n := 3) (Nat.le_of_ble_eq_true rfl)
  rw [lg_entry_eq]
  generalize (lg_sl ([.ref (x_ad G 0), .int p1, .int p2]) ++ List.replicate (3 - (lg_sl ([.ref (x_ad G 0), .int p1, .int p2])).length) Slot.unset).toArray = ls at hl ⊢
  have hl : lv_has ls 3 [(0, .ref (x_ad G 0)), (1, .int p1), (2, .int p2)] := hl
  rw [f_M_byteAt] at hf
  refine lv_aload_n hx hb d_M_byteAt_0 rfl (lv_at hl 0 rfl) ?_
  refine lv_iload_n hx hb d_M_byteAt_1 rfl (lv_at hl 1 rfl) ?_
  refine lv_if_lt (tgt := 23) hx hb d_M_byteAt_2 (by decide) (fun hc1 => ?_) (fun hc1 => ?_)
  · have hf := x_br_t hf hc1
    refine lv_iconst (v := (1 : Int32)) hx hb d_M_byteAt_23 (by decide) ?_
    refine lv_goto (tgt := 28) hx hb d_M_byteAt_24 (by decide) ?_
    refine va_put (D := x_D G) (ci := 5) (v := .int (1 : Int32)) (ty := .int) (C := "ContentLibraryModel") (T := x_TM) (N := 31) hx hb hts x_inM x_tyM x_tyM_ok x_nmM hown hK hP hD hS 0 (m_lk_M G _) rfl 0 (by decide) (hts _ t_672) (fun _ h9 => h9) rfl (by decide +kernel) rfl rfl (Nat.le_of_ble_eq_true rfl) d_M_byteAt_28 (fun H locs hP hD hS => ?_)
    rw [m_st_M0 G _] at hP hD
    refine lv_aload_n hx hb d_M_byteAt_31 rfl (lv_at hl 0 rfl) ?_
    refine va_get (D := x_D G) (ci := 5) (v := .int ((x_put z0 0 0 (1 : Int32)).1 0 0)) (C := "ContentLibraryModel") (T := x_TM) (N := 31) hx hb hts x_inM hown hK hP 0 (m_lk_M G _) rfl 0 (by decide) (hts _ t_672) (fun _ h9 => h9) rfl d_M_byteAt_32 ?_
    refine lv_if_le (tgt := 42) hx hb d_M_byteAt_35 (by decide) (fun hc2 => ?_) (fun hc2 => ?_)
    · have hf := x_br_t hf hc2
      refine lv_aload_n hx hb d_M_byteAt_42 rfl (lv_at hl 0 rfl) ?_
      refine va_get (D := x_D G) (ci := 5) (v := .ref (x_ad G 1)) (C := "ContentLibraryModel") (T := x_TM) (N := 31) hx hb hts x_inM hown hK hP 0 (m_lk_M G _) rfl 2 (by decide) (hts _ t_674) (fun _ h9 => h9) rfl d_M_byteAt_43 ?_
      refine lv_bipush (v := (64 : Int32)) hx hb d_M_byteAt_46 (by decide) ?_
      refine lv_iload_n hx hb d_M_byteAt_48 rfl (lv_at hl 1 rfl) ?_
      refine lv_imul hx hb d_M_byteAt_49 ?_
      refine lv_iload_n hx hb d_M_byteAt_50 rfl (lv_at hl 2 rfl) ?_
      refine lv_iadd hx hb d_M_byteAt_51 ?_
      obtain ⟨hin3, hf⟩ := x_ck_some hf
      refine va_iald hx hb hK hP 1 0 (m_lk_A G _ (k := 1) (by decide)) rfl hin3 d_M_byteAt_52 ?_
      obtain ⟨rfl, rfl⟩ := x_ret hf
      exact W.iret (v := ((x_put z0 0 0 (1 : Int32)).1 1 ((((64 : Int32) * p1) + p2)).toNatClampNeg)) hx hb hr (fun t ht hW => ⟨⟨_, _, rfl, ⟨rfl, rfl⟩, m_pw hP hD hK hG hS hz ht hW⟩, hS.F ht⟩) hS.2.2 d_M_byteAt_53
    · have hf := x_br_f hf hc2
      refine lv_iconst (v := (0 : Int32)) hx hb d_M_byteAt_38 (by decide) ?_
      refine lv_goto (tgt := 53) hx hb d_M_byteAt_39 (by decide) ?_
      obtain ⟨rfl, rfl⟩ := x_ret hf
      exact W.iret (v := (0 : Int32)) hx hb hr (fun t ht hW => ⟨⟨_, _, rfl, ⟨rfl, rfl⟩, m_pw hP hD hK hG hS hz ht hW⟩, hS.F ht⟩) hS.2.2 d_M_byteAt_53
  · have hf := x_br_f hf hc1
    refine lv_iload_n hx hb d_M_byteAt_5 rfl (lv_at hl 1 rfl) ?_
    refine lv_aload_n hx hb d_M_byteAt_6 rfl (lv_at hl 0 rfl) ?_
    refine va_get (D := x_D G) (ci := 5) (v := .int (z0.1 0 1)) (C := "ContentLibraryModel") (T := x_TM) (N := 31) hx hb hts x_inM hown hK hP 0 (m_lk_M G _) rfl 1 (by decide) (hts _ t_673) (fun _ h9 => h9) rfl d_M_byteAt_7 ?_
    refine lv_icmp_ge (tgt := 23) hx hb d_M_byteAt_10 (by decide) (fun hc4 => ?_) (fun hc4 => ?_)
    · have hf := x_br_t hf hc4
      refine lv_iconst (v := (1 : Int32)) hx hb d_M_byteAt_23 (by decide) ?_
      refine lv_goto (tgt := 28) hx hb d_M_byteAt_24 (by decide) ?_
      refine va_put (D := x_D G) (ci := 5) (v := .int (1 : Int32)) (ty := .int) (C := "ContentLibraryModel") (T := x_TM) (N := 31) hx hb hts x_inM x_tyM x_tyM_ok x_nmM hown hK hP hD hS 0 (m_lk_M G _) rfl 0 (by decide) (hts _ t_672) (fun _ h9 => h9) rfl (by decide +kernel) rfl rfl (Nat.le_of_ble_eq_true rfl) d_M_byteAt_28 (fun H locs hP hD hS => ?_)
      rw [m_st_M0 G _] at hP hD
      refine lv_aload_n hx hb d_M_byteAt_31 rfl (lv_at hl 0 rfl) ?_
      refine va_get (D := x_D G) (ci := 5) (v := .int ((x_put z0 0 0 (1 : Int32)).1 0 0)) (C := "ContentLibraryModel") (T := x_TM) (N := 31) hx hb hts x_inM hown hK hP 0 (m_lk_M G _) rfl 0 (by decide) (hts _ t_672) (fun _ h9 => h9) rfl d_M_byteAt_32 ?_
      refine lv_if_le (tgt := 42) hx hb d_M_byteAt_35 (by decide) (fun hc5 => ?_) (fun hc5 => ?_)
      · have hf := x_br_t hf hc5
        refine lv_aload_n hx hb d_M_byteAt_42 rfl (lv_at hl 0 rfl) ?_
        refine va_get (D := x_D G) (ci := 5) (v := .ref (x_ad G 1)) (C := "ContentLibraryModel") (T := x_TM) (N := 31) hx hb hts x_inM hown hK hP 0 (m_lk_M G _) rfl 2 (by decide) (hts _ t_674) (fun _ h9 => h9) rfl d_M_byteAt_43 ?_
        refine lv_bipush (v := (64 : Int32)) hx hb d_M_byteAt_46 (by decide) ?_
        refine lv_iload_n hx hb d_M_byteAt_48 rfl (lv_at hl 1 rfl) ?_
        refine lv_imul hx hb d_M_byteAt_49 ?_
        refine lv_iload_n hx hb d_M_byteAt_50 rfl (lv_at hl 2 rfl) ?_
        refine lv_iadd hx hb d_M_byteAt_51 ?_
        obtain ⟨hin6, hf⟩ := x_ck_some hf
        refine va_iald hx hb hK hP 1 0 (m_lk_A G _ (k := 1) (by decide)) rfl hin6 d_M_byteAt_52 ?_
        obtain ⟨rfl, rfl⟩ := x_ret hf
        exact W.iret (v := ((x_put z0 0 0 (1 : Int32)).1 1 ((((64 : Int32) * p1) + p2)).toNatClampNeg)) hx hb hr (fun t ht hW => ⟨⟨_, _, rfl, ⟨rfl, rfl⟩, m_pw hP hD hK hG hS hz ht hW⟩, hS.F ht⟩) hS.2.2 d_M_byteAt_53
      · have hf := x_br_f hf hc5
        refine lv_iconst (v := (0 : Int32)) hx hb d_M_byteAt_38 (by decide) ?_
        refine lv_goto (tgt := 53) hx hb d_M_byteAt_39 (by decide) ?_
        obtain ⟨rfl, rfl⟩ := x_ret hf
        exact W.iret (v := (0 : Int32)) hx hb hr (fun t ht hW => ⟨⟨_, _, rfl, ⟨rfl, rfl⟩, m_pw hP hD hK hG hS hz ht hW⟩, hS.F ht⟩) hS.2.2 d_M_byteAt_53
    · have hf := x_br_f hf hc4
      refine lv_iload_n hx hb d_M_byteAt_13 rfl (lv_at hl 2 rfl) ?_
      refine lv_if_lt (tgt := 23) hx hb d_M_byteAt_14 (by decide) (fun hc7 => ?_) (fun hc7 => ?_)
      · have hf := x_br_t hf hc7
        refine lv_iconst (v := (1 : Int32)) hx hb d_M_byteAt_23 (by decide) ?_
        refine lv_goto (tgt := 28) hx hb d_M_byteAt_24 (by decide) ?_
        refine va_put (D := x_D G) (ci := 5) (v := .int (1 : Int32)) (ty := .int) (C := "ContentLibraryModel") (T := x_TM) (N := 31) hx hb hts x_inM x_tyM x_tyM_ok x_nmM hown hK hP hD hS 0 (m_lk_M G _) rfl 0 (by decide) (hts _ t_672) (fun _ h9 => h9) rfl (by decide +kernel) rfl rfl (Nat.le_of_ble_eq_true rfl) d_M_byteAt_28 (fun H locs hP hD hS => ?_)
        rw [m_st_M0 G _] at hP hD
        refine lv_aload_n hx hb d_M_byteAt_31 rfl (lv_at hl 0 rfl) ?_
        refine va_get (D := x_D G) (ci := 5) (v := .int ((x_put z0 0 0 (1 : Int32)).1 0 0)) (C := "ContentLibraryModel") (T := x_TM) (N := 31) hx hb hts x_inM hown hK hP 0 (m_lk_M G _) rfl 0 (by decide) (hts _ t_672) (fun _ h9 => h9) rfl d_M_byteAt_32 ?_
        refine lv_if_le (tgt := 42) hx hb d_M_byteAt_35 (by decide) (fun hc8 => ?_) (fun hc8 => ?_)
        · have hf := x_br_t hf hc8
          refine lv_aload_n hx hb d_M_byteAt_42 rfl (lv_at hl 0 rfl) ?_
          refine va_get (D := x_D G) (ci := 5) (v := .ref (x_ad G 1)) (C := "ContentLibraryModel") (T := x_TM) (N := 31) hx hb hts x_inM hown hK hP 0 (m_lk_M G _) rfl 2 (by decide) (hts _ t_674) (fun _ h9 => h9) rfl d_M_byteAt_43 ?_
          refine lv_bipush (v := (64 : Int32)) hx hb d_M_byteAt_46 (by decide) ?_
          refine lv_iload_n hx hb d_M_byteAt_48 rfl (lv_at hl 1 rfl) ?_
          refine lv_imul hx hb d_M_byteAt_49 ?_
          refine lv_iload_n hx hb d_M_byteAt_50 rfl (lv_at hl 2 rfl) ?_
          refine lv_iadd hx hb d_M_byteAt_51 ?_
          obtain ⟨hin9, hf⟩ := x_ck_some hf
          refine va_iald hx hb hK hP 1 0 (m_lk_A G _ (k := 1) (by decide)) rfl hin9 d_M_byteAt_52 ?_
          obtain ⟨rfl, rfl⟩ := x_ret hf
          exact W.iret (v := ((x_put z0 0 0 (1 : Int32)).1 1 ((((64 : Int32) * p1) + p2)).toNatClampNeg)) hx hb hr (fun t ht hW => ⟨⟨_, _, rfl, ⟨rfl, rfl⟩, m_pw hP hD hK hG hS hz ht hW⟩, hS.F ht⟩) hS.2.2 d_M_byteAt_53
        · have hf := x_br_f hf hc8
          refine lv_iconst (v := (0 : Int32)) hx hb d_M_byteAt_38 (by decide) ?_
          refine lv_goto (tgt := 53) hx hb d_M_byteAt_39 (by decide) ?_
          obtain ⟨rfl, rfl⟩ := x_ret hf
          exact W.iret (v := (0 : Int32)) hx hb hr (fun t ht hW => ⟨⟨_, _, rfl, ⟨rfl, rfl⟩, m_pw hP hD hK hG hS hz ht hW⟩, hS.F ht⟩) hS.2.2 d_M_byteAt_53
      · have hf := x_br_f hf hc7
        refine lv_iload_n hx hb d_M_byteAt_17 rfl (lv_at hl 2 rfl) ?_
        refine lv_bipush (v := (64 : Int32)) hx hb d_M_byteAt_18 (by decide) ?_
        refine lv_icmp_lt (tgt := 27) hx hb d_M_byteAt_20 (by decide) (fun hc10 => ?_) (fun hc10 => ?_)
        · have hf := x_br_t hf hc10
          refine lv_iconst (v := (0 : Int32)) hx hb d_M_byteAt_27 (by decide) ?_
          refine va_put (D := x_D G) (ci := 5) (v := .int (0 : Int32)) (ty := .int) (C := "ContentLibraryModel") (T := x_TM) (N := 31) hx hb hts x_inM x_tyM x_tyM_ok x_nmM hown hK hP hD hS 0 (m_lk_M G _) rfl 0 (by decide) (hts _ t_672) (fun _ h9 => h9) rfl (by decide +kernel) rfl rfl (Nat.le_of_ble_eq_true rfl) d_M_byteAt_28 (fun H locs hP hD hS => ?_)
          rw [m_st_M0 G _] at hP hD
          refine lv_aload_n hx hb d_M_byteAt_31 rfl (lv_at hl 0 rfl) ?_
          refine va_get (D := x_D G) (ci := 5) (v := .int ((x_put z0 0 0 (0 : Int32)).1 0 0)) (C := "ContentLibraryModel") (T := x_TM) (N := 31) hx hb hts x_inM hown hK hP 0 (m_lk_M G _) rfl 0 (by decide) (hts _ t_672) (fun _ h9 => h9) rfl d_M_byteAt_32 ?_
          refine lv_if_le (tgt := 42) hx hb d_M_byteAt_35 (by decide) (fun hc11 => ?_) (fun hc11 => ?_)
          · have hf := x_br_t hf hc11
            refine lv_aload_n hx hb d_M_byteAt_42 rfl (lv_at hl 0 rfl) ?_
            refine va_get (D := x_D G) (ci := 5) (v := .ref (x_ad G 1)) (C := "ContentLibraryModel") (T := x_TM) (N := 31) hx hb hts x_inM hown hK hP 0 (m_lk_M G _) rfl 2 (by decide) (hts _ t_674) (fun _ h9 => h9) rfl d_M_byteAt_43 ?_
            refine lv_bipush (v := (64 : Int32)) hx hb d_M_byteAt_46 (by decide) ?_
            refine lv_iload_n hx hb d_M_byteAt_48 rfl (lv_at hl 1 rfl) ?_
            refine lv_imul hx hb d_M_byteAt_49 ?_
            refine lv_iload_n hx hb d_M_byteAt_50 rfl (lv_at hl 2 rfl) ?_
            refine lv_iadd hx hb d_M_byteAt_51 ?_
            obtain ⟨hin12, hf⟩ := x_ck_some hf
            refine va_iald hx hb hK hP 1 0 (m_lk_A G _ (k := 1) (by decide)) rfl hin12 d_M_byteAt_52 ?_
            obtain ⟨rfl, rfl⟩ := x_ret hf
            exact W.iret (v := ((x_put z0 0 0 (0 : Int32)).1 1 ((((64 : Int32) * p1) + p2)).toNatClampNeg)) hx hb hr (fun t ht hW => ⟨⟨_, _, rfl, ⟨rfl, rfl⟩, m_pw hP hD hK hG hS hz ht hW⟩, hS.F ht⟩) hS.2.2 d_M_byteAt_53
          · have hf := x_br_f hf hc11
            refine lv_iconst (v := (0 : Int32)) hx hb d_M_byteAt_38 (by decide) ?_
            refine lv_goto (tgt := 53) hx hb d_M_byteAt_39 (by decide) ?_
            obtain ⟨rfl, rfl⟩ := x_ret hf
            exact W.iret (v := (0 : Int32)) hx hb hr (fun t ht hW => ⟨⟨_, _, rfl, ⟨rfl, rfl⟩, m_pw hP hD hK hG hS hz ht hW⟩, hS.F ht⟩) hS.2.2 d_M_byteAt_53
        · have hf := x_br_f hf hc10
          refine lv_iconst (v := (1 : Int32)) hx hb d_M_byteAt_23 (by decide) ?_
          refine lv_goto (tgt := 28) hx hb d_M_byteAt_24 (by decide) ?_
          refine va_put (D := x_D G) (ci := 5) (v := .int (1 : Int32)) (ty := .int) (C := "ContentLibraryModel") (T := x_TM) (N := 31) hx hb hts x_inM x_tyM x_tyM_ok x_nmM hown hK hP hD hS 0 (m_lk_M G _) rfl 0 (by decide) (hts _ t_672) (fun _ h9 => h9) rfl (by decide +kernel) rfl rfl (Nat.le_of_ble_eq_true rfl) d_M_byteAt_28 (fun H locs hP hD hS => ?_)
          rw [m_st_M0 G _] at hP hD
          refine lv_aload_n hx hb d_M_byteAt_31 rfl (lv_at hl 0 rfl) ?_
          refine va_get (D := x_D G) (ci := 5) (v := .int ((x_put z0 0 0 (1 : Int32)).1 0 0)) (C := "ContentLibraryModel") (T := x_TM) (N := 31) hx hb hts x_inM hown hK hP 0 (m_lk_M G _) rfl 0 (by decide) (hts _ t_672) (fun _ h9 => h9) rfl d_M_byteAt_32 ?_
          refine lv_if_le (tgt := 42) hx hb d_M_byteAt_35 (by decide) (fun hc13 => ?_) (fun hc13 => ?_)
          · have hf := x_br_t hf hc13
            refine lv_aload_n hx hb d_M_byteAt_42 rfl (lv_at hl 0 rfl) ?_
            refine va_get (D := x_D G) (ci := 5) (v := .ref (x_ad G 1)) (C := "ContentLibraryModel") (T := x_TM) (N := 31) hx hb hts x_inM hown hK hP 0 (m_lk_M G _) rfl 2 (by decide) (hts _ t_674) (fun _ h9 => h9) rfl d_M_byteAt_43 ?_
            refine lv_bipush (v := (64 : Int32)) hx hb d_M_byteAt_46 (by decide) ?_
            refine lv_iload_n hx hb d_M_byteAt_48 rfl (lv_at hl 1 rfl) ?_
            refine lv_imul hx hb d_M_byteAt_49 ?_
            refine lv_iload_n hx hb d_M_byteAt_50 rfl (lv_at hl 2 rfl) ?_
            refine lv_iadd hx hb d_M_byteAt_51 ?_
            obtain ⟨hin14, hf⟩ := x_ck_some hf
            refine va_iald hx hb hK hP 1 0 (m_lk_A G _ (k := 1) (by decide)) rfl hin14 d_M_byteAt_52 ?_
            obtain ⟨rfl, rfl⟩ := x_ret hf
            exact W.iret (v := ((x_put z0 0 0 (1 : Int32)).1 1 ((((64 : Int32) * p1) + p2)).toNatClampNeg)) hx hb hr (fun t ht hW => ⟨⟨_, _, rfl, ⟨rfl, rfl⟩, m_pw hP hD hK hG hS hz ht hW⟩, hS.F ht⟩) hS.2.2 d_M_byteAt_53
          · have hf := x_br_f hf hc13
            refine lv_iconst (v := (0 : Int32)) hx hb d_M_byteAt_38 (by decide) ?_
            refine lv_goto (tgt := 53) hx hb d_M_byteAt_39 (by decide) ?_
            obtain ⟨rfl, rfl⟩ := x_ret hf
            exact W.iret (v := (0 : Int32)) hx hb hr (fun t ht hW => ⟨⟨_, _, rfl, ⟨rfl, rfl⟩, m_pw hP hD hK hG hS hz ht hW⟩, hS.F ht⟩) hS.2.2 d_M_byteAt_53
abbrev rm_M_told : Room := { frames := 1, cells := 0, slots := 0, locals := 22 }
set_option maxHeartbeats 4000000 in
set_option maxRecDepth 100000 in
theorem w_M_told_137 (l : Launch) (G : x_G) {p : Program} {e : Env} {s : State} {m : MethodId} {args : Array Value} {below : List Frame} {meth : Method} {c : Code} (C0 : m_Ctx G p s m args meth c prog_7_method_43_code "ContentLibraryModel" 4 (some .int)) (r : Int32) (zo : x_St) : ∀ (a2 : Int32) (z0 : x_St), f_M_told_137 (x_n G) a2 z0 = some (r, zo) → ∀ (H : Heap) (locs : List Loc) (ls : Array Slot), va_P (x_D G) vwCl (m_Wd G z0) H → va_D (x_A G) (m_Wd G z0) → va_S (x_A G) s.heap H locs → lv_has ls 4 [(2, .int a2)] → W p l e rm_M_told s m args below meth c H locs 0 0 (MQ below (va_Qi (fun a u => r = a ∧ zo = u) (m_PW G) (x_A G)) args s 0 0 (x_A G)) (F0 m 137 ls []) := by
  obtain ⟨hx, hb, hr, hml, hown, hts, hlocks, hz, hK, hG⟩ := id C0
  intro a2 z0 hf H locs ls hP hD hS hl
  rw [f_M_told_137] at hf
  refine lv_iload_n hx hb d_M_told_137 rfl (lv_at hl 0 rfl) ?_
  obtain ⟨rfl, rfl⟩ := x_ret hf
  exact W.iret (v := a2) hx hb hr (fun t ht hW => ⟨⟨_, _, rfl, ⟨rfl, rfl⟩, m_pw hP hD hK hG hS hz ht hW⟩, hS.F ht⟩) hS.2.2 d_M_told_138
set_option maxHeartbeats 4000000 in
set_option maxRecDepth 100000 in
theorem w_M_told_108 (l : Launch) (G : x_G) {p : Program} {e : Env} {s : State} {m : MethodId} {args : Array Value} {below : List Frame} {meth : Method} {c : Code} (C0 : m_Ctx G p s m args meth c prog_7_method_43_code "ContentLibraryModel" 4 (some .int)) (r : Int32) (zo : x_St) : ∀ (fu : Nat), ∀ (a2 : Int32) (a3 : Int32) (z0 : x_St), f_M_told_108 (x_n G) fu a2 a3 z0 = some (r, zo) → ∀ (H : Heap) (locs : List Loc) (ls : Array Slot), va_P (x_D G) vwCl (m_Wd G z0) H → va_D (x_A G) (m_Wd G z0) → va_S (x_A G) s.heap H locs → lv_has ls 4 [(0, .ref (x_ad G 0)), (2, .int a2), (3, .int a3)] → W p l e rm_M_told s m args below meth c H locs 0 0 (MQ below (va_Qi (fun a u => r = a ∧ zo = u) (m_PW G) (x_A G)) args s 0 0 (x_A G)) (F0 m 108 ls []) := by
  obtain ⟨hx, hb, hr, hml, hown, hts, hlocks, hz, hK, hG⟩ := id C0
  intro fu
  induction fu with
  | zero =>
    intro a2 a3 z0 hf
    rw [f_M_told_108] at hf
    cases hf
  | succ fu ih =>
    intro a2 a3 z0 hf H locs ls hP hD hS hl
    rw [f_M_told_108] at hf
    refine lv_iload_n hx hb d_M_told_108 rfl (lv_at hl 2 rfl) ?_
    refine lv_bipush (v := (8 : Int32)) hx hb d_M_told_109 (by decide) ?_
    refine lv_icmp_ge (tgt := 137) hx hb d_M_told_111 (by decide) (fun hc1 => ?_) (fun hc1 => ?_)
    · have hf := x_br_t hf hc1
      exact w_M_told_137 l G C0 r zo a2 z0 hf _ _ _ hP hD hS (lv_sub hl [1] rfl)
    · have hf := x_br_f hf hc1
      refine lv_iload_n hx hb d_M_told_114 rfl (lv_at hl 1 rfl) ?_
      refine lv_aload_n hx hb d_M_told_115 rfl (lv_at hl 0 rfl) ?_
      refine va_get (D := x_D G) (ci := 5) (v := .ref (x_ad G 2)) (C := "ContentLibraryModel") (T := x_TM) (N := 31) hx hb hts x_inM hown hK hP 0 (m_lk_M G _) rfl 5 (by decide) (hts _ t_677) (fun _ h9 => h9) rfl d_M_told_116 ?_
      refine lv_iload_n hx hb d_M_told_119 rfl (lv_at hl 2 rfl) ?_
      obtain ⟨hin2, hf⟩ := x_ck_some hf
      refine va_zald hx hb hK hP 2 1 (m_lk_Z G _ (k := 2) (by decide)) rfl hin2 d_M_told_120 ?_
      refine lv_if_eq (tgt := 128) hx hb d_M_told_121 (by decide) (fun hc3 => ?_) (fun hc3 => ?_)
      · have hf := x_br_t hf hc3
        refine lv_iconst (v := (0 : Int32)) hx hb d_M_told_128 (by decide) ?_
        refine lv_iadd hx hb d_M_told_129 ?_
        refine lv_istore_n (lv' := [(2, .int (a2 + (0 : Int32))), (0, .ref (x_ad G 0)), (3, .int a3)]) hx hb d_M_told_130 rfl hl (by decide) rfl (fun ls hl => ?_)
        refine lv_iinc (v := (a3 + (1 : Int32))) (lv' := [(3, .int (a3 + (1 : Int32))), (2, .int (a2 + (0 : Int32))), (0, .ref (x_ad G 0))]) hx hb d_M_told_131 hl (k := 2) rfl rfl (by decide) rfl (fun ls hl => ?_)
        refine lv_goto (tgt := 108) hx hb d_M_told_134 (by decide) ?_
        exact ih (a2 + (0 : Int32)) (a3 + (1 : Int32)) z0 hf _ _ _ hP hD hS (lv_sub hl [2, 1, 0] rfl)
      · have hf := x_br_f hf hc3
        refine lv_iconst (v := (1 : Int32)) hx hb d_M_told_124 (by decide) ?_
        refine lv_goto (tgt := 129) hx hb d_M_told_125 (by decide) ?_
        refine lv_iadd hx hb d_M_told_129 ?_
        refine lv_istore_n (lv' := [(2, .int (a2 + (1 : Int32))), (0, .ref (x_ad G 0)), (3, .int a3)]) hx hb d_M_told_130 rfl hl (by decide) rfl (fun ls hl => ?_)
        refine lv_iinc (v := (a3 + (1 : Int32))) (lv' := [(3, .int (a3 + (1 : Int32))), (2, .int (a2 + (1 : Int32))), (0, .ref (x_ad G 0))]) hx hb d_M_told_131 hl (k := 2) rfl rfl (by decide) rfl (fun ls hl => ?_)
        refine lv_goto (tgt := 108) hx hb d_M_told_134 (by decide) ?_
        exact ih (a2 + (1 : Int32)) (a3 + (1 : Int32)) z0 hf _ _ _ hP hD hS (lv_sub hl [2, 1, 0] rfl)
set_option maxHeartbeats 4000000 in
set_option maxRecDepth 100000 in
theorem w_M_told_104 (l : Launch) (G : x_G) {p : Program} {e : Env} {s : State} {m : MethodId} {args : Array Value} {below : List Frame} {meth : Method} {c : Code} (C0 : m_Ctx G p s m args meth c prog_7_method_43_code "ContentLibraryModel" 4 (some .int)) (r : Int32) (zo : x_St) : ∀ (a2 : Int32) (z0 : x_St), f_M_told_104 (x_n G) a2 z0 = some (r, zo) → ∀ (H : Heap) (locs : List Loc) (ls : Array Slot), va_P (x_D G) vwCl (m_Wd G z0) H → va_D (x_A G) (m_Wd G z0) → va_S (x_A G) s.heap H locs → lv_has ls 4 [(2, .int a2)] → W p l e rm_M_told s m args below meth c H locs 0 0 (MQ below (va_Qi (fun a u => r = a ∧ zo = u) (m_PW G) (x_A G)) args s 0 0 (x_A G)) (F0 m 104 ls []) := by
  obtain ⟨hx, hb, hr, hml, hown, hts, hlocks, hz, hK, hG⟩ := id C0
  intro a2 z0 hf H locs ls hP hD hS hl
  rw [f_M_told_104] at hf
  refine lv_iload_n hx hb d_M_told_104 rfl (lv_at hl 0 rfl) ?_
  obtain ⟨rfl, rfl⟩ := x_ret hf
  exact W.iret (v := a2) hx hb hr (fun t ht hW => ⟨⟨_, _, rfl, ⟨rfl, rfl⟩, m_pw hP hD hK hG hS hz ht hW⟩, hS.F ht⟩) hS.2.2 d_M_told_105
set_option maxHeartbeats 4000000 in
set_option maxRecDepth 100000 in
theorem w_M_told_75 (l : Launch) (G : x_G) {p : Program} {e : Env} {s : State} {m : MethodId} {args : Array Value} {below : List Frame} {meth : Method} {c : Code} (C0 : m_Ctx G p s m args meth c prog_7_method_43_code "ContentLibraryModel" 4 (some .int)) (r : Int32) (zo : x_St) : ∀ (fu : Nat), ∀ (a2 : Int32) (a3 : Int32) (z0 : x_St), f_M_told_75 (x_n G) fu a2 a3 z0 = some (r, zo) → ∀ (H : Heap) (locs : List Loc) (ls : Array Slot), va_P (x_D G) vwCl (m_Wd G z0) H → va_D (x_A G) (m_Wd G z0) → va_S (x_A G) s.heap H locs → lv_has ls 4 [(0, .ref (x_ad G 0)), (2, .int a2), (3, .int a3)] → W p l e rm_M_told s m args below meth c H locs 0 0 (MQ below (va_Qi (fun a u => r = a ∧ zo = u) (m_PW G) (x_A G)) args s 0 0 (x_A G)) (F0 m 75 ls []) := by
  obtain ⟨hx, hb, hr, hml, hown, hts, hlocks, hz, hK, hG⟩ := id C0
  intro fu
  induction fu with
  | zero =>
    intro a2 a3 z0 hf
    rw [f_M_told_75] at hf
    cases hf
  | succ fu ih =>
    intro a2 a3 z0 hf H locs ls hP hD hS hl
    rw [f_M_told_75] at hf
    refine lv_iload_n hx hb d_M_told_75 rfl (lv_at hl 2 rfl) ?_
    refine lv_bipush (v := (16 : Int32)) hx hb d_M_told_76 (by decide) ?_
    refine lv_icmp_ge (tgt := 104) hx hb d_M_told_78 (by decide) (fun hc4 => ?_) (fun hc4 => ?_)
    · have hf := x_br_t hf hc4
      exact w_M_told_104 l G C0 r zo a2 z0 hf _ _ _ hP hD hS (lv_sub hl [1] rfl)
    · have hf := x_br_f hf hc4
      refine lv_iload_n hx hb d_M_told_81 rfl (lv_at hl 1 rfl) ?_
      refine lv_aload_n hx hb d_M_told_82 rfl (lv_at hl 0 rfl) ?_
      refine va_get (D := x_D G) (ci := 5) (v := .ref (x_ad G 7)) (C := "ContentLibraryModel") (T := x_TM) (N := 31) hx hb hts x_inM hown hK hP 0 (m_lk_M G _) rfl 10 (by decide) (hts _ t_682) (fun _ h9 => h9) rfl d_M_told_83 ?_
      refine lv_iload_n hx hb d_M_told_86 rfl (lv_at hl 2 rfl) ?_
      obtain ⟨hin5, hf⟩ := x_ck_some hf
      refine va_zald hx hb hK hP 7 1 (m_lk_Z G _ (k := 7) (by decide)) rfl hin5 d_M_told_87 ?_
      refine lv_if_eq (tgt := 95) hx hb d_M_told_88 (by decide) (fun hc6 => ?_) (fun hc6 => ?_)
      · have hf := x_br_t hf hc6
        refine lv_iconst (v := (0 : Int32)) hx hb d_M_told_95 (by decide) ?_
        refine lv_iadd hx hb d_M_told_96 ?_
        refine lv_istore_n (lv' := [(2, .int (a2 + (0 : Int32))), (0, .ref (x_ad G 0)), (3, .int a3)]) hx hb d_M_told_97 rfl hl (by decide) rfl (fun ls hl => ?_)
        refine lv_iinc (v := (a3 + (1 : Int32))) (lv' := [(3, .int (a3 + (1 : Int32))), (2, .int (a2 + (0 : Int32))), (0, .ref (x_ad G 0))]) hx hb d_M_told_98 hl (k := 2) rfl rfl (by decide) rfl (fun ls hl => ?_)
        refine lv_goto (tgt := 75) hx hb d_M_told_101 (by decide) ?_
        exact ih (a2 + (0 : Int32)) (a3 + (1 : Int32)) z0 hf _ _ _ hP hD hS (lv_sub hl [2, 1, 0] rfl)
      · have hf := x_br_f hf hc6
        refine lv_iconst (v := (1 : Int32)) hx hb d_M_told_91 (by decide) ?_
        refine lv_goto (tgt := 96) hx hb d_M_told_92 (by decide) ?_
        refine lv_iadd hx hb d_M_told_96 ?_
        refine lv_istore_n (lv' := [(2, .int (a2 + (1 : Int32))), (0, .ref (x_ad G 0)), (3, .int a3)]) hx hb d_M_told_97 rfl hl (by decide) rfl (fun ls hl => ?_)
        refine lv_iinc (v := (a3 + (1 : Int32))) (lv' := [(3, .int (a3 + (1 : Int32))), (2, .int (a2 + (1 : Int32))), (0, .ref (x_ad G 0))]) hx hb d_M_told_98 hl (k := 2) rfl rfl (by decide) rfl (fun ls hl => ?_)
        refine lv_goto (tgt := 75) hx hb d_M_told_101 (by decide) ?_
        exact ih (a2 + (1 : Int32)) (a3 + (1 : Int32)) z0 hf _ _ _ hP hD hS (lv_sub hl [2, 1, 0] rfl)
set_option maxHeartbeats 4000000 in
set_option maxRecDepth 100000 in
theorem c_M_told (l : Launch) (G : x_G) (p1 : Int32) (z0 : x_St) (r : Int32) (zo : x_St) (hf : f_M_told (x_n G) p1 z0 = some (r, zo)) : Met l (⟨"ContentLibraryModel", "told", "(I)I"⟩ : MethodName) (x_ws (⟨"ContentLibraryModel", "told", "(I)I"⟩ : MethodName) prog_7_method_43_code 4 (some .int)) rm_M_told (va_Pc [.ref (x_ad G 0), .int p1] (m_PW G z0)) (va_Qi (fun a u => r = a ∧ zo = u) (m_PW G) (x_A G)) 0 0 (x_A G) := by
  refine Met.ofW (cc := prog_7_method_43_code) (maxL := 4) (ret := (some .int)) (by decide) rfl ?_
  intro p e s m args below meth c s₁ B hml hv
  obtain ⟨rfl, hz, hP, hD, hK, hG⟩ := hv
  have C0 : m_Ctx G p s m _ meth c prog_7_method_43_code "ContentLibraryModel" 4 (some .int) := ⟨B.exec, B.bytes, B.returns, hml, findClass_of_methodNamed B.named, fun w h => atoms_spec (ws := (x_ws (⟨"ContentLibraryModel", "told", "(I)I"⟩ : MethodName) prog_7_method_43_code 4 (some .int))) B.pre w (List.mem_cons_of_mem _ h), B.notSynchronized, hz, hK, hG⟩
  obtain ⟨hx, hb, hr, hml, hown, hts, hlocks, hz, hK, hG⟩ := id C0
  have hS : va_S (x_A G) s.heap s.heap [] := va_S.rf
  have hl := lv_entry ([.ref (x_ad G 0), .int p1]) (n := 4) (Nat.le_of_ble_eq_true rfl)
  rw [lg_entry_eq]
  generalize (lg_sl ([.ref (x_ad G 0), .int p1]) ++ List.replicate (4 - (lg_sl ([.ref (x_ad G 0), .int p1])).length) Slot.unset).toArray = ls at hl ⊢
  have hl : lv_has ls 4 [(0, .ref (x_ad G 0)), (1, .int p1)] := hl
  rw [f_M_told] at hf
  refine lv_aload_n hx hb d_M_told_0 rfl (lv_at hl 0 rfl) ?_
  refine lv_iconst (v := (0 : Int32)) hx hb d_M_told_1 (by decide) ?_
  refine va_put (D := x_D G) (ci := 5) (v := .int (0 : Int32)) (ty := .int) (C := "ContentLibraryModel") (T := x_TM) (N := 31) hx hb hts x_inM x_tyM x_tyM_ok x_nmM hown hK hP hD hS 0 (m_lk_M G _) rfl 0 (by decide) (hts _ t_672) (fun _ h9 => h9) rfl (by decide +kernel) rfl rfl (Nat.le_of_ble_eq_true rfl) d_M_told_2 (fun H locs hP hD hS => ?_)
  rw [m_st_M0 G _] at hP hD
  refine lv_iconst (v := (0 : Int32)) hx hb d_M_told_5 (by decide) ?_
  refine lv_istore_n (lv' := [(2, .int (0 : Int32)), (0, .ref (x_ad G 0)), (1, .int p1)]) hx hb d_M_told_6 rfl hl (by decide) rfl (fun ls hl => ?_)
  refine lv_iload_n hx hb d_M_told_7 rfl (lv_at hl 2 rfl) ?_
  by_cases hs7 : p1 = (0 : Int32)
  · have hf := x_br_t hf hs7
    refine lv_tableIn (tgt := 52) hx hb d_M_told_8 (by rw [hs7]; decide) (by rw [hs7]; decide) (by rw [hs7]; rfl) (by decide) ?_
    refine lv_aload_n hx hb d_M_told_52 rfl (lv_at hl 1 rfl) ?_
    refine va_get (D := x_D G) (ci := 5) (v := .int ((x_put z0 0 0 (0 : Int32)).1 0 1)) (C := "ContentLibraryModel") (T := x_TM) (N := 31) hx hb hts x_inM hown hK hP 0 (m_lk_M G _) rfl 1 (by decide) (hts _ t_673) (fun _ h9 => h9) rfl d_M_told_53 ?_
    obtain ⟨rfl, rfl⟩ := x_ret hf
    exact W.iret (v := ((x_put z0 0 0 (0 : Int32)).1 0 1)) hx hb hr (fun t ht hW => ⟨⟨_, _, rfl, ⟨rfl, rfl⟩, m_pw hP hD hK hG hS hz ht hW⟩, hS.F ht⟩) hS.2.2 d_M_told_56
  have hf := x_br_f hf hs7
  by_cases hs8 : p1 = (1 : Int32)
  · have hf := x_br_t hf hs8
    refine lv_tableIn (tgt := 57) hx hb d_M_told_8 (by rw [hs8]; decide) (by rw [hs8]; decide) (by rw [hs8]; rfl) (by decide) ?_
    refine lv_aload_n hx hb d_M_told_57 rfl (lv_at hl 1 rfl) ?_
    refine va_get (D := x_D G) (ci := 5) (v := .int ((x_put z0 0 0 (0 : Int32)).1 0 3)) (C := "ContentLibraryModel") (T := x_TM) (N := 31) hx hb hts x_inM hown hK hP 0 (m_lk_M G _) rfl 3 (by decide) (hts _ t_675) (fun _ h9 => h9) rfl d_M_told_58 ?_
    refine lv_if_eq (tgt := 68) hx hb d_M_told_61 (by decide) (fun hc9 => ?_) (fun hc9 => ?_)
    · have hf := x_br_t hf hc9
      refine lv_aload_n hx hb d_M_told_68 rfl (lv_at hl 1 rfl) ?_
      obtain ⟨r10, z10, hq11, hf⟩ := x_cl_some hf
      refine va_calli (va_runV (As := []) (rest := []) ⟨hx, hb, hml, hown, hts⟩ (c_M_freeBlocks l G (x_put z0 0 0 (0 : Int32)) r10 z10 hq11) (cwV 0 hts (x_gV t_810 t_812 sel_ContentLibraryModel_freeBlocks t_7 t_813) rfl rfl rfl (by decide +kernel) ⟨Nat.le_of_ble_eq_true rfl, Nat.le_of_ble_eq_true rfl⟩) ⟨m_blind _ _ _, va_recv hK hP (ci := 5) (q0 := 0) rfl (m_lk_M G _), fun U hU hW => ⟨rfl, m_pw hP hD hK hG hS hz hU hW⟩⟩ rfl rfl hl.1 rfl (lv_room (Nat.le_of_ble_eq_true rfl)) d_M_told_69 ⟨Nat.le_of_ble_eq_true rfl, Nat.le_of_ble_eq_true rfl⟩) hS (fun q _ h => h) (fun q h => h) (fun ra u t H locs ht hvm hw hB _ _ hS => ?_)
      obtain ⟨rfl, rfl⟩ := hw
      obtain ⟨hP, hD⟩ := m_back hB ht
      obtain ⟨rfl, rfl⟩ := x_ret hf
      exact W.iret (v := r10) hx hb hr (fun t ht hW => ⟨⟨_, _, rfl, ⟨rfl, rfl⟩, m_pw hP hD hK hG hS hz ht hW⟩, hS.F ht⟩) hS.2.2 d_M_told_72
    · have hf := x_br_f hf hc9
      refine lv_iconst (v := (0 : Int32)) hx hb d_M_told_64 (by decide) ?_
      refine lv_goto (tgt := 72) hx hb d_M_told_65 (by decide) ?_
      obtain ⟨rfl, rfl⟩ := x_ret hf
      exact W.iret (v := (0 : Int32)) hx hb hr (fun t ht hW => ⟨⟨_, _, rfl, ⟨rfl, rfl⟩, m_pw hP hD hK hG hS hz ht hW⟩, hS.F ht⟩) hS.2.2 d_M_told_72
  have hf := x_br_f hf hs8
  by_cases hs12 : p1 = (2 : Int32)
  · have hf := x_br_t hf hs12
    refine lv_tableIn (tgt := 73) hx hb d_M_told_8 (by rw [hs12]; decide) (by rw [hs12]; decide) (by rw [hs12]; rfl) (by decide) ?_
    refine lv_iconst (v := (0 : Int32)) hx hb d_M_told_73 (by decide) ?_
    refine lv_istore_n (lv' := [(3, .int (0 : Int32)), (2, .int (0 : Int32)), (0, .ref (x_ad G 0)), (1, .int p1)]) hx hb d_M_told_74 rfl hl (by decide) rfl (fun ls hl => ?_)
    exact w_M_told_75 l G C0 r zo x_FU (0 : Int32) (0 : Int32) (x_put z0 0 0 (0 : Int32)) hf _ _ _ hP hD hS (lv_sub hl [2, 1, 0] rfl)
  have hf := x_br_f hf hs12
  by_cases hs13 : p1 = (3 : Int32)
  · have hf := x_br_t hf hs13
    refine lv_tableIn (tgt := 106) hx hb d_M_told_8 (by rw [hs13]; decide) (by rw [hs13]; decide) (by rw [hs13]; rfl) (by decide) ?_
    refine lv_iconst (v := (0 : Int32)) hx hb d_M_told_106 (by decide) ?_
    refine lv_istore_n (lv' := [(3, .int (0 : Int32)), (2, .int (0 : Int32)), (0, .ref (x_ad G 0)), (1, .int p1)]) hx hb d_M_told_107 rfl hl (by decide) rfl (fun ls hl => ?_)
    exact w_M_told_108 l G C0 r zo x_FU (0 : Int32) (0 : Int32) (x_put z0 0 0 (0 : Int32)) hf _ _ _ hP hD hS (lv_sub hl [2, 1, 0] rfl)
  have hf := x_br_f hf hs13
  by_cases hs14 : p1 = (4 : Int32)
  · have hf := x_br_t hf hs14
    refine lv_tableIn (tgt := 139) hx hb d_M_told_8 (by rw [hs14]; decide) (by rw [hs14]; decide) (by rw [hs14]; rfl) (by decide) ?_
    refine lv_aload_n hx hb d_M_told_139 rfl (lv_at hl 1 rfl) ?_
    refine va_get (D := x_D G) (ci := 5) (v := .int ((x_put z0 0 0 (0 : Int32)).1 0 19)) (C := "ContentLibraryModel") (T := x_TM) (N := 31) hx hb hts x_inM hown hK hP 0 (m_lk_M G _) rfl 19 (by decide) (hts _ t_691) (fun _ h9 => h9) rfl d_M_told_140 ?_
    obtain ⟨rfl, rfl⟩ := x_ret hf
    exact W.iret (v := ((x_put z0 0 0 (0 : Int32)).1 0 19)) hx hb hr (fun t ht hW => ⟨⟨_, _, rfl, ⟨rfl, rfl⟩, m_pw hP hD hK hG hS hz ht hW⟩, hS.F ht⟩) hS.2.2 d_M_told_143
  have hf := x_br_f hf hs14
  by_cases hs15 : p1 = (5 : Int32)
  · have hf := x_br_t hf hs15
    refine lv_tableIn (tgt := 144) hx hb d_M_told_8 (by rw [hs15]; decide) (by rw [hs15]; decide) (by rw [hs15]; rfl) (by decide) ?_
    refine lv_aload_n hx hb d_M_told_144 rfl (lv_at hl 1 rfl) ?_
    refine va_get (D := x_D G) (ci := 5) (v := .int ((x_put z0 0 0 (0 : Int32)).1 0 3)) (C := "ContentLibraryModel") (T := x_TM) (N := 31) hx hb hts x_inM hown hK hP 0 (m_lk_M G _) rfl 3 (by decide) (hts _ t_675) (fun _ h9 => h9) rfl d_M_told_145 ?_
    refine lv_if_eq (tgt := 155) hx hb d_M_told_148 (by decide) (fun hc16 => ?_) (fun hc16 => ?_)
    · have hf := x_br_t hf hc16
      refine lv_iconst (v := (0 : Int32)) hx hb d_M_told_155 (by decide) ?_
      obtain ⟨rfl, rfl⟩ := x_ret hf
      exact W.iret (v := (0 : Int32)) hx hb hr (fun t ht hW => ⟨⟨_, _, rfl, ⟨rfl, rfl⟩, m_pw hP hD hK hG hS hz ht hW⟩, hS.F ht⟩) hS.2.2 d_M_told_156
    · have hf := x_br_f hf hc16
      refine lv_iconst (v := (1 : Int32)) hx hb d_M_told_151 (by decide) ?_
      refine lv_goto (tgt := 156) hx hb d_M_told_152 (by decide) ?_
      obtain ⟨rfl, rfl⟩ := x_ret hf
      exact W.iret (v := (1 : Int32)) hx hb hr (fun t ht hW => ⟨⟨_, _, rfl, ⟨rfl, rfl⟩, m_pw hP hD hK hG hS hz ht hW⟩, hS.F ht⟩) hS.2.2 d_M_told_156
  have hf := x_br_f hf hs15
  by_cases hs17 : p1 = (6 : Int32)
  · have hf := x_br_t hf hs17
    refine lv_tableIn (tgt := 157) hx hb d_M_told_8 (by rw [hs17]; decide) (by rw [hs17]; decide) (by rw [hs17]; rfl) (by decide) ?_
    refine lv_aload_n hx hb d_M_told_157 rfl (lv_at hl 1 rfl) ?_
    refine va_get (D := x_D G) (ci := 5) (v := .int ((x_put z0 0 0 (0 : Int32)).1 0 4)) (C := "ContentLibraryModel") (T := x_TM) (N := 31) hx hb hts x_inM hown hK hP 0 (m_lk_M G _) rfl 4 (by decide) (hts _ t_676) (fun _ h9 => h9) rfl d_M_told_158 ?_
    obtain ⟨rfl, rfl⟩ := x_ret hf
    exact W.iret (v := ((x_put z0 0 0 (0 : Int32)).1 0 4)) hx hb hr (fun t ht hW => ⟨⟨_, _, rfl, ⟨rfl, rfl⟩, m_pw hP hD hK hG hS hz ht hW⟩, hS.F ht⟩) hS.2.2 d_M_told_161
  have hf := x_br_f hf hs17
  refine lv_tableOut (tgt := 162) hx hb d_M_told_8 (x_out7 hs7 hs8 hs12 hs13 hs14 hs15 hs17) (by decide) ?_
  refine lv_iconst (v := (-1 : Int32)) hx hb d_M_told_162 (by decide) ?_
  obtain ⟨rfl, rfl⟩ := x_ret hf
  exact W.iret (v := (-1 : Int32)) hx hb hr (fun t ht hW => ⟨⟨_, _, rfl, ⟨rfl, rfl⟩, m_pw hP hD hK hG hS hz ht hW⟩, hS.F ht⟩) hS.2.2 d_M_told_163
