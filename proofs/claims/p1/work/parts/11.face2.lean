theorem t_293 : Cond.methodLink "ContentLibrary" 200 (⟨"ContentLibrary", "setUsed", "(LContentLibrary$Kept;Z)V"⟩ : MethodName) ∈ x_big := x_bt 293 (by decide +kernel) (by decide +kernel)
theorem t_295 : Cond.instanceMethod (⟨"ContentLibrary", "setUsed", "(LContentLibrary$Kept;Z)V"⟩ : MethodName) ∈ x_big := x_bt 295 (by decide +kernel) (by decide +kernel)
theorem t_296 : Cond.code (⟨"ContentLibrary", "setUsed", "(LContentLibrary$Kept;Z)V"⟩ : MethodName) prog_1_method_28_code 4 none ∈ x_big := x_bt 296 (by decide +kernel) (by decide +kernel)
theorem t_509 : Cond.methodLink "ContentLibrary" 204 (⟨"ContentLibrary", "wipeFreeBlocks", "(I)I"⟩ : MethodName) ∈ x_big := x_bt 509 (by decide +kernel) (by decide +kernel)
theorem t_511 : Cond.instanceMethod (⟨"ContentLibrary", "wipeFreeBlocks", "(I)I"⟩ : MethodName) ∈ x_big := x_bt 511 (by decide +kernel) (by decide +kernel)
theorem t_512 : Cond.code (⟨"ContentLibrary", "wipeFreeBlocks", "(I)I"⟩ : MethodName) prog_1_method_29_code 5 (some .int) ∈ x_big := x_bt 512 (by decide +kernel) (by decide +kernel)
theorem t_547 : Cond.methodLink "ContentLibrary" 138 (⟨"ContentLibrary", "afterCut", "()I"⟩ : MethodName) ∈ x_big := x_bt 547 (by decide +kernel) (by decide +kernel)
theorem t_549 : Cond.instanceMethod (⟨"ContentLibrary", "afterCut", "()I"⟩ : MethodName) ∈ x_big := x_bt 549 (by decide +kernel) (by decide +kernel)
theorem t_550 : Cond.code (⟨"ContentLibrary", "afterCut", "()I"⟩ : MethodName) prog_1_method_33_code 1 (some .int) ∈ x_big := x_bt 550 (by decide +kernel) (by decide +kernel)
theorem t_638 : Cond.methodLink "ContentLibrary" 225 (⟨"ContentLibrary", "refuseUnlessByte", "(II)V"⟩ : MethodName) ∈ x_big := x_bt 638 (by decide +kernel) (by decide +kernel)
theorem t_640 : Cond.instanceMethod (⟨"ContentLibrary", "refuseUnlessByte", "(II)V"⟩ : MethodName) ∈ x_big := x_bt 640 (by decide +kernel) (by decide +kernel)
theorem t_641 : Cond.code (⟨"ContentLibrary", "refuseUnlessByte", "(II)V"⟩ : MethodName) prog_1_method_19_code 3 none ∈ x_big := x_bt 641 (by decide +kernel) (by decide +kernel)
theorem t_644 : Cond.methodLink "ContentLibrary" 230 (⟨"ContentLibrary$Blocks", "turn", "(III)I"⟩ : MethodName) ∈ x_big := x_bt 644 (by decide +kernel) (by decide +kernel)
theorem t_645 : Cond.instanceMethod (⟨"ContentLibrary$Blocks", "turn", "(III)I"⟩ : MethodName) ∈ x_big := x_bt 645 (by decide +kernel) (by decide +kernel)
theorem t_646 : Cond.selects "ContentLibrary$Blocks" (⟨"ContentLibrary$Blocks", "turn", "(III)I"⟩ : MethodName) (⟨"ContentLibrary$Blocks", "turn", "(III)I"⟩ : MethodName) ∈ x_big := x_bt 646 (by decide +kernel) (by decide +kernel)
theorem t_647 : Cond.code (⟨"ContentLibrary$Blocks", "turn", "(III)I"⟩ : MethodName) prog_2_method_4_code 4 (some .int) ∈ x_big := x_bt 647 (by decide +kernel) (by decide +kernel)
theorem sel_ContentLibrary_afterCut : Cond.selects "ContentLibrary" (⟨"ContentLibrary", "afterCut", "()I"⟩ : MethodName) (⟨"ContentLibrary", "afterCut", "()I"⟩ : MethodName) ∈ x_big := x_bs 23 (by decide +kernel) (by decide +kernel)
theorem sel_ContentLibrary_refuseUnlessByte : Cond.selects "ContentLibrary" (⟨"ContentLibrary", "refuseUnlessByte", "(II)V"⟩ : MethodName) (⟨"ContentLibrary", "refuseUnlessByte", "(II)V"⟩ : MethodName) ∈ x_big := x_bs 26 (by decide +kernel) (by decide +kernel)
theorem sel_ContentLibrary_setUsed : Cond.selects "ContentLibrary" (⟨"ContentLibrary", "setUsed", "(LContentLibrary$Kept;Z)V"⟩ : MethodName) (⟨"ContentLibrary", "setUsed", "(LContentLibrary$Kept;Z)V"⟩ : MethodName) ∈ x_big := x_bs 9 (by decide +kernel) (by decide +kernel)
theorem sel_ContentLibrary_wipeFreeBlocks : Cond.selects "ContentLibrary" (⟨"ContentLibrary", "wipeFreeBlocks", "(I)I"⟩ : MethodName) (⟨"ContentLibrary", "wipeFreeBlocks", "(I)I"⟩ : MethodName) ∈ x_big := x_bs 19 (by decide +kernel) (by decide +kernel)
theorem d_X_found_0 : decode prog_1_method_9_code 0 = .ok (.aload_n 0, 1) := by decide +kernel
theorem d_X_found_1 : decode prog_1_method_9_code 1 = .ok (.invokevirtual 66, 3) := by decide +kernel
theorem d_X_found_4 : decode prog_1_method_9_code 4 = .ok (.iload_n 1, 1) := by decide +kernel
theorem d_X_found_5 : decode prog_1_method_9_code 5 = .ok (.ifCond .lt 11, 3) := by decide +kernel
theorem d_X_found_8 : decode prog_1_method_9_code 8 = .ok (.iload_n 1, 1) := by decide +kernel
theorem d_X_found_9 : decode prog_1_method_9_code 9 = .ok (.aload_n 0, 1) := by decide +kernel
theorem d_X_found_10 : decode prog_1_method_9_code 10 = .ok (.getfield 62, 3) := by decide +kernel
theorem d_X_found_13 : decode prog_1_method_9_code 13 = .ok (.if_icmp .lt 13, 3) := by decide +kernel
theorem d_X_found_16 : decode prog_1_method_9_code 16 = .ok (.new 145, 3) := by decide +kernel
theorem d_X_found_19 : decode prog_1_method_9_code 19 = .ok (.dup, 1) := by decide +kernel
theorem d_X_found_20 : decode prog_1_method_9_code 20 = .ok (.ldc 188, 2) := by decide +kernel
theorem d_X_found_22 : decode prog_1_method_9_code 22 = .ok (.invokespecial 149, 3) := by decide +kernel
theorem d_X_found_25 : decode prog_1_method_9_code 25 = .ok (.athrow, 1) := by decide +kernel
theorem d_X_found_26 : decode prog_1_method_9_code 26 = .ok (.iload_n 2, 1) := by decide +kernel
theorem d_X_found_27 : decode prog_1_method_9_code 27 = .ok (.ifCond .eq 18, 3) := by decide +kernel
theorem d_X_found_30 : decode prog_1_method_9_code 30 = .ok (.iload_n 2, 1) := by decide +kernel
theorem d_X_found_31 : decode prog_1_method_9_code 31 = .ok (.iconst 1, 1) := by decide +kernel
theorem d_X_found_32 : decode prog_1_method_9_code 32 = .ok (.if_icmp .eq 13, 3) := by decide +kernel
theorem d_X_found_35 : decode prog_1_method_9_code 35 = .ok (.new 73, 3) := by decide +kernel
theorem d_X_found_38 : decode prog_1_method_9_code 38 = .ok (.dup, 1) := by decide +kernel
theorem d_X_found_39 : decode prog_1_method_9_code 39 = .ok (.ldc 190, 2) := by decide +kernel
theorem d_X_found_41 : decode prog_1_method_9_code 41 = .ok (.invokespecial 77, 3) := by decide +kernel
theorem d_X_found_44 : decode prog_1_method_9_code 44 = .ok (.athrow, 1) := by decide +kernel
theorem d_X_found_45 : decode prog_1_method_9_code 45 = .ok (.iload_n 2, 1) := by decide +kernel
theorem d_X_found_46 : decode prog_1_method_9_code 46 = .ok (.ifCond .ne 12, 3) := by decide +kernel
theorem d_X_found_49 : decode prog_1_method_9_code 49 = .ok (.aload_n 0, 1) := by decide +kernel
theorem d_X_found_50 : decode prog_1_method_9_code 50 = .ok (.getfield 56, 3) := by decide +kernel
theorem d_X_found_53 : decode prog_1_method_9_code 53 = .ok (.iload_n 1, 1) := by decide +kernel
theorem d_X_found_54 : decode prog_1_method_9_code 54 = .ok (.iaload, 1) := by decide +kernel
theorem d_X_found_55 : decode prog_1_method_9_code 55 = .ok (.goto 9, 3) := by decide +kernel
theorem d_X_found_64 : decode prog_1_method_9_code 64 = .ok (.ireturn, 1) := by decide +kernel
theorem d_X_found_58 : decode prog_1_method_9_code 58 = .ok (.aload_n 0, 1) := by decide +kernel
theorem d_X_found_59 : decode prog_1_method_9_code 59 = .ok (.getfield 59, 3) := by decide +kernel
theorem d_X_found_62 : decode prog_1_method_9_code 62 = .ok (.iload_n 1, 1) := by decide +kernel
theorem d_X_found_63 : decode prog_1_method_9_code 63 = .ok (.iaload, 1) := by decide +kernel
theorem d_X_drop_0 : decode prog_1_method_10_code 0 = .ok (.aload_n 0, 1) := by decide +kernel
theorem d_X_drop_1 : decode prog_1_method_10_code 1 = .ok (.invokevirtual 66, 3) := by decide +kernel
theorem d_X_drop_4 : decode prog_1_method_10_code 4 = .ok (.aload_n 0, 1) := by decide +kernel
theorem d_X_drop_5 : decode prog_1_method_10_code 5 = .ok (.iload_n 1, 1) := by decide +kernel
theorem d_X_drop_6 : decode prog_1_method_10_code 6 = .ok (.invokevirtual 141, 3) := by decide +kernel
theorem d_X_drop_9 : decode prog_1_method_10_code 9 = .ok (.astore_n 2, 1) := by decide +kernel
theorem d_X_drop_10 : decode prog_1_method_10_code 10 = .ok (.aload_n 0, 1) := by decide +kernel
theorem d_X_drop_11 : decode prog_1_method_10_code 11 = .ok (.getfield 23, 3) := by decide +kernel
theorem d_X_drop_14 : decode prog_1_method_10_code 14 = .ok (.aload_n 2, 1) := by decide +kernel
theorem d_X_drop_15 : decode prog_1_method_10_code 15 = .ok (.getfield 192, 3) := by decide +kernel
theorem d_X_drop_18 : decode prog_1_method_10_code 18 = .ok (.aload_n 2, 1) := by decide +kernel
theorem d_X_drop_19 : decode prog_1_method_10_code 19 = .ok (.getfield 195, 3) := by decide +kernel
theorem d_X_drop_22 : decode prog_1_method_10_code 22 = .ok (.iaload, 1) := by decide +kernel
theorem d_X_drop_23 : decode prog_1_method_10_code 23 = .ok (.invokevirtual 197, 3) := by decide +kernel
theorem d_X_drop_26 : decode prog_1_method_10_code 26 = .ok (.istore_n 3, 1) := by decide +kernel
theorem d_X_drop_27 : decode prog_1_method_10_code 27 = .ok (.iconst 0, 1) := by decide +kernel
theorem d_X_drop_28 : decode prog_1_method_10_code 28 = .ok (.istore 4, 2) := by decide +kernel
theorem d_X_drop_30 : decode prog_1_method_10_code 30 = .ok (.iload 4, 2) := by decide +kernel
theorem d_X_drop_32 : decode prog_1_method_10_code 32 = .ok (.aload_n 2, 1) := by decide +kernel
theorem d_X_drop_33 : decode prog_1_method_10_code 33 = .ok (.getfield 195, 3) := by decide +kernel
theorem d_X_drop_36 : decode prog_1_method_10_code 36 = .ok (.if_icmp .ge 28, 3) := by decide +kernel
theorem d_X_drop_39 : decode prog_1_method_10_code 39 = .ok (.iload_n 3, 1) := by decide +kernel
theorem d_X_drop_40 : decode prog_1_method_10_code 40 = .ok (.ifCond .eq 24, 3) := by decide +kernel
theorem d_X_drop_43 : decode prog_1_method_10_code 43 = .ok (.aload_n 0, 1) := by decide +kernel
theorem d_X_drop_44 : decode prog_1_method_10_code 44 = .ok (.getfield 23, 3) := by decide +kernel
theorem d_X_drop_47 : decode prog_1_method_10_code 47 = .ok (.aload_n 2, 1) := by decide +kernel
theorem d_X_drop_48 : decode prog_1_method_10_code 48 = .ok (.getfield 192, 3) := by decide +kernel
theorem d_X_drop_51 : decode prog_1_method_10_code 51 = .ok (.iload 4, 2) := by decide +kernel
theorem d_X_drop_53 : decode prog_1_method_10_code 53 = .ok (.iaload, 1) := by decide +kernel
theorem d_X_drop_54 : decode prog_1_method_10_code 54 = .ok (.invokevirtual 197, 3) := by decide +kernel
theorem d_X_drop_57 : decode prog_1_method_10_code 57 = .ok (.istore_n 3, 1) := by decide +kernel
theorem d_X_drop_58 : decode prog_1_method_10_code 58 = .ok (.iinc 4 1, 3) := by decide +kernel
theorem d_X_drop_61 : decode prog_1_method_10_code 61 = .ok (.goto (-31), 3) := by decide +kernel
theorem d_X_drop_64 : decode prog_1_method_10_code 64 = .ok (.iload_n 3, 1) := by decide +kernel
theorem d_X_drop_65 : decode prog_1_method_10_code 65 = .ok (.ifCond .ne 8, 3) := by decide +kernel
theorem d_X_drop_68 : decode prog_1_method_10_code 68 = .ok (.aload_n 0, 1) := by decide +kernel
theorem d_X_drop_69 : decode prog_1_method_10_code 69 = .ok (.invokevirtual 138, 3) := by decide +kernel
theorem d_X_drop_72 : decode prog_1_method_10_code 72 = .ok (.ireturn, 1) := by decide +kernel
theorem d_X_drop_73 : decode prog_1_method_10_code 73 = .ok (.aload_n 2, 1) := by decide +kernel
theorem d_X_drop_74 : decode prog_1_method_10_code 74 = .ok (.iconst 0, 1) := by decide +kernel
theorem d_X_drop_75 : decode prog_1_method_10_code 75 = .ok (.putfield 178, 3) := by decide +kernel
theorem d_X_drop_78 : decode prog_1_method_10_code 78 = .ok (.aload_n 0, 1) := by decide +kernel
theorem d_X_drop_79 : decode prog_1_method_10_code 79 = .ok (.aload_n 2, 1) := by decide +kernel
theorem d_X_drop_80 : decode prog_1_method_10_code 80 = .ok (.iconst 0, 1) := by decide +kernel
theorem d_X_drop_81 : decode prog_1_method_10_code 81 = .ok (.invokevirtual 200, 3) := by decide +kernel
theorem d_X_drop_84 : decode prog_1_method_10_code 84 = .ok (.aload_n 2, 1) := by decide +kernel
theorem d_X_drop_85 : decode prog_1_method_10_code 85 = .ok (.getfield 195, 3) := by decide +kernel
theorem d_X_drop_88 : decode prog_1_method_10_code 88 = .ok (.iconst 1, 1) := by decide +kernel
theorem d_X_drop_89 : decode prog_1_method_10_code 89 = .ok (.iadd, 1) := by decide +kernel
theorem d_X_drop_90 : decode prog_1_method_10_code 90 = .ok (.ireturn, 1) := by decide +kernel
theorem d_X_sweep_0 : decode prog_1_method_11_code 0 = .ok (.aload_n 0, 1) := by decide +kernel
theorem d_X_sweep_1 : decode prog_1_method_11_code 1 = .ok (.invokevirtual 66, 3) := by decide +kernel
theorem d_X_sweep_4 : decode prog_1_method_11_code 4 = .ok (.aload_n 0, 1) := by decide +kernel
theorem d_X_sweep_5 : decode prog_1_method_11_code 5 = .ok (.iconst (-1), 1) := by decide +kernel
theorem d_X_sweep_6 : decode prog_1_method_11_code 6 = .ok (.invokevirtual 204, 3) := by decide +kernel
theorem d_X_sweep_9 : decode prog_1_method_11_code 9 = .ok (.istore_n 1, 1) := by decide +kernel
theorem d_X_sweep_10 : decode prog_1_method_11_code 10 = .ok (.iload_n 1, 1) := by decide +kernel
theorem d_X_sweep_11 : decode prog_1_method_11_code 11 = .ok (.bipush (-2), 2) := by decide +kernel
theorem d_X_sweep_13 : decode prog_1_method_11_code 13 = .ok (.if_icmp .ne 10, 3) := by decide +kernel
theorem d_X_sweep_16 : decode prog_1_method_11_code 16 = .ok (.aload_n 0, 1) := by decide +kernel
theorem d_X_sweep_17 : decode prog_1_method_11_code 17 = .ok (.invokevirtual 138, 3) := by decide +kernel
theorem d_X_sweep_20 : decode prog_1_method_11_code 20 = .ok (.goto 4, 3) := by decide +kernel
theorem d_X_sweep_24 : decode prog_1_method_11_code 24 = .ok (.ireturn, 1) := by decide +kernel
theorem d_X_sweep_23 : decode prog_1_method_11_code 23 = .ok (.iload_n 1, 1) := by decide +kernel
theorem d_X_fuse_0 : decode prog_1_method_12_code 0 = .ok (.aload_n 0, 1) := by decide +kernel
theorem d_X_fuse_1 : decode prog_1_method_12_code 1 = .ok (.invokevirtual 66, 3) := by decide +kernel
theorem d_X_fuse_4 : decode prog_1_method_12_code 4 = .ok (.iload_n 1, 1) := by decide +kernel
theorem d_X_fuse_5 : decode prog_1_method_12_code 5 = .ok (.iconst (-1), 1) := by decide +kernel
theorem d_X_fuse_6 : decode prog_1_method_12_code 6 = .ok (.if_icmp .ge 13, 3) := by decide +kernel
theorem d_X_fuse_9 : decode prog_1_method_12_code 9 = .ok (.new 73, 3) := by decide +kernel
theorem d_X_fuse_12 : decode prog_1_method_12_code 12 = .ok (.dup, 1) := by decide +kernel
theorem d_X_fuse_13 : decode prog_1_method_12_code 13 = .ok (.ldc 208, 2) := by decide +kernel
theorem d_X_fuse_15 : decode prog_1_method_12_code 15 = .ok (.invokespecial 77, 3) := by decide +kernel
theorem d_X_fuse_18 : decode prog_1_method_12_code 18 = .ok (.athrow, 1) := by decide +kernel
theorem d_X_fuse_19 : decode prog_1_method_12_code 19 = .ok (.aload_n 0, 1) := by decide +kernel
theorem d_X_fuse_20 : decode prog_1_method_12_code 20 = .ok (.getfield 23, 3) := by decide +kernel
theorem d_X_fuse_23 : decode prog_1_method_12_code 23 = .ok (.getfield 210, 3) := by decide +kernel
theorem d_X_fuse_26 : decode prog_1_method_12_code 26 = .ok (.istore_n 2, 1) := by decide +kernel
theorem d_X_fuse_27 : decode prog_1_method_12_code 27 = .ok (.aload_n 0, 1) := by decide +kernel
theorem d_X_fuse_28 : decode prog_1_method_12_code 28 = .ok (.getfield 23, 3) := by decide +kernel
theorem d_X_fuse_31 : decode prog_1_method_12_code 31 = .ok (.iload_n 1, 1) := by decide +kernel
theorem d_X_fuse_32 : decode prog_1_method_12_code 32 = .ok (.putfield 210, 3) := by decide +kernel
theorem d_X_fuse_35 : decode prog_1_method_12_code 35 = .ok (.iload_n 2, 1) := by decide +kernel
theorem d_X_fuse_36 : decode prog_1_method_12_code 36 = .ok (.ireturn, 1) := by decide +kernel
theorem d_X_poke_0 : decode prog_1_method_14_code 0 = .ok (.aload_n 0, 1) := by decide +kernel
theorem d_X_poke_1 : decode prog_1_method_14_code 1 = .ok (.iload_n 1, 1) := by decide +kernel
theorem d_X_poke_2 : decode prog_1_method_14_code 2 = .ok (.iload_n 2, 1) := by decide +kernel
theorem d_X_poke_3 : decode prog_1_method_14_code 3 = .ok (.invokevirtual 225, 3) := by decide +kernel
theorem d_X_poke_6 : decode prog_1_method_14_code 6 = .ok (.iload_n 3, 1) := by decide +kernel
theorem d_X_poke_7 : decode prog_1_method_14_code 7 = .ok (.ifCond .lt 10, 3) := by decide +kernel
theorem d_X_poke_10 : decode prog_1_method_14_code 10 = .ok (.iload_n 3, 1) := by decide +kernel
theorem d_X_poke_11 : decode prog_1_method_14_code 11 = .ok (.sipush 255, 3) := by decide +kernel
theorem d_X_poke_14 : decode prog_1_method_14_code 14 = .ok (.if_icmp .le 13, 3) := by decide +kernel
theorem d_X_poke_17 : decode prog_1_method_14_code 17 = .ok (.new 73, 3) := by decide +kernel
theorem d_X_poke_20 : decode prog_1_method_14_code 20 = .ok (.dup, 1) := by decide +kernel
theorem d_X_poke_21 : decode prog_1_method_14_code 21 = .ok (.ldc 228, 2) := by decide +kernel
theorem d_X_poke_23 : decode prog_1_method_14_code 23 = .ok (.invokespecial 77, 3) := by decide +kernel
theorem d_X_poke_26 : decode prog_1_method_14_code 26 = .ok (.athrow, 1) := by decide +kernel
theorem d_X_poke_27 : decode prog_1_method_14_code 27 = .ok (.aload_n 0, 1) := by decide +kernel
theorem d_X_poke_28 : decode prog_1_method_14_code 28 = .ok (.getfield 23, 3) := by decide +kernel
theorem d_X_poke_31 : decode prog_1_method_14_code 31 = .ok (.iload_n 1, 1) := by decide +kernel
theorem d_X_poke_32 : decode prog_1_method_14_code 32 = .ok (.iload_n 2, 1) := by decide +kernel
theorem d_X_poke_33 : decode prog_1_method_14_code 33 = .ok (.iload_n 3, 1) := by decide +kernel
theorem d_X_poke_34 : decode prog_1_method_14_code 34 = .ok (.invokevirtual 230, 3) := by decide +kernel
theorem d_X_poke_37 : decode prog_1_method_14_code 37 = .ok (.ireturn, 1) := by decide +kernel
theorem d_X_byteAt_0 : decode prog_1_method_16_code 0 = .ok (.aload_n 0, 1) := by decide +kernel
theorem d_X_byteAt_1 : decode prog_1_method_16_code 1 = .ok (.iload_n 1, 1) := by decide +kernel
theorem d_X_byteAt_2 : decode prog_1_method_16_code 2 = .ok (.iload_n 2, 1) := by decide +kernel
theorem d_X_byteAt_3 : decode prog_1_method_16_code 3 = .ok (.invokevirtual 225, 3) := by decide +kernel
theorem d_X_byteAt_6 : decode prog_1_method_16_code 6 = .ok (.aload_n 0, 1) := by decide +kernel
theorem d_X_byteAt_7 : decode prog_1_method_16_code 7 = .ok (.getfield 23, 3) := by decide +kernel
theorem d_X_byteAt_10 : decode prog_1_method_16_code 10 = .ok (.iload_n 1, 1) := by decide +kernel
theorem d_X_byteAt_11 : decode prog_1_method_16_code 11 = .ok (.iload_n 2, 1) := by decide +kernel
theorem d_X_byteAt_12 : decode prog_1_method_16_code 12 = .ok (.invokevirtual 242, 3) := by decide +kernel
theorem d_X_byteAt_15 : decode prog_1_method_16_code 15 = .ok (.ireturn, 1) := by decide +kernel
def f_X_found_45 (xn : Nat) (a1 : Int32) (a2 : Int32) (z0 : x_St) : Option ((String ⊕ Int32) × x_St) :=
  (if a2 = 0 then
  (x_ck a1 (x_ln xn 108)
  (some (Sum.inr (z0.1 108 (a1).toNatClampNeg), z0)))
  else
  (x_ck a1 (x_ln xn 109)
  (some (Sum.inr (z0.1 109 (a1).toNatClampNeg), z0))))
def f_X_found (xn : Nat) (p1 : Int32) (p2 : Int32) (z0 : x_St) : Option ((String ⊕ Int32) × x_St) :=
  (x_clx (f_X_refuseWhenCut xn z0) (fun r4 z4 =>
  (if p1 < 0 then
  (some (Sum.inl "java/lang/IndexOutOfBoundsException", z4))
  else
  (if p1 < (z4.1 0 8) then
  (if p2 = 0 then
  (f_X_found_45 xn p1 p2 z4)
  else
  (if p2 = (1 : Int32) then
  (f_X_found_45 xn p1 p2 z4)
  else
  (some (Sum.inl "java/lang/IllegalArgumentException", z4))))
  else
  (some (Sum.inl "java/lang/IndexOutOfBoundsException", z4))))))
def f_X_drop_64 (xn : Nat) (a2 : Nat) (a3 : Int32) (z0 : x_St) : Option ((String ⊕ Int32) × x_St) :=
  (if a3 = 0 then
  (x_cl (f_X_afterCut xn z0) (fun r4 z4 =>
  (some (Sum.inr r4, z4))))
  else
  (x_cl (f_X_setUsed xn a2 (0 : Int32) (x_put z0 a2 0 (0 : Int32))) (fun r2 z2 =>
  (some (Sum.inr ((z2.1 a2 4) + (1 : Int32)), z2)))))
def f_X_drop_30 (xn : Nat) : Nat → Nat → Int32 → Int32 → x_St → Option ((String ⊕ Int32) × x_St)
  | 0, _, _, _, _ => none
  | fu + 1, a2, a3, a4, z0 =>
    (if (z0.1 a2 4) ≤ a4 then
    (f_X_drop_64 xn a2 a3 z0)
    else
    (if a3 = 0 then
    (f_X_drop_64 xn a2 a3 z0)
    else
    (x_ck a4 (x_ln xn (a2 + 4))
    (x_cl (f_B_wipe xn (z0.1 (a2 + 4) (a4).toNatClampNeg) z0) (fun r9 z9 =>
    (f_X_drop_30 xn fu a2 r9 (a4 + (1 : Int32)) z9))))))
def f_X_drop (xn : Nat) (p1 : Int32) (z0 : x_St) : Option ((String ⊕ Int32) × x_St) :=
  (x_clx (f_X_refuseWhenCut xn z0) (fun r11 z11 =>
  (x_clx (f_X_keptAt xn p1 z11) (fun r13 z13 =>
  (x_ck (z13.1 r13 4) (x_ln xn (r13 + 4))
  (x_cl (f_B_wipe xn (z13.1 (r13 + 4) ((z13.1 r13 4)).toNatClampNeg) z13) (fun r16 z16 =>
  (f_X_drop_30 xn x_FU r13 r16 (0 : Int32) z16))))))))
def f_X_sweep (xn : Nat)  (z0 : x_St) : Option ((String ⊕ Int32) × x_St) :=
  (x_clx (f_X_refuseWhenCut xn z0) (fun r1 z1 =>
  (x_cl (f_X_wipeFreeBlocks xn (-1 : Int32) z1) (fun r3 z3 =>
  (if r3 = (-2 : Int32) then
  (x_cl (f_X_afterCut xn z3) (fun r6 z6 =>
  (some (Sum.inr r6, z6))))
  else
  (some (Sum.inr r3, z3)))))))
def f_X_fuse (xn : Nat) (p1 : Int32) (z0 : x_St) : Option ((String ⊕ Int32) × x_St) :=
  (x_clx (f_X_refuseWhenCut xn z0) (fun r1 z1 =>
  (if (-1 : Int32) ≤ p1 then
  (some (Sum.inr (z1.1 1 1), (x_put z1 1 1 p1)))
  else
  (some (Sum.inl "java/lang/IllegalArgumentException", z1)))))
def f_X_poke (xn : Nat) (p1 : Int32) (p2 : Int32) (p3 : Int32) (z0 : x_St) : Option ((String ⊕ Int32) × x_St) :=
  (x_clx (f_X_refuseUnlessByte xn p1 p2 z0) (fun r1 z1 =>
  (if p3 < 0 then
  (some (Sum.inl "java/lang/IllegalArgumentException", z1))
  else
  (if p3 ≤ (255 : Int32) then
  (x_cl (f_B_turn xn p1 p2 p3 z1) (fun r5 z5 =>
  (some (Sum.inr r5, z5))))
  else
  (some (Sum.inl "java/lang/IllegalArgumentException", z1))))))
def f_X_byteAt (xn : Nat) (p1 : Int32) (p2 : Int32) (z0 : x_St) : Option ((String ⊕ Int32) × x_St) :=
  (x_clx (f_X_refuseUnlessByte xn p1 p2 z0) (fun r1 z1 =>
  (x_cl (f_B_get xn p1 p2 z1) (fun r3 z3 =>
  (some (Sum.inr r3, z3))))))
abbrev rm_X_found : Room := { frames := 7, cells := 0, slots := 0, locals := 102 }
abbrev rx_X_found : Room := { frames := 7, cells := 1, slots := 6, locals := 102 }
set_option maxHeartbeats 4000000 in
set_option maxRecDepth 100000 in
theorem w_X_found_45 (l : Launch) (G : x_G) {p : Program} {e : Env} {s : State} {m : MethodId} {args : Array Value} {below : List Frame} {meth : Method} {c : Code} (C0 : x_Ctx G p s m args meth c prog_1_method_9_code "ContentLibrary" 3 (some .int)) (r : Int32) (zo : x_St) : ∀ (a1 : Int32) (a2 : Int32) (z0 : x_St), f_X_found_45 (x_n G) a1 a2 z0 = some (Sum.inr r, zo) → ∀ (H : Heap) (locs : List Loc) (ls : Array Slot), va_P (x_D G) vwCl (x_Wd G z0) H → va_D (x_A G) (x_Wd G z0) → va_S (x_A G) s.heap H locs → lv_has ls 3 [(0, .ref (x_ad G 0)), (1, .int a1), (2, .int a2)] → W p l e rm_X_found s m args below meth c H locs 0 0 (MQ below (va_Qi (fun a u => r = a ∧ zo = u) (x_PW G) (x_A G)) args s 0 0 (x_A G)) (F0 m 45 ls []) := by
  obtain ⟨hx, hb, hr, hml, hown, hts, hlocks, hz, hK, hG⟩ := id C0
  intro a1 a2 z0 hf H locs ls hP hD hS hl
  rw [f_X_found_45] at hf
  refine lv_iload_n hx hb d_X_found_45 rfl (lv_at hl 2 rfl) ?_
  refine lv_if_ne (tgt := 58) hx hb d_X_found_46 (by decide) (fun hc1 => ?_) (fun hc1 => ?_)
  · have hf := x_br_f hf hc1
    refine lv_aload_n hx hb d_X_found_58 rfl (lv_at hl 0 rfl) ?_
    refine va_get (D := x_D G) (ci := 0) (v := .ref (x_ad G 109)) (C := "ContentLibrary") (T := x_TX) (N := 9) hx hb hts x_inX hown hK hP 0 (x_lk_X G _) rfl 7 (by decide) (hts _ t_137) (fun _ h9 => h9) rfl d_X_found_59 ?_
    refine lv_iload_n hx hb d_X_found_62 rfl (lv_at hl 1 rfl) ?_
    obtain ⟨hin2, hf⟩ := x_ck_some hf
    refine va_iald hx hb hK hP 109 0 (x_lk_A G _ rfl) rfl hin2 d_X_found_63 ?_
    obtain ⟨rfl, rfl⟩ := x_retr hf
    exact W.iret (v := (z0.1 109 (a1).toNatClampNeg)) hx hb hr (fun t ht hW => ⟨⟨_, _, rfl, ⟨rfl, rfl⟩, x_pw hP hD hK hG hS hz ht hW⟩, hS.F ht⟩) hS.2.2 d_X_found_64
  · have hf := x_br_t hf hc1
    refine lv_aload_n hx hb d_X_found_49 rfl (lv_at hl 0 rfl) ?_
    refine va_get (D := x_D G) (ci := 0) (v := .ref (x_ad G 108)) (C := "ContentLibrary") (T := x_TX) (N := 9) hx hb hts x_inX hown hK hP 0 (x_lk_X G _) rfl 6 (by decide) (hts _ t_136) (fun _ h9 => h9) rfl d_X_found_50 ?_
    refine lv_iload_n hx hb d_X_found_53 rfl (lv_at hl 1 rfl) ?_
    obtain ⟨hin3, hf⟩ := x_ck_some hf
    refine va_iald hx hb hK hP 108 0 (x_lk_A G _ rfl) rfl hin3 d_X_found_54 ?_
    refine lv_goto (tgt := 64) hx hb d_X_found_55 (by decide) ?_
    obtain ⟨rfl, rfl⟩ := x_retr hf
    exact W.iret (v := (z0.1 108 (a1).toNatClampNeg)) hx hb hr (fun t ht hW => ⟨⟨_, _, rfl, ⟨rfl, rfl⟩, x_pw hP hD hK hG hS hz ht hW⟩, hS.F ht⟩) hS.2.2 d_X_found_64
set_option maxHeartbeats 4000000 in
set_option maxRecDepth 100000 in
theorem c_X_found (l : Launch) (G : x_G) (p1 : Int32) (p2 : Int32) (z0 : x_St) (r : Int32) (zo : x_St) (hf : f_X_found (x_n G) p1 p2 z0 = some (Sum.inr r, zo)) : Met l (⟨"ContentLibrary", "found", "(II)I"⟩ : MethodName) (x_ws (⟨"ContentLibrary", "found", "(II)I"⟩ : MethodName) prog_1_method_9_code 3 (some .int)) rm_X_found (va_Pc [.ref (x_ad G 0), .int p1, .int p2] (x_PW G z0)) (va_Qi (fun a u => r = a ∧ zo = u) (x_PW G) (x_A G)) 0 0 (x_A G) := by
  refine Met.ofW (cc := prog_1_method_9_code) (maxL := 3) (ret := (some .int)) (by decide) rfl ?_
  intro p e s m args below meth c s₁ B hml hv
  obtain ⟨rfl, hz, hP, hD, hK, hG⟩ := hv
  have C0 : x_Ctx G p s m _ meth c prog_1_method_9_code "ContentLibrary" 3 (some .int) := ⟨B.exec, B.bytes, B.returns, hml, findClass_of_methodNamed B.named, fun w h => atoms_spec (ws := (x_ws (⟨"ContentLibrary", "found", "(II)I"⟩ : MethodName) prog_1_method_9_code 3 (some .int))) B.pre w (List.mem_cons_of_mem _ h), B.notSynchronized, hz, hK, hG⟩
  obtain ⟨hx, hb, hr, hml, hown, hts, hlocks, hz, hK, hG⟩ := id C0
  have hS : va_S (x_A G) s.heap s.heap [] := va_S.rf
  have hl := lv_entry ([.ref (x_ad G 0), .int p1, .int p2]) (n := 3) (Nat.le_of_ble_eq_true rfl)
  rw [lg_entry_eq]
  generalize (lg_sl ([.ref (x_ad G 0), .int p1, .int p2]) ++ List.replicate (3 - (lg_sl ([.ref (x_ad G 0), .int p1, .int p2])).length) Slot.unset).toArray = ls at hl ⊢
  have hl : lv_has ls 3 [(0, .ref (x_ad G 0)), (1, .int p1), (2, .int p2)] := hl
  rw [f_X_found] at hf
  refine lv_aload_n hx hb d_X_found_0 rfl (lv_at hl 0 rfl) ?_
  obtain ⟨r4, z4, hq5, hf⟩ := x_clx_r hf
  refine va_callv (va_runV (As := []) (rest := []) ⟨hx, hb, hml, hown, hts⟩ (c_X_refuseWhenCut l G z0 r4 z4 hq5) (cwV 0 hts (x_gV t_335 t_337 sel_ContentLibrary_refuseWhenCut t_1 t_338) rfl rfl rfl (by decide +kernel) ⟨Nat.le_of_ble_eq_true rfl, Nat.le_of_ble_eq_true rfl⟩) ⟨x_blind _ _ _, va_recv hK hP (ci := 0) (q0 := 0) rfl (x_lk_X G _), fun U hU hW => ⟨rfl, x_pw hP hD hK hG hS hz hU hW⟩⟩ rfl rfl hl.1 rfl (lv_room (Nat.le_of_ble_eq_true rfl)) d_X_found_1 ⟨Nat.le_of_ble_eq_true rfl, Nat.le_of_ble_eq_true rfl⟩) hS (fun q _ h => h) (fun q h => h) (fun u t H locs ht hvm hw hB _ _ hS => ?_)
  obtain ⟨rfl, rfl⟩ := hw
  obtain ⟨hP, hD⟩ := x_back hB ht
  refine lv_iload_n hx hb d_X_found_4 rfl (lv_at hl 1 rfl) ?_
  refine lv_if_lt (tgt := 16) hx hb d_X_found_5 (by decide) (fun hc6 => ?_) (fun hc6 => ?_)
  · have hf := x_br_t hf hc6
    exact absurd hf x_no_r
  · have hf := x_br_f hf hc6
    refine lv_iload_n hx hb d_X_found_8 rfl (lv_at hl 1 rfl) ?_
    refine lv_aload_n hx hb d_X_found_9 rfl (lv_at hl 0 rfl) ?_
    refine va_get (D := x_D G) (ci := 0) (v := .int (z4.1 0 8)) (C := "ContentLibrary") (T := x_TX) (N := 9) hx hb hts x_inX hown hK hP 0 (x_lk_X G _) rfl 8 (by decide) (hts _ t_138) (fun _ h9 => h9) rfl d_X_found_10 ?_
    refine lv_icmp_lt (tgt := 26) hx hb d_X_found_13 (by decide) (fun hc7 => ?_) (fun hc7 => ?_)
    · have hf := x_br_t hf hc7
      refine lv_iload_n hx hb d_X_found_26 rfl (lv_at hl 2 rfl) ?_
      refine lv_if_eq (tgt := 45) hx hb d_X_found_27 (by decide) (fun hc8 => ?_) (fun hc8 => ?_)
      · have hf := x_br_t hf hc8
        exact w_X_found_45 l G C0 r zo p1 p2 z4 hf _ _ _ hP hD hS (lv_sub hl [0, 1, 2] rfl)
      · have hf := x_br_f hf hc8
        refine lv_iload_n hx hb d_X_found_30 rfl (lv_at hl 2 rfl) ?_
        refine lv_iconst (v := (1 : Int32)) hx hb d_X_found_31 (by decide) ?_
        refine lv_icmp_eq (tgt := 45) hx hb d_X_found_32 (by decide) (fun hc9 => ?_) (fun hc9 => ?_)
        · have hf := x_br_t hf hc9
          exact w_X_found_45 l G C0 r zo p1 p2 z4 hf _ _ _ hP hD hS (lv_sub hl [0, 1, 2] rfl)
        · have hf := x_br_f hf hc9
          exact absurd hf x_no_r
    · have hf := x_br_f hf hc7
      exact absurd hf x_no_r
set_option maxHeartbeats 4000000 in
set_option maxRecDepth 100000 in
theorem w_X_found_45_x (l : Launch) (G : x_G) {p : Program} {e : Env} {s : State} {m : MethodId} {args : Array Value} {below : List Frame} {meth : Method} {c : Code} (C0 : x_Ctx G p s m args meth c prog_1_method_9_code "ContentLibrary" 3 (some .int)) (hl9 : l.stackTraces = false) (hEx : ∀ x ∈ c.exceptionTable.toList, False) (E : String) (zo : x_St) : ∀ (a1 : Int32) (a2 : Int32) (z0 : x_St), f_X_found_45 (x_n G) a1 a2 z0 = some (Sum.inl E, zo) → ∀ (H : Heap) (locs : List Loc) (ls : Array Slot), va_P (x_D G) vwCl (x_Wd G z0) H → va_D (x_A G) (x_Wd G z0) → va_S (x_A G) s.heap H locs → lv_has ls 3 [(0, .ref (x_ad G 0)), (1, .int a1), (2, .int a2)] → W p l e rx_X_found s m args below meth c H locs 0 0 (e_MQ below G E zo s 1 6) (F0 m 45 ls []) := by
  obtain ⟨hx, hb, hr, hml, hown, hts, hlocks, hz, hK, hG⟩ := id C0
  intro a1 a2 z0 hf H locs ls hP hD hS hl
  rw [f_X_found_45] at hf
  refine lv_iload_n hx hb d_X_found_45 rfl (lv_at hl 2 rfl) ?_
  refine lv_if_ne (tgt := 58) hx hb d_X_found_46 (by decide) (fun hc1 => ?_) (fun hc1 => ?_)
  · have hf := x_br_f hf hc1
    refine lv_aload_n hx hb d_X_found_58 rfl (lv_at hl 0 rfl) ?_
    refine va_get (D := x_D G) (ci := 0) (v := .ref (x_ad G 109)) (C := "ContentLibrary") (T := x_TX) (N := 9) hx hb hts x_inX hown hK hP 0 (x_lk_X G _) rfl 7 (by decide) (hts _ t_137) (fun _ h9 => h9) rfl d_X_found_59 ?_
    refine lv_iload_n hx hb d_X_found_62 rfl (lv_at hl 1 rfl) ?_
    obtain ⟨hin2, hf⟩ := x_ck_some hf
    refine va_iald hx hb hK hP 109 0 (x_lk_A G _ rfl) rfl hin2 d_X_found_63 ?_
    exact absurd hf x_no_x
  · have hf := x_br_t hf hc1
    refine lv_aload_n hx hb d_X_found_49 rfl (lv_at hl 0 rfl) ?_
    refine va_get (D := x_D G) (ci := 0) (v := .ref (x_ad G 108)) (C := "ContentLibrary") (T := x_TX) (N := 9) hx hb hts x_inX hown hK hP 0 (x_lk_X G _) rfl 6 (by decide) (hts _ t_136) (fun _ h9 => h9) rfl d_X_found_50 ?_
    refine lv_iload_n hx hb d_X_found_53 rfl (lv_at hl 1 rfl) ?_
    obtain ⟨hin3, hf⟩ := x_ck_some hf
    refine va_iald hx hb hK hP 108 0 (x_lk_A G _ rfl) rfl hin3 d_X_found_54 ?_
    refine lv_goto (tgt := 64) hx hb d_X_found_55 (by decide) ?_
    exact absurd hf x_no_x
set_option maxHeartbeats 4000000 in
set_option maxRecDepth 100000 in
theorem c_X_found_x (l : Launch) (G : x_G) (hl9 : l.stackTraces = false) (p1 : Int32) (p2 : Int32) (z0 : x_St) (E : String) (zo : x_St) (hf : f_X_found (x_n G) p1 p2 z0 = some (Sum.inl E, zo)) : e_Met l G (⟨"ContentLibrary", "found", "(II)I"⟩ : MethodName) (x_ws (⟨"ContentLibrary", "found", "(II)I"⟩ : MethodName) prog_1_method_9_code 3 (some .int)) rx_X_found (va_Pc [.ref (x_ad G 0), .int p1, .int p2] (x_PW G z0)) E zo 1 6 := by
  refine e_ofW (cc := prog_1_method_9_code) (maxL := 3) (ret := (some .int)) (by decide) rfl ?_
  intro p e s m args below meth c s₁ B hml hEx hv
  obtain ⟨rfl, hz, hP, hD, hK, hG⟩ := hv
  have C0 : x_Ctx G p s m _ meth c prog_1_method_9_code "ContentLibrary" 3 (some .int) := ⟨B.exec, B.bytes, B.returns, hml, findClass_of_methodNamed B.named, fun w h => atoms_spec (ws := (x_ws (⟨"ContentLibrary", "found", "(II)I"⟩ : MethodName) prog_1_method_9_code 3 (some .int))) B.pre w (List.mem_cons_of_mem _ h), B.notSynchronized, hz, hK, hG⟩
  obtain ⟨hx, hb, hr, hml, hown, hts, hlocks, hz, hK, hG⟩ := id C0
  have hS : va_S (x_A G) s.heap s.heap [] := va_S.rf
  have hl := lv_entry ([.ref (x_ad G 0), .int p1, .int p2]) (n := 3) (Nat.le_of_ble_eq_true rfl)
  rw [lg_entry_eq]
  generalize (lg_sl ([.ref (x_ad G 0), .int p1, .int p2]) ++ List.replicate (3 - (lg_sl ([.ref (x_ad G 0), .int p1, .int p2])).length) Slot.unset).toArray = ls at hl ⊢
  have hl : lv_has ls 3 [(0, .ref (x_ad G 0)), (1, .int p1), (2, .int p2)] := hl
  rw [f_X_found] at hf
  refine lv_aload_n hx hb d_X_found_0 rfl (lv_at hl 0 rfl) ?_
  rcases x_clx_x hf with hq5 | ⟨r4, z4, hq5, hf⟩
  · exact e_callV (As := []) (rest := []) ⟨hx, hb, hml, hown, hts⟩ (c_X_refuseWhenCut_x l G hl9 z0 E zo hq5) (cwV 0 hts (x_gV t_335 t_337 sel_ContentLibrary_refuseWhenCut t_1 t_338) rfl rfl rfl (by decide +kernel) ⟨Nat.le_of_ble_eq_true rfl, Nat.le_of_ble_eq_true rfl⟩) ⟨x_blind _ _ _, va_recv hK hP (ci := 0) (q0 := 0) rfl (x_lk_X G _), fun U hU hW => ⟨rfl, x_pw hP hD hK hG hS hz hU hW⟩⟩ rfl hl.1 rfl (lv_room (Nat.le_of_ble_eq_true rfl)) d_X_found_1 ⟨Nat.le_of_ble_eq_true rfl, Nat.le_of_ble_eq_true rfl⟩ hz hS (fun q ce H locs hP hD hS hce hcv hcl => e_out (fun x hx => (hEx x hx).elim) hlocks hce hcv hcl hS (fun t ht hW => x_pw hP hD hK hG hS hz ht hW) (Nat.le_of_ble_eq_true rfl) (Nat.le_of_ble_eq_true rfl))
  refine va_callv (va_runV (As := []) (rest := []) ⟨hx, hb, hml, hown, hts⟩ (c_X_refuseWhenCut l G z0 r4 z4 hq5) (cwV 0 hts (x_gV t_335 t_337 sel_ContentLibrary_refuseWhenCut t_1 t_338) rfl rfl rfl (by decide +kernel) ⟨Nat.le_of_ble_eq_true rfl, Nat.le_of_ble_eq_true rfl⟩) ⟨x_blind _ _ _, va_recv hK hP (ci := 0) (q0 := 0) rfl (x_lk_X G _), fun U hU hW => ⟨rfl, x_pw hP hD hK hG hS hz hU hW⟩⟩ rfl rfl hl.1 rfl (lv_room (Nat.le_of_ble_eq_true rfl)) d_X_found_1 ⟨Nat.le_of_ble_eq_true rfl, Nat.le_of_ble_eq_true rfl⟩) hS (fun q _ h => h) (fun q h => h) (fun u t H locs ht hvm hw hB _ _ hS => ?_)
  obtain ⟨rfl, rfl⟩ := hw
  obtain ⟨hP, hD⟩ := x_back hB ht
  refine lv_iload_n hx hb d_X_found_4 rfl (lv_at hl 1 rfl) ?_
  refine lv_if_lt (tgt := 16) hx hb d_X_found_5 (by decide) (fun hc6 => ?_) (fun hc6 => ?_)
  · have hf := x_br_t hf hc6
    obtain ⟨rfl, rfl⟩ := x_retx hf
    exact e_throw (text := "nothing was found at that place") (is := 188) hx hb hl9 hown (by decide +kernel) (by decide) (by decide +kernel) hts t_457 t_14 at_149_IndexOutOfBoundsException hG hS (hl.1.trans hml.symm) d_X_found_16 d_X_found_19 d_X_found_20 d_X_found_22 d_X_found_25 hEx (Nat.le_of_ble_eq_true rfl) (Nat.le_of_ble_eq_true rfl) (Nat.le_of_ble_eq_true rfl) (Nat.le_of_ble_eq_true rfl) hlocks (fun t hW hsz hk => x_pwk hP hD hK hG hS hz hsz hk hW) (Nat.le_of_ble_eq_true rfl) (Nat.le_of_ble_eq_true rfl)
  · have hf := x_br_f hf hc6
    refine lv_iload_n hx hb d_X_found_8 rfl (lv_at hl 1 rfl) ?_
    refine lv_aload_n hx hb d_X_found_9 rfl (lv_at hl 0 rfl) ?_
    refine va_get (D := x_D G) (ci := 0) (v := .int (z4.1 0 8)) (C := "ContentLibrary") (T := x_TX) (N := 9) hx hb hts x_inX hown hK hP 0 (x_lk_X G _) rfl 8 (by decide) (hts _ t_138) (fun _ h9 => h9) rfl d_X_found_10 ?_
    refine lv_icmp_lt (tgt := 26) hx hb d_X_found_13 (by decide) (fun hc7 => ?_) (fun hc7 => ?_)
    · have hf := x_br_t hf hc7
      refine lv_iload_n hx hb d_X_found_26 rfl (lv_at hl 2 rfl) ?_
      refine lv_if_eq (tgt := 45) hx hb d_X_found_27 (by decide) (fun hc8 => ?_) (fun hc8 => ?_)
      · have hf := x_br_t hf hc8
        exact w_X_found_45_x l G C0 hl9 hEx E zo p1 p2 z4 hf _ _ _ hP hD hS (lv_sub hl [0, 1, 2] rfl)
      · have hf := x_br_f hf hc8
        refine lv_iload_n hx hb d_X_found_30 rfl (lv_at hl 2 rfl) ?_
        refine lv_iconst (v := (1 : Int32)) hx hb d_X_found_31 (by decide) ?_
        refine lv_icmp_eq (tgt := 45) hx hb d_X_found_32 (by decide) (fun hc9 => ?_) (fun hc9 => ?_)
        · have hf := x_br_t hf hc9
          exact w_X_found_45_x l G C0 hl9 hEx E zo p1 p2 z4 hf _ _ _ hP hD hS (lv_sub hl [0, 1, 2] rfl)
        · have hf := x_br_f hf hc9
          obtain ⟨rfl, rfl⟩ := x_retx hf
          exact e_throw (text := "of what was found, 0 and 1 are told") (is := 190) hx hb hl9 hown (by decide +kernel) (by decide) (by decide +kernel) hts t_409 t_12 at_77_IllegalArgumentException hG hS (hl.1.trans hml.symm) d_X_found_35 d_X_found_38 d_X_found_39 d_X_found_41 d_X_found_44 hEx (Nat.le_of_ble_eq_true rfl) (Nat.le_of_ble_eq_true rfl) (Nat.le_of_ble_eq_true rfl) (Nat.le_of_ble_eq_true rfl) hlocks (fun t hW hsz hk => x_pwk hP hD hK hG hS hz hsz hk hW) (Nat.le_of_ble_eq_true rfl) (Nat.le_of_ble_eq_true rfl)
    · have hf := x_br_f hf hc7
      obtain ⟨rfl, rfl⟩ := x_retx hf
      exact e_throw (text := "nothing was found at that place") (is := 188) hx hb hl9 hown (by decide +kernel) (by decide) (by decide +kernel) hts t_457 t_14 at_149_IndexOutOfBoundsException hG hS (hl.1.trans hml.symm) d_X_found_16 d_X_found_19 d_X_found_20 d_X_found_22 d_X_found_25 hEx (Nat.le_of_ble_eq_true rfl) (Nat.le_of_ble_eq_true rfl) (Nat.le_of_ble_eq_true rfl) (Nat.le_of_ble_eq_true rfl) hlocks (fun t hW hsz hk => x_pwk hP hD hK hG hS hz hsz hk hW) (Nat.le_of_ble_eq_true rfl) (Nat.le_of_ble_eq_true rfl)
abbrev rm_X_drop : Room := { frames := 7, cells := 0, slots := 0, locals := 103 }
abbrev rx_X_drop : Room := { frames := 7, cells := 1, slots := 6, locals := 103 }
set_option maxHeartbeats 4000000 in
set_option maxRecDepth 100000 in
theorem w_X_drop_64 (l : Launch) (G : x_G) {p : Program} {e : Env} {s : State} {m : MethodId} {args : Array Value} {below : List Frame} {meth : Method} {c : Code} (C0 : x_Ctx G p s m args meth c prog_1_method_10_code "ContentLibrary" 5 (some .int)) (r : Int32) (zo : x_St) : ∀ (a2 : Nat) (ha2 : x_isK a2 = true) (a3 : Int32) (z0 : x_St), f_X_drop_64 (x_n G) a2 a3 z0 = some (Sum.inr r, zo) → ∀ (H : Heap) (locs : List Loc) (ls : Array Slot), va_P (x_D G) vwCl (x_Wd G z0) H → va_D (x_A G) (x_Wd G z0) → va_S (x_A G) s.heap H locs → lv_has ls 5 [(0, .ref (x_ad G 0)), (2, .ref (x_ad G a2)), (3, .int a3)] → W p l e rm_X_drop s m args below meth c H locs 0 0 (MQ below (va_Qi (fun a u => r = a ∧ zo = u) (x_PW G) (x_A G)) args s 0 0 (x_A G)) (F0 m 64 ls []) := by
  obtain ⟨hx, hb, hr, hml, hown, hts, hlocks, hz, hK, hG⟩ := id C0
  intro a2 ha2 a3 z0 hf H locs ls hP hD hS hl
  rw [f_X_drop_64] at hf
  refine lv_iload_n hx hb d_X_drop_64 rfl (lv_at hl 2 rfl) ?_
  refine lv_if_ne (tgt := 73) hx hb d_X_drop_65 (by decide) (fun hc1 => ?_) (fun hc1 => ?_)
  · have hf := x_br_f hf hc1
    refine lv_aload_n hx hb d_X_drop_73 rfl (lv_at hl 1 rfl) ?_
    refine lv_iconst (v := (0 : Int32)) hx hb d_X_drop_74 (by decide) ?_
    refine va_put (D := x_D G) (ci := 3) (v := .int (0 : Int32)) (ty := .boolean) (C := "ContentLibrary$Kept") (T := x_TK) (N := 6) hx hb hts x_inK x_tyK x_tyK_ok x_nmK hown hK hP hD hS a2 (x_lk_K G _ ha2) rfl 0 (by decide) (hts _ t_90) (fun _ h9 => h9) rfl (by decide +kernel) rfl rfl (Nat.le_of_ble_eq_true rfl) d_X_drop_75 (fun H locs hP hD hS => ?_)
    rw [x_st_K0 G _ ha2] at hP hD
    refine lv_aload_n hx hb d_X_drop_78 rfl (lv_at hl 0 rfl) ?_
    refine lv_aload_n hx hb d_X_drop_79 rfl (lv_at hl 1 rfl) ?_
    refine lv_iconst (v := (0 : Int32)) hx hb d_X_drop_80 (by decide) ?_
    obtain ⟨r2, z2, hq3, hf⟩ := x_cl_some hf
    refine va_callv (va_runV (As := [.ref (x_ad G a2), .int (0 : Int32)]) (rest := []) ⟨hx, hb, hml, hown, hts⟩ (c_X_setUsed l G a2 ha2 (0 : Int32) (x_put z0 a2 0 (0 : Int32)) r2 z2 hq3) (cwV 2 hts (x_gV t_293 t_295 sel_ContentLibrary_setUsed t_1 t_296) rfl rfl rfl (by decide +kernel) ⟨Nat.le_of_ble_eq_true rfl, Nat.le_of_ble_eq_true rfl⟩) ⟨x_blind _ _ _, va_recv hK hP (ci := 0) (q0 := 0) rfl (x_lk_X G _), fun U hU hW => ⟨rfl, x_pw hP hD hK hG hS hz hU hW⟩⟩ rfl rfl hl.1 rfl (lv_room (Nat.le_of_ble_eq_true rfl)) d_X_drop_81 ⟨Nat.le_of_ble_eq_true rfl, Nat.le_of_ble_eq_true rfl⟩) hS (fun q _ h => h) (fun q h => h) (fun u t H locs ht hvm hw hB _ _ hS => ?_)
    obtain ⟨rfl, rfl⟩ := hw
    obtain ⟨hP, hD⟩ := x_back hB ht
    refine lv_aload_n hx hb d_X_drop_84 rfl (lv_at hl 1 rfl) ?_
    refine va_get (D := x_D G) (ci := 3) (v := .int (z2.1 a2 4)) (C := "ContentLibrary$Kept") (T := x_TK) (N := 6) hx hb hts x_inK hown hK hP a2 (x_lk_K G _ ha2) rfl 4 (by decide) (hts _ t_98) (fun _ h9 => h9) rfl d_X_drop_85 ?_
    refine lv_iconst (v := (1 : Int32)) hx hb d_X_drop_88 (by decide) ?_
    refine lv_iadd hx hb d_X_drop_89 ?_
    obtain ⟨rfl, rfl⟩ := x_retr hf
    exact W.iret (v := ((z2.1 a2 4) + (1 : Int32))) hx hb hr (fun t ht hW => ⟨⟨_, _, rfl, ⟨rfl, rfl⟩, x_pw hP hD hK hG hS hz ht hW⟩, hS.F ht⟩) hS.2.2 d_X_drop_90
  · have hf := x_br_t hf hc1
    refine lv_aload_n hx hb d_X_drop_68 rfl (lv_at hl 0 rfl) ?_
    obtain ⟨r4, z4, hq5, hf⟩ := x_cl_some hf
    refine va_calli (va_runV (As := []) (rest := []) ⟨hx, hb, hml, hown, hts⟩ (c_X_afterCut l G z0 r4 z4 hq5) (cwV 0 hts (x_gV t_547 t_549 sel_ContentLibrary_afterCut t_1 t_550) rfl rfl rfl (by decide +kernel) ⟨Nat.le_of_ble_eq_true rfl, Nat.le_of_ble_eq_true rfl⟩) ⟨x_blind _ _ _, va_recv hK hP (ci := 0) (q0 := 0) rfl (x_lk_X G _), fun U hU hW => ⟨rfl, x_pw hP hD hK hG hS hz hU hW⟩⟩ rfl rfl hl.1 rfl (lv_room (Nat.le_of_ble_eq_true rfl)) d_X_drop_69 ⟨Nat.le_of_ble_eq_true rfl, Nat.le_of_ble_eq_true rfl⟩) hS (fun q _ h => h) (fun q h => h) (fun ra u t H locs ht hvm hw hB _ _ hS => ?_)
    obtain ⟨rfl, rfl⟩ := hw
    obtain ⟨hP, hD⟩ := x_back hB ht
    obtain ⟨rfl, rfl⟩ := x_retr hf
    exact W.iret (v := r4) hx hb hr (fun t ht hW => ⟨⟨_, _, rfl, ⟨rfl, rfl⟩, x_pw hP hD hK hG hS hz ht hW⟩, hS.F ht⟩) hS.2.2 d_X_drop_72
set_option maxHeartbeats 4000000 in
set_option maxRecDepth 100000 in
theorem w_X_drop_30 (l : Launch) (G : x_G) {p : Program} {e : Env} {s : State} {m : MethodId} {args : Array Value} {below : List Frame} {meth : Method} {c : Code} (C0 : x_Ctx G p s m args meth c prog_1_method_10_code "ContentLibrary" 5 (some .int)) (r : Int32) (zo : x_St) : ∀ (fu : Nat), ∀ (a2 : Nat) (ha2 : x_isK a2 = true) (a3 : Int32) (a4 : Int32) (z0 : x_St), f_X_drop_30 (x_n G) fu a2 a3 a4 z0 = some (Sum.inr r, zo) → ∀ (H : Heap) (locs : List Loc) (ls : Array Slot), va_P (x_D G) vwCl (x_Wd G z0) H → va_D (x_A G) (x_Wd G z0) → va_S (x_A G) s.heap H locs → lv_has ls 5 [(0, .ref (x_ad G 0)), (2, .ref (x_ad G a2)), (3, .int a3), (4, .int a4)] → W p l e rm_X_drop s m args below meth c H locs 0 0 (MQ below (va_Qi (fun a u => r = a ∧ zo = u) (x_PW G) (x_A G)) args s 0 0 (x_A G)) (F0 m 30 ls []) := by
  obtain ⟨hx, hb, hr, hml, hown, hts, hlocks, hz, hK, hG⟩ := id C0
  intro fu
  induction fu with
  | zero =>
    intro a2 ha2 a3 a4 z0 hf
    rw [f_X_drop_30] at hf
    cases hf
  | succ fu ih =>
    intro a2 ha2 a3 a4 z0 hf H locs ls hP hD hS hl
    rw [f_X_drop_30] at hf
    refine lv_iload hx hb d_X_drop_30 (lv_at hl 3 rfl) ?_
    refine lv_aload_n hx hb d_X_drop_32 rfl (lv_at hl 1 rfl) ?_
    refine va_get (D := x_D G) (ci := 3) (v := .int (z0.1 a2 4)) (C := "ContentLibrary$Kept") (T := x_TK) (N := 6) hx hb hts x_inK hown hK hP a2 (x_lk_K G _ ha2) rfl 4 (by decide) (hts _ t_98) (fun _ h9 => h9) rfl d_X_drop_33 ?_
    refine lv_icmp_ge (tgt := 64) hx hb d_X_drop_36 (by decide) (fun hc6 => ?_) (fun hc6 => ?_)
    · have hf := x_br_t hf hc6
      exact w_X_drop_64 l G C0 r zo a2 ha2 a3 z0 hf _ _ _ hP hD hS (lv_sub hl [0, 1, 2] rfl)
    · have hf := x_br_f hf hc6
      refine lv_iload_n hx hb d_X_drop_39 rfl (lv_at hl 2 rfl) ?_
      refine lv_if_eq (tgt := 64) hx hb d_X_drop_40 (by decide) (fun hc7 => ?_) (fun hc7 => ?_)
      · have hf := x_br_t hf hc7
        exact w_X_drop_64 l G C0 r zo a2 ha2 a3 z0 hf _ _ _ hP hD hS (lv_sub hl [0, 1, 2] rfl)
      · have hf := x_br_f hf hc7
        refine lv_aload_n hx hb d_X_drop_43 rfl (lv_at hl 0 rfl) ?_
        refine va_get (D := x_D G) (ci := 0) (v := .ref (x_ad G 1)) (C := "ContentLibrary") (T := x_TX) (N := 9) hx hb hts x_inX hown hK hP 0 (x_lk_X G _) rfl 0 (by decide) (hts _ t_130) (fun _ h9 => h9) rfl d_X_drop_44 ?_
        refine lv_aload_n hx hb d_X_drop_47 rfl (lv_at hl 1 rfl) ?_
        refine va_get (D := x_D G) (ci := 3) (v := .ref (x_ad G (a2 + 4))) (C := "ContentLibrary$Kept") (T := x_TK) (N := 6) hx hb hts x_inK hown hK hP a2 (x_lk_K G _ ha2) rfl 5 (by decide) (hts _ t_100) (fun _ h9 => h9) rfl d_X_drop_48 ?_
        refine lv_iload hx hb d_X_drop_51 (lv_at hl 3 rfl) ?_
        obtain ⟨hin8, hf⟩ := x_ck_some hf
        refine va_iald hx hb hK hP (a2 + 4) 0 (x_lk_A G _ (x_K_A4 ha2)) rfl hin8 d_X_drop_53 ?_
        obtain ⟨r9, z9, hq10, hf⟩ := x_cl_some hf
        refine va_calli (va_runV (As := [.int (z0.1 (a2 + 4) (a4).toNatClampNeg)]) (rest := []) ⟨hx, hb, hml, hown, hts⟩ (c_B_wipe l G (z0.1 (a2 + 4) (a4).toNatClampNeg) z0 r9 z9 hq10) (cwV 1 hts (x_gV t_513 t_514 t_515 t_3 t_516) rfl rfl rfl (by decide +kernel) ⟨Nat.le_of_ble_eq_true rfl, Nat.le_of_ble_eq_true rfl⟩) ⟨x_blind _ _ _, va_recv hK hP (ci := 1) (q0 := 1) rfl (x_lk_B G _), fun U hU hW => ⟨rfl, x_pw hP hD hK hG hS hz hU hW⟩⟩ rfl rfl hl.1 rfl (lv_room (Nat.le_of_ble_eq_true rfl)) d_X_drop_54 ⟨Nat.le_of_ble_eq_true rfl, Nat.le_of_ble_eq_true rfl⟩) hS (fun q _ h => h) (fun q h => h) (fun ra u t H locs ht hvm hw hB _ _ hS => ?_)
        obtain ⟨rfl, rfl⟩ := hw
        obtain ⟨hP, hD⟩ := x_back hB ht
        refine lv_istore_n (lv' := [(3, .int r9), (0, .ref (x_ad G 0)), (2, .ref (x_ad G a2)), (4, .int a4)]) hx hb d_X_drop_57 rfl hl (by decide) rfl (fun ls hl => ?_)
        refine lv_iinc (v := (a4 + (1 : Int32))) (lv' := [(4, .int (a4 + (1 : Int32))), (3, .int r9), (0, .ref (x_ad G 0)), (2, .ref (x_ad G a2))]) hx hb d_X_drop_58 hl (k := 3) rfl rfl (by decide) rfl (fun ls hl => ?_)
        refine lv_goto (tgt := 30) hx hb d_X_drop_61 (by decide) ?_
        exact ih a2 ha2 r9 (a4 + (1 : Int32)) z9 hf _ _ _ hP hD hS (lv_sub hl [2, 3, 1, 0] rfl)
set_option maxHeartbeats 4000000 in
set_option maxRecDepth 100000 in
theorem c_X_drop (l : Launch) (G : x_G) (p1 : Int32) (z0 : x_St) (r : Int32) (zo : x_St) (hf : f_X_drop (x_n G) p1 z0 = some (Sum.inr r, zo)) : Met l (⟨"ContentLibrary", "drop", "(I)I"⟩ : MethodName) (x_ws (⟨"ContentLibrary", "drop", "(I)I"⟩ : MethodName) prog_1_method_10_code 5 (some .int)) rm_X_drop (va_Pc [.ref (x_ad G 0), .int p1] (x_PW G z0)) (va_Qi (fun a u => r = a ∧ zo = u) (x_PW G) (x_A G)) 0 0 (x_A G) := by
  refine Met.ofW (cc := prog_1_method_10_code) (maxL := 5) (ret := (some .int)) (by decide) rfl ?_
  intro p e s m args below meth c s₁ B hml hv
  obtain ⟨rfl, hz, hP, hD, hK, hG⟩ := hv
  have C0 : x_Ctx G p s m _ meth c prog_1_method_10_code "ContentLibrary" 5 (some .int) := ⟨B.exec, B.bytes, B.returns, hml, findClass_of_methodNamed B.named, fun w h => atoms_spec (ws := (x_ws (⟨"ContentLibrary", "drop", "(I)I"⟩ : MethodName) prog_1_method_10_code 5 (some .int))) B.pre w (List.mem_cons_of_mem _ h), B.notSynchronized, hz, hK, hG⟩
  obtain ⟨hx, hb, hr, hml, hown, hts, hlocks, hz, hK, hG⟩ := id C0
  have hS : va_S (x_A G) s.heap s.heap [] := va_S.rf
  have hl := lv_entry ([.ref (x_ad G 0), .int p1]) (n := 5) (Nat.le_of_ble_eq_true rfl)
  rw [lg_entry_eq]
  generalize (lg_sl ([.ref (x_ad G 0), .int p1]) ++ List.replicate (5 - (lg_sl ([.ref (x_ad G 0), .int p1])).length) Slot.unset).toArray = ls at hl ⊢
  have hl : lv_has ls 5 [(0, .ref (x_ad G 0)), (1, .int p1)] := hl
  rw [f_X_drop] at hf
  refine lv_aload_n hx hb d_X_drop_0 rfl (lv_at hl 0 rfl) ?_
  obtain ⟨r11, z11, hq12, hf⟩ := x_clx_r hf
  refine va_callv (va_runV (As := []) (rest := []) ⟨hx, hb, hml, hown, hts⟩ (c_X_refuseWhenCut l G z0 r11 z11 hq12) (cwV 0 hts (x_gV t_335 t_337 sel_ContentLibrary_refuseWhenCut t_1 t_338) rfl rfl rfl (by decide +kernel) ⟨Nat.le_of_ble_eq_true rfl, Nat.le_of_ble_eq_true rfl⟩) ⟨x_blind _ _ _, va_recv hK hP (ci := 0) (q0 := 0) rfl (x_lk_X G _), fun U hU hW => ⟨rfl, x_pw hP hD hK hG hS hz hU hW⟩⟩ rfl rfl hl.1 rfl (lv_room (Nat.le_of_ble_eq_true rfl)) d_X_drop_1 ⟨Nat.le_of_ble_eq_true rfl, Nat.le_of_ble_eq_true rfl⟩) hS (fun q _ h => h) (fun q h => h) (fun u t H locs ht hvm hw hB _ _ hS => ?_)
  obtain ⟨rfl, rfl⟩ := hw
  obtain ⟨hP, hD⟩ := x_back hB ht
  refine lv_aload_n hx hb d_X_drop_4 rfl (lv_at hl 0 rfl) ?_
  refine lv_iload_n hx hb d_X_drop_5 rfl (lv_at hl 1 rfl) ?_
  obtain ⟨r13, z13, hq14, hf⟩ := x_clx_r hf
  refine va_callr (va_runV (As := [.int p1]) (rest := []) ⟨hx, hb, hml, hown, hts⟩ (c_X_keptAt l G p1 z11 r13 z13 hq14) (cwV 1 hts (x_gV t_558 t_560 sel_ContentLibrary_keptAt t_1 t_561) rfl rfl rfl (by decide +kernel) ⟨Nat.le_of_ble_eq_true rfl, Nat.le_of_ble_eq_true rfl⟩) ⟨x_blind _ _ _, va_recv hK hP (ci := 0) (q0 := 0) rfl (x_lk_X G _), fun U hU hW => ⟨rfl, x_pw hP hD hK hG hS hz hU hW⟩⟩ rfl rfl hl.1 rfl (lv_room (Nat.le_of_ble_eq_true rfl)) d_X_drop_6 ⟨Nat.le_of_ble_eq_true rfl, Nat.le_of_ble_eq_true rfl⟩) hS (fun q _ h => h) (fun q h => h) (fun u ra t H locs ht hvm hw hB _ _ hS => ?_)
  obtain rfl := hw
  obtain ⟨_, rfl, hr13, rfl, hB⟩ := hB
  obtain ⟨hP, hD⟩ := x_back hB ht
  refine lv_astore_n (lv' := [(2, .ref (x_ad G r13)), (0, .ref (x_ad G 0)), (1, .int p1)]) hx hb d_X_drop_9 rfl hl (by decide) rfl (fun ls hl => ?_)
  refine lv_aload_n hx hb d_X_drop_10 rfl (lv_at hl 1 rfl) ?_
  refine va_get (D := x_D G) (ci := 0) (v := .ref (x_ad G 1)) (C := "ContentLibrary") (T := x_TX) (N := 9) hx hb hts x_inX hown hK hP 0 (x_lk_X G _) rfl 0 (by decide) (hts _ t_130) (fun _ h9 => h9) rfl d_X_drop_11 ?_
  refine lv_aload_n hx hb d_X_drop_14 rfl (lv_at hl 0 rfl) ?_
  refine va_get (D := x_D G) (ci := 3) (v := .ref (x_ad G (r13 + 4))) (C := "ContentLibrary$Kept") (T := x_TK) (N := 6) hx hb hts x_inK hown hK hP r13 (x_lk_K G _ hr13) rfl 5 (by decide) (hts _ t_100) (fun _ h9 => h9) rfl d_X_drop_15 ?_
  refine lv_aload_n hx hb d_X_drop_18 rfl (lv_at hl 0 rfl) ?_
  refine va_get (D := x_D G) (ci := 3) (v := .int (z13.1 r13 4)) (C := "ContentLibrary$Kept") (T := x_TK) (N := 6) hx hb hts x_inK hown hK hP r13 (x_lk_K G _ hr13) rfl 4 (by decide) (hts _ t_98) (fun _ h9 => h9) rfl d_X_drop_19 ?_
  obtain ⟨hin15, hf⟩ := x_ck_some hf
  refine va_iald hx hb hK hP (r13 + 4) 0 (x_lk_A G _ (x_K_A4 hr13)) rfl hin15 d_X_drop_22 ?_
  obtain ⟨r16, z16, hq17, hf⟩ := x_cl_some hf
  refine va_calli (va_runV (As := [.int (z13.1 (r13 + 4) ((z13.1 r13 4)).toNatClampNeg)]) (rest := []) ⟨hx, hb, hml, hown, hts⟩ (c_B_wipe l G (z13.1 (r13 + 4) ((z13.1 r13 4)).toNatClampNeg) z13 r16 z16 hq17) (cwV 1 hts (x_gV t_513 t_514 t_515 t_3 t_516) rfl rfl rfl (by decide +kernel) ⟨Nat.le_of_ble_eq_true rfl, Nat.le_of_ble_eq_true rfl⟩) ⟨x_blind _ _ _, va_recv hK hP (ci := 1) (q0 := 1) rfl (x_lk_B G _), fun U hU hW => ⟨rfl, x_pw hP hD hK hG hS hz hU hW⟩⟩ rfl rfl hl.1 rfl (lv_room (Nat.le_of_ble_eq_true rfl)) d_X_drop_23 ⟨Nat.le_of_ble_eq_true rfl, Nat.le_of_ble_eq_true rfl⟩) hS (fun q _ h => h) (fun q h => h) (fun ra u t H locs ht hvm hw hB _ _ hS => ?_)
  obtain ⟨rfl, rfl⟩ := hw
  obtain ⟨hP, hD⟩ := x_back hB ht
  refine lv_istore_n (lv' := [(3, .int r16), (2, .ref (x_ad G r13)), (0, .ref (x_ad G 0)), (1, .int p1)]) hx hb d_X_drop_26 rfl hl (by decide) rfl (fun ls hl => ?_)
  refine lv_iconst (v := (0 : Int32)) hx hb d_X_drop_27 (by decide) ?_
  refine lv_istore (lv' := [(4, .int (0 : Int32)), (3, .int r16), (2, .ref (x_ad G r13)), (0, .ref (x_ad G 0)), (1, .int p1)]) hx hb d_X_drop_28 hl (by decide) rfl (fun ls hl => ?_)
  exact w_X_drop_30 l G C0 r zo x_FU r13 hr13 r16 (0 : Int32) z16 hf _ _ _ hP hD hS (lv_sub hl [3, 2, 1, 0] rfl)
set_option maxHeartbeats 4000000 in
set_option maxRecDepth 100000 in
theorem w_X_drop_64_x (l : Launch) (G : x_G) {p : Program} {e : Env} {s : State} {m : MethodId} {args : Array Value} {below : List Frame} {meth : Method} {c : Code} (C0 : x_Ctx G p s m args meth c prog_1_method_10_code "ContentLibrary" 5 (some .int)) (hl9 : l.stackTraces = false) (hEx : ∀ x ∈ c.exceptionTable.toList, False) (E : String) (zo : x_St) : ∀ (a2 : Nat) (ha2 : x_isK a2 = true) (a3 : Int32) (z0 : x_St), f_X_drop_64 (x_n G) a2 a3 z0 = some (Sum.inl E, zo) → ∀ (H : Heap) (locs : List Loc) (ls : Array Slot), va_P (x_D G) vwCl (x_Wd G z0) H → va_D (x_A G) (x_Wd G z0) → va_S (x_A G) s.heap H locs → lv_has ls 5 [(0, .ref (x_ad G 0)), (2, .ref (x_ad G a2)), (3, .int a3)] → W p l e rx_X_drop s m args below meth c H locs 0 0 (e_MQ below G E zo s 1 6) (F0 m 64 ls []) := by
  obtain ⟨hx, hb, hr, hml, hown, hts, hlocks, hz, hK, hG⟩ := id C0
  intro a2 ha2 a3 z0 hf H locs ls hP hD hS hl
  rw [f_X_drop_64] at hf
  refine lv_iload_n hx hb d_X_drop_64 rfl (lv_at hl 2 rfl) ?_
  refine lv_if_ne (tgt := 73) hx hb d_X_drop_65 (by decide) (fun hc1 => ?_) (fun hc1 => ?_)
  · have hf := x_br_f hf hc1
    refine lv_aload_n hx hb d_X_drop_73 rfl (lv_at hl 1 rfl) ?_
    refine lv_iconst (v := (0 : Int32)) hx hb d_X_drop_74 (by decide) ?_
    refine va_put (D := x_D G) (ci := 3) (v := .int (0 : Int32)) (ty := .boolean) (C := "ContentLibrary$Kept") (T := x_TK) (N := 6) hx hb hts x_inK x_tyK x_tyK_ok x_nmK hown hK hP hD hS a2 (x_lk_K G _ ha2) rfl 0 (by decide) (hts _ t_90) (fun _ h9 => h9) rfl (by decide +kernel) rfl rfl (Nat.le_of_ble_eq_true rfl) d_X_drop_75 (fun H locs hP hD hS => ?_)
    rw [x_st_K0 G _ ha2] at hP hD
    refine lv_aload_n hx hb d_X_drop_78 rfl (lv_at hl 0 rfl) ?_
    refine lv_aload_n hx hb d_X_drop_79 rfl (lv_at hl 1 rfl) ?_
    refine lv_iconst (v := (0 : Int32)) hx hb d_X_drop_80 (by decide) ?_
    obtain ⟨r2, z2, hq3, hf⟩ := x_cl_some hf
    refine va_callv (va_runV (As := [.ref (x_ad G a2), .int (0 : Int32)]) (rest := []) ⟨hx, hb, hml, hown, hts⟩ (c_X_setUsed l G a2 ha2 (0 : Int32) (x_put z0 a2 0 (0 : Int32)) r2 z2 hq3) (cwV 2 hts (x_gV t_293 t_295 sel_ContentLibrary_setUsed t_1 t_296) rfl rfl rfl (by decide +kernel) ⟨Nat.le_of_ble_eq_true rfl, Nat.le_of_ble_eq_true rfl⟩) ⟨x_blind _ _ _, va_recv hK hP (ci := 0) (q0 := 0) rfl (x_lk_X G _), fun U hU hW => ⟨rfl, x_pw hP hD hK hG hS hz hU hW⟩⟩ rfl rfl hl.1 rfl (lv_room (Nat.le_of_ble_eq_true rfl)) d_X_drop_81 ⟨Nat.le_of_ble_eq_true rfl, Nat.le_of_ble_eq_true rfl⟩) hS (fun q _ h => h) (fun q h => h) (fun u t H locs ht hvm hw hB _ _ hS => ?_)
    obtain ⟨rfl, rfl⟩ := hw
    obtain ⟨hP, hD⟩ := x_back hB ht
    refine lv_aload_n hx hb d_X_drop_84 rfl (lv_at hl 1 rfl) ?_
    refine va_get (D := x_D G) (ci := 3) (v := .int (z2.1 a2 4)) (C := "ContentLibrary$Kept") (T := x_TK) (N := 6) hx hb hts x_inK hown hK hP a2 (x_lk_K G _ ha2) rfl 4 (by decide) (hts _ t_98) (fun _ h9 => h9) rfl d_X_drop_85 ?_
    refine lv_iconst (v := (1 : Int32)) hx hb d_X_drop_88 (by decide) ?_
    refine lv_iadd hx hb d_X_drop_89 ?_
    exact absurd hf x_no_x
  · have hf := x_br_t hf hc1
    refine lv_aload_n hx hb d_X_drop_68 rfl (lv_at hl 0 rfl) ?_
    obtain ⟨r4, z4, hq5, hf⟩ := x_cl_some hf
    refine va_calli (va_runV (As := []) (rest := []) ⟨hx, hb, hml, hown, hts⟩ (c_X_afterCut l G z0 r4 z4 hq5) (cwV 0 hts (x_gV t_547 t_549 sel_ContentLibrary_afterCut t_1 t_550) rfl rfl rfl (by decide +kernel) ⟨Nat.le_of_ble_eq_true rfl, Nat.le_of_ble_eq_true rfl⟩) ⟨x_blind _ _ _, va_recv hK hP (ci := 0) (q0 := 0) rfl (x_lk_X G _), fun U hU hW => ⟨rfl, x_pw hP hD hK hG hS hz hU hW⟩⟩ rfl rfl hl.1 rfl (lv_room (Nat.le_of_ble_eq_true rfl)) d_X_drop_69 ⟨Nat.le_of_ble_eq_true rfl, Nat.le_of_ble_eq_true rfl⟩) hS (fun q _ h => h) (fun q h => h) (fun ra u t H locs ht hvm hw hB _ _ hS => ?_)
    obtain ⟨rfl, rfl⟩ := hw
    obtain ⟨hP, hD⟩ := x_back hB ht
    exact absurd hf x_no_x
set_option maxHeartbeats 4000000 in
set_option maxRecDepth 100000 in
theorem w_X_drop_30_x (l : Launch) (G : x_G) {p : Program} {e : Env} {s : State} {m : MethodId} {args : Array Value} {below : List Frame} {meth : Method} {c : Code} (C0 : x_Ctx G p s m args meth c prog_1_method_10_code "ContentLibrary" 5 (some .int)) (hl9 : l.stackTraces = false) (hEx : ∀ x ∈ c.exceptionTable.toList, False) (E : String) (zo : x_St) : ∀ (fu : Nat), ∀ (a2 : Nat) (ha2 : x_isK a2 = true) (a3 : Int32) (a4 : Int32) (z0 : x_St), f_X_drop_30 (x_n G) fu a2 a3 a4 z0 = some (Sum.inl E, zo) → ∀ (H : Heap) (locs : List Loc) (ls : Array Slot), va_P (x_D G) vwCl (x_Wd G z0) H → va_D (x_A G) (x_Wd G z0) → va_S (x_A G) s.heap H locs → lv_has ls 5 [(0, .ref (x_ad G 0)), (2, .ref (x_ad G a2)), (3, .int a3), (4, .int a4)] → W p l e rx_X_drop s m args below meth c H locs 0 0 (e_MQ below G E zo s 1 6) (F0 m 30 ls []) := by
  obtain ⟨hx, hb, hr, hml, hown, hts, hlocks, hz, hK, hG⟩ := id C0
  intro fu
  induction fu with
  | zero =>
    intro a2 ha2 a3 a4 z0 hf
    rw [f_X_drop_30] at hf
    cases hf
  | succ fu ih =>
    intro a2 ha2 a3 a4 z0 hf H locs ls hP hD hS hl
    rw [f_X_drop_30] at hf
    refine lv_iload hx hb d_X_drop_30 (lv_at hl 3 rfl) ?_
    refine lv_aload_n hx hb d_X_drop_32 rfl (lv_at hl 1 rfl) ?_
    refine va_get (D := x_D G) (ci := 3) (v := .int (z0.1 a2 4)) (C := "ContentLibrary$Kept") (T := x_TK) (N := 6) hx hb hts x_inK hown hK hP a2 (x_lk_K G _ ha2) rfl 4 (by decide) (hts _ t_98) (fun _ h9 => h9) rfl d_X_drop_33 ?_
    refine lv_icmp_ge (tgt := 64) hx hb d_X_drop_36 (by decide) (fun hc6 => ?_) (fun hc6 => ?_)
    · have hf := x_br_t hf hc6
      exact w_X_drop_64_x l G C0 hl9 hEx E zo a2 ha2 a3 z0 hf _ _ _ hP hD hS (lv_sub hl [0, 1, 2] rfl)
    · have hf := x_br_f hf hc6
      refine lv_iload_n hx hb d_X_drop_39 rfl (lv_at hl 2 rfl) ?_
      refine lv_if_eq (tgt := 64) hx hb d_X_drop_40 (by decide) (fun hc7 => ?_) (fun hc7 => ?_)
      · have hf := x_br_t hf hc7
        exact w_X_drop_64_x l G C0 hl9 hEx E zo a2 ha2 a3 z0 hf _ _ _ hP hD hS (lv_sub hl [0, 1, 2] rfl)
      · have hf := x_br_f hf hc7
        refine lv_aload_n hx hb d_X_drop_43 rfl (lv_at hl 0 rfl) ?_
        refine va_get (D := x_D G) (ci := 0) (v := .ref (x_ad G 1)) (C := "ContentLibrary") (T := x_TX) (N := 9) hx hb hts x_inX hown hK hP 0 (x_lk_X G _) rfl 0 (by decide) (hts _ t_130) (fun _ h9 => h9) rfl d_X_drop_44 ?_
        refine lv_aload_n hx hb d_X_drop_47 rfl (lv_at hl 1 rfl) ?_
        refine va_get (D := x_D G) (ci := 3) (v := .ref (x_ad G (a2 + 4))) (C := "ContentLibrary$Kept") (T := x_TK) (N := 6) hx hb hts x_inK hown hK hP a2 (x_lk_K G _ ha2) rfl 5 (by decide) (hts _ t_100) (fun _ h9 => h9) rfl d_X_drop_48 ?_
        refine lv_iload hx hb d_X_drop_51 (lv_at hl 3 rfl) ?_
        obtain ⟨hin8, hf⟩ := x_ck_some hf
        refine va_iald hx hb hK hP (a2 + 4) 0 (x_lk_A G _ (x_K_A4 ha2)) rfl hin8 d_X_drop_53 ?_
        obtain ⟨r9, z9, hq10, hf⟩ := x_cl_some hf
        refine va_calli (va_runV (As := [.int (z0.1 (a2 + 4) (a4).toNatClampNeg)]) (rest := []) ⟨hx, hb, hml, hown, hts⟩ (c_B_wipe l G (z0.1 (a2 + 4) (a4).toNatClampNeg) z0 r9 z9 hq10) (cwV 1 hts (x_gV t_513 t_514 t_515 t_3 t_516) rfl rfl rfl (by decide +kernel) ⟨Nat.le_of_ble_eq_true rfl, Nat.le_of_ble_eq_true rfl⟩) ⟨x_blind _ _ _, va_recv hK hP (ci := 1) (q0 := 1) rfl (x_lk_B G _), fun U hU hW => ⟨rfl, x_pw hP hD hK hG hS hz hU hW⟩⟩ rfl rfl hl.1 rfl (lv_room (Nat.le_of_ble_eq_true rfl)) d_X_drop_54 ⟨Nat.le_of_ble_eq_true rfl, Nat.le_of_ble_eq_true rfl⟩) hS (fun q _ h => h) (fun q h => h) (fun ra u t H locs ht hvm hw hB _ _ hS => ?_)
        obtain ⟨rfl, rfl⟩ := hw
        obtain ⟨hP, hD⟩ := x_back hB ht
        refine lv_istore_n (lv' := [(3, .int r9), (0, .ref (x_ad G 0)), (2, .ref (x_ad G a2)), (4, .int a4)]) hx hb d_X_drop_57 rfl hl (by decide) rfl (fun ls hl => ?_)
        refine lv_iinc (v := (a4 + (1 : Int32))) (lv' := [(4, .int (a4 + (1 : Int32))), (3, .int r9), (0, .ref (x_ad G 0)), (2, .ref (x_ad G a2))]) hx hb d_X_drop_58 hl (k := 3) rfl rfl (by decide) rfl (fun ls hl => ?_)
        refine lv_goto (tgt := 30) hx hb d_X_drop_61 (by decide) ?_
        exact ih a2 ha2 r9 (a4 + (1 : Int32)) z9 hf _ _ _ hP hD hS (lv_sub hl [2, 3, 1, 0] rfl)
set_option maxHeartbeats 4000000 in
set_option maxRecDepth 100000 in
theorem c_X_drop_x (l : Launch) (G : x_G) (hl9 : l.stackTraces = false) (p1 : Int32) (z0 : x_St) (E : String) (zo : x_St) (hf : f_X_drop (x_n G) p1 z0 = some (Sum.inl E, zo)) : e_Met l G (⟨"ContentLibrary", "drop", "(I)I"⟩ : MethodName) (x_ws (⟨"ContentLibrary", "drop", "(I)I"⟩ : MethodName) prog_1_method_10_code 5 (some .int)) rx_X_drop (va_Pc [.ref (x_ad G 0), .int p1] (x_PW G z0)) E zo 1 6 := by
  refine e_ofW (cc := prog_1_method_10_code) (maxL := 5) (ret := (some .int)) (by decide) rfl ?_
  intro p e s m args below meth c s₁ B hml hEx hv
  obtain ⟨rfl, hz, hP, hD, hK, hG⟩ := hv
  have C0 : x_Ctx G p s m _ meth c prog_1_method_10_code "ContentLibrary" 5 (some .int) := ⟨B.exec, B.bytes, B.returns, hml, findClass_of_methodNamed B.named, fun w h => atoms_spec (ws := (x_ws (⟨"ContentLibrary", "drop", "(I)I"⟩ : MethodName) prog_1_method_10_code 5 (some .int))) B.pre w (List.mem_cons_of_mem _ h), B.notSynchronized, hz, hK, hG⟩
  obtain ⟨hx, hb, hr, hml, hown, hts, hlocks, hz, hK, hG⟩ := id C0
  have hS : va_S (x_A G) s.heap s.heap [] := va_S.rf
  have hl := lv_entry ([.ref (x_ad G 0), .int p1]) (n := 5) (Nat.le_of_ble_eq_true rfl)
  rw [lg_entry_eq]
  generalize (lg_sl ([.ref (x_ad G 0), .int p1]) ++ List.replicate (5 - (lg_sl ([.ref (x_ad G 0), .int p1])).length) Slot.unset).toArray = ls at hl ⊢
  have hl : lv_has ls 5 [(0, .ref (x_ad G 0)), (1, .int p1)] := hl
  rw [f_X_drop] at hf
  refine lv_aload_n hx hb d_X_drop_0 rfl (lv_at hl 0 rfl) ?_
  rcases x_clx_x hf with hq12 | ⟨r11, z11, hq12, hf⟩
  · exact e_callV (As := []) (rest := []) ⟨hx, hb, hml, hown, hts⟩ (c_X_refuseWhenCut_x l G hl9 z0 E zo hq12) (cwV 0 hts (x_gV t_335 t_337 sel_ContentLibrary_refuseWhenCut t_1 t_338) rfl rfl rfl (by decide +kernel) ⟨Nat.le_of_ble_eq_true rfl, Nat.le_of_ble_eq_true rfl⟩) ⟨x_blind _ _ _, va_recv hK hP (ci := 0) (q0 := 0) rfl (x_lk_X G _), fun U hU hW => ⟨rfl, x_pw hP hD hK hG hS hz hU hW⟩⟩ rfl hl.1 rfl (lv_room (Nat.le_of_ble_eq_true rfl)) d_X_drop_1 ⟨Nat.le_of_ble_eq_true rfl, Nat.le_of_ble_eq_true rfl⟩ hz hS (fun q ce H locs hP hD hS hce hcv hcl => e_out (fun x hx => (hEx x hx).elim) hlocks hce hcv hcl hS (fun t ht hW => x_pw hP hD hK hG hS hz ht hW) (Nat.le_of_ble_eq_true rfl) (Nat.le_of_ble_eq_true rfl))
  refine va_callv (va_runV (As := []) (rest := []) ⟨hx, hb, hml, hown, hts⟩ (c_X_refuseWhenCut l G z0 r11 z11 hq12) (cwV 0 hts (x_gV t_335 t_337 sel_ContentLibrary_refuseWhenCut t_1 t_338) rfl rfl rfl (by decide +kernel) ⟨Nat.le_of_ble_eq_true rfl, Nat.le_of_ble_eq_true rfl⟩) ⟨x_blind _ _ _, va_recv hK hP (ci := 0) (q0 := 0) rfl (x_lk_X G _), fun U hU hW => ⟨rfl, x_pw hP hD hK hG hS hz hU hW⟩⟩ rfl rfl hl.1 rfl (lv_room (Nat.le_of_ble_eq_true rfl)) d_X_drop_1 ⟨Nat.le_of_ble_eq_true rfl, Nat.le_of_ble_eq_true rfl⟩) hS (fun q _ h => h) (fun q h => h) (fun u t H locs ht hvm hw hB _ _ hS => ?_)
  obtain ⟨rfl, rfl⟩ := hw
  obtain ⟨hP, hD⟩ := x_back hB ht
  refine lv_aload_n hx hb d_X_drop_4 rfl (lv_at hl 0 rfl) ?_
  refine lv_iload_n hx hb d_X_drop_5 rfl (lv_at hl 1 rfl) ?_
  rcases x_clx_x hf with hq14 | ⟨r13, z13, hq14, hf⟩
  · exact e_callV (As := [.int p1]) (rest := []) ⟨hx, hb, hml, hown, hts⟩ (c_X_keptAt_x l G hl9 p1 z11 E zo hq14) (cwV 1 hts (x_gV t_558 t_560 sel_ContentLibrary_keptAt t_1 t_561) rfl rfl rfl (by decide +kernel) ⟨Nat.le_of_ble_eq_true rfl, Nat.le_of_ble_eq_true rfl⟩) ⟨x_blind _ _ _, va_recv hK hP (ci := 0) (q0 := 0) rfl (x_lk_X G _), fun U hU hW => ⟨rfl, x_pw hP hD hK hG hS hz hU hW⟩⟩ rfl hl.1 rfl (lv_room (Nat.le_of_ble_eq_true rfl)) d_X_drop_6 ⟨Nat.le_of_ble_eq_true rfl, Nat.le_of_ble_eq_true rfl⟩ hz hS (fun q ce H locs hP hD hS hce hcv hcl => e_out (fun x hx => (hEx x hx).elim) hlocks hce hcv hcl hS (fun t ht hW => x_pw hP hD hK hG hS hz ht hW) (Nat.le_of_ble_eq_true rfl) (Nat.le_of_ble_eq_true rfl))
  refine va_callr (va_runV (As := [.int p1]) (rest := []) ⟨hx, hb, hml, hown, hts⟩ (c_X_keptAt l G p1 z11 r13 z13 hq14) (cwV 1 hts (x_gV t_558 t_560 sel_ContentLibrary_keptAt t_1 t_561) rfl rfl rfl (by decide +kernel) ⟨Nat.le_of_ble_eq_true rfl, Nat.le_of_ble_eq_true rfl⟩) ⟨x_blind _ _ _, va_recv hK hP (ci := 0) (q0 := 0) rfl (x_lk_X G _), fun U hU hW => ⟨rfl, x_pw hP hD hK hG hS hz hU hW⟩⟩ rfl rfl hl.1 rfl (lv_room (Nat.le_of_ble_eq_true rfl)) d_X_drop_6 ⟨Nat.le_of_ble_eq_true rfl, Nat.le_of_ble_eq_true rfl⟩) hS (fun q _ h => h) (fun q h => h) (fun u ra t H locs ht hvm hw hB _ _ hS => ?_)
  obtain rfl := hw
  obtain ⟨_, rfl, hr13, rfl, hB⟩ := hB
  obtain ⟨hP, hD⟩ := x_back hB ht
  refine lv_astore_n (lv' := [(2, .ref (x_ad G r13)), (0, .ref (x_ad G 0)), (1, .int p1)]) hx hb d_X_drop_9 rfl hl (by decide) rfl (fun ls hl => ?_)
  refine lv_aload_n hx hb d_X_drop_10 rfl (lv_at hl 1 rfl) ?_
  refine va_get (D := x_D G) (ci := 0) (v := .ref (x_ad G 1)) (C := "ContentLibrary") (T := x_TX) (N := 9) hx hb hts x_inX hown hK hP 0 (x_lk_X G _) rfl 0 (by decide) (hts _ t_130) (fun _ h9 => h9) rfl d_X_drop_11 ?_
  refine lv_aload_n hx hb d_X_drop_14 rfl (lv_at hl 0 rfl) ?_
  refine va_get (D := x_D G) (ci := 3) (v := .ref (x_ad G (r13 + 4))) (C := "ContentLibrary$Kept") (T := x_TK) (N := 6) hx hb hts x_inK hown hK hP r13 (x_lk_K G _ hr13) rfl 5 (by decide) (hts _ t_100) (fun _ h9 => h9) rfl d_X_drop_15 ?_
  refine lv_aload_n hx hb d_X_drop_18 rfl (lv_at hl 0 rfl) ?_
  refine va_get (D := x_D G) (ci := 3) (v := .int (z13.1 r13 4)) (C := "ContentLibrary$Kept") (T := x_TK) (N := 6) hx hb hts x_inK hown hK hP r13 (x_lk_K G _ hr13) rfl 4 (by decide) (hts _ t_98) (fun _ h9 => h9) rfl d_X_drop_19 ?_
  obtain ⟨hin15, hf⟩ := x_ck_some hf
  refine va_iald hx hb hK hP (r13 + 4) 0 (x_lk_A G _ (x_K_A4 hr13)) rfl hin15 d_X_drop_22 ?_
  obtain ⟨r16, z16, hq17, hf⟩ := x_cl_some hf
  refine va_calli (va_runV (As := [.int (z13.1 (r13 + 4) ((z13.1 r13 4)).toNatClampNeg)]) (rest := []) ⟨hx, hb, hml, hown, hts⟩ (c_B_wipe l G (z13.1 (r13 + 4) ((z13.1 r13 4)).toNatClampNeg) z13 r16 z16 hq17) (cwV 1 hts (x_gV t_513 t_514 t_515 t_3 t_516) rfl rfl rfl (by decide +kernel) ⟨Nat.le_of_ble_eq_true rfl, Nat.le_of_ble_eq_true rfl⟩) ⟨x_blind _ _ _, va_recv hK hP (ci := 1) (q0 := 1) rfl (x_lk_B G _), fun U hU hW => ⟨rfl, x_pw hP hD hK hG hS hz hU hW⟩⟩ rfl rfl hl.1 rfl (lv_room (Nat.le_of_ble_eq_true rfl)) d_X_drop_23 ⟨Nat.le_of_ble_eq_true rfl, Nat.le_of_ble_eq_true rfl⟩) hS (fun q _ h => h) (fun q h => h) (fun ra u t H locs ht hvm hw hB _ _ hS => ?_)
  obtain ⟨rfl, rfl⟩ := hw
  obtain ⟨hP, hD⟩ := x_back hB ht
  refine lv_istore_n (lv' := [(3, .int r16), (2, .ref (x_ad G r13)), (0, .ref (x_ad G 0)), (1, .int p1)]) hx hb d_X_drop_26 rfl hl (by decide) rfl (fun ls hl => ?_)
  refine lv_iconst (v := (0 : Int32)) hx hb d_X_drop_27 (by decide) ?_
  refine lv_istore (lv' := [(4, .int (0 : Int32)), (3, .int r16), (2, .ref (x_ad G r13)), (0, .ref (x_ad G 0)), (1, .int p1)]) hx hb d_X_drop_28 hl (by decide) rfl (fun ls hl => ?_)
  exact w_X_drop_30_x l G C0 hl9 hEx E zo x_FU r13 hr13 r16 (0 : Int32) z16 hf _ _ _ hP hD hS (lv_sub hl [3, 2, 1, 0] rfl)
abbrev rm_X_sweep : Room := { frames := 7, cells := 0, slots := 0, locals := 102 }
abbrev rx_X_sweep : Room := { frames := 7, cells := 1, slots := 6, locals := 102 }
set_option maxHeartbeats 4000000 in
set_option maxRecDepth 100000 in
theorem c_X_sweep (l : Launch) (G : x_G)  (z0 : x_St) (r : Int32) (zo : x_St) (hf : f_X_sweep (x_n G)  z0 = some (Sum.inr r, zo)) : Met l (⟨"ContentLibrary", "sweep", "()I"⟩ : MethodName) (x_ws (⟨"ContentLibrary", "sweep", "()I"⟩ : MethodName) prog_1_method_11_code 2 (some .int)) rm_X_sweep (va_Pc [.ref (x_ad G 0)] (x_PW G z0)) (va_Qi (fun a u => r = a ∧ zo = u) (x_PW G) (x_A G)) 0 0 (x_A G) := by
  refine Met.ofW (cc := prog_1_method_11_code) (maxL := 2) (ret := (some .int)) (by decide) rfl ?_
  intro p e s m args below meth c s₁ B hml hv
  obtain ⟨rfl, hz, hP, hD, hK, hG⟩ := hv
  have C0 : x_Ctx G p s m _ meth c prog_1_method_11_code "ContentLibrary" 2 (some .int) := ⟨B.exec, B.bytes, B.returns, hml, findClass_of_methodNamed B.named, fun w h => atoms_spec (ws := (x_ws (⟨"ContentLibrary", "sweep", "()I"⟩ : MethodName) prog_1_method_11_code 2 (some .int))) B.pre w (List.mem_cons_of_mem _ h), B.notSynchronized, hz, hK, hG⟩
  obtain ⟨hx, hb, hr, hml, hown, hts, hlocks, hz, hK, hG⟩ := id C0
  have hS : va_S (x_A G) s.heap s.heap [] := va_S.rf
  have hl := lv_entry ([.ref (x_ad G 0)]) (n := 2) (Nat.le_of_ble_eq_true rfl)
  rw [lg_entry_eq]
  generalize (lg_sl ([.ref (x_ad G 0)]) ++ List.replicate (2 - (lg_sl ([.ref (x_ad G 0)])).length) Slot.unset).toArray = ls at hl ⊢
  have hl : lv_has ls 2 [(0, .ref (x_ad G 0))] := hl
  rw [f_X_sweep] at hf
  refine lv_aload_n hx hb d_X_sweep_0 rfl (lv_at hl 0 rfl) ?_
  obtain ⟨r1, z1, hq2, hf⟩ := x_clx_r hf
  refine va_callv (va_runV (As := []) (rest := []) ⟨hx, hb, hml, hown, hts⟩ (c_X_refuseWhenCut l G z0 r1 z1 hq2) (cwV 0 hts (x_gV t_335 t_337 sel_ContentLibrary_refuseWhenCut t_1 t_338) rfl rfl rfl (by decide +kernel) ⟨Nat.le_of_ble_eq_true rfl, Nat.le_of_ble_eq_true rfl⟩) ⟨x_blind _ _ _, va_recv hK hP (ci := 0) (q0 := 0) rfl (x_lk_X G _), fun U hU hW => ⟨rfl, x_pw hP hD hK hG hS hz hU hW⟩⟩ rfl rfl hl.1 rfl (lv_room (Nat.le_of_ble_eq_true rfl)) d_X_sweep_1 ⟨Nat.le_of_ble_eq_true rfl, Nat.le_of_ble_eq_true rfl⟩) hS (fun q _ h => h) (fun q h => h) (fun u t H locs ht hvm hw hB _ _ hS => ?_)
  obtain ⟨rfl, rfl⟩ := hw
  obtain ⟨hP, hD⟩ := x_back hB ht
  refine lv_aload_n hx hb d_X_sweep_4 rfl (lv_at hl 0 rfl) ?_
  refine lv_iconst (v := (-1 : Int32)) hx hb d_X_sweep_5 (by decide) ?_
  obtain ⟨r3, z3, hq4, hf⟩ := x_cl_some hf
  refine va_calli (va_runV (As := [.int (-1 : Int32)]) (rest := []) ⟨hx, hb, hml, hown, hts⟩ (c_X_wipeFreeBlocks l G (-1 : Int32) z1 r3 z3 hq4) (cwV 1 hts (x_gV t_509 t_511 sel_ContentLibrary_wipeFreeBlocks t_1 t_512) rfl rfl rfl (by decide +kernel) ⟨Nat.le_of_ble_eq_true rfl, Nat.le_of_ble_eq_true rfl⟩) ⟨x_blind _ _ _, va_recv hK hP (ci := 0) (q0 := 0) rfl (x_lk_X G _), fun U hU hW => ⟨rfl, x_pw hP hD hK hG hS hz hU hW⟩⟩ rfl rfl hl.1 rfl (lv_room (Nat.le_of_ble_eq_true rfl)) d_X_sweep_6 ⟨Nat.le_of_ble_eq_true rfl, Nat.le_of_ble_eq_true rfl⟩) hS (fun q _ h => h) (fun q h => h) (fun ra u t H locs ht hvm hw hB _ _ hS => ?_)
  obtain ⟨rfl, rfl⟩ := hw
  obtain ⟨hP, hD⟩ := x_back hB ht
  refine lv_istore_n (lv' := [(1, .int r3), (0, .ref (x_ad G 0))]) hx hb d_X_sweep_9 rfl hl (by decide) rfl (fun ls hl => ?_)
  refine lv_iload_n hx hb d_X_sweep_10 rfl (lv_at hl 0 rfl) ?_
  refine lv_bipush (v := (-2 : Int32)) hx hb d_X_sweep_11 (by decide) ?_
  refine lv_icmp_ne (tgt := 23) hx hb d_X_sweep_13 (by decide) (fun hc5 => ?_) (fun hc5 => ?_)
  · have hf := x_br_f hf hc5
    refine lv_iload_n hx hb d_X_sweep_23 rfl (lv_at hl 0 rfl) ?_
    obtain ⟨rfl, rfl⟩ := x_retr hf
    exact W.iret (v := r3) hx hb hr (fun t ht hW => ⟨⟨_, _, rfl, ⟨rfl, rfl⟩, x_pw hP hD hK hG hS hz ht hW⟩, hS.F ht⟩) hS.2.2 d_X_sweep_24
  · have hf := x_br_t hf hc5
    refine lv_aload_n hx hb d_X_sweep_16 rfl (lv_at hl 1 rfl) ?_
    obtain ⟨r6, z6, hq7, hf⟩ := x_cl_some hf
    refine va_calli (va_runV (As := []) (rest := []) ⟨hx, hb, hml, hown, hts⟩ (c_X_afterCut l G z3 r6 z6 hq7) (cwV 0 hts (x_gV t_547 t_549 sel_ContentLibrary_afterCut t_1 t_550) rfl rfl rfl (by decide +kernel) ⟨Nat.le_of_ble_eq_true rfl, Nat.le_of_ble_eq_true rfl⟩) ⟨x_blind _ _ _, va_recv hK hP (ci := 0) (q0 := 0) rfl (x_lk_X G _), fun U hU hW => ⟨rfl, x_pw hP hD hK hG hS hz hU hW⟩⟩ rfl rfl hl.1 rfl (lv_room (Nat.le_of_ble_eq_true rfl)) d_X_sweep_17 ⟨Nat.le_of_ble_eq_true rfl, Nat.le_of_ble_eq_true rfl⟩) hS (fun q _ h => h) (fun q h => h) (fun ra u t H locs ht hvm hw hB _ _ hS => ?_)
    obtain ⟨rfl, rfl⟩ := hw
    obtain ⟨hP, hD⟩ := x_back hB ht
    refine lv_goto (tgt := 24) hx hb d_X_sweep_20 (by decide) ?_
    obtain ⟨rfl, rfl⟩ := x_retr hf
    exact W.iret (v := r6) hx hb hr (fun t ht hW => ⟨⟨_, _, rfl, ⟨rfl, rfl⟩, x_pw hP hD hK hG hS hz ht hW⟩, hS.F ht⟩) hS.2.2 d_X_sweep_24
set_option maxHeartbeats 4000000 in
set_option maxRecDepth 100000 in
theorem c_X_sweep_x (l : Launch) (G : x_G) (hl9 : l.stackTraces = false)  (z0 : x_St) (E : String) (zo : x_St) (hf : f_X_sweep (x_n G)  z0 = some (Sum.inl E, zo)) : e_Met l G (⟨"ContentLibrary", "sweep", "()I"⟩ : MethodName) (x_ws (⟨"ContentLibrary", "sweep", "()I"⟩ : MethodName) prog_1_method_11_code 2 (some .int)) rx_X_sweep (va_Pc [.ref (x_ad G 0)] (x_PW G z0)) E zo 1 6 := by
  refine e_ofW (cc := prog_1_method_11_code) (maxL := 2) (ret := (some .int)) (by decide) rfl ?_
  intro p e s m args below meth c s₁ B hml hEx hv
  obtain ⟨rfl, hz, hP, hD, hK, hG⟩ := hv
  have C0 : x_Ctx G p s m _ meth c prog_1_method_11_code "ContentLibrary" 2 (some .int) := ⟨B.exec, B.bytes, B.returns, hml, findClass_of_methodNamed B.named, fun w h => atoms_spec (ws := (x_ws (⟨"ContentLibrary", "sweep", "()I"⟩ : MethodName) prog_1_method_11_code 2 (some .int))) B.pre w (List.mem_cons_of_mem _ h), B.notSynchronized, hz, hK, hG⟩
  obtain ⟨hx, hb, hr, hml, hown, hts, hlocks, hz, hK, hG⟩ := id C0
  have hS : va_S (x_A G) s.heap s.heap [] := va_S.rf
  have hl := lv_entry ([.ref (x_ad G 0)]) (n := 2) (Nat.le_of_ble_eq_true rfl)
  rw [lg_entry_eq]
  generalize (lg_sl ([.ref (x_ad G 0)]) ++ List.replicate (2 - (lg_sl ([.ref (x_ad G 0)])).length) Slot.unset).toArray = ls at hl ⊢
  have hl : lv_has ls 2 [(0, .ref (x_ad G 0))] := hl
  rw [f_X_sweep] at hf
  refine lv_aload_n hx hb d_X_sweep_0 rfl (lv_at hl 0 rfl) ?_
  rcases x_clx_x hf with hq2 | ⟨r1, z1, hq2, hf⟩
  · exact e_callV (As := []) (rest := []) ⟨hx, hb, hml, hown, hts⟩ (c_X_refuseWhenCut_x l G hl9 z0 E zo hq2) (cwV 0 hts (x_gV t_335 t_337 sel_ContentLibrary_refuseWhenCut t_1 t_338) rfl rfl rfl (by decide +kernel) ⟨Nat.le_of_ble_eq_true rfl, Nat.le_of_ble_eq_true rfl⟩) ⟨x_blind _ _ _, va_recv hK hP (ci := 0) (q0 := 0) rfl (x_lk_X G _), fun U hU hW => ⟨rfl, x_pw hP hD hK hG hS hz hU hW⟩⟩ rfl hl.1 rfl (lv_room (Nat.le_of_ble_eq_true rfl)) d_X_sweep_1 ⟨Nat.le_of_ble_eq_true rfl, Nat.le_of_ble_eq_true rfl⟩ hz hS (fun q ce H locs hP hD hS hce hcv hcl => e_out (fun x hx => (hEx x hx).elim) hlocks hce hcv hcl hS (fun t ht hW => x_pw hP hD hK hG hS hz ht hW) (Nat.le_of_ble_eq_true rfl) (Nat.le_of_ble_eq_true rfl))
  refine va_callv (va_runV (As := []) (rest := []) ⟨hx, hb, hml, hown, hts⟩ (c_X_refuseWhenCut l G z0 r1 z1 hq2) (cwV 0 hts (x_gV t_335 t_337 sel_ContentLibrary_refuseWhenCut t_1 t_338) rfl rfl rfl (by decide +kernel) ⟨Nat.le_of_ble_eq_true rfl, Nat.le_of_ble_eq_true rfl⟩) ⟨x_blind _ _ _, va_recv hK hP (ci := 0) (q0 := 0) rfl (x_lk_X G _), fun U hU hW => ⟨rfl, x_pw hP hD hK hG hS hz hU hW⟩⟩ rfl rfl hl.1 rfl (lv_room (Nat.le_of_ble_eq_true rfl)) d_X_sweep_1 ⟨Nat.le_of_ble_eq_true rfl, Nat.le_of_ble_eq_true rfl⟩) hS (fun q _ h => h) (fun q h => h) (fun u t H locs ht hvm hw hB _ _ hS => ?_)
  obtain ⟨rfl, rfl⟩ := hw
  obtain ⟨hP, hD⟩ := x_back hB ht
  refine lv_aload_n hx hb d_X_sweep_4 rfl (lv_at hl 0 rfl) ?_
  refine lv_iconst (v := (-1 : Int32)) hx hb d_X_sweep_5 (by decide) ?_
  obtain ⟨r3, z3, hq4, hf⟩ := x_cl_some hf
  refine va_calli (va_runV (As := [.int (-1 : Int32)]) (rest := []) ⟨hx, hb, hml, hown, hts⟩ (c_X_wipeFreeBlocks l G (-1 : Int32) z1 r3 z3 hq4) (cwV 1 hts (x_gV t_509 t_511 sel_ContentLibrary_wipeFreeBlocks t_1 t_512) rfl rfl rfl (by decide +kernel) ⟨Nat.le_of_ble_eq_true rfl, Nat.le_of_ble_eq_true rfl⟩) ⟨x_blind _ _ _, va_recv hK hP (ci := 0) (q0 := 0) rfl (x_lk_X G _), fun U hU hW => ⟨rfl, x_pw hP hD hK hG hS hz hU hW⟩⟩ rfl rfl hl.1 rfl (lv_room (Nat.le_of_ble_eq_true rfl)) d_X_sweep_6 ⟨Nat.le_of_ble_eq_true rfl, Nat.le_of_ble_eq_true rfl⟩) hS (fun q _ h => h) (fun q h => h) (fun ra u t H locs ht hvm hw hB _ _ hS => ?_)
  obtain ⟨rfl, rfl⟩ := hw
  obtain ⟨hP, hD⟩ := x_back hB ht
  refine lv_istore_n (lv' := [(1, .int r3), (0, .ref (x_ad G 0))]) hx hb d_X_sweep_9 rfl hl (by decide) rfl (fun ls hl => ?_)
  refine lv_iload_n hx hb d_X_sweep_10 rfl (lv_at hl 0 rfl) ?_
  refine lv_bipush (v := (-2 : Int32)) hx hb d_X_sweep_11 (by decide) ?_
  refine lv_icmp_ne (tgt := 23) hx hb d_X_sweep_13 (by decide) (fun hc5 => ?_) (fun hc5 => ?_)
  · have hf := x_br_f hf hc5
    refine lv_iload_n hx hb d_X_sweep_23 rfl (lv_at hl 0 rfl) ?_
    exact absurd hf x_no_x
  · have hf := x_br_t hf hc5
    refine lv_aload_n hx hb d_X_sweep_16 rfl (lv_at hl 1 rfl) ?_
    obtain ⟨r6, z6, hq7, hf⟩ := x_cl_some hf
    refine va_calli (va_runV (As := []) (rest := []) ⟨hx, hb, hml, hown, hts⟩ (c_X_afterCut l G z3 r6 z6 hq7) (cwV 0 hts (x_gV t_547 t_549 sel_ContentLibrary_afterCut t_1 t_550) rfl rfl rfl (by decide +kernel) ⟨Nat.le_of_ble_eq_true rfl, Nat.le_of_ble_eq_true rfl⟩) ⟨x_blind _ _ _, va_recv hK hP (ci := 0) (q0 := 0) rfl (x_lk_X G _), fun U hU hW => ⟨rfl, x_pw hP hD hK hG hS hz hU hW⟩⟩ rfl rfl hl.1 rfl (lv_room (Nat.le_of_ble_eq_true rfl)) d_X_sweep_17 ⟨Nat.le_of_ble_eq_true rfl, Nat.le_of_ble_eq_true rfl⟩) hS (fun q _ h => h) (fun q h => h) (fun ra u t H locs ht hvm hw hB _ _ hS => ?_)
    obtain ⟨rfl, rfl⟩ := hw
    obtain ⟨hP, hD⟩ := x_back hB ht
    refine lv_goto (tgt := 24) hx hb d_X_sweep_20 (by decide) ?_
    exact absurd hf x_no_x
abbrev rm_X_fuse : Room := { frames := 7, cells := 0, slots := 0, locals := 102 }
abbrev rx_X_fuse : Room := { frames := 7, cells := 1, slots := 6, locals := 102 }
set_option maxHeartbeats 4000000 in
set_option maxRecDepth 100000 in
theorem c_X_fuse (l : Launch) (G : x_G) (p1 : Int32) (z0 : x_St) (r : Int32) (zo : x_St) (hf : f_X_fuse (x_n G) p1 z0 = some (Sum.inr r, zo)) : Met l (⟨"ContentLibrary", "fuse", "(I)I"⟩ : MethodName) (x_ws (⟨"ContentLibrary", "fuse", "(I)I"⟩ : MethodName) prog_1_method_12_code 3 (some .int)) rm_X_fuse (va_Pc [.ref (x_ad G 0), .int p1] (x_PW G z0)) (va_Qi (fun a u => r = a ∧ zo = u) (x_PW G) (x_A G)) 0 0 (x_A G) := by
  refine Met.ofW (cc := prog_1_method_12_code) (maxL := 3) (ret := (some .int)) (by decide) rfl ?_
  intro p e s m args below meth c s₁ B hml hv
  obtain ⟨rfl, hz, hP, hD, hK, hG⟩ := hv
  have C0 : x_Ctx G p s m _ meth c prog_1_method_12_code "ContentLibrary" 3 (some .int) := ⟨B.exec, B.bytes, B.returns, hml, findClass_of_methodNamed B.named, fun w h => atoms_spec (ws := (x_ws (⟨"ContentLibrary", "fuse", "(I)I"⟩ : MethodName) prog_1_method_12_code 3 (some .int))) B.pre w (List.mem_cons_of_mem _ h), B.notSynchronized, hz, hK, hG⟩
  obtain ⟨hx, hb, hr, hml, hown, hts, hlocks, hz, hK, hG⟩ := id C0
  have hS : va_S (x_A G) s.heap s.heap [] := va_S.rf
  have hl := lv_entry ([.ref (x_ad G 0), .int p1]) (n := 3) (Nat.le_of_ble_eq_true rfl)
  rw [lg_entry_eq]
  generalize (lg_sl ([.ref (x_ad G 0), .int p1]) ++ List.replicate (3 - (lg_sl ([.ref (x_ad G 0), .int p1])).length) Slot.unset).toArray = ls at hl ⊢
  have hl : lv_has ls 3 [(0, .ref (x_ad G 0)), (1, .int p1)] := hl
  rw [f_X_fuse] at hf
  refine lv_aload_n hx hb d_X_fuse_0 rfl (lv_at hl 0 rfl) ?_
  obtain ⟨r1, z1, hq2, hf⟩ := x_clx_r hf
  refine va_callv (va_runV (As := []) (rest := []) ⟨hx, hb, hml, hown, hts⟩ (c_X_refuseWhenCut l G z0 r1 z1 hq2) (cwV 0 hts (x_gV t_335 t_337 sel_ContentLibrary_refuseWhenCut t_1 t_338) rfl rfl rfl (by decide +kernel) ⟨Nat.le_of_ble_eq_true rfl, Nat.le_of_ble_eq_true rfl⟩) ⟨x_blind _ _ _, va_recv hK hP (ci := 0) (q0 := 0) rfl (x_lk_X G _), fun U hU hW => ⟨rfl, x_pw hP hD hK hG hS hz hU hW⟩⟩ rfl rfl hl.1 rfl (lv_room (Nat.le_of_ble_eq_true rfl)) d_X_fuse_1 ⟨Nat.le_of_ble_eq_true rfl, Nat.le_of_ble_eq_true rfl⟩) hS (fun q _ h => h) (fun q h => h) (fun u t H locs ht hvm hw hB _ _ hS => ?_)
  obtain ⟨rfl, rfl⟩ := hw
  obtain ⟨hP, hD⟩ := x_back hB ht
  refine lv_iload_n hx hb d_X_fuse_4 rfl (lv_at hl 1 rfl) ?_
  refine lv_iconst (v := (-1 : Int32)) hx hb d_X_fuse_5 (by decide) ?_
  refine lv_icmp_ge (tgt := 19) hx hb d_X_fuse_6 (by decide) (fun hc3 => ?_) (fun hc3 => ?_)
  · have hf := x_br_t hf hc3
    refine lv_aload_n hx hb d_X_fuse_19 rfl (lv_at hl 0 rfl) ?_
    refine va_get (D := x_D G) (ci := 0) (v := .ref (x_ad G 1)) (C := "ContentLibrary") (T := x_TX) (N := 9) hx hb hts x_inX hown hK hP 0 (x_lk_X G _) rfl 0 (by decide) (hts _ t_130) (fun _ h9 => h9) rfl d_X_fuse_20 ?_
    refine va_get (D := x_D G) (ci := 1) (v := .int (z1.1 1 1)) (C := "ContentLibrary$Blocks") (T := x_TB) (N := 5) hx hb hts x_inB hown hK hP 1 (x_lk_B G _) rfl 1 (by decide) (hts _ t_42) (fun _ h9 => h9) rfl d_X_fuse_23 ?_
    refine lv_istore_n (lv' := [(2, .int (z1.1 1 1)), (0, .ref (x_ad G 0)), (1, .int p1)]) hx hb d_X_fuse_26 rfl hl (by decide) rfl (fun ls hl => ?_)
    refine lv_aload_n hx hb d_X_fuse_27 rfl (lv_at hl 1 rfl) ?_
    refine va_get (D := x_D G) (ci := 0) (v := .ref (x_ad G 1)) (C := "ContentLibrary") (T := x_TX) (N := 9) hx hb hts x_inX hown hK hP 0 (x_lk_X G _) rfl 0 (by decide) (hts _ t_130) (fun _ h9 => h9) rfl d_X_fuse_28 ?_
    refine lv_iload_n hx hb d_X_fuse_31 rfl (lv_at hl 2 rfl) ?_
    refine va_put (D := x_D G) (ci := 1) (v := .int p1) (ty := .int) (C := "ContentLibrary$Blocks") (T := x_TB) (N := 5) hx hb hts x_inB x_tyB x_tyB_ok x_nmB hown hK hP hD hS 1 (x_lk_B G _) rfl 1 (by decide) (hts _ t_42) (fun _ h9 => h9) rfl (by decide +kernel) rfl rfl (Nat.le_of_ble_eq_true rfl) d_X_fuse_32 (fun H locs hP hD hS => ?_)
    rw [x_st_B1 G _] at hP hD
    refine lv_iload_n hx hb d_X_fuse_35 rfl (lv_at hl 0 rfl) ?_
    obtain ⟨rfl, rfl⟩ := x_retr hf
    exact W.iret (v := (z1.1 1 1)) hx hb hr (fun t ht hW => ⟨⟨_, _, rfl, ⟨rfl, rfl⟩, x_pw hP hD hK hG hS hz ht hW⟩, hS.F ht⟩) hS.2.2 d_X_fuse_36
  · have hf := x_br_f hf hc3
    exact absurd hf x_no_r
set_option maxHeartbeats 4000000 in
set_option maxRecDepth 100000 in
theorem c_X_fuse_x (l : Launch) (G : x_G) (hl9 : l.stackTraces = false) (p1 : Int32) (z0 : x_St) (E : String) (zo : x_St) (hf : f_X_fuse (x_n G) p1 z0 = some (Sum.inl E, zo)) : e_Met l G (⟨"ContentLibrary", "fuse", "(I)I"⟩ : MethodName) (x_ws (⟨"ContentLibrary", "fuse", "(I)I"⟩ : MethodName) prog_1_method_12_code 3 (some .int)) rx_X_fuse (va_Pc [.ref (x_ad G 0), .int p1] (x_PW G z0)) E zo 1 6 := by
  refine e_ofW (cc := prog_1_method_12_code) (maxL := 3) (ret := (some .int)) (by decide) rfl ?_
  intro p e s m args below meth c s₁ B hml hEx hv
  obtain ⟨rfl, hz, hP, hD, hK, hG⟩ := hv
  have C0 : x_Ctx G p s m _ meth c prog_1_method_12_code "ContentLibrary" 3 (some .int) := ⟨B.exec, B.bytes, B.returns, hml, findClass_of_methodNamed B.named, fun w h => atoms_spec (ws := (x_ws (⟨"ContentLibrary", "fuse", "(I)I"⟩ : MethodName) prog_1_method_12_code 3 (some .int))) B.pre w (List.mem_cons_of_mem _ h), B.notSynchronized, hz, hK, hG⟩
  obtain ⟨hx, hb, hr, hml, hown, hts, hlocks, hz, hK, hG⟩ := id C0
  have hS : va_S (x_A G) s.heap s.heap [] := va_S.rf
  have hl := lv_entry ([.ref (x_ad G 0), .int p1]) (n := 3) (Nat.le_of_ble_eq_true rfl)
  rw [lg_entry_eq]
  generalize (lg_sl ([.ref (x_ad G 0), .int p1]) ++ List.replicate (3 - (lg_sl ([.ref (x_ad G 0), .int p1])).length) Slot.unset).toArray = ls at hl ⊢
  have hl : lv_has ls 3 [(0, .ref (x_ad G 0)), (1, .int p1)] := hl
  rw [f_X_fuse] at hf
  refine lv_aload_n hx hb d_X_fuse_0 rfl (lv_at hl 0 rfl) ?_
  rcases x_clx_x hf with hq2 | ⟨r1, z1, hq2, hf⟩
  · exact e_callV (As := []) (rest := []) ⟨hx, hb, hml, hown, hts⟩ (c_X_refuseWhenCut_x l G hl9 z0 E zo hq2) (cwV 0 hts (x_gV t_335 t_337 sel_ContentLibrary_refuseWhenCut t_1 t_338) rfl rfl rfl (by decide +kernel) ⟨Nat.le_of_ble_eq_true rfl, Nat.le_of_ble_eq_true rfl⟩) ⟨x_blind _ _ _, va_recv hK hP (ci := 0) (q0 := 0) rfl (x_lk_X G _), fun U hU hW => ⟨rfl, x_pw hP hD hK hG hS hz hU hW⟩⟩ rfl hl.1 rfl (lv_room (Nat.le_of_ble_eq_true rfl)) d_X_fuse_1 ⟨Nat.le_of_ble_eq_true rfl, Nat.le_of_ble_eq_true rfl⟩ hz hS (fun q ce H locs hP hD hS hce hcv hcl => e_out (fun x hx => (hEx x hx).elim) hlocks hce hcv hcl hS (fun t ht hW => x_pw hP hD hK hG hS hz ht hW) (Nat.le_of_ble_eq_true rfl) (Nat.le_of_ble_eq_true rfl))
  refine va_callv (va_runV (As := []) (rest := []) ⟨hx, hb, hml, hown, hts⟩ (c_X_refuseWhenCut l G z0 r1 z1 hq2) (cwV 0 hts (x_gV t_335 t_337 sel_ContentLibrary_refuseWhenCut t_1 t_338) rfl rfl rfl (by decide +kernel) ⟨Nat.le_of_ble_eq_true rfl, Nat.le_of_ble_eq_true rfl⟩) ⟨x_blind _ _ _, va_recv hK hP (ci := 0) (q0 := 0) rfl (x_lk_X G _), fun U hU hW => ⟨rfl, x_pw hP hD hK hG hS hz hU hW⟩⟩ rfl rfl hl.1 rfl (lv_room (Nat.le_of_ble_eq_true rfl)) d_X_fuse_1 ⟨Nat.le_of_ble_eq_true rfl, Nat.le_of_ble_eq_true rfl⟩) hS (fun q _ h => h) (fun q h => h) (fun u t H locs ht hvm hw hB _ _ hS => ?_)
  obtain ⟨rfl, rfl⟩ := hw
  obtain ⟨hP, hD⟩ := x_back hB ht
  refine lv_iload_n hx hb d_X_fuse_4 rfl (lv_at hl 1 rfl) ?_
  refine lv_iconst (v := (-1 : Int32)) hx hb d_X_fuse_5 (by decide) ?_
  refine lv_icmp_ge (tgt := 19) hx hb d_X_fuse_6 (by decide) (fun hc3 => ?_) (fun hc3 => ?_)
  · have hf := x_br_t hf hc3
    refine lv_aload_n hx hb d_X_fuse_19 rfl (lv_at hl 0 rfl) ?_
    refine va_get (D := x_D G) (ci := 0) (v := .ref (x_ad G 1)) (C := "ContentLibrary") (T := x_TX) (N := 9) hx hb hts x_inX hown hK hP 0 (x_lk_X G _) rfl 0 (by decide) (hts _ t_130) (fun _ h9 => h9) rfl d_X_fuse_20 ?_
    refine va_get (D := x_D G) (ci := 1) (v := .int (z1.1 1 1)) (C := "ContentLibrary$Blocks") (T := x_TB) (N := 5) hx hb hts x_inB hown hK hP 1 (x_lk_B G _) rfl 1 (by decide) (hts _ t_42) (fun _ h9 => h9) rfl d_X_fuse_23 ?_
    refine lv_istore_n (lv' := [(2, .int (z1.1 1 1)), (0, .ref (x_ad G 0)), (1, .int p1)]) hx hb d_X_fuse_26 rfl hl (by decide) rfl (fun ls hl => ?_)
    refine lv_aload_n hx hb d_X_fuse_27 rfl (lv_at hl 1 rfl) ?_
    refine va_get (D := x_D G) (ci := 0) (v := .ref (x_ad G 1)) (C := "ContentLibrary") (T := x_TX) (N := 9) hx hb hts x_inX hown hK hP 0 (x_lk_X G _) rfl 0 (by decide) (hts _ t_130) (fun _ h9 => h9) rfl d_X_fuse_28 ?_
    refine lv_iload_n hx hb d_X_fuse_31 rfl (lv_at hl 2 rfl) ?_
    refine va_put (D := x_D G) (ci := 1) (v := .int p1) (ty := .int) (C := "ContentLibrary$Blocks") (T := x_TB) (N := 5) hx hb hts x_inB x_tyB x_tyB_ok x_nmB hown hK hP hD hS 1 (x_lk_B G _) rfl 1 (by decide) (hts _ t_42) (fun _ h9 => h9) rfl (by decide +kernel) rfl rfl (Nat.le_of_ble_eq_true rfl) d_X_fuse_32 (fun H locs hP hD hS => ?_)
    rw [x_st_B1 G _] at hP hD
    refine lv_iload_n hx hb d_X_fuse_35 rfl (lv_at hl 0 rfl) ?_
    exact absurd hf x_no_x
  · have hf := x_br_f hf hc3
    obtain ⟨rfl, rfl⟩ := x_retx hf
    exact e_throw (text := "a fuse is of 0 bytes or more, or NONE") (is := 208) hx hb hl9 hown (by decide +kernel) (by decide) (by decide +kernel) hts t_409 t_12 at_77_IllegalArgumentException hG hS (hl.1.trans hml.symm) d_X_fuse_9 d_X_fuse_12 d_X_fuse_13 d_X_fuse_15 d_X_fuse_18 hEx (Nat.le_of_ble_eq_true rfl) (Nat.le_of_ble_eq_true rfl) (Nat.le_of_ble_eq_true rfl) (Nat.le_of_ble_eq_true rfl) hlocks (fun t hW hsz hk => x_pwk hP hD hK hG hS hz hsz hk hW) (Nat.le_of_ble_eq_true rfl) (Nat.le_of_ble_eq_true rfl)
abbrev rm_X_poke : Room := { frames := 7, cells := 0, slots := 0, locals := 104 }
abbrev rx_X_poke : Room := { frames := 7, cells := 1, slots := 6, locals := 104 }
set_option maxHeartbeats 4000000 in
set_option maxRecDepth 100000 in
theorem c_X_poke (l : Launch) (G : x_G) (p1 : Int32) (p2 : Int32) (p3 : Int32) (z0 : x_St) (r : Int32) (zo : x_St) (hf : f_X_poke (x_n G) p1 p2 p3 z0 = some (Sum.inr r, zo)) : Met l (⟨"ContentLibrary", "poke", "(III)I"⟩ : MethodName) (x_ws (⟨"ContentLibrary", "poke", "(III)I"⟩ : MethodName) prog_1_method_14_code 4 (some .int)) rm_X_poke (va_Pc [.ref (x_ad G 0), .int p1, .int p2, .int p3] (x_PW G z0)) (va_Qi (fun a u => r = a ∧ zo = u) (x_PW G) (x_A G)) 0 0 (x_A G) := by
  refine Met.ofW (cc := prog_1_method_14_code) (maxL := 4) (ret := (some .int)) (by decide) rfl ?_
  intro p e s m args below meth c s₁ B hml hv
  obtain ⟨rfl, hz, hP, hD, hK, hG⟩ := hv
  have C0 : x_Ctx G p s m _ meth c prog_1_method_14_code "ContentLibrary" 4 (some .int) := ⟨B.exec, B.bytes, B.returns, hml, findClass_of_methodNamed B.named, fun w h => atoms_spec (ws := (x_ws (⟨"ContentLibrary", "poke", "(III)I"⟩ : MethodName) prog_1_method_14_code 4 (some .int))) B.pre w (List.mem_cons_of_mem _ h), B.notSynchronized, hz, hK, hG⟩
  obtain ⟨hx, hb, hr, hml, hown, hts, hlocks, hz, hK, hG⟩ := id C0
  have hS : va_S (x_A G) s.heap s.heap [] := va_S.rf
  have hl := lv_entry ([.ref (x_ad G 0), .int p1, .int p2, .int p3]) (n := 4) (Nat.le_of_ble_eq_true rfl)
  rw [lg_entry_eq]
  generalize (lg_sl ([.ref (x_ad G 0), .int p1, .int p2, .int p3]) ++ List.replicate (4 - (lg_sl ([.ref (x_ad G 0), .int p1, .int p2, .int p3])).length) Slot.unset).toArray = ls at hl ⊢
  have hl : lv_has ls 4 [(0, .ref (x_ad G 0)), (1, .int p1), (2, .int p2), (3, .int p3)] := hl
  rw [f_X_poke] at hf
  refine lv_aload_n hx hb d_X_poke_0 rfl (lv_at hl 0 rfl) ?_
  refine lv_iload_n hx hb d_X_poke_1 rfl (lv_at hl 1 rfl) ?_
  refine lv_iload_n hx hb d_X_poke_2 rfl (lv_at hl 2 rfl) ?_
  obtain ⟨r1, z1, hq2, hf⟩ := x_clx_r hf
  refine va_callv (va_runV (As := [.int p1, .int p2]) (rest := []) ⟨hx, hb, hml, hown, hts⟩ (c_X_refuseUnlessByte l G p1 p2 z0 r1 z1 hq2) (cwV 2 hts (x_gV t_638 t_640 sel_ContentLibrary_refuseUnlessByte t_1 t_641) rfl rfl rfl (by decide +kernel) ⟨Nat.le_of_ble_eq_true rfl, Nat.le_of_ble_eq_true rfl⟩) ⟨x_blind _ _ _, va_recv hK hP (ci := 0) (q0 := 0) rfl (x_lk_X G _), fun U hU hW => ⟨rfl, x_pw hP hD hK hG hS hz hU hW⟩⟩ rfl rfl hl.1 rfl (lv_room (Nat.le_of_ble_eq_true rfl)) d_X_poke_3 ⟨Nat.le_of_ble_eq_true rfl, Nat.le_of_ble_eq_true rfl⟩) hS (fun q _ h => h) (fun q h => h) (fun u t H locs ht hvm hw hB _ _ hS => ?_)
  obtain ⟨rfl, rfl⟩ := hw
  obtain ⟨hP, hD⟩ := x_back hB ht
  refine lv_iload_n hx hb d_X_poke_6 rfl (lv_at hl 3 rfl) ?_
  refine lv_if_lt (tgt := 17) hx hb d_X_poke_7 (by decide) (fun hc3 => ?_) (fun hc3 => ?_)
  · have hf := x_br_t hf hc3
    exact absurd hf x_no_r
  · have hf := x_br_f hf hc3
    refine lv_iload_n hx hb d_X_poke_10 rfl (lv_at hl 3 rfl) ?_
    refine lv_sipush (v := (255 : Int32)) hx hb d_X_poke_11 (by decide) ?_
    refine lv_icmp_le (tgt := 27) hx hb d_X_poke_14 (by decide) (fun hc4 => ?_) (fun hc4 => ?_)
    · have hf := x_br_t hf hc4
      refine lv_aload_n hx hb d_X_poke_27 rfl (lv_at hl 0 rfl) ?_
      refine va_get (D := x_D G) (ci := 0) (v := .ref (x_ad G 1)) (C := "ContentLibrary") (T := x_TX) (N := 9) hx hb hts x_inX hown hK hP 0 (x_lk_X G _) rfl 0 (by decide) (hts _ t_130) (fun _ h9 => h9) rfl d_X_poke_28 ?_
      refine lv_iload_n hx hb d_X_poke_31 rfl (lv_at hl 1 rfl) ?_
      refine lv_iload_n hx hb d_X_poke_32 rfl (lv_at hl 2 rfl) ?_
      refine lv_iload_n hx hb d_X_poke_33 rfl (lv_at hl 3 rfl) ?_
      obtain ⟨r5, z5, hq6, hf⟩ := x_cl_some hf
      refine va_calli (va_runV (As := [.int p1, .int p2, .int p3]) (rest := []) ⟨hx, hb, hml, hown, hts⟩ (c_B_turn l G p1 p2 p3 z1 r5 z5 hq6) (cwV 3 hts (x_gV t_644 t_645 t_646 t_3 t_647) rfl rfl rfl (by decide +kernel) ⟨Nat.le_of_ble_eq_true rfl, Nat.le_of_ble_eq_true rfl⟩) ⟨x_blind _ _ _, va_recv hK hP (ci := 1) (q0 := 1) rfl (x_lk_B G _), fun U hU hW => ⟨rfl, x_pw hP hD hK hG hS hz hU hW⟩⟩ rfl rfl hl.1 rfl (lv_room (Nat.le_of_ble_eq_true rfl)) d_X_poke_34 ⟨Nat.le_of_ble_eq_true rfl, Nat.le_of_ble_eq_true rfl⟩) hS (fun q _ h => h) (fun q h => h) (fun ra u t H locs ht hvm hw hB _ _ hS => ?_)
      obtain ⟨rfl, rfl⟩ := hw
      obtain ⟨hP, hD⟩ := x_back hB ht
      obtain ⟨rfl, rfl⟩ := x_retr hf
      exact W.iret (v := r5) hx hb hr (fun t ht hW => ⟨⟨_, _, rfl, ⟨rfl, rfl⟩, x_pw hP hD hK hG hS hz ht hW⟩, hS.F ht⟩) hS.2.2 d_X_poke_37
    · have hf := x_br_f hf hc4
      exact absurd hf x_no_r
set_option maxHeartbeats 4000000 in
set_option maxRecDepth 100000 in
theorem c_X_poke_x (l : Launch) (G : x_G) (hl9 : l.stackTraces = false) (p1 : Int32) (p2 : Int32) (p3 : Int32) (z0 : x_St) (E : String) (zo : x_St) (hf : f_X_poke (x_n G) p1 p2 p3 z0 = some (Sum.inl E, zo)) : e_Met l G (⟨"ContentLibrary", "poke", "(III)I"⟩ : MethodName) (x_ws (⟨"ContentLibrary", "poke", "(III)I"⟩ : MethodName) prog_1_method_14_code 4 (some .int)) rx_X_poke (va_Pc [.ref (x_ad G 0), .int p1, .int p2, .int p3] (x_PW G z0)) E zo 1 6 := by
  refine e_ofW (cc := prog_1_method_14_code) (maxL := 4) (ret := (some .int)) (by decide) rfl ?_
  intro p e s m args below meth c s₁ B hml hEx hv
  obtain ⟨rfl, hz, hP, hD, hK, hG⟩ := hv
  have C0 : x_Ctx G p s m _ meth c prog_1_method_14_code "ContentLibrary" 4 (some .int) := ⟨B.exec, B.bytes, B.returns, hml, findClass_of_methodNamed B.named, fun w h => atoms_spec (ws := (x_ws (⟨"ContentLibrary", "poke", "(III)I"⟩ : MethodName) prog_1_method_14_code 4 (some .int))) B.pre w (List.mem_cons_of_mem _ h), B.notSynchronized, hz, hK, hG⟩
  obtain ⟨hx, hb, hr, hml, hown, hts, hlocks, hz, hK, hG⟩ := id C0
  have hS : va_S (x_A G) s.heap s.heap [] := va_S.rf
  have hl := lv_entry ([.ref (x_ad G 0), .int p1, .int p2, .int p3]) (n := 4) (Nat.le_of_ble_eq_true rfl)
  rw [lg_entry_eq]
  generalize (lg_sl ([.ref (x_ad G 0), .int p1, .int p2, .int p3]) ++ List.replicate (4 - (lg_sl ([.ref (x_ad G 0), .int p1, .int p2, .int p3])).length) Slot.unset).toArray = ls at hl ⊢
  have hl : lv_has ls 4 [(0, .ref (x_ad G 0)), (1, .int p1), (2, .int p2), (3, .int p3)] := hl
  rw [f_X_poke] at hf
  refine lv_aload_n hx hb d_X_poke_0 rfl (lv_at hl 0 rfl) ?_
  refine lv_iload_n hx hb d_X_poke_1 rfl (lv_at hl 1 rfl) ?_
  refine lv_iload_n hx hb d_X_poke_2 rfl (lv_at hl 2 rfl) ?_
  rcases x_clx_x hf with hq2 | ⟨r1, z1, hq2, hf⟩
  · exact e_callV (As := [.int p1, .int p2]) (rest := []) ⟨hx, hb, hml, hown, hts⟩ (c_X_refuseUnlessByte_x l G hl9 p1 p2 z0 E zo hq2) (cwV 2 hts (x_gV t_638 t_640 sel_ContentLibrary_refuseUnlessByte t_1 t_641) rfl rfl rfl (by decide +kernel) ⟨Nat.le_of_ble_eq_true rfl, Nat.le_of_ble_eq_true rfl⟩) ⟨x_blind _ _ _, va_recv hK hP (ci := 0) (q0 := 0) rfl (x_lk_X G _), fun U hU hW => ⟨rfl, x_pw hP hD hK hG hS hz hU hW⟩⟩ rfl hl.1 rfl (lv_room (Nat.le_of_ble_eq_true rfl)) d_X_poke_3 ⟨Nat.le_of_ble_eq_true rfl, Nat.le_of_ble_eq_true rfl⟩ hz hS (fun q ce H locs hP hD hS hce hcv hcl => e_out (fun x hx => (hEx x hx).elim) hlocks hce hcv hcl hS (fun t ht hW => x_pw hP hD hK hG hS hz ht hW) (Nat.le_of_ble_eq_true rfl) (Nat.le_of_ble_eq_true rfl))
  refine va_callv (va_runV (As := [.int p1, .int p2]) (rest := []) ⟨hx, hb, hml, hown, hts⟩ (c_X_refuseUnlessByte l G p1 p2 z0 r1 z1 hq2) (cwV 2 hts (x_gV t_638 t_640 sel_ContentLibrary_refuseUnlessByte t_1 t_641) rfl rfl rfl (by decide +kernel) ⟨Nat.le_of_ble_eq_true rfl, Nat.le_of_ble_eq_true rfl⟩) ⟨x_blind _ _ _, va_recv hK hP (ci := 0) (q0 := 0) rfl (x_lk_X G _), fun U hU hW => ⟨rfl, x_pw hP hD hK hG hS hz hU hW⟩⟩ rfl rfl hl.1 rfl (lv_room (Nat.le_of_ble_eq_true rfl)) d_X_poke_3 ⟨Nat.le_of_ble_eq_true rfl, Nat.le_of_ble_eq_true rfl⟩) hS (fun q _ h => h) (fun q h => h) (fun u t H locs ht hvm hw hB _ _ hS => ?_)
  obtain ⟨rfl, rfl⟩ := hw
  obtain ⟨hP, hD⟩ := x_back hB ht
  refine lv_iload_n hx hb d_X_poke_6 rfl (lv_at hl 3 rfl) ?_
  refine lv_if_lt (tgt := 17) hx hb d_X_poke_7 (by decide) (fun hc3 => ?_) (fun hc3 => ?_)
  · have hf := x_br_t hf hc3
    obtain ⟨rfl, rfl⟩ := x_retx hf
    exact e_throw (text := "a mask is 0 .. 255") (is := 228) hx hb hl9 hown (by decide +kernel) (by decide) (by decide +kernel) hts t_409 t_12 at_77_IllegalArgumentException hG hS (hl.1.trans hml.symm) d_X_poke_17 d_X_poke_20 d_X_poke_21 d_X_poke_23 d_X_poke_26 hEx (Nat.le_of_ble_eq_true rfl) (Nat.le_of_ble_eq_true rfl) (Nat.le_of_ble_eq_true rfl) (Nat.le_of_ble_eq_true rfl) hlocks (fun t hW hsz hk => x_pwk hP hD hK hG hS hz hsz hk hW) (Nat.le_of_ble_eq_true rfl) (Nat.le_of_ble_eq_true rfl)
  · have hf := x_br_f hf hc3
    refine lv_iload_n hx hb d_X_poke_10 rfl (lv_at hl 3 rfl) ?_
    refine lv_sipush (v := (255 : Int32)) hx hb d_X_poke_11 (by decide) ?_
    refine lv_icmp_le (tgt := 27) hx hb d_X_poke_14 (by decide) (fun hc4 => ?_) (fun hc4 => ?_)
    · have hf := x_br_t hf hc4
      refine lv_aload_n hx hb d_X_poke_27 rfl (lv_at hl 0 rfl) ?_
      refine va_get (D := x_D G) (ci := 0) (v := .ref (x_ad G 1)) (C := "ContentLibrary") (T := x_TX) (N := 9) hx hb hts x_inX hown hK hP 0 (x_lk_X G _) rfl 0 (by decide) (hts _ t_130) (fun _ h9 => h9) rfl d_X_poke_28 ?_
      refine lv_iload_n hx hb d_X_poke_31 rfl (lv_at hl 1 rfl) ?_
      refine lv_iload_n hx hb d_X_poke_32 rfl (lv_at hl 2 rfl) ?_
      refine lv_iload_n hx hb d_X_poke_33 rfl (lv_at hl 3 rfl) ?_
      obtain ⟨r5, z5, hq6, hf⟩ := x_cl_some hf
      refine va_calli (va_runV (As := [.int p1, .int p2, .int p3]) (rest := []) ⟨hx, hb, hml, hown, hts⟩ (c_B_turn l G p1 p2 p3 z1 r5 z5 hq6) (cwV 3 hts (x_gV t_644 t_645 t_646 t_3 t_647) rfl rfl rfl (by decide +kernel) ⟨Nat.le_of_ble_eq_true rfl, Nat.le_of_ble_eq_true rfl⟩) ⟨x_blind _ _ _, va_recv hK hP (ci := 1) (q0 := 1) rfl (x_lk_B G _), fun U hU hW => ⟨rfl, x_pw hP hD hK hG hS hz hU hW⟩⟩ rfl rfl hl.1 rfl (lv_room (Nat.le_of_ble_eq_true rfl)) d_X_poke_34 ⟨Nat.le_of_ble_eq_true rfl, Nat.le_of_ble_eq_true rfl⟩) hS (fun q _ h => h) (fun q h => h) (fun ra u t H locs ht hvm hw hB _ _ hS => ?_)
      obtain ⟨rfl, rfl⟩ := hw
      obtain ⟨hP, hD⟩ := x_back hB ht
      exact absurd hf x_no_x
    · have hf := x_br_f hf hc4
      obtain ⟨rfl, rfl⟩ := x_retx hf
      exact e_throw (text := "a mask is 0 .. 255") (is := 228) hx hb hl9 hown (by decide +kernel) (by decide) (by decide +kernel) hts t_409 t_12 at_77_IllegalArgumentException hG hS (hl.1.trans hml.symm) d_X_poke_17 d_X_poke_20 d_X_poke_21 d_X_poke_23 d_X_poke_26 hEx (Nat.le_of_ble_eq_true rfl) (Nat.le_of_ble_eq_true rfl) (Nat.le_of_ble_eq_true rfl) (Nat.le_of_ble_eq_true rfl) hlocks (fun t hW hsz hk => x_pwk hP hD hK hG hS hz hsz hk hW) (Nat.le_of_ble_eq_true rfl) (Nat.le_of_ble_eq_true rfl)
abbrev rm_X_byteAt : Room := { frames := 7, cells := 0, slots := 0, locals := 104 }
abbrev rx_X_byteAt : Room := { frames := 7, cells := 1, slots := 6, locals := 104 }
set_option maxHeartbeats 4000000 in
set_option maxRecDepth 100000 in
theorem c_X_byteAt (l : Launch) (G : x_G) (p1 : Int32) (p2 : Int32) (z0 : x_St) (r : Int32) (zo : x_St) (hf : f_X_byteAt (x_n G) p1 p2 z0 = some (Sum.inr r, zo)) : Met l (⟨"ContentLibrary", "byteAt", "(II)I"⟩ : MethodName) (x_ws (⟨"ContentLibrary", "byteAt", "(II)I"⟩ : MethodName) prog_1_method_16_code 3 (some .int)) rm_X_byteAt (va_Pc [.ref (x_ad G 0), .int p1, .int p2] (x_PW G z0)) (va_Qi (fun a u => r = a ∧ zo = u) (x_PW G) (x_A G)) 0 0 (x_A G) := by
  refine Met.ofW (cc := prog_1_method_16_code) (maxL := 3) (ret := (some .int)) (by decide) rfl ?_
  intro p e s m args below meth c s₁ B hml hv
  obtain ⟨rfl, hz, hP, hD, hK, hG⟩ := hv
  have C0 : x_Ctx G p s m _ meth c prog_1_method_16_code "ContentLibrary" 3 (some .int) := ⟨B.exec, B.bytes, B.returns, hml, findClass_of_methodNamed B.named, fun w h => atoms_spec (ws := (x_ws (⟨"ContentLibrary", "byteAt", "(II)I"⟩ : MethodName) prog_1_method_16_code 3 (some .int))) B.pre w (List.mem_cons_of_mem _ h), B.notSynchronized, hz, hK, hG⟩
  obtain ⟨hx, hb, hr, hml, hown, hts, hlocks, hz, hK, hG⟩ := id C0
  have hS : va_S (x_A G) s.heap s.heap [] := va_S.rf
  have hl := lv_entry ([.ref (x_ad G 0), .int p1, .int p2]) (n := 3) (Nat.le_of_ble_eq_true rfl)
  rw [lg_entry_eq]
  generalize (lg_sl ([.ref (x_ad G 0), .int p1, .int p2]) ++ List.replicate (3 - (lg_sl ([.ref (x_ad G 0), .int p1, .int p2])).length) Slot.unset).toArray = ls at hl ⊢
  have hl : lv_has ls 3 [(0, .ref (x_ad G 0)), (1, .int p1), (2, .int p2)] := hl
  rw [f_X_byteAt] at hf
  refine lv_aload_n hx hb d_X_byteAt_0 rfl (lv_at hl 0 rfl) ?_
  refine lv_iload_n hx hb d_X_byteAt_1 rfl (lv_at hl 1 rfl) ?_
  refine lv_iload_n hx hb d_X_byteAt_2 rfl (lv_at hl 2 rfl) ?_
  obtain ⟨r1, z1, hq2, hf⟩ := x_clx_r hf
  refine va_callv (va_runV (As := [.int p1, .int p2]) (rest := []) ⟨hx, hb, hml, hown, hts⟩ (c_X_refuseUnlessByte l G p1 p2 z0 r1 z1 hq2) (cwV 2 hts (x_gV t_638 t_640 sel_ContentLibrary_refuseUnlessByte t_1 t_641) rfl rfl rfl (by decide +kernel) ⟨Nat.le_of_ble_eq_true rfl, Nat.le_of_ble_eq_true rfl⟩) ⟨x_blind _ _ _, va_recv hK hP (ci := 0) (q0 := 0) rfl (x_lk_X G _), fun U hU hW => ⟨rfl, x_pw hP hD hK hG hS hz hU hW⟩⟩ rfl rfl hl.1 rfl (lv_room (Nat.le_of_ble_eq_true rfl)) d_X_byteAt_3 ⟨Nat.le_of_ble_eq_true rfl, Nat.le_of_ble_eq_true rfl⟩) hS (fun q _ h => h) (fun q h => h) (fun u t H locs ht hvm hw hB _ _ hS => ?_)
  obtain ⟨rfl, rfl⟩ := hw
  obtain ⟨hP, hD⟩ := x_back hB ht
  refine lv_aload_n hx hb d_X_byteAt_6 rfl (lv_at hl 0 rfl) ?_
  refine va_get (D := x_D G) (ci := 0) (v := .ref (x_ad G 1)) (C := "ContentLibrary") (T := x_TX) (N := 9) hx hb hts x_inX hown hK hP 0 (x_lk_X G _) rfl 0 (by decide) (hts _ t_130) (fun _ h9 => h9) rfl d_X_byteAt_7 ?_
  refine lv_iload_n hx hb d_X_byteAt_10 rfl (lv_at hl 1 rfl) ?_
  refine lv_iload_n hx hb d_X_byteAt_11 rfl (lv_at hl 2 rfl) ?_
  obtain ⟨r3, z3, hq4, hf⟩ := x_cl_some hf
  refine va_calli (va_runV (As := [.int p1, .int p2]) (rest := []) ⟨hx, hb, hml, hown, hts⟩ (c_B_get l G p1 p2 z1 r3 z3 hq4) (cwV 2 hts (x_gV t_200 t_175 t_176 t_3 t_177) rfl rfl rfl (by decide +kernel) ⟨Nat.le_of_ble_eq_true rfl, Nat.le_of_ble_eq_true rfl⟩) ⟨x_blind _ _ _, va_recv hK hP (ci := 1) (q0 := 1) rfl (x_lk_B G _), fun U hU hW => ⟨rfl, x_pw hP hD hK hG hS hz hU hW⟩⟩ rfl rfl hl.1 rfl (lv_room (Nat.le_of_ble_eq_true rfl)) d_X_byteAt_12 ⟨Nat.le_of_ble_eq_true rfl, Nat.le_of_ble_eq_true rfl⟩) hS (fun q _ h => h) (fun q h => h) (fun ra u t H locs ht hvm hw hB _ _ hS => ?_)
  obtain ⟨rfl, rfl⟩ := hw
  obtain ⟨hP, hD⟩ := x_back hB ht
  obtain ⟨rfl, rfl⟩ := x_retr hf
  exact W.iret (v := r3) hx hb hr (fun t ht hW => ⟨⟨_, _, rfl, ⟨rfl, rfl⟩, x_pw hP hD hK hG hS hz ht hW⟩, hS.F ht⟩) hS.2.2 d_X_byteAt_15
set_option maxHeartbeats 4000000 in
set_option maxRecDepth 100000 in
theorem c_X_byteAt_x (l : Launch) (G : x_G) (hl9 : l.stackTraces = false) (p1 : Int32) (p2 : Int32) (z0 : x_St) (E : String) (zo : x_St) (hf : f_X_byteAt (x_n G) p1 p2 z0 = some (Sum.inl E, zo)) : e_Met l G (⟨"ContentLibrary", "byteAt", "(II)I"⟩ : MethodName) (x_ws (⟨"ContentLibrary", "byteAt", "(II)I"⟩ : MethodName) prog_1_method_16_code 3 (some .int)) rx_X_byteAt (va_Pc [.ref (x_ad G 0), .int p1, .int p2] (x_PW G z0)) E zo 1 6 := by
  refine e_ofW (cc := prog_1_method_16_code) (maxL := 3) (ret := (some .int)) (by decide) rfl ?_
  intro p e s m args below meth c s₁ B hml hEx hv
  obtain ⟨rfl, hz, hP, hD, hK, hG⟩ := hv
  have C0 : x_Ctx G p s m _ meth c prog_1_method_16_code "ContentLibrary" 3 (some .int) := ⟨B.exec, B.bytes, B.returns, hml, findClass_of_methodNamed B.named, fun w h => atoms_spec (ws := (x_ws (⟨"ContentLibrary", "byteAt", "(II)I"⟩ : MethodName) prog_1_method_16_code 3 (some .int))) B.pre w (List.mem_cons_of_mem _ h), B.notSynchronized, hz, hK, hG⟩
  obtain ⟨hx, hb, hr, hml, hown, hts, hlocks, hz, hK, hG⟩ := id C0
  have hS : va_S (x_A G) s.heap s.heap [] := va_S.rf
  have hl := lv_entry ([.ref (x_ad G 0), .int p1, .int p2]) (n := 3) (Nat.le_of_ble_eq_true rfl)
  rw [lg_entry_eq]
  generalize (lg_sl ([.ref (x_ad G 0), .int p1, .int p2]) ++ List.replicate (3 - (lg_sl ([.ref (x_ad G 0), .int p1, .int p2])).length) Slot.unset).toArray = ls at hl ⊢
  have hl : lv_has ls 3 [(0, .ref (x_ad G 0)), (1, .int p1), (2, .int p2)] := hl
  rw [f_X_byteAt] at hf
  refine lv_aload_n hx hb d_X_byteAt_0 rfl (lv_at hl 0 rfl) ?_
  refine lv_iload_n hx hb d_X_byteAt_1 rfl (lv_at hl 1 rfl) ?_
  refine lv_iload_n hx hb d_X_byteAt_2 rfl (lv_at hl 2 rfl) ?_
  rcases x_clx_x hf with hq2 | ⟨r1, z1, hq2, hf⟩
  · exact e_callV (As := [.int p1, .int p2]) (rest := []) ⟨hx, hb, hml, hown, hts⟩ (c_X_refuseUnlessByte_x l G hl9 p1 p2 z0 E zo hq2) (cwV 2 hts (x_gV t_638 t_640 sel_ContentLibrary_refuseUnlessByte t_1 t_641) rfl rfl rfl (by decide +kernel) ⟨Nat.le_of_ble_eq_true rfl, Nat.le_of_ble_eq_true rfl⟩) ⟨x_blind _ _ _, va_recv hK hP (ci := 0) (q0 := 0) rfl (x_lk_X G _), fun U hU hW => ⟨rfl, x_pw hP hD hK hG hS hz hU hW⟩⟩ rfl hl.1 rfl (lv_room (Nat.le_of_ble_eq_true rfl)) d_X_byteAt_3 ⟨Nat.le_of_ble_eq_true rfl, Nat.le_of_ble_eq_true rfl⟩ hz hS (fun q ce H locs hP hD hS hce hcv hcl => e_out (fun x hx => (hEx x hx).elim) hlocks hce hcv hcl hS (fun t ht hW => x_pw hP hD hK hG hS hz ht hW) (Nat.le_of_ble_eq_true rfl) (Nat.le_of_ble_eq_true rfl))
  refine va_callv (va_runV (As := [.int p1, .int p2]) (rest := []) ⟨hx, hb, hml, hown, hts⟩ (c_X_refuseUnlessByte l G p1 p2 z0 r1 z1 hq2) (cwV 2 hts (x_gV t_638 t_640 sel_ContentLibrary_refuseUnlessByte t_1 t_641) rfl rfl rfl (by decide +kernel) ⟨Nat.le_of_ble_eq_true rfl, Nat.le_of_ble_eq_true rfl⟩) ⟨x_blind _ _ _, va_recv hK hP (ci := 0) (q0 := 0) rfl (x_lk_X G _), fun U hU hW => ⟨rfl, x_pw hP hD hK hG hS hz hU hW⟩⟩ rfl rfl hl.1 rfl (lv_room (Nat.le_of_ble_eq_true rfl)) d_X_byteAt_3 ⟨Nat.le_of_ble_eq_true rfl, Nat.le_of_ble_eq_true rfl⟩) hS (fun q _ h => h) (fun q h => h) (fun u t H locs ht hvm hw hB _ _ hS => ?_)
  obtain ⟨rfl, rfl⟩ := hw
  obtain ⟨hP, hD⟩ := x_back hB ht
  refine lv_aload_n hx hb d_X_byteAt_6 rfl (lv_at hl 0 rfl) ?_
  refine va_get (D := x_D G) (ci := 0) (v := .ref (x_ad G 1)) (C := "ContentLibrary") (T := x_TX) (N := 9) hx hb hts x_inX hown hK hP 0 (x_lk_X G _) rfl 0 (by decide) (hts _ t_130) (fun _ h9 => h9) rfl d_X_byteAt_7 ?_
  refine lv_iload_n hx hb d_X_byteAt_10 rfl (lv_at hl 1 rfl) ?_
  refine lv_iload_n hx hb d_X_byteAt_11 rfl (lv_at hl 2 rfl) ?_
  obtain ⟨r3, z3, hq4, hf⟩ := x_cl_some hf
  refine va_calli (va_runV (As := [.int p1, .int p2]) (rest := []) ⟨hx, hb, hml, hown, hts⟩ (c_B_get l G p1 p2 z1 r3 z3 hq4) (cwV 2 hts (x_gV t_200 t_175 t_176 t_3 t_177) rfl rfl rfl (by decide +kernel) ⟨Nat.le_of_ble_eq_true rfl, Nat.le_of_ble_eq_true rfl⟩) ⟨x_blind _ _ _, va_recv hK hP (ci := 1) (q0 := 1) rfl (x_lk_B G _), fun U hU hW => ⟨rfl, x_pw hP hD hK hG hS hz hU hW⟩⟩ rfl rfl hl.1 rfl (lv_room (Nat.le_of_ble_eq_true rfl)) d_X_byteAt_12 ⟨Nat.le_of_ble_eq_true rfl, Nat.le_of_ble_eq_true rfl⟩) hS (fun q _ h => h) (fun q h => h) (fun ra u t H locs ht hvm hw hB _ _ hS => ?_)
  obtain ⟨rfl, rfl⟩ := hw
  obtain ⟨hP, hD⟩ := x_back hB ht
  exact absurd hf x_no_x
