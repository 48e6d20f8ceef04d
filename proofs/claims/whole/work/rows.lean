section
-- ===== PART A: goes FIRST, ahead of the names: the tables' words, and 'selects' of the private methods out of them =====
/-- a private method of a class that the tables say can be made, by its rows of tables_1 -/
def lw_okq (q : MethodName × Nat) : Prop := (q.1.cls ≠ "java/lang/invoke/MethodHandle" ∧ q.1.cls ≠ "java/lang/invoke/VarHandle") ∧ Cond.instantiable q.1.cls q.2 ∈ tables_1 ∧ Cond.privateMethod q.1 ∈ tables_1 ∧ Cond.instanceMethod q.1 ∈ tables_1
theorem lw_p0 : lw_okq (⟨"ContentLibrary", "forget", "()V"⟩, 9) := ⟨⟨by decide +kernel, by decide +kernel⟩, List.mem_of_getElem? (i := 20) (by decide +kernel), List.mem_of_getElem? (i := 163) (by decide +kernel), List.mem_of_getElem? (i := 164) (by decide +kernel)⟩
theorem lw_p1 : lw_okq (⟨"ContentLibrary", "openNumber", "(I)V"⟩, 9) := ⟨⟨by decide +kernel, by decide +kernel⟩, List.mem_of_getElem? (i := 20) (by decide +kernel), List.mem_of_getElem? (i := 167) (by decide +kernel), List.mem_of_getElem? (i := 168) (by decide +kernel)⟩
theorem lw_p2 : lw_okq (⟨"ContentLibrary$Blocks", "hasRightSum", "(I)Z"⟩, 5) := ⟨⟨by decide +kernel, by decide +kernel⟩, List.mem_of_getElem? (i := 34) (by decide +kernel), List.mem_of_getElem? (i := 183) (by decide +kernel), List.mem_of_getElem? (i := 184) (by decide +kernel)⟩
theorem lw_p3 : lw_okq (⟨"ContentLibrary", "readRecord", "(LContentLibrary$Kept;II)Z"⟩, 9) := ⟨⟨by decide +kernel, by decide +kernel⟩, List.mem_of_getElem? (i := 20) (by decide +kernel), List.mem_of_getElem? (i := 202) (by decide +kernel), List.mem_of_getElem? (i := 203) (by decide +kernel)⟩
theorem lw_p4 : lw_okq (⟨"ContentLibrary$Digester", "pad", "([II)I"⟩, 3) := ⟨⟨by decide +kernel, by decide +kernel⟩, List.mem_of_getElem? (i := 115) (by decide +kernel), List.mem_of_getElem? (i := 247) (by decide +kernel), List.mem_of_getElem? (i := 248) (by decide +kernel)⟩
theorem lw_p5 : lw_okq (⟨"ContentLibrary$Digester", "prepare", "(I)V"⟩, 3) := ⟨⟨by decide +kernel, by decide +kernel⟩, List.mem_of_getElem? (i := 115) (by decide +kernel), List.mem_of_getElem? (i := 257) (by decide +kernel), List.mem_of_getElem? (i := 258) (by decide +kernel)⟩
theorem lw_p6 : lw_okq (⟨"ContentLibrary$Digester", "mix", "([I)V"⟩, 3) := ⟨⟨by decide +kernel, by decide +kernel⟩, List.mem_of_getElem? (i := 115) (by decide +kernel), List.mem_of_getElem? (i := 264) (by decide +kernel), List.mem_of_getElem? (i := 265) (by decide +kernel)⟩
theorem lw_p7 : lw_okq (⟨"ContentLibrary$Digester", "turnRound", "(I)V"⟩, 3) := ⟨⟨by decide +kernel, by decide +kernel⟩, List.mem_of_getElem? (i := 115) (by decide +kernel), List.mem_of_getElem? (i := 270) (by decide +kernel), List.mem_of_getElem? (i := 271) (by decide +kernel)⟩
theorem lw_p8 : lw_okq (⟨"ContentLibrary", "numberWith", "([II)I"⟩, 9) := ⟨⟨by decide +kernel, by decide +kernel⟩, List.mem_of_getElem? (i := 20) (by decide +kernel), List.mem_of_getElem? (i := 274) (by decide +kernel), List.mem_of_getElem? (i := 275) (by decide +kernel)⟩
theorem lw_p9 : lw_okq (⟨"ContentLibrary", "admit", "(LContentLibrary$Kept;I)V"⟩, 9) := ⟨⟨by decide +kernel, by decide +kernel⟩, List.mem_of_getElem? (i := 20) (by decide +kernel), List.mem_of_getElem? (i := 282) (by decide +kernel), List.mem_of_getElem? (i := 283) (by decide +kernel)⟩
theorem lw_p10 : lw_okq (⟨"ContentLibrary", "setUsed", "(LContentLibrary$Kept;Z)V"⟩, 9) := ⟨⟨by decide +kernel, by decide +kernel⟩, List.mem_of_getElem? (i := 20) (by decide +kernel), List.mem_of_getElem? (i := 294) (by decide +kernel), List.mem_of_getElem? (i := 295) (by decide +kernel)⟩
theorem lw_p11 : lw_okq (⟨"ContentLibrary", "countKept", "()I"⟩, 9) := ⟨⟨by decide +kernel, by decide +kernel⟩, List.mem_of_getElem? (i := 20) (by decide +kernel), List.mem_of_getElem? (i := 298) (by decide +kernel), List.mem_of_getElem? (i := 299) (by decide +kernel)⟩
theorem lw_p12 : lw_okq (⟨"ContentLibrary", "countFreeBlocks", "()I"⟩, 9) := ⟨⟨by decide +kernel, by decide +kernel⟩, List.mem_of_getElem? (i := 20) (by decide +kernel), List.mem_of_getElem? (i := 315) (by decide +kernel), List.mem_of_getElem? (i := 316) (by decide +kernel)⟩
theorem lw_p13 : lw_okq (⟨"ContentLibrary", "countMade", "()I"⟩, 9) := ⟨⟨by decide +kernel, by decide +kernel⟩, List.mem_of_getElem? (i := 20) (by decide +kernel), List.mem_of_getElem? (i := 319) (by decide +kernel), List.mem_of_getElem? (i := 320) (by decide +kernel)⟩
theorem lw_p14 : lw_okq (⟨"ContentLibrary", "refuseWhenCut", "()V"⟩, 9) := ⟨⟨by decide +kernel, by decide +kernel⟩, List.mem_of_getElem? (i := 20) (by decide +kernel), List.mem_of_getElem? (i := 336) (by decide +kernel), List.mem_of_getElem? (i := 337) (by decide +kernel)⟩
theorem lw_p15 : lw_okq (⟨"java/lang/Throwable", "fillInStackTrace", "(I)Ljava/lang/Throwable;"⟩, 6) := ⟨⟨by decide +kernel, by decide +kernel⟩, List.mem_of_getElem? (i := 379) (by decide +kernel), List.mem_of_getElem? (i := 377) (by decide +kernel), List.mem_of_getElem? (i := 378) (by decide +kernel)⟩
def lw_privs_1 : List (MethodName × Nat) := [(⟨"ContentLibrary", "forget", "()V"⟩, 9), (⟨"ContentLibrary", "openNumber", "(I)V"⟩, 9), (⟨"ContentLibrary$Blocks", "hasRightSum", "(I)Z"⟩, 5), (⟨"ContentLibrary", "readRecord", "(LContentLibrary$Kept;II)Z"⟩, 9), (⟨"ContentLibrary$Digester", "pad", "([II)I"⟩, 3), (⟨"ContentLibrary$Digester", "prepare", "(I)V"⟩, 3), (⟨"ContentLibrary$Digester", "mix", "([I)V"⟩, 3), (⟨"ContentLibrary$Digester", "turnRound", "(I)V"⟩, 3), (⟨"ContentLibrary", "numberWith", "([II)I"⟩, 9), (⟨"ContentLibrary", "admit", "(LContentLibrary$Kept;I)V"⟩, 9), (⟨"ContentLibrary", "setUsed", "(LContentLibrary$Kept;Z)V"⟩, 9), (⟨"ContentLibrary", "countKept", "()I"⟩, 9), (⟨"ContentLibrary", "countFreeBlocks", "()I"⟩, 9), (⟨"ContentLibrary", "countMade", "()I"⟩, 9), (⟨"ContentLibrary", "refuseWhenCut", "()V"⟩, 9), (⟨"java/lang/Throwable", "fillInStackTrace", "(I)Ljava/lang/Throwable;"⟩, 6)]
theorem lw_r1 : ∀ q ∈ lw_privs_1, lw_okq q := List.forall_mem_cons.mpr ⟨lw_p0, List.forall_mem_cons.mpr ⟨lw_p1, List.forall_mem_cons.mpr ⟨lw_p2, List.forall_mem_cons.mpr ⟨lw_p3, List.forall_mem_cons.mpr ⟨lw_p4, List.forall_mem_cons.mpr ⟨lw_p5, List.forall_mem_cons.mpr ⟨lw_p6, List.forall_mem_cons.mpr ⟨lw_p7, List.forall_mem_cons.mpr ⟨lw_p8, List.forall_mem_cons.mpr ⟨lw_p9, List.forall_mem_cons.mpr ⟨lw_p10, List.forall_mem_cons.mpr ⟨lw_p11, List.forall_mem_cons.mpr ⟨lw_p12, List.forall_mem_cons.mpr ⟨lw_p13, List.forall_mem_cons.mpr ⟨lw_p14, List.forall_mem_cons.mpr ⟨lw_p15, fun _ h => absurd h List.not_mem_nil⟩⟩⟩⟩⟩⟩⟩⟩⟩⟩⟩⟩⟩⟩⟩⟩
theorem lw_p16 : lw_okq (⟨"ContentLibrary", "pictureBeingMade", "(I)LContentLibrary$Picture;"⟩, 9) := ⟨⟨by decide +kernel, by decide +kernel⟩, List.mem_of_getElem? (i := 20) (by decide +kernel), List.mem_of_getElem? (i := 454) (by decide +kernel), List.mem_of_getElem? (i := 455) (by decide +kernel)⟩
theorem lw_p17 : lw_okq (⟨"ContentLibrary", "freeNumber", "()I"⟩, 9) := ⟨⟨by decide +kernel, by decide +kernel⟩, List.mem_of_getElem? (i := 20) (by decide +kernel), List.mem_of_getElem? (i := 492) (by decide +kernel), List.mem_of_getElem? (i := 493) (by decide +kernel)⟩
theorem lw_p18 : lw_okq (⟨"ContentLibrary", "choosePlaces", "(LContentLibrary$Kept;I)Z"⟩, 9) := ⟨⟨by decide +kernel, by decide +kernel⟩, List.mem_of_getElem? (i := 20) (by decide +kernel), List.mem_of_getElem? (i := 501) (by decide +kernel), List.mem_of_getElem? (i := 502) (by decide +kernel)⟩
theorem lw_p19 : lw_okq (⟨"ContentLibrary", "commit", "(ILContentLibrary$Picture;)Z"⟩, 9) := ⟨⟨by decide +kernel, by decide +kernel⟩, List.mem_of_getElem? (i := 20) (by decide +kernel), List.mem_of_getElem? (i := 506) (by decide +kernel), List.mem_of_getElem? (i := 507) (by decide +kernel)⟩
theorem lw_p20 : lw_okq (⟨"ContentLibrary", "wipeFreeBlocks", "(I)I"⟩, 9) := ⟨⟨by decide +kernel, by decide +kernel⟩, List.mem_of_getElem? (i := 20) (by decide +kernel), List.mem_of_getElem? (i := 510) (by decide +kernel), List.mem_of_getElem? (i := 511) (by decide +kernel)⟩
theorem lw_p21 : lw_okq (⟨"ContentLibrary$Blocks", "put", "(III)Z"⟩, 5) := ⟨⟨by decide +kernel, by decide +kernel⟩, List.mem_of_getElem? (i := 34) (by decide +kernel), List.mem_of_getElem? (i := 518) (by decide +kernel), List.mem_of_getElem? (i := 519) (by decide +kernel)⟩
theorem lw_p22 : lw_okq (⟨"ContentLibrary$Blocks", "beginImage", "(IIII)V"⟩, 5) := ⟨⟨by decide +kernel, by decide +kernel⟩, List.mem_of_getElem? (i := 34) (by decide +kernel), List.mem_of_getElem? (i := 529) (by decide +kernel), List.mem_of_getElem? (i := 530) (by decide +kernel)⟩
theorem lw_p23 : lw_okq (⟨"ContentLibrary$Blocks", "writeImage", "(I)Z"⟩, 5) := ⟨⟨by decide +kernel, by decide +kernel⟩, List.mem_of_getElem? (i := 34) (by decide +kernel), List.mem_of_getElem? (i := 534) (by decide +kernel), List.mem_of_getElem? (i := 535) (by decide +kernel)⟩
theorem lw_p24 : lw_okq (⟨"ContentLibrary", "afterCut", "()I"⟩, 9) := ⟨⟨by decide +kernel, by decide +kernel⟩, List.mem_of_getElem? (i := 20) (by decide +kernel), List.mem_of_getElem? (i := 548) (by decide +kernel), List.mem_of_getElem? (i := 549) (by decide +kernel)⟩
theorem lw_p25 : lw_okq (⟨"ContentLibrary", "keptAt", "(I)LContentLibrary$Kept;"⟩, 9) := ⟨⟨by decide +kernel, by decide +kernel⟩, List.mem_of_getElem? (i := 20) (by decide +kernel), List.mem_of_getElem? (i := 559) (by decide +kernel), List.mem_of_getElem? (i := 560) (by decide +kernel)⟩
theorem lw_p26 : lw_okq (⟨"ContentLibrary", "enterFound", "(II)V"⟩, 9) := ⟨⟨by decide +kernel, by decide +kernel⟩, List.mem_of_getElem? (i := 20) (by decide +kernel), List.mem_of_getElem? (i := 597) (by decide +kernel), List.mem_of_getElem? (i := 598) (by decide +kernel)⟩
theorem lw_p27 : lw_okq (⟨"ContentLibrary", "refuseUnlessByte", "(II)V"⟩, 9) := ⟨⟨by decide +kernel, by decide +kernel⟩, List.mem_of_getElem? (i := 20) (by decide +kernel), List.mem_of_getElem? (i := 639) (by decide +kernel), List.mem_of_getElem? (i := 640) (by decide +kernel)⟩
theorem lw_p28 : lw_okq (⟨"ContentLibraryModel", "isMade", "(I)Z"⟩, 31) := ⟨⟨by decide +kernel, by decide +kernel⟩, List.mem_of_getElem? (i := 656) (by decide +kernel), List.mem_of_getElem? (i := 780) (by decide +kernel), List.mem_of_getElem? (i := 781) (by decide +kernel)⟩
theorem lw_p29 : lw_okq (⟨"ContentLibraryModel", "isWhole", "(I)Z"⟩, 31) := ⟨⟨by decide +kernel, by decide +kernel⟩, List.mem_of_getElem? (i := 656) (by decide +kernel), List.mem_of_getElem? (i := 784) (by decide +kernel), List.mem_of_getElem? (i := 785) (by decide +kernel)⟩
theorem lw_p30 : lw_okq (⟨"ContentLibraryModel", "numberWith", "(I)I"⟩, 31) := ⟨⟨by decide +kernel, by decide +kernel⟩, List.mem_of_getElem? (i := 656) (by decide +kernel), List.mem_of_getElem? (i := 792) (by decide +kernel), List.mem_of_getElem? (i := 793) (by decide +kernel)⟩
theorem lw_p31 : lw_okq (⟨"ContentLibraryModel", "tell", "(II[II)V"⟩, 31) := ⟨⟨by decide +kernel, by decide +kernel⟩, List.mem_of_getElem? (i := 656) (by decide +kernel), List.mem_of_getElem? (i := 796) (by decide +kernel), List.mem_of_getElem? (i := 797) (by decide +kernel)⟩
def lw_privs_2 : List (MethodName × Nat) := [(⟨"ContentLibrary", "pictureBeingMade", "(I)LContentLibrary$Picture;"⟩, 9), (⟨"ContentLibrary", "freeNumber", "()I"⟩, 9), (⟨"ContentLibrary", "choosePlaces", "(LContentLibrary$Kept;I)Z"⟩, 9), (⟨"ContentLibrary", "commit", "(ILContentLibrary$Picture;)Z"⟩, 9), (⟨"ContentLibrary", "wipeFreeBlocks", "(I)I"⟩, 9), (⟨"ContentLibrary$Blocks", "put", "(III)Z"⟩, 5), (⟨"ContentLibrary$Blocks", "beginImage", "(IIII)V"⟩, 5), (⟨"ContentLibrary$Blocks", "writeImage", "(I)Z"⟩, 5), (⟨"ContentLibrary", "afterCut", "()I"⟩, 9), (⟨"ContentLibrary", "keptAt", "(I)LContentLibrary$Kept;"⟩, 9), (⟨"ContentLibrary", "enterFound", "(II)V"⟩, 9), (⟨"ContentLibrary", "refuseUnlessByte", "(II)V"⟩, 9), (⟨"ContentLibraryModel", "isMade", "(I)Z"⟩, 31), (⟨"ContentLibraryModel", "isWhole", "(I)Z"⟩, 31), (⟨"ContentLibraryModel", "numberWith", "(I)I"⟩, 31), (⟨"ContentLibraryModel", "tell", "(II[II)V"⟩, 31)]
theorem lw_r2 : ∀ q ∈ lw_privs_2, lw_okq q := List.forall_mem_cons.mpr ⟨lw_p16, List.forall_mem_cons.mpr ⟨lw_p17, List.forall_mem_cons.mpr ⟨lw_p18, List.forall_mem_cons.mpr ⟨lw_p19, List.forall_mem_cons.mpr ⟨lw_p20, List.forall_mem_cons.mpr ⟨lw_p21, List.forall_mem_cons.mpr ⟨lw_p22, List.forall_mem_cons.mpr ⟨lw_p23, List.forall_mem_cons.mpr ⟨lw_p24, List.forall_mem_cons.mpr ⟨lw_p25, List.forall_mem_cons.mpr ⟨lw_p26, List.forall_mem_cons.mpr ⟨lw_p27, List.forall_mem_cons.mpr ⟨lw_p28, List.forall_mem_cons.mpr ⟨lw_p29, List.forall_mem_cons.mpr ⟨lw_p30, List.forall_mem_cons.mpr ⟨lw_p31, fun _ h => absurd h List.not_mem_nil⟩⟩⟩⟩⟩⟩⟩⟩⟩⟩⟩⟩⟩⟩⟩⟩
theorem lw_p32 : lw_okq (⟨"ContentLibraryModel", "digestOf", "()V"⟩, 31) := ⟨⟨by decide +kernel, by decide +kernel⟩, List.mem_of_getElem? (i := 656) (by decide +kernel), List.mem_of_getElem? (i := 800) (by decide +kernel), List.mem_of_getElem? (i := 801) (by decide +kernel)⟩
theorem lw_p33 : lw_okq (⟨"ContentLibraryModel", "block", "(I)V"⟩, 31) := ⟨⟨by decide +kernel, by decide +kernel⟩, List.mem_of_getElem? (i := 656) (by decide +kernel), List.mem_of_getElem? (i := 804) (by decide +kernel), List.mem_of_getElem? (i := 805) (by decide +kernel)⟩
theorem lw_p34 : lw_okq (⟨"ContentLibraryModel", "freeBlocks", "()I"⟩, 31) := ⟨⟨by decide +kernel, by decide +kernel⟩, List.mem_of_getElem? (i := 656) (by decide +kernel), List.mem_of_getElem? (i := 811) (by decide +kernel), List.mem_of_getElem? (i := 812) (by decide +kernel)⟩
theorem lw_p35 : lw_okq (⟨"ContentLibraryModel", "isNothing", "(I)Z"⟩, 31) := ⟨⟨by decide +kernel, by decide +kernel⟩, List.mem_of_getElem? (i := 656) (by decide +kernel), List.mem_of_getElem? (i := 815) (by decide +kernel), List.mem_of_getElem? (i := 816) (by decide +kernel)⟩
theorem lw_p36 : lw_okq (⟨"ContentLibraryModel", "wipe", "(I)V"⟩, 31) := ⟨⟨by decide +kernel, by decide +kernel⟩, List.mem_of_getElem? (i := 656) (by decide +kernel), List.mem_of_getElem? (i := 819) (by decide +kernel), List.mem_of_getElem? (i := 820) (by decide +kernel)⟩
theorem lw_p37 : lw_okq (⟨"ContentLibraryModel", "write", "(II)V"⟩, 31) := ⟨⟨by decide +kernel, by decide +kernel⟩, List.mem_of_getElem? (i := 656) (by decide +kernel), List.mem_of_getElem? (i := 823) (by decide +kernel), List.mem_of_getElem? (i := 824) (by decide +kernel)⟩
theorem lw_p38 : lw_okq (⟨"ContentLibraryModel", "writeBlock", "(IIIIIII)V"⟩, 31) := ⟨⟨by decide +kernel, by decide +kernel⟩, List.mem_of_getElem? (i := 656) (by decide +kernel), List.mem_of_getElem? (i := 827) (by decide +kernel), List.mem_of_getElem? (i := 828) (by decide +kernel)⟩
theorem lw_p39 : lw_okq (⟨"ContentLibraryModel", "byteFor", "(IIIIIII)I"⟩, 31) := ⟨⟨by decide +kernel, by decide +kernel⟩, List.mem_of_getElem? (i := 656) (by decide +kernel), List.mem_of_getElem? (i := 831) (by decide +kernel), List.mem_of_getElem? (i := 832) (by decide +kernel)⟩
theorem lw_p40 : lw_okq (⟨"ContentLibraryModel", "isGone", "()Z"⟩, 31) := ⟨⟨by decide +kernel, by decide +kernel⟩, List.mem_of_getElem? (i := 656) (by decide +kernel), List.mem_of_getElem? (i := 836) (by decide +kernel), List.mem_of_getElem? (i := 837) (by decide +kernel)⟩
theorem lw_p41 : lw_okq (⟨"ContentLibraryModel", "forget", "()V"⟩, 31) := ⟨⟨by decide +kernel, by decide +kernel⟩, List.mem_of_getElem? (i := 656) (by decide +kernel), List.mem_of_getElem? (i := 840) (by decide +kernel), List.mem_of_getElem? (i := 841) (by decide +kernel)⟩
theorem lw_p42 : lw_okq (⟨"ContentLibraryModel", "isThere", "(I)Z"⟩, 31) := ⟨⟨by decide +kernel, by decide +kernel⟩, List.mem_of_getElem? (i := 656) (by decide +kernel), List.mem_of_getElem? (i := 851) (by decide +kernel), List.mem_of_getElem? (i := 852) (by decide +kernel)⟩
theorem lw_p43 : lw_okq (⟨"ContentLibraryModel", "openNumber", "(I)V"⟩, 31) := ⟨⟨by decide +kernel, by decide +kernel⟩, List.mem_of_getElem? (i := 656) (by decide +kernel), List.mem_of_getElem? (i := 890) (by decide +kernel), List.mem_of_getElem? (i := 891) (by decide +kernel)⟩
theorem lw_p44 : lw_okq (⟨"ContentLibraryModel", "only", "(III)I"⟩, 31) := ⟨⟨by decide +kernel, by decide +kernel⟩, List.mem_of_getElem? (i := 656) (by decide +kernel), List.mem_of_getElem? (i := 894) (by decide +kernel), List.mem_of_getElem? (i := 895) (by decide +kernel)⟩
theorem lw_p45 : lw_okq (⟨"ContentLibraryModel", "isGood", "(I)Z"⟩, 31) := ⟨⟨by decide +kernel, by decide +kernel⟩, List.mem_of_getElem? (i := 656) (by decide +kernel), List.mem_of_getElem? (i := 898) (by decide +kernel), List.mem_of_getElem? (i := 899) (by decide +kernel)⟩
theorem lw_p46 : lw_okq (⟨"ContentLibraryModel", "sumOf", "(I)I"⟩, 31) := ⟨⟨by decide +kernel, by decide +kernel⟩, List.mem_of_getElem? (i := 656) (by decide +kernel), List.mem_of_getElem? (i := 902) (by decide +kernel), List.mem_of_getElem? (i := 903) (by decide +kernel)⟩
def lw_privs_3 : List (MethodName × Nat) := [(⟨"ContentLibraryModel", "digestOf", "()V"⟩, 31), (⟨"ContentLibraryModel", "block", "(I)V"⟩, 31), (⟨"ContentLibraryModel", "freeBlocks", "()I"⟩, 31), (⟨"ContentLibraryModel", "isNothing", "(I)Z"⟩, 31), (⟨"ContentLibraryModel", "wipe", "(I)V"⟩, 31), (⟨"ContentLibraryModel", "write", "(II)V"⟩, 31), (⟨"ContentLibraryModel", "writeBlock", "(IIIIIII)V"⟩, 31), (⟨"ContentLibraryModel", "byteFor", "(IIIIIII)I"⟩, 31), (⟨"ContentLibraryModel", "isGone", "()Z"⟩, 31), (⟨"ContentLibraryModel", "forget", "()V"⟩, 31), (⟨"ContentLibraryModel", "isThere", "(I)Z"⟩, 31), (⟨"ContentLibraryModel", "openNumber", "(I)V"⟩, 31), (⟨"ContentLibraryModel", "only", "(III)I"⟩, 31), (⟨"ContentLibraryModel", "isGood", "(I)Z"⟩, 31), (⟨"ContentLibraryModel", "sumOf", "(I)I"⟩, 31)]
theorem lw_r3 : ∀ q ∈ lw_privs_3, lw_okq q := List.forall_mem_cons.mpr ⟨lw_p32, List.forall_mem_cons.mpr ⟨lw_p33, List.forall_mem_cons.mpr ⟨lw_p34, List.forall_mem_cons.mpr ⟨lw_p35, List.forall_mem_cons.mpr ⟨lw_p36, List.forall_mem_cons.mpr ⟨lw_p37, List.forall_mem_cons.mpr ⟨lw_p38, List.forall_mem_cons.mpr ⟨lw_p39, List.forall_mem_cons.mpr ⟨lw_p40, List.forall_mem_cons.mpr ⟨lw_p41, List.forall_mem_cons.mpr ⟨lw_p42, List.forall_mem_cons.mpr ⟨lw_p43, List.forall_mem_cons.mpr ⟨lw_p44, List.forall_mem_cons.mpr ⟨lw_p45, List.forall_mem_cons.mpr ⟨lw_p46, fun _ h => absurd h List.not_mem_nil⟩⟩⟩⟩⟩⟩⟩⟩⟩⟩⟩⟩⟩⟩⟩
def lw_privs : List (MethodName × Nat) := lw_privs_1 ++ (lw_privs_2 ++ (lw_privs_3))
def lw_tbl : List Cond := k2_sels lw_privs ++ tables_1
theorem lw_privs_ok : ∀ q ∈ lw_privs, lw_okq q := by
  show ∀ q ∈ lw_privs_1 ++ (lw_privs_2 ++ (lw_privs_3)), lw_okq q
  exact List.forall_mem_append.mpr ⟨lw_r1, List.forall_mem_append.mpr ⟨lw_r2, lw_r3⟩⟩
-- ===== end of PART A; then your names; then what follows =====
end
section
/-! THE WORDS: the tables' words that stay good; every method's list is its own code and these -/
def x_big : List Cond := lw_tbl.filter goodWord
theorem x_bt (i : Nat) {w : Cond} (h : tables_1[i]? = some w) (hg : goodWord w = true) : w ∈ x_big :=
  List.mem_filter.mpr ⟨List.mem_append_right _ (List.mem_of_getElem? h), hg⟩
theorem x_bs (i : Nat) {w : Cond} (h : (k2_sels lw_privs)[i]? = some w) (hg : goodWord w = true) : w ∈ x_big :=
  List.mem_filter.mpr ⟨List.mem_append_left _ (List.mem_of_getElem? h), hg⟩
theorem x_bg {w : Cond} (h : w ∈ x_big) : w ∈ lw_tbl ∧ goodWord w = true := List.mem_filter.mp h
abbrev x_ws (y : MethodName) (c : ByteArray) (n : Nat) (r : Option FieldType) : List Cond := Cond.code y c n r :: x_big
theorem x_gws {y : MethodName} {c : ByteArray} {n : Nat} {r : Option FieldType} (h : Cond.code y c n r ∈ x_big) : GoodIn x_big (x_ws y c n r) := by
  intro w hw
  have hm : w ∈ x_big := (List.mem_cons.mp hw).elim (fun e => e ▸ h) id
  exact ⟨hm, good_of_word (x_bg hm).2⟩
theorem x_gV {own : String} {idx : Nat} {C : String} {y : MethodName} {c : ByteArray} {n : Nat} {r : Option FieldType} (h1 : Cond.methodLink own idx y ∈ x_big) (h2 : Cond.instanceMethod y ∈ x_big) (h3 : Cond.selects C y y ∈ x_big) (h4 : Cond.initialized C ∈ x_big) (h5 : Cond.code y c n r ∈ x_big) : GoodIn x_big (wsV own idx C y (x_ws y c n r)) := by
  intro w hw
  rcases List.mem_append.mp hw with h | h
  · have hm : w ∈ x_big := by
      simp only [List.mem_cons, List.not_mem_nil, or_false] at h
      rcases h with rfl | rfl | rfl | rfl <;> assumption
    exact ⟨hm, good_of_word (x_bg hm).2⟩
  · exact x_gws h5 w h
theorem x_gS {own : String} {idx : Nat} {y : MethodName} {c : ByteArray} {n : Nat} {r : Option FieldType} (h1 : Cond.methodLink own idx y ∈ x_big) (h2 : Cond.static y ∈ x_big) (h4 : Cond.initialized y.cls ∈ x_big) (h5 : Cond.code y c n r ∈ x_big) : GoodIn x_big (va_wsS own idx y (x_ws y c n r)) := by
  intro w hw
  rcases List.mem_append.mp hw with h | h
  · have hm : w ∈ x_big := by
      simp only [List.mem_cons, List.not_mem_nil, or_false] at h
      rcases h with rfl | rfl | rfl <;> assumption
    exact ⟨hm, good_of_word (x_bg hm).2⟩
  · exact x_gws h5 w h
/-! PURE WORDS: a state is what the int cells and the long cells hold, by cell and place -/
abbrev x_St : Type := (Nat → Nat → Int32) × (Nat → Nat → Int64)
def x_put (z : x_St) (k j : Nat) (v : Int32) : x_St := (va_up z.1 k (upd (z.1 k) j v), z.2)
def x_putL (z : x_St) (k j : Nat) (v : Int64) : x_St := (z.1, va_up z.2 k (vp_updL (z.2 k) j v))
def x_cpy (z : x_St) (k1 sp k2 dp w : Nat) : x_St := (va_up z.1 k2 (va_cpy (z.1 k1) (z.1 k2) sp dp w), z.2)
def x_cpyT (z : x_St) (f : Nat → Int32) (sp k2 dp w : Nat) : x_St := (va_up z.1 k2 (va_cpy f (z.1 k2) sp dp w), z.2)
def x_ushr (x y : Int32) : Int32 := (x.toUInt32 >>> (y.toUInt32 &&& Int32.toUInt32 31)).toInt32
def x_lshl (x : Int64) (y : Int32) : Int64 := x <<< (y.toInt64 &&& 63)
def x_lushr (x : Int64) (y : Int32) : Int64 := (x.toUInt64 >>> (y.toInt64.toUInt64 &&& Int64.toUInt64 63)).toInt64
def x_FU : Nat := 1000000
/-- a place that must be in its row -/
def x_ck {β : Type} (i : Int32) (n : Nat) (K : Option β) : Option β := if i < 0 ∨ n ≤ i.toNatClampNeg then none else K
theorem x_ck_some {β : Type} {i : Int32} {n : Nat} {K : Option β} {o : β} (h : x_ck i n K = some o) : vp_in i n ∧ K = some o := by
  unfold x_ck at h
  by_cases hc : i < 0 ∨ n ≤ i.toNatClampNeg
  · rw [if_pos hc] at h; cases h
  · rw [if_neg hc] at h; exact ⟨hc, h⟩
def x_nz {β : Type} (y : Int32) (K : Option β) : Option β := if y = 0 then none else K
theorem x_nz_some {β : Type} {y : Int32} {K : Option β} {o : β} (h : x_nz y K = some o) : ¬ y = 0 ∧ K = some o := by
  unfold x_nz at h
  by_cases hc : y = 0
  · rw [if_pos hc] at h; cases h
  · rw [if_neg hc] at h; exact ⟨hc, h⟩
def x_ckb {β : Type} (y : Int32) (K : Option β) : Option β := if y = 0 ∨ y = 1 then K else none
theorem x_ckb_some {β : Type} {y : Int32} {K : Option β} {o : β} (h : x_ckb y K = some o) : (y = 0 ∨ y = 1) ∧ K = some o := by
  unfold x_ckb at h
  by_cases hc : y = 0 ∨ y = 1
  · rw [if_pos hc] at h; exact ⟨hc, h⟩
  · rw [if_neg hc] at h; cases h
theorem x_nb {y : Int32} (h : y = 0 ∨ y = 1) : narrow .boolean (.int y) = .int y := by
  rcases h with rfl | rfl <;> rfl
def x_ckc {β : Type} (sp dp w : Int32) (n0 n1 : Nat) (K : Option β) : Option β := if sp < 0 ∨ dp < 0 ∨ w < 0 ∨ n0 < sp.toNatClampNeg + w.toNatClampNeg ∨ n1 < dp.toNatClampNeg + w.toNatClampNeg then none else K
theorem x_ckc_some {β : Type} {sp dp w : Int32} {n0 n1 : Nat} {K : Option β} {o : β} (h : x_ckc sp dp w n0 n1 K = some o) : ¬ sp < 0 ∧ ¬ dp < 0 ∧ ¬ w < 0 ∧ sp.toNatClampNeg + w.toNatClampNeg ≤ n0 ∧ dp.toNatClampNeg + w.toNatClampNeg ≤ n1 ∧ K = some o := by
  unfold x_ckc at h
  by_cases hc : sp < 0 ∨ dp < 0 ∨ w < 0 ∨ n0 < sp.toNatClampNeg + w.toNatClampNeg ∨ n1 < dp.toNatClampNeg + w.toNatClampNeg
  · rw [if_pos hc] at h; cases h
  · rw [if_neg hc] at h
    refine ⟨fun q => hc (Or.inl q), fun q => hc (Or.inr (Or.inl q)), fun q => hc (Or.inr (Or.inr (Or.inl q))), Nat.not_lt.mp fun q => hc (Or.inr (Or.inr (Or.inr (Or.inl q)))), Nat.not_lt.mp fun q => hc (Or.inr (Or.inr (Or.inr (Or.inr q)))), h⟩
theorem x_br_t {β : Type} {c : Prop} [Decidable c] {A B : Option β} {o : β} (h : (if c then A else B) = some o) (hc : c) : A = some o := by rw [if_pos hc] at h; exact h
theorem x_br_f {β : Type} {c : Prop} [Decidable c] {A B : Option β} {o : β} (h : (if c then A else B) = some o) (hc : ¬ c) : B = some o := by rw [if_neg hc] at h; exact h
/-- a call that returns -/
def x_cl {α β : Type} (o : Option (α × x_St)) (K : α → x_St → Option β) : Option β := match o with
  | none => none
  | some (r, z) => K r z
theorem x_cl_some {α β : Type} {o : Option (α × x_St)} {K : α → x_St → Option β} {b : β} (h : x_cl o K = some b) : ∃ r z, o = some (r, z) ∧ K r z = some b := by
  cases o with
  | none => cases h
  | some q => exact ⟨q.1, q.2, rfl, h⟩
/-- a call that returns or throws, in a method that may throw -/
def x_clx {α β : Type} (o : Option ((String ⊕ α) × x_St)) (K : α → x_St → Option ((String ⊕ β) × x_St)) : Option ((String ⊕ β) × x_St) := match o with
  | none => none
  | some (.inl E, z) => some (.inl E, z)
  | some (.inr r, z) => K r z
theorem x_clx_some {α β : Type} {o : Option ((String ⊕ α) × x_St)} {K : α → x_St → Option ((String ⊕ β) × x_St)} {b : (String ⊕ β) × x_St} (h : x_clx o K = some b) : ∃ q z, o = some (q, z) ∧ (∀ E, q = .inl E → b = (.inl E, z)) ∧ ∀ r, q = .inr r → K r z = some b := by
  cases o with
  | none => cases h
  | some q =>
    obtain ⟨a, z⟩ := q
    refine ⟨a, z, rfl, ?_, ?_⟩
    · intro E e; subst e; exact (Option.some.inj h).symm
    · intro r e; subst e; exact h
theorem x_clx_r {α β : Type} {o : Option ((String ⊕ α) × x_St)} {K : α → x_St → Option ((String ⊕ β) × x_St)} {r : β} {z9 : x_St} (h : x_clx o K = some (.inr r, z9)) : ∃ r1 z1, o = some (.inr r1, z1) ∧ K r1 z1 = some (.inr r, z9) := by
  rcases o with _ | ⟨a | a, y⟩
  · cases h
  · cases h
  · exact ⟨a, y, rfl, h⟩
theorem x_clx_x {α β : Type} {o : Option ((String ⊕ α) × x_St)} {K : α → x_St → Option ((String ⊕ β) × x_St)} {E : String} {z9 : x_St} (h : x_clx o K = some (.inl E, z9)) : o = some (.inl E, z9) ∨ ∃ r1 z1, o = some (.inr r1, z1) ∧ K r1 z1 = some (.inl E, z9) := by
  rcases o with _ | ⟨a | a, y⟩
  · cases h
  · cases h; exact Or.inl rfl
  · exact Or.inr ⟨a, y, rfl, h⟩
theorem x_retr {α : Type} {a b : α} {y z : x_St} (h : some ((Sum.inr a : String ⊕ α), y) = some (.inr b, z)) : a = b ∧ y = z := by
  cases h; exact ⟨rfl, rfl⟩
theorem x_retx {α : Type} {a b : String} {y z : x_St} (h : some ((Sum.inl a : String ⊕ α), y) = some (.inl b, z)) : a = b ∧ y = z := by
  cases h; exact ⟨rfl, rfl⟩
theorem x_no_r {α : Type} {a : String} {b : α} {y z : x_St} : ¬ some ((Sum.inl a : String ⊕ α), y) = some (.inr b, z) := fun h => by cases h
theorem x_no_x {α : Type} {a : α} {b : String} {y z : x_St} : ¬ some ((Sum.inr a : String ⊕ α), y) = some (.inl b, z) := fun h => by cases h
theorem x_ret {α : Type} {a b : α} {y z : x_St} (h : some (a, y) = some (b, z)) : a = b ∧ y = z := by
  cases h; exact ⟨rfl, rfl⟩
theorem x_put_self (z : x_St) (k j : Nat) (v : Int32) : (x_put z k j v).1 k = upd (z.1 k) j v := va_up_self _ _ _
theorem x_put_ne (z : x_St) {k i : Nat} (j : Nat) (v : Int32) (h : i ≠ k) : (x_put z k j v).1 i = z.1 i := va_up_ne _ _ h
theorem x_putL_self (z : x_St) (k j : Nat) (v : Int64) : (x_putL z k j v).2 k = vp_updL (z.2 k) j v := va_up_self _ _ _
theorem x_putL_ne (z : x_St) {k i : Nat} (j : Nat) (v : Int64) (h : i ≠ k) : (x_putL z k j v).2 i = z.2 i := va_up_ne _ _ h
/-! A WORLD: so many cells, each by its number, and others beside them -/
def w_Wd (cf : Nat → (Nat → Int32) → (Nat → Int64) → va_E) (tot : Nat) (ad : Nat → Nat) (rs : va_W) (z : x_St) : va_W := (List.range tot).map (fun k => (ad k, cf k (z.1 k) (z.2 k))) ++ rs
theorem w_get {cf : Nat → (Nat → Int32) → (Nat → Int64) → va_E} {tot : Nat} {ad : Nat → Nat} {rs : va_W} {z : x_St} {k : Nat} (hk : k < tot) : (w_Wd cf tot ad rs z)[k]? = some (ad k, cf k (z.1 k) (z.2 k)) := by
  unfold w_Wd
  rw [List.getElem?_append_left (by simpa using hk), List.getElem?_map, List.getElem?_range hk]
  rfl
theorem w_out {cf : Nat → (Nat → Int32) → (Nat → Int64) → va_E} {tot : Nat} {ad : Nat → Nat} {rs : va_W} {z : x_St} {k : Nat} (hk : ¬ k < tot) : (w_Wd cf tot ad rs z)[k]? = rs[k - tot]? := by
  unfold w_Wd
  rw [List.getElem?_append_right (by simpa using Nat.not_lt.mp hk)]
  simp
theorem w_len {cf : Nat → (Nat → Int32) → (Nat → Int64) → va_E} {tot : Nat} {ad : Nat → Nat} {rs : va_W} {z : x_St} : (w_Wd cf tot ad rs z).length = tot + rs.length := by
  unfold w_Wd
  simp
theorem w_set {cf : Nat → (Nat → Int32) → (Nat → Int64) → va_E} {tot : Nat} {ad : Nat → Nat} {rs : va_W} {k : Nat} {e : va_E} (z z' : x_St) (hk : k < tot) (he : e = cf k (z'.1 k) (z'.2 k)) (h1 : ∀ j, j ≠ k → z'.1 j = z.1 j) (h2 : ∀ j, j ≠ k → z'.2 j = z.2 j) : (w_Wd cf tot ad rs z).set k (ad k, e) = w_Wd cf tot ad rs z' := by
  apply List.ext_getElem?
  intro j
  by_cases hj : j = k
  · subst hj
    rw [List.getElem?_set_self (by rw [w_len]; omega), w_get hk, he]
  · rw [List.getElem?_set_ne (Ne.symm hj)]
    by_cases hb : j < tot
    · rw [w_get hb, w_get hb, h1 j hj, h2 j hj]
    · rw [w_out hb, w_out hb]
/-! THE SURROUNDINGS: class numbers, slots, array classes, addresses, how many blocks, where the old heap ends, the other cells -/
abbrev x_G : Type := (Nat → ClassId) × (Nat → Nat → Nat) × (Nat → ClassId) × (Nat → Nat) × Nat × Nat × va_W
abbrev x_D (G : x_G) : va_G := (G.1, G.2.1)
abbrev x_ca (G : x_G) : Nat → ClassId := G.2.2.1
abbrev x_ad (G : x_G) : Nat → Nat := G.2.2.2.1
abbrev x_n (G : x_G) : Nat := G.2.2.2.2.1
abbrev x_s0 (G : x_G) : Nat := G.2.2.2.2.2.1
abbrev x_rs (G : x_G) : va_W := G.2.2.2.2.2.2
def x_A (G : x_G) : Nat → Prop := fun q => x_s0 G ≤ q
end
section
theorem t_47 : Cond.laysFinal "ContentLibrary$Blocks" "ContentLibrary$Blocks" "count" "I" ∈ x_big := x_bt 47 (by decide +kernel) (by decide +kernel)
theorem t_49 : Cond.lays "ContentLibrary$Blocks" "ContentLibrary$Blocks" "fuse" "I" ∈ x_big := x_bt 49 (by decide +kernel) (by decide +kernel)
theorem t_51 : Cond.lays "ContentLibrary$Blocks" "ContentLibrary$Blocks" "cut" "Z" ∈ x_big := x_bt 51 (by decide +kernel) (by decide +kernel)
theorem t_53 : Cond.laysFinal "ContentLibrary$Blocks" "ContentLibrary$Blocks" "bytes" "[I" ∈ x_big := x_bt 53 (by decide +kernel) (by decide +kernel)
theorem t_55 : Cond.laysFinal "ContentLibrary$Blocks" "ContentLibrary$Blocks" "image" "[I" ∈ x_big := x_bt 55 (by decide +kernel) (by decide +kernel)
theorem t_72 : Cond.lays "ContentLibrary$Picture" "ContentLibrary$Picture" "there" "Z" ∈ x_big := x_bt 72 (by decide +kernel) (by decide +kernel)
theorem t_74 : Cond.laysFinal "ContentLibrary$Picture" "ContentLibrary$Picture" "message" "[I" ∈ x_big := x_bt 74 (by decide +kernel) (by decide +kernel)
theorem t_76 : Cond.lays "ContentLibrary$Picture" "ContentLibrary$Picture" "had" "I" ∈ x_big := x_bt 76 (by decide +kernel) (by decide +kernel)
theorem t_101 : Cond.lays "ContentLibrary$Kept" "ContentLibrary$Kept" "there" "Z" ∈ x_big := x_bt 101 (by decide +kernel) (by decide +kernel)
theorem t_103 : Cond.laysFinal "ContentLibrary$Kept" "ContentLibrary$Kept" "picture" "LContentLibrary$Picture;" ∈ x_big := x_bt 103 (by decide +kernel) (by decide +kernel)
theorem t_105 : Cond.laysFinal "ContentLibrary$Kept" "ContentLibrary$Kept" "digest" "[I" ∈ x_big := x_bt 105 (by decide +kernel) (by decide +kernel)
theorem t_107 : Cond.lays "ContentLibrary$Kept" "ContentLibrary$Kept" "print" "J" ∈ x_big := x_bt 107 (by decide +kernel) (by decide +kernel)
theorem t_109 : Cond.lays "ContentLibrary$Kept" "ContentLibrary$Kept" "recordBlocks" "I" ∈ x_big := x_bt 109 (by decide +kernel) (by decide +kernel)
theorem t_111 : Cond.laysFinal "ContentLibrary$Kept" "ContentLibrary$Kept" "places" "[I" ∈ x_big := x_bt 111 (by decide +kernel) (by decide +kernel)
theorem t_123 : Cond.laysFinal "ContentLibrary$Digester" "ContentLibrary$Digester" "padded" "[I" ∈ x_big := x_bt 123 (by decide +kernel) (by decide +kernel)
theorem t_125 : Cond.laysFinal "ContentLibrary$Digester" "ContentLibrary$Digester" "schedule" "[I" ∈ x_big := x_bt 125 (by decide +kernel) (by decide +kernel)
theorem t_127 : Cond.laysFinal "ContentLibrary$Digester" "ContentLibrary$Digester" "state" "[I" ∈ x_big := x_bt 127 (by decide +kernel) (by decide +kernel)
theorem t_139 : Cond.laysFinal "ContentLibrary" "ContentLibrary" "blocks" "LContentLibrary$Blocks;" ∈ x_big := x_bt 139 (by decide +kernel) (by decide +kernel)
theorem t_141 : Cond.laysFinal "ContentLibrary" "ContentLibrary" "used" "[Z" ∈ x_big := x_bt 141 (by decide +kernel) (by decide +kernel)
theorem t_143 : Cond.laysFinal "ContentLibrary" "ContentLibrary" "made" "[LContentLibrary$Picture;" ∈ x_big := x_bt 143 (by decide +kernel) (by decide +kernel)
theorem t_145 : Cond.laysFinal "ContentLibrary" "ContentLibrary" "kept" "[LContentLibrary$Kept;" ∈ x_big := x_bt 145 (by decide +kernel) (by decide +kernel)
theorem t_147 : Cond.laysFinal "ContentLibrary" "ContentLibrary" "digester" "LContentLibrary$Digester;" ∈ x_big := x_bt 147 (by decide +kernel) (by decide +kernel)
theorem t_149 : Cond.laysFinal "ContentLibrary" "ContentLibrary" "freshDigest" "[I" ∈ x_big := x_bt 149 (by decide +kernel) (by decide +kernel)
theorem t_151 : Cond.laysFinal "ContentLibrary" "ContentLibrary" "foundNumbers" "[I" ∈ x_big := x_bt 151 (by decide +kernel) (by decide +kernel)
theorem t_153 : Cond.laysFinal "ContentLibrary" "ContentLibrary" "foundBits" "[I" ∈ x_big := x_bt 153 (by decide +kernel) (by decide +kernel)
theorem t_155 : Cond.lays "ContentLibrary" "ContentLibrary" "foundCount" "I" ∈ x_big := x_bt 155 (by decide +kernel) (by decide +kernel)
theorem t_703 : Cond.lays "ContentLibraryModel" "ContentLibraryModel" "code" "I" ∈ x_big := x_bt 703 (by decide +kernel) (by decide +kernel)
theorem t_705 : Cond.laysFinal "ContentLibraryModel" "ContentLibraryModel" "blocks" "I" ∈ x_big := x_bt 705 (by decide +kernel) (by decide +kernel)
theorem t_707 : Cond.laysFinal "ContentLibraryModel" "ContentLibraryModel" "bytes" "[I" ∈ x_big := x_bt 707 (by decide +kernel) (by decide +kernel)
theorem t_709 : Cond.lays "ContentLibraryModel" "ContentLibraryModel" "cut" "Z" ∈ x_big := x_bt 709 (by decide +kernel) (by decide +kernel)
theorem t_711 : Cond.lays "ContentLibraryModel" "ContentLibraryModel" "left" "I" ∈ x_big := x_bt 711 (by decide +kernel) (by decide +kernel)
theorem t_713 : Cond.laysFinal "ContentLibraryModel" "ContentLibraryModel" "made" "[Z" ∈ x_big := x_bt 713 (by decide +kernel) (by decide +kernel)
theorem t_715 : Cond.laysFinal "ContentLibraryModel" "ContentLibraryModel" "widths" "[I" ∈ x_big := x_bt 715 (by decide +kernel) (by decide +kernel)
theorem t_717 : Cond.laysFinal "ContentLibraryModel" "ContentLibraryModel" "heights" "[I" ∈ x_big := x_bt 717 (by decide +kernel) (by decide +kernel)
theorem t_719 : Cond.laysFinal "ContentLibraryModel" "ContentLibraryModel" "many" "[I" ∈ x_big := x_bt 719 (by decide +kernel) (by decide +kernel)
theorem t_721 : Cond.laysFinal "ContentLibraryModel" "ContentLibraryModel" "samples" "[I" ∈ x_big := x_bt 721 (by decide +kernel) (by decide +kernel)
theorem t_723 : Cond.laysFinal "ContentLibraryModel" "ContentLibraryModel" "there" "[Z" ∈ x_big := x_bt 723 (by decide +kernel) (by decide +kernel)
theorem t_725 : Cond.laysFinal "ContentLibraryModel" "ContentLibraryModel" "wide" "[I" ∈ x_big := x_bt 725 (by decide +kernel) (by decide +kernel)
theorem t_727 : Cond.laysFinal "ContentLibraryModel" "ContentLibraryModel" "high" "[I" ∈ x_big := x_bt 727 (by decide +kernel) (by decide +kernel)
theorem t_729 : Cond.laysFinal "ContentLibraryModel" "ContentLibraryModel" "kept" "[I" ∈ x_big := x_bt 729 (by decide +kernel) (by decide +kernel)
theorem t_731 : Cond.laysFinal "ContentLibraryModel" "ContentLibraryModel" "markAt" "[I" ∈ x_big := x_bt 731 (by decide +kernel) (by decide +kernel)
theorem t_733 : Cond.laysFinal "ContentLibraryModel" "ContentLibraryModel" "records" "[I" ∈ x_big := x_bt 733 (by decide +kernel) (by decide +kernel)
theorem t_735 : Cond.laysFinal "ContentLibraryModel" "ContentLibraryModel" "recordAt" "[I" ∈ x_big := x_bt 735 (by decide +kernel) (by decide +kernel)
theorem t_737 : Cond.laysFinal "ContentLibraryModel" "ContentLibraryModel" "prints" "[J" ∈ x_big := x_bt 737 (by decide +kernel) (by decide +kernel)
theorem t_739 : Cond.laysFinal "ContentLibraryModel" "ContentLibraryModel" "owner" "[I" ∈ x_big := x_bt 739 (by decide +kernel) (by decide +kernel)
theorem t_741 : Cond.lays "ContentLibraryModel" "ContentLibraryModel" "foundMany" "I" ∈ x_big := x_bt 741 (by decide +kernel) (by decide +kernel)
theorem t_743 : Cond.laysFinal "ContentLibraryModel" "ContentLibraryModel" "foundNumber" "[I" ∈ x_big := x_bt 743 (by decide +kernel) (by decide +kernel)
theorem t_745 : Cond.laysFinal "ContentLibraryModel" "ContentLibraryModel" "foundBits" "[I" ∈ x_big := x_bt 745 (by decide +kernel) (by decide +kernel)
theorem t_747 : Cond.laysFinal "ContentLibraryModel" "ContentLibraryModel" "rounds" "[I" ∈ x_big := x_bt 747 (by decide +kernel) (by decide +kernel)
theorem t_749 : Cond.laysFinal "ContentLibraryModel" "ContentLibraryModel" "roots" "[I" ∈ x_big := x_bt 749 (by decide +kernel) (by decide +kernel)
theorem t_751 : Cond.laysFinal "ContentLibraryModel" "ContentLibraryModel" "words" "[I" ∈ x_big := x_bt 751 (by decide +kernel) (by decide +kernel)
theorem t_753 : Cond.laysFinal "ContentLibraryModel" "ContentLibraryModel" "state" "[I" ∈ x_big := x_bt 753 (by decide +kernel) (by decide +kernel)
theorem t_755 : Cond.laysFinal "ContentLibraryModel" "ContentLibraryModel" "message" "[I" ∈ x_big := x_bt 755 (by decide +kernel) (by decide +kernel)
theorem t_757 : Cond.lays "ContentLibraryModel" "ContentLibraryModel" "length" "I" ∈ x_big := x_bt 757 (by decide +kernel) (by decide +kernel)
theorem t_759 : Cond.laysFinal "ContentLibraryModel" "ContentLibraryModel" "first" "[I" ∈ x_big := x_bt 759 (by decide +kernel) (by decide +kernel)
theorem t_761 : Cond.laysFinal "ContentLibraryModel" "ContentLibraryModel" "chosen" "[I" ∈ x_big := x_bt 761 (by decide +kernel) (by decide +kernel)
theorem t_763 : Cond.laysFinal "ContentLibraryModel" "ContentLibraryModel" "chosenDigest" "[I" ∈ x_big := x_bt 763 (by decide +kernel) (by decide +kernel)
def x_TX : u_T := fun k => match k with
  | 0 => ("ContentLibrary", "blocks", "LContentLibrary$Blocks;", true)
  | 1 => ("ContentLibrary", "used", "[Z", true)
  | 2 => ("ContentLibrary", "made", "[LContentLibrary$Picture;", true)
  | 3 => ("ContentLibrary", "kept", "[LContentLibrary$Kept;", true)
  | 4 => ("ContentLibrary", "digester", "LContentLibrary$Digester;", true)
  | 5 => ("ContentLibrary", "freshDigest", "[I", true)
  | 6 => ("ContentLibrary", "foundNumbers", "[I", true)
  | 7 => ("ContentLibrary", "foundBits", "[I", true)
  | _ => ("ContentLibrary", "foundCount", "I", false)
def x_tyX : Nat → FieldType := fun k => match k with
  | 0 => .object "ContentLibrary$Blocks"
  | 1 => .array .boolean
  | 2 => .array (.object "ContentLibrary$Picture")
  | 3 => .array (.object "ContentLibrary$Kept")
  | 4 => .object "ContentLibrary$Digester"
  | 5 => .array .int
  | 6 => .array .int
  | 7 => .array .int
  | _ => .int
theorem x_nmX : ∀ a, a < 9 → ∀ b, b < 9 → a ≠ b → (x_TX a).2.1 ≠ (x_TX b).2.1 := by decide +kernel
theorem x_tyX_ok : ∀ k, k < 9 → parseFieldDescriptor (x_TX k).2.2.1 = some (x_tyX k) := by decide +kernel
theorem x_inX : ∀ w ∈ u_ws "ContentLibrary" x_TX 9, w ∈ x_big := List.forall_mem_map.mpr (fun k hk => by
  have hk := List.mem_range.mp hk
  match k, hk with
  | 0, _ => exact t_139
  | 1, _ => exact t_141
  | 2, _ => exact t_143
  | 3, _ => exact t_145
  | 4, _ => exact t_147
  | 5, _ => exact t_149
  | 6, _ => exact t_151
  | 7, _ => exact t_153
  | 8, _ => exact t_155
  | k + 9, hk => exact absurd hk (by omega))
def x_TB : u_T := fun k => match k with
  | 0 => ("ContentLibrary$Blocks", "count", "I", true)
  | 1 => ("ContentLibrary$Blocks", "fuse", "I", false)
  | 2 => ("ContentLibrary$Blocks", "cut", "Z", false)
  | 3 => ("ContentLibrary$Blocks", "bytes", "[I", true)
  | _ => ("ContentLibrary$Blocks", "image", "[I", true)
def x_tyB : Nat → FieldType := fun k => match k with
  | 0 => .int
  | 1 => .int
  | 2 => .boolean
  | 3 => .array .int
  | _ => .array .int
theorem x_nmB : ∀ a, a < 5 → ∀ b, b < 5 → a ≠ b → (x_TB a).2.1 ≠ (x_TB b).2.1 := by decide +kernel
theorem x_tyB_ok : ∀ k, k < 5 → parseFieldDescriptor (x_TB k).2.2.1 = some (x_tyB k) := by decide +kernel
theorem x_inB : ∀ w ∈ u_ws "ContentLibrary$Blocks" x_TB 5, w ∈ x_big := List.forall_mem_map.mpr (fun k hk => by
  have hk := List.mem_range.mp hk
  match k, hk with
  | 0, _ => exact t_47
  | 1, _ => exact t_49
  | 2, _ => exact t_51
  | 3, _ => exact t_53
  | 4, _ => exact t_55
  | k + 5, hk => exact absurd hk (by omega))
def x_TP : u_T := fun k => match k with
  | 0 => ("ContentLibrary$Picture", "there", "Z", false)
  | 1 => ("ContentLibrary$Picture", "message", "[I", true)
  | _ => ("ContentLibrary$Picture", "had", "I", false)
def x_tyP : Nat → FieldType := fun k => match k with
  | 0 => .boolean
  | 1 => .array .int
  | _ => .int
theorem x_nmP : ∀ a, a < 3 → ∀ b, b < 3 → a ≠ b → (x_TP a).2.1 ≠ (x_TP b).2.1 := by decide +kernel
theorem x_tyP_ok : ∀ k, k < 3 → parseFieldDescriptor (x_TP k).2.2.1 = some (x_tyP k) := by decide +kernel
theorem x_inP : ∀ w ∈ u_ws "ContentLibrary$Picture" x_TP 3, w ∈ x_big := List.forall_mem_map.mpr (fun k hk => by
  have hk := List.mem_range.mp hk
  match k, hk with
  | 0, _ => exact t_72
  | 1, _ => exact t_74
  | 2, _ => exact t_76
  | k + 3, hk => exact absurd hk (by omega))
def x_TK : u_T := fun k => match k with
  | 0 => ("ContentLibrary$Kept", "there", "Z", false)
  | 1 => ("ContentLibrary$Kept", "picture", "LContentLibrary$Picture;", true)
  | 2 => ("ContentLibrary$Kept", "digest", "[I", true)
  | 3 => ("ContentLibrary$Kept", "print", "J", false)
  | 4 => ("ContentLibrary$Kept", "recordBlocks", "I", false)
  | _ => ("ContentLibrary$Kept", "places", "[I", true)
def x_tyK : Nat → FieldType := fun k => match k with
  | 0 => .boolean
  | 1 => .object "ContentLibrary$Picture"
  | 2 => .array .int
  | 3 => .long
  | 4 => .int
  | _ => .array .int
theorem x_nmK : ∀ a, a < 6 → ∀ b, b < 6 → a ≠ b → (x_TK a).2.1 ≠ (x_TK b).2.1 := by decide +kernel
theorem x_tyK_ok : ∀ k, k < 6 → parseFieldDescriptor (x_TK k).2.2.1 = some (x_tyK k) := by decide +kernel
theorem x_inK : ∀ w ∈ u_ws "ContentLibrary$Kept" x_TK 6, w ∈ x_big := List.forall_mem_map.mpr (fun k hk => by
  have hk := List.mem_range.mp hk
  match k, hk with
  | 0, _ => exact t_101
  | 1, _ => exact t_103
  | 2, _ => exact t_105
  | 3, _ => exact t_107
  | 4, _ => exact t_109
  | 5, _ => exact t_111
  | k + 6, hk => exact absurd hk (by omega))
def x_TD : u_T := fun k => match k with
  | 0 => ("ContentLibrary$Digester", "padded", "[I", true)
  | 1 => ("ContentLibrary$Digester", "schedule", "[I", true)
  | _ => ("ContentLibrary$Digester", "state", "[I", true)
def x_tyD : Nat → FieldType := fun k => match k with
  | 0 => .array .int
  | 1 => .array .int
  | _ => .array .int
theorem x_nmD : ∀ a, a < 3 → ∀ b, b < 3 → a ≠ b → (x_TD a).2.1 ≠ (x_TD b).2.1 := by decide +kernel
theorem x_tyD_ok : ∀ k, k < 3 → parseFieldDescriptor (x_TD k).2.2.1 = some (x_tyD k) := by decide +kernel
theorem x_inD : ∀ w ∈ u_ws "ContentLibrary$Digester" x_TD 3, w ∈ x_big := List.forall_mem_map.mpr (fun k hk => by
  have hk := List.mem_range.mp hk
  match k, hk with
  | 0, _ => exact t_123
  | 1, _ => exact t_125
  | 2, _ => exact t_127
  | k + 3, hk => exact absurd hk (by omega))
def x_TM : u_T := fun k => match k with
  | 0 => ("ContentLibraryModel", "code", "I", false)
  | 1 => ("ContentLibraryModel", "blocks", "I", true)
  | 2 => ("ContentLibraryModel", "bytes", "[I", true)
  | 3 => ("ContentLibraryModel", "cut", "Z", false)
  | 4 => ("ContentLibraryModel", "left", "I", false)
  | 5 => ("ContentLibraryModel", "made", "[Z", true)
  | 6 => ("ContentLibraryModel", "widths", "[I", true)
  | 7 => ("ContentLibraryModel", "heights", "[I", true)
  | 8 => ("ContentLibraryModel", "many", "[I", true)
  | 9 => ("ContentLibraryModel", "samples", "[I", true)
  | 10 => ("ContentLibraryModel", "there", "[Z", true)
  | 11 => ("ContentLibraryModel", "wide", "[I", true)
  | 12 => ("ContentLibraryModel", "high", "[I", true)
  | 13 => ("ContentLibraryModel", "kept", "[I", true)
  | 14 => ("ContentLibraryModel", "markAt", "[I", true)
  | 15 => ("ContentLibraryModel", "records", "[I", true)
  | 16 => ("ContentLibraryModel", "recordAt", "[I", true)
  | 17 => ("ContentLibraryModel", "prints", "[J", true)
  | 18 => ("ContentLibraryModel", "owner", "[I", true)
  | 19 => ("ContentLibraryModel", "foundMany", "I", false)
  | 20 => ("ContentLibraryModel", "foundNumber", "[I", true)
  | 21 => ("ContentLibraryModel", "foundBits", "[I", true)
  | 22 => ("ContentLibraryModel", "rounds", "[I", true)
  | 23 => ("ContentLibraryModel", "roots", "[I", true)
  | 24 => ("ContentLibraryModel", "words", "[I", true)
  | 25 => ("ContentLibraryModel", "state", "[I", true)
  | 26 => ("ContentLibraryModel", "message", "[I", true)
  | 27 => ("ContentLibraryModel", "length", "I", false)
  | 28 => ("ContentLibraryModel", "first", "[I", true)
  | 29 => ("ContentLibraryModel", "chosen", "[I", true)
  | _ => ("ContentLibraryModel", "chosenDigest", "[I", true)
def x_tyM : Nat → FieldType := fun k => match k with
  | 0 => .int
  | 1 => .int
  | 2 => .array .int
  | 3 => .boolean
  | 4 => .int
  | 5 => .array .boolean
  | 6 => .array .int
  | 7 => .array .int
  | 8 => .array .int
  | 9 => .array .int
  | 10 => .array .boolean
  | 11 => .array .int
  | 12 => .array .int
  | 13 => .array .int
  | 14 => .array .int
  | 15 => .array .int
  | 16 => .array .int
  | 17 => .array .long
  | 18 => .array .int
  | 19 => .int
  | 20 => .array .int
  | 21 => .array .int
  | 22 => .array .int
  | 23 => .array .int
  | 24 => .array .int
  | 25 => .array .int
  | 26 => .array .int
  | 27 => .int
  | 28 => .array .int
  | 29 => .array .int
  | _ => .array .int
theorem x_nmM : ∀ a, a < 31 → ∀ b, b < 31 → a ≠ b → (x_TM a).2.1 ≠ (x_TM b).2.1 := by decide +kernel
theorem x_tyM_ok : ∀ k, k < 31 → parseFieldDescriptor (x_TM k).2.2.1 = some (x_tyM k) := by decide +kernel
theorem x_inM : ∀ w ∈ u_ws "ContentLibraryModel" x_TM 31, w ∈ x_big := List.forall_mem_map.mpr (fun k hk => by
  have hk := List.mem_range.mp hk
  match k, hk with
  | 0, _ => exact t_703
  | 1, _ => exact t_705
  | 2, _ => exact t_707
  | 3, _ => exact t_709
  | 4, _ => exact t_711
  | 5, _ => exact t_713
  | 6, _ => exact t_715
  | 7, _ => exact t_717
  | 8, _ => exact t_719
  | 9, _ => exact t_721
  | 10, _ => exact t_723
  | 11, _ => exact t_725
  | 12, _ => exact t_727
  | 13, _ => exact t_729
  | 14, _ => exact t_731
  | 15, _ => exact t_733
  | 16, _ => exact t_735
  | 17, _ => exact t_737
  | 18, _ => exact t_739
  | 19, _ => exact t_741
  | 20, _ => exact t_743
  | 21, _ => exact t_745
  | 22, _ => exact t_747
  | 23, _ => exact t_749
  | 24, _ => exact t_751
  | 25, _ => exact t_753
  | 26, _ => exact t_755
  | 27, _ => exact t_757
  | 28, _ => exact t_759
  | 29, _ => exact t_761
  | 30, _ => exact t_763
  | k + 31, hk => exact absurd hk (by omega))
abbrev vwCl : List vw_C := [("ContentLibrary", x_TX, 9), ("ContentLibrary$Blocks", x_TB, 5), ("ContentLibrary$Picture", x_TP, 3), ("ContentLibrary$Kept", x_TK, 6), ("ContentLibrary$Digester", x_TD, 3), ("ContentLibraryModel", x_TM, 31)]
end
section
/-! THE COMPONENT'S CELLS, by number, in the order in which they are made: 0 the library, 1 its blocks, 2 bytes, 3 image, 4 used, 5 made, 6 + 2 i a picture being made, 7 + 2 i its message, 22 kept, 23 + 5 i what is kept, then its picture, message, digest, places; 103 the digester, 104 padded, 105 schedule, 106 state, 107 the fresh digest, 108 and 109 what was found -/
def x_isP (k : Nat) : Bool := (decide (6 ≤ k) && decide (k < 22) && decide (k % 2 = 0)) || (decide (23 ≤ k) && decide (k < 103) && decide (k % 5 = 4))
def x_isK (k : Nat) : Bool := decide (23 ≤ k) && decide (k < 103) && decide (k % 5 = 3)
def x_isA (k : Nat) : Bool := decide (k < 110) && !(decide (k = 0) || decide (k = 1) || decide (k = 4) || decide (k = 5) || decide (k = 22) || decide (k = 103) || x_isP k || x_isK k)
def x_ln (n k : Nat) : Nat := if k = 2 then n * 64 else if k = 3 then 64 else if k < 22 then 66 else if k < 103 then (if k % 5 = 0 then 66 else if k % 5 = 1 then 8 else 3) else if k = 104 then 128 else if k = 105 then 64 else if k = 106 then 8 else if k = 107 then 8 else 16
theorem x_isP_iff {k : Nat} : x_isP k = true ↔ (6 ≤ k ∧ k < 22 ∧ k % 2 = 0) ∨ (23 ≤ k ∧ k < 103 ∧ k % 5 = 4) := by
  simp [x_isP, and_assoc]
theorem x_isK_iff {k : Nat} : x_isK k = true ↔ 23 ≤ k ∧ k < 103 ∧ k % 5 = 3 := by
  simp [x_isK, and_assoc]
theorem x_isA_iff {k : Nat} : x_isA k = true ↔ k < 110 ∧ k ≠ 0 ∧ k ≠ 1 ∧ k ≠ 4 ∧ k ≠ 5 ∧ k ≠ 22 ∧ k ≠ 103 ∧ x_isP k = false ∧ x_isK k = false := by
  simp [x_isA, and_assoc]
theorem x_isP_f {k : Nat} : x_isP k = false ↔ ¬ ((6 ≤ k ∧ k < 22 ∧ k % 2 = 0) ∨ (23 ≤ k ∧ k < 103 ∧ k % 5 = 4)) := by
  rw [← x_isP_iff]; cases x_isP k <;> simp
theorem x_isK_f {k : Nat} : x_isK k = false ↔ ¬ (23 ≤ k ∧ k < 103 ∧ k % 5 = 3) := by
  rw [← x_isK_iff]; cases x_isK k <;> simp
theorem x_P_A {k : Nat} (h : x_isP k = true) : x_isA (k + 1) = true := by
  rw [x_isP_iff] at h
  rw [x_isA_iff, x_isP_f, x_isK_f]; omega
theorem x_K_P {k : Nat} (h : x_isK k = true) : x_isP (k + 1) = true := by
  rw [x_isK_iff] at h
  rw [x_isP_iff]; omega
theorem x_K_A3 {k : Nat} (h : x_isK k = true) : x_isA (k + 3) = true := by
  rw [x_isK_iff] at h
  rw [x_isA_iff, x_isP_f, x_isK_f]; omega
theorem x_K_A4 {k : Nat} (h : x_isK k = true) : x_isA (k + 4) = true := by
  rw [x_isK_iff] at h
  rw [x_isA_iff, x_isP_f, x_isK_f]; omega
theorem x_in_lt {i : Int32} {n : Nat} (h : vp_in i n) : i.toNatClampNeg < n := Nat.not_le.mp fun q => h (Or.inr q)
theorem x_el_P {i : Int32} (h : vp_in i 8) : x_isP (6 + 2 * i.toNatClampNeg) = true := by
  have := x_in_lt h
  rw [x_isP_iff]; omega
theorem x_el_K {i : Int32} (h : vp_in i 16) : x_isK (23 + 5 * i.toNatClampNeg) = true := by
  have := x_in_lt h
  rw [x_isK_iff]; omega
def x_cell (G : x_G) (k : Nat) (f : Nat → Int32) (g : Nat → Int64) : va_E :=
  if k = 0 then .inr (0, [.ref (x_ad G 1), .ref (x_ad G 4), .ref (x_ad G 5), .ref (x_ad G 22), .ref (x_ad G 103), .ref (x_ad G 107), .ref (x_ad G 108), .ref (x_ad G 109), .int (f 8)])
  else if k = 1 then .inr (1, [.int (f 0), .int (f 1), .int (f 2), .ref (x_ad G 2), .ref (x_ad G 3)])
  else if k = 4 then .inl (x_ca G 1, x_n G, .inl f)
  else if k = 5 then .inl (x_ca G 2, 8, .inr (.inr (.inr (.inr (fun j => some (x_ad G (6 + 2 * j)))))))
  else if k = 22 then .inl (x_ca G 3, 16, .inr (.inr (.inr (.inr (fun j => some (x_ad G (23 + 5 * j)))))))
  else if k = 103 then .inr (4, [.ref (x_ad G 104), .ref (x_ad G 105), .ref (x_ad G 106)])
  else if x_isP k = true then .inr (2, [.int (f 0), .ref (x_ad G (k + 1)), .int (f 2)])
  else if x_isK k = true then .inr (3, [.int (f 0), .ref (x_ad G (k + 1)), .ref (x_ad G (k + 3)), .long (g 3), .int (f 4), .ref (x_ad G (k + 4))])
  else .inl (x_ca G 0, x_ln (x_n G) k, .inl f)
def x_Wd (G : x_G) (z : x_St) : va_W := w_Wd (x_cell G) 110 (x_ad G) (x_rs G) z
theorem x_cell_P (G : x_G) {k : Nat} (h : x_isP k = true) (f : Nat → Int32) (g : Nat → Int64) : x_cell G k f g = .inr (2, [.int (f 0), .ref (x_ad G (k + 1)), .int (f 2)]) := by
  have h2 := x_isP_iff.mp h
  unfold x_cell
  rw [if_neg (by omega), if_neg (by omega), if_neg (by omega), if_neg (by omega), if_neg (by omega), if_neg (by omega), if_pos h]
theorem x_cell_K (G : x_G) {k : Nat} (h : x_isK k = true) (f : Nat → Int32) (g : Nat → Int64) : x_cell G k f g = .inr (3, [.int (f 0), .ref (x_ad G (k + 1)), .ref (x_ad G (k + 3)), .long (g 3), .int (f 4), .ref (x_ad G (k + 4))]) := by
  have h2 := x_isK_iff.mp h
  have h3 : ¬ x_isP k = true := by rw [x_isP_iff]; omega
  unfold x_cell
  rw [if_neg (by omega), if_neg (by omega), if_neg (by omega), if_neg (by omega), if_neg (by omega), if_neg (by omega), if_neg h3, if_pos h]
theorem x_cell_A (G : x_G) {k : Nat} (h : x_isA k = true) (f : Nat → Int32) (g : Nat → Int64) : x_cell G k f g = .inl (x_ca G 0, x_ln (x_n G) k, .inl f) := by
  obtain ⟨h0, h1, h2, h3, h4, h5, h6, h7, h8⟩ := x_isA_iff.mp h
  unfold x_cell
  rw [if_neg h1, if_neg h2, if_neg h3, if_neg h4, if_neg h5, if_neg h6, if_neg (by rw [h7]; decide), if_neg (by rw [h8]; decide)]
theorem x_lt_P {k : Nat} (h : x_isP k = true) : k < 110 := by have := x_isP_iff.mp h; omega
theorem x_lt_K {k : Nat} (h : x_isK k = true) : k < 110 := by have := x_isK_iff.mp h; omega
theorem x_lt_A {k : Nat} (h : x_isA k = true) : k < 110 := (x_isA_iff.mp h).1
theorem x_lk_X (G : x_G) (z : x_St) : (x_Wd G z)[0]? = some (x_ad G 0, .inr (0, [.ref (x_ad G 1), .ref (x_ad G 4), .ref (x_ad G 5), .ref (x_ad G 22), .ref (x_ad G 103), .ref (x_ad G 107), .ref (x_ad G 108), .ref (x_ad G 109), .int (z.1 0 8)])) := w_get (by decide)
theorem x_lk_B (G : x_G) (z : x_St) : (x_Wd G z)[1]? = some (x_ad G 1, .inr (1, [.int (z.1 1 0), .int (z.1 1 1), .int (z.1 1 2), .ref (x_ad G 2), .ref (x_ad G 3)])) := w_get (by decide)
theorem x_lk_D (G : x_G) (z : x_St) : (x_Wd G z)[103]? = some (x_ad G 103, .inr (4, [.ref (x_ad G 104), .ref (x_ad G 105), .ref (x_ad G 106)])) := w_get (by decide)
theorem x_lk_Z (G : x_G) (z : x_St) : (x_Wd G z)[4]? = some (x_ad G 4, .inl (x_ca G 1, x_n G, .inl (z.1 4))) := w_get (by decide)
theorem x_lk_made (G : x_G) (z : x_St) : (x_Wd G z)[5]? = some (x_ad G 5, .inl (x_ca G 2, 8, .inr (.inr (.inr (.inr (fun j => some (x_ad G (6 + 2 * j)))))))) := w_get (by decide)
theorem x_lk_kept (G : x_G) (z : x_St) : (x_Wd G z)[22]? = some (x_ad G 22, .inl (x_ca G 3, 16, .inr (.inr (.inr (.inr (fun j => some (x_ad G (23 + 5 * j)))))))) := w_get (by decide)
theorem x_lk_P (G : x_G) (z : x_St) {k : Nat} (h : x_isP k = true) : (x_Wd G z)[k]? = some (x_ad G k, .inr (2, [.int (z.1 k 0), .ref (x_ad G (k + 1)), .int (z.1 k 2)])) := by
  rw [← x_cell_P G h (z.1 k) (z.2 k)]; exact w_get (x_lt_P h)
theorem x_lk_K (G : x_G) (z : x_St) {k : Nat} (h : x_isK k = true) : (x_Wd G z)[k]? = some (x_ad G k, .inr (3, [.int (z.1 k 0), .ref (x_ad G (k + 1)), .ref (x_ad G (k + 3)), .long (z.2 k 3), .int (z.1 k 4), .ref (x_ad G (k + 4))])) := by
  rw [← x_cell_K G h (z.1 k) (z.2 k)]; exact w_get (x_lt_K h)
theorem x_lk_A (G : x_G) (z : x_St) {k : Nat} (h : x_isA k = true) : (x_Wd G z)[k]? = some (x_ad G k, .inl (x_ca G 0, x_ln (x_n G) k, .inl (z.1 k))) := by
  rw [← x_cell_A G h (z.1 k) (z.2 k)]; exact w_get (x_lt_A h)
theorem x_st (G : x_G) (z : x_St) {k j : Nat} {v : Int32} {e : va_E} (hk : k < 110) (he : e = x_cell G k (upd (z.1 k) j v) (z.2 k)) : (x_Wd G z).set k (x_ad G k, e) = x_Wd G (x_put z k j v) :=
  w_set z (x_put z k j v) hk (by rw [x_put_self]; exact he) (fun i hi => x_put_ne z j v hi) (fun _ _ => rfl)
theorem x_stL (G : x_G) (z : x_St) {k j : Nat} {v : Int64} {e : va_E} (hk : k < 110) (he : e = x_cell G k (z.1 k) (vp_updL (z.2 k) j v)) : (x_Wd G z).set k (x_ad G k, e) = x_Wd G (x_putL z k j v) :=
  w_set z (x_putL z k j v) hk (by rw [x_putL_self]; exact he) (fun _ _ => rfl) (fun i hi => x_putL_ne z j v hi)
theorem x_st_X8 (G : x_G) (z : x_St) {v : Int32} : (x_Wd G z).set 0 (x_ad G 0, .inr (0, ([.ref (x_ad G 1), .ref (x_ad G 4), .ref (x_ad G 5), .ref (x_ad G 22), .ref (x_ad G 103), .ref (x_ad G 107), .ref (x_ad G 108), .ref (x_ad G 109), .int (z.1 0 8)] : List Value).set 8 (.int v))) = x_Wd G (x_put z 0 8 v) := x_st G z (by decide) rfl
theorem x_st_B1 (G : x_G) (z : x_St) {v : Int32} : (x_Wd G z).set 1 (x_ad G 1, .inr (1, ([.int (z.1 1 0), .int (z.1 1 1), .int (z.1 1 2), .ref (x_ad G 2), .ref (x_ad G 3)] : List Value).set 1 (.int v))) = x_Wd G (x_put z 1 1 v) := x_st G z (by decide) rfl
theorem x_st_B2 (G : x_G) (z : x_St) {v : Int32} : (x_Wd G z).set 1 (x_ad G 1, .inr (1, ([.int (z.1 1 0), .int (z.1 1 1), .int (z.1 1 2), .ref (x_ad G 2), .ref (x_ad G 3)] : List Value).set 2 (.int v))) = x_Wd G (x_put z 1 2 v) := x_st G z (by decide) rfl
theorem x_st_P0 (G : x_G) (z : x_St) {k : Nat} (h : x_isP k = true) {v : Int32} : (x_Wd G z).set k (x_ad G k, .inr (2, ([.int (z.1 k 0), .ref (x_ad G (k + 1)), .int (z.1 k 2)] : List Value).set 0 (.int v))) = x_Wd G (x_put z k 0 v) := x_st G z (x_lt_P h) (by rw [x_cell_P G h]; rfl)
theorem x_st_P2 (G : x_G) (z : x_St) {k : Nat} (h : x_isP k = true) {v : Int32} : (x_Wd G z).set k (x_ad G k, .inr (2, ([.int (z.1 k 0), .ref (x_ad G (k + 1)), .int (z.1 k 2)] : List Value).set 2 (.int v))) = x_Wd G (x_put z k 2 v) := x_st G z (x_lt_P h) (by rw [x_cell_P G h]; rfl)
theorem x_st_K0 (G : x_G) (z : x_St) {k : Nat} (h : x_isK k = true) {v : Int32} : (x_Wd G z).set k (x_ad G k, .inr (3, ([.int (z.1 k 0), .ref (x_ad G (k + 1)), .ref (x_ad G (k + 3)), .long (z.2 k 3), .int (z.1 k 4), .ref (x_ad G (k + 4))] : List Value).set 0 (.int v))) = x_Wd G (x_put z k 0 v) := x_st G z (x_lt_K h) (by rw [x_cell_K G h]; rfl)
theorem x_st_K4 (G : x_G) (z : x_St) {k : Nat} (h : x_isK k = true) {v : Int32} : (x_Wd G z).set k (x_ad G k, .inr (3, ([.int (z.1 k 0), .ref (x_ad G (k + 1)), .ref (x_ad G (k + 3)), .long (z.2 k 3), .int (z.1 k 4), .ref (x_ad G (k + 4))] : List Value).set 4 (.int v))) = x_Wd G (x_put z k 4 v) := x_st G z (x_lt_K h) (by rw [x_cell_K G h]; rfl)
theorem x_st_K3 (G : x_G) (z : x_St) {k : Nat} (h : x_isK k = true) {v : Int64} : (x_Wd G z).set k (x_ad G k, .inr (3, ([.int (z.1 k 0), .ref (x_ad G (k + 1)), .ref (x_ad G (k + 3)), .long (z.2 k 3), .int (z.1 k 4), .ref (x_ad G (k + 4))] : List Value).set 3 (.long v))) = x_Wd G (x_putL z k 3 v) := x_stL G z (x_lt_K h) (by rw [x_cell_K G h]; rfl)
theorem x_st_Z (G : x_G) (z : x_St) {i : Nat} {v : Int32} : (x_Wd G z).set 4 (x_ad G 4, .inl (x_ca G 1, x_n G, .inl (upd (z.1 4) i v))) = x_Wd G (x_put z 4 i v) := x_st G z (by decide) rfl
theorem x_st_A (G : x_G) (z : x_St) {k : Nat} (h : x_isA k = true) {i : Nat} {v : Int32} : (x_Wd G z).set k (x_ad G k, .inl (x_ca G 0, x_ln (x_n G) k, .inl (upd (z.1 k) i v))) = x_Wd G (x_put z k i v) := x_st G z (x_lt_A h) (by rw [x_cell_A G h])
theorem x_cpT_A (G : x_G) (z : x_St) (f : Nat → Int32) (sp dp w : Nat) {k2 : Nat} (h : x_isA k2 = true) : (x_Wd G z).set k2 (x_ad G k2, .inl (x_ca G 0, x_ln (x_n G) k2, .inl (va_cpy f (z.1 k2) sp dp w))) = x_Wd G (x_cpyT z f sp k2 dp w) :=
  w_set z (x_cpyT z f sp k2 dp w) (x_lt_A h) (by rw [show (x_cpyT z f sp k2 dp w).1 k2 = va_cpy f (z.1 k2) sp dp w from va_up_self _ _ _]; exact (x_cell_A G h _ _).symm) (fun i hi => va_up_ne _ _ hi) (fun _ _ => rfl)
theorem x_cp_A (G : x_G) (z : x_St) (k1 sp dp w : Nat) {k2 : Nat} (h : x_isA k2 = true) : (x_Wd G z).set k2 (x_ad G k2, .inl (x_ca G 0, x_ln (x_n G) k2, .inl (va_cpy (z.1 k1) (z.1 k2) sp dp w))) = x_Wd G (x_cpy z k1 sp k2 dp w) := x_cpT_A G z (z.1 k1) sp dp w h
def x_ty (G : x_G) : List (ClassId × FieldType) := [(x_ca G 0, .int), (x_ca G 1, .boolean), (x_ca G 2, .object "ContentLibrary$Picture"), (x_ca G 3, .object "ContentLibrary$Kept"), (x_ca G 4, .long)]
/-- the digester's tables, as the start gives them -/
def x_START (j : Nat) : Int32 := ([1779033703, (-1150833019), 1013904242, (-1521486534), 1359893119, (-1694144372), 528734635, 1541459225] : List Int32).getD j 0
def x_ROUND (j : Nat) : Int32 := ([1116352408, 1899447441, (-1245643825), (-373957723), 961987163, 1508970993, (-1841331548), (-1424204075), (-670586216), 310598401, 607225278, 1426881987, 1925078388, (-2132889090), (-1680079193), (-1046744716), (-459576895), (-272742522), 264347078, 604807628, 770255983, 1249150122, 1555081692, 1996064986, (-1740746414), (-1473132947), (-1341970488), (-1084653625), (-958395405), (-710438585), 113926993, 338241895, 666307205, 773529912, 1294757372, 1396182291, 1695183700, 1986661051, (-2117940946), (-1838011259), (-1564481375), (-1474664885), (-1035236496), (-949202525), (-778901479), (-694614492), (-200395387), 275423344, 430227734, 506948616, 659060556, 883997877, 958139571, 1322822218, 1537002063, 1747873779, 1955562222, 2024104815, (-2067236844), (-1933114872), (-1866530822), (-1538233109), (-1090935817), (-965641998)] : List Int32).getD j 0
/-- where a static field lies, its class's statics cell in H -/
def e_L (C n d : String) (A : Nat → Prop) (U : State) (H : Heap) : Prop := ∃ (c : ClassId) (k : Class) (i : Nat) (f : Field) (a : Nat) (cell : Cell), (U.vm.findClass C = some c ∧ U.fieldFound? C n d = some (c, k, i, f) ∧ f.isStatic = true ∧ k.statics = some a ∧ k.staticTypes[f.slot]? = some f.type) ∧ H[a]? = some cell ∧ (cell.vm.isStatics = true ∧ cell.cls = c ∧ f.slot < cell.slots.size) ∧ ¬ A a
theorem e_L.moved {C n d : String} {A : Nat → Prop} {u U : State} {H : Heap} (hvm : u.vm.Alike U.vm) (h : e_L C n d A u H) : e_L C n d A U H := by
  obtain ⟨c, k, i, f, a, cell, ⟨h1, h2, h3, h4, h5⟩, h6, h7, h8⟩ := h
  obtain ⟨k', hi, hk⟩ := State.fieldFound?_setVm hvm h2
  exact ⟨c, k', i, f, a, cell, ⟨by rw [hvm.findClass]; exact h1, hi, h3, by rw [hk]; exact h4, by rw [hk]; exact h5⟩, h6, h7, h8⟩
theorem e_L.kept {C n d : String} {A : Nat → Prop} {U : State} {H H1 : Heap} (h : e_L C n d A U H) (hq : ∀ a : Nat, a < H.size → ¬ A a → H1[a]? = H[a]?) : e_L C n d A U H1 := by
  obtain ⟨c, k, i, f, a, cell, h1, h6, h7, h8⟩ := h
  exact ⟨c, k, i, f, a, cell, h1, (hq a (Array.getElem?_eq_some_iff.mp h6).1 h8).trans h6, h7, h8⟩
theorem e_L.word {C n d : String} {A : Nat → Prop} {s : State} {args : Array Value} (h : e_L C n d A s s.heap) : (Cond.laysStatic C n d).before args s = true := by
  obtain ⟨c, k, i, f, a, cell, ⟨h1, h2, h3, h4, h5⟩, h6, ⟨h7, h8, h9⟩, -⟩ := h
  exact Cond.laysStatic_of h1 h2 h3 h4 h6 h7 h8 h9 h5
theorem e_L.of {args : Array Value} {s : State} {C n d : String} {A : Nat → Prop} (hl : (Cond.laysStatic C n d).before args s = true) (hA : ∀ a : Nat, a < s.heap.size → ¬ A a) : e_L C n d A s s.heap := by
  obtain ⟨c, k, i, f, a, cell, h1, h2, h3, h4, h5, h6, h7, h8, h9⟩ := Cond.laysStatic_spec hl
  exact ⟨c, k, i, f, a, cell, ⟨h1, h2, h3, h4, h9⟩, h5, ⟨h6, h7, h8⟩, hA a (Array.getElem?_eq_some_iff.mp h5).1⟩
theorem e_ref {C n d : String} {A : Nat → Prop} {s : State} {args : Array Value} (h : va_Zq C n d A s s.heap) : (Cond.isRef (.static C n d)).before args s = true := by
  obtain ⟨v, hv, cf, kf, fi, f, a, cell, h1, h2, h3, h4, h5, h6, h7, -⟩ : ∃ v : Value, v.isRef = true ∧ va_Z C n d v A s s.heap := by
    rcases h with h | ⟨t, h⟩
    · exact ⟨_, rfl, h⟩
    · exact ⟨_, rfl, h⟩
  have he : (Term.static C n d).eval args s none [] s = some v := by
    simp [Term.eval, State.fieldNamed?, h1, h2, h4, h5, h6, h7]
  simp only [Cond.before, Cond.holds, Cond.value, he]
  cases v <;> simp_all [Value.isRef]
def x_excs : List String := ["java/lang/IllegalStateException", "java/lang/IllegalArgumentException", "java/lang/IndexOutOfBoundsException", "java/lang/UnsupportedOperationException"]
def x_decls : List MethodName := [⟨"java/lang/RuntimeException", "<init>", "(Ljava/lang/String;)V"⟩, ⟨"java/lang/Exception", "<init>", "(Ljava/lang/String;)V"⟩, ⟨"java/lang/Throwable", "<init>", "(Ljava/lang/String;)V"⟩]
def x_strs : List (Nat × String) := [(253, "the library is cut"), (75, "a width and a height are 1 .. 8"), (90, "eight pictures are being made"), (264, "no such picture is being made"), (97, "samples come by one or more"), (262, "the picture is not whole"), (132, "there is no number or no room in the blocks"), (266, "no such number is there"), (147, "a digest has the words 0 .. 7"), (167, "no such sample"), (172, "a bound is 0 .. 64"), (188, "nothing was found at that place"), (190, "of what was found, 0 and 1 are told"), (208, "a fuse is of 0 bytes or more, or NONE"), (256, "no such byte of a block"), (228, "a mask is 0 .. 255")]
abbrev x_thN : String := "java/lang/Throwable"
/-- what throwing needs of the start -/
def x_GX (G : x_G) (U : State) (H : Heap) : Prop := (∀ E ∈ x_excs, va_Nw (.castable E E) U) ∧ (∀ y ∈ x_decls, va_Nw (.declares y) U) ∧ (∀ q ∈ x_strs, ∃ a, vk_R "ContentLibrary" q.1 q.2 a U) ∧ (va_Zq x_thN "UNASSIGNED_STACK" "[Ljava/lang/StackTraceElement;" (x_A G) U H ∧ e_L x_thN "UNASSIGNED_STACK" "[Ljava/lang/StackTraceElement;" (x_A G) U H) ∧ (va_Zq x_thN "SUPPRESSED_SENTINEL" "Ljava/util/List;" (x_A G) U H ∧ e_L x_thN "SUPPRESSED_SENTINEL" "Ljava/util/List;" (x_A G) U H)
theorem x_GX.warm {G : x_G} {u U : State} {H : Heap} (hW : u.WarmedH U.vm) (h : x_GX G u H) : x_GX G U H := by
  obtain ⟨h1, h2, h3, h4, h5⟩ := h
  exact ⟨fun E hE => va_Nw.warmC hW (h1 E hE), fun y hy => va_Nw.warmD hW (h2 y hy), fun q hq => (h3 q hq).elim fun a ha => ⟨a, vk_R.warm hW ha⟩, ⟨va_Zq.moved hW.alike h4.1, e_L.moved hW.alike h4.2⟩, ⟨va_Zq.moved hW.alike h5.1, e_L.moved hW.alike h5.2⟩⟩
theorem x_GX.kept {G : x_G} {U : State} {H H1 : Heap} (h : x_GX G U H) (hq : ∀ a : Nat, a < H.size → ¬ x_A G a → H1[a]? = H[a]?) : x_GX G U H1 :=
  ⟨h.1, h.2.1, h.2.2.1, ⟨va_Zq.kept h.2.2.2.1.1 hq, e_L.kept h.2.2.2.1.2 hq⟩, ⟨va_Zq.kept h.2.2.2.2.1 hq, e_L.kept h.2.2.2.2.2 hq⟩⟩
/-- what the start gives, and nobody writes -/
def x_GV (G : x_G) (U : State) (H : Heap) : Prop := (∃ tS tR : Nat, va_Z "ContentLibrary$Digester" "START" "[I" (.ref tS) (x_A G) U H ∧ va_T .int tS 8 (fun j => .int (x_START j)) (x_A G) U H ∧ va_Z "ContentLibrary$Digester" "ROUND" "[I" (.ref tR) (x_A G) U H ∧ va_T .int tR 64 (fun j => .int (x_ROUND j)) (x_A G) U H) ∧ x_GX G U H
theorem x_GV.warm {G : x_G} {u U : State} {H : Heap} (hW : u.WarmedH U.vm) (h : x_GV G u H) : x_GV G U H := by
  obtain ⟨⟨tS, tR, h1, h2, h3, h4⟩, h5⟩ := h
  exact ⟨⟨tS, tR, va_Z.moved hW.alike h1, va_T.moved hW.alike h2, va_Z.moved hW.alike h3, va_T.moved hW.alike h4⟩, h5.warm hW⟩
theorem x_GV.kept {G : x_G} {U : State} {H H1 : Heap} (h : x_GV G U H) (hq : ∀ a : Nat, a < H.size → ¬ x_A G a → H1[a]? = H[a]?) : x_GV G U H1 := by
  obtain ⟨⟨tS, tR, h1, h2, h3, h4⟩, h5⟩ := h
  exact ⟨⟨tS, tR, va_Z.kept h1 hq, va_T.kept h2 hq, va_Z.kept h3 hq, va_T.kept h4 hq⟩, h5.kept hq⟩
/-- the world: the cells as z says -/
def x_PW (G : x_G) (z : x_St) (U : State) : Prop := x_s0 G ≤ U.heap.size ∧ va_P (x_D G) vwCl (x_Wd G z) U.heap ∧ va_D (x_A G) (x_Wd G z) ∧ va_K (x_D G) vwCl (x_ty G) U ∧ x_GV G U U.heap
theorem x_pw {G : x_G} {z : x_St} {s t : State} {H : Heap} {locs : List Loc} (hP : va_P (x_D G) vwCl (x_Wd G z) H) (hD : va_D (x_A G) (x_Wd G z)) (hK : va_K (x_D G) vwCl (x_ty G) s) (hG : x_GV G s s.heap) (hS : va_S (x_A G) s.heap H locs) (hz : x_s0 G ≤ s.heap.size) (ht : t.heap = H) (hW : s.WarmedH t.vm) : x_PW G z t := by
  subst ht
  exact ⟨Nat.le_trans hz hS.1, hP, hD, va_K.moved hW.alike hK, x_GV.warm hW (x_GV.kept hG hS.2.1)⟩
theorem x_pwk {G : x_G} {z : x_St} {s t : State} {H : Heap} {locs : List Loc} (hP : va_P (x_D G) vwCl (x_Wd G z) H) (hD : va_D (x_A G) (x_Wd G z)) (hK : va_K (x_D G) vwCl (x_ty G) s) (hG : x_GV G s s.heap) (hS : va_S (x_A G) s.heap H locs) (hz : x_s0 G ≤ s.heap.size) (h1 : H.size ≤ t.heap.size) (h2 : ∀ q : Nat, q < H.size → t.heap[q]? = H[q]?) (hW : s.WarmedH t.vm) : x_PW G z t :=
  ⟨Nat.le_trans hz (Nat.le_trans hS.1 h1), hP.kept (fun k q hq => h2 q.1 (hP k q hq).lt), hD, va_K.moved hW.alike hK, x_GV.warm hW (x_GV.kept hG (fun a ha hn => (h2 a (Nat.lt_of_lt_of_le ha hS.1)).trans (hS.2.1 a ha hn)))⟩
theorem x_back {G : x_G} {z : x_St} {t : State} {H : Heap} (h : x_PW G z t) (ht : t.heap = H) : va_P (x_D G) vwCl (x_Wd G z) H ∧ va_D (x_A G) (x_Wd G z) := by
  subst ht
  exact ⟨h.2.1, h.2.2.1⟩
theorem x_blind (G : x_G) (z : x_St) (as : List Value) : FrameBlind (va_Pc as (x_PW G z)) := by
  intro a U g mk q
  obtain ⟨q0, q1, q2, q3, q4, q5⟩ := q
  exact ⟨q0, q1, q2, q3, va_K.moved (u := U) (U := U.calling g mk a) (Vm.Alike.refl U.vm) q4, x_GV.warm (u := U) (U := U.calling g mk a) (State.WarmedH.refl U) q5⟩
def x_Ctx (G : x_G) (p : Program) (s : State) (m : MethodId) (args : Array Value) (meth : Method) (c : Code) (cc : ByteArray) (own : String) (nL : Nat) (ret : Option FieldType) : Prop :=
  p.tables.exec = Jvm.exec ∧ c.code = cc ∧ meth.sig.returnType = ret ∧ c.maxLocals = nL ∧ s.vm.findClass own = some m.cls ∧ (∀ w ∈ x_big, w.before args s = true) ∧ meth.locks = false ∧ x_s0 G ≤ s.heap.size ∧ va_K (x_D G) vwCl (x_ty G) s ∧ x_GV G s s.heap
theorem x_pr {α β : Type} {a c : α} {b d : β} (h : (a, b) = (c, d)) : a = c ∧ b = d := by cases h; exact ⟨rfl, rfl⟩
end
section
/-! EXCEPTIONS: a method that, from here, throws E and leaves the cells as z says -/
section EXC
variable {p : Program} {l : Launch} {e : Env} {R : Room} {s : State} {m : MethodId} {args : Array Value} {below : List Frame} {meth : Method} {c : Code}
/-- where q was thrown: its cell, what was written and made, the world -/
def e_T (G : x_G) (E : String) (z : x_St) (st : State) (q : Addr) (t : State) (mc ms : Nat) : Prop :=
  ∃ (ce : Cell) (L : List Loc), t.heap[q]? = some ce ∧ ce.vm = .none ∧ st.vm.findClass E = some ce.cls ∧ st.WarmedH t.vm ∧ st.sameButNew ({ t with vm := st.vm } : State) L mc ms ∧ (∀ w ∈ L, x_A G w.base) ∧ x_PW G z t ∧ va_F (x_A G) st t
def e_Met (l : Launch) (G : x_G) (y : MethodName) (ws : List Cond) (rm : Room) (Pc : Array Value → State → Prop) (E : String) (z : x_St) (mc ms : Nat) : Prop :=
  MetFree l y (headSpec ws rm) Pc (fun _ _ _ _ _ => True) (fun _ st o t => ∃ q, o = .threw q ∧ e_T G E z st q t mc ms)
def e_MQ (below : List Frame) (G : x_G) (E : String) (z : x_St) (s : State) (mc ms : Nat) : State → Prop := fun t =>
  ∃ q, t.status = .running ∧ Ended t below (.threw q) ∧ e_T G E z s q t mc ms
theorem e_ofW {G : x_G} {y : MethodName} {ws ws' : List Cond} {rm : Room} {Pc : Array Value → State → Prop} {E : String} {z : x_St} {mc ms : Nat} {cc : ByteArray} {maxL : Nat} {ret : Option FieldType}
    (hy : plainName y.cls = true) (hw : ws = Cond.code y cc maxL ret :: ws')
    (body : ∀ p e s m args below meth c s₁, BodyLoose p l y (headSpec ws rm) cc maxL ret e s m args below meth c s₁ → c.maxLocals = maxL → (∀ x ∈ c.exceptionTable.toList, False) → Pc args s →
      W p l e (headSpec ws rm).room s m args below meth c s.heap [] 0 0 (e_MQ below G E z s mc ms) (entryFrame m args maxL)) : e_Met l G y ws rm Pc E z mc ms := by
  refine MetFree.of_bodyS (code := cc) (maxLocals := maxL) (ret := ret) hy ?_ ?_
  · intro args s m h hn
    obtain ⟨meth, c, h1, h2, h3, h4, h5, h6, -, -⟩ := Cond.code_spec hn (atoms_spec (ws := ws) h _ (by rw [hw]; exact List.mem_cons_self))
    exact ⟨meth, c, h1, h2, h3, h4, h5, h6⟩
  · intro p e s m args below meth c s₁ B hml hP _
    have hno : ∀ x ∈ c.exceptionTable.toList, False := by
      intro x hx
      obtain ⟨meth2, c2, k1, k2, -, -, -, -, k7, -⟩ := Cond.code_spec B.named (atoms_spec (ws := ws) B.pre _ (by rw [hw]; exact List.mem_cons_self))
      have k3 : meth2 = meth := Option.some.inj (k1.symm.trans B.method)
      subst k3
      have k4 : c2 = c := Option.some.inj (k2.symm.trans (Stand.of_body B).code)
      subst k4
      rw [Array.isEmpty_iff.mp k7] at hx
      cases hx
    obtain ⟨t, a1, q, b1, b2, b3⟩ := body p e s m args below meth c s₁ B hml hno hP s₁ (by rw [B.state]; rfl) (Stand.of_body B)
    exact ⟨t, .threw q, a1, b1, b2, q, rfl, b3⟩
/-- what a call of such a method comes to: the caller's frame g with q thrown over it -/
def e_Back (l : Launch) (R : Room) (p : Program) (e : Env) (below : List Frame) (s : State) (sargs : Array Value) (y : MethodName) (Pc : Array Value → State → Prop) (G : x_G) (E : String) (z : x_St) (mc ms : Nat) : Prop :=
  ∀ (m : MethodId) (meth : Method) (c : Code) (U : State) (Ls : List Loc) (c0 s0 : Nat) (g : JFrame) (ig : Instr) (mk : MethodId) (a : Array Value),
    Stand p l e R s m sargs below meth c U Ls c0 s0 → g.method = m → g.locals.size = c.maxLocals → decode c.code g.pc = .ok (ig, 3) →
    2 * g.monitorRoom + (g.stack.map fun v => v.category).sum ≤ 8 → U.methodNamed? y = some mk → c0 + mc ≤ R.cells → s0 + ms ≤ R.slots → Pc a U →
    ∃ (q : Addr) (U' : State) (L : List Loc) (ce : Cell), Stand p l e R s m sargs below meth c U' (Ls ++ L) (c0 + mc) (s0 + ms) ∧ U'.heap[q]? = some ce ∧ ce.vm = .none ∧ U.vm.findClass E = some ce.cls ∧ (∀ w ∈ L, x_A G w.base) ∧ x_PW G z U' ∧ va_F (x_A G) U U' ∧
      Steps p.tables e below (doInvoke e (U.setTop g) [] mk a).1 ((U'.setTop g).pushFrame (.throwing q))
theorem e_back {G : x_G} {y : MethodName} {ws : List Cond} {rm : Room} {Pc : Array Value → State → Prop} {E : String} {z : x_St} {mc ms : Nat} {bytes : ByteArray} {maxL : Nat} {ret : Option FieldType} {sargs : Array Value}
    (hM : e_Met l G y ws rm Pc E z mc ms) (hblind : FrameBlind Pc) (hrc : rm.cells = mc) (hrs : rm.slots = ms)
    (hframes : rm.frames + 1 ≤ R.frames) (hlocals : 8 + (maxL + 11) + rm.locals ≤ R.locals)
    (hws : ∀ w ∈ ws, ∀ a' U, s.WarmedH U.vm → w.before a' U = true) (hcode : Cond.code y bytes maxL ret ∈ ws) (hinit : ∀ a' U, s.WarmedH U.vm → (Cond.initialized y.cls).before a' U = true) :
    e_Back l R p e below s sargs y Pc G E z mc ms := by
  intro m meth c U Ls c0 s0 g ig mk a X hg hsize hdg hW hn hroom1 hroom2 hPc
  obtain ⟨mY, cY, hmY, hcY, -, hlY, -, -, -, -⟩ := Cond.code_spec hn (hws _ hcode a U X.warmed)
  obtain ⟨kY, hkY, -⟩ := className_of_methodNamed hn
  have hat : At U g.method c below := by rw [hg]; exact X.here
  have happ : (headSpec ws rm).appliesLoose y e.platform (U.calling g mk a) = true :=
    Spec.appliesLoose_calling (g := g) hat hdg hn hkY (Cond.initialized_spec (findClass_of_methodNamed hn) hkY (hinit a U X.warmed))
      (X.room_calling (g := g) (R' := (headSpec ws rm).room) hsize hmY hcY hframes (by rw [hlY]; have h9 : 8 + (maxL + 11) + (headSpec ws rm).room.locals ≤ R.locals := hlocals; omega)
        (by rw [show (headSpec ws rm).room.cells = mc from hrc]; exact hroom1) (by rw [show (headSpec ws rm).room.slots = ms from hrs]; exact hroom2))
      (atoms_intro fun w hw => hws w hw _ _ X.warmed)
  obtain ⟨mid, hmid⟩ := hat.above
  obtain ⟨o, V, hsteps, -, hend, hq⟩ := Steps.callFree hM p X.admits X.cas X.clock (acts := []) (show (U.setTop g).frames = (.java g :: mid) ++ below by rw [State.frames_setTop' g hat.top, hmid]; rfl) happ (hblind _ _ _ _ hPc) trivial
  have hq9 : ∃ q, o = .threw q ∧ e_T G E z (U.calling g mk a) q V mc ms := hq
  obtain ⟨q, rfl, ce, L, hce, hcv, hcl, hWV, hsm, hL, hPW, hF⟩ := hq9
  rw [State.frames_setTop' g hat.top] at hend
  have hfV : V.frames = .throwing q :: .java g :: U.frames.tail := hend
  obtain ⟨g₀, hg0⟩ := Option.isSome_iff_exists.mp hat.top
  obtain ⟨r, hr⟩ := State.topJava?_eq_some.mp hg0
  obtain ⟨N, hN⟩ : ∃ N : State, N = ({ U with heap := V.heap, slotsUsed := V.slotsUsed } : State).setVm V.vm := ⟨_, rfl⟩
  have hNf : N.frames = .java g₀ :: r := by rw [hN]; exact hr
  obtain ⟨e2, q2, q3, q4, q5, q6⟩ := id hsm
  have eV : V = (N.setTop g).pushFrame (.throwing q) := by
    have e3 : V = ({ (U.calling g mk a).setFrames V.frames with heap := V.heap, slotsUsed := V.slotsUsed } : State).setVm V.vm := by
      have e4 : V = ({ V with vm := (U.calling g mk a).vm } : State).setVm V.vm := rfl
      rw [e2] at e4
      exact e4
    refine e3.trans ?_
    rw [hfV, State.calling_eq hat.top, State.setFrames_setFrames, State.pushFrame, State.frames_setTop _ hNf, State.setTop_of_frames _ hNf, State.setFrames_setFrames, hN, hr]
    rfl
  have hsame : U.sameButNew ({ U with heap := V.heap, slotsUsed := V.slotsUsed } : State) L mc ms := by
    refine ⟨?_, q2, q3, q4, q5, q6⟩
    obtain ⟨t, ht, -⟩ := State.frames_cons hr
    show ({ U with heap := V.heap, slotsUsed := V.slotsUsed } : State) = { U.setFrames U.frames with heap := V.heap, slotsUsed := V.slotsUsed }
    rw [State.setFrames_self ht]
  have hWU : U.WarmedH V.vm := hWV
  subst hg
  have X' : Stand p l e R s g.method sargs below meth c N (Ls ++ L) (c0 + mc) (s0 + ms) := by
    rw [hN]
    exact ⟨X.admits, X.cas, X.clock, X.frames, X.room, X.hears, X.method, X.code, (X.here.setHeapUsed V.heap V.slotsUsed).setVm hWU.alike, X.tail, State.WarmedH.trans X.warmed hWU, X.limits, X.bytes, X.same.trans (hsame.setVm s.vm)⟩
  have hh : N.heap = V.heap := by rw [hN]; rfl
  have hv : N.vm = V.vm := by rw [hN]; rfl
  refine ⟨q, N, L, ce, X', by rw [hh]; exact hce, hcv, hcl, hL, ?_, ?_, by rw [← eV]; exact hsteps⟩
  · obtain ⟨a1, a2, a3, a4, a5⟩ := hPW
    refine ⟨by rw [hh]; exact a1, by rw [hh]; exact a2, a3, va_K.moved (u := V) (by rw [hv]; exact Vm.Alike.refl V.vm) a4, ?_⟩
    rw [hh]
    exact x_GV.warm (u := V) (by rw [hv]; exact State.WarmedH.refl V) a5
  · exact ⟨by rw [hh]; exact hF.1, fun k h1 h2 => by rw [hh]; exact hF.2 k h1 h2⟩
/-- the method's frame g, with q thrown over it -/
def e_W (p : Program) (l : Launch) (e : Env) (R : Room) (s : State) (m : MethodId) (args : Array Value) (below : List Frame) (meth : Method) (c : Code) (H : Heap) (locs : List Loc) (cells slots : Nat) (Q : State → Prop) (g : JFrame) (q : Addr) : Prop :=
  ∀ T : State, T.heap = H → Stand p l e R s m args below meth c T locs cells slots → ∃ t, Steps p.tables e below ((T.setTop g).pushFrame (.throwing q)) t ∧ Q t
variable {H : Heap} {locs : List Loc} {cells slots : Nat} {Q : State → Prop} {y : MethodName} {bytes cc : ByteArray} {maxL nL mc ms n index : Nat} {ret : Option FieldType} {ws : List Cond} {rm : Room} {Pc : Array Value → State → Prop} {Ts : List Cond} {own C E : String} {b : Addr} {As rest st0 : List Value} {G : x_G} {z : x_St} {pc : Nat} {ls : Array Slot}
theorem e_go {T N : State} {ce : Cell} {q : Addr} {L : List Loc} {vm₁ : Vm} (hT : T.heap = H) (hz : x_s0 G ≤ s.heap.size) (hS : va_S (x_A G) s.heap H locs) (X' : Stand p l e R s m args below meth c N (locs ++ L) (cells + mc) (slots + ms)) (hW1 : s.WarmedH vm₁) (hce : N.heap[q]? = some ce) (hcv : ce.vm = .none) (hcl : (T.setVm vm₁).vm.findClass E = some ce.cls) (hL : ∀ w ∈ L, x_A G w.base) (hPW : x_PW G z N) (hF : va_F (x_A G) (T.setVm vm₁) N)
    (hst : Steps p.tables e below (T.setTop (F0 m pc ls st0)) ((N.setTop { F0 m pc ls st0 with stack := rest }).pushFrame (.throwing q)))
    (kx : ∀ (q : Addr) (ce : Cell) (H1 : Heap) (locs1 : List Loc), va_P (x_D G) vwCl (x_Wd G z) H1 → va_D (x_A G) (x_Wd G z) → va_S (x_A G) s.heap H1 locs1 → H1[q]? = some ce → ce.vm = .none → s.vm.findClass E = some ce.cls → e_W p l e R s m args below meth c H1 locs1 (cells + mc) (slots + ms) Q (F0 m pc ls rest) q) :
    ∃ t, Steps p.tables e below (T.setTop (F0 m pc ls st0)) t ∧ Q t := by
  have h1 : vm₁.findClass E = some ce.cls := hcl
  rw [hW1.alike.findClass] at h1
  have k1 : T.heap.size ≤ N.heap.size := hF.1
  have k2 : ∀ k : Nat, k < T.heap.size → ¬ x_A G k → N.heap[k]? = T.heap[k]? := fun k a1 a2 => hF.2 k a1 a2
  rw [hT] at k1 k2
  have hS1 : va_S (x_A G) s.heap N.heap (locs ++ L) := ⟨Nat.le_trans hS.1 k1, fun k a1 a2 => (k2 k (Nat.lt_of_lt_of_le a1 hS.1) a2).trans (hS.2.1 k a1 a2), fun w hw => (List.mem_append.mp hw).elim (hS.2.2 w) (hL w)⟩
  obtain ⟨t, a1, b1⟩ := kx q ce N.heap (locs ++ L) hPW.2.1 hPW.2.2.1 hS1 hce hcv h1 N rfl X'
  exact ⟨t, hst.trans a1, b1⟩
theorem e_callV (S : CallFix p m c cc nL s args Ts own) (hM : e_Met l G y ws rm Pc E z mc ms) (cw : CallW R s args own C index y bytes maxL ret ws rm mc ms n) (hp : PreV s H C b Pc As)
    (hn : As.length = n) (hsize : ls.size = nL) (hstack : st0 = As.reverse ++ .ref b :: rest) (hW : 2 * (F0 m pc ls rest).monitorRoom + (rest.map fun v => v.category).sum ≤ 8) (hdg : decode cc pc = .ok (.invokevirtual index, 3)) (hf : cells + mc ≤ R.cells ∧ slots + ms ≤ R.slots)
    (hz : x_s0 G ≤ s.heap.size) (hS : va_S (x_A G) s.heap H locs)
    (kx : ∀ (q : Addr) (ce : Cell) (H1 : Heap) (locs1 : List Loc), va_P (x_D G) vwCl (x_Wd G z) H1 → va_D (x_A G) (x_Wd G z) → va_S (x_A G) s.heap H1 locs1 → H1[q]? = some ce → ce.vm = .none → s.vm.findClass E = some ce.cls → e_W p l e R s m args below meth c H1 locs1 (cells + mc) (slots + ms) Q (F0 m pc ls rest) q) :
    W p l e R s m args below meth c H locs cells slots Q (F0 m pc ls st0) := by
  obtain ⟨⟨hrc, hrs, hfr, hlo, hws, hcw, hcode, hini, hy, hlen, hl⟩, hinst, hsel⟩ := cw
  obtain ⟨hx, hb, hml, ho, -⟩ := S
  obtain ⟨hbl, ⟨cellB, hcB, hoB, hclB⟩, hPc⟩ := hp
  have hK : e_Back l R p e below s args y Pc G E z mc ms := e_back (bytes := bytes) (maxL := maxL) (ret := ret) hM hbl hrc hrs hfr hlo hws hcw (fun a' U hW => word_at hW (Or.inl (by first | rfl | simp [Cond.onTables, Cond.keeps, Cond.steady])) hini)
  intro T hT X
  obtain ⟨mk, methM, hnamed, hmethM, hstM, habM⟩ := Cond.instanceMethod_spec hinst
  obtain ⟨methM', cM, hmethM', -, -, -, -, -, -, hsigM⟩ := Cond.code_spec hnamed hcode
  cases hmethM.symm.trans hmethM'
  obtain ⟨c2, r2, m2, q1, q2, q3, q4, kP, hkP, hkPi⟩ := Cond.selects_spec hsel
  cases hclB.symm.trans q1
  cases (State.methodFound?_of_named hnamed hy).symm.trans q2
  cases hnamed.symm.trans q3
  have hselP : selectMethod e.platform s.vm cellB.cls mk = .method mk := by rw [Launch.admits_selectMethod X.admits]; exact q4
  obtain ⟨vm₁, X₁, hstep₁⟩ := X.invokevirtual hx ho hl hnamed hmethM hstM hkP hkPi hy (a := b) (cell := cellB) (by rw [hT]; exact hcB)
    (fun k h => by rw [h] at hoB; cases hoB) hselP hmethM habM hkP hkPi (g := F0 m pc ls st0) rfl (argsL := As) (rest := rest) (hn.trans (hlen _ hsigM)) hstack (by rw [hb]; exact hdg)
  obtain ⟨q, N, L, ce, X', hce, hcv, hcl, hL, hPW, hF, hst⟩ := hK m meth c (T.setVm vm₁) locs cells slots { F0 m pc ls st0 with stack := rest } (.invokevirtual index) mk (Value.ref b :: As).toArray X₁ rfl (hsize.trans hml.symm) (by rw [hb]; exact hdg) hW (X₁.named hnamed) hf.1 hf.2 (hPc (T.setVm vm₁) hT X₁.warmed)
  exact e_go hT hz hS X' X₁.warmed hce hcv hcl hL hPW hF (hstep₁ _ fun acts => by rw [doInvoke_state]; exact hst) kx
theorem e_callS (S : CallFix p m c cc nL s args Ts own) (hM : e_Met l G y ws rm Pc E z mc ms) (cw : CallB R s args own index y bytes maxL ret ws rm mc ms n ∧ (Cond.static y).before args s = true) (hp : PreS s H Pc As)
    (hn : As.length = n) (hsize : ls.size = nL) (hstack : st0 = As.reverse ++ rest) (hW : 2 * (F0 m pc ls rest).monitorRoom + (rest.map fun v => v.category).sum ≤ 8) (hdg : decode cc pc = .ok (.invokestatic index, 3)) (hf : cells + mc ≤ R.cells ∧ slots + ms ≤ R.slots)
    (hz : x_s0 G ≤ s.heap.size) (hS : va_S (x_A G) s.heap H locs)
    (kx : ∀ (q : Addr) (ce : Cell) (H1 : Heap) (locs1 : List Loc), va_P (x_D G) vwCl (x_Wd G z) H1 → va_D (x_A G) (x_Wd G z) → va_S (x_A G) s.heap H1 locs1 → H1[q]? = some ce → ce.vm = .none → s.vm.findClass E = some ce.cls → e_W p l e R s m args below meth c H1 locs1 (cells + mc) (slots + ms) Q (F0 m pc ls rest) q) :
    W p l e R s m args below meth c H locs cells slots Q (F0 m pc ls st0) := by
  obtain ⟨⟨hrc, hrs, hfr, hlo, hws, hcw, hcode, hini, hy, hlen, hl⟩, hstat⟩ := cw
  obtain ⟨hx, hb, hml, ho, -⟩ := S
  have hK : e_Back l R p e below s args y Pc G E z mc ms := e_back (bytes := bytes) (maxL := maxL) (ret := ret) hM hp.1 hrc hrs hfr hlo hws hcw (fun a' U hW => word_at hW (Or.inl (by first | rfl | simp [Cond.onTables, Cond.keeps, Cond.steady])) hini)
  intro T hT X
  obtain ⟨mk, hnamed⟩ := Cond.code_named hcode
  obtain ⟨methM, cM, hmethM, -, -, -, -, -, -, hsigM⟩ := Cond.code_spec hnamed hcode
  obtain ⟨kP, hkP, -⟩ := className_of_methodNamed hnamed
  obtain ⟨vm₁, X₁, hstep₁⟩ := X.invokestatic hx ho hl hnamed hmethM (Cond.static_spec hnamed hmethM hstat) hkP (Cond.initialized_spec (findClass_of_methodNamed hnamed) hkP hini) hy (g := F0 m pc ls st0) rfl (argsL := As) (rest := rest) (hn.trans (hlen _ hsigM)) hstack (by rw [hb]; exact hdg)
  obtain ⟨q, N, L, ce, X', hce, hcv, hcl, hL, hPW, hF, hst⟩ := hK m meth c (T.setVm vm₁) locs cells slots { F0 m pc ls st0 with stack := rest } (.invokestatic index) mk As.toArray X₁ rfl (hsize.trans hml.symm) (by rw [hb]; exact hdg) hW (X₁.named hnamed) hf.1 hf.2 (hp.2 (T.setVm vm₁) hT X₁.warmed)
  exact e_go hT hz hS X' X₁.warmed hce hcv hcl hL hPW hF (hstep₁ _ fun acts => by rw [doInvoke_state]; exact hst) kx
/-- not caught here: it goes on to the caller -/
theorem e_out {ce : Cell} {q : Addr} {k9 n9 : Nat} (hno : ∀ x ∈ c.exceptionTable.toList, covers x pc = false) (hlocks : meth.locks = false) (hce : H[q]? = some ce) (hcv : ce.vm = .none) (hcl : s.vm.findClass E = some ce.cls)
    (hS : va_S (x_A G) s.heap H locs) (hpw : ∀ t : State, t.heap = H → s.WarmedH t.vm → x_PW G z t) (hc : cells ≤ k9) (hs : slots ≤ n9) :
    e_W p l e R s m args below meth c H locs cells slots (e_MQ below G E z s k9 n9) (F0 m pc ls rest) q := by
  intro T hT X
  obtain ⟨st1, hrun, hend, hW, hsm⟩ := X.leaveThrown q (g := F0 m pc ls rest) rfl rfl rfl hno hlocks
  have hh : (T.setFrames (.throwing q :: below)).heap = H := hT
  exact ⟨_, st1, q, hrun, hend, ce, locs, by rw [hh]; exact hce, hcv, hcl, hW, hsm.mono hc hs, hS.2.2, hpw _ hh hW, hS.F hh⟩
/-- the frame as it stands, seen as the start of a call in this heap: nothing written, nothing made yet -/
theorem e_rebase {T : State} (X : Stand p l e R s m args below meth c T locs cells slots) {R' : Room} (hf : R'.frames ≤ R.frames) (hl : R'.locals ≤ R.locals) (hc : cells + R'.cells ≤ R.cells) (hs : slots + R'.slots ≤ R.slots) :
    Stand p l e R' ((T.setVm s.vm).setFrames (.invoking m args :: below)) m args below meth c T [] 0 0 := by
  obtain ⟨V, hV⟩ : ∃ V : State, V = T.setVm s.vm := ⟨_, rfl⟩
  have htop : V.topJava?.isSome := by rw [hV]; exact X.here.top
  have hF : (V.setFrames (.invoking m args :: below)).frames = .invoking m args :: below := State.frames_setFrames _ (State.cur_lt_of_top htop)
  obtain ⟨g₀, hg0⟩ := Option.isSome_iff_exists.mp htop
  obtain ⟨r, hr⟩ := State.topJava?_eq_some.mp hg0
  have hlim : e.platform.stackLimits V.me = e.platform.stackLimits s.me := by rw [hV]; exact X.limits
  have hbyt : V.me.stackBytes = s.me.stackBytes := by rw [hV]; exact X.bytes
  have hmeth : (V.setFrames (.invoking m args :: below)).vm.method? m = some meth := by rw [hV]; exact X.method
  have hVh : V.heap = T.heap := by rw [hV]; rfl
  have hVu : V.slotsUsed = T.slotsUsed := by rw [hV]; rfl
  rw [← hV]
  refine ⟨X.admits, X.cas, X.clock, hF, ?_, by rw [hV]; exact X.hears, hmeth, X.code, X.here, X.tail, by rw [hV]; exact X.warmed, ?_, ?_, ?_⟩
  · have hroom := X.room
    have hU : (V.setFrames (.invoking m args :: below)).localsInUse = s.localsInUse := by
      rw [State.localsInUse_invoking hF (meth := meth) (c := c) hmeth X.code, State.localsInUse_invoking X.frames X.method X.code]
    simp only [State.hasRoom, Bool.and_eq_true, decide_eq_true_eq] at hroom ⊢
    obtain ⟨⟨⟨⟨h1, h2, h3, h4, h5, h6⟩, h7⟩, h8⟩, h9⟩ := hroom
    rw [X.frames, List.length_cons] at h2 h3
    have q1 := X.heapSize
    have q2 := X.used
    simp only [hF, hU, List.length_cons, State.stackLimits_setFrames, State.stackBytes_setFrames, hlim, hbyt]
    refine ⟨⟨⟨⟨by omega, by omega, by omega, by omega, by omega, h6⟩, ?_⟩, ?_⟩, by rw [hV]; exact X.book⟩
    · show V.heap.size + R'.cells ≤ e.platform.maxCells
      rw [hVh]; omega
    · show V.slotsUsed + R'.slots ≤ e.platform.maxSlots
      rw [hVu]; omega
  · rw [State.stackLimits_setFrames, hV]; rfl
  · rw [State.stackBytes_setFrames, hV]; rfl
  · have hdrop : ((T.heap.toList.drop T.heap.size).map (·.slots.size)).sum = 0 := by
      rw [List.drop_eq_nil_of_le (Nat.le_of_eq Array.length_toList)]; rfl
    subst hV
    refine ⟨?_, Nat.le_refl _, Nat.le_refl _, ?_, ?_, fun a c9 h9 => ⟨c9, h9, rfl, rfl, fun _ _ => rfl⟩⟩
    · obtain ⟨t, ht, -⟩ := State.frames_cons hr
      show T.setVm s.vm = { ((T.setVm s.vm).setFrames (.invoking m args :: below)).setFrames (T.setVm s.vm).frames with heap := T.heap, slotsUsed := T.slotsUsed }
      rw [State.setFrames_setFrames, State.setFrames_self ht]
      rfl
    · show T.slotsUsed = T.slotsUsed + ((T.heap.toList.drop T.heap.size).map (·.slots.size)).sum
      rw [hdrop]; rfl
    · show ((T.heap.toList.drop T.heap.size).map (·.slots.size)).sum ≤ 0
      rw [hdrop]; exact Nat.le_refl 0
theorem e_same {S U : State} {k n : Nat} (h : S.sameButNew ({ U with vm := S.vm } : State) [] k n) : S.heap.size ≤ U.heap.size ∧ ∀ q : Nat, q < S.heap.size → U.heap[q]? = S.heap[q]? := by
  obtain ⟨-, h2, -, -, -, h6⟩ := h
  refine ⟨h2, fun q hq => ?_⟩
  obtain ⟨c9, e1, e2, -, e4⟩ := h6 q _ (Array.getElem?_eq_getElem hq)
  have e5 : U.heap[q]? = some c9 := e1
  have e6 : c9.slots = (S.heap[q]).slots := Array.ext_getElem? fun i => e4 i (fun hm => nomatch hm)
  rw [e6] at e2
  rw [e5, Array.getElem?_eq_getElem hq]
  exact congrArg some e2
/-- the words of a throw that are none of x_big: what x_GX tells -/
def e_rest (cls : String) : List Cond := [.castable cls cls, .declares ⟨"java/lang/RuntimeException", "<init>", "(Ljava/lang/String;)V"⟩, .declares ⟨"java/lang/Exception", "<init>", "(Ljava/lang/String;)V"⟩, .declares ⟨"java/lang/Throwable", "<init>", "(Ljava/lang/String;)V"⟩, .isRef (.static x_thN "UNASSIGNED_STACK" "[Ljava/lang/StackTraceElement;"), .isRef (.static x_thN "SUPPRESSED_SENTINEL" "Ljava/util/List;"), .laysStatic x_thN "UNASSIGNED_STACK" "[Ljava/lang/StackTraceElement;", .laysStatic x_thN "SUPPRESSED_SENTINEL" "Ljava/util/List;"]
theorem e_words {cls : String} {S : State} {A : Array Value} (hcls : cls ∈ x_excs) (hG : x_GX G S S.heap) : ∀ w ∈ e_rest cls, w.before A S = true := by
  obtain ⟨h1, h2, -, h4, h5⟩ := hG
  intro w hw
  simp only [e_rest, List.mem_cons, List.not_mem_nil, or_false] at hw
  rcases hw with rfl | rfl | rfl | rfl | rfl | rfl | rfl | rfl
  · exact va_Nw.use rfl (h1 cls hcls)
  · exact va_Nw.use rfl (h2 _ (by simp [x_decls]))
  · exact va_Nw.use rfl (h2 _ (by simp [x_decls]))
  · exact va_Nw.use rfl (h2 _ (by simp [x_decls]))
  · exact e_ref h4.1
  · exact e_ref h5.1
  · exact h4.2.word
  · exact h5.2.word
/-- 'throw new E("text")' in a method of the library: new; dup; ldc; invokespecial; athrow -/
theorem e_throw {cls text : String} {ik is ic k9 n9 : Nat} (hexec : p.tables.exec = Jvm.exec) (hb : c.code = cc) (hl9 : l.stackTraces = false) (hown : s.vm.findClass "ContentLibrary" = some m.cls) (hcls : Jvm.Bundle.fit cls = true) (hex : cls ∈ x_excs) (htx : (is, text) ∈ x_strs)
    (hts : ∀ w ∈ x_big, w.before args s = true) (hk : Cond.classLink "ContentLibrary" ik cls ∈ x_big) (hini : Cond.initialized cls ∈ x_big)
    (hat : ∀ w ∈ Jvm.Bundle.ownAtoms "ContentLibrary" ic cls ["java/lang/RuntimeException", "java/lang/Exception"], w ∈ x_big ∨ w ∈ e_rest cls)
    (hG : x_GV G s s.heap) (hS : va_S (x_A G) s.heap H locs) (hsize : ls.size = c.maxLocals)
    (d0 : decode cc pc = .ok (.new ik, 3)) (d3 : decode cc (pc + 3) = .ok (.dup, 1)) (d4 : decode cc (pc + 4) = .ok (.ldc is, 2)) (d6 : decode cc (pc + 6) = .ok (.invokespecial ic, 3)) (d9 : decode cc (pc + 9) = .ok (.athrow, 1))
    (hno : ∀ x ∈ c.exceptionTable.toList, False) (hRf : 5 < R.frames) (hRl : (rest.map fun v => v.category).sum + 82 ≤ R.locals) (hRc : cells + 1 ≤ R.cells) (hRs : slots + 6 ≤ R.slots) (hlocks : meth.locks = false)
    (hpw : ∀ t : State, s.WarmedH t.vm → H.size ≤ t.heap.size → (∀ q : Nat, q < H.size → t.heap[q]? = H[q]?) → x_PW G z t) (hc : cells + 1 ≤ k9) (hs : slots + 6 ≤ n9) :
    W p l e R s m args below meth c H locs cells slots (e_MQ below G cls z s k9 n9) (F0 m pc ls rest) := by
  intro T hT X
  have htr : e.platform.stackTraces = false := (show e.platform.stackTraces = l.stackTraces by rw [X.admits.platform]).trans hl9
  have Y := e_rebase X (R' := { frames := R.frames, locals := R.locals, cells := 1, slots := 6 }) (Nat.le_refl _) (Nat.le_refl _) hRc hRs
  obtain ⟨S, hA⟩ : ∃ S : State, S = (T.setVm s.vm).setFrames (.invoking m args :: below) := ⟨_, rfl⟩
  rw [← hA] at Y
  have hvm : S.vm = s.vm := by rw [hA]; rfl
  have hhp : S.heap = H := by rw [hA]; exact hT
  have hW0 : s.WarmedH S.vm := by rw [hvm]; exact State.WarmedH.refl s
  have hbig : ∀ w ∈ x_big, w.before args S = true := fun w hw => word_at hW0 (good_of_word (x_bg hw).2) (hts w hw)
  have hGS : x_GX G S S.heap := by rw [hhp]; exact (hG.2.kept hS.2.1).warm hW0
  have hall : ∀ w ∈ Jvm.Bundle.ownAtoms "ContentLibrary" ic cls ["java/lang/RuntimeException", "java/lang/Exception"], w.before args S = true := fun w hw => (hat w hw).elim (hbig w) (e_words hex hGS w)
  have hownS : S.vm.findClass "ContentLibrary" = some m.cls := by rw [hvm]; exact hown
  obtain ⟨sa, hstr⟩ := hGS.2.2.1 _ htx
  obtain ⟨vm₁, cX, kX, hfX, hkX, -, -, X₁, st1⟩ := Y.newCold hexec (own := "ContentLibrary") (C := cls) (index := ik) (n := 6) hownS (hbig _ hk) (hall _ (by simp [Jvm.Bundle.ownAtoms])) (hbig _ hini)
    (g := F0 m pc ls rest) rfl (by rw [hb]; exact d0) (Nat.le_refl _) (Nat.le_refl _)
  obtain ⟨N, hN⟩ : ∃ N : State, N = (T.setVm vm₁).pushCell { cls := cX, slots := kX.instanceTypes.map defaultValue, vm := .none } := ⟨_, rfl⟩
  rw [← hN] at X₁ st1
  have hcellA : N.heap[T.heap.size]? = some (freshCell cX kX) := by rw [hN]; exact State.heap_pushCell_size _ _
  have d3' : decode c.code (pc + 3) = .ok (.dup, 1) := by rw [hb]; exact d3
  have hcat : (Value.ref T.heap.size).category = 1 := rfl
  obtain ⟨U, hsteps, hrun, hend, hW, hsame, ce, hce, hO⟩ := X₁.ctorThrowS hexec htr (own := "ContentLibrary") (cls := cls) (names := ["java/lang/RuntimeException", "java/lang/Exception"]) (ic := ic) hownS hcls (by decide +kernel) hall (fun x hx => nomatch hx) hfX hkX hcellA (by rw [hhp, hT]; exact Nat.le_refl _) (msg := .ref sa) rfl
    (g := { method := m, pc := pc + 6, locals := ls, stack := .ref sa :: .ref T.heap.size :: .ref T.heap.size :: rest, locked := none }) rfl hsize rfl rfl (rest := rest) rfl
    (by rw [hb]; exact d6) (by rw [hb]; exact d9) (fun x hx => (hno x hx).elim) hRf (by simp only [List.map_cons, List.sum_cons, hcat, List.length_cons, List.length_nil]; show 2 * 0 + _ + _ ≤ _; omega) hlocks
  obtain ⟨f1, f2⟩ := e_same hsame
  rw [hhp] at f1 f2
  have hWs : s.WarmedH U.vm := State.WarmedH.trans hW0 hW
  have hcl : s.vm.findClass cls = some ce.cls := by
    have h9 := hO.cls
    rw [hvm] at h9
    exact h9
  have hnew : s.sameButNew ({ U with vm := s.vm } : State) locs k9 n9 := by
    subst hA
    obtain ⟨e1, e2⟩ := hsame
    rw [State.setFrames_setFrames] at e1
    have h2 : (T.setVm s.vm).sameButNew ({ U with vm := s.vm } : State) [] (0 + 1) (0 + 6) := ⟨e1, e2⟩
    have h3 := X.same.trans h2
    rw [List.append_nil] at h3
    exact h3.mono hc hs
  refine ⟨U, ?_, T.heap.size, hrun, hend, ce, locs, hce, hO.vm, hcl, hWs, hnew, hS.2.2, hpw U hWs f1 f2, Nat.le_trans hS.1 f1, fun q h1 h2 => (f2 q (Nat.lt_of_lt_of_le h1 hS.1)).trans (hS.2.1 q h1 h2)⟩
  refine st1 _ ?_
  show Steps p.tables e below (N.setTop { method := m, pc := pc + 3, locals := ls, stack := .ref T.heap.size :: rest, locked := none }) _
  jvm_step X₁.here [X₁.here.top, hexec, d3', Value.category]
  exact X₁.ldcString hexec (own := "ContentLibrary") (text := text) (index := is) (a := sa) hownS hstr.1 hstr.2
    (g := { method := m, pc := pc + 4, locals := ls, stack := .ref T.heap.size :: .ref T.heap.size :: rest, locked := none }) rfl (by rw [hb]; exact d4) _ hsteps
/-- 'throw new E("text")' in a method of the library: new; dup; ldc_w; invokespecial; athrow -/
theorem e_throwW {cls text : String} {ik is ic k9 n9 : Nat} (hexec : p.tables.exec = Jvm.exec) (hb : c.code = cc) (hl9 : l.stackTraces = false) (hown : s.vm.findClass "ContentLibrary" = some m.cls) (hcls : Jvm.Bundle.fit cls = true) (hex : cls ∈ x_excs) (htx : (is, text) ∈ x_strs)
    (hts : ∀ w ∈ x_big, w.before args s = true) (hk : Cond.classLink "ContentLibrary" ik cls ∈ x_big) (hini : Cond.initialized cls ∈ x_big)
    (hat : ∀ w ∈ Jvm.Bundle.ownAtoms "ContentLibrary" ic cls ["java/lang/RuntimeException", "java/lang/Exception"], w ∈ x_big ∨ w ∈ e_rest cls)
    (hG : x_GV G s s.heap) (hS : va_S (x_A G) s.heap H locs) (hsize : ls.size = c.maxLocals)
    (d0 : decode cc pc = .ok (.new ik, 3)) (d3 : decode cc (pc + 3) = .ok (.dup, 1)) (d4 : decode cc (pc + 4) = .ok (.ldc_w is, 3)) (d6 : decode cc (pc + 7) = .ok (.invokespecial ic, 3)) (d9 : decode cc (pc + 10) = .ok (.athrow, 1))
    (hno : ∀ x ∈ c.exceptionTable.toList, False) (hRf : 5 < R.frames) (hRl : (rest.map fun v => v.category).sum + 82 ≤ R.locals) (hRc : cells + 1 ≤ R.cells) (hRs : slots + 6 ≤ R.slots) (hlocks : meth.locks = false)
    (hpw : ∀ t : State, s.WarmedH t.vm → H.size ≤ t.heap.size → (∀ q : Nat, q < H.size → t.heap[q]? = H[q]?) → x_PW G z t) (hc : cells + 1 ≤ k9) (hs : slots + 6 ≤ n9) :
    W p l e R s m args below meth c H locs cells slots (e_MQ below G cls z s k9 n9) (F0 m pc ls rest) := by
  intro T hT X
  have htr : e.platform.stackTraces = false := (show e.platform.stackTraces = l.stackTraces by rw [X.admits.platform]).trans hl9
  have Y := e_rebase X (R' := { frames := R.frames, locals := R.locals, cells := 1, slots := 6 }) (Nat.le_refl _) (Nat.le_refl _) hRc hRs
  obtain ⟨S, hA⟩ : ∃ S : State, S = (T.setVm s.vm).setFrames (.invoking m args :: below) := ⟨_, rfl⟩
  rw [← hA] at Y
  have hvm : S.vm = s.vm := by rw [hA]; rfl
  have hhp : S.heap = H := by rw [hA]; exact hT
  have hW0 : s.WarmedH S.vm := by rw [hvm]; exact State.WarmedH.refl s
  have hbig : ∀ w ∈ x_big, w.before args S = true := fun w hw => word_at hW0 (good_of_word (x_bg hw).2) (hts w hw)
  have hGS : x_GX G S S.heap := by rw [hhp]; exact (hG.2.kept hS.2.1).warm hW0
  have hall : ∀ w ∈ Jvm.Bundle.ownAtoms "ContentLibrary" ic cls ["java/lang/RuntimeException", "java/lang/Exception"], w.before args S = true := fun w hw => (hat w hw).elim (hbig w) (e_words hex hGS w)
  have hownS : S.vm.findClass "ContentLibrary" = some m.cls := by rw [hvm]; exact hown
  obtain ⟨sa, hstr⟩ := hGS.2.2.1 _ htx
  obtain ⟨vm₁, cX, kX, hfX, hkX, -, -, X₁, st1⟩ := Y.newCold hexec (own := "ContentLibrary") (C := cls) (index := ik) (n := 6) hownS (hbig _ hk) (hall _ (by simp [Jvm.Bundle.ownAtoms])) (hbig _ hini)
    (g := F0 m pc ls rest) rfl (by rw [hb]; exact d0) (Nat.le_refl _) (Nat.le_refl _)
  obtain ⟨N, hN⟩ : ∃ N : State, N = (T.setVm vm₁).pushCell { cls := cX, slots := kX.instanceTypes.map defaultValue, vm := .none } := ⟨_, rfl⟩
  rw [← hN] at X₁ st1
  have hcellA : N.heap[T.heap.size]? = some (freshCell cX kX) := by rw [hN]; exact State.heap_pushCell_size _ _
  have d3' : decode c.code (pc + 3) = .ok (.dup, 1) := by rw [hb]; exact d3
  have hcat : (Value.ref T.heap.size).category = 1 := rfl
  obtain ⟨U, hsteps, hrun, hend, hW, hsame, ce, hce, hO⟩ := X₁.ctorThrowS hexec htr (own := "ContentLibrary") (cls := cls) (names := ["java/lang/RuntimeException", "java/lang/Exception"]) (ic := ic) hownS hcls (by decide +kernel) hall (fun x hx => nomatch hx) hfX hkX hcellA (by rw [hhp, hT]; exact Nat.le_refl _) (msg := .ref sa) rfl
    (g := { method := m, pc := pc + 7, locals := ls, stack := .ref sa :: .ref T.heap.size :: .ref T.heap.size :: rest, locked := none }) rfl hsize rfl rfl (rest := rest) rfl
    (by rw [hb]; exact d6) (by rw [hb]; exact d9) (fun x hx => (hno x hx).elim) hRf (by simp only [List.map_cons, List.sum_cons, hcat, List.length_cons, List.length_nil]; show 2 * 0 + _ + _ ≤ _; omega) hlocks
  obtain ⟨f1, f2⟩ := e_same hsame
  rw [hhp] at f1 f2
  have hWs : s.WarmedH U.vm := State.WarmedH.trans hW0 hW
  have hcl : s.vm.findClass cls = some ce.cls := by
    have h9 := hO.cls
    rw [hvm] at h9
    exact h9
  have hnew : s.sameButNew ({ U with vm := s.vm } : State) locs k9 n9 := by
    subst hA
    obtain ⟨e1, e2⟩ := hsame
    rw [State.setFrames_setFrames] at e1
    have h2 : (T.setVm s.vm).sameButNew ({ U with vm := s.vm } : State) [] (0 + 1) (0 + 6) := ⟨e1, e2⟩
    have h3 := X.same.trans h2
    rw [List.append_nil] at h3
    exact h3.mono hc hs
  refine ⟨U, ?_, T.heap.size, hrun, hend, ce, locs, hce, hO.vm, hcl, hWs, hnew, hS.2.2, hpw U hWs f1 f2, Nat.le_trans hS.1 f1, fun q h1 h2 => (f2 q (Nat.lt_of_lt_of_le h1 hS.1)).trans (hS.2.1 q h1 h2)⟩
  refine st1 _ ?_
  show Steps p.tables e below (N.setTop { method := m, pc := pc + 3, locals := ls, stack := .ref T.heap.size :: rest, locked := none }) _
  jvm_step X₁.here [X₁.here.top, hexec, d3', Value.category]
  exact X₁.ldcStringW hexec (own := "ContentLibrary") (text := text) (index := is) (a := sa) hownS hstr.1 hstr.2
    (g := { method := m, pc := pc + 4, locals := ls, stack := .ref T.heap.size :: .ref T.heap.size :: rest, locked := none }) rfl (by rw [hb]; exact d4) _ hsteps
end EXC
end
section
theorem t_593 : Cond.constantLong "java/lang/Long" 314 6148914691236517205 ∈ x_big := x_bt 593 (by decide +kernel) (by decide +kernel)
theorem t_594 : Cond.constantLong "java/lang/Long" 316 3689348814741910323 ∈ x_big := x_bt 594 (by decide +kernel) (by decide +kernel)
theorem t_595 : Cond.constantLong "java/lang/Long" 318 1085102592571150095 ∈ x_big := x_bt 595 (by decide +kernel) (by decide +kernel)
theorem d_Integer_rotateLeft_0 : decode prog_12_method_50_code 0 = .ok (.iload_n 0, 1) := by decide +kernel
theorem d_Integer_rotateLeft_1 : decode prog_12_method_50_code 1 = .ok (.iload_n 1, 1) := by decide +kernel
theorem d_Integer_rotateLeft_2 : decode prog_12_method_50_code 2 = .ok (.ishl, 1) := by decide +kernel
theorem d_Integer_rotateLeft_3 : decode prog_12_method_50_code 3 = .ok (.iload_n 0, 1) := by decide +kernel
theorem d_Integer_rotateLeft_4 : decode prog_12_method_50_code 4 = .ok (.iload_n 1, 1) := by decide +kernel
theorem d_Integer_rotateLeft_5 : decode prog_12_method_50_code 5 = .ok (.ineg, 1) := by decide +kernel
theorem d_Integer_rotateLeft_6 : decode prog_12_method_50_code 6 = .ok (.iushr, 1) := by decide +kernel
theorem d_Integer_rotateLeft_7 : decode prog_12_method_50_code 7 = .ok (.ior, 1) := by decide +kernel
theorem d_Integer_rotateLeft_8 : decode prog_12_method_50_code 8 = .ok (.ireturn, 1) := by decide +kernel
theorem d_Integer_rotateRight_0 : decode prog_12_method_51_code 0 = .ok (.iload_n 0, 1) := by decide +kernel
theorem d_Integer_rotateRight_1 : decode prog_12_method_51_code 1 = .ok (.iload_n 1, 1) := by decide +kernel
theorem d_Integer_rotateRight_2 : decode prog_12_method_51_code 2 = .ok (.iushr, 1) := by decide +kernel
theorem d_Integer_rotateRight_3 : decode prog_12_method_51_code 3 = .ok (.iload_n 0, 1) := by decide +kernel
theorem d_Integer_rotateRight_4 : decode prog_12_method_51_code 4 = .ok (.iload_n 1, 1) := by decide +kernel
theorem d_Integer_rotateRight_5 : decode prog_12_method_51_code 5 = .ok (.ineg, 1) := by decide +kernel
theorem d_Integer_rotateRight_6 : decode prog_12_method_51_code 6 = .ok (.ishl, 1) := by decide +kernel
theorem d_Integer_rotateRight_7 : decode prog_12_method_51_code 7 = .ok (.ior, 1) := by decide +kernel
theorem d_Integer_rotateRight_8 : decode prog_12_method_51_code 8 = .ok (.ireturn, 1) := by decide +kernel
theorem d_Arrays_fill_0 : decode prog_20_method_103_code 0 = .ok (.iconst 0, 1) := by decide +kernel
theorem d_Arrays_fill_1 : decode prog_20_method_103_code 1 = .ok (.istore_n 2, 1) := by decide +kernel
theorem d_Arrays_fill_2 : decode prog_20_method_103_code 2 = .ok (.aload_n 0, 1) := by decide +kernel
theorem d_Arrays_fill_3 : decode prog_20_method_103_code 3 = .ok (.arraylength, 1) := by decide +kernel
theorem d_Arrays_fill_4 : decode prog_20_method_103_code 4 = .ok (.istore_n 3, 1) := by decide +kernel
theorem d_Arrays_fill_5 : decode prog_20_method_103_code 5 = .ok (.iload_n 2, 1) := by decide +kernel
theorem d_Arrays_fill_6 : decode prog_20_method_103_code 6 = .ok (.iload_n 3, 1) := by decide +kernel
theorem d_Arrays_fill_7 : decode prog_20_method_103_code 7 = .ok (.if_icmp .ge 13, 3) := by decide +kernel
theorem d_Arrays_fill_10 : decode prog_20_method_103_code 10 = .ok (.aload_n 0, 1) := by decide +kernel
theorem d_Arrays_fill_11 : decode prog_20_method_103_code 11 = .ok (.iload_n 2, 1) := by decide +kernel
theorem d_Arrays_fill_12 : decode prog_20_method_103_code 12 = .ok (.iload_n 1, 1) := by decide +kernel
theorem d_Arrays_fill_13 : decode prog_20_method_103_code 13 = .ok (.iastore, 1) := by decide +kernel
theorem d_Arrays_fill_14 : decode prog_20_method_103_code 14 = .ok (.iinc 2 1, 3) := by decide +kernel
theorem d_Arrays_fill_17 : decode prog_20_method_103_code 17 = .ok (.goto (-12), 3) := by decide +kernel
theorem d_Arrays_fill_20 : decode prog_20_method_103_code 20 = .ok (.return_, 1) := by decide +kernel
theorem d_Long_bitCount_0 : decode prog_13_method_50_code 0 = .ok (.lload_n 0, 1) := by decide +kernel
theorem d_Long_bitCount_1 : decode prog_13_method_50_code 1 = .ok (.lload_n 0, 1) := by decide +kernel
theorem d_Long_bitCount_2 : decode prog_13_method_50_code 2 = .ok (.iconst 1, 1) := by decide +kernel
theorem d_Long_bitCount_3 : decode prog_13_method_50_code 3 = .ok (.lushr, 1) := by decide +kernel
theorem d_Long_bitCount_4 : decode prog_13_method_50_code 4 = .ok (.ldc2_w 314, 3) := by decide +kernel
theorem d_Long_bitCount_7 : decode prog_13_method_50_code 7 = .ok (.land, 1) := by decide +kernel
theorem d_Long_bitCount_8 : decode prog_13_method_50_code 8 = .ok (.lsub, 1) := by decide +kernel
theorem d_Long_bitCount_9 : decode prog_13_method_50_code 9 = .ok (.lstore_n 0, 1) := by decide +kernel
theorem d_Long_bitCount_10 : decode prog_13_method_50_code 10 = .ok (.lload_n 0, 1) := by decide +kernel
theorem d_Long_bitCount_11 : decode prog_13_method_50_code 11 = .ok (.ldc2_w 316, 3) := by decide +kernel
theorem d_Long_bitCount_14 : decode prog_13_method_50_code 14 = .ok (.land, 1) := by decide +kernel
theorem d_Long_bitCount_15 : decode prog_13_method_50_code 15 = .ok (.lload_n 0, 1) := by decide +kernel
theorem d_Long_bitCount_16 : decode prog_13_method_50_code 16 = .ok (.iconst 2, 1) := by decide +kernel
theorem d_Long_bitCount_17 : decode prog_13_method_50_code 17 = .ok (.lushr, 1) := by decide +kernel
theorem d_Long_bitCount_18 : decode prog_13_method_50_code 18 = .ok (.ldc2_w 316, 3) := by decide +kernel
theorem d_Long_bitCount_21 : decode prog_13_method_50_code 21 = .ok (.land, 1) := by decide +kernel
theorem d_Long_bitCount_22 : decode prog_13_method_50_code 22 = .ok (.ladd, 1) := by decide +kernel
theorem d_Long_bitCount_23 : decode prog_13_method_50_code 23 = .ok (.lstore_n 0, 1) := by decide +kernel
theorem d_Long_bitCount_24 : decode prog_13_method_50_code 24 = .ok (.lload_n 0, 1) := by decide +kernel
theorem d_Long_bitCount_25 : decode prog_13_method_50_code 25 = .ok (.lload_n 0, 1) := by decide +kernel
theorem d_Long_bitCount_26 : decode prog_13_method_50_code 26 = .ok (.iconst 4, 1) := by decide +kernel
theorem d_Long_bitCount_27 : decode prog_13_method_50_code 27 = .ok (.lushr, 1) := by decide +kernel
theorem d_Long_bitCount_28 : decode prog_13_method_50_code 28 = .ok (.ladd, 1) := by decide +kernel
theorem d_Long_bitCount_29 : decode prog_13_method_50_code 29 = .ok (.ldc2_w 318, 3) := by decide +kernel
theorem d_Long_bitCount_32 : decode prog_13_method_50_code 32 = .ok (.land, 1) := by decide +kernel
theorem d_Long_bitCount_33 : decode prog_13_method_50_code 33 = .ok (.lstore_n 0, 1) := by decide +kernel
theorem d_Long_bitCount_34 : decode prog_13_method_50_code 34 = .ok (.lload_n 0, 1) := by decide +kernel
theorem d_Long_bitCount_35 : decode prog_13_method_50_code 35 = .ok (.lload_n 0, 1) := by decide +kernel
theorem d_Long_bitCount_36 : decode prog_13_method_50_code 36 = .ok (.bipush 8, 2) := by decide +kernel
theorem d_Long_bitCount_38 : decode prog_13_method_50_code 38 = .ok (.lushr, 1) := by decide +kernel
theorem d_Long_bitCount_39 : decode prog_13_method_50_code 39 = .ok (.ladd, 1) := by decide +kernel
theorem d_Long_bitCount_40 : decode prog_13_method_50_code 40 = .ok (.lstore_n 0, 1) := by decide +kernel
theorem d_Long_bitCount_41 : decode prog_13_method_50_code 41 = .ok (.lload_n 0, 1) := by decide +kernel
theorem d_Long_bitCount_42 : decode prog_13_method_50_code 42 = .ok (.lload_n 0, 1) := by decide +kernel
theorem d_Long_bitCount_43 : decode prog_13_method_50_code 43 = .ok (.bipush 16, 2) := by decide +kernel
theorem d_Long_bitCount_45 : decode prog_13_method_50_code 45 = .ok (.lushr, 1) := by decide +kernel
theorem d_Long_bitCount_46 : decode prog_13_method_50_code 46 = .ok (.ladd, 1) := by decide +kernel
theorem d_Long_bitCount_47 : decode prog_13_method_50_code 47 = .ok (.lstore_n 0, 1) := by decide +kernel
theorem d_Long_bitCount_48 : decode prog_13_method_50_code 48 = .ok (.lload_n 0, 1) := by decide +kernel
theorem d_Long_bitCount_49 : decode prog_13_method_50_code 49 = .ok (.lload_n 0, 1) := by decide +kernel
theorem d_Long_bitCount_50 : decode prog_13_method_50_code 50 = .ok (.bipush 32, 2) := by decide +kernel
theorem d_Long_bitCount_52 : decode prog_13_method_50_code 52 = .ok (.lushr, 1) := by decide +kernel
theorem d_Long_bitCount_53 : decode prog_13_method_50_code 53 = .ok (.ladd, 1) := by decide +kernel
theorem d_Long_bitCount_54 : decode prog_13_method_50_code 54 = .ok (.lstore_n 0, 1) := by decide +kernel
theorem d_Long_bitCount_55 : decode prog_13_method_50_code 55 = .ok (.lload_n 0, 1) := by decide +kernel
theorem d_Long_bitCount_56 : decode prog_13_method_50_code 56 = .ok (.l2i, 1) := by decide +kernel
theorem d_Long_bitCount_57 : decode prog_13_method_50_code 57 = .ok (.bipush 127, 2) := by decide +kernel
theorem d_Long_bitCount_59 : decode prog_13_method_50_code 59 = .ok (.iand, 1) := by decide +kernel
theorem d_Long_bitCount_60 : decode prog_13_method_50_code 60 = .ok (.ireturn, 1) := by decide +kernel
def f_Integer_rotateLeft (xn : Nat) (p1 : Int32) (p2 : Int32) (z0 : x_St) : Option (Int32 × x_St) :=
  (some (((p1 <<< (p2 &&& 31)) ||| (x_ushr p1 (-p2))), z0))
def f_Integer_rotateRight (xn : Nat) (p1 : Int32) (p2 : Int32) (z0 : x_St) : Option (Int32 × x_St) :=
  (some (((x_ushr p1 p2) ||| (p1 <<< ((-p2) &&& 31))), z0))
def f_Arrays_fill_5 (xn : Nat) : Nat → Nat → Int32 → Int32 → Int32 → x_St → Option (Unit × x_St)
  | 0, _, _, _, _, _ => none
  | fu + 1, a0, a1, a2, a3, z0 =>
    (if a3 ≤ a2 then
    (some ((), z0))
    else
    (x_ck a2 (x_ln xn a0)
    (f_Arrays_fill_5 xn fu a0 a1 (a2 + (1 : Int32)) a3 (x_put z0 a0 (a2).toNatClampNeg a1))))
def f_Arrays_fill (xn : Nat) (k1 : Nat) (p2 : Int32) (z0 : x_St) : Option (Unit × x_St) :=
  (f_Arrays_fill_5 xn x_FU k1 p2 (0 : Int32) (Int32.ofNat (x_ln xn k1)) z0)
def f_Long_bitCount (xn : Nat) (p1 : Int64) (z0 : x_St) : Option (Int32 × x_St) :=
  (some ((((((((((((p1 - ((x_lushr p1 (1 : Int32)) &&& (6148914691236517205 : Int64))) &&& (3689348814741910323 : Int64)) + ((x_lushr (p1 - ((x_lushr p1 (1 : Int32)) &&& (6148914691236517205 : Int64))) (2 : Int32)) &&& (3689348814741910323 : Int64))) + (x_lushr (((p1 - ((x_lushr p1 (1 : Int32)) &&& (6148914691236517205 : Int64))) &&& (3689348814741910323 : Int64)) + ((x_lushr (p1 - ((x_lushr p1 (1 : Int32)) &&& (6148914691236517205 : Int64))) (2 : Int32)) &&& (3689348814741910323 : Int64))) (4 : Int32))) &&& (1085102592571150095 : Int64)) + (x_lushr (((((p1 - ((x_lushr p1 (1 : Int32)) &&& (6148914691236517205 : Int64))) &&& (3689348814741910323 : Int64)) + ((x_lushr (p1 - ((x_lushr p1 (1 : Int32)) &&& (6148914691236517205 : Int64))) (2 : Int32)) &&& (3689348814741910323 : Int64))) + (x_lushr (((p1 - ((x_lushr p1 (1 : Int32)) &&& (6148914691236517205 : Int64))) &&& (3689348814741910323 : Int64)) + ((x_lushr (p1 - ((x_lushr p1 (1 : Int32)) &&& (6148914691236517205 : Int64))) (2 : Int32)) &&& (3689348814741910323 : Int64))) (4 : Int32))) &&& (1085102592571150095 : Int64)) (8 : Int32))) + (x_lushr ((((((p1 - ((x_lushr p1 (1 : Int32)) &&& (6148914691236517205 : Int64))) &&& (3689348814741910323 : Int64)) + ((x_lushr (p1 - ((x_lushr p1 (1 : Int32)) &&& (6148914691236517205 : Int64))) (2 : Int32)) &&& (3689348814741910323 : Int64))) + (x_lushr (((p1 - ((x_lushr p1 (1 : Int32)) &&& (6148914691236517205 : Int64))) &&& (3689348814741910323 : Int64)) + ((x_lushr (p1 - ((x_lushr p1 (1 : Int32)) &&& (6148914691236517205 : Int64))) (2 : Int32)) &&& (3689348814741910323 : Int64))) (4 : Int32))) &&& (1085102592571150095 : Int64)) + (x_lushr (((((p1 - ((x_lushr p1 (1 : Int32)) &&& (6148914691236517205 : Int64))) &&& (3689348814741910323 : Int64)) + ((x_lushr (p1 - ((x_lushr p1 (1 : Int32)) &&& (6148914691236517205 : Int64))) (2 : Int32)) &&& (3689348814741910323 : Int64))) + (x_lushr (((p1 - ((x_lushr p1 (1 : Int32)) &&& (6148914691236517205 : Int64))) &&& (3689348814741910323 : Int64)) + ((x_lushr (p1 - ((x_lushr p1 (1 : Int32)) &&& (6148914691236517205 : Int64))) (2 : Int32)) &&& (3689348814741910323 : Int64))) (4 : Int32))) &&& (1085102592571150095 : Int64)) (8 : Int32))) (16 : Int32))) + (x_lushr (((((((p1 - ((x_lushr p1 (1 : Int32)) &&& (6148914691236517205 : Int64))) &&& (3689348814741910323 : Int64)) + ((x_lushr (p1 - ((x_lushr p1 (1 : Int32)) &&& (6148914691236517205 : Int64))) (2 : Int32)) &&& (3689348814741910323 : Int64))) + (x_lushr (((p1 - ((x_lushr p1 (1 : Int32)) &&& (6148914691236517205 : Int64))) &&& (3689348814741910323 : Int64)) + ((x_lushr (p1 - ((x_lushr p1 (1 : Int32)) &&& (6148914691236517205 : Int64))) (2 : Int32)) &&& (3689348814741910323 : Int64))) (4 : Int32))) &&& (1085102592571150095 : Int64)) + (x_lushr (((((p1 - ((x_lushr p1 (1 : Int32)) &&& (6148914691236517205 : Int64))) &&& (3689348814741910323 : Int64)) + ((x_lushr (p1 - ((x_lushr p1 (1 : Int32)) &&& (6148914691236517205 : Int64))) (2 : Int32)) &&& (3689348814741910323 : Int64))) + (x_lushr (((p1 - ((x_lushr p1 (1 : Int32)) &&& (6148914691236517205 : Int64))) &&& (3689348814741910323 : Int64)) + ((x_lushr (p1 - ((x_lushr p1 (1 : Int32)) &&& (6148914691236517205 : Int64))) (2 : Int32)) &&& (3689348814741910323 : Int64))) (4 : Int32))) &&& (1085102592571150095 : Int64)) (8 : Int32))) + (x_lushr ((((((p1 - ((x_lushr p1 (1 : Int32)) &&& (6148914691236517205 : Int64))) &&& (3689348814741910323 : Int64)) + ((x_lushr (p1 - ((x_lushr p1 (1 : Int32)) &&& (6148914691236517205 : Int64))) (2 : Int32)) &&& (3689348814741910323 : Int64))) + (x_lushr (((p1 - ((x_lushr p1 (1 : Int32)) &&& (6148914691236517205 : Int64))) &&& (3689348814741910323 : Int64)) + ((x_lushr (p1 - ((x_lushr p1 (1 : Int32)) &&& (6148914691236517205 : Int64))) (2 : Int32)) &&& (3689348814741910323 : Int64))) (4 : Int32))) &&& (1085102592571150095 : Int64)) + (x_lushr (((((p1 - ((x_lushr p1 (1 : Int32)) &&& (6148914691236517205 : Int64))) &&& (3689348814741910323 : Int64)) + ((x_lushr (p1 - ((x_lushr p1 (1 : Int32)) &&& (6148914691236517205 : Int64))) (2 : Int32)) &&& (3689348814741910323 : Int64))) + (x_lushr (((p1 - ((x_lushr p1 (1 : Int32)) &&& (6148914691236517205 : Int64))) &&& (3689348814741910323 : Int64)) + ((x_lushr (p1 - ((x_lushr p1 (1 : Int32)) &&& (6148914691236517205 : Int64))) (2 : Int32)) &&& (3689348814741910323 : Int64))) (4 : Int32))) &&& (1085102592571150095 : Int64)) (8 : Int32))) (16 : Int32))) (32 : Int32)))).toInt32) &&& (127 : Int32)), z0))
abbrev rm_Integer_rotateLeft : Room := { frames := 0, cells := 0, slots := 0, locals := 0 }
set_option maxHeartbeats 4000000 in
set_option maxRecDepth 100000 in
theorem c_Integer_rotateLeft (l : Launch) (G : x_G) (p1 : Int32) (p2 : Int32) (z0 : x_St) (r : Int32) (z9 : x_St) (hf : f_Integer_rotateLeft (x_n G) p1 p2 z0 = some (r, z9)) : Met l (⟨"java/lang/Integer", "rotateLeft", "(II)I"⟩ : MethodName) (x_ws (⟨"java/lang/Integer", "rotateLeft", "(II)I"⟩ : MethodName) prog_12_method_50_code 2 (some .int)) rm_Integer_rotateLeft (va_Pc [.int p1, .int p2] (x_PW G z0)) (va_Qi (fun a u => r = a ∧ z9 = u) (x_PW G) (x_A G)) 0 0 (x_A G) := by
  refine va_MetF (cc := prog_12_method_50_code) (maxL := 2) (ret := (some .int)) (by decide +kernel) rfl ?_
  intro p e s m args below meth c s₁ B hml hv
  obtain ⟨rfl, hz, hP, hD, hK, hG⟩ := hv
  have C0 : x_Ctx G p s m _ meth c prog_12_method_50_code "java/lang/Integer" 2 (some .int) := ⟨B.exec, B.bytes, B.returns, hml, findClass_of_methodNamed B.named, fun w h => atoms_spec (ws := (x_ws (⟨"java/lang/Integer", "rotateLeft", "(II)I"⟩ : MethodName) prog_12_method_50_code 2 (some .int))) B.pre w (List.mem_cons_of_mem _ h), B.notSynchronized, hz, hK, hG⟩
  obtain ⟨hx, hb, hr, hml, hown, hts, hlocks, hz, hK, hG⟩ := id C0
  have hS : va_S (x_A G) s.heap s.heap [] := va_S.rf
  have hl := lv_entry ([.int p1, .int p2]) (n := 2) (Nat.le_of_ble_eq_true rfl)
  rw [lg_entry_eq]
  generalize (lg_sl ([.int p1, .int p2]) ++ List.replicate (2 - (lg_sl ([.int p1, .int p2])).length) Slot.unset).toArray = ls at hl ⊢
  have hl : lv_has ls 2 [(0, .int p1), (1, .int p2)] := hl
  rw [f_Integer_rotateLeft] at hf
  refine lv_iload_n hx hb d_Integer_rotateLeft_0 rfl (lv_at hl 0 rfl) ?_
  refine lv_iload_n hx hb d_Integer_rotateLeft_1 rfl (lv_at hl 1 rfl) ?_
  refine lv_ishl hx hb d_Integer_rotateLeft_2 ?_
  refine lv_iload_n hx hb d_Integer_rotateLeft_3 rfl (lv_at hl 0 rfl) ?_
  refine lv_iload_n hx hb d_Integer_rotateLeft_4 rfl (lv_at hl 1 rfl) ?_
  refine lv_ineg hx hb d_Integer_rotateLeft_5 ?_
  refine lv_iushr (v := (x_ushr p1 (-p2))) hx hb d_Integer_rotateLeft_6 rfl ?_
  refine lv_ior hx hb d_Integer_rotateLeft_7 ?_
  obtain ⟨rfl, rfl⟩ := x_ret hf
  exact W.iret (v := ((p1 <<< (p2 &&& 31)) ||| (x_ushr p1 (-p2)))) hx hb hr (fun t ht hW => ⟨⟨_, _, rfl, ⟨rfl, rfl⟩, x_pw hP hD hK hG hS hz ht hW⟩, hS.F ht⟩) hS.2.2 d_Integer_rotateLeft_8
abbrev rm_Integer_rotateRight : Room := { frames := 0, cells := 0, slots := 0, locals := 0 }
set_option maxHeartbeats 4000000 in
set_option maxRecDepth 100000 in
theorem c_Integer_rotateRight (l : Launch) (G : x_G) (p1 : Int32) (p2 : Int32) (z0 : x_St) (r : Int32) (z9 : x_St) (hf : f_Integer_rotateRight (x_n G) p1 p2 z0 = some (r, z9)) : Met l (⟨"java/lang/Integer", "rotateRight", "(II)I"⟩ : MethodName) (x_ws (⟨"java/lang/Integer", "rotateRight", "(II)I"⟩ : MethodName) prog_12_method_51_code 2 (some .int)) rm_Integer_rotateRight (va_Pc [.int p1, .int p2] (x_PW G z0)) (va_Qi (fun a u => r = a ∧ z9 = u) (x_PW G) (x_A G)) 0 0 (x_A G) := by
  refine va_MetF (cc := prog_12_method_51_code) (maxL := 2) (ret := (some .int)) (by decide +kernel) rfl ?_
  intro p e s m args below meth c s₁ B hml hv
  obtain ⟨rfl, hz, hP, hD, hK, hG⟩ := hv
  have C0 : x_Ctx G p s m _ meth c prog_12_method_51_code "java/lang/Integer" 2 (some .int) := ⟨B.exec, B.bytes, B.returns, hml, findClass_of_methodNamed B.named, fun w h => atoms_spec (ws := (x_ws (⟨"java/lang/Integer", "rotateRight", "(II)I"⟩ : MethodName) prog_12_method_51_code 2 (some .int))) B.pre w (List.mem_cons_of_mem _ h), B.notSynchronized, hz, hK, hG⟩
  obtain ⟨hx, hb, hr, hml, hown, hts, hlocks, hz, hK, hG⟩ := id C0
  have hS : va_S (x_A G) s.heap s.heap [] := va_S.rf
  have hl := lv_entry ([.int p1, .int p2]) (n := 2) (Nat.le_of_ble_eq_true rfl)
  rw [lg_entry_eq]
  generalize (lg_sl ([.int p1, .int p2]) ++ List.replicate (2 - (lg_sl ([.int p1, .int p2])).length) Slot.unset).toArray = ls at hl ⊢
  have hl : lv_has ls 2 [(0, .int p1), (1, .int p2)] := hl
  rw [f_Integer_rotateRight] at hf
  refine lv_iload_n hx hb d_Integer_rotateRight_0 rfl (lv_at hl 0 rfl) ?_
  refine lv_iload_n hx hb d_Integer_rotateRight_1 rfl (lv_at hl 1 rfl) ?_
  refine lv_iushr (v := (x_ushr p1 p2)) hx hb d_Integer_rotateRight_2 rfl ?_
  refine lv_iload_n hx hb d_Integer_rotateRight_3 rfl (lv_at hl 0 rfl) ?_
  refine lv_iload_n hx hb d_Integer_rotateRight_4 rfl (lv_at hl 1 rfl) ?_
  refine lv_ineg hx hb d_Integer_rotateRight_5 ?_
  refine lv_ishl hx hb d_Integer_rotateRight_6 ?_
  refine lv_ior hx hb d_Integer_rotateRight_7 ?_
  obtain ⟨rfl, rfl⟩ := x_ret hf
  exact W.iret (v := ((x_ushr p1 p2) ||| (p1 <<< ((-p2) &&& 31)))) hx hb hr (fun t ht hW => ⟨⟨_, _, rfl, ⟨rfl, rfl⟩, x_pw hP hD hK hG hS hz ht hW⟩, hS.F ht⟩) hS.2.2 d_Integer_rotateRight_8
abbrev rm_Arrays_fill : Room := { frames := 0, cells := 0, slots := 0, locals := 0 }
set_option maxHeartbeats 4000000 in
set_option maxRecDepth 100000 in
theorem w_Arrays_fill_5 (l : Launch) (G : x_G) {p : Program} {e : Env} {s : State} {m : MethodId} {args : Array Value} {below : List Frame} {meth : Method} {c : Code} (C0 : x_Ctx G p s m args meth c prog_20_method_103_code "java/util/Arrays" 4 none) (r : Unit) (z9 : x_St) : ∀ (fu : Nat), ∀ (a0 : Nat) (ha0 : x_isA a0 = true) (a1 : Int32) (a2 : Int32) (a3 : Int32) (z0 : x_St), f_Arrays_fill_5 (x_n G) fu a0 a1 a2 a3 z0 = some (r, z9) → ∀ (H : Heap) (locs : List Loc) (ls : Array Slot), va_P (x_D G) vwCl (x_Wd G z0) H → va_D (x_A G) (x_Wd G z0) → va_S (x_A G) s.heap H locs → lv_has ls 4 [(0, .ref (x_ad G a0)), (1, .int a1), (2, .int a2), (3, .int a3)] → W p l e rm_Arrays_fill s m args below meth c H locs 0 0 (MQ below (va_Qv (fun u => r = () ∧ z9 = u) (x_PW G) (x_A G)) args s 0 0 (x_A G)) (F0 m 5 ls []) := by
  obtain ⟨hx, hb, hr, hml, hown, hts, hlocks, hz, hK, hG⟩ := id C0
  intro fu
  induction fu with
  | zero =>
    intro a0 ha0 a1 a2 a3 z0 hf
    rw [f_Arrays_fill_5] at hf
    cases hf
  | succ fu ih =>
    intro a0 ha0 a1 a2 a3 z0 hf H locs ls hP hD hS hl
    rw [f_Arrays_fill_5] at hf
    refine lv_iload_n hx hb d_Arrays_fill_5 rfl (lv_at hl 2 rfl) ?_
    refine lv_iload_n hx hb d_Arrays_fill_6 rfl (lv_at hl 3 rfl) ?_
    refine lv_icmp_ge (tgt := 20) hx hb d_Arrays_fill_7 (by decide) (fun hc1 => ?_) (fun hc1 => ?_)
    · have hf := x_br_t hf hc1
      obtain ⟨rfl, rfl⟩ := x_ret hf
      exact W.vret hx hb hr (fun t ht hW => ⟨⟨_, rfl, ⟨rfl, rfl⟩, x_pw hP hD hK hG hS hz ht hW⟩, hS.F ht⟩) hS.2.2 d_Arrays_fill_20
    · have hf := x_br_f hf hc1
      refine lv_aload_n hx hb d_Arrays_fill_10 rfl (lv_at hl 0 rfl) ?_
      refine lv_iload_n hx hb d_Arrays_fill_11 rfl (lv_at hl 2 rfl) ?_
      refine lv_iload_n hx hb d_Arrays_fill_12 rfl (lv_at hl 1 rfl) ?_
      obtain ⟨hin2, hf⟩ := x_ck_some hf
      refine va_iast hx hb hK hP hD hS a0 0 (x_lk_A G _ ha0) rfl hin2 d_Arrays_fill_13 (fun H locs hP hD hS => ?_)
      rw [x_st_A G _ ha0] at hP hD
      refine lv_iinc (v := (a2 + (1 : Int32))) (lv' := [(2, .int (a2 + (1 : Int32))), (0, .ref (x_ad G a0)), (1, .int a1), (3, .int a3)]) hx hb d_Arrays_fill_14 hl (k := 2) rfl rfl (by decide) rfl (fun ls hl => ?_)
      refine lv_goto (tgt := 5) hx hb d_Arrays_fill_17 (by decide) ?_
      exact ih a0 ha0 a1 (a2 + (1 : Int32)) a3 (x_put z0 a0 (a2).toNatClampNeg a1) hf _ _ _ hP hD hS (lv_sub hl [1, 2, 0, 3] rfl)
set_option maxHeartbeats 4000000 in
set_option maxRecDepth 100000 in
theorem c_Arrays_fill (l : Launch) (G : x_G) (k1 : Nat) (hk1 : x_isA k1 = true) (p2 : Int32) (z0 : x_St) (r : Unit) (z9 : x_St) (hf : f_Arrays_fill (x_n G) k1 p2 z0 = some (r, z9)) : Met l (⟨"java/util/Arrays", "fill", "([II)V"⟩ : MethodName) (x_ws (⟨"java/util/Arrays", "fill", "([II)V"⟩ : MethodName) prog_20_method_103_code 4 none) rm_Arrays_fill (va_Pc [.ref (x_ad G k1), .int p2] (x_PW G z0)) (va_Qv (fun u => r = () ∧ z9 = u) (x_PW G) (x_A G)) 0 0 (x_A G) := by
  refine va_MetF (cc := prog_20_method_103_code) (maxL := 4) (ret := none) (by decide +kernel) rfl ?_
  intro p e s m args below meth c s₁ B hml hv
  obtain ⟨rfl, hz, hP, hD, hK, hG⟩ := hv
  have C0 : x_Ctx G p s m _ meth c prog_20_method_103_code "java/util/Arrays" 4 none := ⟨B.exec, B.bytes, B.returns, hml, findClass_of_methodNamed B.named, fun w h => atoms_spec (ws := (x_ws (⟨"java/util/Arrays", "fill", "([II)V"⟩ : MethodName) prog_20_method_103_code 4 none)) B.pre w (List.mem_cons_of_mem _ h), B.notSynchronized, hz, hK, hG⟩
  obtain ⟨hx, hb, hr, hml, hown, hts, hlocks, hz, hK, hG⟩ := id C0
  have hS : va_S (x_A G) s.heap s.heap [] := va_S.rf
  have hl := lv_entry ([.ref (x_ad G k1), .int p2]) (n := 4) (Nat.le_of_ble_eq_true rfl)
  rw [lg_entry_eq]
  generalize (lg_sl ([.ref (x_ad G k1), .int p2]) ++ List.replicate (4 - (lg_sl ([.ref (x_ad G k1), .int p2])).length) Slot.unset).toArray = ls at hl ⊢
  have hl : lv_has ls 4 [(0, .ref (x_ad G k1)), (1, .int p2)] := hl
  rw [f_Arrays_fill] at hf
  refine lv_iconst (v := (0 : Int32)) hx hb d_Arrays_fill_0 (by decide) ?_
  refine lv_istore_n (lv' := [(2, .int (0 : Int32)), (0, .ref (x_ad G k1)), (1, .int p2)]) hx hb d_Arrays_fill_1 rfl hl (by decide) rfl (fun ls hl => ?_)
  refine lv_aload_n hx hb d_Arrays_fill_2 rfl (lv_at hl 1 rfl) ?_
  refine va_alen hx hb hK hP k1 0 (x_lk_A G _ hk1) rfl (v := (Int32.ofNat (x_ln (x_n G) k1))) rfl d_Arrays_fill_3 ?_
  refine lv_istore_n (lv' := [(3, .int (Int32.ofNat (x_ln (x_n G) k1))), (2, .int (0 : Int32)), (0, .ref (x_ad G k1)), (1, .int p2)]) hx hb d_Arrays_fill_4 rfl hl (by decide) rfl (fun ls hl => ?_)
  exact w_Arrays_fill_5 l G C0 r z9 x_FU k1 hk1 p2 (0 : Int32) (Int32.ofNat (x_ln (x_n G) k1)) z0 hf _ _ _ hP hD hS (lv_sub hl [2, 3, 1, 0] rfl)
abbrev rm_Long_bitCount : Room := { frames := 0, cells := 0, slots := 0, locals := 0 }
set_option maxHeartbeats 4000000 in
set_option maxRecDepth 100000 in
theorem c_Long_bitCount (l : Launch) (G : x_G) (p1 : Int64) (z0 : x_St) (r : Int32) (z9 : x_St) (hf : f_Long_bitCount (x_n G) p1 z0 = some (r, z9)) : Met l (⟨"java/lang/Long", "bitCount", "(J)I"⟩ : MethodName) (x_ws (⟨"java/lang/Long", "bitCount", "(J)I"⟩ : MethodName) prog_13_method_50_code 2 (some .int)) rm_Long_bitCount (va_Pc [.long p1] (x_PW G z0)) (va_Qi (fun a u => r = a ∧ z9 = u) (x_PW G) (x_A G)) 0 0 (x_A G) := by
  refine va_MetF (cc := prog_13_method_50_code) (maxL := 2) (ret := (some .int)) (by decide +kernel) rfl ?_
  intro p e s m args below meth c s₁ B hml hv
  obtain ⟨rfl, hz, hP, hD, hK, hG⟩ := hv
  have C0 : x_Ctx G p s m _ meth c prog_13_method_50_code "java/lang/Long" 2 (some .int) := ⟨B.exec, B.bytes, B.returns, hml, findClass_of_methodNamed B.named, fun w h => atoms_spec (ws := (x_ws (⟨"java/lang/Long", "bitCount", "(J)I"⟩ : MethodName) prog_13_method_50_code 2 (some .int))) B.pre w (List.mem_cons_of_mem _ h), B.notSynchronized, hz, hK, hG⟩
  obtain ⟨hx, hb, hr, hml, hown, hts, hlocks, hz, hK, hG⟩ := id C0
  have hS : va_S (x_A G) s.heap s.heap [] := va_S.rf
  have hl := lv_entry ([.long p1]) (n := 2) (Nat.le_of_ble_eq_true rfl)
  rw [lg_entry_eq]
  generalize (lg_sl ([.long p1]) ++ List.replicate (2 - (lg_sl ([.long p1])).length) Slot.unset).toArray = ls at hl ⊢
  have hl : lv_has ls 2 [(0, .long p1)] := hl
  rw [f_Long_bitCount] at hf
  refine lv_lload_n hx hb d_Long_bitCount_0 rfl (lv_at hl 0 rfl) ?_
  refine lv_lload_n hx hb d_Long_bitCount_1 rfl (lv_at hl 0 rfl) ?_
  refine lv_iconst (v := (1 : Int32)) hx hb d_Long_bitCount_2 (by decide) ?_
  refine lv_lushr (v := (x_lushr p1 (1 : Int32))) hx hb d_Long_bitCount_3 rfl ?_
  refine lv_ldc2 (v := (6148914691236517205 : Int64)) hx hb hown (hts _ t_593) d_Long_bitCount_4 ?_
  refine lv_land hx hb d_Long_bitCount_7 ?_
  refine lv_lsub hx hb d_Long_bitCount_8 ?_
  refine lv_lstore_n (lv' := [(0, .long (p1 - ((x_lushr p1 (1 : Int32)) &&& (6148914691236517205 : Int64))))]) hx hb d_Long_bitCount_9 rfl hl (by decide) rfl (fun ls hl => ?_)
  refine lv_lload_n hx hb d_Long_bitCount_10 rfl (lv_at hl 0 rfl) ?_
  refine lv_ldc2 (v := (3689348814741910323 : Int64)) hx hb hown (hts _ t_594) d_Long_bitCount_11 ?_
  refine lv_land hx hb d_Long_bitCount_14 ?_
  refine lv_lload_n hx hb d_Long_bitCount_15 rfl (lv_at hl 0 rfl) ?_
  refine lv_iconst (v := (2 : Int32)) hx hb d_Long_bitCount_16 (by decide) ?_
  refine lv_lushr (v := (x_lushr (p1 - ((x_lushr p1 (1 : Int32)) &&& (6148914691236517205 : Int64))) (2 : Int32))) hx hb d_Long_bitCount_17 rfl ?_
  refine lv_ldc2 (v := (3689348814741910323 : Int64)) hx hb hown (hts _ t_594) d_Long_bitCount_18 ?_
  refine lv_land hx hb d_Long_bitCount_21 ?_
  refine lv_ladd hx hb d_Long_bitCount_22 ?_
  refine lv_lstore_n (lv' := [(0, .long (((p1 - ((x_lushr p1 (1 : Int32)) &&& (6148914691236517205 : Int64))) &&& (3689348814741910323 : Int64)) + ((x_lushr (p1 - ((x_lushr p1 (1 : Int32)) &&& (6148914691236517205 : Int64))) (2 : Int32)) &&& (3689348814741910323 : Int64))))]) hx hb d_Long_bitCount_23 rfl hl (by decide) rfl (fun ls hl => ?_)
  refine lv_lload_n hx hb d_Long_bitCount_24 rfl (lv_at hl 0 rfl) ?_
  refine lv_lload_n hx hb d_Long_bitCount_25 rfl (lv_at hl 0 rfl) ?_
  refine lv_iconst (v := (4 : Int32)) hx hb d_Long_bitCount_26 (by decide) ?_
  refine lv_lushr (v := (x_lushr (((p1 - ((x_lushr p1 (1 : Int32)) &&& (6148914691236517205 : Int64))) &&& (3689348814741910323 : Int64)) + ((x_lushr (p1 - ((x_lushr p1 (1 : Int32)) &&& (6148914691236517205 : Int64))) (2 : Int32)) &&& (3689348814741910323 : Int64))) (4 : Int32))) hx hb d_Long_bitCount_27 rfl ?_
  refine lv_ladd hx hb d_Long_bitCount_28 ?_
  refine lv_ldc2 (v := (1085102592571150095 : Int64)) hx hb hown (hts _ t_595) d_Long_bitCount_29 ?_
  refine lv_land hx hb d_Long_bitCount_32 ?_
  refine lv_lstore_n (lv' := [(0, .long (((((p1 - ((x_lushr p1 (1 : Int32)) &&& (6148914691236517205 : Int64))) &&& (3689348814741910323 : Int64)) + ((x_lushr (p1 - ((x_lushr p1 (1 : Int32)) &&& (6148914691236517205 : Int64))) (2 : Int32)) &&& (3689348814741910323 : Int64))) + (x_lushr (((p1 - ((x_lushr p1 (1 : Int32)) &&& (6148914691236517205 : Int64))) &&& (3689348814741910323 : Int64)) + ((x_lushr (p1 - ((x_lushr p1 (1 : Int32)) &&& (6148914691236517205 : Int64))) (2 : Int32)) &&& (3689348814741910323 : Int64))) (4 : Int32))) &&& (1085102592571150095 : Int64)))]) hx hb d_Long_bitCount_33 rfl hl (by decide) rfl (fun ls hl => ?_)
  refine lv_lload_n hx hb d_Long_bitCount_34 rfl (lv_at hl 0 rfl) ?_
  refine lv_lload_n hx hb d_Long_bitCount_35 rfl (lv_at hl 0 rfl) ?_
  refine lv_bipush (v := (8 : Int32)) hx hb d_Long_bitCount_36 (by decide) ?_
  refine lv_lushr (v := (x_lushr (((((p1 - ((x_lushr p1 (1 : Int32)) &&& (6148914691236517205 : Int64))) &&& (3689348814741910323 : Int64)) + ((x_lushr (p1 - ((x_lushr p1 (1 : Int32)) &&& (6148914691236517205 : Int64))) (2 : Int32)) &&& (3689348814741910323 : Int64))) + (x_lushr (((p1 - ((x_lushr p1 (1 : Int32)) &&& (6148914691236517205 : Int64))) &&& (3689348814741910323 : Int64)) + ((x_lushr (p1 - ((x_lushr p1 (1 : Int32)) &&& (6148914691236517205 : Int64))) (2 : Int32)) &&& (3689348814741910323 : Int64))) (4 : Int32))) &&& (1085102592571150095 : Int64)) (8 : Int32))) hx hb d_Long_bitCount_38 rfl ?_
  refine lv_ladd hx hb d_Long_bitCount_39 ?_
  refine lv_lstore_n (lv' := [(0, .long ((((((p1 - ((x_lushr p1 (1 : Int32)) &&& (6148914691236517205 : Int64))) &&& (3689348814741910323 : Int64)) + ((x_lushr (p1 - ((x_lushr p1 (1 : Int32)) &&& (6148914691236517205 : Int64))) (2 : Int32)) &&& (3689348814741910323 : Int64))) + (x_lushr (((p1 - ((x_lushr p1 (1 : Int32)) &&& (6148914691236517205 : Int64))) &&& (3689348814741910323 : Int64)) + ((x_lushr (p1 - ((x_lushr p1 (1 : Int32)) &&& (6148914691236517205 : Int64))) (2 : Int32)) &&& (3689348814741910323 : Int64))) (4 : Int32))) &&& (1085102592571150095 : Int64)) + (x_lushr (((((p1 - ((x_lushr p1 (1 : Int32)) &&& (6148914691236517205 : Int64))) &&& (3689348814741910323 : Int64)) + ((x_lushr (p1 - ((x_lushr p1 (1 : Int32)) &&& (6148914691236517205 : Int64))) (2 : Int32)) &&& (3689348814741910323 : Int64))) + (x_lushr (((p1 - ((x_lushr p1 (1 : Int32)) &&& (6148914691236517205 : Int64))) &&& (3689348814741910323 : Int64)) + ((x_lushr (p1 - ((x_lushr p1 (1 : Int32)) &&& (6148914691236517205 : Int64))) (2 : Int32)) &&& (3689348814741910323 : Int64))) (4 : Int32))) &&& (1085102592571150095 : Int64)) (8 : Int32))))]) hx hb d_Long_bitCount_40 rfl hl (by decide) rfl (fun ls hl => ?_)
  refine lv_lload_n hx hb d_Long_bitCount_41 rfl (lv_at hl 0 rfl) ?_
  refine lv_lload_n hx hb d_Long_bitCount_42 rfl (lv_at hl 0 rfl) ?_
  refine lv_bipush (v := (16 : Int32)) hx hb d_Long_bitCount_43 (by decide) ?_
  refine lv_lushr (v := (x_lushr ((((((p1 - ((x_lushr p1 (1 : Int32)) &&& (6148914691236517205 : Int64))) &&& (3689348814741910323 : Int64)) + ((x_lushr (p1 - ((x_lushr p1 (1 : Int32)) &&& (6148914691236517205 : Int64))) (2 : Int32)) &&& (3689348814741910323 : Int64))) + (x_lushr (((p1 - ((x_lushr p1 (1 : Int32)) &&& (6148914691236517205 : Int64))) &&& (3689348814741910323 : Int64)) + ((x_lushr (p1 - ((x_lushr p1 (1 : Int32)) &&& (6148914691236517205 : Int64))) (2 : Int32)) &&& (3689348814741910323 : Int64))) (4 : Int32))) &&& (1085102592571150095 : Int64)) + (x_lushr (((((p1 - ((x_lushr p1 (1 : Int32)) &&& (6148914691236517205 : Int64))) &&& (3689348814741910323 : Int64)) + ((x_lushr (p1 - ((x_lushr p1 (1 : Int32)) &&& (6148914691236517205 : Int64))) (2 : Int32)) &&& (3689348814741910323 : Int64))) + (x_lushr (((p1 - ((x_lushr p1 (1 : Int32)) &&& (6148914691236517205 : Int64))) &&& (3689348814741910323 : Int64)) + ((x_lushr (p1 - ((x_lushr p1 (1 : Int32)) &&& (6148914691236517205 : Int64))) (2 : Int32)) &&& (3689348814741910323 : Int64))) (4 : Int32))) &&& (1085102592571150095 : Int64)) (8 : Int32))) (16 : Int32))) hx hb d_Long_bitCount_45 rfl ?_
  refine lv_ladd hx hb d_Long_bitCount_46 ?_
  refine lv_lstore_n (lv' := [(0, .long (((((((p1 - ((x_lushr p1 (1 : Int32)) &&& (6148914691236517205 : Int64))) &&& (3689348814741910323 : Int64)) + ((x_lushr (p1 - ((x_lushr p1 (1 : Int32)) &&& (6148914691236517205 : Int64))) (2 : Int32)) &&& (3689348814741910323 : Int64))) + (x_lushr (((p1 - ((x_lushr p1 (1 : Int32)) &&& (6148914691236517205 : Int64))) &&& (3689348814741910323 : Int64)) + ((x_lushr (p1 - ((x_lushr p1 (1 : Int32)) &&& (6148914691236517205 : Int64))) (2 : Int32)) &&& (3689348814741910323 : Int64))) (4 : Int32))) &&& (1085102592571150095 : Int64)) + (x_lushr (((((p1 - ((x_lushr p1 (1 : Int32)) &&& (6148914691236517205 : Int64))) &&& (3689348814741910323 : Int64)) + ((x_lushr (p1 - ((x_lushr p1 (1 : Int32)) &&& (6148914691236517205 : Int64))) (2 : Int32)) &&& (3689348814741910323 : Int64))) + (x_lushr (((p1 - ((x_lushr p1 (1 : Int32)) &&& (6148914691236517205 : Int64))) &&& (3689348814741910323 : Int64)) + ((x_lushr (p1 - ((x_lushr p1 (1 : Int32)) &&& (6148914691236517205 : Int64))) (2 : Int32)) &&& (3689348814741910323 : Int64))) (4 : Int32))) &&& (1085102592571150095 : Int64)) (8 : Int32))) + (x_lushr ((((((p1 - ((x_lushr p1 (1 : Int32)) &&& (6148914691236517205 : Int64))) &&& (3689348814741910323 : Int64)) + ((x_lushr (p1 - ((x_lushr p1 (1 : Int32)) &&& (6148914691236517205 : Int64))) (2 : Int32)) &&& (3689348814741910323 : Int64))) + (x_lushr (((p1 - ((x_lushr p1 (1 : Int32)) &&& (6148914691236517205 : Int64))) &&& (3689348814741910323 : Int64)) + ((x_lushr (p1 - ((x_lushr p1 (1 : Int32)) &&& (6148914691236517205 : Int64))) (2 : Int32)) &&& (3689348814741910323 : Int64))) (4 : Int32))) &&& (1085102592571150095 : Int64)) + (x_lushr (((((p1 - ((x_lushr p1 (1 : Int32)) &&& (6148914691236517205 : Int64))) &&& (3689348814741910323 : Int64)) + ((x_lushr (p1 - ((x_lushr p1 (1 : Int32)) &&& (6148914691236517205 : Int64))) (2 : Int32)) &&& (3689348814741910323 : Int64))) + (x_lushr (((p1 - ((x_lushr p1 (1 : Int32)) &&& (6148914691236517205 : Int64))) &&& (3689348814741910323 : Int64)) + ((x_lushr (p1 - ((x_lushr p1 (1 : Int32)) &&& (6148914691236517205 : Int64))) (2 : Int32)) &&& (3689348814741910323 : Int64))) (4 : Int32))) &&& (1085102592571150095 : Int64)) (8 : Int32))) (16 : Int32))))]) hx hb d_Long_bitCount_47 rfl hl (by decide) rfl (fun ls hl => ?_)
  refine lv_lload_n hx hb d_Long_bitCount_48 rfl (lv_at hl 0 rfl) ?_
  refine lv_lload_n hx hb d_Long_bitCount_49 rfl (lv_at hl 0 rfl) ?_
  refine lv_bipush (v := (32 : Int32)) hx hb d_Long_bitCount_50 (by decide) ?_
  refine lv_lushr (v := (x_lushr (((((((p1 - ((x_lushr p1 (1 : Int32)) &&& (6148914691236517205 : Int64))) &&& (3689348814741910323 : Int64)) + ((x_lushr (p1 - ((x_lushr p1 (1 : Int32)) &&& (6148914691236517205 : Int64))) (2 : Int32)) &&& (3689348814741910323 : Int64))) + (x_lushr (((p1 - ((x_lushr p1 (1 : Int32)) &&& (6148914691236517205 : Int64))) &&& (3689348814741910323 : Int64)) + ((x_lushr (p1 - ((x_lushr p1 (1 : Int32)) &&& (6148914691236517205 : Int64))) (2 : Int32)) &&& (3689348814741910323 : Int64))) (4 : Int32))) &&& (1085102592571150095 : Int64)) + (x_lushr (((((p1 - ((x_lushr p1 (1 : Int32)) &&& (6148914691236517205 : Int64))) &&& (3689348814741910323 : Int64)) + ((x_lushr (p1 - ((x_lushr p1 (1 : Int32)) &&& (6148914691236517205 : Int64))) (2 : Int32)) &&& (3689348814741910323 : Int64))) + (x_lushr (((p1 - ((x_lushr p1 (1 : Int32)) &&& (6148914691236517205 : Int64))) &&& (3689348814741910323 : Int64)) + ((x_lushr (p1 - ((x_lushr p1 (1 : Int32)) &&& (6148914691236517205 : Int64))) (2 : Int32)) &&& (3689348814741910323 : Int64))) (4 : Int32))) &&& (1085102592571150095 : Int64)) (8 : Int32))) + (x_lushr ((((((p1 - ((x_lushr p1 (1 : Int32)) &&& (6148914691236517205 : Int64))) &&& (3689348814741910323 : Int64)) + ((x_lushr (p1 - ((x_lushr p1 (1 : Int32)) &&& (6148914691236517205 : Int64))) (2 : Int32)) &&& (3689348814741910323 : Int64))) + (x_lushr (((p1 - ((x_lushr p1 (1 : Int32)) &&& (6148914691236517205 : Int64))) &&& (3689348814741910323 : Int64)) + ((x_lushr (p1 - ((x_lushr p1 (1 : Int32)) &&& (6148914691236517205 : Int64))) (2 : Int32)) &&& (3689348814741910323 : Int64))) (4 : Int32))) &&& (1085102592571150095 : Int64)) + (x_lushr (((((p1 - ((x_lushr p1 (1 : Int32)) &&& (6148914691236517205 : Int64))) &&& (3689348814741910323 : Int64)) + ((x_lushr (p1 - ((x_lushr p1 (1 : Int32)) &&& (6148914691236517205 : Int64))) (2 : Int32)) &&& (3689348814741910323 : Int64))) + (x_lushr (((p1 - ((x_lushr p1 (1 : Int32)) &&& (6148914691236517205 : Int64))) &&& (3689348814741910323 : Int64)) + ((x_lushr (p1 - ((x_lushr p1 (1 : Int32)) &&& (6148914691236517205 : Int64))) (2 : Int32)) &&& (3689348814741910323 : Int64))) (4 : Int32))) &&& (1085102592571150095 : Int64)) (8 : Int32))) (16 : Int32))) (32 : Int32))) hx hb d_Long_bitCount_52 rfl ?_
  refine lv_ladd hx hb d_Long_bitCount_53 ?_
  refine lv_lstore_n (lv' := [(0, .long ((((((((p1 - ((x_lushr p1 (1 : Int32)) &&& (6148914691236517205 : Int64))) &&& (3689348814741910323 : Int64)) + ((x_lushr (p1 - ((x_lushr p1 (1 : Int32)) &&& (6148914691236517205 : Int64))) (2 : Int32)) &&& (3689348814741910323 : Int64))) + (x_lushr (((p1 - ((x_lushr p1 (1 : Int32)) &&& (6148914691236517205 : Int64))) &&& (3689348814741910323 : Int64)) + ((x_lushr (p1 - ((x_lushr p1 (1 : Int32)) &&& (6148914691236517205 : Int64))) (2 : Int32)) &&& (3689348814741910323 : Int64))) (4 : Int32))) &&& (1085102592571150095 : Int64)) + (x_lushr (((((p1 - ((x_lushr p1 (1 : Int32)) &&& (6148914691236517205 : Int64))) &&& (3689348814741910323 : Int64)) + ((x_lushr (p1 - ((x_lushr p1 (1 : Int32)) &&& (6148914691236517205 : Int64))) (2 : Int32)) &&& (3689348814741910323 : Int64))) + (x_lushr (((p1 - ((x_lushr p1 (1 : Int32)) &&& (6148914691236517205 : Int64))) &&& (3689348814741910323 : Int64)) + ((x_lushr (p1 - ((x_lushr p1 (1 : Int32)) &&& (6148914691236517205 : Int64))) (2 : Int32)) &&& (3689348814741910323 : Int64))) (4 : Int32))) &&& (1085102592571150095 : Int64)) (8 : Int32))) + (x_lushr ((((((p1 - ((x_lushr p1 (1 : Int32)) &&& (6148914691236517205 : Int64))) &&& (3689348814741910323 : Int64)) + ((x_lushr (p1 - ((x_lushr p1 (1 : Int32)) &&& (6148914691236517205 : Int64))) (2 : Int32)) &&& (3689348814741910323 : Int64))) + (x_lushr (((p1 - ((x_lushr p1 (1 : Int32)) &&& (6148914691236517205 : Int64))) &&& (3689348814741910323 : Int64)) + ((x_lushr (p1 - ((x_lushr p1 (1 : Int32)) &&& (6148914691236517205 : Int64))) (2 : Int32)) &&& (3689348814741910323 : Int64))) (4 : Int32))) &&& (1085102592571150095 : Int64)) + (x_lushr (((((p1 - ((x_lushr p1 (1 : Int32)) &&& (6148914691236517205 : Int64))) &&& (3689348814741910323 : Int64)) + ((x_lushr (p1 - ((x_lushr p1 (1 : Int32)) &&& (6148914691236517205 : Int64))) (2 : Int32)) &&& (3689348814741910323 : Int64))) + (x_lushr (((p1 - ((x_lushr p1 (1 : Int32)) &&& (6148914691236517205 : Int64))) &&& (3689348814741910323 : Int64)) + ((x_lushr (p1 - ((x_lushr p1 (1 : Int32)) &&& (6148914691236517205 : Int64))) (2 : Int32)) &&& (3689348814741910323 : Int64))) (4 : Int32))) &&& (1085102592571150095 : Int64)) (8 : Int32))) (16 : Int32))) + (x_lushr (((((((p1 - ((x_lushr p1 (1 : Int32)) &&& (6148914691236517205 : Int64))) &&& (3689348814741910323 : Int64)) + ((x_lushr (p1 - ((x_lushr p1 (1 : Int32)) &&& (6148914691236517205 : Int64))) (2 : Int32)) &&& (3689348814741910323 : Int64))) + (x_lushr (((p1 - ((x_lushr p1 (1 : Int32)) &&& (6148914691236517205 : Int64))) &&& (3689348814741910323 : Int64)) + ((x_lushr (p1 - ((x_lushr p1 (1 : Int32)) &&& (6148914691236517205 : Int64))) (2 : Int32)) &&& (3689348814741910323 : Int64))) (4 : Int32))) &&& (1085102592571150095 : Int64)) + (x_lushr (((((p1 - ((x_lushr p1 (1 : Int32)) &&& (6148914691236517205 : Int64))) &&& (3689348814741910323 : Int64)) + ((x_lushr (p1 - ((x_lushr p1 (1 : Int32)) &&& (6148914691236517205 : Int64))) (2 : Int32)) &&& (3689348814741910323 : Int64))) + (x_lushr (((p1 - ((x_lushr p1 (1 : Int32)) &&& (6148914691236517205 : Int64))) &&& (3689348814741910323 : Int64)) + ((x_lushr (p1 - ((x_lushr p1 (1 : Int32)) &&& (6148914691236517205 : Int64))) (2 : Int32)) &&& (3689348814741910323 : Int64))) (4 : Int32))) &&& (1085102592571150095 : Int64)) (8 : Int32))) + (x_lushr ((((((p1 - ((x_lushr p1 (1 : Int32)) &&& (6148914691236517205 : Int64))) &&& (3689348814741910323 : Int64)) + ((x_lushr (p1 - ((x_lushr p1 (1 : Int32)) &&& (6148914691236517205 : Int64))) (2 : Int32)) &&& (3689348814741910323 : Int64))) + (x_lushr (((p1 - ((x_lushr p1 (1 : Int32)) &&& (6148914691236517205 : Int64))) &&& (3689348814741910323 : Int64)) + ((x_lushr (p1 - ((x_lushr p1 (1 : Int32)) &&& (6148914691236517205 : Int64))) (2 : Int32)) &&& (3689348814741910323 : Int64))) (4 : Int32))) &&& (1085102592571150095 : Int64)) + (x_lushr (((((p1 - ((x_lushr p1 (1 : Int32)) &&& (6148914691236517205 : Int64))) &&& (3689348814741910323 : Int64)) + ((x_lushr (p1 - ((x_lushr p1 (1 : Int32)) &&& (6148914691236517205 : Int64))) (2 : Int32)) &&& (3689348814741910323 : Int64))) + (x_lushr (((p1 - ((x_lushr p1 (1 : Int32)) &&& (6148914691236517205 : Int64))) &&& (3689348814741910323 : Int64)) + ((x_lushr (p1 - ((x_lushr p1 (1 : Int32)) &&& (6148914691236517205 : Int64))) (2 : Int32)) &&& (3689348814741910323 : Int64))) (4 : Int32))) &&& (1085102592571150095 : Int64)) (8 : Int32))) (16 : Int32))) (32 : Int32))))]) hx hb d_Long_bitCount_54 rfl hl (by decide) rfl (fun ls hl => ?_)
  refine lv_lload_n hx hb d_Long_bitCount_55 rfl (lv_at hl 0 rfl) ?_
  refine lv_l2i (v := ((((((((((p1 - ((x_lushr p1 (1 : Int32)) &&& (6148914691236517205 : Int64))) &&& (3689348814741910323 : Int64)) + ((x_lushr (p1 - ((x_lushr p1 (1 : Int32)) &&& (6148914691236517205 : Int64))) (2 : Int32)) &&& (3689348814741910323 : Int64))) + (x_lushr (((p1 - ((x_lushr p1 (1 : Int32)) &&& (6148914691236517205 : Int64))) &&& (3689348814741910323 : Int64)) + ((x_lushr (p1 - ((x_lushr p1 (1 : Int32)) &&& (6148914691236517205 : Int64))) (2 : Int32)) &&& (3689348814741910323 : Int64))) (4 : Int32))) &&& (1085102592571150095 : Int64)) + (x_lushr (((((p1 - ((x_lushr p1 (1 : Int32)) &&& (6148914691236517205 : Int64))) &&& (3689348814741910323 : Int64)) + ((x_lushr (p1 - ((x_lushr p1 (1 : Int32)) &&& (6148914691236517205 : Int64))) (2 : Int32)) &&& (3689348814741910323 : Int64))) + (x_lushr (((p1 - ((x_lushr p1 (1 : Int32)) &&& (6148914691236517205 : Int64))) &&& (3689348814741910323 : Int64)) + ((x_lushr (p1 - ((x_lushr p1 (1 : Int32)) &&& (6148914691236517205 : Int64))) (2 : Int32)) &&& (3689348814741910323 : Int64))) (4 : Int32))) &&& (1085102592571150095 : Int64)) (8 : Int32))) + (x_lushr ((((((p1 - ((x_lushr p1 (1 : Int32)) &&& (6148914691236517205 : Int64))) &&& (3689348814741910323 : Int64)) + ((x_lushr (p1 - ((x_lushr p1 (1 : Int32)) &&& (6148914691236517205 : Int64))) (2 : Int32)) &&& (3689348814741910323 : Int64))) + (x_lushr (((p1 - ((x_lushr p1 (1 : Int32)) &&& (6148914691236517205 : Int64))) &&& (3689348814741910323 : Int64)) + ((x_lushr (p1 - ((x_lushr p1 (1 : Int32)) &&& (6148914691236517205 : Int64))) (2 : Int32)) &&& (3689348814741910323 : Int64))) (4 : Int32))) &&& (1085102592571150095 : Int64)) + (x_lushr (((((p1 - ((x_lushr p1 (1 : Int32)) &&& (6148914691236517205 : Int64))) &&& (3689348814741910323 : Int64)) + ((x_lushr (p1 - ((x_lushr p1 (1 : Int32)) &&& (6148914691236517205 : Int64))) (2 : Int32)) &&& (3689348814741910323 : Int64))) + (x_lushr (((p1 - ((x_lushr p1 (1 : Int32)) &&& (6148914691236517205 : Int64))) &&& (3689348814741910323 : Int64)) + ((x_lushr (p1 - ((x_lushr p1 (1 : Int32)) &&& (6148914691236517205 : Int64))) (2 : Int32)) &&& (3689348814741910323 : Int64))) (4 : Int32))) &&& (1085102592571150095 : Int64)) (8 : Int32))) (16 : Int32))) + (x_lushr (((((((p1 - ((x_lushr p1 (1 : Int32)) &&& (6148914691236517205 : Int64))) &&& (3689348814741910323 : Int64)) + ((x_lushr (p1 - ((x_lushr p1 (1 : Int32)) &&& (6148914691236517205 : Int64))) (2 : Int32)) &&& (3689348814741910323 : Int64))) + (x_lushr (((p1 - ((x_lushr p1 (1 : Int32)) &&& (6148914691236517205 : Int64))) &&& (3689348814741910323 : Int64)) + ((x_lushr (p1 - ((x_lushr p1 (1 : Int32)) &&& (6148914691236517205 : Int64))) (2 : Int32)) &&& (3689348814741910323 : Int64))) (4 : Int32))) &&& (1085102592571150095 : Int64)) + (x_lushr (((((p1 - ((x_lushr p1 (1 : Int32)) &&& (6148914691236517205 : Int64))) &&& (3689348814741910323 : Int64)) + ((x_lushr (p1 - ((x_lushr p1 (1 : Int32)) &&& (6148914691236517205 : Int64))) (2 : Int32)) &&& (3689348814741910323 : Int64))) + (x_lushr (((p1 - ((x_lushr p1 (1 : Int32)) &&& (6148914691236517205 : Int64))) &&& (3689348814741910323 : Int64)) + ((x_lushr (p1 - ((x_lushr p1 (1 : Int32)) &&& (6148914691236517205 : Int64))) (2 : Int32)) &&& (3689348814741910323 : Int64))) (4 : Int32))) &&& (1085102592571150095 : Int64)) (8 : Int32))) + (x_lushr ((((((p1 - ((x_lushr p1 (1 : Int32)) &&& (6148914691236517205 : Int64))) &&& (3689348814741910323 : Int64)) + ((x_lushr (p1 - ((x_lushr p1 (1 : Int32)) &&& (6148914691236517205 : Int64))) (2 : Int32)) &&& (3689348814741910323 : Int64))) + (x_lushr (((p1 - ((x_lushr p1 (1 : Int32)) &&& (6148914691236517205 : Int64))) &&& (3689348814741910323 : Int64)) + ((x_lushr (p1 - ((x_lushr p1 (1 : Int32)) &&& (6148914691236517205 : Int64))) (2 : Int32)) &&& (3689348814741910323 : Int64))) (4 : Int32))) &&& (1085102592571150095 : Int64)) + (x_lushr (((((p1 - ((x_lushr p1 (1 : Int32)) &&& (6148914691236517205 : Int64))) &&& (3689348814741910323 : Int64)) + ((x_lushr (p1 - ((x_lushr p1 (1 : Int32)) &&& (6148914691236517205 : Int64))) (2 : Int32)) &&& (3689348814741910323 : Int64))) + (x_lushr (((p1 - ((x_lushr p1 (1 : Int32)) &&& (6148914691236517205 : Int64))) &&& (3689348814741910323 : Int64)) + ((x_lushr (p1 - ((x_lushr p1 (1 : Int32)) &&& (6148914691236517205 : Int64))) (2 : Int32)) &&& (3689348814741910323 : Int64))) (4 : Int32))) &&& (1085102592571150095 : Int64)) (8 : Int32))) (16 : Int32))) (32 : Int32)))).toInt32)) hx hb d_Long_bitCount_56 rfl ?_
  refine lv_bipush (v := (127 : Int32)) hx hb d_Long_bitCount_57 (by decide) ?_
  refine lv_iand hx hb d_Long_bitCount_59 ?_
  obtain ⟨rfl, rfl⟩ := x_ret hf
  exact W.iret (v := (((((((((((p1 - ((x_lushr p1 (1 : Int32)) &&& (6148914691236517205 : Int64))) &&& (3689348814741910323 : Int64)) + ((x_lushr (p1 - ((x_lushr p1 (1 : Int32)) &&& (6148914691236517205 : Int64))) (2 : Int32)) &&& (3689348814741910323 : Int64))) + (x_lushr (((p1 - ((x_lushr p1 (1 : Int32)) &&& (6148914691236517205 : Int64))) &&& (3689348814741910323 : Int64)) + ((x_lushr (p1 - ((x_lushr p1 (1 : Int32)) &&& (6148914691236517205 : Int64))) (2 : Int32)) &&& (3689348814741910323 : Int64))) (4 : Int32))) &&& (1085102592571150095 : Int64)) + (x_lushr (((((p1 - ((x_lushr p1 (1 : Int32)) &&& (6148914691236517205 : Int64))) &&& (3689348814741910323 : Int64)) + ((x_lushr (p1 - ((x_lushr p1 (1 : Int32)) &&& (6148914691236517205 : Int64))) (2 : Int32)) &&& (3689348814741910323 : Int64))) + (x_lushr (((p1 - ((x_lushr p1 (1 : Int32)) &&& (6148914691236517205 : Int64))) &&& (3689348814741910323 : Int64)) + ((x_lushr (p1 - ((x_lushr p1 (1 : Int32)) &&& (6148914691236517205 : Int64))) (2 : Int32)) &&& (3689348814741910323 : Int64))) (4 : Int32))) &&& (1085102592571150095 : Int64)) (8 : Int32))) + (x_lushr ((((((p1 - ((x_lushr p1 (1 : Int32)) &&& (6148914691236517205 : Int64))) &&& (3689348814741910323 : Int64)) + ((x_lushr (p1 - ((x_lushr p1 (1 : Int32)) &&& (6148914691236517205 : Int64))) (2 : Int32)) &&& (3689348814741910323 : Int64))) + (x_lushr (((p1 - ((x_lushr p1 (1 : Int32)) &&& (6148914691236517205 : Int64))) &&& (3689348814741910323 : Int64)) + ((x_lushr (p1 - ((x_lushr p1 (1 : Int32)) &&& (6148914691236517205 : Int64))) (2 : Int32)) &&& (3689348814741910323 : Int64))) (4 : Int32))) &&& (1085102592571150095 : Int64)) + (x_lushr (((((p1 - ((x_lushr p1 (1 : Int32)) &&& (6148914691236517205 : Int64))) &&& (3689348814741910323 : Int64)) + ((x_lushr (p1 - ((x_lushr p1 (1 : Int32)) &&& (6148914691236517205 : Int64))) (2 : Int32)) &&& (3689348814741910323 : Int64))) + (x_lushr (((p1 - ((x_lushr p1 (1 : Int32)) &&& (6148914691236517205 : Int64))) &&& (3689348814741910323 : Int64)) + ((x_lushr (p1 - ((x_lushr p1 (1 : Int32)) &&& (6148914691236517205 : Int64))) (2 : Int32)) &&& (3689348814741910323 : Int64))) (4 : Int32))) &&& (1085102592571150095 : Int64)) (8 : Int32))) (16 : Int32))) + (x_lushr (((((((p1 - ((x_lushr p1 (1 : Int32)) &&& (6148914691236517205 : Int64))) &&& (3689348814741910323 : Int64)) + ((x_lushr (p1 - ((x_lushr p1 (1 : Int32)) &&& (6148914691236517205 : Int64))) (2 : Int32)) &&& (3689348814741910323 : Int64))) + (x_lushr (((p1 - ((x_lushr p1 (1 : Int32)) &&& (6148914691236517205 : Int64))) &&& (3689348814741910323 : Int64)) + ((x_lushr (p1 - ((x_lushr p1 (1 : Int32)) &&& (6148914691236517205 : Int64))) (2 : Int32)) &&& (3689348814741910323 : Int64))) (4 : Int32))) &&& (1085102592571150095 : Int64)) + (x_lushr (((((p1 - ((x_lushr p1 (1 : Int32)) &&& (6148914691236517205 : Int64))) &&& (3689348814741910323 : Int64)) + ((x_lushr (p1 - ((x_lushr p1 (1 : Int32)) &&& (6148914691236517205 : Int64))) (2 : Int32)) &&& (3689348814741910323 : Int64))) + (x_lushr (((p1 - ((x_lushr p1 (1 : Int32)) &&& (6148914691236517205 : Int64))) &&& (3689348814741910323 : Int64)) + ((x_lushr (p1 - ((x_lushr p1 (1 : Int32)) &&& (6148914691236517205 : Int64))) (2 : Int32)) &&& (3689348814741910323 : Int64))) (4 : Int32))) &&& (1085102592571150095 : Int64)) (8 : Int32))) + (x_lushr ((((((p1 - ((x_lushr p1 (1 : Int32)) &&& (6148914691236517205 : Int64))) &&& (3689348814741910323 : Int64)) + ((x_lushr (p1 - ((x_lushr p1 (1 : Int32)) &&& (6148914691236517205 : Int64))) (2 : Int32)) &&& (3689348814741910323 : Int64))) + (x_lushr (((p1 - ((x_lushr p1 (1 : Int32)) &&& (6148914691236517205 : Int64))) &&& (3689348814741910323 : Int64)) + ((x_lushr (p1 - ((x_lushr p1 (1 : Int32)) &&& (6148914691236517205 : Int64))) (2 : Int32)) &&& (3689348814741910323 : Int64))) (4 : Int32))) &&& (1085102592571150095 : Int64)) + (x_lushr (((((p1 - ((x_lushr p1 (1 : Int32)) &&& (6148914691236517205 : Int64))) &&& (3689348814741910323 : Int64)) + ((x_lushr (p1 - ((x_lushr p1 (1 : Int32)) &&& (6148914691236517205 : Int64))) (2 : Int32)) &&& (3689348814741910323 : Int64))) + (x_lushr (((p1 - ((x_lushr p1 (1 : Int32)) &&& (6148914691236517205 : Int64))) &&& (3689348814741910323 : Int64)) + ((x_lushr (p1 - ((x_lushr p1 (1 : Int32)) &&& (6148914691236517205 : Int64))) (2 : Int32)) &&& (3689348814741910323 : Int64))) (4 : Int32))) &&& (1085102592571150095 : Int64)) (8 : Int32))) (16 : Int32))) (32 : Int32)))).toInt32) &&& (127 : Int32))) hx hb hr (fun t ht hW => ⟨⟨_, _, rfl, ⟨rfl, rfl⟩, x_pw hP hD hK hG hS hz ht hW⟩, hS.F ht⟩) hS.2.2 d_Long_bitCount_60
end
section
theorem t_11 : Cond.initialized "java/lang/IllegalStateException" ∈ x_big := x_bt 11 (by decide +kernel) (by decide +kernel)
theorem t_14 : Cond.initialized "java/lang/IndexOutOfBoundsException" ∈ x_big := x_bt 14 (by decide +kernel) (by decide +kernel)
theorem t_40 : Cond.fieldLink "ContentLibrary" 233 "ContentLibrary$Blocks" "count" "I" ∈ x_big := x_bt 40 (by decide +kernel) (by decide +kernel)
theorem t_44 : Cond.fieldLink "ContentLibrary" 213 "ContentLibrary$Blocks" "cut" "Z" ∈ x_big := x_bt 44 (by decide +kernel) (by decide +kernel)
theorem t_67 : Cond.fieldLink "ContentLibrary" 80 "ContentLibrary$Picture" "there" "Z" ∈ x_big := x_bt 67 (by decide +kernel) (by decide +kernel)
theorem t_90 : Cond.fieldLink "ContentLibrary" 178 "ContentLibrary$Kept" "there" "Z" ∈ x_big := x_bt 90 (by decide +kernel) (by decide +kernel)
theorem t_130 : Cond.fieldLink "ContentLibrary" 23 "ContentLibrary" "blocks" "LContentLibrary$Blocks;" ∈ x_big := x_bt 130 (by decide +kernel) (by decide +kernel)
theorem t_132 : Cond.fieldLink "ContentLibrary" 33 "ContentLibrary" "made" "[LContentLibrary$Picture;" ∈ x_big := x_bt 132 (by decide +kernel) (by decide +kernel)
theorem t_133 : Cond.fieldLink "ContentLibrary" 40 "ContentLibrary" "kept" "[LContentLibrary$Kept;" ∈ x_big := x_bt 133 (by decide +kernel) (by decide +kernel)
theorem t_339 : Cond.classLink "ContentLibrary" 251 "java/lang/IllegalStateException" ∈ x_big := x_bt 339 (by decide +kernel) (by decide +kernel)
theorem t_457 : Cond.classLink "ContentLibrary" 145 "java/lang/IndexOutOfBoundsException" ∈ x_big := x_bt 457 (by decide +kernel) (by decide +kernel)
theorem at_255_IllegalStateException : ∀ w ∈ Jvm.Bundle.ownAtoms "ContentLibrary" 255 "java/lang/IllegalStateException" ["java/lang/RuntimeException", "java/lang/Exception"], w ∈ x_big ∨ w ∈ e_rest "java/lang/IllegalStateException" := by
  have h : ∀ w ∈ Jvm.Bundle.ownAtoms "ContentLibrary" 255 "java/lang/IllegalStateException" ["java/lang/RuntimeException", "java/lang/Exception"], (goodWord w = true ∧ w ∈ lw_tbl) ∨ w ∈ e_rest "java/lang/IllegalStateException" := by decide +kernel
  exact fun w hw => (h w hw).imp (fun q => List.mem_filter.mpr ⟨q.2, q.1⟩) id
theorem at_149_IndexOutOfBoundsException : ∀ w ∈ Jvm.Bundle.ownAtoms "ContentLibrary" 149 "java/lang/IndexOutOfBoundsException" ["java/lang/RuntimeException", "java/lang/Exception"], w ∈ x_big ∨ w ∈ e_rest "java/lang/IndexOutOfBoundsException" := by
  have h : ∀ w ∈ Jvm.Bundle.ownAtoms "ContentLibrary" 149 "java/lang/IndexOutOfBoundsException" ["java/lang/RuntimeException", "java/lang/Exception"], (goodWord w = true ∧ w ∈ lw_tbl) ∨ w ∈ e_rest "java/lang/IndexOutOfBoundsException" := by decide +kernel
  exact fun w hw => (h w hw).imp (fun q => List.mem_filter.mpr ⟨q.2, q.1⟩) id
theorem d_X_refuseWhenCut_0 : decode prog_1_method_18_code 0 = .ok (.aload_n 0, 1) := by decide +kernel
theorem d_X_refuseWhenCut_1 : decode prog_1_method_18_code 1 = .ok (.getfield 23, 3) := by decide +kernel
theorem d_X_refuseWhenCut_4 : decode prog_1_method_18_code 4 = .ok (.getfield 213, 3) := by decide +kernel
theorem d_X_refuseWhenCut_7 : decode prog_1_method_18_code 7 = .ok (.ifCond .eq 13, 3) := by decide +kernel
theorem d_X_refuseWhenCut_10 : decode prog_1_method_18_code 10 = .ok (.new 251, 3) := by decide +kernel
theorem d_X_refuseWhenCut_13 : decode prog_1_method_18_code 13 = .ok (.dup, 1) := by decide +kernel
theorem d_X_refuseWhenCut_14 : decode prog_1_method_18_code 14 = .ok (.ldc 253, 2) := by decide +kernel
theorem d_X_refuseWhenCut_16 : decode prog_1_method_18_code 16 = .ok (.invokespecial 255, 3) := by decide +kernel
theorem d_X_refuseWhenCut_19 : decode prog_1_method_18_code 19 = .ok (.athrow, 1) := by decide +kernel
theorem d_X_refuseWhenCut_20 : decode prog_1_method_18_code 20 = .ok (.return_, 1) := by decide +kernel
theorem d_X_refuseUnlessByte_0 : decode prog_1_method_19_code 0 = .ok (.iload_n 1, 1) := by decide +kernel
theorem d_X_refuseUnlessByte_1 : decode prog_1_method_19_code 1 = .ok (.ifCond .lt 24, 3) := by decide +kernel
theorem d_X_refuseUnlessByte_4 : decode prog_1_method_19_code 4 = .ok (.iload_n 1, 1) := by decide +kernel
theorem d_X_refuseUnlessByte_5 : decode prog_1_method_19_code 5 = .ok (.aload_n 0, 1) := by decide +kernel
theorem d_X_refuseUnlessByte_6 : decode prog_1_method_19_code 6 = .ok (.getfield 23, 3) := by decide +kernel
theorem d_X_refuseUnlessByte_9 : decode prog_1_method_19_code 9 = .ok (.getfield 233, 3) := by decide +kernel
theorem d_X_refuseUnlessByte_12 : decode prog_1_method_19_code 12 = .ok (.if_icmp .ge 13, 3) := by decide +kernel
theorem d_X_refuseUnlessByte_15 : decode prog_1_method_19_code 15 = .ok (.iload_n 2, 1) := by decide +kernel
theorem d_X_refuseUnlessByte_16 : decode prog_1_method_19_code 16 = .ok (.ifCond .lt 9, 3) := by decide +kernel
theorem d_X_refuseUnlessByte_19 : decode prog_1_method_19_code 19 = .ok (.iload_n 2, 1) := by decide +kernel
theorem d_X_refuseUnlessByte_20 : decode prog_1_method_19_code 20 = .ok (.bipush 64, 2) := by decide +kernel
theorem d_X_refuseUnlessByte_22 : decode prog_1_method_19_code 22 = .ok (.if_icmp .lt 14, 3) := by decide +kernel
theorem d_X_refuseUnlessByte_25 : decode prog_1_method_19_code 25 = .ok (.new 145, 3) := by decide +kernel
theorem d_X_refuseUnlessByte_28 : decode prog_1_method_19_code 28 = .ok (.dup, 1) := by decide +kernel
theorem d_X_refuseUnlessByte_29 : decode prog_1_method_19_code 29 = .ok (.ldc_w 256, 3) := by decide +kernel
theorem d_X_refuseUnlessByte_32 : decode prog_1_method_19_code 32 = .ok (.invokespecial 149, 3) := by decide +kernel
theorem d_X_refuseUnlessByte_35 : decode prog_1_method_19_code 35 = .ok (.athrow, 1) := by decide +kernel
theorem d_X_refuseUnlessByte_36 : decode prog_1_method_19_code 36 = .ok (.return_, 1) := by decide +kernel
theorem d_X_pictureBeingMade_0 : decode prog_1_method_21_code 0 = .ok (.iload_n 1, 1) := by decide +kernel
theorem d_X_pictureBeingMade_1 : decode prog_1_method_21_code 1 = .ok (.ifCond .lt 21, 3) := by decide +kernel
theorem d_X_pictureBeingMade_4 : decode prog_1_method_21_code 4 = .ok (.iload_n 1, 1) := by decide +kernel
theorem d_X_pictureBeingMade_5 : decode prog_1_method_21_code 5 = .ok (.bipush 8, 2) := by decide +kernel
theorem d_X_pictureBeingMade_7 : decode prog_1_method_21_code 7 = .ok (.if_icmp .ge 15, 3) := by decide +kernel
theorem d_X_pictureBeingMade_10 : decode prog_1_method_21_code 10 = .ok (.aload_n 0, 1) := by decide +kernel
theorem d_X_pictureBeingMade_11 : decode prog_1_method_21_code 11 = .ok (.getfield 33, 3) := by decide +kernel
theorem d_X_pictureBeingMade_14 : decode prog_1_method_21_code 14 = .ok (.iload_n 1, 1) := by decide +kernel
theorem d_X_pictureBeingMade_15 : decode prog_1_method_21_code 15 = .ok (.aaload, 1) := by decide +kernel
theorem d_X_pictureBeingMade_16 : decode prog_1_method_21_code 16 = .ok (.getfield 80, 3) := by decide +kernel
theorem d_X_pictureBeingMade_19 : decode prog_1_method_21_code 19 = .ok (.ifCond .ne 14, 3) := by decide +kernel
theorem d_X_pictureBeingMade_22 : decode prog_1_method_21_code 22 = .ok (.new 145, 3) := by decide +kernel
theorem d_X_pictureBeingMade_25 : decode prog_1_method_21_code 25 = .ok (.dup, 1) := by decide +kernel
theorem d_X_pictureBeingMade_26 : decode prog_1_method_21_code 26 = .ok (.ldc_w 264, 3) := by decide +kernel
theorem d_X_pictureBeingMade_29 : decode prog_1_method_21_code 29 = .ok (.invokespecial 149, 3) := by decide +kernel
theorem d_X_pictureBeingMade_32 : decode prog_1_method_21_code 32 = .ok (.athrow, 1) := by decide +kernel
theorem d_X_pictureBeingMade_33 : decode prog_1_method_21_code 33 = .ok (.aload_n 0, 1) := by decide +kernel
theorem d_X_pictureBeingMade_34 : decode prog_1_method_21_code 34 = .ok (.getfield 33, 3) := by decide +kernel
theorem d_X_pictureBeingMade_37 : decode prog_1_method_21_code 37 = .ok (.iload_n 1, 1) := by decide +kernel
theorem d_X_pictureBeingMade_38 : decode prog_1_method_21_code 38 = .ok (.aaload, 1) := by decide +kernel
theorem d_X_pictureBeingMade_39 : decode prog_1_method_21_code 39 = .ok (.areturn, 1) := by decide +kernel
theorem d_X_keptAt_0 : decode prog_1_method_22_code 0 = .ok (.iload_n 1, 1) := by decide +kernel
theorem d_X_keptAt_1 : decode prog_1_method_22_code 1 = .ok (.ifCond .lt 21, 3) := by decide +kernel
theorem d_X_keptAt_4 : decode prog_1_method_22_code 4 = .ok (.iload_n 1, 1) := by decide +kernel
theorem d_X_keptAt_5 : decode prog_1_method_22_code 5 = .ok (.bipush 16, 2) := by decide +kernel
theorem d_X_keptAt_7 : decode prog_1_method_22_code 7 = .ok (.if_icmp .ge 15, 3) := by decide +kernel
theorem d_X_keptAt_10 : decode prog_1_method_22_code 10 = .ok (.aload_n 0, 1) := by decide +kernel
theorem d_X_keptAt_11 : decode prog_1_method_22_code 11 = .ok (.getfield 40, 3) := by decide +kernel
theorem d_X_keptAt_14 : decode prog_1_method_22_code 14 = .ok (.iload_n 1, 1) := by decide +kernel
theorem d_X_keptAt_15 : decode prog_1_method_22_code 15 = .ok (.aaload, 1) := by decide +kernel
theorem d_X_keptAt_16 : decode prog_1_method_22_code 16 = .ok (.getfield 178, 3) := by decide +kernel
theorem d_X_keptAt_19 : decode prog_1_method_22_code 19 = .ok (.ifCond .ne 14, 3) := by decide +kernel
theorem d_X_keptAt_22 : decode prog_1_method_22_code 22 = .ok (.new 145, 3) := by decide +kernel
theorem d_X_keptAt_25 : decode prog_1_method_22_code 25 = .ok (.dup, 1) := by decide +kernel
theorem d_X_keptAt_26 : decode prog_1_method_22_code 26 = .ok (.ldc_w 266, 3) := by decide +kernel
theorem d_X_keptAt_29 : decode prog_1_method_22_code 29 = .ok (.invokespecial 149, 3) := by decide +kernel
theorem d_X_keptAt_32 : decode prog_1_method_22_code 32 = .ok (.athrow, 1) := by decide +kernel
theorem d_X_keptAt_33 : decode prog_1_method_22_code 33 = .ok (.aload_n 0, 1) := by decide +kernel
theorem d_X_keptAt_34 : decode prog_1_method_22_code 34 = .ok (.getfield 40, 3) := by decide +kernel
theorem d_X_keptAt_37 : decode prog_1_method_22_code 37 = .ok (.iload_n 1, 1) := by decide +kernel
theorem d_X_keptAt_38 : decode prog_1_method_22_code 38 = .ok (.aaload, 1) := by decide +kernel
theorem d_X_keptAt_39 : decode prog_1_method_22_code 39 = .ok (.areturn, 1) := by decide +kernel
def f_X_refuseWhenCut (xn : Nat)  (z0 : x_St) : Option ((String ⊕ Unit) × x_St) :=
  (if (z0.1 1 2) = 0 then
  (some (Sum.inr (), z0))
  else
  (some (Sum.inl "java/lang/IllegalStateException", z0)))
def f_X_refuseUnlessByte (xn : Nat) (p1 : Int32) (p2 : Int32) (z0 : x_St) : Option ((String ⊕ Unit) × x_St) :=
  (if p1 < 0 then
  (some (Sum.inl "java/lang/IndexOutOfBoundsException", z0))
  else
  (if (z0.1 1 0) ≤ p1 then
  (some (Sum.inl "java/lang/IndexOutOfBoundsException", z0))
  else
  (if p2 < 0 then
  (some (Sum.inl "java/lang/IndexOutOfBoundsException", z0))
  else
  (if p2 < (64 : Int32) then
  (some (Sum.inr (), z0))
  else
  (some (Sum.inl "java/lang/IndexOutOfBoundsException", z0))))))
def f_X_pictureBeingMade (xn : Nat) (p1 : Int32) (z0 : x_St) : Option ((String ⊕ Nat) × x_St) :=
  (if p1 < 0 then
  (some (Sum.inl "java/lang/IndexOutOfBoundsException", z0))
  else
  (if (8 : Int32) ≤ p1 then
  (some (Sum.inl "java/lang/IndexOutOfBoundsException", z0))
  else
  (x_ck p1 8
  (if (z0.1 (6 + 2 * (p1).toNatClampNeg) 0) = 0 then
  (some (Sum.inl "java/lang/IndexOutOfBoundsException", z0))
  else
  (x_ck p1 8
  (some (Sum.inr (6 + 2 * (p1).toNatClampNeg), z0)))))))
def f_X_keptAt (xn : Nat) (p1 : Int32) (z0 : x_St) : Option ((String ⊕ Nat) × x_St) :=
  (if p1 < 0 then
  (some (Sum.inl "java/lang/IndexOutOfBoundsException", z0))
  else
  (if (16 : Int32) ≤ p1 then
  (some (Sum.inl "java/lang/IndexOutOfBoundsException", z0))
  else
  (x_ck p1 16
  (if (z0.1 (23 + 5 * (p1).toNatClampNeg) 0) = 0 then
  (some (Sum.inl "java/lang/IndexOutOfBoundsException", z0))
  else
  (x_ck p1 16
  (some (Sum.inr (23 + 5 * (p1).toNatClampNeg), z0)))))))
abbrev rm_X_refuseWhenCut : Room := { frames := 6, cells := 0, slots := 0, locals := 82 }
abbrev rx_X_refuseWhenCut : Room := { frames := 6, cells := 1, slots := 6, locals := 82 }
set_option maxHeartbeats 4000000 in
set_option maxRecDepth 100000 in
theorem c_X_refuseWhenCut (l : Launch) (G : x_G)  (z0 : x_St) (r : Unit) (z9 : x_St) (hf : f_X_refuseWhenCut (x_n G)  z0 = some (Sum.inr r, z9)) : Met l (⟨"ContentLibrary", "refuseWhenCut", "()V"⟩ : MethodName) (x_ws (⟨"ContentLibrary", "refuseWhenCut", "()V"⟩ : MethodName) prog_1_method_18_code 1 none) rm_X_refuseWhenCut (va_Pc [.ref (x_ad G 0)] (x_PW G z0)) (va_Qv (fun u => r = () ∧ z9 = u) (x_PW G) (x_A G)) 0 0 (x_A G) := by
  refine Met.ofW (cc := prog_1_method_18_code) (maxL := 1) (ret := none) (by decide) rfl ?_
  intro p e s m args below meth c s₁ B hml hv
  obtain ⟨rfl, hz, hP, hD, hK, hG⟩ := hv
  have C0 : x_Ctx G p s m _ meth c prog_1_method_18_code "ContentLibrary" 1 none := ⟨B.exec, B.bytes, B.returns, hml, findClass_of_methodNamed B.named, fun w h => atoms_spec (ws := (x_ws (⟨"ContentLibrary", "refuseWhenCut", "()V"⟩ : MethodName) prog_1_method_18_code 1 none)) B.pre w (List.mem_cons_of_mem _ h), B.notSynchronized, hz, hK, hG⟩
  obtain ⟨hx, hb, hr, hml, hown, hts, hlocks, hz, hK, hG⟩ := id C0
  have hS : va_S (x_A G) s.heap s.heap [] := va_S.rf
  have hl := lv_entry ([.ref (x_ad G 0)]) (n := 1) (Nat.le_of_ble_eq_true rfl)
  rw [lg_entry_eq]
  generalize (lg_sl ([.ref (x_ad G 0)]) ++ List.replicate (1 - (lg_sl ([.ref (x_ad G 0)])).length) Slot.unset).toArray = ls at hl ⊢
  have hl : lv_has ls 1 [(0, .ref (x_ad G 0))] := hl
  rw [f_X_refuseWhenCut] at hf
  refine lv_aload_n hx hb d_X_refuseWhenCut_0 rfl (lv_at hl 0 rfl) ?_
  refine va_get (D := x_D G) (ci := 0) (v := .ref (x_ad G 1)) (C := "ContentLibrary") (T := x_TX) (N := 9) hx hb hts x_inX hown hK hP 0 (x_lk_X G _) rfl 0 (by decide) (hts _ t_130) (fun _ h9 => h9) rfl d_X_refuseWhenCut_1 ?_
  refine va_get (D := x_D G) (ci := 1) (v := .int (z0.1 1 2)) (C := "ContentLibrary$Blocks") (T := x_TB) (N := 5) hx hb hts x_inB hown hK hP 1 (x_lk_B G _) rfl 2 (by decide) (hts _ t_44) (fun _ h9 => h9) rfl d_X_refuseWhenCut_4 ?_
  refine lv_if_eq (tgt := 20) hx hb d_X_refuseWhenCut_7 (by decide) (fun hc1 => ?_) (fun hc1 => ?_)
  · have hf := x_br_t hf hc1
    obtain ⟨rfl, rfl⟩ := x_retr hf
    exact W.vret hx hb hr (fun t ht hW => ⟨⟨_, rfl, ⟨rfl, rfl⟩, x_pw hP hD hK hG hS hz ht hW⟩, hS.F ht⟩) hS.2.2 d_X_refuseWhenCut_20
  · have hf := x_br_f hf hc1
    exact absurd hf x_no_r
set_option maxHeartbeats 4000000 in
set_option maxRecDepth 100000 in
theorem c_X_refuseWhenCut_x (l : Launch) (G : x_G) (hl9 : l.stackTraces = false)  (z0 : x_St) (E : String) (z9 : x_St) (hf : f_X_refuseWhenCut (x_n G)  z0 = some (Sum.inl E, z9)) : e_Met l G (⟨"ContentLibrary", "refuseWhenCut", "()V"⟩ : MethodName) (x_ws (⟨"ContentLibrary", "refuseWhenCut", "()V"⟩ : MethodName) prog_1_method_18_code 1 none) rx_X_refuseWhenCut (va_Pc [.ref (x_ad G 0)] (x_PW G z0)) E z9 1 6 := by
  refine e_ofW (cc := prog_1_method_18_code) (maxL := 1) (ret := none) (by decide) rfl ?_
  intro p e s m args below meth c s₁ B hml hEx hv
  obtain ⟨rfl, hz, hP, hD, hK, hG⟩ := hv
  have C0 : x_Ctx G p s m _ meth c prog_1_method_18_code "ContentLibrary" 1 none := ⟨B.exec, B.bytes, B.returns, hml, findClass_of_methodNamed B.named, fun w h => atoms_spec (ws := (x_ws (⟨"ContentLibrary", "refuseWhenCut", "()V"⟩ : MethodName) prog_1_method_18_code 1 none)) B.pre w (List.mem_cons_of_mem _ h), B.notSynchronized, hz, hK, hG⟩
  obtain ⟨hx, hb, hr, hml, hown, hts, hlocks, hz, hK, hG⟩ := id C0
  have hS : va_S (x_A G) s.heap s.heap [] := va_S.rf
  have hl := lv_entry ([.ref (x_ad G 0)]) (n := 1) (Nat.le_of_ble_eq_true rfl)
  rw [lg_entry_eq]
  generalize (lg_sl ([.ref (x_ad G 0)]) ++ List.replicate (1 - (lg_sl ([.ref (x_ad G 0)])).length) Slot.unset).toArray = ls at hl ⊢
  have hl : lv_has ls 1 [(0, .ref (x_ad G 0))] := hl
  rw [f_X_refuseWhenCut] at hf
  refine lv_aload_n hx hb d_X_refuseWhenCut_0 rfl (lv_at hl 0 rfl) ?_
  refine va_get (D := x_D G) (ci := 0) (v := .ref (x_ad G 1)) (C := "ContentLibrary") (T := x_TX) (N := 9) hx hb hts x_inX hown hK hP 0 (x_lk_X G _) rfl 0 (by decide) (hts _ t_130) (fun _ h9 => h9) rfl d_X_refuseWhenCut_1 ?_
  refine va_get (D := x_D G) (ci := 1) (v := .int (z0.1 1 2)) (C := "ContentLibrary$Blocks") (T := x_TB) (N := 5) hx hb hts x_inB hown hK hP 1 (x_lk_B G _) rfl 2 (by decide) (hts _ t_44) (fun _ h9 => h9) rfl d_X_refuseWhenCut_4 ?_
  refine lv_if_eq (tgt := 20) hx hb d_X_refuseWhenCut_7 (by decide) (fun hc1 => ?_) (fun hc1 => ?_)
  · have hf := x_br_t hf hc1
    exact absurd hf x_no_x
  · have hf := x_br_f hf hc1
    obtain ⟨rfl, rfl⟩ := x_retx hf
    exact e_throw (text := "the library is cut") (is := 253) hx hb hl9 hown (by decide +kernel) (by decide) (by decide +kernel) hts t_339 t_11 at_255_IllegalStateException hG hS (hl.1.trans hml.symm) d_X_refuseWhenCut_10 d_X_refuseWhenCut_13 d_X_refuseWhenCut_14 d_X_refuseWhenCut_16 d_X_refuseWhenCut_19 hEx (Nat.le_of_ble_eq_true rfl) (Nat.le_of_ble_eq_true rfl) (Nat.le_of_ble_eq_true rfl) (Nat.le_of_ble_eq_true rfl) hlocks (fun t hW hsz hk => x_pwk hP hD hK hG hS hz hsz hk hW) (Nat.le_of_ble_eq_true rfl) (Nat.le_of_ble_eq_true rfl)
abbrev rm_X_refuseUnlessByte : Room := { frames := 6, cells := 0, slots := 0, locals := 82 }
abbrev rx_X_refuseUnlessByte : Room := { frames := 6, cells := 1, slots := 6, locals := 82 }
set_option maxHeartbeats 4000000 in
set_option maxRecDepth 100000 in
theorem c_X_refuseUnlessByte (l : Launch) (G : x_G) (p1 : Int32) (p2 : Int32) (z0 : x_St) (r : Unit) (z9 : x_St) (hf : f_X_refuseUnlessByte (x_n G) p1 p2 z0 = some (Sum.inr r, z9)) : Met l (⟨"ContentLibrary", "refuseUnlessByte", "(II)V"⟩ : MethodName) (x_ws (⟨"ContentLibrary", "refuseUnlessByte", "(II)V"⟩ : MethodName) prog_1_method_19_code 3 none) rm_X_refuseUnlessByte (va_Pc [.ref (x_ad G 0), .int p1, .int p2] (x_PW G z0)) (va_Qv (fun u => r = () ∧ z9 = u) (x_PW G) (x_A G)) 0 0 (x_A G) := by
  refine Met.ofW (cc := prog_1_method_19_code) (maxL := 3) (ret := none) (by decide) rfl ?_
  intro p e s m args below meth c s₁ B hml hv
  obtain ⟨rfl, hz, hP, hD, hK, hG⟩ := hv
  have C0 : x_Ctx G p s m _ meth c prog_1_method_19_code "ContentLibrary" 3 none := ⟨B.exec, B.bytes, B.returns, hml, findClass_of_methodNamed B.named, fun w h => atoms_spec (ws := (x_ws (⟨"ContentLibrary", "refuseUnlessByte", "(II)V"⟩ : MethodName) prog_1_method_19_code 3 none)) B.pre w (List.mem_cons_of_mem _ h), B.notSynchronized, hz, hK, hG⟩
  obtain ⟨hx, hb, hr, hml, hown, hts, hlocks, hz, hK, hG⟩ := id C0
  have hS : va_S (x_A G) s.heap s.heap [] := va_S.rf
  have hl := lv_entry ([.ref (x_ad G 0), .int p1, .int p2]) (n := 3) (Nat.le_of_ble_eq_true rfl)
  rw [lg_entry_eq]
  generalize (lg_sl ([.ref (x_ad G 0), .int p1, .int p2]) ++ List.replicate (3 - (lg_sl ([.ref (x_ad G 0), .int p1, .int p2])).length) Slot.unset).toArray = ls at hl ⊢
  have hl : lv_has ls 3 [(0, .ref (x_ad G 0)), (1, .int p1), (2, .int p2)] := hl
  rw [f_X_refuseUnlessByte] at hf
  refine lv_iload_n hx hb d_X_refuseUnlessByte_0 rfl (lv_at hl 1 rfl) ?_
  refine lv_if_lt (tgt := 25) hx hb d_X_refuseUnlessByte_1 (by decide) (fun hc1 => ?_) (fun hc1 => ?_)
  · have hf := x_br_t hf hc1
    exact absurd hf x_no_r
  · have hf := x_br_f hf hc1
    refine lv_iload_n hx hb d_X_refuseUnlessByte_4 rfl (lv_at hl 1 rfl) ?_
    refine lv_aload_n hx hb d_X_refuseUnlessByte_5 rfl (lv_at hl 0 rfl) ?_
    refine va_get (D := x_D G) (ci := 0) (v := .ref (x_ad G 1)) (C := "ContentLibrary") (T := x_TX) (N := 9) hx hb hts x_inX hown hK hP 0 (x_lk_X G _) rfl 0 (by decide) (hts _ t_130) (fun _ h9 => h9) rfl d_X_refuseUnlessByte_6 ?_
    refine va_get (D := x_D G) (ci := 1) (v := .int (z0.1 1 0)) (C := "ContentLibrary$Blocks") (T := x_TB) (N := 5) hx hb hts x_inB hown hK hP 1 (x_lk_B G _) rfl 0 (by decide) (hts _ t_40) (fun _ h9 => h9) rfl d_X_refuseUnlessByte_9 ?_
    refine lv_icmp_ge (tgt := 25) hx hb d_X_refuseUnlessByte_12 (by decide) (fun hc2 => ?_) (fun hc2 => ?_)
    · have hf := x_br_t hf hc2
      exact absurd hf x_no_r
    · have hf := x_br_f hf hc2
      refine lv_iload_n hx hb d_X_refuseUnlessByte_15 rfl (lv_at hl 2 rfl) ?_
      refine lv_if_lt (tgt := 25) hx hb d_X_refuseUnlessByte_16 (by decide) (fun hc3 => ?_) (fun hc3 => ?_)
      · have hf := x_br_t hf hc3
        exact absurd hf x_no_r
      · have hf := x_br_f hf hc3
        refine lv_iload_n hx hb d_X_refuseUnlessByte_19 rfl (lv_at hl 2 rfl) ?_
        refine lv_bipush (v := (64 : Int32)) hx hb d_X_refuseUnlessByte_20 (by decide) ?_
        refine lv_icmp_lt (tgt := 36) hx hb d_X_refuseUnlessByte_22 (by decide) (fun hc4 => ?_) (fun hc4 => ?_)
        · have hf := x_br_t hf hc4
          obtain ⟨rfl, rfl⟩ := x_retr hf
          exact W.vret hx hb hr (fun t ht hW => ⟨⟨_, rfl, ⟨rfl, rfl⟩, x_pw hP hD hK hG hS hz ht hW⟩, hS.F ht⟩) hS.2.2 d_X_refuseUnlessByte_36
        · have hf := x_br_f hf hc4
          exact absurd hf x_no_r
set_option maxHeartbeats 4000000 in
set_option maxRecDepth 100000 in
theorem c_X_refuseUnlessByte_x (l : Launch) (G : x_G) (hl9 : l.stackTraces = false) (p1 : Int32) (p2 : Int32) (z0 : x_St) (E : String) (z9 : x_St) (hf : f_X_refuseUnlessByte (x_n G) p1 p2 z0 = some (Sum.inl E, z9)) : e_Met l G (⟨"ContentLibrary", "refuseUnlessByte", "(II)V"⟩ : MethodName) (x_ws (⟨"ContentLibrary", "refuseUnlessByte", "(II)V"⟩ : MethodName) prog_1_method_19_code 3 none) rx_X_refuseUnlessByte (va_Pc [.ref (x_ad G 0), .int p1, .int p2] (x_PW G z0)) E z9 1 6 := by
  refine e_ofW (cc := prog_1_method_19_code) (maxL := 3) (ret := none) (by decide) rfl ?_
  intro p e s m args below meth c s₁ B hml hEx hv
  obtain ⟨rfl, hz, hP, hD, hK, hG⟩ := hv
  have C0 : x_Ctx G p s m _ meth c prog_1_method_19_code "ContentLibrary" 3 none := ⟨B.exec, B.bytes, B.returns, hml, findClass_of_methodNamed B.named, fun w h => atoms_spec (ws := (x_ws (⟨"ContentLibrary", "refuseUnlessByte", "(II)V"⟩ : MethodName) prog_1_method_19_code 3 none)) B.pre w (List.mem_cons_of_mem _ h), B.notSynchronized, hz, hK, hG⟩
  obtain ⟨hx, hb, hr, hml, hown, hts, hlocks, hz, hK, hG⟩ := id C0
  have hS : va_S (x_A G) s.heap s.heap [] := va_S.rf
  have hl := lv_entry ([.ref (x_ad G 0), .int p1, .int p2]) (n := 3) (Nat.le_of_ble_eq_true rfl)
  rw [lg_entry_eq]
  generalize (lg_sl ([.ref (x_ad G 0), .int p1, .int p2]) ++ List.replicate (3 - (lg_sl ([.ref (x_ad G 0), .int p1, .int p2])).length) Slot.unset).toArray = ls at hl ⊢
  have hl : lv_has ls 3 [(0, .ref (x_ad G 0)), (1, .int p1), (2, .int p2)] := hl
  rw [f_X_refuseUnlessByte] at hf
  refine lv_iload_n hx hb d_X_refuseUnlessByte_0 rfl (lv_at hl 1 rfl) ?_
  refine lv_if_lt (tgt := 25) hx hb d_X_refuseUnlessByte_1 (by decide) (fun hc1 => ?_) (fun hc1 => ?_)
  · have hf := x_br_t hf hc1
    obtain ⟨rfl, rfl⟩ := x_retx hf
    exact e_throwW (text := "no such byte of a block") (is := 256) hx hb hl9 hown (by decide +kernel) (by decide) (by decide +kernel) hts t_457 t_14 at_149_IndexOutOfBoundsException hG hS (hl.1.trans hml.symm) d_X_refuseUnlessByte_25 d_X_refuseUnlessByte_28 d_X_refuseUnlessByte_29 d_X_refuseUnlessByte_32 d_X_refuseUnlessByte_35 hEx (Nat.le_of_ble_eq_true rfl) (Nat.le_of_ble_eq_true rfl) (Nat.le_of_ble_eq_true rfl) (Nat.le_of_ble_eq_true rfl) hlocks (fun t hW hsz hk => x_pwk hP hD hK hG hS hz hsz hk hW) (Nat.le_of_ble_eq_true rfl) (Nat.le_of_ble_eq_true rfl)
  · have hf := x_br_f hf hc1
    refine lv_iload_n hx hb d_X_refuseUnlessByte_4 rfl (lv_at hl 1 rfl) ?_
    refine lv_aload_n hx hb d_X_refuseUnlessByte_5 rfl (lv_at hl 0 rfl) ?_
    refine va_get (D := x_D G) (ci := 0) (v := .ref (x_ad G 1)) (C := "ContentLibrary") (T := x_TX) (N := 9) hx hb hts x_inX hown hK hP 0 (x_lk_X G _) rfl 0 (by decide) (hts _ t_130) (fun _ h9 => h9) rfl d_X_refuseUnlessByte_6 ?_
    refine va_get (D := x_D G) (ci := 1) (v := .int (z0.1 1 0)) (C := "ContentLibrary$Blocks") (T := x_TB) (N := 5) hx hb hts x_inB hown hK hP 1 (x_lk_B G _) rfl 0 (by decide) (hts _ t_40) (fun _ h9 => h9) rfl d_X_refuseUnlessByte_9 ?_
    refine lv_icmp_ge (tgt := 25) hx hb d_X_refuseUnlessByte_12 (by decide) (fun hc2 => ?_) (fun hc2 => ?_)
    · have hf := x_br_t hf hc2
      obtain ⟨rfl, rfl⟩ := x_retx hf
      exact e_throwW (text := "no such byte of a block") (is := 256) hx hb hl9 hown (by decide +kernel) (by decide) (by decide +kernel) hts t_457 t_14 at_149_IndexOutOfBoundsException hG hS (hl.1.trans hml.symm) d_X_refuseUnlessByte_25 d_X_refuseUnlessByte_28 d_X_refuseUnlessByte_29 d_X_refuseUnlessByte_32 d_X_refuseUnlessByte_35 hEx (Nat.le_of_ble_eq_true rfl) (Nat.le_of_ble_eq_true rfl) (Nat.le_of_ble_eq_true rfl) (Nat.le_of_ble_eq_true rfl) hlocks (fun t hW hsz hk => x_pwk hP hD hK hG hS hz hsz hk hW) (Nat.le_of_ble_eq_true rfl) (Nat.le_of_ble_eq_true rfl)
    · have hf := x_br_f hf hc2
      refine lv_iload_n hx hb d_X_refuseUnlessByte_15 rfl (lv_at hl 2 rfl) ?_
      refine lv_if_lt (tgt := 25) hx hb d_X_refuseUnlessByte_16 (by decide) (fun hc3 => ?_) (fun hc3 => ?_)
      · have hf := x_br_t hf hc3
        obtain ⟨rfl, rfl⟩ := x_retx hf
        exact e_throwW (text := "no such byte of a block") (is := 256) hx hb hl9 hown (by decide +kernel) (by decide) (by decide +kernel) hts t_457 t_14 at_149_IndexOutOfBoundsException hG hS (hl.1.trans hml.symm) d_X_refuseUnlessByte_25 d_X_refuseUnlessByte_28 d_X_refuseUnlessByte_29 d_X_refuseUnlessByte_32 d_X_refuseUnlessByte_35 hEx (Nat.le_of_ble_eq_true rfl) (Nat.le_of_ble_eq_true rfl) (Nat.le_of_ble_eq_true rfl) (Nat.le_of_ble_eq_true rfl) hlocks (fun t hW hsz hk => x_pwk hP hD hK hG hS hz hsz hk hW) (Nat.le_of_ble_eq_true rfl) (Nat.le_of_ble_eq_true rfl)
      · have hf := x_br_f hf hc3
        refine lv_iload_n hx hb d_X_refuseUnlessByte_19 rfl (lv_at hl 2 rfl) ?_
        refine lv_bipush (v := (64 : Int32)) hx hb d_X_refuseUnlessByte_20 (by decide) ?_
        refine lv_icmp_lt (tgt := 36) hx hb d_X_refuseUnlessByte_22 (by decide) (fun hc4 => ?_) (fun hc4 => ?_)
        · have hf := x_br_t hf hc4
          exact absurd hf x_no_x
        · have hf := x_br_f hf hc4
          obtain ⟨rfl, rfl⟩ := x_retx hf
          exact e_throwW (text := "no such byte of a block") (is := 256) hx hb hl9 hown (by decide +kernel) (by decide) (by decide +kernel) hts t_457 t_14 at_149_IndexOutOfBoundsException hG hS (hl.1.trans hml.symm) d_X_refuseUnlessByte_25 d_X_refuseUnlessByte_28 d_X_refuseUnlessByte_29 d_X_refuseUnlessByte_32 d_X_refuseUnlessByte_35 hEx (Nat.le_of_ble_eq_true rfl) (Nat.le_of_ble_eq_true rfl) (Nat.le_of_ble_eq_true rfl) (Nat.le_of_ble_eq_true rfl) hlocks (fun t hW hsz hk => x_pwk hP hD hK hG hS hz hsz hk hW) (Nat.le_of_ble_eq_true rfl) (Nat.le_of_ble_eq_true rfl)
abbrev rm_X_pictureBeingMade : Room := { frames := 6, cells := 0, slots := 0, locals := 82 }
abbrev rx_X_pictureBeingMade : Room := { frames := 6, cells := 1, slots := 6, locals := 82 }
set_option maxHeartbeats 4000000 in
set_option maxRecDepth 100000 in
theorem c_X_pictureBeingMade (l : Launch) (G : x_G) (p1 : Int32) (z0 : x_St) (r : Nat) (z9 : x_St) (hf : f_X_pictureBeingMade (x_n G) p1 z0 = some (Sum.inr r, z9)) : Met l (⟨"ContentLibrary", "pictureBeingMade", "(I)LContentLibrary$Picture;"⟩ : MethodName) (x_ws (⟨"ContentLibrary", "pictureBeingMade", "(I)LContentLibrary$Picture;"⟩ : MethodName) prog_1_method_21_code 2 (some (.object "ContentLibrary$Picture"))) rm_X_pictureBeingMade (va_Pc [.ref (x_ad G 0), .int p1] (x_PW G z0)) (va_Qr (fun u => z9 = u) (fun u a t => ∃ k, r = k ∧ x_isP k = true ∧ a = x_ad G k ∧ x_PW G u t) (x_A G)) 0 0 (x_A G) := by
  refine Met.ofW (cc := prog_1_method_21_code) (maxL := 2) (ret := (some (.object "ContentLibrary$Picture"))) (by decide) rfl ?_
  intro p e s m args below meth c s₁ B hml hv
  obtain ⟨rfl, hz, hP, hD, hK, hG⟩ := hv
  have C0 : x_Ctx G p s m _ meth c prog_1_method_21_code "ContentLibrary" 2 (some (.object "ContentLibrary$Picture")) := ⟨B.exec, B.bytes, B.returns, hml, findClass_of_methodNamed B.named, fun w h => atoms_spec (ws := (x_ws (⟨"ContentLibrary", "pictureBeingMade", "(I)LContentLibrary$Picture;"⟩ : MethodName) prog_1_method_21_code 2 (some (.object "ContentLibrary$Picture")))) B.pre w (List.mem_cons_of_mem _ h), B.notSynchronized, hz, hK, hG⟩
  obtain ⟨hx, hb, hr, hml, hown, hts, hlocks, hz, hK, hG⟩ := id C0
  have hS : va_S (x_A G) s.heap s.heap [] := va_S.rf
  have hl := lv_entry ([.ref (x_ad G 0), .int p1]) (n := 2) (Nat.le_of_ble_eq_true rfl)
  rw [lg_entry_eq]
  generalize (lg_sl ([.ref (x_ad G 0), .int p1]) ++ List.replicate (2 - (lg_sl ([.ref (x_ad G 0), .int p1])).length) Slot.unset).toArray = ls at hl ⊢
  have hl : lv_has ls 2 [(0, .ref (x_ad G 0)), (1, .int p1)] := hl
  rw [f_X_pictureBeingMade] at hf
  refine lv_iload_n hx hb d_X_pictureBeingMade_0 rfl (lv_at hl 1 rfl) ?_
  refine lv_if_lt (tgt := 22) hx hb d_X_pictureBeingMade_1 (by decide) (fun hc1 => ?_) (fun hc1 => ?_)
  · have hf := x_br_t hf hc1
    exact absurd hf x_no_r
  · have hf := x_br_f hf hc1
    refine lv_iload_n hx hb d_X_pictureBeingMade_4 rfl (lv_at hl 1 rfl) ?_
    refine lv_bipush (v := (8 : Int32)) hx hb d_X_pictureBeingMade_5 (by decide) ?_
    refine lv_icmp_ge (tgt := 22) hx hb d_X_pictureBeingMade_7 (by decide) (fun hc2 => ?_) (fun hc2 => ?_)
    · have hf := x_br_t hf hc2
      exact absurd hf x_no_r
    · have hf := x_br_f hf hc2
      refine lv_aload_n hx hb d_X_pictureBeingMade_10 rfl (lv_at hl 0 rfl) ?_
      refine va_get (D := x_D G) (ci := 0) (v := .ref (x_ad G 5)) (C := "ContentLibrary") (T := x_TX) (N := 9) hx hb hts x_inX hown hK hP 0 (x_lk_X G _) rfl 2 (by decide) (hts _ t_132) (fun _ h9 => h9) rfl d_X_pictureBeingMade_11 ?_
      refine lv_iload_n hx hb d_X_pictureBeingMade_14 rfl (lv_at hl 1 rfl) ?_
      obtain ⟨hin3, hf⟩ := x_ck_some hf
      refine va_aldq hx hb hK hP 5 2 (x_lk_made G _) rfl hin3 d_X_pictureBeingMade_15 ?_
      refine W.eq (g2 := F0 m 16 ls [.ref (x_ad G (6 + 2 * (p1).toNatClampNeg))]) rfl ?_
      refine va_get (D := x_D G) (ci := 2) (v := .int (z0.1 (6 + 2 * (p1).toNatClampNeg) 0)) (C := "ContentLibrary$Picture") (T := x_TP) (N := 3) hx hb hts x_inP hown hK hP (6 + 2 * (p1).toNatClampNeg) (x_lk_P G _ (x_el_P hin3)) rfl 0 (by decide) (hts _ t_67) (fun _ h9 => h9) rfl d_X_pictureBeingMade_16 ?_
      refine lv_if_ne (tgt := 33) hx hb d_X_pictureBeingMade_19 (by decide) (fun hc4 => ?_) (fun hc4 => ?_)
      · have hf := x_br_f hf hc4
        refine lv_aload_n hx hb d_X_pictureBeingMade_33 rfl (lv_at hl 0 rfl) ?_
        refine va_get (D := x_D G) (ci := 0) (v := .ref (x_ad G 5)) (C := "ContentLibrary") (T := x_TX) (N := 9) hx hb hts x_inX hown hK hP 0 (x_lk_X G _) rfl 2 (by decide) (hts _ t_132) (fun _ h9 => h9) rfl d_X_pictureBeingMade_34 ?_
        refine lv_iload_n hx hb d_X_pictureBeingMade_37 rfl (lv_at hl 1 rfl) ?_
        obtain ⟨hin5, hf⟩ := x_ck_some hf
        refine va_aldq hx hb hK hP 5 2 (x_lk_made G _) rfl hin5 d_X_pictureBeingMade_38 ?_
        refine W.eq (g2 := F0 m 39 ls [.ref (x_ad G (6 + 2 * (p1).toNatClampNeg))]) rfl ?_
        obtain ⟨rfl, rfl⟩ := x_retr hf
        exact W.aret (v := .ref (x_ad G (6 + 2 * (p1).toNatClampNeg))) hx hb hr (Or.inl ⟨_, rfl⟩) (Or.inr ⟨_, rfl⟩) (fun t ht hW => ⟨⟨_, _, rfl, rfl, _, rfl, (x_el_P hin5), rfl, x_pw hP hD hK hG hS hz ht hW⟩, hS.F ht⟩) hS.2.2 d_X_pictureBeingMade_39
      · have hf := x_br_t hf hc4
        exact absurd hf x_no_r
set_option maxHeartbeats 4000000 in
set_option maxRecDepth 100000 in
theorem c_X_pictureBeingMade_x (l : Launch) (G : x_G) (hl9 : l.stackTraces = false) (p1 : Int32) (z0 : x_St) (E : String) (z9 : x_St) (hf : f_X_pictureBeingMade (x_n G) p1 z0 = some (Sum.inl E, z9)) : e_Met l G (⟨"ContentLibrary", "pictureBeingMade", "(I)LContentLibrary$Picture;"⟩ : MethodName) (x_ws (⟨"ContentLibrary", "pictureBeingMade", "(I)LContentLibrary$Picture;"⟩ : MethodName) prog_1_method_21_code 2 (some (.object "ContentLibrary$Picture"))) rx_X_pictureBeingMade (va_Pc [.ref (x_ad G 0), .int p1] (x_PW G z0)) E z9 1 6 := by
  refine e_ofW (cc := prog_1_method_21_code) (maxL := 2) (ret := (some (.object "ContentLibrary$Picture"))) (by decide) rfl ?_
  intro p e s m args below meth c s₁ B hml hEx hv
  obtain ⟨rfl, hz, hP, hD, hK, hG⟩ := hv
  have C0 : x_Ctx G p s m _ meth c prog_1_method_21_code "ContentLibrary" 2 (some (.object "ContentLibrary$Picture")) := ⟨B.exec, B.bytes, B.returns, hml, findClass_of_methodNamed B.named, fun w h => atoms_spec (ws := (x_ws (⟨"ContentLibrary", "pictureBeingMade", "(I)LContentLibrary$Picture;"⟩ : MethodName) prog_1_method_21_code 2 (some (.object "ContentLibrary$Picture")))) B.pre w (List.mem_cons_of_mem _ h), B.notSynchronized, hz, hK, hG⟩
  obtain ⟨hx, hb, hr, hml, hown, hts, hlocks, hz, hK, hG⟩ := id C0
  have hS : va_S (x_A G) s.heap s.heap [] := va_S.rf
  have hl := lv_entry ([.ref (x_ad G 0), .int p1]) (n := 2) (Nat.le_of_ble_eq_true rfl)
  rw [lg_entry_eq]
  generalize (lg_sl ([.ref (x_ad G 0), .int p1]) ++ List.replicate (2 - (lg_sl ([.ref (x_ad G 0), .int p1])).length) Slot.unset).toArray = ls at hl ⊢
  have hl : lv_has ls 2 [(0, .ref (x_ad G 0)), (1, .int p1)] := hl
  rw [f_X_pictureBeingMade] at hf
  refine lv_iload_n hx hb d_X_pictureBeingMade_0 rfl (lv_at hl 1 rfl) ?_
  refine lv_if_lt (tgt := 22) hx hb d_X_pictureBeingMade_1 (by decide) (fun hc1 => ?_) (fun hc1 => ?_)
  · have hf := x_br_t hf hc1
    obtain ⟨rfl, rfl⟩ := x_retx hf
    exact e_throwW (text := "no such picture is being made") (is := 264) hx hb hl9 hown (by decide +kernel) (by decide) (by decide +kernel) hts t_457 t_14 at_149_IndexOutOfBoundsException hG hS (hl.1.trans hml.symm) d_X_pictureBeingMade_22 d_X_pictureBeingMade_25 d_X_pictureBeingMade_26 d_X_pictureBeingMade_29 d_X_pictureBeingMade_32 hEx (Nat.le_of_ble_eq_true rfl) (Nat.le_of_ble_eq_true rfl) (Nat.le_of_ble_eq_true rfl) (Nat.le_of_ble_eq_true rfl) hlocks (fun t hW hsz hk => x_pwk hP hD hK hG hS hz hsz hk hW) (Nat.le_of_ble_eq_true rfl) (Nat.le_of_ble_eq_true rfl)
  · have hf := x_br_f hf hc1
    refine lv_iload_n hx hb d_X_pictureBeingMade_4 rfl (lv_at hl 1 rfl) ?_
    refine lv_bipush (v := (8 : Int32)) hx hb d_X_pictureBeingMade_5 (by decide) ?_
    refine lv_icmp_ge (tgt := 22) hx hb d_X_pictureBeingMade_7 (by decide) (fun hc2 => ?_) (fun hc2 => ?_)
    · have hf := x_br_t hf hc2
      obtain ⟨rfl, rfl⟩ := x_retx hf
      exact e_throwW (text := "no such picture is being made") (is := 264) hx hb hl9 hown (by decide +kernel) (by decide) (by decide +kernel) hts t_457 t_14 at_149_IndexOutOfBoundsException hG hS (hl.1.trans hml.symm) d_X_pictureBeingMade_22 d_X_pictureBeingMade_25 d_X_pictureBeingMade_26 d_X_pictureBeingMade_29 d_X_pictureBeingMade_32 hEx (Nat.le_of_ble_eq_true rfl) (Nat.le_of_ble_eq_true rfl) (Nat.le_of_ble_eq_true rfl) (Nat.le_of_ble_eq_true rfl) hlocks (fun t hW hsz hk => x_pwk hP hD hK hG hS hz hsz hk hW) (Nat.le_of_ble_eq_true rfl) (Nat.le_of_ble_eq_true rfl)
    · have hf := x_br_f hf hc2
      refine lv_aload_n hx hb d_X_pictureBeingMade_10 rfl (lv_at hl 0 rfl) ?_
      refine va_get (D := x_D G) (ci := 0) (v := .ref (x_ad G 5)) (C := "ContentLibrary") (T := x_TX) (N := 9) hx hb hts x_inX hown hK hP 0 (x_lk_X G _) rfl 2 (by decide) (hts _ t_132) (fun _ h9 => h9) rfl d_X_pictureBeingMade_11 ?_
      refine lv_iload_n hx hb d_X_pictureBeingMade_14 rfl (lv_at hl 1 rfl) ?_
      obtain ⟨hin3, hf⟩ := x_ck_some hf
      refine va_aldq hx hb hK hP 5 2 (x_lk_made G _) rfl hin3 d_X_pictureBeingMade_15 ?_
      refine W.eq (g2 := F0 m 16 ls [.ref (x_ad G (6 + 2 * (p1).toNatClampNeg))]) rfl ?_
      refine va_get (D := x_D G) (ci := 2) (v := .int (z0.1 (6 + 2 * (p1).toNatClampNeg) 0)) (C := "ContentLibrary$Picture") (T := x_TP) (N := 3) hx hb hts x_inP hown hK hP (6 + 2 * (p1).toNatClampNeg) (x_lk_P G _ (x_el_P hin3)) rfl 0 (by decide) (hts _ t_67) (fun _ h9 => h9) rfl d_X_pictureBeingMade_16 ?_
      refine lv_if_ne (tgt := 33) hx hb d_X_pictureBeingMade_19 (by decide) (fun hc4 => ?_) (fun hc4 => ?_)
      · have hf := x_br_f hf hc4
        refine lv_aload_n hx hb d_X_pictureBeingMade_33 rfl (lv_at hl 0 rfl) ?_
        refine va_get (D := x_D G) (ci := 0) (v := .ref (x_ad G 5)) (C := "ContentLibrary") (T := x_TX) (N := 9) hx hb hts x_inX hown hK hP 0 (x_lk_X G _) rfl 2 (by decide) (hts _ t_132) (fun _ h9 => h9) rfl d_X_pictureBeingMade_34 ?_
        refine lv_iload_n hx hb d_X_pictureBeingMade_37 rfl (lv_at hl 1 rfl) ?_
        obtain ⟨hin5, hf⟩ := x_ck_some hf
        refine va_aldq hx hb hK hP 5 2 (x_lk_made G _) rfl hin5 d_X_pictureBeingMade_38 ?_
        refine W.eq (g2 := F0 m 39 ls [.ref (x_ad G (6 + 2 * (p1).toNatClampNeg))]) rfl ?_
        exact absurd hf x_no_x
      · have hf := x_br_t hf hc4
        obtain ⟨rfl, rfl⟩ := x_retx hf
        exact e_throwW (text := "no such picture is being made") (is := 264) hx hb hl9 hown (by decide +kernel) (by decide) (by decide +kernel) hts t_457 t_14 at_149_IndexOutOfBoundsException hG hS (hl.1.trans hml.symm) d_X_pictureBeingMade_22 d_X_pictureBeingMade_25 d_X_pictureBeingMade_26 d_X_pictureBeingMade_29 d_X_pictureBeingMade_32 hEx (Nat.le_of_ble_eq_true rfl) (Nat.le_of_ble_eq_true rfl) (Nat.le_of_ble_eq_true rfl) (Nat.le_of_ble_eq_true rfl) hlocks (fun t hW hsz hk => x_pwk hP hD hK hG hS hz hsz hk hW) (Nat.le_of_ble_eq_true rfl) (Nat.le_of_ble_eq_true rfl)
abbrev rm_X_keptAt : Room := { frames := 6, cells := 0, slots := 0, locals := 82 }
abbrev rx_X_keptAt : Room := { frames := 6, cells := 1, slots := 6, locals := 82 }
set_option maxHeartbeats 4000000 in
set_option maxRecDepth 100000 in
theorem c_X_keptAt (l : Launch) (G : x_G) (p1 : Int32) (z0 : x_St) (r : Nat) (z9 : x_St) (hf : f_X_keptAt (x_n G) p1 z0 = some (Sum.inr r, z9)) : Met l (⟨"ContentLibrary", "keptAt", "(I)LContentLibrary$Kept;"⟩ : MethodName) (x_ws (⟨"ContentLibrary", "keptAt", "(I)LContentLibrary$Kept;"⟩ : MethodName) prog_1_method_22_code 2 (some (.object "ContentLibrary$Kept"))) rm_X_keptAt (va_Pc [.ref (x_ad G 0), .int p1] (x_PW G z0)) (va_Qr (fun u => z9 = u) (fun u a t => ∃ k, r = k ∧ x_isK k = true ∧ a = x_ad G k ∧ x_PW G u t) (x_A G)) 0 0 (x_A G) := by
  refine Met.ofW (cc := prog_1_method_22_code) (maxL := 2) (ret := (some (.object "ContentLibrary$Kept"))) (by decide) rfl ?_
  intro p e s m args below meth c s₁ B hml hv
  obtain ⟨rfl, hz, hP, hD, hK, hG⟩ := hv
  have C0 : x_Ctx G p s m _ meth c prog_1_method_22_code "ContentLibrary" 2 (some (.object "ContentLibrary$Kept")) := ⟨B.exec, B.bytes, B.returns, hml, findClass_of_methodNamed B.named, fun w h => atoms_spec (ws := (x_ws (⟨"ContentLibrary", "keptAt", "(I)LContentLibrary$Kept;"⟩ : MethodName) prog_1_method_22_code 2 (some (.object "ContentLibrary$Kept")))) B.pre w (List.mem_cons_of_mem _ h), B.notSynchronized, hz, hK, hG⟩
  obtain ⟨hx, hb, hr, hml, hown, hts, hlocks, hz, hK, hG⟩ := id C0
  have hS : va_S (x_A G) s.heap s.heap [] := va_S.rf
  have hl := lv_entry ([.ref (x_ad G 0), .int p1]) (n := 2) (Nat.le_of_ble_eq_true rfl)
  rw [lg_entry_eq]
  generalize (lg_sl ([.ref (x_ad G 0), .int p1]) ++ List.replicate (2 - (lg_sl ([.ref (x_ad G 0), .int p1])).length) Slot.unset).toArray = ls at hl ⊢
  have hl : lv_has ls 2 [(0, .ref (x_ad G 0)), (1, .int p1)] := hl
  rw [f_X_keptAt] at hf
  refine lv_iload_n hx hb d_X_keptAt_0 rfl (lv_at hl 1 rfl) ?_
  refine lv_if_lt (tgt := 22) hx hb d_X_keptAt_1 (by decide) (fun hc1 => ?_) (fun hc1 => ?_)
  · have hf := x_br_t hf hc1
    exact absurd hf x_no_r
  · have hf := x_br_f hf hc1
    refine lv_iload_n hx hb d_X_keptAt_4 rfl (lv_at hl 1 rfl) ?_
    refine lv_bipush (v := (16 : Int32)) hx hb d_X_keptAt_5 (by decide) ?_
    refine lv_icmp_ge (tgt := 22) hx hb d_X_keptAt_7 (by decide) (fun hc2 => ?_) (fun hc2 => ?_)
    · have hf := x_br_t hf hc2
      exact absurd hf x_no_r
    · have hf := x_br_f hf hc2
      refine lv_aload_n hx hb d_X_keptAt_10 rfl (lv_at hl 0 rfl) ?_
      refine va_get (D := x_D G) (ci := 0) (v := .ref (x_ad G 22)) (C := "ContentLibrary") (T := x_TX) (N := 9) hx hb hts x_inX hown hK hP 0 (x_lk_X G _) rfl 3 (by decide) (hts _ t_133) (fun _ h9 => h9) rfl d_X_keptAt_11 ?_
      refine lv_iload_n hx hb d_X_keptAt_14 rfl (lv_at hl 1 rfl) ?_
      obtain ⟨hin3, hf⟩ := x_ck_some hf
      refine va_aldq hx hb hK hP 22 3 (x_lk_kept G _) rfl hin3 d_X_keptAt_15 ?_
      refine W.eq (g2 := F0 m 16 ls [.ref (x_ad G (23 + 5 * (p1).toNatClampNeg))]) rfl ?_
      refine va_get (D := x_D G) (ci := 3) (v := .int (z0.1 (23 + 5 * (p1).toNatClampNeg) 0)) (C := "ContentLibrary$Kept") (T := x_TK) (N := 6) hx hb hts x_inK hown hK hP (23 + 5 * (p1).toNatClampNeg) (x_lk_K G _ (x_el_K hin3)) rfl 0 (by decide) (hts _ t_90) (fun _ h9 => h9) rfl d_X_keptAt_16 ?_
      refine lv_if_ne (tgt := 33) hx hb d_X_keptAt_19 (by decide) (fun hc4 => ?_) (fun hc4 => ?_)
      · have hf := x_br_f hf hc4
        refine lv_aload_n hx hb d_X_keptAt_33 rfl (lv_at hl 0 rfl) ?_
        refine va_get (D := x_D G) (ci := 0) (v := .ref (x_ad G 22)) (C := "ContentLibrary") (T := x_TX) (N := 9) hx hb hts x_inX hown hK hP 0 (x_lk_X G _) rfl 3 (by decide) (hts _ t_133) (fun _ h9 => h9) rfl d_X_keptAt_34 ?_
        refine lv_iload_n hx hb d_X_keptAt_37 rfl (lv_at hl 1 rfl) ?_
        obtain ⟨hin5, hf⟩ := x_ck_some hf
        refine va_aldq hx hb hK hP 22 3 (x_lk_kept G _) rfl hin5 d_X_keptAt_38 ?_
        refine W.eq (g2 := F0 m 39 ls [.ref (x_ad G (23 + 5 * (p1).toNatClampNeg))]) rfl ?_
        obtain ⟨rfl, rfl⟩ := x_retr hf
        exact W.aret (v := .ref (x_ad G (23 + 5 * (p1).toNatClampNeg))) hx hb hr (Or.inl ⟨_, rfl⟩) (Or.inr ⟨_, rfl⟩) (fun t ht hW => ⟨⟨_, _, rfl, rfl, _, rfl, (x_el_K hin5), rfl, x_pw hP hD hK hG hS hz ht hW⟩, hS.F ht⟩) hS.2.2 d_X_keptAt_39
      · have hf := x_br_t hf hc4
        exact absurd hf x_no_r
set_option maxHeartbeats 4000000 in
set_option maxRecDepth 100000 in
theorem c_X_keptAt_x (l : Launch) (G : x_G) (hl9 : l.stackTraces = false) (p1 : Int32) (z0 : x_St) (E : String) (z9 : x_St) (hf : f_X_keptAt (x_n G) p1 z0 = some (Sum.inl E, z9)) : e_Met l G (⟨"ContentLibrary", "keptAt", "(I)LContentLibrary$Kept;"⟩ : MethodName) (x_ws (⟨"ContentLibrary", "keptAt", "(I)LContentLibrary$Kept;"⟩ : MethodName) prog_1_method_22_code 2 (some (.object "ContentLibrary$Kept"))) rx_X_keptAt (va_Pc [.ref (x_ad G 0), .int p1] (x_PW G z0)) E z9 1 6 := by
  refine e_ofW (cc := prog_1_method_22_code) (maxL := 2) (ret := (some (.object "ContentLibrary$Kept"))) (by decide) rfl ?_
  intro p e s m args below meth c s₁ B hml hEx hv
  obtain ⟨rfl, hz, hP, hD, hK, hG⟩ := hv
  have C0 : x_Ctx G p s m _ meth c prog_1_method_22_code "ContentLibrary" 2 (some (.object "ContentLibrary$Kept")) := ⟨B.exec, B.bytes, B.returns, hml, findClass_of_methodNamed B.named, fun w h => atoms_spec (ws := (x_ws (⟨"ContentLibrary", "keptAt", "(I)LContentLibrary$Kept;"⟩ : MethodName) prog_1_method_22_code 2 (some (.object "ContentLibrary$Kept")))) B.pre w (List.mem_cons_of_mem _ h), B.notSynchronized, hz, hK, hG⟩
  obtain ⟨hx, hb, hr, hml, hown, hts, hlocks, hz, hK, hG⟩ := id C0
  have hS : va_S (x_A G) s.heap s.heap [] := va_S.rf
  have hl := lv_entry ([.ref (x_ad G 0), .int p1]) (n := 2) (Nat.le_of_ble_eq_true rfl)
  rw [lg_entry_eq]
  generalize (lg_sl ([.ref (x_ad G 0), .int p1]) ++ List.replicate (2 - (lg_sl ([.ref (x_ad G 0), .int p1])).length) Slot.unset).toArray = ls at hl ⊢
  have hl : lv_has ls 2 [(0, .ref (x_ad G 0)), (1, .int p1)] := hl
  rw [f_X_keptAt] at hf
  refine lv_iload_n hx hb d_X_keptAt_0 rfl (lv_at hl 1 rfl) ?_
  refine lv_if_lt (tgt := 22) hx hb d_X_keptAt_1 (by decide) (fun hc1 => ?_) (fun hc1 => ?_)
  · have hf := x_br_t hf hc1
    obtain ⟨rfl, rfl⟩ := x_retx hf
    exact e_throwW (text := "no such number is there") (is := 266) hx hb hl9 hown (by decide +kernel) (by decide) (by decide +kernel) hts t_457 t_14 at_149_IndexOutOfBoundsException hG hS (hl.1.trans hml.symm) d_X_keptAt_22 d_X_keptAt_25 d_X_keptAt_26 d_X_keptAt_29 d_X_keptAt_32 hEx (Nat.le_of_ble_eq_true rfl) (Nat.le_of_ble_eq_true rfl) (Nat.le_of_ble_eq_true rfl) (Nat.le_of_ble_eq_true rfl) hlocks (fun t hW hsz hk => x_pwk hP hD hK hG hS hz hsz hk hW) (Nat.le_of_ble_eq_true rfl) (Nat.le_of_ble_eq_true rfl)
  · have hf := x_br_f hf hc1
    refine lv_iload_n hx hb d_X_keptAt_4 rfl (lv_at hl 1 rfl) ?_
    refine lv_bipush (v := (16 : Int32)) hx hb d_X_keptAt_5 (by decide) ?_
    refine lv_icmp_ge (tgt := 22) hx hb d_X_keptAt_7 (by decide) (fun hc2 => ?_) (fun hc2 => ?_)
    · have hf := x_br_t hf hc2
      obtain ⟨rfl, rfl⟩ := x_retx hf
      exact e_throwW (text := "no such number is there") (is := 266) hx hb hl9 hown (by decide +kernel) (by decide) (by decide +kernel) hts t_457 t_14 at_149_IndexOutOfBoundsException hG hS (hl.1.trans hml.symm) d_X_keptAt_22 d_X_keptAt_25 d_X_keptAt_26 d_X_keptAt_29 d_X_keptAt_32 hEx (Nat.le_of_ble_eq_true rfl) (Nat.le_of_ble_eq_true rfl) (Nat.le_of_ble_eq_true rfl) (Nat.le_of_ble_eq_true rfl) hlocks (fun t hW hsz hk => x_pwk hP hD hK hG hS hz hsz hk hW) (Nat.le_of_ble_eq_true rfl) (Nat.le_of_ble_eq_true rfl)
    · have hf := x_br_f hf hc2
      refine lv_aload_n hx hb d_X_keptAt_10 rfl (lv_at hl 0 rfl) ?_
      refine va_get (D := x_D G) (ci := 0) (v := .ref (x_ad G 22)) (C := "ContentLibrary") (T := x_TX) (N := 9) hx hb hts x_inX hown hK hP 0 (x_lk_X G _) rfl 3 (by decide) (hts _ t_133) (fun _ h9 => h9) rfl d_X_keptAt_11 ?_
      refine lv_iload_n hx hb d_X_keptAt_14 rfl (lv_at hl 1 rfl) ?_
      obtain ⟨hin3, hf⟩ := x_ck_some hf
      refine va_aldq hx hb hK hP 22 3 (x_lk_kept G _) rfl hin3 d_X_keptAt_15 ?_
      refine W.eq (g2 := F0 m 16 ls [.ref (x_ad G (23 + 5 * (p1).toNatClampNeg))]) rfl ?_
      refine va_get (D := x_D G) (ci := 3) (v := .int (z0.1 (23 + 5 * (p1).toNatClampNeg) 0)) (C := "ContentLibrary$Kept") (T := x_TK) (N := 6) hx hb hts x_inK hown hK hP (23 + 5 * (p1).toNatClampNeg) (x_lk_K G _ (x_el_K hin3)) rfl 0 (by decide) (hts _ t_90) (fun _ h9 => h9) rfl d_X_keptAt_16 ?_
      refine lv_if_ne (tgt := 33) hx hb d_X_keptAt_19 (by decide) (fun hc4 => ?_) (fun hc4 => ?_)
      · have hf := x_br_f hf hc4
        refine lv_aload_n hx hb d_X_keptAt_33 rfl (lv_at hl 0 rfl) ?_
        refine va_get (D := x_D G) (ci := 0) (v := .ref (x_ad G 22)) (C := "ContentLibrary") (T := x_TX) (N := 9) hx hb hts x_inX hown hK hP 0 (x_lk_X G _) rfl 3 (by decide) (hts _ t_133) (fun _ h9 => h9) rfl d_X_keptAt_34 ?_
        refine lv_iload_n hx hb d_X_keptAt_37 rfl (lv_at hl 1 rfl) ?_
        obtain ⟨hin5, hf⟩ := x_ck_some hf
        refine va_aldq hx hb hK hP 22 3 (x_lk_kept G _) rfl hin5 d_X_keptAt_38 ?_
        refine W.eq (g2 := F0 m 39 ls [.ref (x_ad G (23 + 5 * (p1).toNatClampNeg))]) rfl ?_
        exact absurd hf x_no_x
      · have hf := x_br_t hf hc4
        obtain ⟨rfl, rfl⟩ := x_retx hf
        exact e_throwW (text := "no such number is there") (is := 266) hx hb hl9 hown (by decide +kernel) (by decide) (by decide +kernel) hts t_457 t_14 at_149_IndexOutOfBoundsException hG hS (hl.1.trans hml.symm) d_X_keptAt_22 d_X_keptAt_25 d_X_keptAt_26 d_X_keptAt_29 d_X_keptAt_32 hEx (Nat.le_of_ble_eq_true rfl) (Nat.le_of_ble_eq_true rfl) (Nat.le_of_ble_eq_true rfl) (Nat.le_of_ble_eq_true rfl) hlocks (fun t hW hsz hk => x_pwk hP hD hK hG hS hz hsz hk hW) (Nat.le_of_ble_eq_true rfl) (Nat.le_of_ble_eq_true rfl)
end
