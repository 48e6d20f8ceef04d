section
-- ===== PART A: goes FIRST, ahead of the names: the tables' words, and 'selects' of the private methods out of them =====
/-- a private method of a class that the tables say can be made, by its rows of tables_1 -/
def lw_okq (q : MethodName × Nat) : Prop := (q.1.cls ≠ "java/lang/invoke/MethodHandle" ∧ q.1.cls ≠ "java/lang/invoke/VarHandle") ∧ Cond.instantiable q.1.cls q.2 ∈ tables_1 ∧ Cond.privateMethod q.1 ∈ tables_1 ∧ Cond.instanceMethod q.1 ∈ tables_1
theorem lw_p0 : lw_okq (⟨"ContentLibrary", "forget", "()V"⟩, 9) := ⟨⟨by decide +kernel, by decide +kernel⟩, List.mem_of_getElem? (i := 20) (by decide +kernel), List.mem_of_getElem? (i := 163) (by decide +kernel), List.mem_of_getElem? (i := 164) (by decide +kernel)⟩
theorem lw_p1 : lw_okq (⟨"ContentLibrary", "openNumber", "(I)V"⟩, 9) := ⟨⟨by decide +kernel, by decide +kernel⟩, List.mem_of_getElem? (i := 20) (by decide +kernel), List.mem_of_getElem? (i := 167) (by decide +kernel), List.mem_of_getElem? (i := 168) (by decide +kernel)⟩
theorem lw_p2 : lw_okq (⟨"ContentLibrary$Blocks", "hasRightSum", "(I)Z"⟩, 5) := ⟨⟨by decide +kernel, by decide +kernel⟩, List.mem_of_getElem? (i := 34) (by decide +kernel), List.mem_of_getElem? (i := 183) (by decide +kernel), List.mem_of_getElem? (i := 184) (by decide +kernel)⟩
theorem lw_p3 : lw_okq (⟨"ContentLibrary", "readRecord", "(LContentLibrary$Kept;II)Z"⟩, 9) := ⟨⟨by decide +kernel, by decide +kernel⟩, List.mem_of_getElem? (i := 20) (by decide +kernel), List.mem_of_getElem? (i := 202) (by decide +kernel), List.mem_of_getElem? (i := 203) (by decide +kernel)⟩
theorem lw_p4 : lw_okq (⟨"ContentLibrary$Digester", "pad", "([II)I"⟩, 3) := ⟨⟨by decide +kernel, by decide +kernel⟩, List.mem_of_getElem? (i := 115) (by decide +kernel), List.mem_of_getElem? (i := 247) (by decide +kernel), List.mem_of_getElem? (i := 248) (by decide +kernel)⟩
theorem lw_p5 : lw_okq (⟨"ContentLibrary$Digester", "prepare", "(I)V"⟩, 3) := ⟨⟨by decide +kernel, by decide +kernel⟩, List.mem_of_getElem? (i := 115) (by decide +kernel), List.mem_of_getElem? (i := 257) (by decide +kernel), List.mem_of_getElem? (i := 258) (by decide +kernel)⟩
theorem lw_p6 : lw_okq (⟨"ContentLibrary$Digester", "mix", "([I)V"⟩, 3) := ⟨⟨by decide +kernel, by decide +kernel⟩, List.mem_of_getElem? (i := 115) (by decide +kernel), List.mem_of_getElem? (i := 264) (by decide +kernel), List.mem_of_getElem? (i := 265) (by decide +kernel)⟩
theorem lw_p7 : lw_okq (⟨"ContentLibrary$Digester", "turnRound", "(I)V"⟩, 3) := ⟨⟨by decide +kernel, by decide +kernel⟩, List.mem_of_getElem? (i := 115) (by decide +kernel), List.mem_of_getElem? (i := 270) (by decide +kernel), List.mem_of_getElem? (i := 271) (by decide +kernel)⟩
theorem lw_p8 : lw_okq (⟨"ContentLibrary", "numberWith", "([II)I"⟩, 9) := ⟨⟨by decide +kernel, by decide +kernel⟩, List.mem_of_getElem? (i := 20) (by decide +kernel), List.mem_of_getElem? (i := 274) (by decide +kernel), List.mem_of_getElem? (i := 275) (by decide +kernel)⟩
theorem lw_p9 : lw_okq (⟨"ContentLibrary", "admit", "(LContentLibrary$Kept;I)V"⟩, 9) := ⟨⟨by decide +kernel, by decide +kernel⟩, List.mem_of_getElem? (i := 20) (by decide +kernel), List.mem_of_getElem? (i := 282) (by decide +kernel), List.mem_of_getElem? (i := 283) (by decide +kernel)⟩
theorem lw_p10 : lw_okq (⟨"ContentLibrary", "setUsed", "(LContentLibrary$Kept;Z)V"⟩, 9) := ⟨⟨by decide +kernel, by decide +kernel⟩, List.mem_of_getElem? (i := 20) (by decide +kernel), List.mem_of_getElem? (i := 294) (by decide +kernel), List.mem_of_getElem? (i := 295) (by decide +kernel)⟩
theorem lw_p11 : lw_okq (⟨"ContentLibrary", "countKept", "()I"⟩, 9) := ⟨⟨by decide +kernel, by decide +kernel⟩, List.mem_of_getElem? (i := 20) (by decide +kernel), List.mem_of_getElem? (i := 298) (by decide +kernel), List.mem_of_getElem? (i := 299) (by decide +kernel)⟩
theorem lw_p12 : lw_okq (⟨"ContentLibrary", "countFreeBlocks", "()I"⟩, 9) := ⟨⟨by decide +kernel, by decide +kernel⟩, List.mem_of_getElem? (i := 20) (by decide +kernel), List.mem_of_getElem? (i := 315) (by decide +kernel), List.mem_of_getElem? (i := 316) (by decide +kernel)⟩
theorem lw_p13 : lw_okq (⟨"ContentLibrary", "countMade", "()I"⟩, 9) := ⟨⟨by decide +kernel, by decide +kernel⟩, List.mem_of_getElem? (i := 20) (by decide +kernel), List.mem_of_getElem? (i := 319) (by decide +kernel), List.mem_of_getElem? (i := 320) (by decide +kernel)⟩
theorem lw_p14 : lw_okq (⟨"ContentLibrary", "refuseWhenCut", "()V"⟩, 9) := ⟨⟨by decide +kernel, by decide +kernel⟩, List.mem_of_getElem? (i := 20) (by decide +kernel), List.mem_of_getElem? (i := 336) (by decide +kernel), List.mem_of_getElem? (i := 337) (by decide +kernel)⟩
theorem lw_p15 : lw_okq (⟨"java/lang/Throwable", "fillInStackTrace", "(I)Ljava/lang/Throwable;"⟩, 6) := ⟨⟨by decide +kernel, by decide +kernel⟩, List.mem_of_getElem? (i := 379) (by decide +kernel), List.mem_of_getElem? (i := 377) (by decide +kernel), List.mem_of_getElem? (i := 378) (by decide +kernel)⟩
def lw_privs_1 : List (MethodName × Nat) := [(⟨"ContentLibrary", "forget", "()V"⟩, 9), (⟨"ContentLibrary", "openNumber", "(I)V"⟩, 9), (⟨"ContentLibrary$Blocks", "hasRightSum", "(I)Z"⟩, 5), (⟨"ContentLibrary", "readRecord", "(LContentLibrary$Kept;II)Z"⟩, 9), (⟨"ContentLibrary$Digester", "pad", "([II)I"⟩, 3), (⟨"ContentLibrary$Digester", "prepare", "(I)V"⟩, 3), (⟨"ContentLibrary$Digester", "mix", "([I)V"⟩, 3), (⟨"ContentLibrary$Digester", "turnRound", "(I)V"⟩, 3), (⟨"ContentLibrary", "numberWith", "([II)I"⟩, 9), (⟨"ContentLibrary", "admit", "(LContentLibrary$Kept;I)V"⟩, 9), (⟨"ContentLibrary", "setUsed", "(LContentLibrary$Kept;Z)V"⟩, 9), (⟨"ContentLibrary", "countKept", "()I"⟩, 9), (⟨"ContentLibrary", "countFreeBlocks", "()I"⟩, 9), (⟨"ContentLibrary", "countMade", "()I"⟩, 9), (⟨"ContentLibrary", "refuseWhenCut", "()V"⟩, 9), (⟨"java/lang/Throwable", "fillInStackTrace", "(I)Ljava/lang/Throwable;"⟩, 6)]
theorem lw_r1 : ∀ q ∈ lw_privs_1, lw_okq q := List.forall_mem_cons.mpr ⟨lw_p0, List.forall_mem_cons.mpr ⟨lw_p1, List.forall_mem_cons.mpr ⟨lw_p2, List.forall_mem_cons.mpr ⟨lw_p3, List.forall_mem_cons.mpr ⟨lw_p4, List.forall_mem_cons.mpr ⟨lw_p5, List.forall_mem_cons.mpr ⟨lw_p6, List.forall_mem_cons.mpr ⟨lw_p7, List.forall_mem_cons.mpr ⟨lw_p8, List.forall_mem_cons.mpr ⟨lw_p9, List.forall_mem_cons.mpr ⟨lw_p10, List.forall_mem_cons.mpr ⟨lw_p11, List.forall_mem_cons.mpr ⟨lw_p12, List.forall_mem_cons.mpr ⟨lw_p13, List.forall_mem_cons.mpr ⟨lw_p14, List.forall_mem_cons.mpr ⟨lw_p15, fun _ h => absurd h List.not_mem_nil⟩⟩⟩⟩⟩⟩⟩⟩⟩⟩⟩⟩⟩⟩⟩⟩
theorem lw_p16 : lw_okq (⟨"ContentLibrary", "pictureBeingMade", "(I)LContentLibrary$Picture;"⟩, 9) := ⟨⟨by decide +kernel, by decide +kernel⟩, List.mem_of_getElem? (i := 20) (by decide +kernel), List.mem_of_getElem? (i := 454) (by decide +kernel), List.mem_of_getElem? (i := 455) (by decide +kernel)⟩
theorem lw_p17 : lw_okq (⟨"ContentLibrary", "freeNumber", "()I"⟩, 9) := ⟨⟨by decide +kernel, by decide +kernel⟩, List.mem_of_getElem? (i := 20) (by decide +kernel), List.mem_of_getElem? (i := 492) (by decide +kernel), List.mem_of_getElem? (i := 493) (by decide +kernel)⟩
theorem lw_p18 : lw_okq (⟨"ContentLibrary", "choosePlaces", "(LContentLibrary$Kept;I)Z"⟩, 9) := ⟨⟨by decide +kernel, by decide +kernel⟩, List.mem_of_getElem? (i := 20) (by decide +kernel), List.mem_of_getElem? (i := 501) (by decide +kernel), List.mem_of_getElem? (i := 502) (by decide +kernel)⟩
theorem lw_p19 : lw_okq (⟨"ContentLibrary", "commit", "(ILContentLibrary$Picture;)Z"⟩, 9) := ⟨⟨by decide +kernel, by decide +kernel⟩, List.mem_of_getElem? (i := 20) (by decide +kernel), List.mem_of_getElem? (i := 506) (by decide +kernel), List.mem_of_getElem? (i := 507) (by decide +kernel)⟩
theorem lw_p20 : lw_okq (⟨"ContentLibrary", "wipeFreeBlocks", "(I)I"⟩, 9) := ⟨⟨by decide +kernel, by decide +kernel⟩, List.mem_of_getElem? (i := 20) (by decide +kernel), List.mem_of_getElem? (i := 510) (by decide +kernel), List.mem_of_getElem? (i := 511) (by decide +kernel)⟩
theorem lw_p21 : lw_okq (⟨"ContentLibrary$Blocks", "put", "(III)Z"⟩, 5) := ⟨⟨by decide +kernel, by decide +kernel⟩, List.mem_of_getElem? (i := 34) (by decide +kernel), List.mem_of_getElem? (i := 518) (by decide +kernel), List.mem_of_getElem? (i := 519) (by decide +kernel)⟩
theorem lw_p22 : lw_okq (⟨"ContentLibrary$Blocks", "beginImage", "(IIII)V"⟩, 5) := ⟨⟨by decide +kernel, by decide +kernel⟩, List.mem_of_getElem? (i := 34) (by decide +kernel), List.mem_of_getElem? (i := 529) (by decide +kernel), List.mem_of_getElem? (i := 530) (by decide +kernel)⟩
theorem lw_p23 : lw_okq (⟨"ContentLibrary$Blocks", "writeImage", "(I)Z"⟩, 5) := ⟨⟨by decide +kernel, by decide +kernel⟩, List.mem_of_getElem? (i := 34) (by decide +kernel), List.mem_of_getElem? (i := 534) (by decide +kernel), List.mem_of_getElem? (i := 535) (by decide +kernel)⟩
theorem lw_p24 : lw_okq (⟨"ContentLibrary", "afterCut", "()I"⟩, 9) := ⟨⟨by decide +kernel, by decide +kernel⟩, List.mem_of_getElem? (i := 20) (by decide +kernel), List.mem_of_getElem? (i := 548) (by decide +kernel), List.mem_of_getElem? (i := 549) (by decide +kernel)⟩
theorem lw_p25 : lw_okq (⟨"ContentLibrary", "keptAt", "(I)LContentLibrary$Kept;"⟩, 9) := ⟨⟨by decide +kernel, by decide +kernel⟩, List.mem_of_getElem? (i := 20) (by decide +kernel), List.mem_of_getElem? (i := 559) (by decide +kernel), List.mem_of_getElem? (i := 560) (by decide +kernel)⟩
theorem lw_p26 : lw_okq (⟨"ContentLibrary", "enterFound", "(II)V"⟩, 9) := ⟨⟨by decide +kernel, by decide +kernel⟩, List.mem_of_getElem? (i := 20) (by decide +kernel), List.mem_of_getElem? (i := 597) (by decide +kernel), List.mem_of_getElem? (i := 598) (by decide +kernel)⟩
theorem lw_p27 : lw_okq (⟨"ContentLibrary", "refuseUnlessByte", "(II)V"⟩, 9) := ⟨⟨by decide +kernel, by decide +kernel⟩, List.mem_of_getElem? (i := 20) (by decide +kernel), List.mem_of_getElem? (i := 639) (by decide +kernel), List.mem_of_getElem? (i := 640) (by decide +kernel)⟩
theorem lw_p28 : lw_okq (⟨"ContentLibraryModel", "isMade", "(I)Z"⟩, 31) := ⟨⟨by decide +kernel, by decide +kernel⟩, List.mem_of_getElem? (i := 656) (by decide +kernel), List.mem_of_getElem? (i := 780) (by decide +kernel), List.mem_of_getElem? (i := 781) (by decide +kernel)⟩
theorem lw_p29 : lw_okq (⟨"ContentLibraryModel", "isWhole", "(I)Z"⟩, 31) := ⟨⟨by decide +kernel, by decide +kernel⟩, List.mem_of_getElem? (i := 656) (by decide +kernel), List.mem_of_getElem? (i := 784) (by decide +kernel), List.mem_of_getElem? (i := 785) (by decide +kernel)⟩
theorem lw_p30 : lw_okq (⟨"ContentLibraryModel", "numberWith", "(I)I"⟩, 31) := ⟨⟨by decide +kernel, by decide +kernel⟩, List.mem_of_getElem? (i := 656) (by decide +kernel), List.mem_of_getElem? (i := 792) (by decide +kernel), List.mem_of_getElem? (i := 793) (by decide +kernel)⟩
theorem lw_p31 : lw_okq (⟨"ContentLibraryModel", "tell", "(II[II)V"⟩, 31) := ⟨⟨by decide +kernel, by decide +kernel⟩, List.mem_of_getElem? (i := 656) (by decide +kernel), List.mem_of_getElem? (i := 796) (by decide +kernel), List.mem_of_getElem? (i := 797) (by decide +kernel)⟩
def lw_privs_2 : List (MethodName × Nat) := [(⟨"ContentLibrary", "pictureBeingMade", "(I)LContentLibrary$Picture;"⟩, 9), (⟨"ContentLibrary", "freeNumber", "()I"⟩, 9), (⟨"ContentLibrary", "choosePlaces", "(LContentLibrary$Kept;I)Z"⟩, 9), (⟨"ContentLibrary", "commit", "(ILContentLibrary$Picture;)Z"⟩, 9), (⟨"ContentLibrary", "wipeFreeBlocks", "(I)I"⟩, 9), (⟨"ContentLibrary$Blocks", "put", "(III)Z"⟩, 5), (⟨"ContentLibrary$Blocks", "beginImage", "(IIII)V"⟩, 5), (⟨"ContentLibrary$Blocks", "writeImage", "(I)Z"⟩, 5), (⟨"ContentLibrary", "afterCut", "()I"⟩, 9), (⟨"ContentLibrary", "keptAt", "(I)LContentLibrary$Kept;"⟩, 9), (⟨"ContentLibrary", "enterFound", "(II)V"⟩, 9), (⟨"ContentLibrary", "refuseUnlessByte", "(II)V"⟩, 9), (⟨"ContentLibraryModel", "isMade", "(I)Z"⟩, 31), (⟨"ContentLibraryModel", "isWhole", "(I)Z"⟩, 31), (⟨"ContentLibraryModel", "numberWith", "(I)I"⟩, 31), (⟨"ContentLibraryModel", "tell", "(II[II)V"⟩, 31)]
theorem lw_r2 : ∀ q ∈ lw_privs_2, lw_okq q := List.forall_mem_cons.mpr ⟨lw_p16, List.forall_mem_cons.mpr ⟨lw_p17, List.forall_mem_cons.mpr ⟨lw_p18, List.forall_mem_cons.mpr ⟨lw_p19, List.forall_mem_cons.mpr ⟨lw_p20, List.forall_mem_cons.mpr ⟨lw_p21, List.forall_mem_cons.mpr ⟨lw_p22, List.forall_mem_cons.mpr ⟨lw_p23, List.forall_mem_cons.mpr ⟨lw_p24, List.forall_mem_cons.mpr ⟨lw_p25, List.forall_mem_cons.mpr ⟨lw_p26, List.forall_mem_cons.mpr ⟨lw_p27, List.forall_mem_cons.mpr ⟨lw_p28, List.forall_mem_cons.mpr ⟨lw_p29, List.forall_mem_cons.mpr ⟨lw_p30, List.forall_mem_cons.mpr ⟨lw_p31, fun _ h => absurd h List.not_mem_nil⟩⟩⟩⟩⟩⟩⟩⟩⟩⟩⟩⟩⟩⟩⟩⟩
theorem lw_p32 : lw_okq (⟨"ContentLibraryModel", "digestOf", "()V"⟩, 31) := ⟨⟨by decide +kernel, by decide +kernel⟩, List.mem_of_getElem? (i := 656) (by decide +kernel), List.mem_of_getElem? (i := 800) (by decide +kernel), List.mem_of_getElem? (i := 801) (by decide +kernel)⟩
theorem lw_p33 : lw_okq (⟨"ContentLibraryModel", "block", "(I)V"⟩, 31) := ⟨⟨by decide +kernel, by decide +kernel⟩, List.mem_of_getElem? (i := 656) (by decide +kernel), List.mem_of_getElem? (i := 804) (by decide +kernel), List.mem_of_getElem? (i := 805) (by decide +kernel)⟩
theorem lw_p34 : lw_okq (⟨"ContentLibraryModel", "freeBlocks", "()I"⟩, 31) := ⟨⟨by decide +kernel, by decide +kernel⟩, List.mem_of_getElem? (i := 656) (by decide +kernel), List.mem_of_getElem? (i := 811) (by decide +kernel), List.mem_of_getElem? (i := 812) (by decide +kernel)⟩
theorem lw_p35 : lw_okq (⟨"ContentLibraryModel", "isNothing", "(I)Z"⟩, 31) := ⟨⟨by decide +kernel, by decide +kernel⟩, List.mem_of_getElem? (i := 656) (by decide +kernel), List.mem_of_getElem? (i := 815) (by decide +kernel), List.mem_of_getElem? (i := 816) (by decide +kernel)⟩
theorem lw_p36 : lw_okq (⟨"ContentLibraryModel", "wipe", "(I)V"⟩, 31) := ⟨⟨by decide +kernel, by decide +kernel⟩, List.mem_of_getElem? (i := 656) (by decide +kernel), List.mem_of_getElem? (i := 819) (by decide +kernel), List.mem_of_getElem? (i := 820) (by decide +kernel)⟩
theorem lw_p37 : lw_okq (⟨"ContentLibraryModel", "write", "(II)V"⟩, 31) := ⟨⟨by decide +kernel, by decide +kernel⟩, List.mem_of_getElem? (i := 656) (by decide +kernel), List.mem_of_getElem? (i := 823) (by decide +kernel), List.mem_of_getElem? (i := 824) (by decide +kernel)⟩
theorem lw_p38 : lw_okq (⟨"ContentLibraryModel", "writeBlock", "(IIIIIII)V"⟩, 31) := ⟨⟨by decide +kernel, by decide +kernel⟩, List.mem_of_getElem? (i := 656) (by decide +kernel), List.mem_of_getElem? (i := 827) (by decide +kernel), List.mem_of_getElem? (i := 828) (by decide +kernel)⟩
theorem lw_p39 : lw_okq (⟨"ContentLibraryModel", "byteFor", "(IIIIIII)I"⟩, 31) := ⟨⟨by decide +kernel, by decide +kernel⟩, List.mem_of_getElem? (i := 656) (by decide +kernel), List.mem_of_getElem? (i := 831) (by decide +kernel), List.mem_of_getElem? (i := 832) (by decide +kernel)⟩
theorem lw_p40 : lw_okq (⟨"ContentLibraryModel", "isGone", "()Z"⟩, 31) := ⟨⟨by decide +kernel, by decide +kernel⟩, List.mem_of_getElem? (i := 656) (by decide +kernel), List.mem_of_getElem? (i := 836) (by decide +kernel), List.mem_of_getElem? (i := 837) (by decide +kernel)⟩
theorem lw_p41 : lw_okq (⟨"ContentLibraryModel", "forget", "()V"⟩, 31) := ⟨⟨by decide +kernel, by decide +kernel⟩, List.mem_of_getElem? (i := 656) (by decide +kernel), List.mem_of_getElem? (i := 840) (by decide +kernel), List.mem_of_getElem? (i := 841) (by decide +kernel)⟩
theorem lw_p42 : lw_okq (⟨"ContentLibraryModel", "isThere", "(I)Z"⟩, 31) := ⟨⟨by decide +kernel, by decide +kernel⟩, List.mem_of_getElem? (i := 656) (by decide +kernel), List.mem_of_getElem? (i := 851) (by decide +kernel), List.mem_of_getElem? (i := 852) (by decide +kernel)⟩
theorem lw_p43 : lw_okq (⟨"ContentLibraryModel", "openNumber", "(I)V"⟩, 31) := ⟨⟨by decide +kernel, by decide +kernel⟩, List.mem_of_getElem? (i := 656) (by decide +kernel), List.mem_of_getElem? (i := 890) (by decide +kernel), List.mem_of_getElem? (i := 891) (by decide +kernel)⟩
theorem lw_p44 : lw_okq (⟨"ContentLibraryModel", "only", "(III)I"⟩, 31) := ⟨⟨by decide +kernel, by decide +kernel⟩, List.mem_of_getElem? (i := 656) (by decide +kernel), List.mem_of_getElem? (i := 894) (by decide +kernel), List.mem_of_getElem? (i := 895) (by decide +kernel)⟩
theorem lw_p45 : lw_okq (⟨"ContentLibraryModel", "isGood", "(I)Z"⟩, 31) := ⟨⟨by decide +kernel, by decide +kernel⟩, List.mem_of_getElem? (i := 656) (by decide +kernel), List.mem_of_getElem? (i := 898) (by decide +kernel), List.mem_of_getElem? (i := 899) (by decide +kernel)⟩
theorem lw_p46 : lw_okq (⟨"ContentLibraryModel", "sumOf", "(I)I"⟩, 31) := ⟨⟨by decide +kernel, by decide +kernel⟩, List.mem_of_getElem? (i := 656) (by decide +kernel), List.mem_of_getElem? (i := 902) (by decide +kernel), List.mem_of_getElem? (i := 903) (by decide +kernel)⟩
def lw_privs_3 : List (MethodName × Nat) := [(⟨"ContentLibraryModel", "digestOf", "()V"⟩, 31), (⟨"ContentLibraryModel", "block", "(I)V"⟩, 31), (⟨"ContentLibraryModel", "freeBlocks", "()I"⟩, 31), (⟨"ContentLibraryModel", "isNothing", "(I)Z"⟩, 31), (⟨"ContentLibraryModel", "wipe", "(I)V"⟩, 31), (⟨"ContentLibraryModel", "write", "(II)V"⟩, 31), (⟨"ContentLibraryModel", "writeBlock", "(IIIIIII)V"⟩, 31), (⟨"ContentLibraryModel", "byteFor", "(IIIIIII)I"⟩, 31), (⟨"ContentLibraryModel", "isGone", "()Z"⟩, 31), (⟨"ContentLibraryModel", "forget", "()V"⟩, 31), (⟨"ContentLibraryModel", "isThere", "(I)Z"⟩, 31), (⟨"ContentLibraryModel", "openNumber", "(I)V"⟩, 31), (⟨"ContentLibraryModel", "only", "(III)I"⟩, 31), (⟨"ContentLibraryModel", "isGood", "(I)Z"⟩, 31), (⟨"ContentLibraryModel", "sumOf", "(I)I"⟩, 31)]
theorem lw_r3 : ∀ q ∈ lw_privs_3, lw_okq q := List.forall_mem_cons.mpr ⟨lw_p32, List.forall_mem_cons.mpr ⟨lw_p33, List.forall_mem_cons.mpr ⟨lw_p34, List.forall_mem_cons.mpr ⟨lw_p35, List.forall_mem_cons.mpr ⟨lw_p36, List.forall_mem_cons.mpr ⟨lw_p37, List.forall_mem_cons.mpr ⟨lw_p38, List.forall_mem_cons.mpr ⟨lw_p39, List.forall_mem_cons.mpr ⟨lw_p40, List.forall_mem_cons.mpr ⟨lw_p41, List.forall_mem_cons.mpr ⟨lw_p42, List.forall_mem_cons.mpr ⟨lw_p43, List.forall_mem_cons.mpr ⟨lw_p44, List.forall_mem_cons.mpr ⟨lw_p45, List.forall_mem_cons.mpr ⟨lw_p46, fun _ h => absurd h List.not_mem_nil⟩⟩⟩⟩⟩⟩⟩⟩⟩⟩⟩⟩⟩⟩⟩
def lw_privs : List (MethodName × Nat) := lw_privs_1 ++ (lw_privs_2 ++ (lw_privs_3))
def lw_tbl : List Cond := k2_sels lw_privs ++ tables_1
theorem lw_privs_ok : ∀ q ∈ lw_privs, lw_okq q := by
  show ∀ q ∈ lw_privs_1 ++ (lw_privs_2 ++ (lw_privs_3)), lw_okq q
  exact List.forall_mem_append.mpr ⟨lw_r1, List.forall_mem_append.mpr ⟨lw_r2, lw_r3⟩⟩
-- ===== end of PART A; then your names; then what follows =====
end
section
/-! THE WORDS: the tables' words that stay good; every method's list is its own code and these -/
def x_big : List Cond := lw_tbl.filter goodWord
theorem x_bt (i : Nat) {w : Cond} (h : tables_1[i]? = some w) (hg : goodWord w = true) : w ∈ x_big :=
  List.mem_filter.mpr ⟨List.mem_append_right _ (List.mem_of_getElem? h), hg⟩
theorem x_bs (i : Nat) {w : Cond} (h : (k2_sels lw_privs)[i]? = some w) (hg : goodWord w = true) : w ∈ x_big :=
  List.mem_filter.mpr ⟨List.mem_append_left _ (List.mem_of_getElem? h), hg⟩
theorem x_bg {w : Cond} (h : w ∈ x_big) : w ∈ lw_tbl ∧ goodWord w = true := List.mem_filter.mp h
abbrev x_ws (y : MethodName) (c : ByteArray) (n : Nat) (r : Option FieldType) : List Cond := Cond.code y c n r :: x_big
theorem x_gws {y : MethodName} {c : ByteArray} {n : Nat} {r : Option FieldType} (h : Cond.code y c n r ∈ x_big) : GoodIn x_big (x_ws y c n r) := by
  intro w hw
  have hm : w ∈ x_big := (List.mem_cons.mp hw).elim (fun e => e ▸ h) id
  exact ⟨hm, good_of_word (x_bg hm).2⟩
theorem x_gV {own : String} {idx : Nat} {C : String} {y : MethodName} {c : ByteArray} {n : Nat} {r : Option FieldType} (h1 : Cond.methodLink own idx y ∈ x_big) (h2 : Cond.instanceMethod y ∈ x_big) (h3 : Cond.selects C y y ∈ x_big) (h4 : Cond.initialized C ∈ x_big) (h5 : Cond.code y c n r ∈ x_big) : GoodIn x_big (wsV own idx C y (x_ws y c n r)) := by
  intro w hw
  rcases List.mem_append.mp hw with h | h
  · have hm : w ∈ x_big := by
      simp only [List.mem_cons, List.not_mem_nil, or_false] at h
      rcases h with rfl | rfl | rfl | rfl <;> assumption
    exact ⟨hm, good_of_word (x_bg hm).2⟩
  · exact x_gws h5 w h
theorem x_gS {own : String} {idx : Nat} {y : MethodName} {c : ByteArray} {n : Nat} {r : Option FieldType} (h1 : Cond.methodLink own idx y ∈ x_big) (h2 : Cond.static y ∈ x_big) (h4 : Cond.initialized y.cls ∈ x_big) (h5 : Cond.code y c n r ∈ x_big) : GoodIn x_big (va_wsS own idx y (x_ws y c n r)) := by
  intro w hw
  rcases List.mem_append.mp hw with h | h
  · have hm : w ∈ x_big := by
      simp only [List.mem_cons, List.not_mem_nil, or_false] at h
      rcases h with rfl | rfl | rfl <;> assumption
    exact ⟨hm, good_of_word (x_bg hm).2⟩
  · exact x_gws h5 w h
/-! PURE WORDS: a state is what the int cells and the long cells hold, by cell and place -/
abbrev x_St : Type := (Nat → Nat → Int32) × (Nat → Nat → Int64)
def x_put (z : x_St) (k j : Nat) (v : Int32) : x_St := (va_up z.1 k (upd (z.1 k) j v), z.2)
def x_putL (z : x_St) (k j : Nat) (v : Int64) : x_St := (z.1, va_up z.2 k (vp_updL (z.2 k) j v))
def x_cpy (z : x_St) (k1 sp k2 dp w : Nat) : x_St := (va_up z.1 k2 (va_cpy (z.1 k1) (z.1 k2) sp dp w), z.2)
def x_cpyT (z : x_St) (f : Nat → Int32) (sp k2 dp w : Nat) : x_St := (va_up z.1 k2 (va_cpy f (z.1 k2) sp dp w), z.2)
def x_ushr (x y : Int32) : Int32 := (x.toUInt32 >>> (y.toUInt32 &&& Int32.toUInt32 31)).toInt32
def x_lshl (x : Int64) (y : Int32) : Int64 := x <<< (y.toInt64 &&& 63)
def x_lushr (x : Int64) (y : Int32) : Int64 := (x.toUInt64 >>> (y.toInt64.toUInt64 &&& Int64.toUInt64 63)).toInt64
def x_FU : Nat := 1000000
/-- a place that must be in its row -/
def x_ck {β : Type} (i : Int32) (n : Nat) (K : Option β) : Option β := if i < 0 ∨ n ≤ i.toNatClampNeg then none else K
theorem x_ck_some {β : Type} {i : Int32} {n : Nat} {K : Option β} {o : β} (h : x_ck i n K = some o) : vp_in i n ∧ K = some o := by
  unfold x_ck at h
  by_cases hc : i < 0 ∨ n ≤ i.toNatClampNeg
  · rw [if_pos hc] at h; cases h
  · rw [if_neg hc] at h; exact ⟨hc, h⟩
def x_nz {β : Type} (y : Int32) (K : Option β) : Option β := if y = 0 then none else K
theorem x_nz_some {β : Type} {y : Int32} {K : Option β} {o : β} (h : x_nz y K = some o) : ¬ y = 0 ∧ K = some o := by
  unfold x_nz at h
  by_cases hc : y = 0
  · rw [if_pos hc] at h; cases h
  · rw [if_neg hc] at h; exact ⟨hc, h⟩
def x_ckb {β : Type} (y : Int32) (K : Option β) : Option β := if y = 0 ∨ y = 1 then K else none
theorem x_ckb_some {β : Type} {y : Int32} {K : Option β} {o : β} (h : x_ckb y K = some o) : (y = 0 ∨ y = 1) ∧ K = some o := by
  unfold x_ckb at h
  by_cases hc : y = 0 ∨ y = 1
  · rw [if_pos hc] at h; exact ⟨hc, h⟩
  · rw [if_neg hc] at h; cases h
theorem x_nb {y : Int32} (h : y = 0 ∨ y = 1) : narrow .boolean (.int y) = .int y := by
  rcases h with rfl | rfl <;> rfl
def x_ckc {β : Type} (sp dp w : Int32) (n0 n1 : Nat) (K : Option β) : Option β := if sp < 0 ∨ dp < 0 ∨ w < 0 ∨ n0 < sp.toNatClampNeg + w.toNatClampNeg ∨ n1 < dp.toNatClampNeg + w.toNatClampNeg then none else K
theorem x_ckc_some {β : Type} {sp dp w : Int32} {n0 n1 : Nat} {K : Option β} {o : β} (h : x_ckc sp dp w n0 n1 K = some o) : ¬ sp < 0 ∧ ¬ dp < 0 ∧ ¬ w < 0 ∧ sp.toNatClampNeg + w.toNatClampNeg ≤ n0 ∧ dp.toNatClampNeg + w.toNatClampNeg ≤ n1 ∧ K = some o := by
  unfold x_ckc at h
  by_cases hc : sp < 0 ∨ dp < 0 ∨ w < 0 ∨ n0 < sp.toNatClampNeg + w.toNatClampNeg ∨ n1 < dp.toNatClampNeg + w.toNatClampNeg
  · rw [if_pos hc] at h; cases h
  · rw [if_neg hc] at h
    refine ⟨fun q => hc (Or.inl q), fun q => hc (Or.inr (Or.inl q)), fun q => hc (Or.inr (Or.inr (Or.inl q))), Nat.not_lt.mp fun q => hc (Or.inr (Or.inr (Or.inr (Or.inl q)))), Nat.not_lt.mp fun q => hc (Or.inr (Or.inr (Or.inr (Or.inr q)))), h⟩
theorem x_br_t {β : Type} {c : Prop} [Decidable c] {A B : Option β} {o : β} (h : (if c then A else B) = some o) (hc : c) : A = some o := by rw [if_pos hc] at h; exact h
theorem x_br_f {β : Type} {c : Prop} [Decidable c] {A B : Option β} {o : β} (h : (if c then A else B) = some o) (hc : ¬ c) : B = some o := by rw [if_neg hc] at h; exact h
/-- a call that returns -/
def x_cl {α β : Type} (o : Option (α × x_St)) (K : α → x_St → Option β) : Option β := match o with
  | none => none
  | some (r, z) => K r z
theorem x_cl_some {α β : Type} {o : Option (α × x_St)} {K : α → x_St → Option β} {b : β} (h : x_cl o K = some b) : ∃ r z, o = some (r, z) ∧ K r z = some b := by
  cases o with
  | none => cases h
  | some q => exact ⟨q.1, q.2, rfl, h⟩
/-- a call that returns or throws, in a method that may throw -/
def x_clx {α β : Type} (o : Option ((String ⊕ α) × x_St)) (K : α → x_St → Option ((String ⊕ β) × x_St)) : Option ((String ⊕ β) × x_St) := match o with
  | none => none
  | some (.inl E, z) => some (.inl E, z)
  | some (.inr r, z) => K r z
theorem x_clx_some {α β : Type} {o : Option ((String ⊕ α) × x_St)} {K : α → x_St → Option ((String ⊕ β) × x_St)} {b : (String ⊕ β) × x_St} (h : x_clx o K = some b) : ∃ q z, o = some (q, z) ∧ (∀ E, q = .inl E → b = (.inl E, z)) ∧ ∀ r, q = .inr r → K r z = some b := by
  cases o with
  | none => cases h
  | some q =>
    obtain ⟨a, z⟩ := q
    refine ⟨a, z, rfl, ?_, ?_⟩
    · intro E e; subst e; exact (Option.some.inj h).symm
    · intro r e; subst e; exact h
theorem x_ret {α : Type} {a b : α} {y z : x_St} (h : some (a, y) = some (b, z)) : a = b ∧ y = z := by
  cases h; exact ⟨rfl, rfl⟩
theorem x_put_self (z : x_St) (k j : Nat) (v : Int32) : (x_put z k j v).1 k = upd (z.1 k) j v := va_up_self _ _ _
theorem x_put_ne (z : x_St) {k i : Nat} (j : Nat) (v : Int32) (h : i ≠ k) : (x_put z k j v).1 i = z.1 i := va_up_ne _ _ h
theorem x_putL_self (z : x_St) (k j : Nat) (v : Int64) : (x_putL z k j v).2 k = vp_updL (z.2 k) j v := va_up_self _ _ _
theorem x_putL_ne (z : x_St) {k i : Nat} (j : Nat) (v : Int64) (h : i ≠ k) : (x_putL z k j v).2 i = z.2 i := va_up_ne _ _ h
/-! A WORLD: so many cells, each by its number, and others beside them -/
def w_Wd (cf : Nat → (Nat → Int32) → (Nat → Int64) → va_E) (tot : Nat) (ad : Nat → Nat) (rs : va_W) (z : x_St) : va_W := (List.range tot).map (fun k => (ad k, cf k (z.1 k) (z.2 k))) ++ rs
theorem w_get {cf : Nat → (Nat → Int32) → (Nat → Int64) → va_E} {tot : Nat} {ad : Nat → Nat} {rs : va_W} {z : x_St} {k : Nat} (hk : k < tot) : (w_Wd cf tot ad rs z)[k]? = some (ad k, cf k (z.1 k) (z.2 k)) := by
  unfold w_Wd
  rw [List.getElem?_append_left (by simpa using hk), List.getElem?_map, List.getElem?_range hk]
  rfl
theorem w_out {cf : Nat → (Nat → Int32) → (Nat → Int64) → va_E} {tot : Nat} {ad : Nat → Nat} {rs : va_W} {z : x_St} {k : Nat} (hk : ¬ k < tot) : (w_Wd cf tot ad rs z)[k]? = rs[k - tot]? := by
  unfold w_Wd
  rw [List.getElem?_append_right (by simpa using Nat.not_lt.mp hk)]
  simp
theorem w_len {cf : Nat → (Nat → Int32) → (Nat → Int64) → va_E} {tot : Nat} {ad : Nat → Nat} {rs : va_W} {z : x_St} : (w_Wd cf tot ad rs z).length = tot + rs.length := by
  unfold w_Wd
  simp
theorem w_set {cf : Nat → (Nat → Int32) → (Nat → Int64) → va_E} {tot : Nat} {ad : Nat → Nat} {rs : va_W} {k : Nat} {e : va_E} (z z' : x_St) (hk : k < tot) (he : e = cf k (z'.1 k) (z'.2 k)) (h1 : ∀ j, j ≠ k → z'.1 j = z.1 j) (h2 : ∀ j, j ≠ k → z'.2 j = z.2 j) : (w_Wd cf tot ad rs z).set k (ad k, e) = w_Wd cf tot ad rs z' := by
  apply List.ext_getElem?
  intro j
  by_cases hj : j = k
  · subst hj
    rw [List.getElem?_set_self (by rw [w_len]; omega), w_get hk, he]
  · rw [List.getElem?_set_ne (Ne.symm hj)]
    by_cases hb : j < tot
    · rw [w_get hb, w_get hb, h1 j hj, h2 j hj]
    · rw [w_out hb, w_out hb]
/-! THE SURROUNDINGS: class numbers, slots, array classes, addresses, how many blocks, where the old heap ends, the other cells -/
abbrev x_G : Type := (Nat → ClassId) × (Nat → Nat → Nat) × (Nat → ClassId) × (Nat → Nat) × Nat × Nat × va_W
abbrev x_D (G : x_G) : va_G := (G.1, G.2.1)
abbrev x_ca (G : x_G) : Nat → ClassId := G.2.2.1
abbrev x_ad (G : x_G) : Nat → Nat := G.2.2.2.1
abbrev x_n (G : x_G) : Nat := G.2.2.2.2.1
abbrev x_s0 (G : x_G) : Nat := G.2.2.2.2.2.1
abbrev x_rs (G : x_G) : va_W := G.2.2.2.2.2.2
def x_A (G : x_G) : Nat → Prop := fun q => x_s0 G ≤ q
end
section
theorem t_47 : Cond.laysFinal "ContentLibrary$Blocks" "ContentLibrary$Blocks" "count" "I" ∈ x_big := x_bt 47 (by decide +kernel) (by decide +kernel)
theorem t_49 : Cond.lays "ContentLibrary$Blocks" "ContentLibrary$Blocks" "fuse" "I" ∈ x_big := x_bt 49 (by decide +kernel) (by decide +kernel)
theorem t_51 : Cond.lays "ContentLibrary$Blocks" "ContentLibrary$Blocks" "cut" "Z" ∈ x_big := x_bt 51 (by decide +kernel) (by decide +kernel)
theorem t_53 : Cond.laysFinal "ContentLibrary$Blocks" "ContentLibrary$Blocks" "bytes" "[I" ∈ x_big := x_bt 53 (by decide +kernel) (by decide +kernel)
theorem t_55 : Cond.laysFinal "ContentLibrary$Blocks" "ContentLibrary$Blocks" "image" "[I" ∈ x_big := x_bt 55 (by decide +kernel) (by decide +kernel)
theorem t_72 : Cond.lays "ContentLibrary$Picture" "ContentLibrary$Picture" "there" "Z" ∈ x_big := x_bt 72 (by decide +kernel) (by decide +kernel)
theorem t_74 : Cond.laysFinal "ContentLibrary$Picture" "ContentLibrary$Picture" "message" "[I" ∈ x_big := x_bt 74 (by decide +kernel) (by decide +kernel)
theorem t_76 : Cond.lays "ContentLibrary$Picture" "ContentLibrary$Picture" "had" "I" ∈ x_big := x_bt 76 (by decide +kernel) (by decide +kernel)
theorem t_101 : Cond.lays "ContentLibrary$Kept" "ContentLibrary$Kept" "there" "Z" ∈ x_big := x_bt 101 (by decide +kernel) (by decide +kernel)
theorem t_103 : Cond.laysFinal "ContentLibrary$Kept" "ContentLibrary$Kept" "picture" "LContentLibrary$Picture;" ∈ x_big := x_bt 103 (by decide +kernel) (by decide +kernel)
theorem t_105 : Cond.laysFinal "ContentLibrary$Kept" "ContentLibrary$Kept" "digest" "[I" ∈ x_big := x_bt 105 (by decide +kernel) (by decide +kernel)
theorem t_107 : Cond.lays "ContentLibrary$Kept" "ContentLibrary$Kept" "print" "J" ∈ x_big := x_bt 107 (by decide +kernel) (by decide +kernel)
theorem t_109 : Cond.lays "ContentLibrary$Kept" "ContentLibrary$Kept" "recordBlocks" "I" ∈ x_big := x_bt 109 (by decide +kernel) (by decide +kernel)
theorem t_111 : Cond.laysFinal "ContentLibrary$Kept" "ContentLibrary$Kept" "places" "[I" ∈ x_big := x_bt 111 (by decide +kernel) (by decide +kernel)
theorem t_123 : Cond.laysFinal "ContentLibrary$Digester" "ContentLibrary$Digester" "padded" "[I" ∈ x_big := x_bt 123 (by decide +kernel) (by decide +kernel)
theorem t_125 : Cond.laysFinal "ContentLibrary$Digester" "ContentLibrary$Digester" "schedule" "[I" ∈ x_big := x_bt 125 (by decide +kernel) (by decide +kernel)
theorem t_127 : Cond.laysFinal "ContentLibrary$Digester" "ContentLibrary$Digester" "state" "[I" ∈ x_big := x_bt 127 (by decide +kernel) (by decide +kernel)
theorem t_139 : Cond.laysFinal "ContentLibrary" "ContentLibrary" "blocks" "LContentLibrary$Blocks;" ∈ x_big := x_bt 139 (by decide +kernel) (by decide +kernel)
theorem t_141 : Cond.laysFinal "ContentLibrary" "ContentLibrary" "used" "[Z" ∈ x_big := x_bt 141 (by decide +kernel) (by decide +kernel)
theorem t_143 : Cond.laysFinal "ContentLibrary" "ContentLibrary" "made" "[LContentLibrary$Picture;" ∈ x_big := x_bt 143 (by decide +kernel) (by decide +kernel)
theorem t_145 : Cond.laysFinal "ContentLibrary" "ContentLibrary" "kept" "[LContentLibrary$Kept;" ∈ x_big := x_bt 145 (by decide +kernel) (by decide +kernel)
theorem t_147 : Cond.laysFinal "ContentLibrary" "ContentLibrary" "digester" "LContentLibrary$Digester;" ∈ x_big := x_bt 147 (by decide +kernel) (by decide +kernel)
theorem t_149 : Cond.laysFinal "ContentLibrary" "ContentLibrary" "freshDigest" "[I" ∈ x_big := x_bt 149 (by decide +kernel) (by decide +kernel)
theorem t_151 : Cond.laysFinal "ContentLibrary" "ContentLibrary" "foundNumbers" "[I" ∈ x_big := x_bt 151 (by decide +kernel) (by decide +kernel)
theorem t_153 : Cond.laysFinal "ContentLibrary" "ContentLibrary" "foundBits" "[I" ∈ x_big := x_bt 153 (by decide +kernel) (by decide +kernel)
theorem t_155 : Cond.lays "ContentLibrary" "ContentLibrary" "foundCount" "I" ∈ x_big := x_bt 155 (by decide +kernel) (by decide +kernel)
theorem t_703 : Cond.lays "ContentLibraryModel" "ContentLibraryModel" "code" "I" ∈ x_big := x_bt 703 (by decide +kernel) (by decide +kernel)
theorem t_705 : Cond.laysFinal "ContentLibraryModel" "ContentLibraryModel" "blocks" "I" ∈ x_big := x_bt 705 (by decide +kernel) (by decide +kernel)
theorem t_707 : Cond.laysFinal "ContentLibraryModel" "ContentLibraryModel" "bytes" "[I" ∈ x_big := x_bt 707 (by decide +kernel) (by decide +kernel)
theorem t_709 : Cond.lays "ContentLibraryModel" "ContentLibraryModel" "cut" "Z" ∈ x_big := x_bt 709 (by decide +kernel) (by decide +kernel)
theorem t_711 : Cond.lays "ContentLibraryModel" "ContentLibraryModel" "left" "I" ∈ x_big := x_bt 711 (by decide +kernel) (by decide +kernel)
theorem t_713 : Cond.laysFinal "ContentLibraryModel" "ContentLibraryModel" "made" "[Z" ∈ x_big := x_bt 713 (by decide +kernel) (by decide +kernel)
theorem t_715 : Cond.laysFinal "ContentLibraryModel" "ContentLibraryModel" "widths" "[I" ∈ x_big := x_bt 715 (by decide +kernel) (by decide +kernel)
theorem t_717 : Cond.laysFinal "ContentLibraryModel" "ContentLibraryModel" "heights" "[I" ∈ x_big := x_bt 717 (by decide +kernel) (by decide +kernel)
theorem t_719 : Cond.laysFinal "ContentLibraryModel" "ContentLibraryModel" "many" "[I" ∈ x_big := x_bt 719 (by decide +kernel) (by decide +kernel)
theorem t_721 : Cond.laysFinal "ContentLibraryModel" "ContentLibraryModel" "samples" "[I" ∈ x_big := x_bt 721 (by decide +kernel) (by decide +kernel)
theorem t_723 : Cond.laysFinal "ContentLibraryModel" "ContentLibraryModel" "there" "[Z" ∈ x_big := x_bt 723 (by decide +kernel) (by decide +kernel)
theorem t_725 : Cond.laysFinal "ContentLibraryModel" "ContentLibraryModel" "wide" "[I" ∈ x_big := x_bt 725 (by decide +kernel) (by decide +kernel)
theorem t_727 : Cond.laysFinal "ContentLibraryModel" "ContentLibraryModel" "high" "[I" ∈ x_big := x_bt 727 (by decide +kernel) (by decide +kernel)
theorem t_729 : Cond.laysFinal "ContentLibraryModel" "ContentLibraryModel" "kept" "[I" ∈ x_big := x_bt 729 (by decide +kernel) (by decide +kernel)
theorem t_731 : Cond.laysFinal "ContentLibraryModel" "ContentLibraryModel" "markAt" "[I" ∈ x_big := x_bt 731 (by decide +kernel) (by decide +kernel)
theorem t_733 : Cond.laysFinal "ContentLibraryModel" "ContentLibraryModel" "records" "[I" ∈ x_big := x_bt 733 (by decide +kernel) (by decide +kernel)
theorem t_735 : Cond.laysFinal "ContentLibraryModel" "ContentLibraryModel" "recordAt" "[I" ∈ x_big := x_bt 735 (by decide +kernel) (by decide +kernel)
theorem t_737 : Cond.laysFinal "ContentLibraryModel" "ContentLibraryModel" "prints" "[J" ∈ x_big := x_bt 737 (by decide +kernel) (by decide +kernel)
theorem t_739 : Cond.laysFinal "ContentLibraryModel" "ContentLibraryModel" "owner" "[I" ∈ x_big := x_bt 739 (by decide +kernel) (by decide +kernel)
theorem t_741 : Cond.lays "ContentLibraryModel" "ContentLibraryModel" "foundMany" "I" ∈ x_big := x_bt 741 (by decide +kernel) (by decide +kernel)
theorem t_743 : Cond.laysFinal "ContentLibraryModel" "ContentLibraryModel" "foundNumber" "[I" ∈ x_big := x_bt 743 (by decide +kernel) (by decide +kernel)
theorem t_745 : Cond.laysFinal "ContentLibraryModel" "ContentLibraryModel" "foundBits" "[I" ∈ x_big := x_bt 745 (by decide +kernel) (by decide +kernel)
theorem t_747 : Cond.laysFinal "ContentLibraryModel" "ContentLibraryModel" "rounds" "[I" ∈ x_big := x_bt 747 (by decide +kernel) (by decide +kernel)
theorem t_749 : Cond.laysFinal "ContentLibraryModel" "ContentLibraryModel" "roots" "[I" ∈ x_big := x_bt 749 (by decide +kernel) (by decide +kernel)
theorem t_751 : Cond.laysFinal "ContentLibraryModel" "ContentLibraryModel" "words" "[I" ∈ x_big := x_bt 751 (by decide +kernel) (by decide +kernel)
theorem t_753 : Cond.laysFinal "ContentLibraryModel" "ContentLibraryModel" "state" "[I" ∈ x_big := x_bt 753 (by decide +kernel) (by decide +kernel)
theorem t_755 : Cond.laysFinal "ContentLibraryModel" "ContentLibraryModel" "message" "[I" ∈ x_big := x_bt 755 (by decide +kernel) (by decide +kernel)
theorem t_757 : Cond.lays "ContentLibraryModel" "ContentLibraryModel" "length" "I" ∈ x_big := x_bt 757 (by decide +kernel) (by decide +kernel)
theorem t_759 : Cond.laysFinal "ContentLibraryModel" "ContentLibraryModel" "first" "[I" ∈ x_big := x_bt 759 (by decide +kernel) (by decide +kernel)
theorem t_761 : Cond.laysFinal "ContentLibraryModel" "ContentLibraryModel" "chosen" "[I" ∈ x_big := x_bt 761 (by decide +kernel) (by decide +kernel)
theorem t_763 : Cond.laysFinal "ContentLibraryModel" "ContentLibraryModel" "chosenDigest" "[I" ∈ x_big := x_bt 763 (by decide +kernel) (by decide +kernel)
def x_TX : u_T := fun k => match k with
  | 0 => ("ContentLibrary", "blocks", "LContentLibrary$Blocks;", true)
  | 1 => ("ContentLibrary", "used", "[Z", true)
  | 2 => ("ContentLibrary", "made", "[LContentLibrary$Picture;", true)
  | 3 => ("ContentLibrary", "kept", "[LContentLibrary$Kept;", true)
  | 4 => ("ContentLibrary", "digester", "LContentLibrary$Digester;", true)
  | 5 => ("ContentLibrary", "freshDigest", "[I", true)
  | 6 => ("ContentLibrary", "foundNumbers", "[I", true)
  | 7 => ("ContentLibrary", "foundBits", "[I", true)
  | _ => ("ContentLibrary", "foundCount", "I", false)
def x_tyX : Nat → FieldType := fun k => match k with
  | 0 => .object "ContentLibrary$Blocks"
  | 1 => .array .boolean
  | 2 => .array (.object "ContentLibrary$Picture")
  | 3 => .array (.object "ContentLibrary$Kept")
  | 4 => .object "ContentLibrary$Digester"
  | 5 => .array .int
  | 6 => .array .int
  | 7 => .array .int
  | _ => .int
theorem x_nmX : ∀ a, a < 9 → ∀ b, b < 9 → a ≠ b → (x_TX a).2.1 ≠ (x_TX b).2.1 := by decide +kernel
theorem x_tyX_ok : ∀ k, k < 9 → parseFieldDescriptor (x_TX k).2.2.1 = some (x_tyX k) := by decide +kernel
theorem x_inX : ∀ w ∈ u_ws "ContentLibrary" x_TX 9, w ∈ x_big := List.forall_mem_map.mpr (fun k hk => by
  have hk := List.mem_range.mp hk
  match k, hk with
  | 0, _ => exact t_139
  | 1, _ => exact t_141
  | 2, _ => exact t_143
  | 3, _ => exact t_145
  | 4, _ => exact t_147
  | 5, _ => exact t_149
  | 6, _ => exact t_151
  | 7, _ => exact t_153
  | 8, _ => exact t_155
  | k + 9, hk => exact absurd hk (by omega))
def x_TB : u_T := fun k => match k with
  | 0 => ("ContentLibrary$Blocks", "count", "I", true)
  | 1 => ("ContentLibrary$Blocks", "fuse", "I", false)
  | 2 => ("ContentLibrary$Blocks", "cut", "Z", false)
  | 3 => ("ContentLibrary$Blocks", "bytes", "[I", true)
  | _ => ("ContentLibrary$Blocks", "image", "[I", true)
def x_tyB : Nat → FieldType := fun k => match k with
  | 0 => .int
  | 1 => .int
  | 2 => .boolean
  | 3 => .array .int
  | _ => .array .int
theorem x_nmB : ∀ a, a < 5 → ∀ b, b < 5 → a ≠ b → (x_TB a).2.1 ≠ (x_TB b).2.1 := by decide +kernel
theorem x_tyB_ok : ∀ k, k < 5 → parseFieldDescriptor (x_TB k).2.2.1 = some (x_tyB k) := by decide +kernel
theorem x_inB : ∀ w ∈ u_ws "ContentLibrary$Blocks" x_TB 5, w ∈ x_big := List.forall_mem_map.mpr (fun k hk => by
  have hk := List.mem_range.mp hk
  match k, hk with
  | 0, _ => exact t_47
  | 1, _ => exact t_49
  | 2, _ => exact t_51
  | 3, _ => exact t_53
  | 4, _ => exact t_55
  | k + 5, hk => exact absurd hk (by omega))
def x_TP : u_T := fun k => match k with
  | 0 => ("ContentLibrary$Picture", "there", "Z", false)
  | 1 => ("ContentLibrary$Picture", "message", "[I", true)
  | _ => ("ContentLibrary$Picture", "had", "I", false)
def x_tyP : Nat → FieldType := fun k => match k with
  | 0 => .boolean
  | 1 => .array .int
  | _ => .int
theorem x_nmP : ∀ a, a < 3 → ∀ b, b < 3 → a ≠ b → (x_TP a).2.1 ≠ (x_TP b).2.1 := by decide +kernel
theorem x_tyP_ok : ∀ k, k < 3 → parseFieldDescriptor (x_TP k).2.2.1 = some (x_tyP k) := by decide +kernel
theorem x_inP : ∀ w ∈ u_ws "ContentLibrary$Picture" x_TP 3, w ∈ x_big := List.forall_mem_map.mpr (fun k hk => by
  have hk := List.mem_range.mp hk
  match k, hk with
  | 0, _ => exact t_72
  | 1, _ => exact t_74
  | 2, _ => exact t_76
  | k + 3, hk => exact absurd hk (by omega))
def x_TK : u_T := fun k => match k with
  | 0 => ("ContentLibrary$Kept", "there", "Z", false)
  | 1 => ("ContentLibrary$Kept", "picture", "LContentLibrary$Picture;", true)
  | 2 => ("ContentLibrary$Kept", "digest", "[I", true)
  | 3 => ("ContentLibrary$Kept", "print", "J", false)
  | 4 => ("ContentLibrary$Kept", "recordBlocks", "I", false)
  | _ => ("ContentLibrary$Kept", "places", "[I", true)
def x_tyK : Nat → FieldType := fun k => match k with
  | 0 => .boolean
  | 1 => .object "ContentLibrary$Picture"
  | 2 => .array .int
  | 3 => .long
  | 4 => .int
  | _ => .array .int
theorem x_nmK : ∀ a, a < 6 → ∀ b, b < 6 → a ≠ b → (x_TK a).2.1 ≠ (x_TK b).2.1 := by decide +kernel
theorem x_tyK_ok : ∀ k, k < 6 → parseFieldDescriptor (x_TK k).2.2.1 = some (x_tyK k) := by decide +kernel
theorem x_inK : ∀ w ∈ u_ws "ContentLibrary$Kept" x_TK 6, w ∈ x_big := List.forall_mem_map.mpr (fun k hk => by
  have hk := List.mem_range.mp hk
  match k, hk with
  | 0, _ => exact t_101
  | 1, _ => exact t_103
  | 2, _ => exact t_105
  | 3, _ => exact t_107
  | 4, _ => exact t_109
  | 5, _ => exact t_111
  | k + 6, hk => exact absurd hk (by omega))
def x_TD : u_T := fun k => match k with
  | 0 => ("ContentLibrary$Digester", "padded", "[I", true)
  | 1 => ("ContentLibrary$Digester", "schedule", "[I", true)
  | _ => ("ContentLibrary$Digester", "state", "[I", true)
def x_tyD : Nat → FieldType := fun k => match k with
  | 0 => .array .int
  | 1 => .array .int
  | _ => .array .int
theorem x_nmD : ∀ a, a < 3 → ∀ b, b < 3 → a ≠ b → (x_TD a).2.1 ≠ (x_TD b).2.1 := by decide +kernel
theorem x_tyD_ok : ∀ k, k < 3 → parseFieldDescriptor (x_TD k).2.2.1 = some (x_tyD k) := by decide +kernel
theorem x_inD : ∀ w ∈ u_ws "ContentLibrary$Digester" x_TD 3, w ∈ x_big := List.forall_mem_map.mpr (fun k hk => by
  have hk := List.mem_range.mp hk
  match k, hk with
  | 0, _ => exact t_123
  | 1, _ => exact t_125
  | 2, _ => exact t_127
  | k + 3, hk => exact absurd hk (by omega))
def x_TM : u_T := fun k => match k with
  | 0 => ("ContentLibraryModel", "code", "I", false)
  | 1 => ("ContentLibraryModel", "blocks", "I", true)
  | 2 => ("ContentLibraryModel", "bytes", "[I", true)
  | 3 => ("ContentLibraryModel", "cut", "Z", false)
  | 4 => ("ContentLibraryModel", "left", "I", false)
  | 5 => ("ContentLibraryModel", "made", "[Z", true)
  | 6 => ("ContentLibraryModel", "widths", "[I", true)
  | 7 => ("ContentLibraryModel", "heights", "[I", true)
  | 8 => ("ContentLibraryModel", "many", "[I", true)
  | 9 => ("ContentLibraryModel", "samples", "[I", true)
  | 10 => ("ContentLibraryModel", "there", "[Z", true)
  | 11 => ("ContentLibraryModel", "wide", "[I", true)
  | 12 => ("ContentLibraryModel", "high", "[I", true)
  | 13 => ("ContentLibraryModel", "kept", "[I", true)
  | 14 => ("ContentLibraryModel", "markAt", "[I", true)
  | 15 => ("ContentLibraryModel", "records", "[I", true)
  | 16 => ("ContentLibraryModel", "recordAt", "[I", true)
  | 17 => ("ContentLibraryModel", "prints", "[J", true)
  | 18 => ("ContentLibraryModel", "owner", "[I", true)
  | 19 => ("ContentLibraryModel", "foundMany", "I", false)
  | 20 => ("ContentLibraryModel", "foundNumber", "[I", true)
  | 21 => ("ContentLibraryModel", "foundBits", "[I", true)
  | 22 => ("ContentLibraryModel", "rounds", "[I", true)
  | 23 => ("ContentLibraryModel", "roots", "[I", true)
  | 24 => ("ContentLibraryModel", "words", "[I", true)
  | 25 => ("ContentLibraryModel", "state", "[I", true)
  | 26 => ("ContentLibraryModel", "message", "[I", true)
  | 27 => ("ContentLibraryModel", "length", "I", false)
  | 28 => ("ContentLibraryModel", "first", "[I", true)
  | 29 => ("ContentLibraryModel", "chosen", "[I", true)
  | _ => ("ContentLibraryModel", "chosenDigest", "[I", true)
def x_tyM : Nat → FieldType := fun k => match k with
  | 0 => .int
  | 1 => .int
  | 2 => .array .int
  | 3 => .boolean
  | 4 => .int
  | 5 => .array .boolean
  | 6 => .array .int
  | 7 => .array .int
  | 8 => .array .int
  | 9 => .array .int
  | 10 => .array .boolean
  | 11 => .array .int
  | 12 => .array .int
  | 13 => .array .int
  | 14 => .array .int
  | 15 => .array .int
  | 16 => .array .int
  | 17 => .array .long
  | 18 => .array .int
  | 19 => .int
  | 20 => .array .int
  | 21 => .array .int
  | 22 => .array .int
  | 23 => .array .int
  | 24 => .array .int
  | 25 => .array .int
  | 26 => .array .int
  | 27 => .int
  | 28 => .array .int
  | 29 => .array .int
  | _ => .array .int
theorem x_nmM : ∀ a, a < 31 → ∀ b, b < 31 → a ≠ b → (x_TM a).2.1 ≠ (x_TM b).2.1 := by decide +kernel
theorem x_tyM_ok : ∀ k, k < 31 → parseFieldDescriptor (x_TM k).2.2.1 = some (x_tyM k) := by decide +kernel
theorem x_inM : ∀ w ∈ u_ws "ContentLibraryModel" x_TM 31, w ∈ x_big := List.forall_mem_map.mpr (fun k hk => by
  have hk := List.mem_range.mp hk
  match k, hk with
  | 0, _ => exact t_703
  | 1, _ => exact t_705
  | 2, _ => exact t_707
  | 3, _ => exact t_709
  | 4, _ => exact t_711
  | 5, _ => exact t_713
  | 6, _ => exact t_715
  | 7, _ => exact t_717
  | 8, _ => exact t_719
  | 9, _ => exact t_721
  | 10, _ => exact t_723
  | 11, _ => exact t_725
  | 12, _ => exact t_727
  | 13, _ => exact t_729
  | 14, _ => exact t_731
  | 15, _ => exact t_733
  | 16, _ => exact t_735
  | 17, _ => exact t_737
  | 18, _ => exact t_739
  | 19, _ => exact t_741
  | 20, _ => exact t_743
  | 21, _ => exact t_745
  | 22, _ => exact t_747
  | 23, _ => exact t_749
  | 24, _ => exact t_751
  | 25, _ => exact t_753
  | 26, _ => exact t_755
  | 27, _ => exact t_757
  | 28, _ => exact t_759
  | 29, _ => exact t_761
  | 30, _ => exact t_763
  | k + 31, hk => exact absurd hk (by omega))
abbrev vwCl : List vw_C := [("ContentLibrary", x_TX, 9), ("ContentLibrary$Blocks", x_TB, 5), ("ContentLibrary$Picture", x_TP, 3), ("ContentLibrary$Kept", x_TK, 6), ("ContentLibrary$Digester", x_TD, 3), ("ContentLibraryModel", x_TM, 31)]
end
section
/-! THE COMPONENT'S CELLS, by number, in the order in which they are made: 0 the library, 1 its blocks, 2 bytes, 3 image, 4 used, 5 made, 6 + 2 i a picture being made, 7 + 2 i its message, 22 kept, 23 + 5 i what is kept, then its picture, message, digest, places; 103 the digester, 104 padded, 105 schedule, 106 state, 107 the fresh digest, 108 and 109 what was found -/
def x_isP (k : Nat) : Bool := (decide (6 ≤ k) && decide (k < 22) && decide (k % 2 = 0)) || (decide (23 ≤ k) && decide (k < 103) && decide (k % 5 = 4))
def x_isK (k : Nat) : Bool := decide (23 ≤ k) && decide (k < 103) && decide (k % 5 = 3)
def x_isA (k : Nat) : Bool := decide (k < 110) && !(decide (k = 0) || decide (k = 1) || decide (k = 4) || decide (k = 5) || decide (k = 22) || decide (k = 103) || x_isP k || x_isK k)
def x_ln (n k : Nat) : Nat := if k = 2 then n * 64 else if k = 3 then 64 else if k < 22 then 66 else if k < 103 then (if k % 5 = 0 then 66 else if k % 5 = 1 then 8 else 3) else if k = 104 then 128 else if k = 105 then 64 else if k = 106 then 8 else if k = 107 then 8 else 16
theorem x_isP_iff {k : Nat} : x_isP k = true ↔ (6 ≤ k ∧ k < 22 ∧ k % 2 = 0) ∨ (23 ≤ k ∧ k < 103 ∧ k % 5 = 4) := by
  simp [x_isP, and_assoc]
theorem x_isK_iff {k : Nat} : x_isK k = true ↔ 23 ≤ k ∧ k < 103 ∧ k % 5 = 3 := by
  simp [x_isK, and_assoc]
theorem x_isA_iff {k : Nat} : x_isA k = true ↔ k < 110 ∧ k ≠ 0 ∧ k ≠ 1 ∧ k ≠ 4 ∧ k ≠ 5 ∧ k ≠ 22 ∧ k ≠ 103 ∧ x_isP k = false ∧ x_isK k = false := by
  simp [x_isA, and_assoc]
theorem x_isP_f {k : Nat} : x_isP k = false ↔ ¬ ((6 ≤ k ∧ k < 22 ∧ k % 2 = 0) ∨ (23 ≤ k ∧ k < 103 ∧ k % 5 = 4)) := by
  rw [← x_isP_iff]; cases x_isP k <;> simp
theorem x_isK_f {k : Nat} : x_isK k = false ↔ ¬ (23 ≤ k ∧ k < 103 ∧ k % 5 = 3) := by
  rw [← x_isK_iff]; cases x_isK k <;> simp
theorem x_P_A {k : Nat} (h : x_isP k = true) : x_isA (k + 1) = true := by
  rw [x_isP_iff] at h
  rw [x_isA_iff, x_isP_f, x_isK_f]; omega
theorem x_K_P {k : Nat} (h : x_isK k = true) : x_isP (k + 1) = true := by
  rw [x_isK_iff] at h
  rw [x_isP_iff]; omega
theorem x_K_A3 {k : Nat} (h : x_isK k = true) : x_isA (k + 3) = true := by
  rw [x_isK_iff] at h
  rw [x_isA_iff, x_isP_f, x_isK_f]; omega
theorem x_K_A4 {k : Nat} (h : x_isK k = true) : x_isA (k + 4) = true := by
  rw [x_isK_iff] at h
  rw [x_isA_iff, x_isP_f, x_isK_f]; omega
theorem x_in_lt {i : Int32} {n : Nat} (h : vp_in i n) : i.toNatClampNeg < n := Nat.not_le.mp fun q => h (Or.inr q)
theorem x_el_P {i : Int32} (h : vp_in i 8) : x_isP (6 + 2 * i.toNatClampNeg) = true := by
  have := x_in_lt h
  rw [x_isP_iff]; omega
theorem x_el_K {i : Int32} (h : vp_in i 16) : x_isK (23 + 5 * i.toNatClampNeg) = true := by
  have := x_in_lt h
  rw [x_isK_iff]; omega
def x_cell (G : x_G) (k : Nat) (f : Nat → Int32) (g : Nat → Int64) : va_E :=
  if k = 0 then .inr (0, [.ref (x_ad G 1), .ref (x_ad G 4), .ref (x_ad G 5), .ref (x_ad G 22), .ref (x_ad G 103), .ref (x_ad G 107), .ref (x_ad G 108), .ref (x_ad G 109), .int (f 8)])
  else if k = 1 then .inr (1, [.int (f 0), .int (f 1), .int (f 2), .ref (x_ad G 2), .ref (x_ad G 3)])
  else if k = 4 then .inl (x_ca G 1, x_n G, .inl f)
  else if k = 5 then .inl (x_ca G 2, 8, .inr (.inr (.inr (.inr (fun j => some (x_ad G (6 + 2 * j)))))))
  else if k = 22 then .inl (x_ca G 3, 16, .inr (.inr (.inr (.inr (fun j => some (x_ad G (23 + 5 * j)))))))
  else if k = 103 then .inr (4, [.ref (x_ad G 104), .ref (x_ad G 105), .ref (x_ad G 106)])
  else if x_isP k = true then .inr (2, [.int (f 0), .ref (x_ad G (k + 1)), .int (f 2)])
  else if x_isK k = true then .inr (3, [.int (f 0), .ref (x_ad G (k + 1)), .ref (x_ad G (k + 3)), .long (g 3), .int (f 4), .ref (x_ad G (k + 4))])
  else .inl (x_ca G 0, x_ln (x_n G) k, .inl f)
def x_Wd (G : x_G) (z : x_St) : va_W := w_Wd (x_cell G) 110 (x_ad G) (x_rs G) z
theorem x_cell_P (G : x_G) {k : Nat} (h : x_isP k = true) (f : Nat → Int32) (g : Nat → Int64) : x_cell G k f g = .inr (2, [.int (f 0), .ref (x_ad G (k + 1)), .int (f 2)]) := by
  have h2 := x_isP_iff.mp h
  unfold x_cell
  rw [if_neg (by omega), if_neg (by omega), if_neg (by omega), if_neg (by omega), if_neg (by omega), if_neg (by omega), if_pos h]
theorem x_cell_K (G : x_G) {k : Nat} (h : x_isK k = true) (f : Nat → Int32) (g : Nat → Int64) : x_cell G k f g = .inr (3, [.int (f 0), .ref (x_ad G (k + 1)), .ref (x_ad G (k + 3)), .long (g 3), .int (f 4), .ref (x_ad G (k + 4))]) := by
  have h2 := x_isK_iff.mp h
  have h3 : ¬ x_isP k = true := by rw [x_isP_iff]; omega
  unfold x_cell
  rw [if_neg (by omega), if_neg (by omega), if_neg (by omega), if_neg (by omega), if_neg (by omega), if_neg (by omega), if_neg h3, if_pos h]
theorem x_cell_A (G : x_G) {k : Nat} (h : x_isA k = true) (f : Nat → Int32) (g : Nat → Int64) : x_cell G k f g = .inl (x_ca G 0, x_ln (x_n G) k, .inl f) := by
  obtain ⟨h0, h1, h2, h3, h4, h5, h6, h7, h8⟩ := x_isA_iff.mp h
  unfold x_cell
  rw [if_neg h1, if_neg h2, if_neg h3, if_neg h4, if_neg h5, if_neg h6, if_neg (by rw [h7]; decide), if_neg (by rw [h8]; decide)]
theorem x_lt_P {k : Nat} (h : x_isP k = true) : k < 110 := by have := x_isP_iff.mp h; omega
theorem x_lt_K {k : Nat} (h : x_isK k = true) : k < 110 := by have := x_isK_iff.mp h; omega
theorem x_lt_A {k : Nat} (h : x_isA k = true) : k < 110 := (x_isA_iff.mp h).1
theorem x_lk_X (G : x_G) (z : x_St) : (x_Wd G z)[0]? = some (x_ad G 0, .inr (0, [.ref (x_ad G 1), .ref (x_ad G 4), .ref (x_ad G 5), .ref (x_ad G 22), .ref (x_ad G 103), .ref (x_ad G 107), .ref (x_ad G 108), .ref (x_ad G 109), .int (z.1 0 8)])) := w_get (by decide)
theorem x_lk_B (G : x_G) (z : x_St) : (x_Wd G z)[1]? = some (x_ad G 1, .inr (1, [.int (z.1 1 0), .int (z.1 1 1), .int (z.1 1 2), .ref (x_ad G 2), .ref (x_ad G 3)])) := w_get (by decide)
theorem x_lk_D (G : x_G) (z : x_St) : (x_Wd G z)[103]? = some (x_ad G 103, .inr (4, [.ref (x_ad G 104), .ref (x_ad G 105), .ref (x_ad G 106)])) := w_get (by decide)
theorem x_lk_Z (G : x_G) (z : x_St) : (x_Wd G z)[4]? = some (x_ad G 4, .inl (x_ca G 1, x_n G, .inl (z.1 4))) := w_get (by decide)
theorem x_lk_made (G : x_G) (z : x_St) : (x_Wd G z)[5]? = some (x_ad G 5, .inl (x_ca G 2, 8, .inr (.inr (.inr (.inr (fun j => some (x_ad G (6 + 2 * j)))))))) := w_get (by decide)
theorem x_lk_kept (G : x_G) (z : x_St) : (x_Wd G z)[22]? = some (x_ad G 22, .inl (x_ca G 3, 16, .inr (.inr (.inr (.inr (fun j => some (x_ad G (23 + 5 * j)))))))) := w_get (by decide)
theorem x_lk_P (G : x_G) (z : x_St) {k : Nat} (h : x_isP k = true) : (x_Wd G z)[k]? = some (x_ad G k, .inr (2, [.int (z.1 k 0), .ref (x_ad G (k + 1)), .int (z.1 k 2)])) := by
  rw [← x_cell_P G h (z.1 k) (z.2 k)]; exact w_get (x_lt_P h)
theorem x_lk_K (G : x_G) (z : x_St) {k : Nat} (h : x_isK k = true) : (x_Wd G z)[k]? = some (x_ad G k, .inr (3, [.int (z.1 k 0), .ref (x_ad G (k + 1)), .ref (x_ad G (k + 3)), .long (z.2 k 3), .int (z.1 k 4), .ref (x_ad G (k + 4))])) := by
  rw [← x_cell_K G h (z.1 k) (z.2 k)]; exact w_get (x_lt_K h)
theorem x_lk_A (G : x_G) (z : x_St) {k : Nat} (h : x_isA k = true) : (x_Wd G z)[k]? = some (x_ad G k, .inl (x_ca G 0, x_ln (x_n G) k, .inl (z.1 k))) := by
  rw [← x_cell_A G h (z.1 k) (z.2 k)]; exact w_get (x_lt_A h)
theorem x_st (G : x_G) (z : x_St) {k j : Nat} {v : Int32} {e : va_E} (hk : k < 110) (he : e = x_cell G k (upd (z.1 k) j v) (z.2 k)) : (x_Wd G z).set k (x_ad G k, e) = x_Wd G (x_put z k j v) :=
  w_set z (x_put z k j v) hk (by rw [x_put_self]; exact he) (fun i hi => x_put_ne z j v hi) (fun _ _ => rfl)
theorem x_stL (G : x_G) (z : x_St) {k j : Nat} {v : Int64} {e : va_E} (hk : k < 110) (he : e = x_cell G k (z.1 k) (vp_updL (z.2 k) j v)) : (x_Wd G z).set k (x_ad G k, e) = x_Wd G (x_putL z k j v) :=
  w_set z (x_putL z k j v) hk (by rw [x_putL_self]; exact he) (fun _ _ => rfl) (fun i hi => x_putL_ne z j v hi)
theorem x_st_X8 (G : x_G) (z : x_St) {v : Int32} : (x_Wd G z).set 0 (x_ad G 0, .inr (0, ([.ref (x_ad G 1), .ref (x_ad G 4), .ref (x_ad G 5), .ref (x_ad G 22), .ref (x_ad G 103), .ref (x_ad G 107), .ref (x_ad G 108), .ref (x_ad G 109), .int (z.1 0 8)] : List Value).set 8 (.int v))) = x_Wd G (x_put z 0 8 v) := x_st G z (by decide) rfl
theorem x_st_B1 (G : x_G) (z : x_St) {v : Int32} : (x_Wd G z).set 1 (x_ad G 1, .inr (1, ([.int (z.1 1 0), .int (z.1 1 1), .int (z.1 1 2), .ref (x_ad G 2), .ref (x_ad G 3)] : List Value).set 1 (.int v))) = x_Wd G (x_put z 1 1 v) := x_st G z (by decide) rfl
theorem x_st_B2 (G : x_G) (z : x_St) {v : Int32} : (x_Wd G z).set 1 (x_ad G 1, .inr (1, ([.int (z.1 1 0), .int (z.1 1 1), .int (z.1 1 2), .ref (x_ad G 2), .ref (x_ad G 3)] : List Value).set 2 (.int v))) = x_Wd G (x_put z 1 2 v) := x_st G z (by decide) rfl
theorem x_st_P0 (G : x_G) (z : x_St) {k : Nat} (h : x_isP k = true) {v : Int32} : (x_Wd G z).set k (x_ad G k, .inr (2, ([.int (z.1 k 0), .ref (x_ad G (k + 1)), .int (z.1 k 2)] : List Value).set 0 (.int v))) = x_Wd G (x_put z k 0 v) := x_st G z (x_lt_P h) (by rw [x_cell_P G h]; rfl)
theorem x_st_P2 (G : x_G) (z : x_St) {k : Nat} (h : x_isP k = true) {v : Int32} : (x_Wd G z).set k (x_ad G k, .inr (2, ([.int (z.1 k 0), .ref (x_ad G (k + 1)), .int (z.1 k 2)] : List Value).set 2 (.int v))) = x_Wd G (x_put z k 2 v) := x_st G z (x_lt_P h) (by rw [x_cell_P G h]; rfl)
theorem x_st_K0 (G : x_G) (z : x_St) {k : Nat} (h : x_isK k = true) {v : Int32} : (x_Wd G z).set k (x_ad G k, .inr (3, ([.int (z.1 k 0), .ref (x_ad G (k + 1)), .ref (x_ad G (k + 3)), .long (z.2 k 3), .int (z.1 k 4), .ref (x_ad G (k + 4))] : List Value).set 0 (.int v))) = x_Wd G (x_put z k 0 v) := x_st G z (x_lt_K h) (by rw [x_cell_K G h]; rfl)
theorem x_st_K4 (G : x_G) (z : x_St) {k : Nat} (h : x_isK k = true) {v : Int32} : (x_Wd G z).set k (x_ad G k, .inr (3, ([.int (z.1 k 0), .ref (x_ad G (k + 1)), .ref (x_ad G (k + 3)), .long (z.2 k 3), .int (z.1 k 4), .ref (x_ad G (k + 4))] : List Value).set 4 (.int v))) = x_Wd G (x_put z k 4 v) := x_st G z (x_lt_K h) (by rw [x_cell_K G h]; rfl)
theorem x_st_K3 (G : x_G) (z : x_St) {k : Nat} (h : x_isK k = true) {v : Int64} : (x_Wd G z).set k (x_ad G k, .inr (3, ([.int (z.1 k 0), .ref (x_ad G (k + 1)), .ref (x_ad G (k + 3)), .long (z.2 k 3), .int (z.1 k 4), .ref (x_ad G (k + 4))] : List Value).set 3 (.long v))) = x_Wd G (x_putL z k 3 v) := x_stL G z (x_lt_K h) (by rw [x_cell_K G h]; rfl)
theorem x_st_Z (G : x_G) (z : x_St) {i : Nat} {v : Int32} : (x_Wd G z).set 4 (x_ad G 4, .inl (x_ca G 1, x_n G, .inl (upd (z.1 4) i v))) = x_Wd G (x_put z 4 i v) := x_st G z (by decide) rfl
theorem x_st_A (G : x_G) (z : x_St) {k : Nat} (h : x_isA k = true) {i : Nat} {v : Int32} : (x_Wd G z).set k (x_ad G k, .inl (x_ca G 0, x_ln (x_n G) k, .inl (upd (z.1 k) i v))) = x_Wd G (x_put z k i v) := x_st G z (x_lt_A h) (by rw [x_cell_A G h])
theorem x_cpT_A (G : x_G) (z : x_St) (f : Nat → Int32) (sp dp w : Nat) {k2 : Nat} (h : x_isA k2 = true) : (x_Wd G z).set k2 (x_ad G k2, .inl (x_ca G 0, x_ln (x_n G) k2, .inl (va_cpy f (z.1 k2) sp dp w))) = x_Wd G (x_cpyT z f sp k2 dp w) :=
  w_set z (x_cpyT z f sp k2 dp w) (x_lt_A h) (by rw [show (x_cpyT z f sp k2 dp w).1 k2 = va_cpy f (z.1 k2) sp dp w from va_up_self _ _ _]; exact (x_cell_A G h _ _).symm) (fun i hi => va_up_ne _ _ hi) (fun _ _ => rfl)
theorem x_cp_A (G : x_G) (z : x_St) (k1 sp dp w : Nat) {k2 : Nat} (h : x_isA k2 = true) : (x_Wd G z).set k2 (x_ad G k2, .inl (x_ca G 0, x_ln (x_n G) k2, .inl (va_cpy (z.1 k1) (z.1 k2) sp dp w))) = x_Wd G (x_cpy z k1 sp k2 dp w) := x_cpT_A G z (z.1 k1) sp dp w h
def x_ty (G : x_G) : List (ClassId × FieldType) := [(x_ca G 0, .int), (x_ca G 1, .boolean), (x_ca G 2, .object "ContentLibrary$Picture"), (x_ca G 3, .object "ContentLibrary$Kept"), (x_ca G 4, .long)]
/-- what the start gives, and nobody writes -/
def x_GV (G : x_G) (U : State) (H : Heap) : Prop := True
/-- the world: the cells as z says -/
def x_PW (G : x_G) (z : x_St) (U : State) : Prop := x_s0 G ≤ U.heap.size ∧ va_P (x_D G) vwCl (x_Wd G z) U.heap ∧ va_D (x_A G) (x_Wd G z) ∧ va_K (x_D G) vwCl (x_ty G) U ∧ x_GV G U U.heap
theorem x_pw {G : x_G} {z : x_St} {s t : State} {H : Heap} {locs : List Loc} (hP : va_P (x_D G) vwCl (x_Wd G z) H) (hD : va_D (x_A G) (x_Wd G z)) (hK : va_K (x_D G) vwCl (x_ty G) s) (hG : x_GV G s s.heap) (hS : va_S (x_A G) s.heap H locs) (hz : x_s0 G ≤ s.heap.size) (ht : t.heap = H) (hvm : s.vm.Alike t.vm) : x_PW G z t := by
  subst ht
  exact ⟨Nat.le_trans hz hS.1, hP, hD, va_K.moved hvm hK, trivial⟩
theorem x_back {G : x_G} {z : x_St} {t : State} {H : Heap} (h : x_PW G z t) (ht : t.heap = H) : va_P (x_D G) vwCl (x_Wd G z) H ∧ va_D (x_A G) (x_Wd G z) := by
  subst ht
  exact ⟨h.2.1, h.2.2.1⟩
theorem x_blind (G : x_G) (z : x_St) (as : List Value) : FrameBlind (va_Pc as (x_PW G z)) := by
  intro a U g mk q
  obtain ⟨q0, q1, q2, q3, q4, q5⟩ := q
  exact ⟨q0, q1, q2, q3, va_K.moved (u := U) (U := U.calling g mk a) (Vm.Alike.refl U.vm) q4, trivial⟩
def x_Ctx (G : x_G) (p : Program) (s : State) (m : MethodId) (args : Array Value) (meth : Method) (c : Code) (cc : ByteArray) (own : String) (nL : Nat) (ret : Option FieldType) : Prop :=
  p.tables.exec = Jvm.exec ∧ c.code = cc ∧ meth.sig.returnType = ret ∧ c.maxLocals = nL ∧ s.vm.findClass own = some m.cls ∧ (∀ w ∈ x_big, w.before args s = true) ∧ meth.locks = false ∧ x_s0 G ≤ s.heap.size ∧ va_K (x_D G) vwCl (x_ty G) s ∧ x_GV G s s.heap
theorem x_pr {α β : Type} {a c : α} {b d : β} (h : (a, b) = (c, d)) : a = c ∧ b = d := by cases h; exact ⟨rfl, rfl⟩
end
section
theorem t_3 : Cond.initialized "ContentLibrary$Blocks" ∈ x_big := x_bt 3 (by decide +kernel) (by decide +kernel)
theorem t_41 : Cond.fieldLink "ContentLibrary$Blocks" 15 "ContentLibrary$Blocks" "fuse" "I" ∈ x_big := x_bt 41 (by decide +kernel) (by decide +kernel)
theorem t_43 : Cond.fieldLink "ContentLibrary$Blocks" 18 "ContentLibrary$Blocks" "cut" "Z" ∈ x_big := x_bt 43 (by decide +kernel) (by decide +kernel)
theorem t_45 : Cond.fieldLink "ContentLibrary$Blocks" 22 "ContentLibrary$Blocks" "bytes" "[I" ∈ x_big := x_bt 45 (by decide +kernel) (by decide +kernel)
theorem t_174 : Cond.methodLink "ContentLibrary$Blocks" 29 (⟨"ContentLibrary$Blocks", "get", "(II)I"⟩ : MethodName) ∈ x_big := x_bt 174 (by decide +kernel) (by decide +kernel)
theorem t_175 : Cond.instanceMethod (⟨"ContentLibrary$Blocks", "get", "(II)I"⟩ : MethodName) ∈ x_big := x_bt 175 (by decide +kernel) (by decide +kernel)
theorem t_176 : Cond.selects "ContentLibrary$Blocks" (⟨"ContentLibrary$Blocks", "get", "(II)I"⟩ : MethodName) (⟨"ContentLibrary$Blocks", "get", "(II)I"⟩ : MethodName) ∈ x_big := x_bt 176 (by decide +kernel) (by decide +kernel)
theorem t_177 : Cond.code (⟨"ContentLibrary$Blocks", "get", "(II)I"⟩ : MethodName) prog_2_method_3_code 3 (some .int) ∈ x_big := x_bt 177 (by decide +kernel) (by decide +kernel)
theorem t_517 : Cond.methodLink "ContentLibrary$Blocks" 90 (⟨"ContentLibrary$Blocks", "put", "(III)Z"⟩ : MethodName) ∈ x_big := x_bt 517 (by decide +kernel) (by decide +kernel)
theorem t_519 : Cond.instanceMethod (⟨"ContentLibrary$Blocks", "put", "(III)Z"⟩ : MethodName) ∈ x_big := x_bt 519 (by decide +kernel) (by decide +kernel)
theorem t_520 : Cond.code (⟨"ContentLibrary$Blocks", "put", "(III)Z"⟩ : MethodName) prog_2_method_18_code 4 (some .boolean) ∈ x_big := x_bt 520 (by decide +kernel) (by decide +kernel)
theorem sel_ContentLibrary_Blocks_put : Cond.selects "ContentLibrary$Blocks" (⟨"ContentLibrary$Blocks", "put", "(III)Z"⟩ : MethodName) (⟨"ContentLibrary$Blocks", "put", "(III)Z"⟩ : MethodName) ∈ x_big := x_bs 21 (by decide +kernel) (by decide +kernel)
theorem d_B_kindOf_0 : decode prog_2_method_2_code 0 = .ok (.iload_n 0, 1) := by decide +kernel
theorem d_B_kindOf_1 : decode prog_2_method_2_code 1 = .ok (.ifCond .ne 7, 3) := by decide +kernel
theorem d_B_kindOf_4 : decode prog_2_method_2_code 4 = .ok (.iconst 1, 1) := by decide +kernel
theorem d_B_kindOf_5 : decode prog_2_method_2_code 5 = .ok (.goto 4, 3) := by decide +kernel
theorem d_B_kindOf_9 : decode prog_2_method_2_code 9 = .ok (.ireturn, 1) := by decide +kernel
theorem d_B_kindOf_8 : decode prog_2_method_2_code 8 = .ok (.iconst 2, 1) := by decide +kernel
theorem d_B_get_0 : decode prog_2_method_3_code 0 = .ok (.aload_n 0, 1) := by decide +kernel
theorem d_B_get_1 : decode prog_2_method_3_code 1 = .ok (.getfield 22, 3) := by decide +kernel
theorem d_B_get_4 : decode prog_2_method_3_code 4 = .ok (.iload_n 1, 1) := by decide +kernel
theorem d_B_get_5 : decode prog_2_method_3_code 5 = .ok (.bipush 64, 2) := by decide +kernel
theorem d_B_get_7 : decode prog_2_method_3_code 7 = .ok (.imul, 1) := by decide +kernel
theorem d_B_get_8 : decode prog_2_method_3_code 8 = .ok (.iload_n 2, 1) := by decide +kernel
theorem d_B_get_9 : decode prog_2_method_3_code 9 = .ok (.iadd, 1) := by decide +kernel
theorem d_B_get_10 : decode prog_2_method_3_code 10 = .ok (.iaload, 1) := by decide +kernel
theorem d_B_get_11 : decode prog_2_method_3_code 11 = .ok (.ireturn, 1) := by decide +kernel
theorem d_B_isBlank_0 : decode prog_2_method_5_code 0 = .ok (.iconst 0, 1) := by decide +kernel
theorem d_B_isBlank_1 : decode prog_2_method_5_code 1 = .ok (.istore_n 2, 1) := by decide +kernel
theorem d_B_isBlank_2 : decode prog_2_method_5_code 2 = .ok (.iload_n 2, 1) := by decide +kernel
theorem d_B_isBlank_3 : decode prog_2_method_5_code 3 = .ok (.bipush 64, 2) := by decide +kernel
theorem d_B_isBlank_5 : decode prog_2_method_5_code 5 = .ok (.if_icmp .ge 20, 3) := by decide +kernel
theorem d_B_isBlank_8 : decode prog_2_method_5_code 8 = .ok (.aload_n 0, 1) := by decide +kernel
theorem d_B_isBlank_9 : decode prog_2_method_5_code 9 = .ok (.iload_n 1, 1) := by decide +kernel
theorem d_B_isBlank_10 : decode prog_2_method_5_code 10 = .ok (.iload_n 2, 1) := by decide +kernel
theorem d_B_isBlank_11 : decode prog_2_method_5_code 11 = .ok (.invokevirtual 29, 3) := by decide +kernel
theorem d_B_isBlank_14 : decode prog_2_method_5_code 14 = .ok (.ifCond .eq 5, 3) := by decide +kernel
theorem d_B_isBlank_17 : decode prog_2_method_5_code 17 = .ok (.iconst 0, 1) := by decide +kernel
theorem d_B_isBlank_18 : decode prog_2_method_5_code 18 = .ok (.ireturn, 1) := by decide +kernel
theorem d_B_isBlank_19 : decode prog_2_method_5_code 19 = .ok (.iinc 2 1, 3) := by decide +kernel
theorem d_B_isBlank_22 : decode prog_2_method_5_code 22 = .ok (.goto (-20), 3) := by decide +kernel
theorem d_B_isBlank_25 : decode prog_2_method_5_code 25 = .ok (.iconst 1, 1) := by decide +kernel
theorem d_B_isBlank_26 : decode prog_2_method_5_code 26 = .ok (.ireturn, 1) := by decide +kernel
theorem d_B_turn_0 : decode prog_2_method_4_code 0 = .ok (.aload_n 0, 1) := by decide +kernel
theorem d_B_turn_1 : decode prog_2_method_4_code 1 = .ok (.getfield 22, 3) := by decide +kernel
theorem d_B_turn_4 : decode prog_2_method_4_code 4 = .ok (.iload_n 1, 1) := by decide +kernel
theorem d_B_turn_5 : decode prog_2_method_4_code 5 = .ok (.bipush 64, 2) := by decide +kernel
theorem d_B_turn_7 : decode prog_2_method_4_code 7 = .ok (.imul, 1) := by decide +kernel
theorem d_B_turn_8 : decode prog_2_method_4_code 8 = .ok (.iload_n 2, 1) := by decide +kernel
theorem d_B_turn_9 : decode prog_2_method_4_code 9 = .ok (.iadd, 1) := by decide +kernel
theorem d_B_turn_10 : decode prog_2_method_4_code 10 = .ok (.dup2, 1) := by decide +kernel
theorem d_B_turn_11 : decode prog_2_method_4_code 11 = .ok (.iaload, 1) := by decide +kernel
theorem d_B_turn_12 : decode prog_2_method_4_code 12 = .ok (.iload_n 3, 1) := by decide +kernel
theorem d_B_turn_13 : decode prog_2_method_4_code 13 = .ok (.ixor, 1) := by decide +kernel
theorem d_B_turn_14 : decode prog_2_method_4_code 14 = .ok (.iastore, 1) := by decide +kernel
theorem d_B_turn_15 : decode prog_2_method_4_code 15 = .ok (.aload_n 0, 1) := by decide +kernel
theorem d_B_turn_16 : decode prog_2_method_4_code 16 = .ok (.iload_n 1, 1) := by decide +kernel
theorem d_B_turn_17 : decode prog_2_method_4_code 17 = .ok (.iload_n 2, 1) := by decide +kernel
theorem d_B_turn_18 : decode prog_2_method_4_code 18 = .ok (.invokevirtual 29, 3) := by decide +kernel
theorem d_B_turn_21 : decode prog_2_method_4_code 21 = .ok (.ireturn, 1) := by decide +kernel
theorem d_B_byteOfSum_0 : decode prog_2_method_9_code 0 = .ok (.iload_n 0, 1) := by decide +kernel
theorem d_B_byteOfSum_1 : decode prog_2_method_9_code 1 = .ok (.bipush 8, 2) := by decide +kernel
theorem d_B_byteOfSum_3 : decode prog_2_method_9_code 3 = .ok (.iload_n 1, 1) := by decide +kernel
theorem d_B_byteOfSum_4 : decode prog_2_method_9_code 4 = .ok (.imul, 1) := by decide +kernel
theorem d_B_byteOfSum_5 : decode prog_2_method_9_code 5 = .ok (.iushr, 1) := by decide +kernel
theorem d_B_byteOfSum_6 : decode prog_2_method_9_code 6 = .ok (.sipush 255, 3) := by decide +kernel
theorem d_B_byteOfSum_9 : decode prog_2_method_9_code 9 = .ok (.iand, 1) := by decide +kernel
theorem d_B_byteOfSum_10 : decode prog_2_method_9_code 10 = .ok (.ireturn, 1) := by decide +kernel
theorem d_B_put_0 : decode prog_2_method_18_code 0 = .ok (.aload_n 0, 1) := by decide +kernel
theorem d_B_put_1 : decode prog_2_method_18_code 1 = .ok (.getfield 15, 3) := by decide +kernel
theorem d_B_put_4 : decode prog_2_method_18_code 4 = .ok (.ifCond .ne 10, 3) := by decide +kernel
theorem d_B_put_7 : decode prog_2_method_18_code 7 = .ok (.aload_n 0, 1) := by decide +kernel
theorem d_B_put_8 : decode prog_2_method_18_code 8 = .ok (.iconst 1, 1) := by decide +kernel
theorem d_B_put_9 : decode prog_2_method_18_code 9 = .ok (.putfield 18, 3) := by decide +kernel
theorem d_B_put_12 : decode prog_2_method_18_code 12 = .ok (.iconst 0, 1) := by decide +kernel
theorem d_B_put_13 : decode prog_2_method_18_code 13 = .ok (.ireturn, 1) := by decide +kernel
theorem d_B_put_14 : decode prog_2_method_18_code 14 = .ok (.aload_n 0, 1) := by decide +kernel
theorem d_B_put_15 : decode prog_2_method_18_code 15 = .ok (.getfield 15, 3) := by decide +kernel
theorem d_B_put_18 : decode prog_2_method_18_code 18 = .ok (.iconst (-1), 1) := by decide +kernel
theorem d_B_put_19 : decode prog_2_method_18_code 19 = .ok (.if_icmp .eq 13, 3) := by decide +kernel
theorem d_B_put_22 : decode prog_2_method_18_code 22 = .ok (.aload_n 0, 1) := by decide +kernel
theorem d_B_put_23 : decode prog_2_method_18_code 23 = .ok (.dup, 1) := by decide +kernel
theorem d_B_put_24 : decode prog_2_method_18_code 24 = .ok (.getfield 15, 3) := by decide +kernel
theorem d_B_put_27 : decode prog_2_method_18_code 27 = .ok (.iconst 1, 1) := by decide +kernel
theorem d_B_put_28 : decode prog_2_method_18_code 28 = .ok (.isub, 1) := by decide +kernel
theorem d_B_put_29 : decode prog_2_method_18_code 29 = .ok (.putfield 15, 3) := by decide +kernel
theorem d_B_put_32 : decode prog_2_method_18_code 32 = .ok (.aload_n 0, 1) := by decide +kernel
theorem d_B_put_33 : decode prog_2_method_18_code 33 = .ok (.getfield 22, 3) := by decide +kernel
theorem d_B_put_36 : decode prog_2_method_18_code 36 = .ok (.iload_n 1, 1) := by decide +kernel
theorem d_B_put_37 : decode prog_2_method_18_code 37 = .ok (.bipush 64, 2) := by decide +kernel
theorem d_B_put_39 : decode prog_2_method_18_code 39 = .ok (.imul, 1) := by decide +kernel
theorem d_B_put_40 : decode prog_2_method_18_code 40 = .ok (.iload_n 2, 1) := by decide +kernel
theorem d_B_put_41 : decode prog_2_method_18_code 41 = .ok (.iadd, 1) := by decide +kernel
theorem d_B_put_42 : decode prog_2_method_18_code 42 = .ok (.iload_n 3, 1) := by decide +kernel
theorem d_B_put_43 : decode prog_2_method_18_code 43 = .ok (.iastore, 1) := by decide +kernel
theorem d_B_put_44 : decode prog_2_method_18_code 44 = .ok (.iconst 1, 1) := by decide +kernel
theorem d_B_put_45 : decode prog_2_method_18_code 45 = .ok (.ireturn, 1) := by decide +kernel
theorem d_B_wipe_0 : decode prog_2_method_17_code 0 = .ok (.aload_n 0, 1) := by decide +kernel
theorem d_B_wipe_1 : decode prog_2_method_17_code 1 = .ok (.iload_n 1, 1) := by decide +kernel
theorem d_B_wipe_2 : decode prog_2_method_17_code 2 = .ok (.iconst 4, 1) := by decide +kernel
theorem d_B_wipe_3 : decode prog_2_method_17_code 3 = .ok (.iconst 0, 1) := by decide +kernel
theorem d_B_wipe_4 : decode prog_2_method_17_code 4 = .ok (.invokevirtual 90, 3) := by decide +kernel
theorem d_B_wipe_7 : decode prog_2_method_17_code 7 = .ok (.istore_n 2, 1) := by decide +kernel
theorem d_B_wipe_8 : decode prog_2_method_17_code 8 = .ok (.iconst 0, 1) := by decide +kernel
theorem d_B_wipe_9 : decode prog_2_method_17_code 9 = .ok (.istore_n 3, 1) := by decide +kernel
theorem d_B_wipe_10 : decode prog_2_method_17_code 10 = .ok (.iload_n 3, 1) := by decide +kernel
theorem d_B_wipe_11 : decode prog_2_method_17_code 11 = .ok (.bipush 64, 2) := by decide +kernel
theorem d_B_wipe_13 : decode prog_2_method_17_code 13 = .ok (.if_icmp .ge 26, 3) := by decide +kernel
theorem d_B_wipe_16 : decode prog_2_method_17_code 16 = .ok (.iload_n 2, 1) := by decide +kernel
theorem d_B_wipe_17 : decode prog_2_method_17_code 17 = .ok (.ifCond .eq 22, 3) := by decide +kernel
theorem d_B_wipe_20 : decode prog_2_method_17_code 20 = .ok (.iload_n 3, 1) := by decide +kernel
theorem d_B_wipe_21 : decode prog_2_method_17_code 21 = .ok (.iconst 4, 1) := by decide +kernel
theorem d_B_wipe_22 : decode prog_2_method_17_code 22 = .ok (.if_icmp .eq 11, 3) := by decide +kernel
theorem d_B_wipe_25 : decode prog_2_method_17_code 25 = .ok (.aload_n 0, 1) := by decide +kernel
theorem d_B_wipe_26 : decode prog_2_method_17_code 26 = .ok (.iload_n 1, 1) := by decide +kernel
theorem d_B_wipe_27 : decode prog_2_method_17_code 27 = .ok (.iload_n 3, 1) := by decide +kernel
theorem d_B_wipe_28 : decode prog_2_method_17_code 28 = .ok (.iconst 0, 1) := by decide +kernel
theorem d_B_wipe_29 : decode prog_2_method_17_code 29 = .ok (.invokevirtual 90, 3) := by decide +kernel
theorem d_B_wipe_32 : decode prog_2_method_17_code 32 = .ok (.istore_n 2, 1) := by decide +kernel
theorem d_B_wipe_33 : decode prog_2_method_17_code 33 = .ok (.iinc 3 1, 3) := by decide +kernel
theorem d_B_wipe_36 : decode prog_2_method_17_code 36 = .ok (.goto (-26), 3) := by decide +kernel
theorem d_B_wipe_39 : decode prog_2_method_17_code 39 = .ok (.iload_n 2, 1) := by decide +kernel
theorem d_B_wipe_40 : decode prog_2_method_17_code 40 = .ok (.ireturn, 1) := by decide +kernel
def f_B_kindOf (xn : Nat) (p1 : Int32) (z0 : x_St) : Option (Int32 × x_St) :=
  (if p1 = 0 then
  (some ((1 : Int32), z0))
  else
  (some ((2 : Int32), z0)))
def f_B_get (xn : Nat) (p1 : Int32) (p2 : Int32) (z0 : x_St) : Option (Int32 × x_St) :=
  (x_ck ((p1 * (64 : Int32)) + p2) (x_ln xn 2)
  (some ((z0.1 2 (((p1 * (64 : Int32)) + p2)).toNatClampNeg), z0)))
def f_B_isBlank_2 (xn : Nat) : Nat → Int32 → Int32 → x_St → Option (Int32 × x_St)
  | 0, _, _, _ => none
  | fu + 1, a1, a2, z0 =>
    (if (64 : Int32) ≤ a2 then
    (some ((1 : Int32), z0))
    else
    (x_cl (f_B_get xn a1 a2 z0) (fun r2 z2 =>
    (if r2 = 0 then
    (f_B_isBlank_2 xn fu a1 (a2 + (1 : Int32)) z2)
    else
    (some ((0 : Int32), z2))))))
def f_B_isBlank (xn : Nat) (p1 : Int32) (z0 : x_St) : Option (Int32 × x_St) :=
  (f_B_isBlank_2 xn x_FU p1 (0 : Int32) z0)
def f_B_turn (xn : Nat) (p1 : Int32) (p2 : Int32) (p3 : Int32) (z0 : x_St) : Option (Int32 × x_St) :=
  (x_ck ((p1 * (64 : Int32)) + p2) (x_ln xn 2)
  (x_ck ((p1 * (64 : Int32)) + p2) (x_ln xn 2)
  (x_cl (f_B_get xn p1 p2 (x_put z0 2 (((p1 * (64 : Int32)) + p2)).toNatClampNeg ((z0.1 2 (((p1 * (64 : Int32)) + p2)).toNatClampNeg) ^^^ p3))) (fun r3 z3 =>
  (some (r3, z3))))))
def f_B_byteOfSum (xn : Nat) (p1 : Int32) (p2 : Int32) (z0 : x_St) : Option (Int32 × x_St) :=
  (some (((x_ushr p1 ((8 : Int32) * p2)) &&& (255 : Int32)), z0))
def f_B_put_32 (xn : Nat) (a1 : Int32) (a2 : Int32) (a3 : Int32) (z0 : x_St) : Option (Int32 × x_St) :=
  (x_ck ((a1 * (64 : Int32)) + a2) (x_ln xn 2)
  (some ((1 : Int32), (x_put z0 2 (((a1 * (64 : Int32)) + a2)).toNatClampNeg a3))))
def f_B_put (xn : Nat) (p1 : Int32) (p2 : Int32) (p3 : Int32) (z0 : x_St) : Option (Int32 × x_St) :=
  (if (z0.1 1 1) = 0 then
  (some ((0 : Int32), (x_put z0 1 2 (1 : Int32))))
  else
  (if (z0.1 1 1) = (-1 : Int32) then
  (f_B_put_32 xn p1 p2 p3 z0)
  else
  (f_B_put_32 xn p1 p2 p3 (x_put z0 1 1 ((z0.1 1 1) - (1 : Int32))))))
def f_B_wipe_39 (xn : Nat) (a2 : Int32) (z0 : x_St) : Option (Int32 × x_St) :=
  (x_ckb a2
  (some (a2, z0)))
def f_B_wipe_10 (xn : Nat) : Nat → Int32 → Int32 → Int32 → x_St → Option (Int32 × x_St)
  | 0, _, _, _, _ => none
  | fu + 1, a1, a2, a3, z0 =>
    (if (64 : Int32) ≤ a3 then
    (f_B_wipe_39 xn a2 z0)
    else
    (if a2 = 0 then
    (f_B_wipe_39 xn a2 z0)
    else
    (if a3 = (4 : Int32) then
    (f_B_wipe_10 xn fu a1 a2 (a3 + (1 : Int32)) z0)
    else
    (x_cl (f_B_put xn a1 a3 (0 : Int32) z0) (fun r4 z4 =>
    (f_B_wipe_10 xn fu a1 r4 (a3 + (1 : Int32)) z4))))))
def f_B_wipe (xn : Nat) (p1 : Int32) (z0 : x_St) : Option (Int32 × x_St) :=
  (x_cl (f_B_put xn p1 (4 : Int32) (0 : Int32) z0) (fun r6 z6 =>
  (f_B_wipe_10 xn x_FU p1 r6 (0 : Int32) z6)))
abbrev rm_B_kindOf : Room := { frames := 0, cells := 0, slots := 0, locals := 0 }
set_option maxHeartbeats 4000000 in
set_option maxRecDepth 100000 in
theorem c_B_kindOf (l : Launch) (G : x_G) (p1 : Int32) (z0 : x_St) (r : Int32) (z9 : x_St) (hf : f_B_kindOf (x_n G) p1 z0 = some (r, z9)) : Met l (⟨"ContentLibrary$Blocks", "kindOf", "(I)I"⟩ : MethodName) (x_ws (⟨"ContentLibrary$Blocks", "kindOf", "(I)I"⟩ : MethodName) prog_2_method_2_code 1 (some .int)) rm_B_kindOf (va_Pc [.int p1] (x_PW G z0)) (va_Qi (fun a u => r = a ∧ z9 = u) (x_PW G) (x_A G)) 0 0 (x_A G) := by
  refine Met.ofW (cc := prog_2_method_2_code) (maxL := 1) (ret := (some .int)) (by decide) rfl ?_
  intro p e s m args below meth c s₁ B hml hv
  obtain ⟨rfl, hz, hP, hD, hK, hG⟩ := hv
  have C0 : x_Ctx G p s m _ meth c prog_2_method_2_code "ContentLibrary$Blocks" 1 (some .int) := ⟨B.exec, B.bytes, B.returns, hml, findClass_of_methodNamed B.named, fun w h => atoms_spec (ws := (x_ws (⟨"ContentLibrary$Blocks", "kindOf", "(I)I"⟩ : MethodName) prog_2_method_2_code 1 (some .int))) B.pre w (List.mem_cons_of_mem _ h), B.notSynchronized, hz, hK, hG⟩
  obtain ⟨hx, hb, hr, hml, hown, hts, hlocks, hz, hK, hG⟩ := id C0
  have hS : va_S (x_A G) s.heap s.heap [] := va_S.rf
  have hl := lv_entry ([.int p1]) (n := 1) (Nat.le_of_ble_eq_true rfl)
  rw [lg_entry_eq]
  generalize (lg_sl ([.int p1]) ++ List.replicate (1 - (lg_sl ([.int p1])).length) Slot.unset).toArray = ls at hl ⊢
  have hl : lv_has ls 1 [(0, .int p1)] := hl
  rw [f_B_kindOf] at hf
  refine lv_iload_n hx hb d_B_kindOf_0 rfl (lv_at hl 0 rfl) ?_
  refine lv_if_ne (tgt := 8) hx hb d_B_kindOf_1 (by decide) (fun hc1 => ?_) (fun hc1 => ?_)
  · have hf := x_br_f hf hc1
    refine lv_iconst (v := (2 : Int32)) hx hb d_B_kindOf_8 (by decide) ?_
    obtain ⟨rfl, rfl⟩ := x_ret hf
    exact W.iret (v := (2 : Int32)) hx hb hr (fun t ht hW => ⟨⟨_, _, rfl, ⟨rfl, rfl⟩, x_pw hP hD hK hG hS hz ht hW.alike⟩, hS.F ht⟩) hS.2.2 d_B_kindOf_9
  · have hf := x_br_t hf hc1
    refine lv_iconst (v := (1 : Int32)) hx hb d_B_kindOf_4 (by decide) ?_
    refine lv_goto (tgt := 9) hx hb d_B_kindOf_5 (by decide) ?_
    obtain ⟨rfl, rfl⟩ := x_ret hf
    exact W.iret (v := (1 : Int32)) hx hb hr (fun t ht hW => ⟨⟨_, _, rfl, ⟨rfl, rfl⟩, x_pw hP hD hK hG hS hz ht hW.alike⟩, hS.F ht⟩) hS.2.2 d_B_kindOf_9
abbrev rm_B_get : Room := { frames := 0, cells := 0, slots := 0, locals := 0 }
set_option maxHeartbeats 4000000 in
set_option maxRecDepth 100000 in
theorem c_B_get (l : Launch) (G : x_G) (p1 : Int32) (p2 : Int32) (z0 : x_St) (r : Int32) (z9 : x_St) (hf : f_B_get (x_n G) p1 p2 z0 = some (r, z9)) : Met l (⟨"ContentLibrary$Blocks", "get", "(II)I"⟩ : MethodName) (x_ws (⟨"ContentLibrary$Blocks", "get", "(II)I"⟩ : MethodName) prog_2_method_3_code 3 (some .int)) rm_B_get (va_Pc [.ref (x_ad G 1), .int p1, .int p2] (x_PW G z0)) (va_Qi (fun a u => r = a ∧ z9 = u) (x_PW G) (x_A G)) 0 0 (x_A G) := by
  refine Met.ofW (cc := prog_2_method_3_code) (maxL := 3) (ret := (some .int)) (by decide) rfl ?_
  intro p e s m args below meth c s₁ B hml hv
  obtain ⟨rfl, hz, hP, hD, hK, hG⟩ := hv
  have C0 : x_Ctx G p s m _ meth c prog_2_method_3_code "ContentLibrary$Blocks" 3 (some .int) := ⟨B.exec, B.bytes, B.returns, hml, findClass_of_methodNamed B.named, fun w h => atoms_spec (ws := (x_ws (⟨"ContentLibrary$Blocks", "get", "(II)I"⟩ : MethodName) prog_2_method_3_code 3 (some .int))) B.pre w (List.mem_cons_of_mem _ h), B.notSynchronized, hz, hK, hG⟩
  obtain ⟨hx, hb, hr, hml, hown, hts, hlocks, hz, hK, hG⟩ := id C0
  have hS : va_S (x_A G) s.heap s.heap [] := va_S.rf
  have hl := lv_entry ([.ref (x_ad G 1), .int p1, .int p2]) (n := 3) (Nat.le_of_ble_eq_true rfl)
  rw [lg_entry_eq]
  generalize (lg_sl ([.ref (x_ad G 1), .int p1, .int p2]) ++ List.replicate (3 - (lg_sl ([.ref (x_ad G 1), .int p1, .int p2])).length) Slot.unset).toArray = ls at hl ⊢
  have hl : lv_has ls 3 [(0, .ref (x_ad G 1)), (1, .int p1), (2, .int p2)] := hl
  rw [f_B_get] at hf
  refine lv_aload_n hx hb d_B_get_0 rfl (lv_at hl 0 rfl) ?_
  refine va_get (D := x_D G) (ci := 1) (v := .ref (x_ad G 2)) (C := "ContentLibrary$Blocks") (T := x_TB) (N := 5) hx hb hts x_inB hown hK hP 1 (x_lk_B G _) rfl 3 (by decide) (hts _ t_45) (fun _ h9 => h9) rfl d_B_get_1 ?_
  refine lv_iload_n hx hb d_B_get_4 rfl (lv_at hl 1 rfl) ?_
  refine lv_bipush (v := (64 : Int32)) hx hb d_B_get_5 (by decide) ?_
  refine lv_imul hx hb d_B_get_7 ?_
  refine lv_iload_n hx hb d_B_get_8 rfl (lv_at hl 2 rfl) ?_
  refine lv_iadd hx hb d_B_get_9 ?_
  obtain ⟨hin1, hf⟩ := x_ck_some hf
  refine va_iald hx hb hK hP 2 0 (x_lk_A G _ rfl) rfl hin1 d_B_get_10 ?_
  obtain ⟨rfl, rfl⟩ := x_ret hf
  exact W.iret (v := (z0.1 2 (((p1 * (64 : Int32)) + p2)).toNatClampNeg)) hx hb hr (fun t ht hW => ⟨⟨_, _, rfl, ⟨rfl, rfl⟩, x_pw hP hD hK hG hS hz ht hW.alike⟩, hS.F ht⟩) hS.2.2 d_B_get_11
abbrev rm_B_isBlank : Room := { frames := 1, cells := 0, slots := 0, locals := 22 }
set_option maxHeartbeats 4000000 in
set_option maxRecDepth 100000 in
theorem w_B_isBlank_2 (l : Launch) (G : x_G) {p : Program} {e : Env} {s : State} {m : MethodId} {args : Array Value} {below : List Frame} {meth : Method} {c : Code} (C0 : x_Ctx G p s m args meth c prog_2_method_5_code "ContentLibrary$Blocks" 3 (some .boolean)) (r : Int32) (z9 : x_St) : ∀ (fu : Nat), ∀ (a1 : Int32) (a2 : Int32) (z0 : x_St), f_B_isBlank_2 (x_n G) fu a1 a2 z0 = some (r, z9) → ∀ (H : Heap) (locs : List Loc) (ls : Array Slot), va_P (x_D G) vwCl (x_Wd G z0) H → va_D (x_A G) (x_Wd G z0) → va_S (x_A G) s.heap H locs → lv_has ls 3 [(0, .ref (x_ad G 1)), (1, .int a1), (2, .int a2)] → W p l e rm_B_isBlank s m args below meth c H locs 0 0 (MQ below (va_Qi (fun a u => r = a ∧ z9 = u) (x_PW G) (x_A G)) args s 0 0 (x_A G)) (F0 m 2 ls []) := by
  obtain ⟨hx, hb, hr, hml, hown, hts, hlocks, hz, hK, hG⟩ := id C0
  intro fu
  induction fu with
  | zero =>
    intro a1 a2 z0 hf
    rw [f_B_isBlank_2] at hf
    cases hf
  | succ fu ih =>
    intro a1 a2 z0 hf H locs ls hP hD hS hl
    rw [f_B_isBlank_2] at hf
    refine lv_iload_n hx hb d_B_isBlank_2 rfl (lv_at hl 2 rfl) ?_
    refine lv_bipush (v := (64 : Int32)) hx hb d_B_isBlank_3 (by decide) ?_
    refine lv_icmp_ge (tgt := 25) hx hb d_B_isBlank_5 (by decide) (fun hc1 => ?_) (fun hc1 => ?_)
    · have hf := x_br_t hf hc1
      refine lv_iconst (v := (1 : Int32)) hx hb d_B_isBlank_25 (by decide) ?_
      obtain ⟨rfl, rfl⟩ := x_ret hf
      exact W.zret (v := (1 : Int32)) hx hb hr rfl (fun t ht hW => ⟨⟨_, _, rfl, ⟨rfl, rfl⟩, x_pw hP hD hK hG hS hz ht hW.alike⟩, hS.F ht⟩) hS.2.2 d_B_isBlank_26
    · have hf := x_br_f hf hc1
      refine lv_aload_n hx hb d_B_isBlank_8 rfl (lv_at hl 0 rfl) ?_
      refine lv_iload_n hx hb d_B_isBlank_9 rfl (lv_at hl 1 rfl) ?_
      refine lv_iload_n hx hb d_B_isBlank_10 rfl (lv_at hl 2 rfl) ?_
      obtain ⟨r2, z2, hk3, hf⟩ := x_cl_some hf
      refine va_calli (va_runV (As := [.int a1, .int a2]) (rest := []) ⟨hx, hb, hml, hown, hts⟩ (c_B_get l G a1 a2 z0 r2 z2 hk3) (cwV 2 hts (x_gV t_174 t_175 t_176 t_3 t_177) rfl rfl rfl (by decide +kernel) ⟨Nat.le_of_ble_eq_true rfl, Nat.le_of_ble_eq_true rfl⟩) ⟨x_blind _ _ _, va_recv hK hP (ci := 1) (q0 := 1) rfl (x_lk_B G _), fun U hU hW => ⟨rfl, x_pw hP hD hK hG hS hz hU hW.alike⟩⟩ rfl rfl hl.1 rfl (lv_room (Nat.le_of_ble_eq_true rfl)) d_B_isBlank_11 ⟨Nat.le_of_ble_eq_true rfl, Nat.le_of_ble_eq_true rfl⟩) hS (fun q _ h => h) (fun q h => h) (fun ra u t H locs ht hvm hw hB hz1 hk1 hS => ?_)
      obtain ⟨rfl, rfl⟩ := hw
      obtain ⟨hP, hD⟩ := x_back hB ht
      refine lv_if_eq (tgt := 19) hx hb d_B_isBlank_14 (by decide) (fun hc4 => ?_) (fun hc4 => ?_)
      · have hf := x_br_t hf hc4
        refine lv_iinc (v := (a2 + (1 : Int32))) (lv' := [(2, .int (a2 + (1 : Int32))), (0, .ref (x_ad G 1)), (1, .int a1)]) hx hb d_B_isBlank_19 hl (k := 2) rfl rfl (by decide) rfl (fun ls hl => ?_)
        refine lv_goto (tgt := 2) hx hb d_B_isBlank_22 (by decide) ?_
        exact ih a1 (a2 + (1 : Int32)) z2 hf _ _ _ hP hD hS (lv_sub hl [1, 2, 0] rfl)
      · have hf := x_br_f hf hc4
        refine lv_iconst (v := (0 : Int32)) hx hb d_B_isBlank_17 (by decide) ?_
        obtain ⟨rfl, rfl⟩ := x_ret hf
        exact W.zret (v := (0 : Int32)) hx hb hr rfl (fun t ht hW => ⟨⟨_, _, rfl, ⟨rfl, rfl⟩, x_pw hP hD hK hG hS hz ht hW.alike⟩, hS.F ht⟩) hS.2.2 d_B_isBlank_18
set_option maxHeartbeats 4000000 in
set_option maxRecDepth 100000 in
theorem c_B_isBlank (l : Launch) (G : x_G) (p1 : Int32) (z0 : x_St) (r : Int32) (z9 : x_St) (hf : f_B_isBlank (x_n G) p1 z0 = some (r, z9)) : Met l (⟨"ContentLibrary$Blocks", "isBlank", "(I)Z"⟩ : MethodName) (x_ws (⟨"ContentLibrary$Blocks", "isBlank", "(I)Z"⟩ : MethodName) prog_2_method_5_code 3 (some .boolean)) rm_B_isBlank (va_Pc [.ref (x_ad G 1), .int p1] (x_PW G z0)) (va_Qi (fun a u => r = a ∧ z9 = u) (x_PW G) (x_A G)) 0 0 (x_A G) := by
  refine Met.ofW (cc := prog_2_method_5_code) (maxL := 3) (ret := (some .boolean)) (by decide) rfl ?_
  intro p e s m args below meth c s₁ B hml hv
  obtain ⟨rfl, hz, hP, hD, hK, hG⟩ := hv
  have C0 : x_Ctx G p s m _ meth c prog_2_method_5_code "ContentLibrary$Blocks" 3 (some .boolean) := ⟨B.exec, B.bytes, B.returns, hml, findClass_of_methodNamed B.named, fun w h => atoms_spec (ws := (x_ws (⟨"ContentLibrary$Blocks", "isBlank", "(I)Z"⟩ : MethodName) prog_2_method_5_code 3 (some .boolean))) B.pre w (List.mem_cons_of_mem _ h), B.notSynchronized, hz, hK, hG⟩
  obtain ⟨hx, hb, hr, hml, hown, hts, hlocks, hz, hK, hG⟩ := id C0
  have hS : va_S (x_A G) s.heap s.heap [] := va_S.rf
  have hl := lv_entry ([.ref (x_ad G 1), .int p1]) (n := 3) (Nat.le_of_ble_eq_true rfl)
  rw [lg_entry_eq]
  generalize (lg_sl ([.ref (x_ad G 1), .int p1]) ++ List.replicate (3 - (lg_sl ([.ref (x_ad G 1), .int p1])).length) Slot.unset).toArray = ls at hl ⊢
  have hl : lv_has ls 3 [(0, .ref (x_ad G 1)), (1, .int p1)] := hl
  rw [f_B_isBlank] at hf
  refine lv_iconst (v := (0 : Int32)) hx hb d_B_isBlank_0 (by decide) ?_
  refine lv_istore_n (lv' := [(2, .int (0 : Int32)), (0, .ref (x_ad G 1)), (1, .int p1)]) hx hb d_B_isBlank_1 rfl hl (by decide) rfl (fun ls hl => ?_)
  exact w_B_isBlank_2 l G C0 r z9 x_FU p1 (0 : Int32) z0 hf _ _ _ hP hD hS (lv_sub hl [1, 2, 0] rfl)
abbrev rm_B_turn : Room := { frames := 1, cells := 0, slots := 0, locals := 22 }
set_option maxHeartbeats 4000000 in
set_option maxRecDepth 100000 in
theorem c_B_turn (l : Launch) (G : x_G) (p1 : Int32) (p2 : Int32) (p3 : Int32) (z0 : x_St) (r : Int32) (z9 : x_St) (hf : f_B_turn (x_n G) p1 p2 p3 z0 = some (r, z9)) : Met l (⟨"ContentLibrary$Blocks", "turn", "(III)I"⟩ : MethodName) (x_ws (⟨"ContentLibrary$Blocks", "turn", "(III)I"⟩ : MethodName) prog_2_method_4_code 4 (some .int)) rm_B_turn (va_Pc [.ref (x_ad G 1), .int p1, .int p2, .int p3] (x_PW G z0)) (va_Qi (fun a u => r = a ∧ z9 = u) (x_PW G) (x_A G)) 0 0 (x_A G) := by
  refine Met.ofW (cc := prog_2_method_4_code) (maxL := 4) (ret := (some .int)) (by decide) rfl ?_
  intro p e s m args below meth c s₁ B hml hv
  obtain ⟨rfl, hz, hP, hD, hK, hG⟩ := hv
  have C0 : x_Ctx G p s m _ meth c prog_2_method_4_code "ContentLibrary$Blocks" 4 (some .int) := ⟨B.exec, B.bytes, B.returns, hml, findClass_of_methodNamed B.named, fun w h => atoms_spec (ws := (x_ws (⟨"ContentLibrary$Blocks", "turn", "(III)I"⟩ : MethodName) prog_2_method_4_code 4 (some .int))) B.pre w (List.mem_cons_of_mem _ h), B.notSynchronized, hz, hK, hG⟩
  obtain ⟨hx, hb, hr, hml, hown, hts, hlocks, hz, hK, hG⟩ := id C0
  have hS : va_S (x_A G) s.heap s.heap [] := va_S.rf
  have hl := lv_entry ([.ref (x_ad G 1), .int p1, .int p2, .int p3]) (n := 4) (Nat.le_of_ble_eq_true rfl)
  rw [lg_entry_eq]
  generalize (lg_sl ([.ref (x_ad G 1), .int p1, .int p2, .int p3]) ++ List.replicate (4 - (lg_sl ([.ref (x_ad G 1), .int p1, .int p2, .int p3])).length) Slot.unset).toArray = ls at hl ⊢
  have hl : lv_has ls 4 [(0, .ref (x_ad G 1)), (1, .int p1), (2, .int p2), (3, .int p3)] := hl
  rw [f_B_turn] at hf
  refine lv_aload_n hx hb d_B_turn_0 rfl (lv_at hl 0 rfl) ?_
  refine va_get (D := x_D G) (ci := 1) (v := .ref (x_ad G 2)) (C := "ContentLibrary$Blocks") (T := x_TB) (N := 5) hx hb hts x_inB hown hK hP 1 (x_lk_B G _) rfl 3 (by decide) (hts _ t_45) (fun _ h9 => h9) rfl d_B_turn_1 ?_
  refine lv_iload_n hx hb d_B_turn_4 rfl (lv_at hl 1 rfl) ?_
  refine lv_bipush (v := (64 : Int32)) hx hb d_B_turn_5 (by decide) ?_
  refine lv_imul hx hb d_B_turn_7 ?_
  refine lv_iload_n hx hb d_B_turn_8 rfl (lv_at hl 2 rfl) ?_
  refine lv_iadd hx hb d_B_turn_9 ?_
  refine lv_dup2_11 hx hb d_B_turn_10 rfl rfl ?_
  obtain ⟨hin1, hf⟩ := x_ck_some hf
  refine va_iald hx hb hK hP 2 0 (x_lk_A G _ rfl) rfl hin1 d_B_turn_11 ?_
  refine lv_iload_n hx hb d_B_turn_12 rfl (lv_at hl 3 rfl) ?_
  refine lv_ixor hx hb d_B_turn_13 ?_
  obtain ⟨hin2, hf⟩ := x_ck_some hf
  refine va_iast hx hb hK hP hD hS 2 0 (x_lk_A G _ rfl) rfl hin2 d_B_turn_14 (fun H locs hP hD hS => ?_)
  rw [x_st_A G _ (k := 2) rfl] at hP hD
  refine lv_aload_n hx hb d_B_turn_15 rfl (lv_at hl 0 rfl) ?_
  refine lv_iload_n hx hb d_B_turn_16 rfl (lv_at hl 1 rfl) ?_
  refine lv_iload_n hx hb d_B_turn_17 rfl (lv_at hl 2 rfl) ?_
  obtain ⟨r3, z3, hk4, hf⟩ := x_cl_some hf
  refine va_calli (va_runV (As := [.int p1, .int p2]) (rest := []) ⟨hx, hb, hml, hown, hts⟩ (c_B_get l G p1 p2 (x_put z0 2 (((p1 * (64 : Int32)) + p2)).toNatClampNeg ((z0.1 2 (((p1 * (64 : Int32)) + p2)).toNatClampNeg) ^^^ p3)) r3 z3 hk4) (cwV 2 hts (x_gV t_174 t_175 t_176 t_3 t_177) rfl rfl rfl (by decide +kernel) ⟨Nat.le_of_ble_eq_true rfl, Nat.le_of_ble_eq_true rfl⟩) ⟨x_blind _ _ _, va_recv hK hP (ci := 1) (q0 := 1) rfl (x_lk_B G _), fun U hU hW => ⟨rfl, x_pw hP hD hK hG hS hz hU hW.alike⟩⟩ rfl rfl hl.1 rfl (lv_room (Nat.le_of_ble_eq_true rfl)) d_B_turn_18 ⟨Nat.le_of_ble_eq_true rfl, Nat.le_of_ble_eq_true rfl⟩) hS (fun q _ h => h) (fun q h => h) (fun ra u t H locs ht hvm hw hB hz1 hk1 hS => ?_)
  obtain ⟨rfl, rfl⟩ := hw
  obtain ⟨hP, hD⟩ := x_back hB ht
  obtain ⟨rfl, rfl⟩ := x_ret hf
  exact W.iret (v := r3) hx hb hr (fun t ht hW => ⟨⟨_, _, rfl, ⟨rfl, rfl⟩, x_pw hP hD hK hG hS hz ht hW.alike⟩, hS.F ht⟩) hS.2.2 d_B_turn_21
abbrev rm_B_byteOfSum : Room := { frames := 0, cells := 0, slots := 0, locals := 0 }
set_option maxHeartbeats 4000000 in
set_option maxRecDepth 100000 in
theorem c_B_byteOfSum (l : Launch) (G : x_G) (p1 : Int32) (p2 : Int32) (z0 : x_St) (r : Int32) (z9 : x_St) (hf : f_B_byteOfSum (x_n G) p1 p2 z0 = some (r, z9)) : Met l (⟨"ContentLibrary$Blocks", "byteOfSum", "(II)I"⟩ : MethodName) (x_ws (⟨"ContentLibrary$Blocks", "byteOfSum", "(II)I"⟩ : MethodName) prog_2_method_9_code 2 (some .int)) rm_B_byteOfSum (va_Pc [.int p1, .int p2] (x_PW G z0)) (va_Qi (fun a u => r = a ∧ z9 = u) (x_PW G) (x_A G)) 0 0 (x_A G) := by
  refine Met.ofW (cc := prog_2_method_9_code) (maxL := 2) (ret := (some .int)) (by decide) rfl ?_
  intro p e s m args below meth c s₁ B hml hv
  obtain ⟨rfl, hz, hP, hD, hK, hG⟩ := hv
  have C0 : x_Ctx G p s m _ meth c prog_2_method_9_code "ContentLibrary$Blocks" 2 (some .int) := ⟨B.exec, B.bytes, B.returns, hml, findClass_of_methodNamed B.named, fun w h => atoms_spec (ws := (x_ws (⟨"ContentLibrary$Blocks", "byteOfSum", "(II)I"⟩ : MethodName) prog_2_method_9_code 2 (some .int))) B.pre w (List.mem_cons_of_mem _ h), B.notSynchronized, hz, hK, hG⟩
  obtain ⟨hx, hb, hr, hml, hown, hts, hlocks, hz, hK, hG⟩ := id C0
  have hS : va_S (x_A G) s.heap s.heap [] := va_S.rf
  have hl := lv_entry ([.int p1, .int p2]) (n := 2) (Nat.le_of_ble_eq_true rfl)
  rw [lg_entry_eq]
  generalize (lg_sl ([.int p1, .int p2]) ++ List.replicate (2 - (lg_sl ([.int p1, .int p2])).length) Slot.unset).toArray = ls at hl ⊢
  have hl : lv_has ls 2 [(0, .int p1), (1, .int p2)] := hl
  rw [f_B_byteOfSum] at hf
  refine lv_iload_n hx hb d_B_byteOfSum_0 rfl (lv_at hl 0 rfl) ?_
  refine lv_bipush (v := (8 : Int32)) hx hb d_B_byteOfSum_1 (by decide) ?_
  refine lv_iload_n hx hb d_B_byteOfSum_3 rfl (lv_at hl 1 rfl) ?_
  refine lv_imul hx hb d_B_byteOfSum_4 ?_
  refine lv_iushr (v := (x_ushr p1 ((8 : Int32) * p2))) hx hb d_B_byteOfSum_5 rfl ?_
  refine lv_sipush (v := (255 : Int32)) hx hb d_B_byteOfSum_6 (by decide) ?_
  refine lv_iand hx hb d_B_byteOfSum_9 ?_
  obtain ⟨rfl, rfl⟩ := x_ret hf
  exact W.iret (v := ((x_ushr p1 ((8 : Int32) * p2)) &&& (255 : Int32))) hx hb hr (fun t ht hW => ⟨⟨_, _, rfl, ⟨rfl, rfl⟩, x_pw hP hD hK hG hS hz ht hW.alike⟩, hS.F ht⟩) hS.2.2 d_B_byteOfSum_10
abbrev rm_B_put : Room := { frames := 0, cells := 0, slots := 0, locals := 0 }
set_option maxHeartbeats 4000000 in
set_option maxRecDepth 100000 in
theorem w_B_put_32 (l : Launch) (G : x_G) {p : Program} {e : Env} {s : State} {m : MethodId} {args : Array Value} {below : List Frame} {meth : Method} {c : Code} (C0 : x_Ctx G p s m args meth c prog_2_method_18_code "ContentLibrary$Blocks" 4 (some .boolean)) (r : Int32) (z9 : x_St) : ∀ (a1 : Int32) (a2 : Int32) (a3 : Int32) (z0 : x_St), f_B_put_32 (x_n G) a1 a2 a3 z0 = some (r, z9) → ∀ (H : Heap) (locs : List Loc) (ls : Array Slot), va_P (x_D G) vwCl (x_Wd G z0) H → va_D (x_A G) (x_Wd G z0) → va_S (x_A G) s.heap H locs → lv_has ls 4 [(0, .ref (x_ad G 1)), (1, .int a1), (2, .int a2), (3, .int a3)] → W p l e rm_B_put s m args below meth c H locs 0 0 (MQ below (va_Qi (fun a u => r = a ∧ z9 = u) (x_PW G) (x_A G)) args s 0 0 (x_A G)) (F0 m 32 ls []) := by
  obtain ⟨hx, hb, hr, hml, hown, hts, hlocks, hz, hK, hG⟩ := id C0
  intro a1 a2 a3 z0 hf H locs ls hP hD hS hl
  rw [f_B_put_32] at hf
  refine lv_aload_n hx hb d_B_put_32 rfl (lv_at hl 0 rfl) ?_
  refine va_get (D := x_D G) (ci := 1) (v := .ref (x_ad G 2)) (C := "ContentLibrary$Blocks") (T := x_TB) (N := 5) hx hb hts x_inB hown hK hP 1 (x_lk_B G _) rfl 3 (by decide) (hts _ t_45) (fun _ h9 => h9) rfl d_B_put_33 ?_
  refine lv_iload_n hx hb d_B_put_36 rfl (lv_at hl 1 rfl) ?_
  refine lv_bipush (v := (64 : Int32)) hx hb d_B_put_37 (by decide) ?_
  refine lv_imul hx hb d_B_put_39 ?_
  refine lv_iload_n hx hb d_B_put_40 rfl (lv_at hl 2 rfl) ?_
  refine lv_iadd hx hb d_B_put_41 ?_
  refine lv_iload_n hx hb d_B_put_42 rfl (lv_at hl 3 rfl) ?_
  obtain ⟨hin1, hf⟩ := x_ck_some hf
  refine va_iast hx hb hK hP hD hS 2 0 (x_lk_A G _ rfl) rfl hin1 d_B_put_43 (fun H locs hP hD hS => ?_)
  rw [x_st_A G _ (k := 2) rfl] at hP hD
  refine lv_iconst (v := (1 : Int32)) hx hb d_B_put_44 (by decide) ?_
  obtain ⟨rfl, rfl⟩ := x_ret hf
  exact W.zret (v := (1 : Int32)) hx hb hr rfl (fun t ht hW => ⟨⟨_, _, rfl, ⟨rfl, rfl⟩, x_pw hP hD hK hG hS hz ht hW.alike⟩, hS.F ht⟩) hS.2.2 d_B_put_45
set_option maxHeartbeats 4000000 in
set_option maxRecDepth 100000 in
theorem c_B_put (l : Launch) (G : x_G) (p1 : Int32) (p2 : Int32) (p3 : Int32) (z0 : x_St) (r : Int32) (z9 : x_St) (hf : f_B_put (x_n G) p1 p2 p3 z0 = some (r, z9)) : Met l (⟨"ContentLibrary$Blocks", "put", "(III)Z"⟩ : MethodName) (x_ws (⟨"ContentLibrary$Blocks", "put", "(III)Z"⟩ : MethodName) prog_2_method_18_code 4 (some .boolean)) rm_B_put (va_Pc [.ref (x_ad G 1), .int p1, .int p2, .int p3] (x_PW G z0)) (va_Qi (fun a u => r = a ∧ z9 = u) (x_PW G) (x_A G)) 0 0 (x_A G) := by
  refine Met.ofW (cc := prog_2_method_18_code) (maxL := 4) (ret := (some .boolean)) (by decide) rfl ?_
  intro p e s m args below meth c s₁ B hml hv
  obtain ⟨rfl, hz, hP, hD, hK, hG⟩ := hv
  have C0 : x_Ctx G p s m _ meth c prog_2_method_18_code "ContentLibrary$Blocks" 4 (some .boolean) := ⟨B.exec, B.bytes, B.returns, hml, findClass_of_methodNamed B.named, fun w h => atoms_spec (ws := (x_ws (⟨"ContentLibrary$Blocks", "put", "(III)Z"⟩ : MethodName) prog_2_method_18_code 4 (some .boolean))) B.pre w (List.mem_cons_of_mem _ h), B.notSynchronized, hz, hK, hG⟩
  obtain ⟨hx, hb, hr, hml, hown, hts, hlocks, hz, hK, hG⟩ := id C0
  have hS : va_S (x_A G) s.heap s.heap [] := va_S.rf
  have hl := lv_entry ([.ref (x_ad G 1), .int p1, .int p2, .int p3]) (n := 4) (Nat.le_of_ble_eq_true rfl)
  rw [lg_entry_eq]
  generalize (lg_sl ([.ref (x_ad G 1), .int p1, .int p2, .int p3]) ++ List.replicate (4 - (lg_sl ([.ref (x_ad G 1), .int p1, .int p2, .int p3])).length) Slot.unset).toArray = ls at hl ⊢
  have hl : lv_has ls 4 [(0, .ref (x_ad G 1)), (1, .int p1), (2, .int p2), (3, .int p3)] := hl
  rw [f_B_put] at hf
  refine lv_aload_n hx hb d_B_put_0 rfl (lv_at hl 0 rfl) ?_
  refine va_get (D := x_D G) (ci := 1) (v := .int (z0.1 1 1)) (C := "ContentLibrary$Blocks") (T := x_TB) (N := 5) hx hb hts x_inB hown hK hP 1 (x_lk_B G _) rfl 1 (by decide) (hts _ t_41) (fun _ h9 => h9) rfl d_B_put_1 ?_
  refine lv_if_ne (tgt := 14) hx hb d_B_put_4 (by decide) (fun hc2 => ?_) (fun hc2 => ?_)
  · have hf := x_br_f hf hc2
    refine lv_aload_n hx hb d_B_put_14 rfl (lv_at hl 0 rfl) ?_
    refine va_get (D := x_D G) (ci := 1) (v := .int (z0.1 1 1)) (C := "ContentLibrary$Blocks") (T := x_TB) (N := 5) hx hb hts x_inB hown hK hP 1 (x_lk_B G _) rfl 1 (by decide) (hts _ t_41) (fun _ h9 => h9) rfl d_B_put_15 ?_
    refine lv_iconst (v := (-1 : Int32)) hx hb d_B_put_18 (by decide) ?_
    refine lv_icmp_eq (tgt := 32) hx hb d_B_put_19 (by decide) (fun hc3 => ?_) (fun hc3 => ?_)
    · have hf := x_br_t hf hc3
      exact w_B_put_32 l G C0 r z9 p1 p2 p3 z0 hf _ _ _ hP hD hS (lv_sub hl [0, 1, 2, 3] rfl)
    · have hf := x_br_f hf hc3
      refine lv_aload_n hx hb d_B_put_22 rfl (lv_at hl 0 rfl) ?_
      refine lv_dup hx hb d_B_put_23 rfl ?_
      refine va_get (D := x_D G) (ci := 1) (v := .int (z0.1 1 1)) (C := "ContentLibrary$Blocks") (T := x_TB) (N := 5) hx hb hts x_inB hown hK hP 1 (x_lk_B G _) rfl 1 (by decide) (hts _ t_41) (fun _ h9 => h9) rfl d_B_put_24 ?_
      refine lv_iconst (v := (1 : Int32)) hx hb d_B_put_27 (by decide) ?_
      refine lv_isub hx hb d_B_put_28 ?_
      refine va_put (D := x_D G) (ci := 1) (v := .int ((z0.1 1 1) - (1 : Int32))) (ty := .int) (C := "ContentLibrary$Blocks") (T := x_TB) (N := 5) hx hb hts x_inB x_tyB x_tyB_ok x_nmB hown hK hP hD hS 1 (x_lk_B G _) rfl 1 (by decide) (hts _ t_41) (fun _ h9 => h9) rfl (by decide +kernel) rfl rfl (Nat.le_of_ble_eq_true rfl) d_B_put_29 (fun H locs hP hD hS => ?_)
      rw [x_st_B1 G _] at hP hD
      exact w_B_put_32 l G C0 r z9 p1 p2 p3 (x_put z0 1 1 ((z0.1 1 1) - (1 : Int32))) hf _ _ _ hP hD hS (lv_sub hl [0, 1, 2, 3] rfl)
  · have hf := x_br_t hf hc2
    refine lv_aload_n hx hb d_B_put_7 rfl (lv_at hl 0 rfl) ?_
    refine lv_iconst (v := (1 : Int32)) hx hb d_B_put_8 (by decide) ?_
    refine va_put (D := x_D G) (ci := 1) (v := .int (1 : Int32)) (ty := .boolean) (C := "ContentLibrary$Blocks") (T := x_TB) (N := 5) hx hb hts x_inB x_tyB x_tyB_ok x_nmB hown hK hP hD hS 1 (x_lk_B G _) rfl 2 (by decide) (hts _ t_43) (fun _ h9 => h9) rfl (by decide +kernel) rfl rfl (Nat.le_of_ble_eq_true rfl) d_B_put_9 (fun H locs hP hD hS => ?_)
    rw [x_st_B2 G _] at hP hD
    refine lv_iconst (v := (0 : Int32)) hx hb d_B_put_12 (by decide) ?_
    obtain ⟨rfl, rfl⟩ := x_ret hf
    exact W.zret (v := (0 : Int32)) hx hb hr rfl (fun t ht hW => ⟨⟨_, _, rfl, ⟨rfl, rfl⟩, x_pw hP hD hK hG hS hz ht hW.alike⟩, hS.F ht⟩) hS.2.2 d_B_put_13
abbrev rm_B_wipe : Room := { frames := 1, cells := 0, slots := 0, locals := 23 }
set_option maxHeartbeats 4000000 in
set_option maxRecDepth 100000 in
theorem w_B_wipe_39 (l : Launch) (G : x_G) {p : Program} {e : Env} {s : State} {m : MethodId} {args : Array Value} {below : List Frame} {meth : Method} {c : Code} (C0 : x_Ctx G p s m args meth c prog_2_method_17_code "ContentLibrary$Blocks" 4 (some .boolean)) (r : Int32) (z9 : x_St) : ∀ (a2 : Int32) (z0 : x_St), f_B_wipe_39 (x_n G) a2 z0 = some (r, z9) → ∀ (H : Heap) (locs : List Loc) (ls : Array Slot), va_P (x_D G) vwCl (x_Wd G z0) H → va_D (x_A G) (x_Wd G z0) → va_S (x_A G) s.heap H locs → lv_has ls 4 [(2, .int a2)] → W p l e rm_B_wipe s m args below meth c H locs 0 0 (MQ below (va_Qi (fun a u => r = a ∧ z9 = u) (x_PW G) (x_A G)) args s 0 0 (x_A G)) (F0 m 39 ls []) := by
  obtain ⟨hx, hb, hr, hml, hown, hts, hlocks, hz, hK, hG⟩ := id C0
  intro a2 z0 hf H locs ls hP hD hS hl
  rw [f_B_wipe_39] at hf
  refine lv_iload_n hx hb d_B_wipe_39 rfl (lv_at hl 0 rfl) ?_
  obtain ⟨hbo, hf⟩ := x_ckb_some hf
  obtain ⟨rfl, rfl⟩ := x_ret hf
  exact W.zret (v := a2) hx hb hr (x_nb hbo) (fun t ht hW => ⟨⟨_, _, rfl, ⟨rfl, rfl⟩, x_pw hP hD hK hG hS hz ht hW.alike⟩, hS.F ht⟩) hS.2.2 d_B_wipe_40
set_option maxHeartbeats 4000000 in
set_option maxRecDepth 100000 in
theorem w_B_wipe_10 (l : Launch) (G : x_G) {p : Program} {e : Env} {s : State} {m : MethodId} {args : Array Value} {below : List Frame} {meth : Method} {c : Code} (C0 : x_Ctx G p s m args meth c prog_2_method_17_code "ContentLibrary$Blocks" 4 (some .boolean)) (r : Int32) (z9 : x_St) : ∀ (fu : Nat), ∀ (a1 : Int32) (a2 : Int32) (a3 : Int32) (z0 : x_St), f_B_wipe_10 (x_n G) fu a1 a2 a3 z0 = some (r, z9) → ∀ (H : Heap) (locs : List Loc) (ls : Array Slot), va_P (x_D G) vwCl (x_Wd G z0) H → va_D (x_A G) (x_Wd G z0) → va_S (x_A G) s.heap H locs → lv_has ls 4 [(0, .ref (x_ad G 1)), (1, .int a1), (2, .int a2), (3, .int a3)] → W p l e rm_B_wipe s m args below meth c H locs 0 0 (MQ below (va_Qi (fun a u => r = a ∧ z9 = u) (x_PW G) (x_A G)) args s 0 0 (x_A G)) (F0 m 10 ls []) := by
  obtain ⟨hx, hb, hr, hml, hown, hts, hlocks, hz, hK, hG⟩ := id C0
  intro fu
  induction fu with
  | zero =>
    intro a1 a2 a3 z0 hf
    rw [f_B_wipe_10] at hf
    cases hf
  | succ fu ih =>
    intro a1 a2 a3 z0 hf H locs ls hP hD hS hl
    rw [f_B_wipe_10] at hf
    refine lv_iload_n hx hb d_B_wipe_10 rfl (lv_at hl 3 rfl) ?_
    refine lv_bipush (v := (64 : Int32)) hx hb d_B_wipe_11 (by decide) ?_
    refine lv_icmp_ge (tgt := 39) hx hb d_B_wipe_13 (by decide) (fun hc1 => ?_) (fun hc1 => ?_)
    · have hf := x_br_t hf hc1
      exact w_B_wipe_39 l G C0 r z9 a2 z0 hf _ _ _ hP hD hS (lv_sub hl [2] rfl)
    · have hf := x_br_f hf hc1
      refine lv_iload_n hx hb d_B_wipe_16 rfl (lv_at hl 2 rfl) ?_
      refine lv_if_eq (tgt := 39) hx hb d_B_wipe_17 (by decide) (fun hc2 => ?_) (fun hc2 => ?_)
      · have hf := x_br_t hf hc2
        exact w_B_wipe_39 l G C0 r z9 a2 z0 hf _ _ _ hP hD hS (lv_sub hl [2] rfl)
      · have hf := x_br_f hf hc2
        refine lv_iload_n hx hb d_B_wipe_20 rfl (lv_at hl 3 rfl) ?_
        refine lv_iconst (v := (4 : Int32)) hx hb d_B_wipe_21 (by decide) ?_
        refine lv_icmp_eq (tgt := 33) hx hb d_B_wipe_22 (by decide) (fun hc3 => ?_) (fun hc3 => ?_)
        · have hf := x_br_t hf hc3
          refine lv_iinc (v := (a3 + (1 : Int32))) (lv' := [(3, .int (a3 + (1 : Int32))), (0, .ref (x_ad G 1)), (1, .int a1), (2, .int a2)]) hx hb d_B_wipe_33 hl (k := 3) rfl rfl (by decide) rfl (fun ls hl => ?_)
          refine lv_goto (tgt := 10) hx hb d_B_wipe_36 (by decide) ?_
          exact ih a1 a2 (a3 + (1 : Int32)) z0 hf _ _ _ hP hD hS (lv_sub hl [1, 2, 3, 0] rfl)
        · have hf := x_br_f hf hc3
          refine lv_aload_n hx hb d_B_wipe_25 rfl (lv_at hl 0 rfl) ?_
          refine lv_iload_n hx hb d_B_wipe_26 rfl (lv_at hl 1 rfl) ?_
          refine lv_iload_n hx hb d_B_wipe_27 rfl (lv_at hl 3 rfl) ?_
          refine lv_iconst (v := (0 : Int32)) hx hb d_B_wipe_28 (by decide) ?_
          obtain ⟨r4, z4, hk5, hf⟩ := x_cl_some hf
          refine va_calli (va_runV (As := [.int a1, .int a3, .int (0 : Int32)]) (rest := []) ⟨hx, hb, hml, hown, hts⟩ (c_B_put l G a1 a3 (0 : Int32) z0 r4 z4 hk5) (cwV 3 hts (x_gV t_517 t_519 sel_ContentLibrary_Blocks_put t_3 t_520) rfl rfl rfl (by decide +kernel) ⟨Nat.le_of_ble_eq_true rfl, Nat.le_of_ble_eq_true rfl⟩) ⟨x_blind _ _ _, va_recv hK hP (ci := 1) (q0 := 1) rfl (x_lk_B G _), fun U hU hW => ⟨rfl, x_pw hP hD hK hG hS hz hU hW.alike⟩⟩ rfl rfl hl.1 rfl (lv_room (Nat.le_of_ble_eq_true rfl)) d_B_wipe_29 ⟨Nat.le_of_ble_eq_true rfl, Nat.le_of_ble_eq_true rfl⟩) hS (fun q _ h => h) (fun q h => h) (fun ra u t H locs ht hvm hw hB hz1 hk1 hS => ?_)
          obtain ⟨rfl, rfl⟩ := hw
          obtain ⟨hP, hD⟩ := x_back hB ht
          refine lv_istore_n (lv' := [(2, .int r4), (0, .ref (x_ad G 1)), (1, .int a1), (3, .int a3)]) hx hb d_B_wipe_32 rfl hl (by decide) rfl (fun ls hl => ?_)
          refine lv_iinc (v := (a3 + (1 : Int32))) (lv' := [(3, .int (a3 + (1 : Int32))), (2, .int r4), (0, .ref (x_ad G 1)), (1, .int a1)]) hx hb d_B_wipe_33 hl (k := 3) rfl rfl (by decide) rfl (fun ls hl => ?_)
          refine lv_goto (tgt := 10) hx hb d_B_wipe_36 (by decide) ?_
          exact ih a1 r4 (a3 + (1 : Int32)) z4 hf _ _ _ hP hD hS (lv_sub hl [2, 3, 1, 0] rfl)
set_option maxHeartbeats 4000000 in
set_option maxRecDepth 100000 in
theorem c_B_wipe (l : Launch) (G : x_G) (p1 : Int32) (z0 : x_St) (r : Int32) (z9 : x_St) (hf : f_B_wipe (x_n G) p1 z0 = some (r, z9)) : Met l (⟨"ContentLibrary$Blocks", "wipe", "(I)Z"⟩ : MethodName) (x_ws (⟨"ContentLibrary$Blocks", "wipe", "(I)Z"⟩ : MethodName) prog_2_method_17_code 4 (some .boolean)) rm_B_wipe (va_Pc [.ref (x_ad G 1), .int p1] (x_PW G z0)) (va_Qi (fun a u => r = a ∧ z9 = u) (x_PW G) (x_A G)) 0 0 (x_A G) := by
  refine Met.ofW (cc := prog_2_method_17_code) (maxL := 4) (ret := (some .boolean)) (by decide) rfl ?_
  intro p e s m args below meth c s₁ B hml hv
  obtain ⟨rfl, hz, hP, hD, hK, hG⟩ := hv
  have C0 : x_Ctx G p s m _ meth c prog_2_method_17_code "ContentLibrary$Blocks" 4 (some .boolean) := ⟨B.exec, B.bytes, B.returns, hml, findClass_of_methodNamed B.named, fun w h => atoms_spec (ws := (x_ws (⟨"ContentLibrary$Blocks", "wipe", "(I)Z"⟩ : MethodName) prog_2_method_17_code 4 (some .boolean))) B.pre w (List.mem_cons_of_mem _ h), B.notSynchronized, hz, hK, hG⟩
  obtain ⟨hx, hb, hr, hml, hown, hts, hlocks, hz, hK, hG⟩ := id C0
  have hS : va_S (x_A G) s.heap s.heap [] := va_S.rf
  have hl := lv_entry ([.ref (x_ad G 1), .int p1]) (n := 4) (Nat.le_of_ble_eq_true rfl)
  rw [lg_entry_eq]
  generalize (lg_sl ([.ref (x_ad G 1), .int p1]) ++ List.replicate (4 - (lg_sl ([.ref (x_ad G 1), .int p1])).length) Slot.unset).toArray = ls at hl ⊢
  have hl : lv_has ls 4 [(0, .ref (x_ad G 1)), (1, .int p1)] := hl
  rw [f_B_wipe] at hf
  refine lv_aload_n hx hb d_B_wipe_0 rfl (lv_at hl 0 rfl) ?_
  refine lv_iload_n hx hb d_B_wipe_1 rfl (lv_at hl 1 rfl) ?_
  refine lv_iconst (v := (4 : Int32)) hx hb d_B_wipe_2 (by decide) ?_
  refine lv_iconst (v := (0 : Int32)) hx hb d_B_wipe_3 (by decide) ?_
  obtain ⟨r6, z6, hk7, hf⟩ := x_cl_some hf
  refine va_calli (va_runV (As := [.int p1, .int (4 : Int32), .int (0 : Int32)]) (rest := []) ⟨hx, hb, hml, hown, hts⟩ (c_B_put l G p1 (4 : Int32) (0 : Int32) z0 r6 z6 hk7) (cwV 3 hts (x_gV t_517 t_519 sel_ContentLibrary_Blocks_put t_3 t_520) rfl rfl rfl (by decide +kernel) ⟨Nat.le_of_ble_eq_true rfl, Nat.le_of_ble_eq_true rfl⟩) ⟨x_blind _ _ _, va_recv hK hP (ci := 1) (q0 := 1) rfl (x_lk_B G _), fun U hU hW => ⟨rfl, x_pw hP hD hK hG hS hz hU hW.alike⟩⟩ rfl rfl hl.1 rfl (lv_room (Nat.le_of_ble_eq_true rfl)) d_B_wipe_4 ⟨Nat.le_of_ble_eq_true rfl, Nat.le_of_ble_eq_true rfl⟩) hS (fun q _ h => h) (fun q h => h) (fun ra u t H locs ht hvm hw hB hz1 hk1 hS => ?_)
  obtain ⟨rfl, rfl⟩ := hw
  obtain ⟨hP, hD⟩ := x_back hB ht
  refine lv_istore_n (lv' := [(2, .int r6), (0, .ref (x_ad G 1)), (1, .int p1)]) hx hb d_B_wipe_7 rfl hl (by decide) rfl (fun ls hl => ?_)
  refine lv_iconst (v := (0 : Int32)) hx hb d_B_wipe_8 (by decide) ?_
  refine lv_istore_n (lv' := [(3, .int (0 : Int32)), (2, .int r6), (0, .ref (x_ad G 1)), (1, .int p1)]) hx hb d_B_wipe_9 rfl hl (by decide) rfl (fun ls hl => ?_)
  exact w_B_wipe_10 l G C0 r z9 x_FU p1 r6 (0 : Int32) z6 hf _ _ _ hP hD hS (lv_sub hl [2, 3, 1, 0] rfl)
end
