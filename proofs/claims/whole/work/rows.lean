section
-- ===== PART A: goes FIRST, ahead of the names: the tables' words, and 'selects' of the private methods out of them =====
/-- a private method of a class that the tables say can be made, by its rows of tables_1 -/
def lw_okq (q : MethodName × Nat) : Prop := (q.1.cls ≠ "java/lang/invoke/MethodHandle" ∧ q.1.cls ≠ "java/lang/invoke/VarHandle") ∧ Cond.instantiable q.1.cls q.2 ∈ tables_1 ∧ Cond.privateMethod q.1 ∈ tables_1 ∧ Cond.instanceMethod q.1 ∈ tables_1
theorem lw_p0 : lw_okq (⟨"ContentLibrary", "forget", "()V"⟩, 9) := ⟨⟨by decide +kernel, by decide +kernel⟩, List.mem_of_getElem? (i := 20) (by decide +kernel), List.mem_of_getElem? (i := 163) (by decide +kernel), List.mem_of_getElem? (i := 164) (by decide +kernel)⟩
theorem lw_p1 : lw_okq (⟨"ContentLibrary", "openNumber", "(I)V"⟩, 9) := ⟨⟨by decide +kernel, by decide +kernel⟩, List.mem_of_getElem? (i := 20) (by decide +kernel), List.mem_of_getElem? (i := 167) (by decide +kernel), List.mem_of_getElem? (i := 168) (by decide +kernel)⟩
theorem lw_p2 : lw_okq (⟨"ContentLibrary$Blocks", "hasRightSum", "(I)Z"⟩, 5) := ⟨⟨by decide +kernel, by decide +kernel⟩, List.mem_of_getElem? (i := 34) (by decide +kernel), List.mem_of_getElem? (i := 183) (by decide +kernel), List.mem_of_getElem? (i := 184) (by decide +kernel)⟩
theorem lw_p3 : lw_okq (⟨"ContentLibrary", "readRecord", "(LContentLibrary$Kept;II)Z"⟩, 9) := ⟨⟨by decide +kernel, by decide +kernel⟩, List.mem_of_getElem? (i := 20) (by decide +kernel), List.mem_of_getElem? (i := 202) (by decide +kernel), List.mem_of_getElem? (i := 203) (by decide +kernel)⟩
theorem lw_p4 : lw_okq (⟨"ContentLibrary$Digester", "pad", "([II)I"⟩, 3) := ⟨⟨by decide +kernel, by decide +kernel⟩, List.mem_of_getElem? (i := 115) (by decide +kernel), List.mem_of_getElem? (i := 247) (by decide +kernel), List.mem_of_getElem? (i := 248) (by decide +kernel)⟩
theorem lw_p5 : lw_okq (⟨"ContentLibrary$Digester", "prepare", "(I)V"⟩, 3) := ⟨⟨by decide +kernel, by decide +kernel⟩, List.mem_of_getElem? (i := 115) (by decide +kernel), List.mem_of_getElem? (i := 257) (by decide +kernel), List.mem_of_getElem? (i := 258) (by decide +kernel)⟩
theorem lw_p6 : lw_okq (⟨"ContentLibrary$Digester", "mix", "([I)V"⟩, 3) := ⟨⟨by decide +kernel, by decide +kernel⟩, List.mem_of_getElem? (i := 115) (by decide +kernel), List.mem_of_getElem? (i := 264) (by decide +kernel), List.mem_of_getElem? (i := 265) (by decide +kernel)⟩
theorem lw_p7 : lw_okq (⟨"ContentLibrary$Digester", "turnRound", "(I)V"⟩, 3) := ⟨⟨by decide +kernel, by decide +kernel⟩, List.mem_of_getElem? (i := 115) (by decide +kernel), List.mem_of_getElem? (i := 270) (by decide +kernel), List.mem_of_getElem? (i := 271) (by decide +kernel)⟩
theorem lw_p8 : lw_okq (⟨"ContentLibrary", "numberWith", "([II)I"⟩, 9) := ⟨⟨by decide +kernel, by decide +kernel⟩, List.mem_of_getElem? (i := 20) (by decide +kernel), List.mem_of_getElem? (i := 274) (by decide +kernel), List.mem_of_getElem? (i := 275) (by decide +kernel)⟩
theorem lw_p9 : lw_okq (⟨"ContentLibrary", "admit", "(LContentLibrary$Kept;I)V"⟩, 9) := ⟨⟨by decide +kernel, by decide +kernel⟩, List.mem_of_getElem? (i := 20) (by decide +kernel), List.mem_of_getElem? (i := 282) (by decide +kernel), List.mem_of_getElem? (i := 283) (by decide +kernel)⟩
theorem lw_p10 : lw_okq (⟨"ContentLibrary", "setUsed", "(LContentLibrary$Kept;Z)V"⟩, 9) := ⟨⟨by decide +kernel, by decide +kernel⟩, List.mem_of_getElem? (i := 20) (by decide +kernel), List.mem_of_getElem? (i := 294) (by decide +kernel), List.mem_of_getElem? (i := 295) (by decide +kernel)⟩
theorem lw_p11 : lw_okq (⟨"ContentLibrary", "countKept", "()I"⟩, 9) := ⟨⟨by decide +kernel, by decide +kernel⟩, List.mem_of_getElem? (i := 20) (by decide +kernel), List.mem_of_getElem? (i := 298) (by decide +kernel), List.mem_of_getElem? (i := 299) (by decide +kernel)⟩
theorem lw_p12 : lw_okq (⟨"ContentLibrary", "countFreeBlocks", "()I"⟩, 9) := ⟨⟨by decide +kernel, by decide +kernel⟩, List.mem_of_getElem? (i := 20) (by decide +kernel), List.mem_of_getElem? (i := 315) (by decide +kernel), List.mem_of_getElem? (i := 316) (by decide +kernel)⟩
theorem lw_p13 : lw_okq (⟨"ContentLibrary", "countMade", "()I"⟩, 9) := ⟨⟨by decide +kernel, by decide +kernel⟩, List.mem_of_getElem? (i := 20) (by decide +kernel), List.mem_of_getElem? (i := 319) (by decide +kernel), List.mem_of_getElem? (i := 320) (by decide +kernel)⟩
theorem lw_p14 : lw_okq (⟨"ContentLibrary", "refuseWhenCut", "()V"⟩, 9) := ⟨⟨by decide +kernel, by decide +kernel⟩, List.mem_of_getElem? (i := 20) (by decide +kernel), List.mem_of_getElem? (i := 336) (by decide +kernel), List.mem_of_getElem? (i := 337) (by decide +kernel)⟩
theorem lw_p15 : lw_okq (⟨"java/lang/Throwable", "fillInStackTrace", "(I)Ljava/lang/Throwable;"⟩, 6) := ⟨⟨by decide +kernel, by decide +kernel⟩, List.mem_of_getElem? (i := 379) (by decide +kernel), List.mem_of_getElem? (i := 377) (by decide +kernel), List.mem_of_getElem? (i := 378) (by decide +kernel)⟩
def lw_privs_1 : List (MethodName × Nat) := [(⟨"ContentLibrary", "forget", "()V"⟩, 9), (⟨"ContentLibrary", "openNumber", "(I)V"⟩, 9), (⟨"ContentLibrary$Blocks", "hasRightSum", "(I)Z"⟩, 5), (⟨"ContentLibrary", "readRecord", "(LContentLibrary$Kept;II)Z"⟩, 9), (⟨"ContentLibrary$Digester", "pad", "([II)I"⟩, 3), (⟨"ContentLibrary$Digester", "prepare", "(I)V"⟩, 3), (⟨"ContentLibrary$Digester", "mix", "([I)V"⟩, 3), (⟨"ContentLibrary$Digester", "turnRound", "(I)V"⟩, 3), (⟨"ContentLibrary", "numberWith", "([II)I"⟩, 9), (⟨"ContentLibrary", "admit", "(LContentLibrary$Kept;I)V"⟩, 9), (⟨"ContentLibrary", "setUsed", "(LContentLibrary$Kept;Z)V"⟩, 9), (⟨"ContentLibrary", "countKept", "()I"⟩, 9), (⟨"ContentLibrary", "countFreeBlocks", "()I"⟩, 9), (⟨"ContentLibrary", "countMade", "()I"⟩, 9), (⟨"ContentLibrary", "refuseWhenCut", "()V"⟩, 9), (⟨"java/lang/Throwable", "fillInStackTrace", "(I)Ljava/lang/Throwable;"⟩, 6)]
theorem lw_r1 : ∀ q ∈ lw_privs_1, lw_okq q := List.forall_mem_cons.mpr ⟨lw_p0, List.forall_mem_cons.mpr ⟨lw_p1, List.forall_mem_cons.mpr ⟨lw_p2, List.forall_mem_cons.mpr ⟨lw_p3, List.forall_mem_cons.mpr ⟨lw_p4, List.forall_mem_cons.mpr ⟨lw_p5, List.forall_mem_cons.mpr ⟨lw_p6, List.forall_mem_cons.mpr ⟨lw_p7, List.forall_mem_cons.mpr ⟨lw_p8, List.forall_mem_cons.mpr ⟨lw_p9, List.forall_mem_cons.mpr ⟨lw_p10, List.forall_mem_cons.mpr ⟨lw_p11, List.forall_mem_cons.mpr ⟨lw_p12, List.forall_mem_cons.mpr ⟨lw_p13, List.forall_mem_cons.mpr ⟨lw_p14, List.forall_mem_cons.mpr ⟨lw_p15, fun _ h => absurd h List.not_mem_nil⟩⟩⟩⟩⟩⟩⟩⟩⟩⟩⟩⟩⟩⟩⟩⟩
theorem lw_p16 : lw_okq (⟨"ContentLibrary", "pictureBeingMade", "(I)LContentLibrary$Picture;"⟩, 9) := ⟨⟨by decide +kernel, by decide +kernel⟩, List.mem_of_getElem? (i := 20) (by decide +kernel), List.mem_of_getElem? (i := 454) (by decide +kernel), List.mem_of_getElem? (i := 455) (by decide +kernel)⟩
theorem lw_p17 : lw_okq (⟨"ContentLibrary", "freeNumber", "()I"⟩, 9) := ⟨⟨by decide +kernel, by decide +kernel⟩, List.mem_of_getElem? (i := 20) (by decide +kernel), List.mem_of_getElem? (i := 492) (by decide +kernel), List.mem_of_getElem? (i := 493) (by decide +kernel)⟩
theorem lw_p18 : lw_okq (⟨"ContentLibrary", "choosePlaces", "(LContentLibrary$Kept;I)Z"⟩, 9) := ⟨⟨by decide +kernel, by decide +kernel⟩, List.mem_of_getElem? (i := 20) (by decide +kernel), List.mem_of_getElem? (i := 501) (by decide +kernel), List.mem_of_getElem? (i := 502) (by decide +kernel)⟩
theorem lw_p19 : lw_okq (⟨"ContentLibrary", "commit", "(ILContentLibrary$Picture;)Z"⟩, 9) := ⟨⟨by decide +kernel, by decide +kernel⟩, List.mem_of_getElem? (i := 20) (by decide +kernel), List.mem_of_getElem? (i := 506) (by decide +kernel), List.mem_of_getElem? (i := 507) (by decide +kernel)⟩
theorem lw_p20 : lw_okq (⟨"ContentLibrary", "wipeFreeBlocks", "(I)I"⟩, 9) := ⟨⟨by decide +kernel, by decide +kernel⟩, List.mem_of_getElem? (i := 20) (by decide +kernel), List.mem_of_getElem? (i := 510) (by decide +kernel), List.mem_of_getElem? (i := 511) (by decide +kernel)⟩
theorem lw_p21 : lw_okq (⟨"ContentLibrary$Blocks", "put", "(III)Z"⟩, 5) := ⟨⟨by decide +kernel, by decide +kernel⟩, List.mem_of_getElem? (i := 34) (by decide +kernel), List.mem_of_getElem? (i := 518) (by decide +kernel), List.mem_of_getElem? (i := 519) (by decide +kernel)⟩
theorem lw_p22 : lw_okq (⟨"ContentLibrary$Blocks", "beginImage", "(IIII)V"⟩, 5) := ⟨⟨by decide +kernel, by decide +kernel⟩, List.mem_of_getElem? (i := 34) (by decide +kernel), List.mem_of_getElem? (i := 529) (by decide +kernel), List.mem_of_getElem? (i := 530) (by decide +kernel)⟩
theorem lw_p23 : lw_okq (⟨"ContentLibrary$Blocks", "writeImage", "(I)Z"⟩, 5) := ⟨⟨by decide +kernel, by decide +kernel⟩, List.mem_of_getElem? (i := 34) (by decide +kernel), List.mem_of_getElem? (i := 534) (by decide +kernel), List.mem_of_getElem? (i := 535) (by decide +kernel)⟩
theorem lw_p24 : lw_okq (⟨"ContentLibrary", "afterCut", "()I"⟩, 9) := ⟨⟨by decide +kernel, by decide +kernel⟩, List.mem_of_getElem? (i := 20) (by decide +kernel), List.mem_of_getElem? (i := 548) (by decide +kernel), List.mem_of_getElem? (i := 549) (by decide +kernel)⟩
theorem lw_p25 : lw_okq (⟨"ContentLibrary", "keptAt", "(I)LContentLibrary$Kept;"⟩, 9) := ⟨⟨by decide +kernel, by decide +kernel⟩, List.mem_of_getElem? (i := 20) (by decide +kernel), List.mem_of_getElem? (i := 559) (by decide +kernel), List.mem_of_getElem? (i := 560) (by decide +kernel)⟩
theorem lw_p26 : lw_okq (⟨"ContentLibrary", "enterFound", "(II)V"⟩, 9) := ⟨⟨by decide +kernel, by decide +kernel⟩, List.mem_of_getElem? (i := 20) (by decide +kernel), List.mem_of_getElem? (i := 597) (by decide +kernel), List.mem_of_getElem? (i := 598) (by decide +kernel)⟩
theorem lw_p27 : lw_okq (⟨"ContentLibrary", "refuseUnlessByte", "(II)V"⟩, 9) := ⟨⟨by decide +kernel, by decide +kernel⟩, List.mem_of_getElem? (i := 20) (by decide +kernel), List.mem_of_getElem? (i := 639) (by decide +kernel), List.mem_of_getElem? (i := 640) (by decide +kernel)⟩
theorem lw_p28 : lw_okq (⟨"ContentLibraryModel", "isMade", "(I)Z"⟩, 31) := ⟨⟨by decide +kernel, by decide +kernel⟩, List.mem_of_getElem? (i := 656) (by decide +kernel), List.mem_of_getElem? (i := 780) (by decide +kernel), List.mem_of_getElem? (i := 781) (by decide +kernel)⟩
theorem lw_p29 : lw_okq (⟨"ContentLibraryModel", "isWhole", "(I)Z"⟩, 31) := ⟨⟨by decide +kernel, by decide +kernel⟩, List.mem_of_getElem? (i := 656) (by decide +kernel), List.mem_of_getElem? (i := 784) (by decide +kernel), List.mem_of_getElem? (i := 785) (by decide +kernel)⟩
theorem lw_p30 : lw_okq (⟨"ContentLibraryModel", "numberWith", "(I)I"⟩, 31) := ⟨⟨by decide +kernel, by decide +kernel⟩, List.mem_of_getElem? (i := 656) (by decide +kernel), List.mem_of_getElem? (i := 792) (by decide +kernel), List.mem_of_getElem? (i := 793) (by decide +kernel)⟩
theorem lw_p31 : lw_okq (⟨"ContentLibraryModel", "tell", "(II[II)V"⟩, 31) := ⟨⟨by decide +kernel, by decide +kernel⟩, List.mem_of_getElem? (i := 656) (by decide +kernel), List.mem_of_getElem? (i := 796) (by decide +kernel), List.mem_of_getElem? (i := 797) (by decide +kernel)⟩
def lw_privs_2 : List (MethodName × Nat) := [(⟨"ContentLibrary", "pictureBeingMade", "(I)LContentLibrary$Picture;"⟩, 9), (⟨"ContentLibrary", "freeNumber", "()I"⟩, 9), (⟨"ContentLibrary", "choosePlaces", "(LContentLibrary$Kept;I)Z"⟩, 9), (⟨"ContentLibrary", "commit", "(ILContentLibrary$Picture;)Z"⟩, 9), (⟨"ContentLibrary", "wipeFreeBlocks", "(I)I"⟩, 9), (⟨"ContentLibrary$Blocks", "put", "(III)Z"⟩, 5), (⟨"ContentLibrary$Blocks", "beginImage", "(IIII)V"⟩, 5), (⟨"ContentLibrary$Blocks", "writeImage", "(I)Z"⟩, 5), (⟨"ContentLibrary", "afterCut", "()I"⟩, 9), (⟨"ContentLibrary", "keptAt", "(I)LContentLibrary$Kept;"⟩, 9), (⟨"ContentLibrary", "enterFound", "(II)V"⟩, 9), (⟨"ContentLibrary", "refuseUnlessByte", "(II)V"⟩, 9), (⟨"ContentLibraryModel", "isMade", "(I)Z"⟩, 31), (⟨"ContentLibraryModel", "isWhole", "(I)Z"⟩, 31), (⟨"ContentLibraryModel", "numberWith", "(I)I"⟩, 31), (⟨"ContentLibraryModel", "tell", "(II[II)V"⟩, 31)]
theorem lw_r2 : ∀ q ∈ lw_privs_2, lw_okq q := List.forall_mem_cons.mpr ⟨lw_p16, List.forall_mem_cons.mpr ⟨lw_p17, List.forall_mem_cons.mpr ⟨lw_p18, List.forall_mem_cons.mpr ⟨lw_p19, List.forall_mem_cons.mpr ⟨lw_p20, List.forall_mem_cons.mpr ⟨lw_p21, List.forall_mem_cons.mpr ⟨lw_p22, List.forall_mem_cons.mpr ⟨lw_p23, List.forall_mem_cons.mpr ⟨lw_p24, List.forall_mem_cons.mpr ⟨lw_p25, List.forall_mem_cons.mpr ⟨lw_p26, List.forall_mem_cons.mpr ⟨lw_p27, List.forall_mem_cons.mpr ⟨lw_p28, List.forall_mem_cons.mpr ⟨lw_p29, List.forall_mem_cons.mpr ⟨lw_p30, List.forall_mem_cons.mpr ⟨lw_p31, fun _ h => absurd h List.not_mem_nil⟩⟩⟩⟩⟩⟩⟩⟩⟩⟩⟩⟩⟩⟩⟩⟩
theorem lw_p32 : lw_okq (⟨"ContentLibraryModel", "digestOf", "()V"⟩, 31) := ⟨⟨by decide +kernel, by decide +kernel⟩, List.mem_of_getElem? (i := 656) (by decide +kernel), List.mem_of_getElem? (i := 800) (by decide +kernel), List.mem_of_getElem? (i := 801) (by decide +kernel)⟩
theorem lw_p33 : lw_okq (⟨"ContentLibraryModel", "block", "(I)V"⟩, 31) := ⟨⟨by decide +kernel, by decide +kernel⟩, List.mem_of_getElem? (i := 656) (by decide +kernel), List.mem_of_getElem? (i := 804) (by decide +kernel), List.mem_of_getElem? (i := 805) (by decide +kernel)⟩
theorem lw_p34 : lw_okq (⟨"ContentLibraryModel", "freeBlocks", "()I"⟩, 31) := ⟨⟨by decide +kernel, by decide +kernel⟩, List.mem_of_getElem? (i := 656) (by decide +kernel), List.mem_of_getElem? (i := 811) (by decide +kernel), List.mem_of_getElem? (i := 812) (by decide +kernel)⟩
theorem lw_p35 : lw_okq (⟨"ContentLibraryModel", "isNothing", "(I)Z"⟩, 31) := ⟨⟨by decide +kernel, by decide +kernel⟩, List.mem_of_getElem? (i := 656) (by decide +kernel), List.mem_of_getElem? (i := 815) (by decide +kernel), List.mem_of_getElem? (i := 816) (by decide +kernel)⟩
theorem lw_p36 : lw_okq (⟨"ContentLibraryModel", "wipe", "(I)V"⟩, 31) := ⟨⟨by decide +kernel, by decide +kernel⟩, List.mem_of_getElem? (i := 656) (by decide +kernel), List.mem_of_getElem? (i := 819) (by decide +kernel), List.mem_of_getElem? (i := 820) (by decide +kernel)⟩
theorem lw_p37 : lw_okq (⟨"ContentLibraryModel", "write", "(II)V"⟩, 31) := ⟨⟨by decide +kernel, by decide +kernel⟩, List.mem_of_getElem? (i := 656) (by decide +kernel), List.mem_of_getElem? (i := 823) (by decide +kernel), List.mem_of_getElem? (i := 824) (by decide +kernel)⟩
theorem lw_p38 : lw_okq (⟨"ContentLibraryModel", "writeBlock", "(IIIIIII)V"⟩, 31) := ⟨⟨by decide +kernel, by decide +kernel⟩, List.mem_of_getElem? (i := 656) (by decide +kernel), List.mem_of_getElem? (i := 827) (by decide +kernel), List.mem_of_getElem? (i := 828) (by decide +kernel)⟩
theorem lw_p39 : lw_okq (⟨"ContentLibraryModel", "byteFor", "(IIIIIII)I"⟩, 31) := ⟨⟨by decide +kernel, by decide +kernel⟩, List.mem_of_getElem? (i := 656) (by decide +kernel), List.mem_of_getElem? (i := 831) (by decide +kernel), List.mem_of_getElem? (i := 832) (by decide +kernel)⟩
theorem lw_p40 : lw_okq (⟨"ContentLibraryModel", "isGone", "()Z"⟩, 31) := ⟨⟨by decide +kernel, by decide +kernel⟩, List.mem_of_getElem? (i := 656) (by decide +kernel), List.mem_of_getElem? (i := 836) (by decide +kernel), List.mem_of_getElem? (i := 837) (by decide +kernel)⟩
theorem lw_p41 : lw_okq (⟨"ContentLibraryModel", "forget", "()V"⟩, 31) := ⟨⟨by decide +kernel, by decide +kernel⟩, List.mem_of_getElem? (i := 656) (by decide +kernel), List.mem_of_getElem? (i := 840) (by decide +kernel), List.mem_of_getElem? (i := 841) (by decide +kernel)⟩
theorem lw_p42 : lw_okq (⟨"ContentLibraryModel", "isThere", "(I)Z"⟩, 31) := ⟨⟨by decide +kernel, by decide +kernel⟩, List.mem_of_getElem? (i := 656) (by decide +kernel), List.mem_of_getElem? (i := 851) (by decide +kernel), List.mem_of_getElem? (i := 852) (by decide +kernel)⟩
theorem lw_p43 : lw_okq (⟨"ContentLibraryModel", "openNumber", "(I)V"⟩, 31) := ⟨⟨by decide +kernel, by decide +kernel⟩, List.mem_of_getElem? (i := 656) (by decide +kernel), List.mem_of_getElem? (i := 890) (by decide +kernel), List.mem_of_getElem? (i := 891) (by decide +kernel)⟩
theorem lw_p44 : lw_okq (⟨"ContentLibraryModel", "only", "(III)I"⟩, 31) := ⟨⟨by decide +kernel, by decide +kernel⟩, List.mem_of_getElem? (i := 656) (by decide +kernel), List.mem_of_getElem? (i := 894) (by decide +kernel), List.mem_of_getElem? (i := 895) (by decide +kernel)⟩
theorem lw_p45 : lw_okq (⟨"ContentLibraryModel", "isGood", "(I)Z"⟩, 31) := ⟨⟨by decide +kernel, by decide +kernel⟩, List.mem_of_getElem? (i := 656) (by decide +kernel), List.mem_of_getElem? (i := 898) (by decide +kernel), List.mem_of_getElem? (i := 899) (by decide +kernel)⟩
theorem lw_p46 : lw_okq (⟨"ContentLibraryModel", "sumOf", "(I)I"⟩, 31) := ⟨⟨by decide +kernel, by decide +kernel⟩, List.mem_of_getElem? (i := 656) (by decide +kernel), List.mem_of_getElem? (i := 902) (by decide +kernel), List.mem_of_getElem? (i := 903) (by decide +kernel)⟩
def lw_privs_3 : List (MethodName × Nat) := [(⟨"ContentLibraryModel", "digestOf", "()V"⟩, 31), (⟨"ContentLibraryModel", "block", "(I)V"⟩, 31), (⟨"ContentLibraryModel", "freeBlocks", "()I"⟩, 31), (⟨"ContentLibraryModel", "isNothing", "(I)Z"⟩, 31), (⟨"ContentLibraryModel", "wipe", "(I)V"⟩, 31), (⟨"ContentLibraryModel", "write", "(II)V"⟩, 31), (⟨"ContentLibraryModel", "writeBlock", "(IIIIIII)V"⟩, 31), (⟨"ContentLibraryModel", "byteFor", "(IIIIIII)I"⟩, 31), (⟨"ContentLibraryModel", "isGone", "()Z"⟩, 31), (⟨"ContentLibraryModel", "forget", "()V"⟩, 31), (⟨"ContentLibraryModel", "isThere", "(I)Z"⟩, 31), (⟨"ContentLibraryModel", "openNumber", "(I)V"⟩, 31), (⟨"ContentLibraryModel", "only", "(III)I"⟩, 31), (⟨"ContentLibraryModel", "isGood", "(I)Z"⟩, 31), (⟨"ContentLibraryModel", "sumOf", "(I)I"⟩, 31)]
theorem lw_r3 : ∀ q ∈ lw_privs_3, lw_okq q := List.forall_mem_cons.mpr ⟨lw_p32, List.forall_mem_cons.mpr ⟨lw_p33, List.forall_mem_cons.mpr ⟨lw_p34, List.forall_mem_cons.mpr ⟨lw_p35, List.forall_mem_cons.mpr ⟨lw_p36, List.forall_mem_cons.mpr ⟨lw_p37, List.forall_mem_cons.mpr ⟨lw_p38, List.forall_mem_cons.mpr ⟨lw_p39, List.forall_mem_cons.mpr ⟨lw_p40, List.forall_mem_cons.mpr ⟨lw_p41, List.forall_mem_cons.mpr ⟨lw_p42, List.forall_mem_cons.mpr ⟨lw_p43, List.forall_mem_cons.mpr ⟨lw_p44, List.forall_mem_cons.mpr ⟨lw_p45, List.forall_mem_cons.mpr ⟨lw_p46, fun _ h => absurd h List.not_mem_nil⟩⟩⟩⟩⟩⟩⟩⟩⟩⟩⟩⟩⟩⟩⟩
def lw_privs : List (MethodName × Nat) := lw_privs_1 ++ (lw_privs_2 ++ (lw_privs_3))
def lw_tbl : List Cond := k2_sels lw_privs ++ tables_1
theorem lw_privs_ok : ∀ q ∈ lw_privs, lw_okq q := by
  show ∀ q ∈ lw_privs_1 ++ (lw_privs_2 ++ (lw_privs_3)), lw_okq q
  exact List.forall_mem_append.mpr ⟨lw_r1, List.forall_mem_append.mpr ⟨lw_r2, lw_r3⟩⟩
-- ===== end of PART A; then your names; then what follows =====
end
section
/-! THE WORDS: the tables' words that stay good; every method's list is its own code and these -/
def x_big : List Cond := lw_tbl.filter goodWord
theorem x_bt (i : Nat) {w : Cond} (h : tables_1[i]? = some w) (hg : goodWord w = true) : w ∈ x_big :=
  List.mem_filter.mpr ⟨List.mem_append_right _ (List.mem_of_getElem? h), hg⟩
theorem x_bs (i : Nat) {w : Cond} (h : (k2_sels lw_privs)[i]? = some w) (hg : goodWord w = true) : w ∈ x_big :=
  List.mem_filter.mpr ⟨List.mem_append_left _ (List.mem_of_getElem? h), hg⟩
theorem x_bg {w : Cond} (h : w ∈ x_big) : w ∈ lw_tbl ∧ goodWord w = true := List.mem_filter.mp h
abbrev x_ws (y : MethodName) (c : ByteArray) (n : Nat) (r : Option FieldType) : List Cond := Cond.code y c n r :: x_big
theorem x_gws {y : MethodName} {c : ByteArray} {n : Nat} {r : Option FieldType} (h : Cond.code y c n r ∈ x_big) : GoodIn x_big (x_ws y c n r) := by
  intro w hw
  have hm : w ∈ x_big := (List.mem_cons.mp hw).elim (fun e => e ▸ h) id
  exact ⟨hm, good_of_word (x_bg hm).2⟩
theorem x_gV {own : String} {idx : Nat} {C : String} {y : MethodName} {c : ByteArray} {n : Nat} {r : Option FieldType} (h1 : Cond.methodLink own idx y ∈ x_big) (h2 : Cond.instanceMethod y ∈ x_big) (h3 : Cond.selects C y y ∈ x_big) (h4 : Cond.initialized C ∈ x_big) (h5 : Cond.code y c n r ∈ x_big) : GoodIn x_big (wsV own idx C y (x_ws y c n r)) := by
  intro w hw
  rcases List.mem_append.mp hw with h | h
  · have hm : w ∈ x_big := by
      simp only [List.mem_cons, List.not_mem_nil, or_false] at h
      rcases h with rfl | rfl | rfl | rfl <;> assumption
    exact ⟨hm, good_of_word (x_bg hm).2⟩
  · exact x_gws h5 w h
theorem x_gS {own : String} {idx : Nat} {y : MethodName} {c : ByteArray} {n : Nat} {r : Option FieldType} (h1 : Cond.methodLink own idx y ∈ x_big) (h2 : Cond.static y ∈ x_big) (h4 : Cond.initialized y.cls ∈ x_big) (h5 : Cond.code y c n r ∈ x_big) : GoodIn x_big (va_wsS own idx y (x_ws y c n r)) := by
  intro w hw
  rcases List.mem_append.mp hw with h | h
  · have hm : w ∈ x_big := by
      simp only [List.mem_cons, List.not_mem_nil, or_false] at h
      rcases h with rfl | rfl | rfl <;> assumption
    exact ⟨hm, good_of_word (x_bg hm).2⟩
  · exact x_gws h5 w h
/-! PURE WORDS: a state is what the int cells and the long cells hold, by cell and place -/
abbrev x_St : Type := (Nat → Nat → Int32) × (Nat → Nat → Int64)
def x_put (z : x_St) (k j : Nat) (v : Int32) : x_St := (va_up z.1 k (upd (z.1 k) j v), z.2)
def x_putL (z : x_St) (k j : Nat) (v : Int64) : x_St := (z.1, va_up z.2 k (vp_updL (z.2 k) j v))
def x_cpy (z : x_St) (k1 sp k2 dp w : Nat) : x_St := (va_up z.1 k2 (va_cpy (z.1 k1) (z.1 k2) sp dp w), z.2)
def x_cpyT (z : x_St) (f : Nat → Int32) (sp k2 dp w : Nat) : x_St := (va_up z.1 k2 (va_cpy f (z.1 k2) sp dp w), z.2)
def x_ushr (x y : Int32) : Int32 := (x.toUInt32 >>> (y.toUInt32 &&& Int32.toUInt32 31)).toInt32
def x_lshl (x : Int64) (y : Int32) : Int64 := x <<< (y.toInt64 &&& 63)
def x_lushr (x : Int64) (y : Int32) : Int64 := (x.toUInt64 >>> (y.toInt64.toUInt64 &&& Int64.toUInt64 63)).toInt64
def x_FU : Nat := 1000000
/-- a place that must be in its row -/
def x_ck {β : Type} (i : Int32) (n : Nat) (K : Option β) : Option β := if i < 0 ∨ n ≤ i.toNatClampNeg then none else K
theorem x_ck_some {β : Type} {i : Int32} {n : Nat} {K : Option β} {o : β} (h : x_ck i n K = some o) : vp_in i n ∧ K = some o := by
  unfold x_ck at h
  by_cases hc : i < 0 ∨ n ≤ i.toNatClampNeg
  · rw [if_pos hc] at h; cases h
  · rw [if_neg hc] at h; exact ⟨hc, h⟩
def x_nz {β : Type} (y : Int32) (K : Option β) : Option β := if y = 0 then none else K
theorem x_nz_some {β : Type} {y : Int32} {K : Option β} {o : β} (h : x_nz y K = some o) : ¬ y = 0 ∧ K = some o := by
  unfold x_nz at h
  by_cases hc : y = 0
  · rw [if_pos hc] at h; cases h
  · rw [if_neg hc] at h; exact ⟨hc, h⟩
def x_ckb {β : Type} (y : Int32) (K : Option β) : Option β := if y = 0 ∨ y = 1 then K else none
theorem x_ckb_some {β : Type} {y : Int32} {K : Option β} {o : β} (h : x_ckb y K = some o) : (y = 0 ∨ y = 1) ∧ K = some o := by
  unfold x_ckb at h
  by_cases hc : y = 0 ∨ y = 1
  · rw [if_pos hc] at h; exact ⟨hc, h⟩
  · rw [if_neg hc] at h; cases h
theorem x_nb {y : Int32} (h : y = 0 ∨ y = 1) : narrow .boolean (.int y) = .int y := by
  rcases h with rfl | rfl <;> rfl
def x_ckc {β : Type} (sp dp w : Int32) (n0 n1 : Nat) (K : Option β) : Option β := if sp < 0 ∨ dp < 0 ∨ w < 0 ∨ n0 < sp.toNatClampNeg + w.toNatClampNeg ∨ n1 < dp.toNatClampNeg + w.toNatClampNeg then none else K
theorem x_ckc_some {β : Type} {sp dp w : Int32} {n0 n1 : Nat} {K : Option β} {o : β} (h : x_ckc sp dp w n0 n1 K = some o) : ¬ sp < 0 ∧ ¬ dp < 0 ∧ ¬ w < 0 ∧ sp.toNatClampNeg + w.toNatClampNeg ≤ n0 ∧ dp.toNatClampNeg + w.toNatClampNeg ≤ n1 ∧ K = some o := by
  unfold x_ckc at h
  by_cases hc : sp < 0 ∨ dp < 0 ∨ w < 0 ∨ n0 < sp.toNatClampNeg + w.toNatClampNeg ∨ n1 < dp.toNatClampNeg + w.toNatClampNeg
  · rw [if_pos hc] at h; cases h
  · rw [if_neg hc] at h
    refine ⟨fun q => hc (Or.inl q), fun q => hc (Or.inr (Or.inl q)), fun q => hc (Or.inr (Or.inr (Or.inl q))), Nat.not_lt.mp fun q => hc (Or.inr (Or.inr (Or.inr (Or.inl q)))), Nat.not_lt.mp fun q => hc (Or.inr (Or.inr (Or.inr (Or.inr q)))), h⟩
theorem x_br_t {β : Type} {c : Prop} [Decidable c] {A B : Option β} {o : β} (h : (if c then A else B) = some o) (hc : c) : A = some o := by rw [if_pos hc] at h; exact h
theorem x_br_f {β : Type} {c : Prop} [Decidable c] {A B : Option β} {o : β} (h : (if c then A else B) = some o) (hc : ¬ c) : B = some o := by rw [if_neg hc] at h; exact h
/-- a call that returns -/
def x_cl {α β : Type} (o : Option (α × x_St)) (K : α → x_St → Option β) : Option β := match o with
  | none => none
  | some (r, z) => K r z
theorem x_cl_some {α β : Type} {o : Option (α × x_St)} {K : α → x_St → Option β} {b : β} (h : x_cl o K = some b) : ∃ r z, o = some (r, z) ∧ K r z = some b := by
  cases o with
  | none => cases h
  | some q => exact ⟨q.1, q.2, rfl, h⟩
/-- a call that returns or throws, in a method that may throw -/
def x_clx {α β : Type} (o : Option ((String ⊕ α) × x_St)) (K : α → x_St → Option ((String ⊕ β) × x_St)) : Option ((String ⊕ β) × x_St) := match o with
  | none => none
  | some (.inl E, z) => some (.inl E, z)
  | some (.inr r, z) => K r z
theorem x_clx_some {α β : Type} {o : Option ((String ⊕ α) × x_St)} {K : α → x_St → Option ((String ⊕ β) × x_St)} {b : (String ⊕ β) × x_St} (h : x_clx o K = some b) : ∃ q z, o = some (q, z) ∧ (∀ E, q = .inl E → b = (.inl E, z)) ∧ ∀ r, q = .inr r → K r z = some b := by
  cases o with
  | none => cases h
  | some q =>
    obtain ⟨a, z⟩ := q
    refine ⟨a, z, rfl, ?_, ?_⟩
    · intro E e; subst e; exact (Option.some.inj h).symm
    · intro r e; subst e; exact h
theorem x_clx_r {α β : Type} {o : Option ((String ⊕ α) × x_St)} {K : α → x_St → Option ((String ⊕ β) × x_St)} {r : β} {z9 : x_St} (h : x_clx o K = some (.inr r, z9)) : ∃ r1 z1, o = some (.inr r1, z1) ∧ K r1 z1 = some (.inr r, z9) := by
  rcases o with _ | ⟨a | a, y⟩
  · cases h
  · cases h
  · exact ⟨a, y, rfl, h⟩
theorem x_clx_x {α β : Type} {o : Option ((String ⊕ α) × x_St)} {K : α → x_St → Option ((String ⊕ β) × x_St)} {E : String} {z9 : x_St} (h : x_clx o K = some (.inl E, z9)) : o = some (.inl E, z9) ∨ ∃ r1 z1, o = some (.inr r1, z1) ∧ K r1 z1 = some (.inl E, z9) := by
  rcases o with _ | ⟨a | a, y⟩
  · cases h
  · cases h; exact Or.inl rfl
  · exact Or.inr ⟨a, y, rfl, h⟩
theorem x_retr {α : Type} {a b : α} {y z : x_St} (h : some ((Sum.inr a : String ⊕ α), y) = some (.inr b, z)) : a = b ∧ y = z := by
  cases h; exact ⟨rfl, rfl⟩
theorem x_retx {α : Type} {a b : String} {y z : x_St} (h : some ((Sum.inl a : String ⊕ α), y) = some (.inl b, z)) : a = b ∧ y = z := by
  cases h; exact ⟨rfl, rfl⟩
theorem x_no_r {α : Type} {a : String} {b : α} {y z : x_St} : ¬ some ((Sum.inl a : String ⊕ α), y) = some (.inr b, z) := fun h => by cases h
theorem x_no_x {α : Type} {a : α} {b : String} {y z : x_St} : ¬ some ((Sum.inr a : String ⊕ α), y) = some (.inl b, z) := fun h => by cases h
theorem x_ret {α : Type} {a b : α} {y z : x_St} (h : some (a, y) = some (b, z)) : a = b ∧ y = z := by
  cases h; exact ⟨rfl, rfl⟩
theorem x_out7 {x : Int32} (h0 : ¬ x = 0) (h1 : ¬ x = 1) (h2 : ¬ x = 2) (h3 : ¬ x = 3) (h4 : ¬ x = 4) (h5 : ¬ x = 5) (h6 : ¬ x = 6) : x.toInt < 0 ∨ 6 < x.toInt := by
  have e0 : x.toInt ≠ 0 := fun e => h0 (Int32.toInt_inj.mp (e.trans (by decide)))
  have e1 : x.toInt ≠ 1 := fun e => h1 (Int32.toInt_inj.mp (e.trans (by decide)))
  have e2 : x.toInt ≠ 2 := fun e => h2 (Int32.toInt_inj.mp (e.trans (by decide)))
  have e3 : x.toInt ≠ 3 := fun e => h3 (Int32.toInt_inj.mp (e.trans (by decide)))
  have e4 : x.toInt ≠ 4 := fun e => h4 (Int32.toInt_inj.mp (e.trans (by decide)))
  have e5 : x.toInt ≠ 5 := fun e => h5 (Int32.toInt_inj.mp (e.trans (by decide)))
  have e6 : x.toInt ≠ 6 := fun e => h6 (Int32.toInt_inj.mp (e.trans (by decide)))
  omega
theorem x_out16 {x : Int32} (h0 : ¬ x = 0) (h1 : ¬ x = 1) (h2 : ¬ x = 2) (h3 : ¬ x = 3) (h4 : ¬ x = 4) (h5 : ¬ x = 5) (h6 : ¬ x = 6) (h7 : ¬ x = 7) (h8 : ¬ x = 8) (h9 : ¬ x = 9) (h10 : ¬ x = 10) (h11 : ¬ x = 11) (h12 : ¬ x = 12) (h13 : ¬ x = 13) (h14 : ¬ x = 14) (h15 : ¬ x = 15) : x.toInt < 0 ∨ 15 < x.toInt := by
  have e0 : x.toInt ≠ 0 := fun e => h0 (Int32.toInt_inj.mp (e.trans (by decide)))
  have e1 : x.toInt ≠ 1 := fun e => h1 (Int32.toInt_inj.mp (e.trans (by decide)))
  have e2 : x.toInt ≠ 2 := fun e => h2 (Int32.toInt_inj.mp (e.trans (by decide)))
  have e3 : x.toInt ≠ 3 := fun e => h3 (Int32.toInt_inj.mp (e.trans (by decide)))
  have e4 : x.toInt ≠ 4 := fun e => h4 (Int32.toInt_inj.mp (e.trans (by decide)))
  have e5 : x.toInt ≠ 5 := fun e => h5 (Int32.toInt_inj.mp (e.trans (by decide)))
  have e6 : x.toInt ≠ 6 := fun e => h6 (Int32.toInt_inj.mp (e.trans (by decide)))
  have e7 : x.toInt ≠ 7 := fun e => h7 (Int32.toInt_inj.mp (e.trans (by decide)))
  have e8 : x.toInt ≠ 8 := fun e => h8 (Int32.toInt_inj.mp (e.trans (by decide)))
  have e9 : x.toInt ≠ 9 := fun e => h9 (Int32.toInt_inj.mp (e.trans (by decide)))
  have e10 : x.toInt ≠ 10 := fun e => h10 (Int32.toInt_inj.mp (e.trans (by decide)))
  have e11 : x.toInt ≠ 11 := fun e => h11 (Int32.toInt_inj.mp (e.trans (by decide)))
  have e12 : x.toInt ≠ 12 := fun e => h12 (Int32.toInt_inj.mp (e.trans (by decide)))
  have e13 : x.toInt ≠ 13 := fun e => h13 (Int32.toInt_inj.mp (e.trans (by decide)))
  have e14 : x.toInt ≠ 14 := fun e => h14 (Int32.toInt_inj.mp (e.trans (by decide)))
  have e15 : x.toInt ≠ 15 := fun e => h15 (Int32.toInt_inj.mp (e.trans (by decide)))
  omega
theorem x_put_self (z : x_St) (k j : Nat) (v : Int32) : (x_put z k j v).1 k = upd (z.1 k) j v := va_up_self _ _ _
theorem x_put_ne (z : x_St) {k i : Nat} (j : Nat) (v : Int32) (h : i ≠ k) : (x_put z k j v).1 i = z.1 i := va_up_ne _ _ h
theorem x_putL_self (z : x_St) (k j : Nat) (v : Int64) : (x_putL z k j v).2 k = vp_updL (z.2 k) j v := va_up_self _ _ _
theorem x_putL_ne (z : x_St) {k i : Nat} (j : Nat) (v : Int64) (h : i ≠ k) : (x_putL z k j v).2 i = z.2 i := va_up_ne _ _ h
/-! A WORLD: so many cells, each by its number, and others beside them -/
def w_Wd (cf : Nat → (Nat → Int32) → (Nat → Int64) → va_E) (tot : Nat) (ad : Nat → Nat) (rs : va_W) (z : x_St) : va_W := (List.range tot).map (fun k => (ad k, cf k (z.1 k) (z.2 k))) ++ rs
theorem w_get {cf : Nat → (Nat → Int32) → (Nat → Int64) → va_E} {tot : Nat} {ad : Nat → Nat} {rs : va_W} {z : x_St} {k : Nat} (hk : k < tot) : (w_Wd cf tot ad rs z)[k]? = some (ad k, cf k (z.1 k) (z.2 k)) := by
  unfold w_Wd
  rw [List.getElem?_append_left (by simpa using hk), List.getElem?_map, List.getElem?_range hk]
  rfl
theorem w_out {cf : Nat → (Nat → Int32) → (Nat → Int64) → va_E} {tot : Nat} {ad : Nat → Nat} {rs : va_W} {z : x_St} {k : Nat} (hk : ¬ k < tot) : (w_Wd cf tot ad rs z)[k]? = rs[k - tot]? := by
  unfold w_Wd
  rw [List.getElem?_append_right (by simpa using Nat.not_lt.mp hk)]
  simp
theorem w_len {cf : Nat → (Nat → Int32) → (Nat → Int64) → va_E} {tot : Nat} {ad : Nat → Nat} {rs : va_W} {z : x_St} : (w_Wd cf tot ad rs z).length = tot + rs.length := by
  unfold w_Wd
  simp
theorem w_set {cf : Nat → (Nat → Int32) → (Nat → Int64) → va_E} {tot : Nat} {ad : Nat → Nat} {rs : va_W} {k : Nat} {e : va_E} (z z' : x_St) (hk : k < tot) (he : e = cf k (z'.1 k) (z'.2 k)) (h1 : ∀ j, j ≠ k → z'.1 j = z.1 j) (h2 : ∀ j, j ≠ k → z'.2 j = z.2 j) : (w_Wd cf tot ad rs z).set k (ad k, e) = w_Wd cf tot ad rs z' := by
  apply List.ext_getElem?
  intro j
  by_cases hj : j = k
  · subst hj
    rw [List.getElem?_set_self (by rw [w_len]; omega), w_get hk, he]
  · rw [List.getElem?_set_ne (Ne.symm hj)]
    by_cases hb : j < tot
    · rw [w_get hb, w_get hb, h1 j hj, h2 j hj]
    · rw [w_out hb, w_out hb]
/-! THE SURROUNDINGS: class numbers, slots, array classes, addresses, how many blocks, where the old heap ends, the other cells -/
abbrev x_G : Type := (Nat → ClassId) × (Nat → Nat → Nat) × (Nat → ClassId) × (Nat → Nat) × Nat × Nat × va_W
abbrev x_D (G : x_G) : va_G := (G.1, G.2.1)
abbrev x_ca (G : x_G) : Nat → ClassId := G.2.2.1
abbrev x_ad (G : x_G) : Nat → Nat := G.2.2.2.1
abbrev x_n (G : x_G) : Nat := G.2.2.2.2.1
abbrev x_s0 (G : x_G) : Nat := G.2.2.2.2.2.1
abbrev x_rs (G : x_G) : va_W := G.2.2.2.2.2.2
def x_A (G : x_G) : Nat → Prop := fun q => x_s0 G ≤ q
end
section
theorem t_47 : Cond.laysFinal "ContentLibrary$Blocks" "ContentLibrary$Blocks" "count" "I" ∈ x_big := x_bt 47 (by decide +kernel) (by decide +kernel)
theorem t_49 : Cond.lays "ContentLibrary$Blocks" "ContentLibrary$Blocks" "fuse" "I" ∈ x_big := x_bt 49 (by decide +kernel) (by decide +kernel)
theorem t_51 : Cond.lays "ContentLibrary$Blocks" "ContentLibrary$Blocks" "cut" "Z" ∈ x_big := x_bt 51 (by decide +kernel) (by decide +kernel)
theorem t_53 : Cond.laysFinal "ContentLibrary$Blocks" "ContentLibrary$Blocks" "bytes" "[I" ∈ x_big := x_bt 53 (by decide +kernel) (by decide +kernel)
theorem t_55 : Cond.laysFinal "ContentLibrary$Blocks" "ContentLibrary$Blocks" "image" "[I" ∈ x_big := x_bt 55 (by decide +kernel) (by decide +kernel)
theorem t_72 : Cond.lays "ContentLibrary$Picture" "ContentLibrary$Picture" "there" "Z" ∈ x_big := x_bt 72 (by decide +kernel) (by decide +kernel)
theorem t_74 : Cond.laysFinal "ContentLibrary$Picture" "ContentLibrary$Picture" "message" "[I" ∈ x_big := x_bt 74 (by decide +kernel) (by decide +kernel)
theorem t_76 : Cond.lays "ContentLibrary$Picture" "ContentLibrary$Picture" "had" "I" ∈ x_big := x_bt 76 (by decide +kernel) (by decide +kernel)
theorem t_101 : Cond.lays "ContentLibrary$Kept" "ContentLibrary$Kept" "there" "Z" ∈ x_big := x_bt 101 (by decide +kernel) (by decide +kernel)
theorem t_103 : Cond.laysFinal "ContentLibrary$Kept" "ContentLibrary$Kept" "picture" "LContentLibrary$Picture;" ∈ x_big := x_bt 103 (by decide +kernel) (by decide +kernel)
theorem t_105 : Cond.laysFinal "ContentLibrary$Kept" "ContentLibrary$Kept" "digest" "[I" ∈ x_big := x_bt 105 (by decide +kernel) (by decide +kernel)
theorem t_107 : Cond.lays "ContentLibrary$Kept" "ContentLibrary$Kept" "print" "J" ∈ x_big := x_bt 107 (by decide +kernel) (by decide +kernel)
theorem t_109 : Cond.lays "ContentLibrary$Kept" "ContentLibrary$Kept" "recordBlocks" "I" ∈ x_big := x_bt 109 (by decide +kernel) (by decide +kernel)
theorem t_111 : Cond.laysFinal "ContentLibrary$Kept" "ContentLibrary$Kept" "places" "[I" ∈ x_big := x_bt 111 (by decide +kernel) (by decide +kernel)
theorem t_123 : Cond.laysFinal "ContentLibrary$Digester" "ContentLibrary$Digester" "padded" "[I" ∈ x_big := x_bt 123 (by decide +kernel) (by decide +kernel)
theorem t_125 : Cond.laysFinal "ContentLibrary$Digester" "ContentLibrary$Digester" "schedule" "[I" ∈ x_big := x_bt 125 (by decide +kernel) (by decide +kernel)
theorem t_127 : Cond.laysFinal "ContentLibrary$Digester" "ContentLibrary$Digester" "state" "[I" ∈ x_big := x_bt 127 (by decide +kernel) (by decide +kernel)
theorem t_139 : Cond.laysFinal "ContentLibrary" "ContentLibrary" "blocks" "LContentLibrary$Blocks;" ∈ x_big := x_bt 139 (by decide +kernel) (by decide +kernel)
theorem t_141 : Cond.laysFinal "ContentLibrary" "ContentLibrary" "used" "[Z" ∈ x_big := x_bt 141 (by decide +kernel) (by decide +kernel)
theorem t_143 : Cond.laysFinal "ContentLibrary" "ContentLibrary" "made" "[LContentLibrary$Picture;" ∈ x_big := x_bt 143 (by decide +kernel) (by decide +kernel)
theorem t_145 : Cond.laysFinal "ContentLibrary" "ContentLibrary" "kept" "[LContentLibrary$Kept;" ∈ x_big := x_bt 145 (by decide +kernel) (by decide +kernel)
theorem t_147 : Cond.laysFinal "ContentLibrary" "ContentLibrary" "digester" "LContentLibrary$Digester;" ∈ x_big := x_bt 147 (by decide +kernel) (by decide +kernel)
theorem t_149 : Cond.laysFinal "ContentLibrary" "ContentLibrary" "freshDigest" "[I" ∈ x_big := x_bt 149 (by decide +kernel) (by decide +kernel)
theorem t_151 : Cond.laysFinal "ContentLibrary" "ContentLibrary" "foundNumbers" "[I" ∈ x_big := x_bt 151 (by decide +kernel) (by decide +kernel)
theorem t_153 : Cond.laysFinal "ContentLibrary" "ContentLibrary" "foundBits" "[I" ∈ x_big := x_bt 153 (by decide +kernel) (by decide +kernel)
theorem t_155 : Cond.lays "ContentLibrary" "ContentLibrary" "foundCount" "I" ∈ x_big := x_bt 155 (by decide +kernel) (by decide +kernel)
theorem t_703 : Cond.lays "ContentLibraryModel" "ContentLibraryModel" "code" "I" ∈ x_big := x_bt 703 (by decide +kernel) (by decide +kernel)
theorem t_705 : Cond.laysFinal "ContentLibraryModel" "ContentLibraryModel" "blocks" "I" ∈ x_big := x_bt 705 (by decide +kernel) (by decide +kernel)
theorem t_707 : Cond.laysFinal "ContentLibraryModel" "ContentLibraryModel" "bytes" "[I" ∈ x_big := x_bt 707 (by decide +kernel) (by decide +kernel)
theorem t_709 : Cond.lays "ContentLibraryModel" "ContentLibraryModel" "cut" "Z" ∈ x_big := x_bt 709 (by decide +kernel) (by decide +kernel)
theorem t_711 : Cond.lays "ContentLibraryModel" "ContentLibraryModel" "left" "I" ∈ x_big := x_bt 711 (by decide +kernel) (by decide +kernel)
theorem t_713 : Cond.laysFinal "ContentLibraryModel" "ContentLibraryModel" "made" "[Z" ∈ x_big := x_bt 713 (by decide +kernel) (by decide +kernel)
theorem t_715 : Cond.laysFinal "ContentLibraryModel" "ContentLibraryModel" "widths" "[I" ∈ x_big := x_bt 715 (by decide +kernel) (by decide +kernel)
theorem t_717 : Cond.laysFinal "ContentLibraryModel" "ContentLibraryModel" "heights" "[I" ∈ x_big := x_bt 717 (by decide +kernel) (by decide +kernel)
theorem t_719 : Cond.laysFinal "ContentLibraryModel" "ContentLibraryModel" "many" "[I" ∈ x_big := x_bt 719 (by decide +kernel) (by decide +kernel)
theorem t_721 : Cond.laysFinal "ContentLibraryModel" "ContentLibraryModel" "samples" "[I" ∈ x_big := x_bt 721 (by decide +kernel) (by decide +kernel)
theorem t_723 : Cond.laysFinal "ContentLibraryModel" "ContentLibraryModel" "there" "[Z" ∈ x_big := x_bt 723 (by decide +kernel) (by decide +kernel)
theorem t_725 : Cond.laysFinal "ContentLibraryModel" "ContentLibraryModel" "wide" "[I" ∈ x_big := x_bt 725 (by decide +kernel) (by decide +kernel)
theorem t_727 : Cond.laysFinal "ContentLibraryModel" "ContentLibraryModel" "high" "[I" ∈ x_big := x_bt 727 (by decide +kernel) (by decide +kernel)
theorem t_729 : Cond.laysFinal "ContentLibraryModel" "ContentLibraryModel" "kept" "[I" ∈ x_big := x_bt 729 (by decide +kernel) (by decide +kernel)
theorem t_731 : Cond.laysFinal "ContentLibraryModel" "ContentLibraryModel" "markAt" "[I" ∈ x_big := x_bt 731 (by decide +kernel) (by decide +kernel)
theorem t_733 : Cond.laysFinal "ContentLibraryModel" "ContentLibraryModel" "records" "[I" ∈ x_big := x_bt 733 (by decide +kernel) (by decide +kernel)
theorem t_735 : Cond.laysFinal "ContentLibraryModel" "ContentLibraryModel" "recordAt" "[I" ∈ x_big := x_bt 735 (by decide +kernel) (by decide +kernel)
theorem t_737 : Cond.laysFinal "ContentLibraryModel" "ContentLibraryModel" "prints" "[J" ∈ x_big := x_bt 737 (by decide +kernel) (by decide +kernel)
theorem t_739 : Cond.laysFinal "ContentLibraryModel" "ContentLibraryModel" "owner" "[I" ∈ x_big := x_bt 739 (by decide +kernel) (by decide +kernel)
theorem t_741 : Cond.lays "ContentLibraryModel" "ContentLibraryModel" "foundMany" "I" ∈ x_big := x_bt 741 (by decide +kernel) (by decide +kernel)
theorem t_743 : Cond.laysFinal "ContentLibraryModel" "ContentLibraryModel" "foundNumber" "[I" ∈ x_big := x_bt 743 (by decide +kernel) (by decide +kernel)
theorem t_745 : Cond.laysFinal "ContentLibraryModel" "ContentLibraryModel" "foundBits" "[I" ∈ x_big := x_bt 745 (by decide +kernel) (by decide +kernel)
theorem t_747 : Cond.laysFinal "ContentLibraryModel" "ContentLibraryModel" "rounds" "[I" ∈ x_big := x_bt 747 (by decide +kernel) (by decide +kernel)
theorem t_749 : Cond.laysFinal "ContentLibraryModel" "ContentLibraryModel" "roots" "[I" ∈ x_big := x_bt 749 (by decide +kernel) (by decide +kernel)
theorem t_751 : Cond.laysFinal "ContentLibraryModel" "ContentLibraryModel" "words" "[I" ∈ x_big := x_bt 751 (by decide +kernel) (by decide +kernel)
theorem t_753 : Cond.laysFinal "ContentLibraryModel" "ContentLibraryModel" "state" "[I" ∈ x_big := x_bt 753 (by decide +kernel) (by decide +kernel)
theorem t_755 : Cond.laysFinal "ContentLibraryModel" "ContentLibraryModel" "message" "[I" ∈ x_big := x_bt 755 (by decide +kernel) (by decide +kernel)
theorem t_757 : Cond.lays "ContentLibraryModel" "ContentLibraryModel" "length" "I" ∈ x_big := x_bt 757 (by decide +kernel) (by decide +kernel)
theorem t_759 : Cond.laysFinal "ContentLibraryModel" "ContentLibraryModel" "first" "[I" ∈ x_big := x_bt 759 (by decide +kernel) (by decide +kernel)
theorem t_761 : Cond.laysFinal "ContentLibraryModel" "ContentLibraryModel" "chosen" "[I" ∈ x_big := x_bt 761 (by decide +kernel) (by decide +kernel)
theorem t_763 : Cond.laysFinal "ContentLibraryModel" "ContentLibraryModel" "chosenDigest" "[I" ∈ x_big := x_bt 763 (by decide +kernel) (by decide +kernel)
def x_TX : u_T := fun k => match k with
  | 0 => ("ContentLibrary", "blocks", "LContentLibrary$Blocks;", true)
  | 1 => ("ContentLibrary", "used", "[Z", true)
  | 2 => ("ContentLibrary", "made", "[LContentLibrary$Picture;", true)
  | 3 => ("ContentLibrary", "kept", "[LContentLibrary$Kept;", true)
  | 4 => ("ContentLibrary", "digester", "LContentLibrary$Digester;", true)
  | 5 => ("ContentLibrary", "freshDigest", "[I", true)
  | 6 => ("ContentLibrary", "foundNumbers", "[I", true)
  | 7 => ("ContentLibrary", "foundBits", "[I", true)
  | _ => ("ContentLibrary", "foundCount", "I", false)
def x_tyX : Nat → FieldType := fun k => match k with
  | 0 => .object "ContentLibrary$Blocks"
  | 1 => .array .boolean
  | 2 => .array (.object "ContentLibrary$Picture")
  | 3 => .array (.object "ContentLibrary$Kept")
  | 4 => .object "ContentLibrary$Digester"
  | 5 => .array .int
  | 6 => .array .int
  | 7 => .array .int
  | _ => .int
theorem x_nmX : ∀ a, a < 9 → ∀ b, b < 9 → a ≠ b → (x_TX a).2.1 ≠ (x_TX b).2.1 := by decide +kernel
theorem x_tyX_ok : ∀ k, k < 9 → parseFieldDescriptor (x_TX k).2.2.1 = some (x_tyX k) := by decide +kernel
theorem x_inX : ∀ w ∈ u_ws "ContentLibrary" x_TX 9, w ∈ x_big := List.forall_mem_map.mpr (fun k hk => by
  have hk := List.mem_range.mp hk
  match k, hk with
  | 0, _ => exact t_139
  | 1, _ => exact t_141
  | 2, _ => exact t_143
  | 3, _ => exact t_145
  | 4, _ => exact t_147
  | 5, _ => exact t_149
  | 6, _ => exact t_151
  | 7, _ => exact t_153
  | 8, _ => exact t_155
  | k + 9, hk => exact absurd hk (by omega))
def x_TB : u_T := fun k => match k with
  | 0 => ("ContentLibrary$Blocks", "count", "I", true)
  | 1 => ("ContentLibrary$Blocks", "fuse", "I", false)
  | 2 => ("ContentLibrary$Blocks", "cut", "Z", false)
  | 3 => ("ContentLibrary$Blocks", "bytes", "[I", true)
  | _ => ("ContentLibrary$Blocks", "image", "[I", true)
def x_tyB : Nat → FieldType := fun k => match k with
  | 0 => .int
  | 1 => .int
  | 2 => .boolean
  | 3 => .array .int
  | _ => .array .int
theorem x_nmB : ∀ a, a < 5 → ∀ b, b < 5 → a ≠ b → (x_TB a).2.1 ≠ (x_TB b).2.1 := by decide +kernel
theorem x_tyB_ok : ∀ k, k < 5 → parseFieldDescriptor (x_TB k).2.2.1 = some (x_tyB k) := by decide +kernel
theorem x_inB : ∀ w ∈ u_ws "ContentLibrary$Blocks" x_TB 5, w ∈ x_big := List.forall_mem_map.mpr (fun k hk => by
  have hk := List.mem_range.mp hk
  match k, hk with
  | 0, _ => exact t_47
  | 1, _ => exact t_49
  | 2, _ => exact t_51
  | 3, _ => exact t_53
  | 4, _ => exact t_55
  | k + 5, hk => exact absurd hk (by omega))
def x_TP : u_T := fun k => match k with
  | 0 => ("ContentLibrary$Picture", "there", "Z", false)
  | 1 => ("ContentLibrary$Picture", "message", "[I", true)
  | _ => ("ContentLibrary$Picture", "had", "I", false)
def x_tyP : Nat → FieldType := fun k => match k with
  | 0 => .boolean
  | 1 => .array .int
  | _ => .int
theorem x_nmP : ∀ a, a < 3 → ∀ b, b < 3 → a ≠ b → (x_TP a).2.1 ≠ (x_TP b).2.1 := by decide +kernel
theorem x_tyP_ok : ∀ k, k < 3 → parseFieldDescriptor (x_TP k).2.2.1 = some (x_tyP k) := by decide +kernel
theorem x_inP : ∀ w ∈ u_ws "ContentLibrary$Picture" x_TP 3, w ∈ x_big := List.forall_mem_map.mpr (fun k hk => by
  have hk := List.mem_range.mp hk
  match k, hk with
  | 0, _ => exact t_72
  | 1, _ => exact t_74
  | 2, _ => exact t_76
  | k + 3, hk => exact absurd hk (by omega))
def x_TK : u_T := fun k => match k with
  | 0 => ("ContentLibrary$Kept", "there", "Z", false)
  | 1 => ("ContentLibrary$Kept", "picture", "LContentLibrary$Picture;", true)
  | 2 => ("ContentLibrary$Kept", "digest", "[I", true)
  | 3 => ("ContentLibrary$Kept", "print", "J", false)
  | 4 => ("ContentLibrary$Kept", "recordBlocks", "I", false)
  | _ => ("ContentLibrary$Kept", "places", "[I", true)
def x_tyK : Nat → FieldType := fun k => match k with
  | 0 => .boolean
  | 1 => .object "ContentLibrary$Picture"
  | 2 => .array .int
  | 3 => .long
  | 4 => .int
  | _ => .array .int
theorem x_nmK : ∀ a, a < 6 → ∀ b, b < 6 → a ≠ b → (x_TK a).2.1 ≠ (x_TK b).2.1 := by decide +kernel
theorem x_tyK_ok : ∀ k, k < 6 → parseFieldDescriptor (x_TK k).2.2.1 = some (x_tyK k) := by decide +kernel
theorem x_inK : ∀ w ∈ u_ws "ContentLibrary$Kept" x_TK 6, w ∈ x_big := List.forall_mem_map.mpr (fun k hk => by
  have hk := List.mem_range.mp hk
  match k, hk with
  | 0, _ => exact t_101
  | 1, _ => exact t_103
  | 2, _ => exact t_105
  | 3, _ => exact t_107
  | 4, _ => exact t_109
  | 5, _ => exact t_111
  | k + 6, hk => exact absurd hk (by omega))
def x_TD : u_T := fun k => match k with
  | 0 => ("ContentLibrary$Digester", "padded", "[I", true)
  | 1 => ("ContentLibrary$Digester", "schedule", "[I", true)
  | _ => ("ContentLibrary$Digester", "state", "[I", true)
def x_tyD : Nat → FieldType := fun k => match k with
  | 0 => .array .int
  | 1 => .array .int
  | _ => .array .int
theorem x_nmD : ∀ a, a < 3 → ∀ b, b < 3 → a ≠ b → (x_TD a).2.1 ≠ (x_TD b).2.1 := by decide +kernel
theorem x_tyD_ok : ∀ k, k < 3 → parseFieldDescriptor (x_TD k).2.2.1 = some (x_tyD k) := by decide +kernel
theorem x_inD : ∀ w ∈ u_ws "ContentLibrary$Digester" x_TD 3, w ∈ x_big := List.forall_mem_map.mpr (fun k hk => by
  have hk := List.mem_range.mp hk
  match k, hk with
  | 0, _ => exact t_123
  | 1, _ => exact t_125
  | 2, _ => exact t_127
  | k + 3, hk => exact absurd hk (by omega))
def x_TM : u_T := fun k => match k with
  | 0 => ("ContentLibraryModel", "code", "I", false)
  | 1 => ("ContentLibraryModel", "blocks", "I", true)
  | 2 => ("ContentLibraryModel", "bytes", "[I", true)
  | 3 => ("ContentLibraryModel", "cut", "Z", false)
  | 4 => ("ContentLibraryModel", "left", "I", false)
  | 5 => ("ContentLibraryModel", "made", "[Z", true)
  | 6 => ("ContentLibraryModel", "widths", "[I", true)
  | 7 => ("ContentLibraryModel", "heights", "[I", true)
  | 8 => ("ContentLibraryModel", "many", "[I", true)
  | 9 => ("ContentLibraryModel", "samples", "[I", true)
  | 10 => ("ContentLibraryModel", "there", "[Z", true)
  | 11 => ("ContentLibraryModel", "wide", "[I", true)
  | 12 => ("ContentLibraryModel", "high", "[I", true)
  | 13 => ("ContentLibraryModel", "kept", "[I", true)
  | 14 => ("ContentLibraryModel", "markAt", "[I", true)
  | 15 => ("ContentLibraryModel", "records", "[I", true)
  | 16 => ("ContentLibraryModel", "recordAt", "[I", true)
  | 17 => ("ContentLibraryModel", "prints", "[J", true)
  | 18 => ("ContentLibraryModel", "owner", "[I", true)
  | 19 => ("ContentLibraryModel", "foundMany", "I", false)
  | 20 => ("ContentLibraryModel", "foundNumber", "[I", true)
  | 21 => ("ContentLibraryModel", "foundBits", "[I", true)
  | 22 => ("ContentLibraryModel", "rounds", "[I", true)
  | 23 => ("ContentLibraryModel", "roots", "[I", true)
  | 24 => ("ContentLibraryModel", "words", "[I", true)
  | 25 => ("ContentLibraryModel", "state", "[I", true)
  | 26 => ("ContentLibraryModel", "message", "[I", true)
  | 27 => ("ContentLibraryModel", "length", "I", false)
  | 28 => ("ContentLibraryModel", "first", "[I", true)
  | 29 => ("ContentLibraryModel", "chosen", "[I", true)
  | _ => ("ContentLibraryModel", "chosenDigest", "[I", true)
def x_tyM : Nat → FieldType := fun k => match k with
  | 0 => .int
  | 1 => .int
  | 2 => .array .int
  | 3 => .boolean
  | 4 => .int
  | 5 => .array .boolean
  | 6 => .array .int
  | 7 => .array .int
  | 8 => .array .int
  | 9 => .array .int
  | 10 => .array .boolean
  | 11 => .array .int
  | 12 => .array .int
  | 13 => .array .int
  | 14 => .array .int
  | 15 => .array .int
  | 16 => .array .int
  | 17 => .array .long
  | 18 => .array .int
  | 19 => .int
  | 20 => .array .int
  | 21 => .array .int
  | 22 => .array .int
  | 23 => .array .int
  | 24 => .array .int
  | 25 => .array .int
  | 26 => .array .int
  | 27 => .int
  | 28 => .array .int
  | 29 => .array .int
  | _ => .array .int
theorem x_nmM : ∀ a, a < 31 → ∀ b, b < 31 → a ≠ b → (x_TM a).2.1 ≠ (x_TM b).2.1 := by decide +kernel
theorem x_tyM_ok : ∀ k, k < 31 → parseFieldDescriptor (x_TM k).2.2.1 = some (x_tyM k) := by decide +kernel
theorem x_inM : ∀ w ∈ u_ws "ContentLibraryModel" x_TM 31, w ∈ x_big := List.forall_mem_map.mpr (fun k hk => by
  have hk := List.mem_range.mp hk
  match k, hk with
  | 0, _ => exact t_703
  | 1, _ => exact t_705
  | 2, _ => exact t_707
  | 3, _ => exact t_709
  | 4, _ => exact t_711
  | 5, _ => exact t_713
  | 6, _ => exact t_715
  | 7, _ => exact t_717
  | 8, _ => exact t_719
  | 9, _ => exact t_721
  | 10, _ => exact t_723
  | 11, _ => exact t_725
  | 12, _ => exact t_727
  | 13, _ => exact t_729
  | 14, _ => exact t_731
  | 15, _ => exact t_733
  | 16, _ => exact t_735
  | 17, _ => exact t_737
  | 18, _ => exact t_739
  | 19, _ => exact t_741
  | 20, _ => exact t_743
  | 21, _ => exact t_745
  | 22, _ => exact t_747
  | 23, _ => exact t_749
  | 24, _ => exact t_751
  | 25, _ => exact t_753
  | 26, _ => exact t_755
  | 27, _ => exact t_757
  | 28, _ => exact t_759
  | 29, _ => exact t_761
  | 30, _ => exact t_763
  | k + 31, hk => exact absurd hk (by omega))
abbrev vwCl : List vw_C := [("ContentLibrary", x_TX, 9), ("ContentLibrary$Blocks", x_TB, 5), ("ContentLibrary$Picture", x_TP, 3), ("ContentLibrary$Kept", x_TK, 6), ("ContentLibrary$Digester", x_TD, 3), ("ContentLibraryModel", x_TM, 31)]
end
section
/-! THE COMPONENT'S CELLS, by number, in the order in which they are made: 0 the library, 1 its blocks, 2 bytes, 3 image, 4 used, 5 made, 6 + 2 i a picture being made, 7 + 2 i its message, 22 kept, 23 + 5 i what is kept, then its picture, message, digest, places; 103 the digester, 104 padded, 105 schedule, 106 state, 107 the fresh digest, 108 and 109 what was found -/
def x_isP (k : Nat) : Bool := (decide (6 ≤ k) && decide (k < 22) && decide (k % 2 = 0)) || (decide (23 ≤ k) && decide (k < 103) && decide (k % 5 = 4))
def x_isK (k : Nat) : Bool := decide (23 ≤ k) && decide (k < 103) && decide (k % 5 = 3)
def x_isA (k : Nat) : Bool := decide (k < 110) && !(decide (k = 0) || decide (k = 1) || decide (k = 4) || decide (k = 5) || decide (k = 22) || decide (k = 103) || x_isP k || x_isK k)
def x_ln (n k : Nat) : Nat := if k = 2 then n * 64 else if k = 3 then 64 else if k < 22 then 66 else if k < 103 then (if k % 5 = 0 then 66 else if k % 5 = 1 then 8 else 3) else if k = 104 then 128 else if k = 105 then 64 else if k = 106 then 8 else if k = 107 then 8 else 16
theorem x_isP_iff {k : Nat} : x_isP k = true ↔ (6 ≤ k ∧ k < 22 ∧ k % 2 = 0) ∨ (23 ≤ k ∧ k < 103 ∧ k % 5 = 4) := by
  simp [x_isP, and_assoc]
theorem x_isK_iff {k : Nat} : x_isK k = true ↔ 23 ≤ k ∧ k < 103 ∧ k % 5 = 3 := by
  simp [x_isK, and_assoc]
theorem x_isA_iff {k : Nat} : x_isA k = true ↔ k < 110 ∧ k ≠ 0 ∧ k ≠ 1 ∧ k ≠ 4 ∧ k ≠ 5 ∧ k ≠ 22 ∧ k ≠ 103 ∧ x_isP k = false ∧ x_isK k = false := by
  simp [x_isA, and_assoc]
theorem x_isP_f {k : Nat} : x_isP k = false ↔ ¬ ((6 ≤ k ∧ k < 22 ∧ k % 2 = 0) ∨ (23 ≤ k ∧ k < 103 ∧ k % 5 = 4)) := by
  rw [← x_isP_iff]; cases x_isP k <;> simp
theorem x_isK_f {k : Nat} : x_isK k = false ↔ ¬ (23 ≤ k ∧ k < 103 ∧ k % 5 = 3) := by
  rw [← x_isK_iff]; cases x_isK k <;> simp
theorem x_P_A {k : Nat} (h : x_isP k = true) : x_isA (k + 1) = true := by
  rw [x_isP_iff] at h
  rw [x_isA_iff, x_isP_f, x_isK_f]; omega
theorem x_K_P {k : Nat} (h : x_isK k = true) : x_isP (k + 1) = true := by
  rw [x_isK_iff] at h
  rw [x_isP_iff]; omega
theorem x_K_A3 {k : Nat} (h : x_isK k = true) : x_isA (k + 3) = true := by
  rw [x_isK_iff] at h
  rw [x_isA_iff, x_isP_f, x_isK_f]; omega
theorem x_K_A4 {k : Nat} (h : x_isK k = true) : x_isA (k + 4) = true := by
  rw [x_isK_iff] at h
  rw [x_isA_iff, x_isP_f, x_isK_f]; omega
theorem x_in_lt {i : Int32} {n : Nat} (h : vp_in i n) : i.toNatClampNeg < n := Nat.not_le.mp fun q => h (Or.inr q)
theorem x_el_P {i : Int32} (h : vp_in i 8) : x_isP (6 + 2 * i.toNatClampNeg) = true := by
  have := x_in_lt h
  rw [x_isP_iff]; omega
theorem x_el_K {i : Int32} (h : vp_in i 16) : x_isK (23 + 5 * i.toNatClampNeg) = true := by
  have := x_in_lt h
  rw [x_isK_iff]; omega
def x_cell (G : x_G) (k : Nat) (f : Nat → Int32) (g : Nat → Int64) : va_E :=
  if k = 0 then .inr (0, [.ref (x_ad G 1), .ref (x_ad G 4), .ref (x_ad G 5), .ref (x_ad G 22), .ref (x_ad G 103), .ref (x_ad G 107), .ref (x_ad G 108), .ref (x_ad G 109), .int (f 8)])
  else if k = 1 then .inr (1, [.int (f 0), .int (f 1), .int (f 2), .ref (x_ad G 2), .ref (x_ad G 3)])
  else if k = 4 then .inl (x_ca G 1, x_n G, .inl f)
  else if k = 5 then .inl (x_ca G 2, 8, .inr (.inr (.inr (.inr (fun j => some (x_ad G (6 + 2 * j)))))))
  else if k = 22 then .inl (x_ca G 3, 16, .inr (.inr (.inr (.inr (fun j => some (x_ad G (23 + 5 * j)))))))
  else if k = 103 then .inr (4, [.ref (x_ad G 104), .ref (x_ad G 105), .ref (x_ad G 106)])
  else if x_isP k = true then .inr (2, [.int (f 0), .ref (x_ad G (k + 1)), .int (f 2)])
  else if x_isK k = true then .inr (3, [.int (f 0), .ref (x_ad G (k + 1)), .ref (x_ad G (k + 3)), .long (g 3), .int (f 4), .ref (x_ad G (k + 4))])
  else .inl (x_ca G 0, x_ln (x_n G) k, .inl f)
def x_Wd (G : x_G) (z : x_St) : va_W := w_Wd (x_cell G) 110 (x_ad G) (x_rs G) z
theorem x_cell_P (G : x_G) {k : Nat} (h : x_isP k = true) (f : Nat → Int32) (g : Nat → Int64) : x_cell G k f g = .inr (2, [.int (f 0), .ref (x_ad G (k + 1)), .int (f 2)]) := by
  have h2 := x_isP_iff.mp h
  unfold x_cell
  rw [if_neg (by omega), if_neg (by omega), if_neg (by omega), if_neg (by omega), if_neg (by omega), if_neg (by omega), if_pos h]
theorem x_cell_K (G : x_G) {k : Nat} (h : x_isK k = true) (f : Nat → Int32) (g : Nat → Int64) : x_cell G k f g = .inr (3, [.int (f 0), .ref (x_ad G (k + 1)), .ref (x_ad G (k + 3)), .long (g 3), .int (f 4), .ref (x_ad G (k + 4))]) := by
  have h2 := x_isK_iff.mp h
  have h3 : ¬ x_isP k = true := by rw [x_isP_iff]; omega
  unfold x_cell
  rw [if_neg (by omega), if_neg (by omega), if_neg (by omega), if_neg (by omega), if_neg (by omega), if_neg (by omega), if_neg h3, if_pos h]
theorem x_cell_A (G : x_G) {k : Nat} (h : x_isA k = true) (f : Nat → Int32) (g : Nat → Int64) : x_cell G k f g = .inl (x_ca G 0, x_ln (x_n G) k, .inl f) := by
  obtain ⟨h0, h1, h2, h3, h4, h5, h6, h7, h8⟩ := x_isA_iff.mp h
  unfold x_cell
  rw [if_neg h1, if_neg h2, if_neg h3, if_neg h4, if_neg h5, if_neg h6, if_neg (by rw [h7]; decide), if_neg (by rw [h8]; decide)]
theorem x_lt_P {k : Nat} (h : x_isP k = true) : k < 110 := by have := x_isP_iff.mp h; omega
theorem x_lt_K {k : Nat} (h : x_isK k = true) : k < 110 := by have := x_isK_iff.mp h; omega
theorem x_lt_A {k : Nat} (h : x_isA k = true) : k < 110 := (x_isA_iff.mp h).1
theorem x_lk_X (G : x_G) (z : x_St) : (x_Wd G z)[0]? = some (x_ad G 0, .inr (0, [.ref (x_ad G 1), .ref (x_ad G 4), .ref (x_ad G 5), .ref (x_ad G 22), .ref (x_ad G 103), .ref (x_ad G 107), .ref (x_ad G 108), .ref (x_ad G 109), .int (z.1 0 8)])) := w_get (by decide)
theorem x_lk_B (G : x_G) (z : x_St) : (x_Wd G z)[1]? = some (x_ad G 1, .inr (1, [.int (z.1 1 0), .int (z.1 1 1), .int (z.1 1 2), .ref (x_ad G 2), .ref (x_ad G 3)])) := w_get (by decide)
theorem x_lk_D (G : x_G) (z : x_St) : (x_Wd G z)[103]? = some (x_ad G 103, .inr (4, [.ref (x_ad G 104), .ref (x_ad G 105), .ref (x_ad G 106)])) := w_get (by decide)
theorem x_lk_Z (G : x_G) (z : x_St) : (x_Wd G z)[4]? = some (x_ad G 4, .inl (x_ca G 1, x_n G, .inl (z.1 4))) := w_get (by decide)
theorem x_lk_made (G : x_G) (z : x_St) : (x_Wd G z)[5]? = some (x_ad G 5, .inl (x_ca G 2, 8, .inr (.inr (.inr (.inr (fun j => some (x_ad G (6 + 2 * j)))))))) := w_get (by decide)
theorem x_lk_kept (G : x_G) (z : x_St) : (x_Wd G z)[22]? = some (x_ad G 22, .inl (x_ca G 3, 16, .inr (.inr (.inr (.inr (fun j => some (x_ad G (23 + 5 * j)))))))) := w_get (by decide)
theorem x_lk_P (G : x_G) (z : x_St) {k : Nat} (h : x_isP k = true) : (x_Wd G z)[k]? = some (x_ad G k, .inr (2, [.int (z.1 k 0), .ref (x_ad G (k + 1)), .int (z.1 k 2)])) := by
  rw [← x_cell_P G h (z.1 k) (z.2 k)]; exact w_get (x_lt_P h)
theorem x_lk_K (G : x_G) (z : x_St) {k : Nat} (h : x_isK k = true) : (x_Wd G z)[k]? = some (x_ad G k, .inr (3, [.int (z.1 k 0), .ref (x_ad G (k + 1)), .ref (x_ad G (k + 3)), .long (z.2 k 3), .int (z.1 k 4), .ref (x_ad G (k + 4))])) := by
  rw [← x_cell_K G h (z.1 k) (z.2 k)]; exact w_get (x_lt_K h)
theorem x_lk_A (G : x_G) (z : x_St) {k : Nat} (h : x_isA k = true) : (x_Wd G z)[k]? = some (x_ad G k, .inl (x_ca G 0, x_ln (x_n G) k, .inl (z.1 k))) := by
  rw [← x_cell_A G h (z.1 k) (z.2 k)]; exact w_get (x_lt_A h)
theorem x_st (G : x_G) (z : x_St) {k j : Nat} {v : Int32} {e : va_E} (hk : k < 110) (he : e = x_cell G k (upd (z.1 k) j v) (z.2 k)) : (x_Wd G z).set k (x_ad G k, e) = x_Wd G (x_put z k j v) :=
  w_set z (x_put z k j v) hk (by rw [x_put_self]; exact he) (fun i hi => x_put_ne z j v hi) (fun _ _ => rfl)
theorem x_stL (G : x_G) (z : x_St) {k j : Nat} {v : Int64} {e : va_E} (hk : k < 110) (he : e = x_cell G k (z.1 k) (vp_updL (z.2 k) j v)) : (x_Wd G z).set k (x_ad G k, e) = x_Wd G (x_putL z k j v) :=
  w_set z (x_putL z k j v) hk (by rw [x_putL_self]; exact he) (fun _ _ => rfl) (fun i hi => x_putL_ne z j v hi)
theorem x_st_X8 (G : x_G) (z : x_St) {v : Int32} : (x_Wd G z).set 0 (x_ad G 0, .inr (0, ([.ref (x_ad G 1), .ref (x_ad G 4), .ref (x_ad G 5), .ref (x_ad G 22), .ref (x_ad G 103), .ref (x_ad G 107), .ref (x_ad G 108), .ref (x_ad G 109), .int (z.1 0 8)] : List Value).set 8 (.int v))) = x_Wd G (x_put z 0 8 v) := x_st G z (by decide) rfl
theorem x_st_B1 (G : x_G) (z : x_St) {v : Int32} : (x_Wd G z).set 1 (x_ad G 1, .inr (1, ([.int (z.1 1 0), .int (z.1 1 1), .int (z.1 1 2), .ref (x_ad G 2), .ref (x_ad G 3)] : List Value).set 1 (.int v))) = x_Wd G (x_put z 1 1 v) := x_st G z (by decide) rfl
theorem x_st_B2 (G : x_G) (z : x_St) {v : Int32} : (x_Wd G z).set 1 (x_ad G 1, .inr (1, ([.int (z.1 1 0), .int (z.1 1 1), .int (z.1 1 2), .ref (x_ad G 2), .ref (x_ad G 3)] : List Value).set 2 (.int v))) = x_Wd G (x_put z 1 2 v) := x_st G z (by decide) rfl
theorem x_st_P0 (G : x_G) (z : x_St) {k : Nat} (h : x_isP k = true) {v : Int32} : (x_Wd G z).set k (x_ad G k, .inr (2, ([.int (z.1 k 0), .ref (x_ad G (k + 1)), .int (z.1 k 2)] : List Value).set 0 (.int v))) = x_Wd G (x_put z k 0 v) := x_st G z (x_lt_P h) (by rw [x_cell_P G h]; rfl)
theorem x_st_P2 (G : x_G) (z : x_St) {k : Nat} (h : x_isP k = true) {v : Int32} : (x_Wd G z).set k (x_ad G k, .inr (2, ([.int (z.1 k 0), .ref (x_ad G (k + 1)), .int (z.1 k 2)] : List Value).set 2 (.int v))) = x_Wd G (x_put z k 2 v) := x_st G z (x_lt_P h) (by rw [x_cell_P G h]; rfl)
theorem x_st_K0 (G : x_G) (z : x_St) {k : Nat} (h : x_isK k = true) {v : Int32} : (x_Wd G z).set k (x_ad G k, .inr (3, ([.int (z.1 k 0), .ref (x_ad G (k + 1)), .ref (x_ad G (k + 3)), .long (z.2 k 3), .int (z.1 k 4), .ref (x_ad G (k + 4))] : List Value).set 0 (.int v))) = x_Wd G (x_put z k 0 v) := x_st G z (x_lt_K h) (by rw [x_cell_K G h]; rfl)
theorem x_st_K4 (G : x_G) (z : x_St) {k : Nat} (h : x_isK k = true) {v : Int32} : (x_Wd G z).set k (x_ad G k, .inr (3, ([.int (z.1 k 0), .ref (x_ad G (k + 1)), .ref (x_ad G (k + 3)), .long (z.2 k 3), .int (z.1 k 4), .ref (x_ad G (k + 4))] : List Value).set 4 (.int v))) = x_Wd G (x_put z k 4 v) := x_st G z (x_lt_K h) (by rw [x_cell_K G h]; rfl)
theorem x_st_K3 (G : x_G) (z : x_St) {k : Nat} (h : x_isK k = true) {v : Int64} : (x_Wd G z).set k (x_ad G k, .inr (3, ([.int (z.1 k 0), .ref (x_ad G (k + 1)), .ref (x_ad G (k + 3)), .long (z.2 k 3), .int (z.1 k 4), .ref (x_ad G (k + 4))] : List Value).set 3 (.long v))) = x_Wd G (x_putL z k 3 v) := x_stL G z (x_lt_K h) (by rw [x_cell_K G h]; rfl)
theorem x_st_Z (G : x_G) (z : x_St) {i : Nat} {v : Int32} : (x_Wd G z).set 4 (x_ad G 4, .inl (x_ca G 1, x_n G, .inl (upd (z.1 4) i v))) = x_Wd G (x_put z 4 i v) := x_st G z (by decide) rfl
theorem x_st_A (G : x_G) (z : x_St) {k : Nat} (h : x_isA k = true) {i : Nat} {v : Int32} : (x_Wd G z).set k (x_ad G k, .inl (x_ca G 0, x_ln (x_n G) k, .inl (upd (z.1 k) i v))) = x_Wd G (x_put z k i v) := x_st G z (x_lt_A h) (by rw [x_cell_A G h])
theorem x_cpT_A (G : x_G) (z : x_St) (f : Nat → Int32) (sp dp w : Nat) {k2 : Nat} (h : x_isA k2 = true) : (x_Wd G z).set k2 (x_ad G k2, .inl (x_ca G 0, x_ln (x_n G) k2, .inl (va_cpy f (z.1 k2) sp dp w))) = x_Wd G (x_cpyT z f sp k2 dp w) :=
  w_set z (x_cpyT z f sp k2 dp w) (x_lt_A h) (by rw [show (x_cpyT z f sp k2 dp w).1 k2 = va_cpy f (z.1 k2) sp dp w from va_up_self _ _ _]; exact (x_cell_A G h _ _).symm) (fun i hi => va_up_ne _ _ hi) (fun _ _ => rfl)
theorem x_cp_A (G : x_G) (z : x_St) (k1 sp dp w : Nat) {k2 : Nat} (h : x_isA k2 = true) : (x_Wd G z).set k2 (x_ad G k2, .inl (x_ca G 0, x_ln (x_n G) k2, .inl (va_cpy (z.1 k1) (z.1 k2) sp dp w))) = x_Wd G (x_cpy z k1 sp k2 dp w) := x_cpT_A G z (z.1 k1) sp dp w h
def x_ty (G : x_G) : List (ClassId × FieldType) := [(x_ca G 0, .int), (x_ca G 1, .boolean), (x_ca G 2, .object "ContentLibrary$Picture"), (x_ca G 3, .object "ContentLibrary$Kept"), (x_ca G 4, .long)]
/-- the digester's tables, as the start gives them -/
def x_START (j : Nat) : Int32 := ([1779033703, (-1150833019), 1013904242, (-1521486534), 1359893119, (-1694144372), 528734635, 1541459225] : List Int32).getD j 0
def x_ROUND (j : Nat) : Int32 := ([1116352408, 1899447441, (-1245643825), (-373957723), 961987163, 1508970993, (-1841331548), (-1424204075), (-670586216), 310598401, 607225278, 1426881987, 1925078388, (-2132889090), (-1680079193), (-1046744716), (-459576895), (-272742522), 264347078, 604807628, 770255983, 1249150122, 1555081692, 1996064986, (-1740746414), (-1473132947), (-1341970488), (-1084653625), (-958395405), (-710438585), 113926993, 338241895, 666307205, 773529912, 1294757372, 1396182291, 1695183700, 1986661051, (-2117940946), (-1838011259), (-1564481375), (-1474664885), (-1035236496), (-949202525), (-778901479), (-694614492), (-200395387), 275423344, 430227734, 506948616, 659060556, 883997877, 958139571, 1322822218, 1537002063, 1747873779, 1955562222, 2024104815, (-2067236844), (-1933114872), (-1866530822), (-1538233109), (-1090935817), (-965641998)] : List Int32).getD j 0
/-- where a static field lies, its class's statics cell in H -/
def e_L (C n d : String) (A : Nat → Prop) (U : State) (H : Heap) : Prop := ∃ (c : ClassId) (k : Class) (i : Nat) (f : Field) (a : Nat) (cell : Cell), (U.vm.findClass C = some c ∧ U.fieldFound? C n d = some (c, k, i, f) ∧ f.isStatic = true ∧ k.statics = some a ∧ k.staticTypes[f.slot]? = some f.type) ∧ H[a]? = some cell ∧ (cell.vm.isStatics = true ∧ cell.cls = c ∧ f.slot < cell.slots.size) ∧ ¬ A a
theorem e_L.moved {C n d : String} {A : Nat → Prop} {u U : State} {H : Heap} (hvm : u.vm.Alike U.vm) (h : e_L C n d A u H) : e_L C n d A U H := by
  obtain ⟨c, k, i, f, a, cell, ⟨h1, h2, h3, h4, h5⟩, h6, h7, h8⟩ := h
  obtain ⟨k', hi, hk⟩ := State.fieldFound?_setVm hvm h2
  exact ⟨c, k', i, f, a, cell, ⟨by rw [hvm.findClass]; exact h1, hi, h3, by rw [hk]; exact h4, by rw [hk]; exact h5⟩, h6, h7, h8⟩
theorem e_L.kept {C n d : String} {A : Nat → Prop} {U : State} {H H1 : Heap} (h : e_L C n d A U H) (hq : ∀ a : Nat, a < H.size → ¬ A a → H1[a]? = H[a]?) : e_L C n d A U H1 := by
  obtain ⟨c, k, i, f, a, cell, h1, h6, h7, h8⟩ := h
  exact ⟨c, k, i, f, a, cell, h1, (hq a (Array.getElem?_eq_some_iff.mp h6).1 h8).trans h6, h7, h8⟩
theorem e_L.word {C n d : String} {A : Nat → Prop} {s : State} {args : Array Value} (h : e_L C n d A s s.heap) : (Cond.laysStatic C n d).before args s = true := by
  obtain ⟨c, k, i, f, a, cell, ⟨h1, h2, h3, h4, h5⟩, h6, ⟨h7, h8, h9⟩, -⟩ := h
  exact Cond.laysStatic_of h1 h2 h3 h4 h6 h7 h8 h9 h5
theorem e_L.of {args : Array Value} {s : State} {C n d : String} {A : Nat → Prop} (hl : (Cond.laysStatic C n d).before args s = true) (hA : ∀ a : Nat, a < s.heap.size → ¬ A a) : e_L C n d A s s.heap := by
  obtain ⟨c, k, i, f, a, cell, h1, h2, h3, h4, h5, h6, h7, h8, h9⟩ := Cond.laysStatic_spec hl
  exact ⟨c, k, i, f, a, cell, ⟨h1, h2, h3, h4, h9⟩, h5, ⟨h6, h7, h8⟩, hA a (Array.getElem?_eq_some_iff.mp h5).1⟩
theorem e_ref {C n d : String} {A : Nat → Prop} {s : State} {args : Array Value} (h : va_Zq C n d A s s.heap) : (Cond.isRef (.static C n d)).before args s = true := by
  obtain ⟨v, hv, cf, kf, fi, f, a, cell, h1, h2, h3, h4, h5, h6, h7, -⟩ : ∃ v : Value, v.isRef = true ∧ va_Z C n d v A s s.heap := by
    rcases h with h | ⟨t, h⟩
    · exact ⟨_, rfl, h⟩
    · exact ⟨_, rfl, h⟩
  have he : (Term.static C n d).eval args s none [] s = some v := by
    simp [Term.eval, State.fieldNamed?, h1, h2, h4, h5, h6, h7]
  simp only [Cond.before, Cond.holds, Cond.value, he]
  cases v <;> simp_all [Value.isRef]
def x_excs : List String := ["java/lang/IllegalStateException", "java/lang/IllegalArgumentException", "java/lang/IndexOutOfBoundsException", "java/lang/UnsupportedOperationException"]
def x_decls : List MethodName := [⟨"java/lang/RuntimeException", "<init>", "(Ljava/lang/String;)V"⟩, ⟨"java/lang/Exception", "<init>", "(Ljava/lang/String;)V"⟩, ⟨"java/lang/Throwable", "<init>", "(Ljava/lang/String;)V"⟩]
def x_strs : List (Nat × String) := [(253, "the library is cut"), (75, "a width and a height are 1 .. 8"), (90, "eight pictures are being made"), (264, "no such picture is being made"), (97, "samples come by one or more"), (262, "the picture is not whole"), (132, "there is no number or no room in the blocks"), (266, "no such number is there"), (147, "a digest has the words 0 .. 7"), (167, "no such sample"), (172, "a bound is 0 .. 64"), (188, "nothing was found at that place"), (190, "of what was found, 0 and 1 are told"), (208, "a fuse is of 0 bytes or more, or NONE"), (256, "no such byte of a block"), (228, "a mask is 0 .. 255")]
abbrev x_thN : String := "java/lang/Throwable"
/-- what throwing needs of the start -/
def x_GX (G : x_G) (U : State) (H : Heap) : Prop := (∀ E ∈ x_excs, va_Nw (.castable E E) U) ∧ (∀ y ∈ x_decls, va_Nw (.declares y) U) ∧ (∀ q ∈ x_strs, ∃ a, vk_R "ContentLibrary" q.1 q.2 a U) ∧ (va_Zq x_thN "UNASSIGNED_STACK" "[Ljava/lang/StackTraceElement;" (x_A G) U H ∧ e_L x_thN "UNASSIGNED_STACK" "[Ljava/lang/StackTraceElement;" (x_A G) U H) ∧ (va_Zq x_thN "SUPPRESSED_SENTINEL" "Ljava/util/List;" (x_A G) U H ∧ e_L x_thN "SUPPRESSED_SENTINEL" "Ljava/util/List;" (x_A G) U H)
theorem x_GX.warm {G : x_G} {u U : State} {H : Heap} (hW : u.WarmedH U.vm) (h : x_GX G u H) : x_GX G U H := by
  obtain ⟨h1, h2, h3, h4, h5⟩ := h
  exact ⟨fun E hE => va_Nw.warmC hW (h1 E hE), fun y hy => va_Nw.warmD hW (h2 y hy), fun q hq => (h3 q hq).elim fun a ha => ⟨a, vk_R.warm hW ha⟩, ⟨va_Zq.moved hW.alike h4.1, e_L.moved hW.alike h4.2⟩, ⟨va_Zq.moved hW.alike h5.1, e_L.moved hW.alike h5.2⟩⟩
theorem x_GX.kept {G : x_G} {U : State} {H H1 : Heap} (h : x_GX G U H) (hq : ∀ a : Nat, a < H.size → ¬ x_A G a → H1[a]? = H[a]?) : x_GX G U H1 :=
  ⟨h.1, h.2.1, h.2.2.1, ⟨va_Zq.kept h.2.2.2.1.1 hq, e_L.kept h.2.2.2.1.2 hq⟩, ⟨va_Zq.kept h.2.2.2.2.1 hq, e_L.kept h.2.2.2.2.2 hq⟩⟩
/-- what the start gives, and nobody writes -/
def x_GV (G : x_G) (U : State) (H : Heap) : Prop := (∃ tS tR : Nat, va_Z "ContentLibrary$Digester" "START" "[I" (.ref tS) (x_A G) U H ∧ va_T .int tS 8 (fun j => .int (x_START j)) (x_A G) U H ∧ va_Z "ContentLibrary$Digester" "ROUND" "[I" (.ref tR) (x_A G) U H ∧ va_T .int tR 64 (fun j => .int (x_ROUND j)) (x_A G) U H) ∧ x_GX G U H
theorem x_GV.warm {G : x_G} {u U : State} {H : Heap} (hW : u.WarmedH U.vm) (h : x_GV G u H) : x_GV G U H := by
  obtain ⟨⟨tS, tR, h1, h2, h3, h4⟩, h5⟩ := h
  exact ⟨⟨tS, tR, va_Z.moved hW.alike h1, va_T.moved hW.alike h2, va_Z.moved hW.alike h3, va_T.moved hW.alike h4⟩, h5.warm hW⟩
theorem x_GV.kept {G : x_G} {U : State} {H H1 : Heap} (h : x_GV G U H) (hq : ∀ a : Nat, a < H.size → ¬ x_A G a → H1[a]? = H[a]?) : x_GV G U H1 := by
  obtain ⟨⟨tS, tR, h1, h2, h3, h4⟩, h5⟩ := h
  exact ⟨⟨tS, tR, va_Z.kept h1 hq, va_T.kept h2 hq, va_Z.kept h3 hq, va_T.kept h4 hq⟩, h5.kept hq⟩
/-- the world: the cells as z says -/
def x_PW (G : x_G) (z : x_St) (U : State) : Prop := x_s0 G ≤ U.heap.size ∧ va_P (x_D G) vwCl (x_Wd G z) U.heap ∧ va_D (x_A G) (x_Wd G z) ∧ va_K (x_D G) vwCl (x_ty G) U ∧ x_GV G U U.heap
theorem x_pw {G : x_G} {z : x_St} {s t : State} {H : Heap} {locs : List Loc} (hP : va_P (x_D G) vwCl (x_Wd G z) H) (hD : va_D (x_A G) (x_Wd G z)) (hK : va_K (x_D G) vwCl (x_ty G) s) (hG : x_GV G s s.heap) (hS : va_S (x_A G) s.heap H locs) (hz : x_s0 G ≤ s.heap.size) (ht : t.heap = H) (hW : s.WarmedH t.vm) : x_PW G z t := by
  subst ht
  exact ⟨Nat.le_trans hz hS.1, hP, hD, va_K.moved hW.alike hK, x_GV.warm hW (x_GV.kept hG hS.2.1)⟩
theorem x_pwk {G : x_G} {z : x_St} {s t : State} {H : Heap} {locs : List Loc} (hP : va_P (x_D G) vwCl (x_Wd G z) H) (hD : va_D (x_A G) (x_Wd G z)) (hK : va_K (x_D G) vwCl (x_ty G) s) (hG : x_GV G s s.heap) (hS : va_S (x_A G) s.heap H locs) (hz : x_s0 G ≤ s.heap.size) (h1 : H.size ≤ t.heap.size) (h2 : ∀ q : Nat, q < H.size → t.heap[q]? = H[q]?) (hW : s.WarmedH t.vm) : x_PW G z t :=
  ⟨Nat.le_trans hz (Nat.le_trans hS.1 h1), hP.kept (fun k q hq => h2 q.1 (hP k q hq).lt), hD, va_K.moved hW.alike hK, x_GV.warm hW (x_GV.kept hG (fun a ha hn => (h2 a (Nat.lt_of_lt_of_le ha hS.1)).trans (hS.2.1 a ha hn)))⟩
theorem x_back {G : x_G} {z : x_St} {t : State} {H : Heap} (h : x_PW G z t) (ht : t.heap = H) : va_P (x_D G) vwCl (x_Wd G z) H ∧ va_D (x_A G) (x_Wd G z) := by
  subst ht
  exact ⟨h.2.1, h.2.2.1⟩
theorem x_blind (G : x_G) (z : x_St) (as : List Value) : FrameBlind (va_Pc as (x_PW G z)) := by
  intro a U g mk q
  obtain ⟨q0, q1, q2, q3, q4, q5⟩ := q
  exact ⟨q0, q1, q2, q3, va_K.moved (u := U) (U := U.calling g mk a) (Vm.Alike.refl U.vm) q4, x_GV.warm (u := U) (U := U.calling g mk a) (State.WarmedH.refl U) q5⟩
def x_Ctx (G : x_G) (p : Program) (s : State) (m : MethodId) (args : Array Value) (meth : Method) (c : Code) (cc : ByteArray) (own : String) (nL : Nat) (ret : Option FieldType) : Prop :=
  p.tables.exec = Jvm.exec ∧ c.code = cc ∧ meth.sig.returnType = ret ∧ c.maxLocals = nL ∧ s.vm.findClass own = some m.cls ∧ (∀ w ∈ x_big, w.before args s = true) ∧ meth.locks = false ∧ x_s0 G ≤ s.heap.size ∧ va_K (x_D G) vwCl (x_ty G) s ∧ x_GV G s s.heap
theorem x_pr {α β : Type} {a c : α} {b d : β} (h : (a, b) = (c, d)) : a = c ∧ b = d := by cases h; exact ⟨rfl, rfl⟩
end
section
/-! EXCEPTIONS: a method that, from here, throws E and leaves the cells as z says -/
section EXC
variable {p : Program} {l : Launch} {e : Env} {R : Room} {s : State} {m : MethodId} {args : Array Value} {below : List Frame} {meth : Method} {c : Code}
/-- where q was thrown: its cell, what was written and made, the world -/
def e_T (G : x_G) (E : String) (z : x_St) (st : State) (q : Addr) (t : State) (mc ms : Nat) : Prop :=
  ∃ (ce : Cell) (L : List Loc), t.heap[q]? = some ce ∧ ce.vm = .none ∧ st.vm.findClass E = some ce.cls ∧ st.WarmedH t.vm ∧ st.sameButNew ({ t with vm := st.vm } : State) L mc ms ∧ (∀ w ∈ L, x_A G w.base) ∧ x_PW G z t ∧ va_F (x_A G) st t
def e_Met (l : Launch) (G : x_G) (y : MethodName) (ws : List Cond) (rm : Room) (Pc : Array Value → State → Prop) (E : String) (z : x_St) (mc ms : Nat) : Prop :=
  MetFree l y (headSpec ws rm) Pc (fun _ _ _ _ _ => True) (fun _ st o t => ∃ q, o = .threw q ∧ e_T G E z st q t mc ms)
def e_MQ (below : List Frame) (G : x_G) (E : String) (z : x_St) (s : State) (mc ms : Nat) : State → Prop := fun t =>
  ∃ q, t.status = .running ∧ Ended t below (.threw q) ∧ e_T G E z s q t mc ms
theorem e_ofW {G : x_G} {y : MethodName} {ws ws' : List Cond} {rm : Room} {Pc : Array Value → State → Prop} {E : String} {z : x_St} {mc ms : Nat} {cc : ByteArray} {maxL : Nat} {ret : Option FieldType}
    (hy : plainName y.cls = true) (hw : ws = Cond.code y cc maxL ret :: ws')
    (body : ∀ p e s m args below meth c s₁, BodyLoose p l y (headSpec ws rm) cc maxL ret e s m args below meth c s₁ → c.maxLocals = maxL → (∀ x ∈ c.exceptionTable.toList, False) → Pc args s →
      W p l e (headSpec ws rm).room s m args below meth c s.heap [] 0 0 (e_MQ below G E z s mc ms) (entryFrame m args maxL)) : e_Met l G y ws rm Pc E z mc ms := by
  refine MetFree.of_bodyS (code := cc) (maxLocals := maxL) (ret := ret) hy ?_ ?_
  · intro args s m h hn
    obtain ⟨meth, c, h1, h2, h3, h4, h5, h6, -, -⟩ := Cond.code_spec hn (atoms_spec (ws := ws) h _ (by rw [hw]; exact List.mem_cons_self))
    exact ⟨meth, c, h1, h2, h3, h4, h5, h6⟩
  · intro p e s m args below meth c s₁ B hml hP _
    have hno : ∀ x ∈ c.exceptionTable.toList, False := by
      intro x hx
      obtain ⟨meth2, c2, k1, k2, -, -, -, -, k7, -⟩ := Cond.code_spec B.named (atoms_spec (ws := ws) B.pre _ (by rw [hw]; exact List.mem_cons_self))
      have k3 : meth2 = meth := Option.some.inj (k1.symm.trans B.method)
      subst k3
      have k4 : c2 = c := Option.some.inj (k2.symm.trans (Stand.of_body B).code)
      subst k4
      rw [Array.isEmpty_iff.mp k7] at hx
      cases hx
    obtain ⟨t, a1, q, b1, b2, b3⟩ := body p e s m args below meth c s₁ B hml hno hP s₁ (by rw [B.state]; rfl) (Stand.of_body B)
    exact ⟨t, .threw q, a1, b1, b2, q, rfl, b3⟩
/-- what a call of such a method comes to: the caller's frame g with q thrown over it -/
def e_Back (l : Launch) (R : Room) (p : Program) (e : Env) (below : List Frame) (s : State) (sargs : Array Value) (y : MethodName) (Pc : Array Value → State → Prop) (G : x_G) (E : String) (z : x_St) (mc ms : Nat) : Prop :=
  ∀ (m : MethodId) (meth : Method) (c : Code) (U : State) (Ls : List Loc) (c0 s0 : Nat) (g : JFrame) (ig : Instr) (mk : MethodId) (a : Array Value),
    Stand p l e R s m sargs below meth c U Ls c0 s0 → g.method = m → g.locals.size = c.maxLocals → decode c.code g.pc = .ok (ig, 3) →
    2 * g.monitorRoom + (g.stack.map fun v => v.category).sum ≤ 8 → U.methodNamed? y = some mk → c0 + mc ≤ R.cells → s0 + ms ≤ R.slots → Pc a U →
    ∃ (q : Addr) (U' : State) (L : List Loc) (ce : Cell), Stand p l e R s m sargs below meth c U' (Ls ++ L) (c0 + mc) (s0 + ms) ∧ U'.heap[q]? = some ce ∧ ce.vm = .none ∧ U.vm.findClass E = some ce.cls ∧ (∀ w ∈ L, x_A G w.base) ∧ x_PW G z U' ∧ va_F (x_A G) U U' ∧
      Steps p.tables e below (doInvoke e (U.setTop g) [] mk a).1 ((U'.setTop g).pushFrame (.throwing q))
theorem e_back {G : x_G} {y : MethodName} {ws : List Cond} {rm : Room} {Pc : Array Value → State → Prop} {E : String} {z : x_St} {mc ms : Nat} {bytes : ByteArray} {maxL : Nat} {ret : Option FieldType} {sargs : Array Value}
    (hM : e_Met l G y ws rm Pc E z mc ms) (hblind : FrameBlind Pc) (hrc : rm.cells = mc) (hrs : rm.slots = ms)
    (hframes : rm.frames + 1 ≤ R.frames) (hlocals : 8 + (maxL + 11) + rm.locals ≤ R.locals)
    (hws : ∀ w ∈ ws, ∀ a' U, s.WarmedH U.vm → w.before a' U = true) (hcode : Cond.code y bytes maxL ret ∈ ws) (hinit : ∀ a' U, s.WarmedH U.vm → (Cond.initialized y.cls).before a' U = true) :
    e_Back l R p e below s sargs y Pc G E z mc ms := by
  intro m meth c U Ls c0 s0 g ig mk a X hg hsize hdg hW hn hroom1 hroom2 hPc
  obtain ⟨mY, cY, hmY, hcY, -, hlY, -, -, -, -⟩ := Cond.code_spec hn (hws _ hcode a U X.warmed)
  obtain ⟨kY, hkY, -⟩ := className_of_methodNamed hn
  have hat : At U g.method c below := by rw [hg]; exact X.here
  have happ : (headSpec ws rm).appliesLoose y e.platform (U.calling g mk a) = true :=
    Spec.appliesLoose_calling (g := g) hat hdg hn hkY (Cond.initialized_spec (findClass_of_methodNamed hn) hkY (hinit a U X.warmed))
      (X.room_calling (g := g) (R' := (headSpec ws rm).room) hsize hmY hcY hframes (by rw [hlY]; have h9 : 8 + (maxL + 11) + (headSpec ws rm).room.locals ≤ R.locals := hlocals; omega)
        (by rw [show (headSpec ws rm).room.cells = mc from hrc]; exact hroom1) (by rw [show (headSpec ws rm).room.slots = ms from hrs]; exact hroom2))
      (atoms_intro fun w hw => hws w hw _ _ X.warmed)
  obtain ⟨mid, hmid⟩ := hat.above
  obtain ⟨o, V, hsteps, -, hend, hq⟩ := Steps.callFree hM p X.admits X.cas X.clock (acts := []) (show (U.setTop g).frames = (.java g :: mid) ++ below by rw [State.frames_setTop' g hat.top, hmid]; rfl) happ (hblind _ _ _ _ hPc) trivial
  have hq9 : ∃ q, o = .threw q ∧ e_T G E z (U.calling g mk a) q V mc ms := hq
  obtain ⟨q, rfl, ce, L, hce, hcv, hcl, hWV, hsm, hL, hPW, hF⟩ := hq9
  rw [State.frames_setTop' g hat.top] at hend
  have hfV : V.frames = .throwing q :: .java g :: U.frames.tail := hend
  obtain ⟨g₀, hg0⟩ := Option.isSome_iff_exists.mp hat.top
  obtain ⟨r, hr⟩ := State.topJava?_eq_some.mp hg0
  obtain ⟨N, hN⟩ : ∃ N : State, N = ({ U with heap := V.heap, slotsUsed := V.slotsUsed } : State).setVm V.vm := ⟨_, rfl⟩
  have hNf : N.frames = .java g₀ :: r := by rw [hN]; exact hr
  obtain ⟨e2, q2, q3, q4, q5, q6⟩ := id hsm
  have eV : V = (N.setTop g).pushFrame (.throwing q) := by
    have e3 : V = ({ (U.calling g mk a).setFrames V.frames with heap := V.heap, slotsUsed := V.slotsUsed } : State).setVm V.vm := by
      have e4 : V = ({ V with vm := (U.calling g mk a).vm } : State).setVm V.vm := rfl
      rw [e2] at e4
      exact e4
    refine e3.trans ?_
    rw [hfV, State.calling_eq hat.top, State.setFrames_setFrames, State.pushFrame, State.frames_setTop _ hNf, State.setTop_of_frames _ hNf, State.setFrames_setFrames, hN, hr]
    rfl
  have hsame : U.sameButNew ({ U with heap := V.heap, slotsUsed := V.slotsUsed } : State) L mc ms := by
    refine ⟨?_, q2, q3, q4, q5, q6⟩
    obtain ⟨t, ht, -⟩ := State.frames_cons hr
    show ({ U with heap := V.heap, slotsUsed := V.slotsUsed } : State) = { U.setFrames U.frames with heap := V.heap, slotsUsed := V.slotsUsed }
    rw [State.setFrames_self ht]
  have hWU : U.WarmedH V.vm := hWV
  subst hg
  have X' : Stand p l e R s g.method sargs below meth c N (Ls ++ L) (c0 + mc) (s0 + ms) := by
    rw [hN]
    exact ⟨X.admits, X.cas, X.clock, X.frames, X.room, X.hears, X.method, X.code, (X.here.setHeapUsed V.heap V.slotsUsed).setVm hWU.alike, X.tail, State.WarmedH.trans X.warmed hWU, X.limits, X.bytes, X.same.trans (hsame.setVm s.vm)⟩
  have hh : N.heap = V.heap := by rw [hN]; rfl
  have hv : N.vm = V.vm := by rw [hN]; rfl
  refine ⟨q, N, L, ce, X', by rw [hh]; exact hce, hcv, hcl, hL, ?_, ?_, by rw [← eV]; exact hsteps⟩
  · obtain ⟨a1, a2, a3, a4, a5⟩ := hPW
    refine ⟨by rw [hh]; exact a1, by rw [hh]; exact a2, a3, va_K.moved (u := V) (by rw [hv]; exact Vm.Alike.refl V.vm) a4, ?_⟩
    rw [hh]
    exact x_GV.warm (u := V) (by rw [hv]; exact State.WarmedH.refl V) a5
  · exact ⟨by rw [hh]; exact hF.1, fun k h1 h2 => by rw [hh]; exact hF.2 k h1 h2⟩
/-- the method's frame g, with q thrown over it -/
def e_W (p : Program) (l : Launch) (e : Env) (R : Room) (s : State) (m : MethodId) (args : Array Value) (below : List Frame) (meth : Method) (c : Code) (H : Heap) (locs : List Loc) (cells slots : Nat) (Q : State → Prop) (g : JFrame) (q : Addr) : Prop :=
  ∀ T : State, T.heap = H → Stand p l e R s m args below meth c T locs cells slots → ∃ t, Steps p.tables e below ((T.setTop g).pushFrame (.throwing q)) t ∧ Q t
variable {H : Heap} {locs : List Loc} {cells slots : Nat} {Q : State → Prop} {y : MethodName} {bytes cc : ByteArray} {maxL nL mc ms n index : Nat} {ret : Option FieldType} {ws : List Cond} {rm : Room} {Pc : Array Value → State → Prop} {Ts : List Cond} {own C E : String} {b : Addr} {As rest st0 : List Value} {G : x_G} {z : x_St} {pc : Nat} {ls : Array Slot}
theorem e_go {T N : State} {ce : Cell} {q : Addr} {L : List Loc} {vm₁ : Vm} (hT : T.heap = H) (hz : x_s0 G ≤ s.heap.size) (hS : va_S (x_A G) s.heap H locs) (X' : Stand p l e R s m args below meth c N (locs ++ L) (cells + mc) (slots + ms)) (hW1 : s.WarmedH vm₁) (hce : N.heap[q]? = some ce) (hcv : ce.vm = .none) (hcl : (T.setVm vm₁).vm.findClass E = some ce.cls) (hL : ∀ w ∈ L, x_A G w.base) (hPW : x_PW G z N) (hF : va_F (x_A G) (T.setVm vm₁) N)
    (hst : Steps p.tables e below (T.setTop (F0 m pc ls st0)) ((N.setTop { F0 m pc ls st0 with stack := rest }).pushFrame (.throwing q)))
    (kx : ∀ (q : Addr) (ce : Cell) (H1 : Heap) (locs1 : List Loc), va_P (x_D G) vwCl (x_Wd G z) H1 → va_D (x_A G) (x_Wd G z) → va_S (x_A G) s.heap H1 locs1 → H1[q]? = some ce → ce.vm = .none → s.vm.findClass E = some ce.cls → e_W p l e R s m args below meth c H1 locs1 (cells + mc) (slots + ms) Q (F0 m pc ls rest) q) :
    ∃ t, Steps p.tables e below (T.setTop (F0 m pc ls st0)) t ∧ Q t := by
  have h1 : vm₁.findClass E = some ce.cls := hcl
  rw [hW1.alike.findClass] at h1
  have k1 : T.heap.size ≤ N.heap.size := hF.1
  have k2 : ∀ k : Nat, k < T.heap.size → ¬ x_A G k → N.heap[k]? = T.heap[k]? := fun k a1 a2 => hF.2 k a1 a2
  rw [hT] at k1 k2
  have hS1 : va_S (x_A G) s.heap N.heap (locs ++ L) := ⟨Nat.le_trans hS.1 k1, fun k a1 a2 => (k2 k (Nat.lt_of_lt_of_le a1 hS.1) a2).trans (hS.2.1 k a1 a2), fun w hw => (List.mem_append.mp hw).elim (hS.2.2 w) (hL w)⟩
  obtain ⟨t, a1, b1⟩ := kx q ce N.heap (locs ++ L) hPW.2.1 hPW.2.2.1 hS1 hce hcv h1 N rfl X'
  exact ⟨t, hst.trans a1, b1⟩
theorem e_callV (S : CallFix p m c cc nL s args Ts own) (hM : e_Met l G y ws rm Pc E z mc ms) (cw : CallW R s args own C index y bytes maxL ret ws rm mc ms n) (hp : PreV s H C b Pc As)
    (hn : As.length = n) (hsize : ls.size = nL) (hstack : st0 = As.reverse ++ .ref b :: rest) (hW : 2 * (F0 m pc ls rest).monitorRoom + (rest.map fun v => v.category).sum ≤ 8) (hdg : decode cc pc = .ok (.invokevirtual index, 3)) (hf : cells + mc ≤ R.cells ∧ slots + ms ≤ R.slots)
    (hz : x_s0 G ≤ s.heap.size) (hS : va_S (x_A G) s.heap H locs)
    (kx : ∀ (q : Addr) (ce : Cell) (H1 : Heap) (locs1 : List Loc), va_P (x_D G) vwCl (x_Wd G z) H1 → va_D (x_A G) (x_Wd G z) → va_S (x_A G) s.heap H1 locs1 → H1[q]? = some ce → ce.vm = .none → s.vm.findClass E = some ce.cls → e_W p l e R s m args below meth c H1 locs1 (cells + mc) (slots + ms) Q (F0 m pc ls rest) q) :
    W p l e R s m args below meth c H locs cells slots Q (F0 m pc ls st0) := by
  obtain ⟨⟨hrc, hrs, hfr, hlo, hws, hcw, hcode, hini, hy, hlen, hl⟩, hinst, hsel⟩ := cw
  obtain ⟨hx, hb, hml, ho, -⟩ := S
  obtain ⟨hbl, ⟨cellB, hcB, hoB, hclB⟩, hPc⟩ := hp
  have hK : e_Back l R p e below s args y Pc G E z mc ms := e_back (bytes := bytes) (maxL := maxL) (ret := ret) hM hbl hrc hrs hfr hlo hws hcw (fun a' U hW => word_at hW (Or.inl (by first | rfl | simp [Cond.onTables, Cond.keeps, Cond.steady])) hini)
  intro T hT X
  obtain ⟨mk, methM, hnamed, hmethM, hstM, habM⟩ := Cond.instanceMethod_spec hinst
  obtain ⟨methM', cM, hmethM', -, -, -, -, -, -, hsigM⟩ := Cond.code_spec hnamed hcode
  cases hmethM.symm.trans hmethM'
  obtain ⟨c2, r2, m2, q1, q2, q3, q4, kP, hkP, hkPi⟩ := Cond.selects_spec hsel
  cases hclB.symm.trans q1
  cases (State.methodFound?_of_named hnamed hy).symm.trans q2
  cases hnamed.symm.trans q3
  have hselP : selectMethod e.platform s.vm cellB.cls mk = .method mk := by rw [Launch.admits_selectMethod X.admits]; exact q4
  obtain ⟨vm₁, X₁, hstep₁⟩ := X.invokevirtual hx ho hl hnamed hmethM hstM hkP hkPi hy (a := b) (cell := cellB) (by rw [hT]; exact hcB)
    (fun k h => by rw [h] at hoB; cases hoB) hselP hmethM habM hkP hkPi (g := F0 m pc ls st0) rfl (argsL := As) (rest := rest) (hn.trans (hlen _ hsigM)) hstack (by rw [hb]; exact hdg)
  obtain ⟨q, N, L, ce, X', hce, hcv, hcl, hL, hPW, hF, hst⟩ := hK m meth c (T.setVm vm₁) locs cells slots { F0 m pc ls st0 with stack := rest } (.invokevirtual index) mk (Value.ref b :: As).toArray X₁ rfl (hsize.trans hml.symm) (by rw [hb]; exact hdg) hW (X₁.named hnamed) hf.1 hf.2 (hPc (T.setVm vm₁) hT X₁.warmed)
  exact e_go hT hz hS X' X₁.warmed hce hcv hcl hL hPW hF (hstep₁ _ fun acts => by rw [doInvoke_state]; exact hst) kx
theorem e_callS (S : CallFix p m c cc nL s args Ts own) (hM : e_Met l G y ws rm Pc E z mc ms) (cw : CallB R s args own index y bytes maxL ret ws rm mc ms n ∧ (Cond.static y).before args s = true) (hp : PreS s H Pc As)
    (hn : As.length = n) (hsize : ls.size = nL) (hstack : st0 = As.reverse ++ rest) (hW : 2 * (F0 m pc ls rest).monitorRoom + (rest.map fun v => v.category).sum ≤ 8) (hdg : decode cc pc = .ok (.invokestatic index, 3)) (hf : cells + mc ≤ R.cells ∧ slots + ms ≤ R.slots)
    (hz : x_s0 G ≤ s.heap.size) (hS : va_S (x_A G) s.heap H locs)
    (kx : ∀ (q : Addr) (ce : Cell) (H1 : Heap) (locs1 : List Loc), va_P (x_D G) vwCl (x_Wd G z) H1 → va_D (x_A G) (x_Wd G z) → va_S (x_A G) s.heap H1 locs1 → H1[q]? = some ce → ce.vm = .none → s.vm.findClass E = some ce.cls → e_W p l e R s m args below meth c H1 locs1 (cells + mc) (slots + ms) Q (F0 m pc ls rest) q) :
    W p l e R s m args below meth c H locs cells slots Q (F0 m pc ls st0) := by
  obtain ⟨⟨hrc, hrs, hfr, hlo, hws, hcw, hcode, hini, hy, hlen, hl⟩, hstat⟩ := cw
  obtain ⟨hx, hb, hml, ho, -⟩ := S
  have hK : e_Back l R p e below s args y Pc G E z mc ms := e_back (bytes := bytes) (maxL := maxL) (ret := ret) hM hp.1 hrc hrs hfr hlo hws hcw (fun a' U hW => word_at hW (Or.inl (by first | rfl | simp [Cond.onTables, Cond.keeps, Cond.steady])) hini)
  intro T hT X
  obtain ⟨mk, hnamed⟩ := Cond.code_named hcode
  obtain ⟨methM, cM, hmethM, -, -, -, -, -, -, hsigM⟩ := Cond.code_spec hnamed hcode
  obtain ⟨kP, hkP, -⟩ := className_of_methodNamed hnamed
  obtain ⟨vm₁, X₁, hstep₁⟩ := X.invokestatic hx ho hl hnamed hmethM (Cond.static_spec hnamed hmethM hstat) hkP (Cond.initialized_spec (findClass_of_methodNamed hnamed) hkP hini) hy (g := F0 m pc ls st0) rfl (argsL := As) (rest := rest) (hn.trans (hlen _ hsigM)) hstack (by rw [hb]; exact hdg)
  obtain ⟨q, N, L, ce, X', hce, hcv, hcl, hL, hPW, hF, hst⟩ := hK m meth c (T.setVm vm₁) locs cells slots { F0 m pc ls st0 with stack := rest } (.invokestatic index) mk As.toArray X₁ rfl (hsize.trans hml.symm) (by rw [hb]; exact hdg) hW (X₁.named hnamed) hf.1 hf.2 (hp.2 (T.setVm vm₁) hT X₁.warmed)
  exact e_go hT hz hS X' X₁.warmed hce hcv hcl hL hPW hF (hstep₁ _ fun acts => by rw [doInvoke_state]; exact hst) kx
/-- not caught here: it goes on to the caller -/
theorem e_out {ce : Cell} {q : Addr} {k9 n9 : Nat} (hno : ∀ x ∈ c.exceptionTable.toList, covers x pc = false) (hlocks : meth.locks = false) (hce : H[q]? = some ce) (hcv : ce.vm = .none) (hcl : s.vm.findClass E = some ce.cls)
    (hS : va_S (x_A G) s.heap H locs) (hpw : ∀ t : State, t.heap = H → s.WarmedH t.vm → x_PW G z t) (hc : cells ≤ k9) (hs : slots ≤ n9) :
    e_W p l e R s m args below meth c H locs cells slots (e_MQ below G E z s k9 n9) (F0 m pc ls rest) q := by
  intro T hT X
  obtain ⟨st1, hrun, hend, hW, hsm⟩ := X.leaveThrown q (g := F0 m pc ls rest) rfl rfl rfl hno hlocks
  have hh : (T.setFrames (.throwing q :: below)).heap = H := hT
  exact ⟨_, st1, q, hrun, hend, ce, locs, by rw [hh]; exact hce, hcv, hcl, hW, hsm.mono hc hs, hS.2.2, hpw _ hh hW, hS.F hh⟩
/-- the frame as it stands, seen as the start of a call in this heap: nothing written, nothing made yet -/
theorem e_rebase {T : State} (X : Stand p l e R s m args below meth c T locs cells slots) {R' : Room} (hf : R'.frames ≤ R.frames) (hl : R'.locals ≤ R.locals) (hc : cells + R'.cells ≤ R.cells) (hs : slots + R'.slots ≤ R.slots) :
    Stand p l e R' ((T.setVm s.vm).setFrames (.invoking m args :: below)) m args below meth c T [] 0 0 := by
  obtain ⟨V, hV⟩ : ∃ V : State, V = T.setVm s.vm := ⟨_, rfl⟩
  have htop : V.topJava?.isSome := by rw [hV]; exact X.here.top
  have hF : (V.setFrames (.invoking m args :: below)).frames = .invoking m args :: below := State.frames_setFrames _ (State.cur_lt_of_top htop)
  obtain ⟨g₀, hg0⟩ := Option.isSome_iff_exists.mp htop
  obtain ⟨r, hr⟩ := State.topJava?_eq_some.mp hg0
  have hlim : e.platform.stackLimits V.me = e.platform.stackLimits s.me := by rw [hV]; exact X.limits
  have hbyt : V.me.stackBytes = s.me.stackBytes := by rw [hV]; exact X.bytes
  have hmeth : (V.setFrames (.invoking m args :: below)).vm.method? m = some meth := by rw [hV]; exact X.method
  have hVh : V.heap = T.heap := by rw [hV]; rfl
  have hVu : V.slotsUsed = T.slotsUsed := by rw [hV]; rfl
  rw [← hV]
  refine ⟨X.admits, X.cas, X.clock, hF, ?_, by rw [hV]; exact X.hears, hmeth, X.code, X.here, X.tail, by rw [hV]; exact X.warmed, ?_, ?_, ?_⟩
  · have hroom := X.room
    have hU : (V.setFrames (.invoking m args :: below)).localsInUse = s.localsInUse := by
      rw [State.localsInUse_invoking hF (meth := meth) (c := c) hmeth X.code, State.localsInUse_invoking X.frames X.method X.code]
    simp only [State.hasRoom, Bool.and_eq_true, decide_eq_true_eq] at hroom ⊢
    obtain ⟨⟨⟨⟨h1, h2, h3, h4, h5, h6⟩, h7⟩, h8⟩, h9⟩ := hroom
    rw [X.frames, List.length_cons] at h2 h3
    have q1 := X.heapSize
    have q2 := X.used
    simp only [hF, hU, List.length_cons, State.stackLimits_setFrames, State.stackBytes_setFrames, hlim, hbyt]
    refine ⟨⟨⟨⟨by omega, by omega, by omega, by omega, by omega, h6⟩, ?_⟩, ?_⟩, by rw [hV]; exact X.book⟩
    · show V.heap.size + R'.cells ≤ e.platform.maxCells
      rw [hVh]; omega
    · show V.slotsUsed + R'.slots ≤ e.platform.maxSlots
      rw [hVu]; omega
  · rw [State.stackLimits_setFrames, hV]; rfl
  · rw [State.stackBytes_setFrames, hV]; rfl
  · have hdrop : ((T.heap.toList.drop T.heap.size).map (·.slots.size)).sum = 0 := by
      rw [List.drop_eq_nil_of_le (Nat.le_of_eq Array.length_toList)]; rfl
    subst hV
    refine ⟨?_, Nat.le_refl _, Nat.le_refl _, ?_, ?_, fun a c9 h9 => ⟨c9, h9, rfl, rfl, fun _ _ => rfl⟩⟩
    · obtain ⟨t, ht, -⟩ := State.frames_cons hr
      show T.setVm s.vm = { ((T.setVm s.vm).setFrames (.invoking m args :: below)).setFrames (T.setVm s.vm).frames with heap := T.heap, slotsUsed := T.slotsUsed }
      rw [State.setFrames_setFrames, State.setFrames_self ht]
      rfl
    · show T.slotsUsed = T.slotsUsed + ((T.heap.toList.drop T.heap.size).map (·.slots.size)).sum
      rw [hdrop]; rfl
    · show ((T.heap.toList.drop T.heap.size).map (·.slots.size)).sum ≤ 0
      rw [hdrop]; exact Nat.le_refl 0
theorem e_same {S U : State} {k n : Nat} (h : S.sameButNew ({ U with vm := S.vm } : State) [] k n) : S.heap.size ≤ U.heap.size ∧ ∀ q : Nat, q < S.heap.size → U.heap[q]? = S.heap[q]? := by
  obtain ⟨-, h2, -, -, -, h6⟩ := h
  refine ⟨h2, fun q hq => ?_⟩
  obtain ⟨c9, e1, e2, -, e4⟩ := h6 q _ (Array.getElem?_eq_getElem hq)
  have e5 : U.heap[q]? = some c9 := e1
  have e6 : c9.slots = (S.heap[q]).slots := Array.ext_getElem? fun i => e4 i (fun hm => nomatch hm)
  rw [e6] at e2
  rw [e5, Array.getElem?_eq_getElem hq]
  exact congrArg some e2
/-- the words of a throw that are none of x_big: what x_GX tells -/
def e_rest (cls : String) : List Cond := [.castable cls cls, .declares ⟨"java/lang/RuntimeException", "<init>", "(Ljava/lang/String;)V"⟩, .declares ⟨"java/lang/Exception", "<init>", "(Ljava/lang/String;)V"⟩, .declares ⟨"java/lang/Throwable", "<init>", "(Ljava/lang/String;)V"⟩, .isRef (.static x_thN "UNASSIGNED_STACK" "[Ljava/lang/StackTraceElement;"), .isRef (.static x_thN "SUPPRESSED_SENTINEL" "Ljava/util/List;"), .laysStatic x_thN "UNASSIGNED_STACK" "[Ljava/lang/StackTraceElement;", .laysStatic x_thN "SUPPRESSED_SENTINEL" "Ljava/util/List;"]
theorem e_words {cls : String} {S : State} {A : Array Value} (hcls : cls ∈ x_excs) (hG : x_GX G S S.heap) : ∀ w ∈ e_rest cls, w.before A S = true := by
  obtain ⟨h1, h2, -, h4, h5⟩ := hG
  intro w hw
  simp only [e_rest, List.mem_cons, List.not_mem_nil, or_false] at hw
  rcases hw with rfl | rfl | rfl | rfl | rfl | rfl | rfl | rfl
  · exact va_Nw.use rfl (h1 cls hcls)
  · exact va_Nw.use rfl (h2 _ (by simp [x_decls]))
  · exact va_Nw.use rfl (h2 _ (by simp [x_decls]))
  · exact va_Nw.use rfl (h2 _ (by simp [x_decls]))
  · exact e_ref h4.1
  · exact e_ref h5.1
  · exact h4.2.word
  · exact h5.2.word
/-- 'throw new E("text")' in a method of the library: new; dup; ldc; invokespecial; athrow -/
theorem e_throw {cls text : String} {ik is ic k9 n9 : Nat} (hexec : p.tables.exec = Jvm.exec) (hb : c.code = cc) (hl9 : l.stackTraces = false) (hown : s.vm.findClass "ContentLibrary" = some m.cls) (hcls : Jvm.Bundle.fit cls = true) (hex : cls ∈ x_excs) (htx : (is, text) ∈ x_strs)
    (hts : ∀ w ∈ x_big, w.before args s = true) (hk : Cond.classLink "ContentLibrary" ik cls ∈ x_big) (hini : Cond.initialized cls ∈ x_big)
    (hat : ∀ w ∈ Jvm.Bundle.ownAtoms "ContentLibrary" ic cls ["java/lang/RuntimeException", "java/lang/Exception"], w ∈ x_big ∨ w ∈ e_rest cls)
    (hG : x_GV G s s.heap) (hS : va_S (x_A G) s.heap H locs) (hsize : ls.size = c.maxLocals)
    (d0 : decode cc pc = .ok (.new ik, 3)) (d3 : decode cc (pc + 3) = .ok (.dup, 1)) (d4 : decode cc (pc + 4) = .ok (.ldc is, 2)) (d6 : decode cc (pc + 6) = .ok (.invokespecial ic, 3)) (d9 : decode cc (pc + 9) = .ok (.athrow, 1))
    (hno : ∀ x ∈ c.exceptionTable.toList, False) (hRf : 5 < R.frames) (hRl : (rest.map fun v => v.category).sum + 82 ≤ R.locals) (hRc : cells + 1 ≤ R.cells) (hRs : slots + 6 ≤ R.slots) (hlocks : meth.locks = false)
    (hpw : ∀ t : State, s.WarmedH t.vm → H.size ≤ t.heap.size → (∀ q : Nat, q < H.size → t.heap[q]? = H[q]?) → x_PW G z t) (hc : cells + 1 ≤ k9) (hs : slots + 6 ≤ n9) :
    W p l e R s m args below meth c H locs cells slots (e_MQ below G cls z s k9 n9) (F0 m pc ls rest) := by
  intro T hT X
  have htr : e.platform.stackTraces = false := (show e.platform.stackTraces = l.stackTraces by rw [X.admits.platform]).trans hl9
  have Y := e_rebase X (R' := { frames := R.frames, locals := R.locals, cells := 1, slots := 6 }) (Nat.le_refl _) (Nat.le_refl _) hRc hRs
  obtain ⟨S, hA⟩ : ∃ S : State, S = (T.setVm s.vm).setFrames (.invoking m args :: below) := ⟨_, rfl⟩
  rw [← hA] at Y
  have hvm : S.vm = s.vm := by rw [hA]; rfl
  have hhp : S.heap = H := by rw [hA]; exact hT
  have hW0 : s.WarmedH S.vm := by rw [hvm]; exact State.WarmedH.refl s
  have hbig : ∀ w ∈ x_big, w.before args S = true := fun w hw => word_at hW0 (good_of_word (x_bg hw).2) (hts w hw)
  have hGS : x_GX G S S.heap := by rw [hhp]; exact (hG.2.kept hS.2.1).warm hW0
  have hall : ∀ w ∈ Jvm.Bundle.ownAtoms "ContentLibrary" ic cls ["java/lang/RuntimeException", "java/lang/Exception"], w.before args S = true := fun w hw => (hat w hw).elim (hbig w) (e_words hex hGS w)
  have hownS : S.vm.findClass "ContentLibrary" = some m.cls := by rw [hvm]; exact hown
  obtain ⟨sa, hstr⟩ := hGS.2.2.1 _ htx
  obtain ⟨vm₁, cX, kX, hfX, hkX, -, -, X₁, st1⟩ := Y.newCold hexec (own := "ContentLibrary") (C := cls) (index := ik) (n := 6) hownS (hbig _ hk) (hall _ (by simp [Jvm.Bundle.ownAtoms])) (hbig _ hini)
    (g := F0 m pc ls rest) rfl (by rw [hb]; exact d0) (Nat.le_refl _) (Nat.le_refl _)
  obtain ⟨N, hN⟩ : ∃ N : State, N = (T.setVm vm₁).pushCell { cls := cX, slots := kX.instanceTypes.map defaultValue, vm := .none } := ⟨_, rfl⟩
  rw [← hN] at X₁ st1
  have hcellA : N.heap[T.heap.size]? = some (freshCell cX kX) := by rw [hN]; exact State.heap_pushCell_size _ _
  have d3' : decode c.code (pc + 3) = .ok (.dup, 1) := by rw [hb]; exact d3
  have hcat : (Value.ref T.heap.size).category = 1 := rfl
  obtain ⟨U, hsteps, hrun, hend, hW, hsame, ce, hce, hO⟩ := X₁.ctorThrowS hexec htr (own := "ContentLibrary") (cls := cls) (names := ["java/lang/RuntimeException", "java/lang/Exception"]) (ic := ic) hownS hcls (by decide +kernel) hall (fun x hx => nomatch hx) hfX hkX hcellA (by rw [hhp, hT]; exact Nat.le_refl _) (msg := .ref sa) rfl
    (g := { method := m, pc := pc + 6, locals := ls, stack := .ref sa :: .ref T.heap.size :: .ref T.heap.size :: rest, locked := none }) rfl hsize rfl rfl (rest := rest) rfl
    (by rw [hb]; exact d6) (by rw [hb]; exact d9) (fun x hx => (hno x hx).elim) hRf (by simp only [List.map_cons, List.sum_cons, hcat, List.length_cons, List.length_nil]; show 2 * 0 + _ + _ ≤ _; omega) hlocks
  obtain ⟨f1, f2⟩ := e_same hsame
  rw [hhp] at f1 f2
  have hWs : s.WarmedH U.vm := State.WarmedH.trans hW0 hW
  have hcl : s.vm.findClass cls = some ce.cls := by
    have h9 := hO.cls
    rw [hvm] at h9
    exact h9
  have hnew : s.sameButNew ({ U with vm := s.vm } : State) locs k9 n9 := by
    subst hA
    obtain ⟨e1, e2⟩ := hsame
    rw [State.setFrames_setFrames] at e1
    have h2 : (T.setVm s.vm).sameButNew ({ U with vm := s.vm } : State) [] (0 + 1) (0 + 6) := ⟨e1, e2⟩
    have h3 := X.same.trans h2
    rw [List.append_nil] at h3
    exact h3.mono hc hs
  refine ⟨U, ?_, T.heap.size, hrun, hend, ce, locs, hce, hO.vm, hcl, hWs, hnew, hS.2.2, hpw U hWs f1 f2, Nat.le_trans hS.1 f1, fun q h1 h2 => (f2 q (Nat.lt_of_lt_of_le h1 hS.1)).trans (hS.2.1 q h1 h2)⟩
  refine st1 _ ?_
  show Steps p.tables e below (N.setTop { method := m, pc := pc + 3, locals := ls, stack := .ref T.heap.size :: rest, locked := none }) _
  jvm_step X₁.here [X₁.here.top, hexec, d3', Value.category]
  exact X₁.ldcString hexec (own := "ContentLibrary") (text := text) (index := is) (a := sa) hownS hstr.1 hstr.2
    (g := { method := m, pc := pc + 4, locals := ls, stack := .ref T.heap.size :: .ref T.heap.size :: rest, locked := none }) rfl (by rw [hb]; exact d4) _ hsteps
/-- 'throw new E("text")' in a method of the library: new; dup; ldc_w; invokespecial; athrow -/
theorem e_throwW {cls text : String} {ik is ic k9 n9 : Nat} (hexec : p.tables.exec = Jvm.exec) (hb : c.code = cc) (hl9 : l.stackTraces = false) (hown : s.vm.findClass "ContentLibrary" = some m.cls) (hcls : Jvm.Bundle.fit cls = true) (hex : cls ∈ x_excs) (htx : (is, text) ∈ x_strs)
    (hts : ∀ w ∈ x_big, w.before args s = true) (hk : Cond.classLink "ContentLibrary" ik cls ∈ x_big) (hini : Cond.initialized cls ∈ x_big)
    (hat : ∀ w ∈ Jvm.Bundle.ownAtoms "ContentLibrary" ic cls ["java/lang/RuntimeException", "java/lang/Exception"], w ∈ x_big ∨ w ∈ e_rest cls)
    (hG : x_GV G s s.heap) (hS : va_S (x_A G) s.heap H locs) (hsize : ls.size = c.maxLocals)
    (d0 : decode cc pc = .ok (.new ik, 3)) (d3 : decode cc (pc + 3) = .ok (.dup, 1)) (d4 : decode cc (pc + 4) = .ok (.ldc_w is, 3)) (d6 : decode cc (pc + 7) = .ok (.invokespecial ic, 3)) (d9 : decode cc (pc + 10) = .ok (.athrow, 1))
    (hno : ∀ x ∈ c.exceptionTable.toList, False) (hRf : 5 < R.frames) (hRl : (rest.map fun v => v.category).sum + 82 ≤ R.locals) (hRc : cells + 1 ≤ R.cells) (hRs : slots + 6 ≤ R.slots) (hlocks : meth.locks = false)
    (hpw : ∀ t : State, s.WarmedH t.vm → H.size ≤ t.heap.size → (∀ q : Nat, q < H.size → t.heap[q]? = H[q]?) → x_PW G z t) (hc : cells + 1 ≤ k9) (hs : slots + 6 ≤ n9) :
    W p l e R s m args below meth c H locs cells slots (e_MQ below G cls z s k9 n9) (F0 m pc ls rest) := by
  intro T hT X
  have htr : e.platform.stackTraces = false := (show e.platform.stackTraces = l.stackTraces by rw [X.admits.platform]).trans hl9
  have Y := e_rebase X (R' := { frames := R.frames, locals := R.locals, cells := 1, slots := 6 }) (Nat.le_refl _) (Nat.le_refl _) hRc hRs
  obtain ⟨S, hA⟩ : ∃ S : State, S = (T.setVm s.vm).setFrames (.invoking m args :: below) := ⟨_, rfl⟩
  rw [← hA] at Y
  have hvm : S.vm = s.vm := by rw [hA]; rfl
  have hhp : S.heap = H := by rw [hA]; exact hT
  have hW0 : s.WarmedH S.vm := by rw [hvm]; exact State.WarmedH.refl s
  have hbig : ∀ w ∈ x_big, w.before args S = true := fun w hw => word_at hW0 (good_of_word (x_bg hw).2) (hts w hw)
  have hGS : x_GX G S S.heap := by rw [hhp]; exact (hG.2.kept hS.2.1).warm hW0
  have hall : ∀ w ∈ Jvm.Bundle.ownAtoms "ContentLibrary" ic cls ["java/lang/RuntimeException", "java/lang/Exception"], w.before args S = true := fun w hw => (hat w hw).elim (hbig w) (e_words hex hGS w)
  have hownS : S.vm.findClass "ContentLibrary" = some m.cls := by rw [hvm]; exact hown
  obtain ⟨sa, hstr⟩ := hGS.2.2.1 _ htx
  obtain ⟨vm₁, cX, kX, hfX, hkX, -, -, X₁, st1⟩ := Y.newCold hexec (own := "ContentLibrary") (C := cls) (index := ik) (n := 6) hownS (hbig _ hk) (hall _ (by simp [Jvm.Bundle.ownAtoms])) (hbig _ hini)
    (g := F0 m pc ls rest) rfl (by rw [hb]; exact d0) (Nat.le_refl _) (Nat.le_refl _)
  obtain ⟨N, hN⟩ : ∃ N : State, N = (T.setVm vm₁).pushCell { cls := cX, slots := kX.instanceTypes.map defaultValue, vm := .none } := ⟨_, rfl⟩
  rw [← hN] at X₁ st1
  have hcellA : N.heap[T.heap.size]? = some (freshCell cX kX) := by rw [hN]; exact State.heap_pushCell_size _ _
  have d3' : decode c.code (pc + 3) = .ok (.dup, 1) := by rw [hb]; exact d3
  have hcat : (Value.ref T.heap.size).category = 1 := rfl
  obtain ⟨U, hsteps, hrun, hend, hW, hsame, ce, hce, hO⟩ := X₁.ctorThrowS hexec htr (own := "ContentLibrary") (cls := cls) (names := ["java/lang/RuntimeException", "java/lang/Exception"]) (ic := ic) hownS hcls (by decide +kernel) hall (fun x hx => nomatch hx) hfX hkX hcellA (by rw [hhp, hT]; exact Nat.le_refl _) (msg := .ref sa) rfl
    (g := { method := m, pc := pc + 7, locals := ls, stack := .ref sa :: .ref T.heap.size :: .ref T.heap.size :: rest, locked := none }) rfl hsize rfl rfl (rest := rest) rfl
    (by rw [hb]; exact d6) (by rw [hb]; exact d9) (fun x hx => (hno x hx).elim) hRf (by simp only [List.map_cons, List.sum_cons, hcat, List.length_cons, List.length_nil]; show 2 * 0 + _ + _ ≤ _; omega) hlocks
  obtain ⟨f1, f2⟩ := e_same hsame
  rw [hhp] at f1 f2
  have hWs : s.WarmedH U.vm := State.WarmedH.trans hW0 hW
  have hcl : s.vm.findClass cls = some ce.cls := by
    have h9 := hO.cls
    rw [hvm] at h9
    exact h9
  have hnew : s.sameButNew ({ U with vm := s.vm } : State) locs k9 n9 := by
    subst hA
    obtain ⟨e1, e2⟩ := hsame
    rw [State.setFrames_setFrames] at e1
    have h2 : (T.setVm s.vm).sameButNew ({ U with vm := s.vm } : State) [] (0 + 1) (0 + 6) := ⟨e1, e2⟩
    have h3 := X.same.trans h2
    rw [List.append_nil] at h3
    exact h3.mono hc hs
  refine ⟨U, ?_, T.heap.size, hrun, hend, ce, locs, hce, hO.vm, hcl, hWs, hnew, hS.2.2, hpw U hWs f1 f2, Nat.le_trans hS.1 f1, fun q h1 h2 => (f2 q (Nat.lt_of_lt_of_le h1 hS.1)).trans (hS.2.1 q h1 h2)⟩
  refine st1 _ ?_
  show Steps p.tables e below (N.setTop { method := m, pc := pc + 3, locals := ls, stack := .ref T.heap.size :: rest, locked := none }) _
  jvm_step X₁.here [X₁.here.top, hexec, d3', Value.category]
  exact X₁.ldcStringW hexec (own := "ContentLibrary") (text := text) (index := is) (a := sa) hownS hstr.1 hstr.2
    (g := { method := m, pc := pc + 4, locals := ls, stack := .ref T.heap.size :: .ref T.heap.size :: rest, locked := none }) rfl (by rw [hb]; exact d4) _ hsteps
end EXC
end
section
theorem t_593 : Cond.constantLong "java/lang/Long" 314 6148914691236517205 ∈ x_big := x_bt 593 (by decide +kernel) (by decide +kernel)
theorem t_594 : Cond.constantLong "java/lang/Long" 316 3689348814741910323 ∈ x_big := x_bt 594 (by decide +kernel) (by decide +kernel)
theorem t_595 : Cond.constantLong "java/lang/Long" 318 1085102592571150095 ∈ x_big := x_bt 595 (by decide +kernel) (by decide +kernel)
theorem d_Integer_rotateLeft_0 : decode prog_12_method_50_code 0 = .ok (.iload_n 0, 1) := by decide +kernel
theorem d_Integer_rotateLeft_1 : decode prog_12_method_50_code 1 = .ok (.iload_n 1, 1) := by decide +kernel
theorem d_Integer_rotateLeft_2 : decode prog_12_method_50_code 2 = .ok (.ishl, 1) := by decide +kernel
theorem d_Integer_rotateLeft_3 : decode prog_12_method_50_code 3 = .ok (.iload_n 0, 1) := by decide +kernel
theorem d_Integer_rotateLeft_4 : decode prog_12_method_50_code 4 = .ok (.iload_n 1, 1) := by decide +kernel
theorem d_Integer_rotateLeft_5 : decode prog_12_method_50_code 5 = .ok (.ineg, 1) := by decide +kernel
theorem d_Integer_rotateLeft_6 : decode prog_12_method_50_code 6 = .ok (.iushr, 1) := by decide +kernel
theorem d_Integer_rotateLeft_7 : decode prog_12_method_50_code 7 = .ok (.ior, 1) := by decide +kernel
theorem d_Integer_rotateLeft_8 : decode prog_12_method_50_code 8 = .ok (.ireturn, 1) := by decide +kernel
theorem d_Integer_rotateRight_0 : decode prog_12_method_51_code 0 = .ok (.iload_n 0, 1) := by decide +kernel
theorem d_Integer_rotateRight_1 : decode prog_12_method_51_code 1 = .ok (.iload_n 1, 1) := by decide +kernel
theorem d_Integer_rotateRight_2 : decode prog_12_method_51_code 2 = .ok (.iushr, 1) := by decide +kernel
theorem d_Integer_rotateRight_3 : decode prog_12_method_51_code 3 = .ok (.iload_n 0, 1) := by decide +kernel
theorem d_Integer_rotateRight_4 : decode prog_12_method_51_code 4 = .ok (.iload_n 1, 1) := by decide +kernel
theorem d_Integer_rotateRight_5 : decode prog_12_method_51_code 5 = .ok (.ineg, 1) := by decide +kernel
theorem d_Integer_rotateRight_6 : decode prog_12_method_51_code 6 = .ok (.ishl, 1) := by decide +kernel
theorem d_Integer_rotateRight_7 : decode prog_12_method_51_code 7 = .ok (.ior, 1) := by decide +kernel
theorem d_Integer_rotateRight_8 : decode prog_12_method_51_code 8 = .ok (.ireturn, 1) := by decide +kernel
theorem d_Arrays_fill_0 : decode prog_20_method_103_code 0 = .ok (.iconst 0, 1) := by decide +kernel
theorem d_Arrays_fill_1 : decode prog_20_method_103_code 1 = .ok (.istore_n 2, 1) := by decide +kernel
theorem d_Arrays_fill_2 : decode prog_20_method_103_code 2 = .ok (.aload_n 0, 1) := by decide +kernel
theorem d_Arrays_fill_3 : decode prog_20_method_103_code 3 = .ok (.arraylength, 1) := by decide +kernel
theorem d_Arrays_fill_4 : decode prog_20_method_103_code 4 = .ok (.istore_n 3, 1) := by decide +kernel
theorem d_Arrays_fill_5 : decode prog_20_method_103_code 5 = .ok (.iload_n 2, 1) := by decide +kernel
theorem d_Arrays_fill_6 : decode prog_20_method_103_code 6 = .ok (.iload_n 3, 1) := by decide +kernel
theorem d_Arrays_fill_7 : decode prog_20_method_103_code 7 = .ok (.if_icmp .ge 13, 3) := by decide +kernel
theorem d_Arrays_fill_10 : decode prog_20_method_103_code 10 = .ok (.aload_n 0, 1) := by decide +kernel
theorem d_Arrays_fill_11 : decode prog_20_method_103_code 11 = .ok (.iload_n 2, 1) := by decide +kernel
theorem d_Arrays_fill_12 : decode prog_20_method_103_code 12 = .ok (.iload_n 1, 1) := by decide +kernel
theorem d_Arrays_fill_13 : decode prog_20_method_103_code 13 = .ok (.iastore, 1) := by decide +kernel
theorem d_Arrays_fill_14 : decode prog_20_method_103_code 14 = .ok (.iinc 2 1, 3) := by decide +kernel
theorem d_Arrays_fill_17 : decode prog_20_method_103_code 17 = .ok (.goto (-12), 3) := by decide +kernel
theorem d_Arrays_fill_20 : decode prog_20_method_103_code 20 = .ok (.return_, 1) := by decide +kernel
theorem d_Long_bitCount_0 : decode prog_13_method_50_code 0 = .ok (.lload_n 0, 1) := by decide +kernel
theorem d_Long_bitCount_1 : decode prog_13_method_50_code 1 = .ok (.lload_n 0, 1) := by decide +kernel
theorem d_Long_bitCount_2 : decode prog_13_method_50_code 2 = .ok (.iconst 1, 1) := by decide +kernel
theorem d_Long_bitCount_3 : decode prog_13_method_50_code 3 = .ok (.lushr, 1) := by decide +kernel
theorem d_Long_bitCount_4 : decode prog_13_method_50_code 4 = .ok (.ldc2_w 314, 3) := by decide +kernel
theorem d_Long_bitCount_7 : decode prog_13_method_50_code 7 = .ok (.land, 1) := by decide +kernel
theorem d_Long_bitCount_8 : decode prog_13_method_50_code 8 = .ok (.lsub, 1) := by decide +kernel
theorem d_Long_bitCount_9 : decode prog_13_method_50_code 9 = .ok (.lstore_n 0, 1) := by decide +kernel
theorem d_Long_bitCount_10 : decode prog_13_method_50_code 10 = .ok (.lload_n 0, 1) := by decide +kernel
theorem d_Long_bitCount_11 : decode prog_13_method_50_code 11 = .ok (.ldc2_w 316, 3) := by decide +kernel
theorem d_Long_bitCount_14 : decode prog_13_method_50_code 14 = .ok (.land, 1) := by decide +kernel
theorem d_Long_bitCount_15 : decode prog_13_method_50_code 15 = .ok (.lload_n 0, 1) := by decide +kernel
theorem d_Long_bitCount_16 : decode prog_13_method_50_code 16 = .ok (.iconst 2, 1) := by decide +kernel
theorem d_Long_bitCount_17 : decode prog_13_method_50_code 17 = .ok (.lushr, 1) := by decide +kernel
theorem d_Long_bitCount_18 : decode prog_13_method_50_code 18 = .ok (.ldc2_w 316, 3) := by decide +kernel
theorem d_Long_bitCount_21 : decode prog_13_method_50_code 21 = .ok (.land, 1) := by decide +kernel
theorem d_Long_bitCount_22 : decode prog_13_method_50_code 22 = .ok (.ladd, 1) := by decide +kernel
theorem d_Long_bitCount_23 : decode prog_13_method_50_code 23 = .ok (.lstore_n 0, 1) := by decide +kernel
theorem d_Long_bitCount_24 : decode prog_13_method_50_code 24 = .ok (.lload_n 0, 1) := by decide +kernel
theorem d_Long_bitCount_25 : decode prog_13_method_50_code 25 = .ok (.lload_n 0, 1) := by decide +kernel
theorem d_Long_bitCount_26 : decode prog_13_method_50_code 26 = .ok (.iconst 4, 1) := by decide +kernel
theorem d_Long_bitCount_27 : decode prog_13_method_50_code 27 = .ok (.lushr, 1) := by decide +kernel
theorem d_Long_bitCount_28 : decode prog_13_method_50_code 28 = .ok (.ladd, 1) := by decide +kernel
theorem d_Long_bitCount_29 : decode prog_13_method_50_code 29 = .ok (.ldc2_w 318, 3) := by decide +kernel
theorem d_Long_bitCount_32 : decode prog_13_method_50_code 32 = .ok (.land, 1) := by decide +kernel
theorem d_Long_bitCount_33 : decode prog_13_method_50_code 33 = .ok (.lstore_n 0, 1) := by decide +kernel
theorem d_Long_bitCount_34 : decode prog_13_method_50_code 34 = .ok (.lload_n 0, 1) := by decide +kernel
theorem d_Long_bitCount_35 : decode prog_13_method_50_code 35 = .ok (.lload_n 0, 1) := by decide +kernel
theorem d_Long_bitCount_36 : decode prog_13_method_50_code 36 = .ok (.bipush 8, 2) := by decide +kernel
theorem d_Long_bitCount_38 : decode prog_13_method_50_code 38 = .ok (.lushr, 1) := by decide +kernel
theorem d_Long_bitCount_39 : decode prog_13_method_50_code 39 = .ok (.ladd, 1) := by decide +kernel
theorem d_Long_bitCount_40 : decode prog_13_method_50_code 40 = .ok (.lstore_n 0, 1) := by decide +kernel
theorem d_Long_bitCount_41 : decode prog_13_method_50_code 41 = .ok (.lload_n 0, 1) := by decide +kernel
theorem d_Long_bitCount_42 : decode prog_13_method_50_code 42 = .ok (.lload_n 0, 1) := by decide +kernel
theorem d_Long_bitCount_43 : decode prog_13_method_50_code 43 = .ok (.bipush 16, 2) := by decide +kernel
theorem d_Long_bitCount_45 : decode prog_13_method_50_code 45 = .ok (.lushr, 1) := by decide +kernel
theorem d_Long_bitCount_46 : decode prog_13_method_50_code 46 = .ok (.ladd, 1) := by decide +kernel
theorem d_Long_bitCount_47 : decode prog_13_method_50_code 47 = .ok (.lstore_n 0, 1) := by decide +kernel
theorem d_Long_bitCount_48 : decode prog_13_method_50_code 48 = .ok (.lload_n 0, 1) := by decide +kernel
theorem d_Long_bitCount_49 : decode prog_13_method_50_code 49 = .ok (.lload_n 0, 1) := by decide +kernel
theorem d_Long_bitCount_50 : decode prog_13_method_50_code 50 = .ok (.bipush 32, 2) := by decide +kernel
theorem d_Long_bitCount_52 : decode prog_13_method_50_code 52 = .ok (.lushr, 1) := by decide +kernel
theorem d_Long_bitCount_53 : decode prog_13_method_50_code 53 = .ok (.ladd, 1) := by decide +kernel
theorem d_Long_bitCount_54 : decode prog_13_method_50_code 54 = .ok (.lstore_n 0, 1) := by decide +kernel
theorem d_Long_bitCount_55 : decode prog_13_method_50_code 55 = .ok (.lload_n 0, 1) := by decide +kernel
theorem d_Long_bitCount_56 : decode prog_13_method_50_code 56 = .ok (.l2i, 1) := by decide +kernel
theorem d_Long_bitCount_57 : decode prog_13_method_50_code 57 = .ok (.bipush 127, 2) := by decide +kernel
theorem d_Long_bitCount_59 : decode prog_13_method_50_code 59 = .ok (.iand, 1) := by decide +kernel
theorem d_Long_bitCount_60 : decode prog_13_method_50_code 60 = .ok (.ireturn, 1) := by decide +kernel
def f_Integer_rotateLeft (xn : Nat) (p1 : Int32) (p2 : Int32) (z0 : x_St) : Option (Int32 × x_St) :=
  (some (((p1 <<< (p2 &&& 31)) ||| (x_ushr p1 (-p2))), z0))
def f_Integer_rotateRight (xn : Nat) (p1 : Int32) (p2 : Int32) (z0 : x_St) : Option (Int32 × x_St) :=
  (some (((x_ushr p1 p2) ||| (p1 <<< ((-p2) &&& 31))), z0))
def f_Arrays_fill_5 (xn : Nat) : Nat → Nat → Int32 → Int32 → Int32 → x_St → Option (Unit × x_St)
  | 0, _, _, _, _, _ => none
  | fu + 1, a0, a1, a2, a3, z0 =>
    (if a3 ≤ a2 then
    (some ((), z0))
    else
    (x_ck a2 (x_ln xn a0)
    (f_Arrays_fill_5 xn fu a0 a1 (a2 + (1 : Int32)) a3 (x_put z0 a0 (a2).toNatClampNeg a1))))
def f_Arrays_fill (xn : Nat) (k1 : Nat) (p2 : Int32) (z0 : x_St) : Option (Unit × x_St) :=
  (f_Arrays_fill_5 xn x_FU k1 p2 (0 : Int32) (Int32.ofNat (x_ln xn k1)) z0)
def f_Long_bitCount (xn : Nat) (p1 : Int64) (z0 : x_St) : Option (Int32 × x_St) :=
  (some ((((((((((((p1 - ((x_lushr p1 (1 : Int32)) &&& (6148914691236517205 : Int64))) &&& (3689348814741910323 : Int64)) + ((x_lushr (p1 - ((x_lushr p1 (1 : Int32)) &&& (6148914691236517205 : Int64))) (2 : Int32)) &&& (3689348814741910323 : Int64))) + (x_lushr (((p1 - ((x_lushr p1 (1 : Int32)) &&& (6148914691236517205 : Int64))) &&& (3689348814741910323 : Int64)) + ((x_lushr (p1 - ((x_lushr p1 (1 : Int32)) &&& (6148914691236517205 : Int64))) (2 : Int32)) &&& (3689348814741910323 : Int64))) (4 : Int32))) &&& (1085102592571150095 : Int64)) + (x_lushr (((((p1 - ((x_lushr p1 (1 : Int32)) &&& (6148914691236517205 : Int64))) &&& (3689348814741910323 : Int64)) + ((x_lushr (p1 - ((x_lushr p1 (1 : Int32)) &&& (6148914691236517205 : Int64))) (2 : Int32)) &&& (3689348814741910323 : Int64))) + (x_lushr (((p1 - ((x_lushr p1 (1 : Int32)) &&& (6148914691236517205 : Int64))) &&& (3689348814741910323 : Int64)) + ((x_lushr (p1 - ((x_lushr p1 (1 : Int32)) &&& (6148914691236517205 : Int64))) (2 : Int32)) &&& (3689348814741910323 : Int64))) (4 : Int32))) &&& (1085102592571150095 : Int64)) (8 : Int32))) + (x_lushr ((((((p1 - ((x_lushr p1 (1 : Int32)) &&& (6148914691236517205 : Int64))) &&& (3689348814741910323 : Int64)) + ((x_lushr (p1 - ((x_lushr p1 (1 : Int32)) &&& (6148914691236517205 : Int64))) (2 : Int32)) &&& (3689348814741910323 : Int64))) + (x_lushr (((p1 - ((x_lushr p1 (1 : Int32)) &&& (6148914691236517205 : Int64))) &&& (3689348814741910323 : Int64)) + ((x_lushr (p1 - ((x_lushr p1 (1 : Int32)) &&& (6148914691236517205 : Int64))) (2 : Int32)) &&& (3689348814741910323 : Int64))) (4 : Int32))) &&& (1085102592571150095 : Int64)) + (x_lushr (((((p1 - ((x_lushr p1 (1 : Int32)) &&& (6148914691236517205 : Int64))) &&& (3689348814741910323 : Int64)) + ((x_lushr (p1 - ((x_lushr p1 (1 : Int32)) &&& (6148914691236517205 : Int64))) (2 : Int32)) &&& (3689348814741910323 : Int64))) + (x_lushr (((p1 - ((x_lushr p1 (1 : Int32)) &&& (6148914691236517205 : Int64))) &&& (3689348814741910323 : Int64)) + ((x_lushr (p1 - ((x_lushr p1 (1 : Int32)) &&& (6148914691236517205 : Int64))) (2 : Int32)) &&& (3689348814741910323 : Int64))) (4 : Int32))) &&& (1085102592571150095 : Int64)) (8 : Int32))) (16 : Int32))) + (x_lushr (((((((p1 - ((x_lushr p1 (1 : Int32)) &&& (6148914691236517205 : Int64))) &&& (3689348814741910323 : Int64)) + ((x_lushr (p1 - ((x_lushr p1 (1 : Int32)) &&& (6148914691236517205 : Int64))) (2 : Int32)) &&& (3689348814741910323 : Int64))) + (x_lushr (((p1 - ((x_lushr p1 (1 : Int32)) &&& (6148914691236517205 : Int64))) &&& (3689348814741910323 : Int64)) + ((x_lushr (p1 - ((x_lushr p1 (1 : Int32)) &&& (6148914691236517205 : Int64))) (2 : Int32)) &&& (3689348814741910323 : Int64))) (4 : Int32))) &&& (1085102592571150095 : Int64)) + (x_lushr (((((p1 - ((x_lushr p1 (1 : Int32)) &&& (6148914691236517205 : Int64))) &&& (3689348814741910323 : Int64)) + ((x_lushr (p1 - ((x_lushr p1 (1 : Int32)) &&& (6148914691236517205 : Int64))) (2 : Int32)) &&& (3689348814741910323 : Int64))) + (x_lushr (((p1 - ((x_lushr p1 (1 : Int32)) &&& (6148914691236517205 : Int64))) &&& (3689348814741910323 : Int64)) + ((x_lushr (p1 - ((x_lushr p1 (1 : Int32)) &&& (6148914691236517205 : Int64))) (2 : Int32)) &&& (3689348814741910323 : Int64))) (4 : Int32))) &&& (1085102592571150095 : Int64)) (8 : Int32))) + (x_lushr ((((((p1 - ((x_lushr p1 (1 : Int32)) &&& (6148914691236517205 : Int64))) &&& (3689348814741910323 : Int64)) + ((x_lushr (p1 - ((x_lushr p1 (1 : Int32)) &&& (6148914691236517205 : Int64))) (2 : Int32)) &&& (3689348814741910323 : Int64))) + (x_lushr (((p1 - ((x_lushr p1 (1 : Int32)) &&& (6148914691236517205 : Int64))) &&& (3689348814741910323 : Int64)) + ((x_lushr (p1 - ((x_lushr p1 (1 : Int32)) &&& (6148914691236517205 : Int64))) (2 : Int32)) &&& (3689348814741910323 : Int64))) (4 : Int32))) &&& (1085102592571150095 : Int64)) + (x_lushr (((((p1 - ((x_lushr p1 (1 : Int32)) &&& (6148914691236517205 : Int64))) &&& (3689348814741910323 : Int64)) + ((x_lushr (p1 - ((x_lushr p1 (1 : Int32)) &&& (6148914691236517205 : Int64))) (2 : Int32)) &&& (3689348814741910323 : Int64))) + (x_lushr (((p1 - ((x_lushr p1 (1 : Int32)) &&& (6148914691236517205 : Int64))) &&& (3689348814741910323 : Int64)) + ((x_lushr (p1 - ((x_lushr p1 (1 : Int32)) &&& (6148914691236517205 : Int64))) (2 : Int32)) &&& (3689348814741910323 : Int64))) (4 : Int32))) &&& (1085102592571150095 : Int64)) (8 : Int32))) (16 : Int32))) (32 : Int32)))).toInt32) &&& (127 : Int32)), z0))
abbrev rm_Integer_rotateLeft : Room := { frames := 0, cells := 0, slots := 0, locals := 0 }
set_option maxHeartbeats 4000000 in
set_option maxRecDepth 100000 in
theorem c_Integer_rotateLeft (l : Launch) (G : x_G) (p1 : Int32) (p2 : Int32) (z0 : x_St) (r : Int32) (zo : x_St) (hf : f_Integer_rotateLeft (x_n G) p1 p2 z0 = some (r, zo)) : Met l (⟨"java/lang/Integer", "rotateLeft", "(II)I"⟩ : MethodName) (x_ws (⟨"java/lang/Integer", "rotateLeft", "(II)I"⟩ : MethodName) prog_12_method_50_code 2 (some .int)) rm_Integer_rotateLeft (va_Pc [.int p1, .int p2] (x_PW G z0)) (va_Qi (fun a u => r = a ∧ zo = u) (x_PW G) (x_A G)) 0 0 (x_A G) := by
  refine va_MetF (cc := prog_12_method_50_code) (maxL := 2) (ret := (some .int)) (by decide +kernel) rfl ?_
  intro p e s m args below meth c s₁ B hml hv
  obtain ⟨rfl, hz, hP, hD, hK, hG⟩ := hv
  have C0 : x_Ctx G p s m _ meth c prog_12_method_50_code "java/lang/Integer" 2 (some .int) := ⟨B.exec, B.bytes, B.returns, hml, findClass_of_methodNamed B.named, fun w h => atoms_spec (ws := (x_ws (⟨"java/lang/Integer", "rotateLeft", "(II)I"⟩ : MethodName) prog_12_method_50_code 2 (some .int))) B.pre w (List.mem_cons_of_mem _ h), B.notSynchronized, hz, hK, hG⟩
  obtain ⟨hx, hb, hr, hml, hown, hts, hlocks, hz, hK, hG⟩ := id C0
  have hS : va_S (x_A G) s.heap s.heap [] := va_S.rf
  have hl := lv_entry ([.int p1, .int p2]) (n := 2) (Nat.le_of_ble_eq_true rfl)
  rw [lg_entry_eq]
  generalize (lg_sl ([.int p1, .int p2]) ++ List.replicate (2 - (lg_sl ([.int p1, .int p2])).length) Slot.unset).toArray = ls at hl ⊢
  have hl : lv_has ls 2 [(0, .int p1), (1, .int p2)] := hl
  rw [f_Integer_rotateLeft] at hf
  refine lv_iload_n hx hb d_Integer_rotateLeft_0 rfl (lv_at hl 0 rfl) ?_
  refine lv_iload_n hx hb d_Integer_rotateLeft_1 rfl (lv_at hl 1 rfl) ?_
  refine lv_ishl hx hb d_Integer_rotateLeft_2 ?_
  refine lv_iload_n hx hb d_Integer_rotateLeft_3 rfl (lv_at hl 0 rfl) ?_
  refine lv_iload_n hx hb d_Integer_rotateLeft_4 rfl (lv_at hl 1 rfl) ?_
  refine lv_ineg hx hb d_Integer_rotateLeft_5 ?_
  refine lv_iushr (v := (x_ushr p1 (-p2))) hx hb d_Integer_rotateLeft_6 rfl ?_
  refine lv_ior hx hb d_Integer_rotateLeft_7 ?_
  obtain ⟨rfl, rfl⟩ := x_ret hf
  exact W.iret (v := ((p1 <<< (p2 &&& 31)) ||| (x_ushr p1 (-p2)))) hx hb hr (fun t ht hW => ⟨⟨_, _, rfl, ⟨rfl, rfl⟩, x_pw hP hD hK hG hS hz ht hW⟩, hS.F ht⟩) hS.2.2 d_Integer_rotateLeft_8
abbrev rm_Integer_rotateRight : Room := { frames := 0, cells := 0, slots := 0, locals := 0 }
set_option maxHeartbeats 4000000 in
set_option maxRecDepth 100000 in
theorem c_Integer_rotateRight (l : Launch) (G : x_G) (p1 : Int32) (p2 : Int32) (z0 : x_St) (r : Int32) (zo : x_St) (hf : f_Integer_rotateRight (x_n G) p1 p2 z0 = some (r, zo)) : Met l (⟨"java/lang/Integer", "rotateRight", "(II)I"⟩ : MethodName) (x_ws (⟨"java/lang/Integer", "rotateRight", "(II)I"⟩ : MethodName) prog_12_method_51_code 2 (some .int)) rm_Integer_rotateRight (va_Pc [.int p1, .int p2] (x_PW G z0)) (va_Qi (fun a u => r = a ∧ zo = u) (x_PW G) (x_A G)) 0 0 (x_A G) := by
  refine va_MetF (cc := prog_12_method_51_code) (maxL := 2) (ret := (some .int)) (by decide +kernel) rfl ?_
  intro p e s m args below meth c s₁ B hml hv
  obtain ⟨rfl, hz, hP, hD, hK, hG⟩ := hv
  have C0 : x_Ctx G p s m _ meth c prog_12_method_51_code "java/lang/Integer" 2 (some .int) := ⟨B.exec, B.bytes, B.returns, hml, findClass_of_methodNamed B.named, fun w h => atoms_spec (ws := (x_ws (⟨"java/lang/Integer", "rotateRight", "(II)I"⟩ : MethodName) prog_12_method_51_code 2 (some .int))) B.pre w (List.mem_cons_of_mem _ h), B.notSynchronized, hz, hK, hG⟩
  obtain ⟨hx, hb, hr, hml, hown, hts, hlocks, hz, hK, hG⟩ := id C0
  have hS : va_S (x_A G) s.heap s.heap [] := va_S.rf
  have hl := lv_entry ([.int p1, .int p2]) (n := 2) (Nat.le_of_ble_eq_true rfl)
  rw [lg_entry_eq]
  generalize (lg_sl ([.int p1, .int p2]) ++ List.replicate (2 - (lg_sl ([.int p1, .int p2])).length) Slot.unset).toArray = ls at hl ⊢
  have hl : lv_has ls 2 [(0, .int p1), (1, .int p2)] := hl
  rw [f_Integer_rotateRight] at hf
  refine lv_iload_n hx hb d_Integer_rotateRight_0 rfl (lv_at hl 0 rfl) ?_
  refine lv_iload_n hx hb d_Integer_rotateRight_1 rfl (lv_at hl 1 rfl) ?_
  refine lv_iushr (v := (x_ushr p1 p2)) hx hb d_Integer_rotateRight_2 rfl ?_
  refine lv_iload_n hx hb d_Integer_rotateRight_3 rfl (lv_at hl 0 rfl) ?_
  refine lv_iload_n hx hb d_Integer_rotateRight_4 rfl (lv_at hl 1 rfl) ?_
  refine lv_ineg hx hb d_Integer_rotateRight_5 ?_
  refine lv_ishl hx hb d_Integer_rotateRight_6 ?_
  refine lv_ior hx hb d_Integer_rotateRight_7 ?_
  obtain ⟨rfl, rfl⟩ := x_ret hf
  exact W.iret (v := ((x_ushr p1 p2) ||| (p1 <<< ((-p2) &&& 31)))) hx hb hr (fun t ht hW => ⟨⟨_, _, rfl, ⟨rfl, rfl⟩, x_pw hP hD hK hG hS hz ht hW⟩, hS.F ht⟩) hS.2.2 d_Integer_rotateRight_8
abbrev rm_Arrays_fill : Room := { frames := 0, cells := 0, slots := 0, locals := 0 }
set_option maxHeartbeats 4000000 in
set_option maxRecDepth 100000 in
theorem w_Arrays_fill_5 (l : Launch) (G : x_G) {p : Program} {e : Env} {s : State} {m : MethodId} {args : Array Value} {below : List Frame} {meth : Method} {c : Code} (C0 : x_Ctx G p s m args meth c prog_20_method_103_code "java/util/Arrays" 4 none) (r : Unit) (zo : x_St) : ∀ (fu : Nat), ∀ (a0 : Nat) (ha0 : x_isA a0 = true) (a1 : Int32) (a2 : Int32) (a3 : Int32) (z0 : x_St), f_Arrays_fill_5 (x_n G) fu a0 a1 a2 a3 z0 = some (r, zo) → ∀ (H : Heap) (locs : List Loc) (ls : Array Slot), va_P (x_D G) vwCl (x_Wd G z0) H → va_D (x_A G) (x_Wd G z0) → va_S (x_A G) s.heap H locs → lv_has ls 4 [(0, .ref (x_ad G a0)), (1, .int a1), (2, .int a2), (3, .int a3)] → W p l e rm_Arrays_fill s m args below meth c H locs 0 0 (MQ below (va_Qv (fun u => r = () ∧ zo = u) (x_PW G) (x_A G)) args s 0 0 (x_A G)) (F0 m 5 ls []) := by
  obtain ⟨hx, hb, hr, hml, hown, hts, hlocks, hz, hK, hG⟩ := id C0
  intro fu
  induction fu with
  | zero =>
    intro a0 ha0 a1 a2 a3 z0 hf
    rw [f_Arrays_fill_5] at hf
    cases hf
  | succ fu ih =>
    intro a0 ha0 a1 a2 a3 z0 hf H locs ls hP hD hS hl
    rw [f_Arrays_fill_5] at hf
    refine lv_iload_n hx hb d_Arrays_fill_5 rfl (lv_at hl 2 rfl) ?_
    refine lv_iload_n hx hb d_Arrays_fill_6 rfl (lv_at hl 3 rfl) ?_
    refine lv_icmp_ge (tgt := 20) hx hb d_Arrays_fill_7 (by decide) (fun hc1 => ?_) (fun hc1 => ?_)
    · have hf := x_br_t hf hc1
      obtain ⟨rfl, rfl⟩ := x_ret hf
      exact W.vret hx hb hr (fun t ht hW => ⟨⟨_, rfl, ⟨rfl, rfl⟩, x_pw hP hD hK hG hS hz ht hW⟩, hS.F ht⟩) hS.2.2 d_Arrays_fill_20
    · have hf := x_br_f hf hc1
      refine lv_aload_n hx hb d_Arrays_fill_10 rfl (lv_at hl 0 rfl) ?_
      refine lv_iload_n hx hb d_Arrays_fill_11 rfl (lv_at hl 2 rfl) ?_
      refine lv_iload_n hx hb d_Arrays_fill_12 rfl (lv_at hl 1 rfl) ?_
      obtain ⟨hin2, hf⟩ := x_ck_some hf
      refine va_iast hx hb hK hP hD hS a0 0 (x_lk_A G _ ha0) rfl hin2 d_Arrays_fill_13 (fun H locs hP hD hS => ?_)
      rw [x_st_A G _ ha0] at hP hD
      refine lv_iinc (v := (a2 + (1 : Int32))) (lv' := [(2, .int (a2 + (1 : Int32))), (0, .ref (x_ad G a0)), (1, .int a1), (3, .int a3)]) hx hb d_Arrays_fill_14 hl (k := 2) rfl rfl (by decide) rfl (fun ls hl => ?_)
      refine lv_goto (tgt := 5) hx hb d_Arrays_fill_17 (by decide) ?_
      exact ih a0 ha0 a1 (a2 + (1 : Int32)) a3 (x_put z0 a0 (a2).toNatClampNeg a1) hf _ _ _ hP hD hS (lv_sub hl [1, 2, 0, 3] rfl)
set_option maxHeartbeats 4000000 in
set_option maxRecDepth 100000 in
theorem c_Arrays_fill (l : Launch) (G : x_G) (k1 : Nat) (hk1 : x_isA k1 = true) (p2 : Int32) (z0 : x_St) (r : Unit) (zo : x_St) (hf : f_Arrays_fill (x_n G) k1 p2 z0 = some (r, zo)) : Met l (⟨"java/util/Arrays", "fill", "([II)V"⟩ : MethodName) (x_ws (⟨"java/util/Arrays", "fill", "([II)V"⟩ : MethodName) prog_20_method_103_code 4 none) rm_Arrays_fill (va_Pc [.ref (x_ad G k1), .int p2] (x_PW G z0)) (va_Qv (fun u => r = () ∧ zo = u) (x_PW G) (x_A G)) 0 0 (x_A G) := by
  refine va_MetF (cc := prog_20_method_103_code) (maxL := 4) (ret := none) (by decide +kernel) rfl ?_
  intro p e s m args below meth c s₁ B hml hv
  obtain ⟨rfl, hz, hP, hD, hK, hG⟩ := hv
  have C0 : x_Ctx G p s m _ meth c prog_20_method_103_code "java/util/Arrays" 4 none := ⟨B.exec, B.bytes, B.returns, hml, findClass_of_methodNamed B.named, fun w h => atoms_spec (ws := (x_ws (⟨"java/util/Arrays", "fill", "([II)V"⟩ : MethodName) prog_20_method_103_code 4 none)) B.pre w (List.mem_cons_of_mem _ h), B.notSynchronized, hz, hK, hG⟩
  obtain ⟨hx, hb, hr, hml, hown, hts, hlocks, hz, hK, hG⟩ := id C0
  have hS : va_S (x_A G) s.heap s.heap [] := va_S.rf
  have hl := lv_entry ([.ref (x_ad G k1), .int p2]) (n := 4) (Nat.le_of_ble_eq_true rfl)
  rw [lg_entry_eq]
  generalize (lg_sl ([.ref (x_ad G k1), .int p2]) ++ List.replicate (4 - (lg_sl ([.ref (x_ad G k1), .int p2])).length) Slot.unset).toArray = ls at hl ⊢
  have hl : lv_has ls 4 [(0, .ref (x_ad G k1)), (1, .int p2)] := hl
  rw [f_Arrays_fill] at hf
  refine lv_iconst (v := (0 : Int32)) hx hb d_Arrays_fill_0 (by decide) ?_
  refine lv_istore_n (lv' := [(2, .int (0 : Int32)), (0, .ref (x_ad G k1)), (1, .int p2)]) hx hb d_Arrays_fill_1 rfl hl (by decide) rfl (fun ls hl => ?_)
  refine lv_aload_n hx hb d_Arrays_fill_2 rfl (lv_at hl 1 rfl) ?_
  refine va_alen hx hb hK hP k1 0 (x_lk_A G _ hk1) rfl (v := (Int32.ofNat (x_ln (x_n G) k1))) rfl d_Arrays_fill_3 ?_
  refine lv_istore_n (lv' := [(3, .int (Int32.ofNat (x_ln (x_n G) k1))), (2, .int (0 : Int32)), (0, .ref (x_ad G k1)), (1, .int p2)]) hx hb d_Arrays_fill_4 rfl hl (by decide) rfl (fun ls hl => ?_)
  exact w_Arrays_fill_5 l G C0 r zo x_FU k1 hk1 p2 (0 : Int32) (Int32.ofNat (x_ln (x_n G) k1)) z0 hf _ _ _ hP hD hS (lv_sub hl [2, 3, 1, 0] rfl)
abbrev rm_Long_bitCount : Room := { frames := 0, cells := 0, slots := 0, locals := 0 }
set_option maxHeartbeats 4000000 in
set_option maxRecDepth 100000 in
theorem c_Long_bitCount (l : Launch) (G : x_G) (p1 : Int64) (z0 : x_St) (r : Int32) (zo : x_St) (hf : f_Long_bitCount (x_n G) p1 z0 = some (r, zo)) : Met l (⟨"java/lang/Long", "bitCount", "(J)I"⟩ : MethodName) (x_ws (⟨"java/lang/Long", "bitCount", "(J)I"⟩ : MethodName) prog_13_method_50_code 2 (some .int)) rm_Long_bitCount (va_Pc [.long p1] (x_PW G z0)) (va_Qi (fun a u => r = a ∧ zo = u) (x_PW G) (x_A G)) 0 0 (x_A G) := by
  refine va_MetF (cc := prog_13_method_50_code) (maxL := 2) (ret := (some .int)) (by decide +kernel) rfl ?_
  intro p e s m args below meth c s₁ B hml hv
  obtain ⟨rfl, hz, hP, hD, hK, hG⟩ := hv
  have C0 : x_Ctx G p s m _ meth c prog_13_method_50_code "java/lang/Long" 2 (some .int) := ⟨B.exec, B.bytes, B.returns, hml, findClass_of_methodNamed B.named, fun w h => atoms_spec (ws := (x_ws (⟨"java/lang/Long", "bitCount", "(J)I"⟩ : MethodName) prog_13_method_50_code 2 (some .int))) B.pre w (List.mem_cons_of_mem _ h), B.notSynchronized, hz, hK, hG⟩
  obtain ⟨hx, hb, hr, hml, hown, hts, hlocks, hz, hK, hG⟩ := id C0
  have hS : va_S (x_A G) s.heap s.heap [] := va_S.rf
  have hl := lv_entry ([.long p1]) (n := 2) (Nat.le_of_ble_eq_true rfl)
  rw [lg_entry_eq]
  generalize (lg_sl ([.long p1]) ++ List.replicate (2 - (lg_sl ([.long p1])).length) Slot.unset).toArray = ls at hl ⊢
  have hl : lv_has ls 2 [(0, .long p1)] := hl
  rw [f_Long_bitCount] at hf
  refine lv_lload_n hx hb d_Long_bitCount_0 rfl (lv_at hl 0 rfl) ?_
  refine lv_lload_n hx hb d_Long_bitCount_1 rfl (lv_at hl 0 rfl) ?_
  refine lv_iconst (v := (1 : Int32)) hx hb d_Long_bitCount_2 (by decide) ?_
  refine lv_lushr (v := (x_lushr p1 (1 : Int32))) hx hb d_Long_bitCount_3 rfl ?_
  refine lv_ldc2 (v := (6148914691236517205 : Int64)) hx hb hown (hts _ t_593) d_Long_bitCount_4 ?_
  refine lv_land hx hb d_Long_bitCount_7 ?_
  refine lv_lsub hx hb d_Long_bitCount_8 ?_
  refine lv_lstore_n (lv' := [(0, .long (p1 - ((x_lushr p1 (1 : Int32)) &&& (6148914691236517205 : Int64))))]) hx hb d_Long_bitCount_9 rfl hl (by decide) rfl (fun ls hl => ?_)
  refine lv_lload_n hx hb d_Long_bitCount_10 rfl (lv_at hl 0 rfl) ?_
  refine lv_ldc2 (v := (3689348814741910323 : Int64)) hx hb hown (hts _ t_594) d_Long_bitCount_11 ?_
  refine lv_land hx hb d_Long_bitCount_14 ?_
  refine lv_lload_n hx hb d_Long_bitCount_15 rfl (lv_at hl 0 rfl) ?_
  refine lv_iconst (v := (2 : Int32)) hx hb d_Long_bitCount_16 (by decide) ?_
  refine lv_lushr (v := (x_lushr (p1 - ((x_lushr p1 (1 : Int32)) &&& (6148914691236517205 : Int64))) (2 : Int32))) hx hb d_Long_bitCount_17 rfl ?_
  refine lv_ldc2 (v := (3689348814741910323 : Int64)) hx hb hown (hts _ t_594) d_Long_bitCount_18 ?_
  refine lv_land hx hb d_Long_bitCount_21 ?_
  refine lv_ladd hx hb d_Long_bitCount_22 ?_
  refine lv_lstore_n (lv' := [(0, .long (((p1 - ((x_lushr p1 (1 : Int32)) &&& (6148914691236517205 : Int64))) &&& (3689348814741910323 : Int64)) + ((x_lushr (p1 - ((x_lushr p1 (1 : Int32)) &&& (6148914691236517205 : Int64))) (2 : Int32)) &&& (3689348814741910323 : Int64))))]) hx hb d_Long_bitCount_23 rfl hl (by decide) rfl (fun ls hl => ?_)
  refine lv_lload_n hx hb d_Long_bitCount_24 rfl (lv_at hl 0 rfl) ?_
  refine lv_lload_n hx hb d_Long_bitCount_25 rfl (lv_at hl 0 rfl) ?_
  refine lv_iconst (v := (4 : Int32)) hx hb d_Long_bitCount_26 (by decide) ?_
  refine lv_lushr (v := (x_lushr (((p1 - ((x_lushr p1 (1 : Int32)) &&& (6148914691236517205 : Int64))) &&& (3689348814741910323 : Int64)) + ((x_lushr (p1 - ((x_lushr p1 (1 : Int32)) &&& (6148914691236517205 : Int64))) (2 : Int32)) &&& (3689348814741910323 : Int64))) (4 : Int32))) hx hb d_Long_bitCount_27 rfl ?_
  refine lv_ladd hx hb d_Long_bitCount_28 ?_
  refine lv_ldc2 (v := (1085102592571150095 : Int64)) hx hb hown (hts _ t_595) d_Long_bitCount_29 ?_
  refine lv_land hx hb d_Long_bitCount_32 ?_
  refine lv_lstore_n (lv' := [(0, .long (((((p1 - ((x_lushr p1 (1 : Int32)) &&& (6148914691236517205 : Int64))) &&& (3689348814741910323 : Int64)) + ((x_lushr (p1 - ((x_lushr p1 (1 : Int32)) &&& (6148914691236517205 : Int64))) (2 : Int32)) &&& (3689348814741910323 : Int64))) + (x_lushr (((p1 - ((x_lushr p1 (1 : Int32)) &&& (6148914691236517205 : Int64))) &&& (3689348814741910323 : Int64)) + ((x_lushr (p1 - ((x_lushr p1 (1 : Int32)) &&& (6148914691236517205 : Int64))) (2 : Int32)) &&& (3689348814741910323 : Int64))) (4 : Int32))) &&& (1085102592571150095 : Int64)))]) hx hb d_Long_bitCount_33 rfl hl (by decide) rfl (fun ls hl => ?_)
  refine lv_lload_n hx hb d_Long_bitCount_34 rfl (lv_at hl 0 rfl) ?_
  refine lv_lload_n hx hb d_Long_bitCount_35 rfl (lv_at hl 0 rfl) ?_
  refine lv_bipush (v := (8 : Int32)) hx hb d_Long_bitCount_36 (by decide) ?_
  refine lv_lushr (v := (x_lushr (((((p1 - ((x_lushr p1 (1 : Int32)) &&& (6148914691236517205 : Int64))) &&& (3689348814741910323 : Int64)) + ((x_lushr (p1 - ((x_lushr p1 (1 : Int32)) &&& (6148914691236517205 : Int64))) (2 : Int32)) &&& (3689348814741910323 : Int64))) + (x_lushr (((p1 - ((x_lushr p1 (1 : Int32)) &&& (6148914691236517205 : Int64))) &&& (3689348814741910323 : Int64)) + ((x_lushr (p1 - ((x_lushr p1 (1 : Int32)) &&& (6148914691236517205 : Int64))) (2 : Int32)) &&& (3689348814741910323 : Int64))) (4 : Int32))) &&& (1085102592571150095 : Int64)) (8 : Int32))) hx hb d_Long_bitCount_38 rfl ?_
  refine lv_ladd hx hb d_Long_bitCount_39 ?_
  refine lv_lstore_n (lv' := [(0, .long ((((((p1 - ((x_lushr p1 (1 : Int32)) &&& (6148914691236517205 : Int64))) &&& (3689348814741910323 : Int64)) + ((x_lushr (p1 - ((x_lushr p1 (1 : Int32)) &&& (6148914691236517205 : Int64))) (2 : Int32)) &&& (3689348814741910323 : Int64))) + (x_lushr (((p1 - ((x_lushr p1 (1 : Int32)) &&& (6148914691236517205 : Int64))) &&& (3689348814741910323 : Int64)) + ((x_lushr (p1 - ((x_lushr p1 (1 : Int32)) &&& (6148914691236517205 : Int64))) (2 : Int32)) &&& (3689348814741910323 : Int64))) (4 : Int32))) &&& (1085102592571150095 : Int64)) + (x_lushr (((((p1 - ((x_lushr p1 (1 : Int32)) &&& (6148914691236517205 : Int64))) &&& (3689348814741910323 : Int64)) + ((x_lushr (p1 - ((x_lushr p1 (1 : Int32)) &&& (6148914691236517205 : Int64))) (2 : Int32)) &&& (3689348814741910323 : Int64))) + (x_lushr (((p1 - ((x_lushr p1 (1 : Int32)) &&& (6148914691236517205 : Int64))) &&& (3689348814741910323 : Int64)) + ((x_lushr (p1 - ((x_lushr p1 (1 : Int32)) &&& (6148914691236517205 : Int64))) (2 : Int32)) &&& (3689348814741910323 : Int64))) (4 : Int32))) &&& (1085102592571150095 : Int64)) (8 : Int32))))]) hx hb d_Long_bitCount_40 rfl hl (by decide) rfl (fun ls hl => ?_)
  refine lv_lload_n hx hb d_Long_bitCount_41 rfl (lv_at hl 0 rfl) ?_
  refine lv_lload_n hx hb d_Long_bitCount_42 rfl (lv_at hl 0 rfl) ?_
  refine lv_bipush (v := (16 : Int32)) hx hb d_Long_bitCount_43 (by decide) ?_
  refine lv_lushr (v := (x_lushr ((((((p1 - ((x_lushr p1 (1 : Int32)) &&& (6148914691236517205 : Int64))) &&& (3689348814741910323 : Int64)) + ((x_lushr (p1 - ((x_lushr p1 (1 : Int32)) &&& (6148914691236517205 : Int64))) (2 : Int32)) &&& (3689348814741910323 : Int64))) + (x_lushr (((p1 - ((x_lushr p1 (1 : Int32)) &&& (6148914691236517205 : Int64))) &&& (3689348814741910323 : Int64)) + ((x_lushr (p1 - ((x_lushr p1 (1 : Int32)) &&& (6148914691236517205 : Int64))) (2 : Int32)) &&& (3689348814741910323 : Int64))) (4 : Int32))) &&& (1085102592571150095 : Int64)) + (x_lushr (((((p1 - ((x_lushr p1 (1 : Int32)) &&& (6148914691236517205 : Int64))) &&& (3689348814741910323 : Int64)) + ((x_lushr (p1 - ((x_lushr p1 (1 : Int32)) &&& (6148914691236517205 : Int64))) (2 : Int32)) &&& (3689348814741910323 : Int64))) + (x_lushr (((p1 - ((x_lushr p1 (1 : Int32)) &&& (6148914691236517205 : Int64))) &&& (3689348814741910323 : Int64)) + ((x_lushr (p1 - ((x_lushr p1 (1 : Int32)) &&& (6148914691236517205 : Int64))) (2 : Int32)) &&& (3689348814741910323 : Int64))) (4 : Int32))) &&& (1085102592571150095 : Int64)) (8 : Int32))) (16 : Int32))) hx hb d_Long_bitCount_45 rfl ?_
  refine lv_ladd hx hb d_Long_bitCount_46 ?_
  refine lv_lstore_n (lv' := [(0, .long (((((((p1 - ((x_lushr p1 (1 : Int32)) &&& (6148914691236517205 : Int64))) &&& (3689348814741910323 : Int64)) + ((x_lushr (p1 - ((x_lushr p1 (1 : Int32)) &&& (6148914691236517205 : Int64))) (2 : Int32)) &&& (3689348814741910323 : Int64))) + (x_lushr (((p1 - ((x_lushr p1 (1 : Int32)) &&& (6148914691236517205 : Int64))) &&& (3689348814741910323 : Int64)) + ((x_lushr (p1 - ((x_lushr p1 (1 : Int32)) &&& (6148914691236517205 : Int64))) (2 : Int32)) &&& (3689348814741910323 : Int64))) (4 : Int32))) &&& (1085102592571150095 : Int64)) + (x_lushr (((((p1 - ((x_lushr p1 (1 : Int32)) &&& (6148914691236517205 : Int64))) &&& (3689348814741910323 : Int64)) + ((x_lushr (p1 - ((x_lushr p1 (1 : Int32)) &&& (6148914691236517205 : Int64))) (2 : Int32)) &&& (3689348814741910323 : Int64))) + (x_lushr (((p1 - ((x_lushr p1 (1 : Int32)) &&& (6148914691236517205 : Int64))) &&& (3689348814741910323 : Int64)) + ((x_lushr (p1 - ((x_lushr p1 (1 : Int32)) &&& (6148914691236517205 : Int64))) (2 : Int32)) &&& (3689348814741910323 : Int64))) (4 : Int32))) &&& (1085102592571150095 : Int64)) (8 : Int32))) + (x_lushr ((((((p1 - ((x_lushr p1 (1 : Int32)) &&& (6148914691236517205 : Int64))) &&& (3689348814741910323 : Int64)) + ((x_lushr (p1 - ((x_lushr p1 (1 : Int32)) &&& (6148914691236517205 : Int64))) (2 : Int32)) &&& (3689348814741910323 : Int64))) + (x_lushr (((p1 - ((x_lushr p1 (1 : Int32)) &&& (6148914691236517205 : Int64))) &&& (3689348814741910323 : Int64)) + ((x_lushr (p1 - ((x_lushr p1 (1 : Int32)) &&& (6148914691236517205 : Int64))) (2 : Int32)) &&& (3689348814741910323 : Int64))) (4 : Int32))) &&& (1085102592571150095 : Int64)) + (x_lushr (((((p1 - ((x_lushr p1 (1 : Int32)) &&& (6148914691236517205 : Int64))) &&& (3689348814741910323 : Int64)) + ((x_lushr (p1 - ((x_lushr p1 (1 : Int32)) &&& (6148914691236517205 : Int64))) (2 : Int32)) &&& (3689348814741910323 : Int64))) + (x_lushr (((p1 - ((x_lushr p1 (1 : Int32)) &&& (6148914691236517205 : Int64))) &&& (3689348814741910323 : Int64)) + ((x_lushr (p1 - ((x_lushr p1 (1 : Int32)) &&& (6148914691236517205 : Int64))) (2 : Int32)) &&& (3689348814741910323 : Int64))) (4 : Int32))) &&& (1085102592571150095 : Int64)) (8 : Int32))) (16 : Int32))))]) hx hb d_Long_bitCount_47 rfl hl (by decide) rfl (fun ls hl => ?_)
  refine lv_lload_n hx hb d_Long_bitCount_48 rfl (lv_at hl 0 rfl) ?_
  refine lv_lload_n hx hb d_Long_bitCount_49 rfl (lv_at hl 0 rfl) ?_
  refine lv_bipush (v := (32 : Int32)) hx hb d_Long_bitCount_50 (by decide) ?_
  refine lv_lushr (v := (x_lushr (((((((p1 - ((x_lushr p1 (1 : Int32)) &&& (6148914691236517205 : Int64))) &&& (3689348814741910323 : Int64)) + ((x_lushr (p1 - ((x_lushr p1 (1 : Int32)) &&& (6148914691236517205 : Int64))) (2 : Int32)) &&& (3689348814741910323 : Int64))) + (x_lushr (((p1 - ((x_lushr p1 (1 : Int32)) &&& (6148914691236517205 : Int64))) &&& (3689348814741910323 : Int64)) + ((x_lushr (p1 - ((x_lushr p1 (1 : Int32)) &&& (6148914691236517205 : Int64))) (2 : Int32)) &&& (3689348814741910323 : Int64))) (4 : Int32))) &&& (1085102592571150095 : Int64)) + (x_lushr (((((p1 - ((x_lushr p1 (1 : Int32)) &&& (6148914691236517205 : Int64))) &&& (3689348814741910323 : Int64)) + ((x_lushr (p1 - ((x_lushr p1 (1 : Int32)) &&& (6148914691236517205 : Int64))) (2 : Int32)) &&& (3689348814741910323 : Int64))) + (x_lushr (((p1 - ((x_lushr p1 (1 : Int32)) &&& (6148914691236517205 : Int64))) &&& (3689348814741910323 : Int64)) + ((x_lushr (p1 - ((x_lushr p1 (1 : Int32)) &&& (6148914691236517205 : Int64))) (2 : Int32)) &&& (3689348814741910323 : Int64))) (4 : Int32))) &&& (1085102592571150095 : Int64)) (8 : Int32))) + (x_lushr ((((((p1 - ((x_lushr p1 (1 : Int32)) &&& (6148914691236517205 : Int64))) &&& (3689348814741910323 : Int64)) + ((x_lushr (p1 - ((x_lushr p1 (1 : Int32)) &&& (6148914691236517205 : Int64))) (2 : Int32)) &&& (3689348814741910323 : Int64))) + (x_lushr (((p1 - ((x_lushr p1 (1 : Int32)) &&& (6148914691236517205 : Int64))) &&& (3689348814741910323 : Int64)) + ((x_lushr (p1 - ((x_lushr p1 (1 : Int32)) &&& (6148914691236517205 : Int64))) (2 : Int32)) &&& (3689348814741910323 : Int64))) (4 : Int32))) &&& (1085102592571150095 : Int64)) + (x_lushr (((((p1 - ((x_lushr p1 (1 : Int32)) &&& (6148914691236517205 : Int64))) &&& (3689348814741910323 : Int64)) + ((x_lushr (p1 - ((x_lushr p1 (1 : Int32)) &&& (6148914691236517205 : Int64))) (2 : Int32)) &&& (3689348814741910323 : Int64))) + (x_lushr (((p1 - ((x_lushr p1 (1 : Int32)) &&& (6148914691236517205 : Int64))) &&& (3689348814741910323 : Int64)) + ((x_lushr (p1 - ((x_lushr p1 (1 : Int32)) &&& (6148914691236517205 : Int64))) (2 : Int32)) &&& (3689348814741910323 : Int64))) (4 : Int32))) &&& (1085102592571150095 : Int64)) (8 : Int32))) (16 : Int32))) (32 : Int32))) hx hb d_Long_bitCount_52 rfl ?_
  refine lv_ladd hx hb d_Long_bitCount_53 ?_
  refine lv_lstore_n (lv' := [(0, .long ((((((((p1 - ((x_lushr p1 (1 : Int32)) &&& (6148914691236517205 : Int64))) &&& (3689348814741910323 : Int64)) + ((x_lushr (p1 - ((x_lushr p1 (1 : Int32)) &&& (6148914691236517205 : Int64))) (2 : Int32)) &&& (3689348814741910323 : Int64))) + (x_lushr (((p1 - ((x_lushr p1 (1 : Int32)) &&& (6148914691236517205 : Int64))) &&& (3689348814741910323 : Int64)) + ((x_lushr (p1 - ((x_lushr p1 (1 : Int32)) &&& (6148914691236517205 : Int64))) (2 : Int32)) &&& (3689348814741910323 : Int64))) (4 : Int32))) &&& (1085102592571150095 : Int64)) + (x_lushr (((((p1 - ((x_lushr p1 (1 : Int32)) &&& (6148914691236517205 : Int64))) &&& (3689348814741910323 : Int64)) + ((x_lushr (p1 - ((x_lushr p1 (1 : Int32)) &&& (6148914691236517205 : Int64))) (2 : Int32)) &&& (3689348814741910323 : Int64))) + (x_lushr (((p1 - ((x_lushr p1 (1 : Int32)) &&& (6148914691236517205 : Int64))) &&& (3689348814741910323 : Int64)) + ((x_lushr (p1 - ((x_lushr p1 (1 : Int32)) &&& (6148914691236517205 : Int64))) (2 : Int32)) &&& (3689348814741910323 : Int64))) (4 : Int32))) &&& (1085102592571150095 : Int64)) (8 : Int32))) + (x_lushr ((((((p1 - ((x_lushr p1 (1 : Int32)) &&& (6148914691236517205 : Int64))) &&& (3689348814741910323 : Int64)) + ((x_lushr (p1 - ((x_lushr p1 (1 : Int32)) &&& (6148914691236517205 : Int64))) (2 : Int32)) &&& (3689348814741910323 : Int64))) + (x_lushr (((p1 - ((x_lushr p1 (1 : Int32)) &&& (6148914691236517205 : Int64))) &&& (3689348814741910323 : Int64)) + ((x_lushr (p1 - ((x_lushr p1 (1 : Int32)) &&& (6148914691236517205 : Int64))) (2 : Int32)) &&& (3689348814741910323 : Int64))) (4 : Int32))) &&& (1085102592571150095 : Int64)) + (x_lushr (((((p1 - ((x_lushr p1 (1 : Int32)) &&& (6148914691236517205 : Int64))) &&& (3689348814741910323 : Int64)) + ((x_lushr (p1 - ((x_lushr p1 (1 : Int32)) &&& (6148914691236517205 : Int64))) (2 : Int32)) &&& (3689348814741910323 : Int64))) + (x_lushr (((p1 - ((x_lushr p1 (1 : Int32)) &&& (6148914691236517205 : Int64))) &&& (3689348814741910323 : Int64)) + ((x_lushr (p1 - ((x_lushr p1 (1 : Int32)) &&& (6148914691236517205 : Int64))) (2 : Int32)) &&& (3689348814741910323 : Int64))) (4 : Int32))) &&& (1085102592571150095 : Int64)) (8 : Int32))) (16 : Int32))) + (x_lushr (((((((p1 - ((x_lushr p1 (1 : Int32)) &&& (6148914691236517205 : Int64))) &&& (3689348814741910323 : Int64)) + ((x_lushr (p1 - ((x_lushr p1 (1 : Int32)) &&& (6148914691236517205 : Int64))) (2 : Int32)) &&& (3689348814741910323 : Int64))) + (x_lushr (((p1 - ((x_lushr p1 (1 : Int32)) &&& (6148914691236517205 : Int64))) &&& (3689348814741910323 : Int64)) + ((x_lushr (p1 - ((x_lushr p1 (1 : Int32)) &&& (6148914691236517205 : Int64))) (2 : Int32)) &&& (3689348814741910323 : Int64))) (4 : Int32))) &&& (1085102592571150095 : Int64)) + (x_lushr (((((p1 - ((x_lushr p1 (1 : Int32)) &&& (6148914691236517205 : Int64))) &&& (3689348814741910323 : Int64)) + ((x_lushr (p1 - ((x_lushr p1 (1 : Int32)) &&& (6148914691236517205 : Int64))) (2 : Int32)) &&& (3689348814741910323 : Int64))) + (x_lushr (((p1 - ((x_lushr p1 (1 : Int32)) &&& (6148914691236517205 : Int64))) &&& (3689348814741910323 : Int64)) + ((x_lushr (p1 - ((x_lushr p1 (1 : Int32)) &&& (6148914691236517205 : Int64))) (2 : Int32)) &&& (3689348814741910323 : Int64))) (4 : Int32))) &&& (1085102592571150095 : Int64)) (8 : Int32))) + (x_lushr ((((((p1 - ((x_lushr p1 (1 : Int32)) &&& (6148914691236517205 : Int64))) &&& (3689348814741910323 : Int64)) + ((x_lushr (p1 - ((x_lushr p1 (1 : Int32)) &&& (6148914691236517205 : Int64))) (2 : Int32)) &&& (3689348814741910323 : Int64))) + (x_lushr (((p1 - ((x_lushr p1 (1 : Int32)) &&& (6148914691236517205 : Int64))) &&& (3689348814741910323 : Int64)) + ((x_lushr (p1 - ((x_lushr p1 (1 : Int32)) &&& (6148914691236517205 : Int64))) (2 : Int32)) &&& (3689348814741910323 : Int64))) (4 : Int32))) &&& (1085102592571150095 : Int64)) + (x_lushr (((((p1 - ((x_lushr p1 (1 : Int32)) &&& (6148914691236517205 : Int64))) &&& (3689348814741910323 : Int64)) + ((x_lushr (p1 - ((x_lushr p1 (1 : Int32)) &&& (6148914691236517205 : Int64))) (2 : Int32)) &&& (3689348814741910323 : Int64))) + (x_lushr (((p1 - ((x_lushr p1 (1 : Int32)) &&& (6148914691236517205 : Int64))) &&& (3689348814741910323 : Int64)) + ((x_lushr (p1 - ((x_lushr p1 (1 : Int32)) &&& (6148914691236517205 : Int64))) (2 : Int32)) &&& (3689348814741910323 : Int64))) (4 : Int32))) &&& (1085102592571150095 : Int64)) (8 : Int32))) (16 : Int32))) (32 : Int32))))]) hx hb d_Long_bitCount_54 rfl hl (by decide) rfl (fun ls hl => ?_)
  refine lv_lload_n hx hb d_Long_bitCount_55 rfl (lv_at hl 0 rfl) ?_
  refine lv_l2i (v := ((((((((((p1 - ((x_lushr p1 (1 : Int32)) &&& (6148914691236517205 : Int64))) &&& (3689348814741910323 : Int64)) + ((x_lushr (p1 - ((x_lushr p1 (1 : Int32)) &&& (6148914691236517205 : Int64))) (2 : Int32)) &&& (3689348814741910323 : Int64))) + (x_lushr (((p1 - ((x_lushr p1 (1 : Int32)) &&& (6148914691236517205 : Int64))) &&& (3689348814741910323 : Int64)) + ((x_lushr (p1 - ((x_lushr p1 (1 : Int32)) &&& (6148914691236517205 : Int64))) (2 : Int32)) &&& (3689348814741910323 : Int64))) (4 : Int32))) &&& (1085102592571150095 : Int64)) + (x_lushr (((((p1 - ((x_lushr p1 (1 : Int32)) &&& (6148914691236517205 : Int64))) &&& (3689348814741910323 : Int64)) + ((x_lushr (p1 - ((x_lushr p1 (1 : Int32)) &&& (6148914691236517205 : Int64))) (2 : Int32)) &&& (3689348814741910323 : Int64))) + (x_lushr (((p1 - ((x_lushr p1 (1 : Int32)) &&& (6148914691236517205 : Int64))) &&& (3689348814741910323 : Int64)) + ((x_lushr (p1 - ((x_lushr p1 (1 : Int32)) &&& (6148914691236517205 : Int64))) (2 : Int32)) &&& (3689348814741910323 : Int64))) (4 : Int32))) &&& (1085102592571150095 : Int64)) (8 : Int32))) + (x_lushr ((((((p1 - ((x_lushr p1 (1 : Int32)) &&& (6148914691236517205 : Int64))) &&& (3689348814741910323 : Int64)) + ((x_lushr (p1 - ((x_lushr p1 (1 : Int32)) &&& (6148914691236517205 : Int64))) (2 : Int32)) &&& (3689348814741910323 : Int64))) + (x_lushr (((p1 - ((x_lushr p1 (1 : Int32)) &&& (6148914691236517205 : Int64))) &&& (3689348814741910323 : Int64)) + ((x_lushr (p1 - ((x_lushr p1 (1 : Int32)) &&& (6148914691236517205 : Int64))) (2 : Int32)) &&& (3689348814741910323 : Int64))) (4 : Int32))) &&& (1085102592571150095 : Int64)) + (x_lushr (((((p1 - ((x_lushr p1 (1 : Int32)) &&& (6148914691236517205 : Int64))) &&& (3689348814741910323 : Int64)) + ((x_lushr (p1 - ((x_lushr p1 (1 : Int32)) &&& (6148914691236517205 : Int64))) (2 : Int32)) &&& (3689348814741910323 : Int64))) + (x_lushr (((p1 - ((x_lushr p1 (1 : Int32)) &&& (6148914691236517205 : Int64))) &&& (3689348814741910323 : Int64)) + ((x_lushr (p1 - ((x_lushr p1 (1 : Int32)) &&& (6148914691236517205 : Int64))) (2 : Int32)) &&& (3689348814741910323 : Int64))) (4 : Int32))) &&& (1085102592571150095 : Int64)) (8 : Int32))) (16 : Int32))) + (x_lushr (((((((p1 - ((x_lushr p1 (1 : Int32)) &&& (6148914691236517205 : Int64))) &&& (3689348814741910323 : Int64)) + ((x_lushr (p1 - ((x_lushr p1 (1 : Int32)) &&& (6148914691236517205 : Int64))) (2 : Int32)) &&& (3689348814741910323 : Int64))) + (x_lushr (((p1 - ((x_lushr p1 (1 : Int32)) &&& (6148914691236517205 : Int64))) &&& (3689348814741910323 : Int64)) + ((x_lushr (p1 - ((x_lushr p1 (1 : Int32)) &&& (6148914691236517205 : Int64))) (2 : Int32)) &&& (3689348814741910323 : Int64))) (4 : Int32))) &&& (1085102592571150095 : Int64)) + (x_lushr (((((p1 - ((x_lushr p1 (1 : Int32)) &&& (6148914691236517205 : Int64))) &&& (3689348814741910323 : Int64)) + ((x_lushr (p1 - ((x_lushr p1 (1 : Int32)) &&& (6148914691236517205 : Int64))) (2 : Int32)) &&& (3689348814741910323 : Int64))) + (x_lushr (((p1 - ((x_lushr p1 (1 : Int32)) &&& (6148914691236517205 : Int64))) &&& (3689348814741910323 : Int64)) + ((x_lushr (p1 - ((x_lushr p1 (1 : Int32)) &&& (6148914691236517205 : Int64))) (2 : Int32)) &&& (3689348814741910323 : Int64))) (4 : Int32))) &&& (1085102592571150095 : Int64)) (8 : Int32))) + (x_lushr ((((((p1 - ((x_lushr p1 (1 : Int32)) &&& (6148914691236517205 : Int64))) &&& (3689348814741910323 : Int64)) + ((x_lushr (p1 - ((x_lushr p1 (1 : Int32)) &&& (6148914691236517205 : Int64))) (2 : Int32)) &&& (3689348814741910323 : Int64))) + (x_lushr (((p1 - ((x_lushr p1 (1 : Int32)) &&& (6148914691236517205 : Int64))) &&& (3689348814741910323 : Int64)) + ((x_lushr (p1 - ((x_lushr p1 (1 : Int32)) &&& (6148914691236517205 : Int64))) (2 : Int32)) &&& (3689348814741910323 : Int64))) (4 : Int32))) &&& (1085102592571150095 : Int64)) + (x_lushr (((((p1 - ((x_lushr p1 (1 : Int32)) &&& (6148914691236517205 : Int64))) &&& (3689348814741910323 : Int64)) + ((x_lushr (p1 - ((x_lushr p1 (1 : Int32)) &&& (6148914691236517205 : Int64))) (2 : Int32)) &&& (3689348814741910323 : Int64))) + (x_lushr (((p1 - ((x_lushr p1 (1 : Int32)) &&& (6148914691236517205 : Int64))) &&& (3689348814741910323 : Int64)) + ((x_lushr (p1 - ((x_lushr p1 (1 : Int32)) &&& (6148914691236517205 : Int64))) (2 : Int32)) &&& (3689348814741910323 : Int64))) (4 : Int32))) &&& (1085102592571150095 : Int64)) (8 : Int32))) (16 : Int32))) (32 : Int32)))).toInt32)) hx hb d_Long_bitCount_56 rfl ?_
  refine lv_bipush (v := (127 : Int32)) hx hb d_Long_bitCount_57 (by decide) ?_
  refine lv_iand hx hb d_Long_bitCount_59 ?_
  obtain ⟨rfl, rfl⟩ := x_ret hf
  exact W.iret (v := (((((((((((p1 - ((x_lushr p1 (1 : Int32)) &&& (6148914691236517205 : Int64))) &&& (3689348814741910323 : Int64)) + ((x_lushr (p1 - ((x_lushr p1 (1 : Int32)) &&& (6148914691236517205 : Int64))) (2 : Int32)) &&& (3689348814741910323 : Int64))) + (x_lushr (((p1 - ((x_lushr p1 (1 : Int32)) &&& (6148914691236517205 : Int64))) &&& (3689348814741910323 : Int64)) + ((x_lushr (p1 - ((x_lushr p1 (1 : Int32)) &&& (6148914691236517205 : Int64))) (2 : Int32)) &&& (3689348814741910323 : Int64))) (4 : Int32))) &&& (1085102592571150095 : Int64)) + (x_lushr (((((p1 - ((x_lushr p1 (1 : Int32)) &&& (6148914691236517205 : Int64))) &&& (3689348814741910323 : Int64)) + ((x_lushr (p1 - ((x_lushr p1 (1 : Int32)) &&& (6148914691236517205 : Int64))) (2 : Int32)) &&& (3689348814741910323 : Int64))) + (x_lushr (((p1 - ((x_lushr p1 (1 : Int32)) &&& (6148914691236517205 : Int64))) &&& (3689348814741910323 : Int64)) + ((x_lushr (p1 - ((x_lushr p1 (1 : Int32)) &&& (6148914691236517205 : Int64))) (2 : Int32)) &&& (3689348814741910323 : Int64))) (4 : Int32))) &&& (1085102592571150095 : Int64)) (8 : Int32))) + (x_lushr ((((((p1 - ((x_lushr p1 (1 : Int32)) &&& (6148914691236517205 : Int64))) &&& (3689348814741910323 : Int64)) + ((x_lushr (p1 - ((x_lushr p1 (1 : Int32)) &&& (6148914691236517205 : Int64))) (2 : Int32)) &&& (3689348814741910323 : Int64))) + (x_lushr (((p1 - ((x_lushr p1 (1 : Int32)) &&& (6148914691236517205 : Int64))) &&& (3689348814741910323 : Int64)) + ((x_lushr (p1 - ((x_lushr p1 (1 : Int32)) &&& (6148914691236517205 : Int64))) (2 : Int32)) &&& (3689348814741910323 : Int64))) (4 : Int32))) &&& (1085102592571150095 : Int64)) + (x_lushr (((((p1 - ((x_lushr p1 (1 : Int32)) &&& (6148914691236517205 : Int64))) &&& (3689348814741910323 : Int64)) + ((x_lushr (p1 - ((x_lushr p1 (1 : Int32)) &&& (6148914691236517205 : Int64))) (2 : Int32)) &&& (3689348814741910323 : Int64))) + (x_lushr (((p1 - ((x_lushr p1 (1 : Int32)) &&& (6148914691236517205 : Int64))) &&& (3689348814741910323 : Int64)) + ((x_lushr (p1 - ((x_lushr p1 (1 : Int32)) &&& (6148914691236517205 : Int64))) (2 : Int32)) &&& (3689348814741910323 : Int64))) (4 : Int32))) &&& (1085102592571150095 : Int64)) (8 : Int32))) (16 : Int32))) + (x_lushr (((((((p1 - ((x_lushr p1 (1 : Int32)) &&& (6148914691236517205 : Int64))) &&& (3689348814741910323 : Int64)) + ((x_lushr (p1 - ((x_lushr p1 (1 : Int32)) &&& (6148914691236517205 : Int64))) (2 : Int32)) &&& (3689348814741910323 : Int64))) + (x_lushr (((p1 - ((x_lushr p1 (1 : Int32)) &&& (6148914691236517205 : Int64))) &&& (3689348814741910323 : Int64)) + ((x_lushr (p1 - ((x_lushr p1 (1 : Int32)) &&& (6148914691236517205 : Int64))) (2 : Int32)) &&& (3689348814741910323 : Int64))) (4 : Int32))) &&& (1085102592571150095 : Int64)) + (x_lushr (((((p1 - ((x_lushr p1 (1 : Int32)) &&& (6148914691236517205 : Int64))) &&& (3689348814741910323 : Int64)) + ((x_lushr (p1 - ((x_lushr p1 (1 : Int32)) &&& (6148914691236517205 : Int64))) (2 : Int32)) &&& (3689348814741910323 : Int64))) + (x_lushr (((p1 - ((x_lushr p1 (1 : Int32)) &&& (6148914691236517205 : Int64))) &&& (3689348814741910323 : Int64)) + ((x_lushr (p1 - ((x_lushr p1 (1 : Int32)) &&& (6148914691236517205 : Int64))) (2 : Int32)) &&& (3689348814741910323 : Int64))) (4 : Int32))) &&& (1085102592571150095 : Int64)) (8 : Int32))) + (x_lushr ((((((p1 - ((x_lushr p1 (1 : Int32)) &&& (6148914691236517205 : Int64))) &&& (3689348814741910323 : Int64)) + ((x_lushr (p1 - ((x_lushr p1 (1 : Int32)) &&& (6148914691236517205 : Int64))) (2 : Int32)) &&& (3689348814741910323 : Int64))) + (x_lushr (((p1 - ((x_lushr p1 (1 : Int32)) &&& (6148914691236517205 : Int64))) &&& (3689348814741910323 : Int64)) + ((x_lushr (p1 - ((x_lushr p1 (1 : Int32)) &&& (6148914691236517205 : Int64))) (2 : Int32)) &&& (3689348814741910323 : Int64))) (4 : Int32))) &&& (1085102592571150095 : Int64)) + (x_lushr (((((p1 - ((x_lushr p1 (1 : Int32)) &&& (6148914691236517205 : Int64))) &&& (3689348814741910323 : Int64)) + ((x_lushr (p1 - ((x_lushr p1 (1 : Int32)) &&& (6148914691236517205 : Int64))) (2 : Int32)) &&& (3689348814741910323 : Int64))) + (x_lushr (((p1 - ((x_lushr p1 (1 : Int32)) &&& (6148914691236517205 : Int64))) &&& (3689348814741910323 : Int64)) + ((x_lushr (p1 - ((x_lushr p1 (1 : Int32)) &&& (6148914691236517205 : Int64))) (2 : Int32)) &&& (3689348814741910323 : Int64))) (4 : Int32))) &&& (1085102592571150095 : Int64)) (8 : Int32))) (16 : Int32))) (32 : Int32)))).toInt32) &&& (127 : Int32))) hx hb hr (fun t ht hW => ⟨⟨_, _, rfl, ⟨rfl, rfl⟩, x_pw hP hD hK hG hS hz ht hW⟩, hS.F ht⟩) hS.2.2 d_Long_bitCount_60
end
section
theorem t_2 : Cond.initialized "java/lang/Math" ∈ x_big := x_bt 2 (by decide +kernel) (by decide +kernel)
theorem t_4 : Cond.initialized "ContentLibrary$Picture" ∈ x_big := x_bt 4 (by decide +kernel) (by decide +kernel)
theorem t_16 : Cond.initialized "java/lang/System" ∈ x_big := x_bt 16 (by decide +kernel) (by decide +kernel)
theorem t_28 : Cond.static (⟨"java/lang/Math", "min", "(II)I"⟩ : MethodName) ∈ x_big := x_bt 28 (by decide +kernel) (by decide +kernel)
theorem t_29 : Cond.code (⟨"java/lang/Math", "min", "(II)I"⟩ : MethodName) prog_14_method_69_code 2 (some .int) ∈ x_big := x_bt 29 (by decide +kernel) (by decide +kernel)
theorem t_66 : Cond.fieldLink "ContentLibrary$Picture" 11 "ContentLibrary$Picture" "there" "Z" ∈ x_big := x_bt 66 (by decide +kernel) (by decide +kernel)
theorem t_68 : Cond.fieldLink "ContentLibrary$Picture" 15 "ContentLibrary$Picture" "message" "[I" ∈ x_big := x_bt 68 (by decide +kernel) (by decide +kernel)
theorem t_71 : Cond.fieldLink "ContentLibrary$Picture" 19 "ContentLibrary$Picture" "had" "I" ∈ x_big := x_bt 71 (by decide +kernel) (by decide +kernel)
theorem t_213 : Cond.static (⟨"java/lang/System", "arraycopy", "(Ljava/lang/Object;ILjava/lang/Object;II)V"⟩ : MethodName) ∈ x_big := x_bt 213 (by decide +kernel) (by decide +kernel)
theorem t_214 : Cond.native (⟨"java/lang/System", "arraycopy", "(Ljava/lang/Object;ILjava/lang/Object;II)V"⟩ : MethodName) ∈ x_big := x_bt 214 (by decide +kernel) (by decide +kernel)
theorem t_219 : Cond.methodLink "ContentLibrary$Picture" 29 (⟨"ContentLibrary$Picture", "width", "()I"⟩ : MethodName) ∈ x_big := x_bt 219 (by decide +kernel) (by decide +kernel)
theorem t_220 : Cond.instanceMethod (⟨"ContentLibrary$Picture", "width", "()I"⟩ : MethodName) ∈ x_big := x_bt 220 (by decide +kernel) (by decide +kernel)
theorem t_221 : Cond.selects "ContentLibrary$Picture" (⟨"ContentLibrary$Picture", "width", "()I"⟩ : MethodName) (⟨"ContentLibrary$Picture", "width", "()I"⟩ : MethodName) ∈ x_big := x_bt 221 (by decide +kernel) (by decide +kernel)
theorem t_222 : Cond.code (⟨"ContentLibrary$Picture", "width", "()I"⟩ : MethodName) prog_5_method_5_code 1 (some .int) ∈ x_big := x_bt 222 (by decide +kernel) (by decide +kernel)
theorem t_223 : Cond.methodLink "ContentLibrary$Picture" 50 (⟨"ContentLibrary$Picture", "isSide", "(I)Z"⟩ : MethodName) ∈ x_big := x_bt 223 (by decide +kernel) (by decide +kernel)
theorem t_224 : Cond.static (⟨"ContentLibrary$Picture", "isSide", "(I)Z"⟩ : MethodName) ∈ x_big := x_bt 224 (by decide +kernel) (by decide +kernel)
theorem t_225 : Cond.code (⟨"ContentLibrary$Picture", "isSide", "(I)Z"⟩ : MethodName) prog_5_method_2_code 1 (some .boolean) ∈ x_big := x_bt 225 (by decide +kernel) (by decide +kernel)
theorem t_226 : Cond.methodLink "ContentLibrary$Picture" 33 (⟨"ContentLibrary$Picture", "height", "()I"⟩ : MethodName) ∈ x_big := x_bt 226 (by decide +kernel) (by decide +kernel)
theorem t_227 : Cond.instanceMethod (⟨"ContentLibrary$Picture", "height", "()I"⟩ : MethodName) ∈ x_big := x_bt 227 (by decide +kernel) (by decide +kernel)
theorem t_228 : Cond.selects "ContentLibrary$Picture" (⟨"ContentLibrary$Picture", "height", "()I"⟩ : MethodName) (⟨"ContentLibrary$Picture", "height", "()I"⟩ : MethodName) ∈ x_big := x_bt 228 (by decide +kernel) (by decide +kernel)
theorem t_229 : Cond.code (⟨"ContentLibrary$Picture", "height", "()I"⟩ : MethodName) prog_5_method_6_code 1 (some .int) ∈ x_big := x_bt 229 (by decide +kernel) (by decide +kernel)
theorem t_230 : Cond.methodLink "ContentLibrary$Picture" 54 (⟨"ContentLibrary$Picture", "isWhole", "()Z"⟩ : MethodName) ∈ x_big := x_bt 230 (by decide +kernel) (by decide +kernel)
theorem t_231 : Cond.instanceMethod (⟨"ContentLibrary$Picture", "isWhole", "()Z"⟩ : MethodName) ∈ x_big := x_bt 231 (by decide +kernel) (by decide +kernel)
theorem t_232 : Cond.selects "ContentLibrary$Picture" (⟨"ContentLibrary$Picture", "isWhole", "()Z"⟩ : MethodName) (⟨"ContentLibrary$Picture", "isWhole", "()Z"⟩ : MethodName) ∈ x_big := x_bt 232 (by decide +kernel) (by decide +kernel)
theorem t_233 : Cond.code (⟨"ContentLibrary$Picture", "isWhole", "()Z"⟩ : MethodName) prog_5_method_8_code 1 (some .boolean) ∈ x_big := x_bt 233 (by decide +kernel) (by decide +kernel)
theorem t_234 : Cond.methodLink "ContentLibrary$Picture" 36 (⟨"ContentLibrary$Picture", "wanted", "()I"⟩ : MethodName) ∈ x_big := x_bt 234 (by decide +kernel) (by decide +kernel)
theorem t_235 : Cond.instanceMethod (⟨"ContentLibrary$Picture", "wanted", "()I"⟩ : MethodName) ∈ x_big := x_bt 235 (by decide +kernel) (by decide +kernel)
theorem t_236 : Cond.selects "ContentLibrary$Picture" (⟨"ContentLibrary$Picture", "wanted", "()I"⟩ : MethodName) (⟨"ContentLibrary$Picture", "wanted", "()I"⟩ : MethodName) ∈ x_big := x_bt 236 (by decide +kernel) (by decide +kernel)
theorem t_237 : Cond.code (⟨"ContentLibrary$Picture", "wanted", "()I"⟩ : MethodName) prog_5_method_7_code 1 (some .int) ∈ x_big := x_bt 237 (by decide +kernel) (by decide +kernel)
theorem t_239 : Cond.instanceMethod (⟨"ContentLibrary$Picture", "length", "()I"⟩ : MethodName) ∈ x_big := x_bt 239 (by decide +kernel) (by decide +kernel)
theorem t_240 : Cond.selects "ContentLibrary$Picture" (⟨"ContentLibrary$Picture", "length", "()I"⟩ : MethodName) (⟨"ContentLibrary$Picture", "length", "()I"⟩ : MethodName) ∈ x_big := x_bt 240 (by decide +kernel) (by decide +kernel)
theorem t_241 : Cond.code (⟨"ContentLibrary$Picture", "length", "()I"⟩ : MethodName) prog_5_method_9_code 1 (some .int) ∈ x_big := x_bt 241 (by decide +kernel) (by decide +kernel)
theorem t_289 : Cond.methodLink "ContentLibrary$Picture" 58 (⟨"ContentLibrary$Picture", "at", "(II)I"⟩ : MethodName) ∈ x_big := x_bt 289 (by decide +kernel) (by decide +kernel)
theorem t_290 : Cond.instanceMethod (⟨"ContentLibrary$Picture", "at", "(II)I"⟩ : MethodName) ∈ x_big := x_bt 290 (by decide +kernel) (by decide +kernel)
theorem t_291 : Cond.selects "ContentLibrary$Picture" (⟨"ContentLibrary$Picture", "at", "(II)I"⟩ : MethodName) (⟨"ContentLibrary$Picture", "at", "(II)I"⟩ : MethodName) ∈ x_big := x_bt 291 (by decide +kernel) (by decide +kernel)
theorem t_292 : Cond.code (⟨"ContentLibrary$Picture", "at", "(II)I"⟩ : MethodName) prog_5_method_12_code 3 (some .int) ∈ x_big := x_bt 292 (by decide +kernel) (by decide +kernel)
theorem t_478 : Cond.methodLink "ContentLibrary$Picture" 44 (⟨"java/lang/Math", "min", "(II)I"⟩ : MethodName) ∈ x_big := x_bt 478 (by decide +kernel) (by decide +kernel)
theorem t_499 : Cond.methodLink "ContentLibrary$Picture" 39 (⟨"ContentLibrary$Picture", "length", "()I"⟩ : MethodName) ∈ x_big := x_bt 499 (by decide +kernel) (by decide +kernel)
theorem t_545 : Cond.methodLink "ContentLibrary$Picture" 23 (⟨"java/lang/System", "arraycopy", "(Ljava/lang/Object;ILjava/lang/Object;II)V"⟩ : MethodName) ∈ x_big := x_bt 545 (by decide +kernel) (by decide +kernel)
theorem d_P_isSide_0 : decode prog_5_method_2_code 0 = .ok (.iload_n 0, 1) := by decide +kernel
theorem d_P_isSide_1 : decode prog_5_method_2_code 1 = .ok (.iconst 1, 1) := by decide +kernel
theorem d_P_isSide_2 : decode prog_5_method_2_code 2 = .ok (.if_icmp .lt 13, 3) := by decide +kernel
theorem d_P_isSide_5 : decode prog_5_method_2_code 5 = .ok (.iload_n 0, 1) := by decide +kernel
theorem d_P_isSide_6 : decode prog_5_method_2_code 6 = .ok (.bipush 8, 2) := by decide +kernel
theorem d_P_isSide_8 : decode prog_5_method_2_code 8 = .ok (.if_icmp .gt 7, 3) := by decide +kernel
theorem d_P_isSide_11 : decode prog_5_method_2_code 11 = .ok (.iconst 1, 1) := by decide +kernel
theorem d_P_isSide_12 : decode prog_5_method_2_code 12 = .ok (.goto 4, 3) := by decide +kernel
theorem d_P_isSide_16 : decode prog_5_method_2_code 16 = .ok (.ireturn, 1) := by decide +kernel
theorem d_P_isSide_15 : decode prog_5_method_2_code 15 = .ok (.iconst 0, 1) := by decide +kernel
theorem d_P_begin_0 : decode prog_5_method_3_code 0 = .ok (.aload_n 0, 1) := by decide +kernel
theorem d_P_begin_1 : decode prog_5_method_3_code 1 = .ok (.iconst 1, 1) := by decide +kernel
theorem d_P_begin_2 : decode prog_5_method_3_code 2 = .ok (.putfield 11, 3) := by decide +kernel
theorem d_P_begin_5 : decode prog_5_method_3_code 5 = .ok (.aload_n 0, 1) := by decide +kernel
theorem d_P_begin_6 : decode prog_5_method_3_code 6 = .ok (.getfield 15, 3) := by decide +kernel
theorem d_P_begin_9 : decode prog_5_method_3_code 9 = .ok (.iconst 0, 1) := by decide +kernel
theorem d_P_begin_10 : decode prog_5_method_3_code 10 = .ok (.iload_n 1, 1) := by decide +kernel
theorem d_P_begin_11 : decode prog_5_method_3_code 11 = .ok (.iastore, 1) := by decide +kernel
theorem d_P_begin_12 : decode prog_5_method_3_code 12 = .ok (.aload_n 0, 1) := by decide +kernel
theorem d_P_begin_13 : decode prog_5_method_3_code 13 = .ok (.getfield 15, 3) := by decide +kernel
theorem d_P_begin_16 : decode prog_5_method_3_code 16 = .ok (.iconst 1, 1) := by decide +kernel
theorem d_P_begin_17 : decode prog_5_method_3_code 17 = .ok (.iload_n 2, 1) := by decide +kernel
theorem d_P_begin_18 : decode prog_5_method_3_code 18 = .ok (.iastore, 1) := by decide +kernel
theorem d_P_begin_19 : decode prog_5_method_3_code 19 = .ok (.aload_n 0, 1) := by decide +kernel
theorem d_P_begin_20 : decode prog_5_method_3_code 20 = .ok (.iconst 0, 1) := by decide +kernel
theorem d_P_begin_21 : decode prog_5_method_3_code 21 = .ok (.putfield 19, 3) := by decide +kernel
theorem d_P_begin_24 : decode prog_5_method_3_code 24 = .ok (.return_, 1) := by decide +kernel
theorem d_P_copyFrom_0 : decode prog_5_method_4_code 0 = .ok (.aload_n 1, 1) := by decide +kernel
theorem d_P_copyFrom_1 : decode prog_5_method_4_code 1 = .ok (.getfield 15, 3) := by decide +kernel
theorem d_P_copyFrom_4 : decode prog_5_method_4_code 4 = .ok (.iconst 0, 1) := by decide +kernel
theorem d_P_copyFrom_5 : decode prog_5_method_4_code 5 = .ok (.aload_n 0, 1) := by decide +kernel
theorem d_P_copyFrom_6 : decode prog_5_method_4_code 6 = .ok (.getfield 15, 3) := by decide +kernel
theorem d_P_copyFrom_9 : decode prog_5_method_4_code 9 = .ok (.iconst 0, 1) := by decide +kernel
theorem d_P_copyFrom_10 : decode prog_5_method_4_code 10 = .ok (.bipush 66, 2) := by decide +kernel
theorem d_P_copyFrom_12 : decode prog_5_method_4_code 12 = .ok (.invokestatic 23, 3) := by decide +kernel
theorem d_P_copyFrom_15 : decode prog_5_method_4_code 15 = .ok (.aload_n 0, 1) := by decide +kernel
theorem d_P_copyFrom_16 : decode prog_5_method_4_code 16 = .ok (.aload_n 1, 1) := by decide +kernel
theorem d_P_copyFrom_17 : decode prog_5_method_4_code 17 = .ok (.getfield 19, 3) := by decide +kernel
theorem d_P_copyFrom_20 : decode prog_5_method_4_code 20 = .ok (.putfield 19, 3) := by decide +kernel
theorem d_P_copyFrom_23 : decode prog_5_method_4_code 23 = .ok (.return_, 1) := by decide +kernel
theorem d_P_width_0 : decode prog_5_method_5_code 0 = .ok (.aload_n 0, 1) := by decide +kernel
theorem d_P_width_1 : decode prog_5_method_5_code 1 = .ok (.getfield 15, 3) := by decide +kernel
theorem d_P_width_4 : decode prog_5_method_5_code 4 = .ok (.iconst 0, 1) := by decide +kernel
theorem d_P_width_5 : decode prog_5_method_5_code 5 = .ok (.iaload, 1) := by decide +kernel
theorem d_P_width_6 : decode prog_5_method_5_code 6 = .ok (.ireturn, 1) := by decide +kernel
theorem d_P_height_0 : decode prog_5_method_6_code 0 = .ok (.aload_n 0, 1) := by decide +kernel
theorem d_P_height_1 : decode prog_5_method_6_code 1 = .ok (.getfield 15, 3) := by decide +kernel
theorem d_P_height_4 : decode prog_5_method_6_code 4 = .ok (.iconst 1, 1) := by decide +kernel
theorem d_P_height_5 : decode prog_5_method_6_code 5 = .ok (.iaload, 1) := by decide +kernel
theorem d_P_height_6 : decode prog_5_method_6_code 6 = .ok (.ireturn, 1) := by decide +kernel
theorem d_P_wanted_0 : decode prog_5_method_7_code 0 = .ok (.aload_n 0, 1) := by decide +kernel
theorem d_P_wanted_1 : decode prog_5_method_7_code 1 = .ok (.invokevirtual 29, 3) := by decide +kernel
theorem d_P_wanted_4 : decode prog_5_method_7_code 4 = .ok (.aload_n 0, 1) := by decide +kernel
theorem d_P_wanted_5 : decode prog_5_method_7_code 5 = .ok (.invokevirtual 33, 3) := by decide +kernel
theorem d_P_wanted_8 : decode prog_5_method_7_code 8 = .ok (.imul, 1) := by decide +kernel
theorem d_P_wanted_9 : decode prog_5_method_7_code 9 = .ok (.ireturn, 1) := by decide +kernel
theorem d_P_isWhole_0 : decode prog_5_method_8_code 0 = .ok (.aload_n 0, 1) := by decide +kernel
theorem d_P_isWhole_1 : decode prog_5_method_8_code 1 = .ok (.getfield 19, 3) := by decide +kernel
theorem d_P_isWhole_4 : decode prog_5_method_8_code 4 = .ok (.aload_n 0, 1) := by decide +kernel
theorem d_P_isWhole_5 : decode prog_5_method_8_code 5 = .ok (.invokevirtual 36, 3) := by decide +kernel
theorem d_P_isWhole_8 : decode prog_5_method_8_code 8 = .ok (.if_icmp .ne 7, 3) := by decide +kernel
theorem d_P_isWhole_11 : decode prog_5_method_8_code 11 = .ok (.iconst 1, 1) := by decide +kernel
theorem d_P_isWhole_12 : decode prog_5_method_8_code 12 = .ok (.goto 4, 3) := by decide +kernel
theorem d_P_isWhole_16 : decode prog_5_method_8_code 16 = .ok (.ireturn, 1) := by decide +kernel
theorem d_P_isWhole_15 : decode prog_5_method_8_code 15 = .ok (.iconst 0, 1) := by decide +kernel
theorem d_P_length_0 : decode prog_5_method_9_code 0 = .ok (.iconst 2, 1) := by decide +kernel
theorem d_P_length_1 : decode prog_5_method_9_code 1 = .ok (.aload_n 0, 1) := by decide +kernel
theorem d_P_length_2 : decode prog_5_method_9_code 2 = .ok (.getfield 19, 3) := by decide +kernel
theorem d_P_length_5 : decode prog_5_method_9_code 5 = .ok (.iadd, 1) := by decide +kernel
theorem d_P_length_6 : decode prog_5_method_9_code 6 = .ok (.ireturn, 1) := by decide +kernel
theorem d_P_recordBlocks_0 : decode prog_5_method_10_code 0 = .ok (.aload_n 0, 1) := by decide +kernel
theorem d_P_recordBlocks_1 : decode prog_5_method_10_code 1 = .ok (.invokevirtual 39, 3) := by decide +kernel
theorem d_P_recordBlocks_4 : decode prog_5_method_10_code 4 = .ok (.bipush 56, 2) := by decide +kernel
theorem d_P_recordBlocks_6 : decode prog_5_method_10_code 6 = .ok (.iadd, 1) := by decide +kernel
theorem d_P_recordBlocks_7 : decode prog_5_method_10_code 7 = .ok (.iconst 1, 1) := by decide +kernel
theorem d_P_recordBlocks_8 : decode prog_5_method_10_code 8 = .ok (.isub, 1) := by decide +kernel
theorem d_P_recordBlocks_9 : decode prog_5_method_10_code 9 = .ok (.bipush 56, 2) := by decide +kernel
theorem d_P_recordBlocks_11 : decode prog_5_method_10_code 11 = .ok (.idiv, 1) := by decide +kernel
theorem d_P_recordBlocks_12 : decode prog_5_method_10_code 12 = .ok (.ireturn, 1) := by decide +kernel
theorem d_P_take_0 : decode prog_5_method_11_code 0 = .ok (.iload_n 1, 1) := by decide +kernel
theorem d_P_take_1 : decode prog_5_method_11_code 1 = .ok (.aload_n 0, 1) := by decide +kernel
theorem d_P_take_2 : decode prog_5_method_11_code 2 = .ok (.invokevirtual 36, 3) := by decide +kernel
theorem d_P_take_5 : decode prog_5_method_11_code 5 = .ok (.aload_n 0, 1) := by decide +kernel
theorem d_P_take_6 : decode prog_5_method_11_code 6 = .ok (.getfield 19, 3) := by decide +kernel
theorem d_P_take_9 : decode prog_5_method_11_code 9 = .ok (.isub, 1) := by decide +kernel
theorem d_P_take_10 : decode prog_5_method_11_code 10 = .ok (.invokestatic 44, 3) := by decide +kernel
theorem d_P_take_13 : decode prog_5_method_11_code 13 = .ok (.istore 4, 2) := by decide +kernel
theorem d_P_take_15 : decode prog_5_method_11_code 15 = .ok (.iload_n 2, 1) := by decide +kernel
theorem d_P_take_16 : decode prog_5_method_11_code 16 = .ok (.istore 5, 2) := by decide +kernel
theorem d_P_take_18 : decode prog_5_method_11_code 18 = .ok (.iconst 0, 1) := by decide +kernel
theorem d_P_take_19 : decode prog_5_method_11_code 19 = .ok (.istore 6, 2) := by decide +kernel
theorem d_P_take_21 : decode prog_5_method_11_code 21 = .ok (.iload 6, 2) := by decide +kernel
theorem d_P_take_23 : decode prog_5_method_11_code 23 = .ok (.iload 4, 2) := by decide +kernel
theorem d_P_take_25 : decode prog_5_method_11_code 25 = .ok (.if_icmp .ge 42, 3) := by decide +kernel
theorem d_P_take_28 : decode prog_5_method_11_code 28 = .ok (.aload_n 0, 1) := by decide +kernel
theorem d_P_take_29 : decode prog_5_method_11_code 29 = .ok (.getfield 15, 3) := by decide +kernel
theorem d_P_take_32 : decode prog_5_method_11_code 32 = .ok (.iconst 2, 1) := by decide +kernel
theorem d_P_take_33 : decode prog_5_method_11_code 33 = .ok (.aload_n 0, 1) := by decide +kernel
theorem d_P_take_34 : decode prog_5_method_11_code 34 = .ok (.getfield 19, 3) := by decide +kernel
theorem d_P_take_37 : decode prog_5_method_11_code 37 = .ok (.iadd, 1) := by decide +kernel
theorem d_P_take_38 : decode prog_5_method_11_code 38 = .ok (.iload 5, 2) := by decide +kernel
theorem d_P_take_40 : decode prog_5_method_11_code 40 = .ok (.sipush 255, 3) := by decide +kernel
theorem d_P_take_43 : decode prog_5_method_11_code 43 = .ok (.iand, 1) := by decide +kernel
theorem d_P_take_44 : decode prog_5_method_11_code 44 = .ok (.iastore, 1) := by decide +kernel
theorem d_P_take_45 : decode prog_5_method_11_code 45 = .ok (.aload_n 0, 1) := by decide +kernel
theorem d_P_take_46 : decode prog_5_method_11_code 46 = .ok (.dup, 1) := by decide +kernel
theorem d_P_take_47 : decode prog_5_method_11_code 47 = .ok (.getfield 19, 3) := by decide +kernel
theorem d_P_take_50 : decode prog_5_method_11_code 50 = .ok (.iconst 1, 1) := by decide +kernel
theorem d_P_take_51 : decode prog_5_method_11_code 51 = .ok (.iadd, 1) := by decide +kernel
theorem d_P_take_52 : decode prog_5_method_11_code 52 = .ok (.putfield 19, 3) := by decide +kernel
theorem d_P_take_55 : decode prog_5_method_11_code 55 = .ok (.iload 5, 2) := by decide +kernel
theorem d_P_take_57 : decode prog_5_method_11_code 57 = .ok (.iload_n 3, 1) := by decide +kernel
theorem d_P_take_58 : decode prog_5_method_11_code 58 = .ok (.iadd, 1) := by decide +kernel
theorem d_P_take_59 : decode prog_5_method_11_code 59 = .ok (.istore 5, 2) := by decide +kernel
theorem d_P_take_61 : decode prog_5_method_11_code 61 = .ok (.iinc 6 1, 3) := by decide +kernel
theorem d_P_take_64 : decode prog_5_method_11_code 64 = .ok (.goto (-43), 3) := by decide +kernel
theorem d_P_take_67 : decode prog_5_method_11_code 67 = .ok (.aload_n 0, 1) := by decide +kernel
theorem d_P_take_68 : decode prog_5_method_11_code 68 = .ok (.getfield 19, 3) := by decide +kernel
theorem d_P_take_71 : decode prog_5_method_11_code 71 = .ok (.ireturn, 1) := by decide +kernel
theorem d_P_at_0 : decode prog_5_method_12_code 0 = .ok (.aload_n 0, 1) := by decide +kernel
theorem d_P_at_1 : decode prog_5_method_12_code 1 = .ok (.getfield 15, 3) := by decide +kernel
theorem d_P_at_4 : decode prog_5_method_12_code 4 = .ok (.iconst 2, 1) := by decide +kernel
theorem d_P_at_5 : decode prog_5_method_12_code 5 = .ok (.iload_n 2, 1) := by decide +kernel
theorem d_P_at_6 : decode prog_5_method_12_code 6 = .ok (.aload_n 0, 1) := by decide +kernel
theorem d_P_at_7 : decode prog_5_method_12_code 7 = .ok (.invokevirtual 29, 3) := by decide +kernel
theorem d_P_at_10 : decode prog_5_method_12_code 10 = .ok (.imul, 1) := by decide +kernel
theorem d_P_at_11 : decode prog_5_method_12_code 11 = .ok (.iadd, 1) := by decide +kernel
theorem d_P_at_12 : decode prog_5_method_12_code 12 = .ok (.iload_n 1, 1) := by decide +kernel
theorem d_P_at_13 : decode prog_5_method_12_code 13 = .ok (.iadd, 1) := by decide +kernel
theorem d_P_at_14 : decode prog_5_method_12_code 14 = .ok (.iaload, 1) := by decide +kernel
theorem d_P_at_15 : decode prog_5_method_12_code 15 = .ok (.ireturn, 1) := by decide +kernel
theorem d_P_fillsMessage_0 : decode prog_5_method_13_code 0 = .ok (.iload_n 1, 1) := by decide +kernel
theorem d_P_fillsMessage_1 : decode prog_5_method_13_code 1 = .ok (.iconst 2, 1) := by decide +kernel
theorem d_P_fillsMessage_2 : decode prog_5_method_13_code 2 = .ok (.if_icmp .le 23, 3) := by decide +kernel
theorem d_P_fillsMessage_5 : decode prog_5_method_13_code 5 = .ok (.aload_n 0, 1) := by decide +kernel
theorem d_P_fillsMessage_6 : decode prog_5_method_13_code 6 = .ok (.invokevirtual 29, 3) := by decide +kernel
theorem d_P_fillsMessage_9 : decode prog_5_method_13_code 9 = .ok (.invokestatic 50, 3) := by decide +kernel
theorem d_P_fillsMessage_12 : decode prog_5_method_13_code 12 = .ok (.ifCond .eq 13, 3) := by decide +kernel
theorem d_P_fillsMessage_15 : decode prog_5_method_13_code 15 = .ok (.aload_n 0, 1) := by decide +kernel
theorem d_P_fillsMessage_16 : decode prog_5_method_13_code 16 = .ok (.invokevirtual 33, 3) := by decide +kernel
theorem d_P_fillsMessage_19 : decode prog_5_method_13_code 19 = .ok (.invokestatic 50, 3) := by decide +kernel
theorem d_P_fillsMessage_22 : decode prog_5_method_13_code 22 = .ok (.ifCond .ne 5, 3) := by decide +kernel
theorem d_P_fillsMessage_25 : decode prog_5_method_13_code 25 = .ok (.iconst 0, 1) := by decide +kernel
theorem d_P_fillsMessage_26 : decode prog_5_method_13_code 26 = .ok (.ireturn, 1) := by decide +kernel
theorem d_P_fillsMessage_27 : decode prog_5_method_13_code 27 = .ok (.aload_n 0, 1) := by decide +kernel
theorem d_P_fillsMessage_28 : decode prog_5_method_13_code 28 = .ok (.iload_n 1, 1) := by decide +kernel
theorem d_P_fillsMessage_29 : decode prog_5_method_13_code 29 = .ok (.iconst 2, 1) := by decide +kernel
theorem d_P_fillsMessage_30 : decode prog_5_method_13_code 30 = .ok (.isub, 1) := by decide +kernel
theorem d_P_fillsMessage_31 : decode prog_5_method_13_code 31 = .ok (.putfield 19, 3) := by decide +kernel
theorem d_P_fillsMessage_34 : decode prog_5_method_13_code 34 = .ok (.aload_n 0, 1) := by decide +kernel
theorem d_P_fillsMessage_35 : decode prog_5_method_13_code 35 = .ok (.invokevirtual 54, 3) := by decide +kernel
theorem d_P_fillsMessage_38 : decode prog_5_method_13_code 38 = .ok (.ireturn, 1) := by decide +kernel
theorem d_P_printBits_0 : decode prog_5_method_14_code 0 = .ok (.iconst 0, 1) := by decide +kernel
theorem d_P_printBits_1 : decode prog_5_method_14_code 1 = .ok (.istore_n 1, 1) := by decide +kernel
theorem d_P_printBits_2 : decode prog_5_method_14_code 2 = .ok (.iconst 0, 1) := by decide +kernel
theorem d_P_printBits_3 : decode prog_5_method_14_code 3 = .ok (.istore_n 2, 1) := by decide +kernel
theorem d_P_printBits_4 : decode prog_5_method_14_code 4 = .ok (.iload_n 2, 1) := by decide +kernel
theorem d_P_printBits_5 : decode prog_5_method_14_code 5 = .ok (.aload_n 0, 1) := by decide +kernel
theorem d_P_printBits_6 : decode prog_5_method_14_code 6 = .ok (.getfield 19, 3) := by decide +kernel
theorem d_P_printBits_9 : decode prog_5_method_14_code 9 = .ok (.if_icmp .ge 20, 3) := by decide +kernel
theorem d_P_printBits_12 : decode prog_5_method_14_code 12 = .ok (.iload_n 1, 1) := by decide +kernel
theorem d_P_printBits_13 : decode prog_5_method_14_code 13 = .ok (.aload_n 0, 1) := by decide +kernel
theorem d_P_printBits_14 : decode prog_5_method_14_code 14 = .ok (.getfield 15, 3) := by decide +kernel
theorem d_P_printBits_17 : decode prog_5_method_14_code 17 = .ok (.iconst 2, 1) := by decide +kernel
theorem d_P_printBits_18 : decode prog_5_method_14_code 18 = .ok (.iload_n 2, 1) := by decide +kernel
theorem d_P_printBits_19 : decode prog_5_method_14_code 19 = .ok (.iadd, 1) := by decide +kernel
theorem d_P_printBits_20 : decode prog_5_method_14_code 20 = .ok (.iaload, 1) := by decide +kernel
theorem d_P_printBits_21 : decode prog_5_method_14_code 21 = .ok (.iadd, 1) := by decide +kernel
theorem d_P_printBits_22 : decode prog_5_method_14_code 22 = .ok (.istore_n 1, 1) := by decide +kernel
theorem d_P_printBits_23 : decode prog_5_method_14_code 23 = .ok (.iinc 2 1, 3) := by decide +kernel
theorem d_P_printBits_26 : decode prog_5_method_14_code 26 = .ok (.goto (-22), 3) := by decide +kernel
theorem d_P_printBits_29 : decode prog_5_method_14_code 29 = .ok (.lconst 0, 1) := by decide +kernel
theorem d_P_printBits_30 : decode prog_5_method_14_code 30 = .ok (.lstore_n 2, 1) := by decide +kernel
theorem d_P_printBits_31 : decode prog_5_method_14_code 31 = .ok (.iconst 0, 1) := by decide +kernel
theorem d_P_printBits_32 : decode prog_5_method_14_code 32 = .ok (.istore 4, 2) := by decide +kernel
theorem d_P_printBits_34 : decode prog_5_method_14_code 34 = .ok (.iload 4, 2) := by decide +kernel
theorem d_P_printBits_36 : decode prog_5_method_14_code 36 = .ok (.bipush 64, 2) := by decide +kernel
theorem d_P_printBits_38 : decode prog_5_method_14_code 38 = .ok (.if_icmp .ge 63, 3) := by decide +kernel
theorem d_P_printBits_41 : decode prog_5_method_14_code 41 = .ok (.iload 4, 2) := by decide +kernel
theorem d_P_printBits_43 : decode prog_5_method_14_code 43 = .ok (.bipush 8, 2) := by decide +kernel
theorem d_P_printBits_45 : decode prog_5_method_14_code 45 = .ok (.irem, 1) := by decide +kernel
theorem d_P_printBits_46 : decode prog_5_method_14_code 46 = .ok (.aload_n 0, 1) := by decide +kernel
theorem d_P_printBits_47 : decode prog_5_method_14_code 47 = .ok (.invokevirtual 29, 3) := by decide +kernel
theorem d_P_printBits_50 : decode prog_5_method_14_code 50 = .ok (.imul, 1) := by decide +kernel
theorem d_P_printBits_51 : decode prog_5_method_14_code 51 = .ok (.bipush 8, 2) := by decide +kernel
theorem d_P_printBits_53 : decode prog_5_method_14_code 53 = .ok (.idiv, 1) := by decide +kernel
theorem d_P_printBits_54 : decode prog_5_method_14_code 54 = .ok (.istore 5, 2) := by decide +kernel
theorem d_P_printBits_56 : decode prog_5_method_14_code 56 = .ok (.iload 4, 2) := by decide +kernel
theorem d_P_printBits_58 : decode prog_5_method_14_code 58 = .ok (.bipush 8, 2) := by decide +kernel
theorem d_P_printBits_60 : decode prog_5_method_14_code 60 = .ok (.idiv, 1) := by decide +kernel
theorem d_P_printBits_61 : decode prog_5_method_14_code 61 = .ok (.aload_n 0, 1) := by decide +kernel
theorem d_P_printBits_62 : decode prog_5_method_14_code 62 = .ok (.invokevirtual 33, 3) := by decide +kernel
theorem d_P_printBits_65 : decode prog_5_method_14_code 65 = .ok (.imul, 1) := by decide +kernel
theorem d_P_printBits_66 : decode prog_5_method_14_code 66 = .ok (.bipush 8, 2) := by decide +kernel
theorem d_P_printBits_68 : decode prog_5_method_14_code 68 = .ok (.idiv, 1) := by decide +kernel
theorem d_P_printBits_69 : decode prog_5_method_14_code 69 = .ok (.istore 6, 2) := by decide +kernel
theorem d_P_printBits_71 : decode prog_5_method_14_code 71 = .ok (.aload_n 0, 1) := by decide +kernel
theorem d_P_printBits_72 : decode prog_5_method_14_code 72 = .ok (.iload 5, 2) := by decide +kernel
theorem d_P_printBits_74 : decode prog_5_method_14_code 74 = .ok (.iload 6, 2) := by decide +kernel
theorem d_P_printBits_76 : decode prog_5_method_14_code 76 = .ok (.invokevirtual 58, 3) := by decide +kernel
theorem d_P_printBits_79 : decode prog_5_method_14_code 79 = .ok (.aload_n 0, 1) := by decide +kernel
theorem d_P_printBits_80 : decode prog_5_method_14_code 80 = .ok (.getfield 19, 3) := by decide +kernel
theorem d_P_printBits_83 : decode prog_5_method_14_code 83 = .ok (.imul, 1) := by decide +kernel
theorem d_P_printBits_84 : decode prog_5_method_14_code 84 = .ok (.iload_n 1, 1) := by decide +kernel
theorem d_P_printBits_85 : decode prog_5_method_14_code 85 = .ok (.if_icmp .le 10, 3) := by decide +kernel
theorem d_P_printBits_88 : decode prog_5_method_14_code 88 = .ok (.lload_n 2, 1) := by decide +kernel
theorem d_P_printBits_89 : decode prog_5_method_14_code 89 = .ok (.lconst 1, 1) := by decide +kernel
theorem d_P_printBits_90 : decode prog_5_method_14_code 90 = .ok (.iload 4, 2) := by decide +kernel
theorem d_P_printBits_92 : decode prog_5_method_14_code 92 = .ok (.lshl, 1) := by decide +kernel
theorem d_P_printBits_93 : decode prog_5_method_14_code 93 = .ok (.lor, 1) := by decide +kernel
theorem d_P_printBits_94 : decode prog_5_method_14_code 94 = .ok (.lstore_n 2, 1) := by decide +kernel
theorem d_P_printBits_95 : decode prog_5_method_14_code 95 = .ok (.iinc 4 1, 3) := by decide +kernel
theorem d_P_printBits_98 : decode prog_5_method_14_code 98 = .ok (.goto (-64), 3) := by decide +kernel
theorem d_P_printBits_101 : decode prog_5_method_14_code 101 = .ok (.lload_n 2, 1) := by decide +kernel
theorem d_P_printBits_102 : decode prog_5_method_14_code 102 = .ok (.lreturn, 1) := by decide +kernel
def f_P_isSide (xn : Nat) (p1 : Int32) (z0 : x_St) : Option (Int32 × x_St) :=
  (if p1 < (1 : Int32) then
  (some ((0 : Int32), z0))
  else
  (if (8 : Int32) < p1 then
  (some ((0 : Int32), z0))
  else
  (some ((1 : Int32), z0))))
def f_P_begin (xn : Nat) (k0 : Nat) (p1 : Int32) (p2 : Int32) (z0 : x_St) : Option (Unit × x_St) :=
  (x_ck (0 : Int32) (x_ln xn (k0 + 1))
  (x_ck (1 : Int32) (x_ln xn (k0 + 1))
  (some ((), (x_put (x_put (x_put (x_put z0 k0 0 (1 : Int32)) (k0 + 1) ((0 : Int32)).toNatClampNeg p1) (k0 + 1) ((1 : Int32)).toNatClampNeg p2) k0 2 (0 : Int32))))))
def f_P_copyFrom (xn : Nat) (k0 : Nat) (k1 : Nat) (z0 : x_St) : Option (Unit × x_St) :=
  (x_ckc (0 : Int32) (0 : Int32) (66 : Int32) (x_ln xn (k1 + 1)) (x_ln xn (k0 + 1))
  (some ((), (x_put (x_cpy z0 (k1 + 1) ((0 : Int32)).toNatClampNeg (k0 + 1) ((0 : Int32)).toNatClampNeg ((66 : Int32)).toNatClampNeg) k0 2 ((x_cpy z0 (k1 + 1) ((0 : Int32)).toNatClampNeg (k0 + 1) ((0 : Int32)).toNatClampNeg ((66 : Int32)).toNatClampNeg).1 k1 2)))))
def f_P_width (xn : Nat) (k0 : Nat) (z0 : x_St) : Option (Int32 × x_St) :=
  (x_ck (0 : Int32) (x_ln xn (k0 + 1))
  (some ((z0.1 (k0 + 1) ((0 : Int32)).toNatClampNeg), z0)))
def f_P_height (xn : Nat) (k0 : Nat) (z0 : x_St) : Option (Int32 × x_St) :=
  (x_ck (1 : Int32) (x_ln xn (k0 + 1))
  (some ((z0.1 (k0 + 1) ((1 : Int32)).toNatClampNeg), z0)))
def f_P_wanted (xn : Nat) (k0 : Nat) (z0 : x_St) : Option (Int32 × x_St) :=
  (x_cl (f_P_width xn k0 z0) (fun r1 z1 =>
  (x_cl (f_P_height xn k0 z1) (fun r3 z3 =>
  (some ((r1 * r3), z3))))))
def f_P_isWhole (xn : Nat) (k0 : Nat) (z0 : x_St) : Option (Int32 × x_St) :=
  (x_cl (f_P_wanted xn k0 z0) (fun r1 z1 =>
  (if (z0.1 k0 2) = r1 then
  (some ((1 : Int32), z1))
  else
  (some ((0 : Int32), z1)))))
def f_P_length (xn : Nat) (k0 : Nat) (z0 : x_St) : Option (Int32 × x_St) :=
  (some (((2 : Int32) + (z0.1 k0 2)), z0))
def f_P_recordBlocks (xn : Nat) (k0 : Nat) (z0 : x_St) : Option (Int32 × x_St) :=
  (x_cl (f_P_length xn k0 z0) (fun r1 z1 =>
  (some ((((r1 + (56 : Int32)) - (1 : Int32)) / (56 : Int32)), z1))))
def f_P_take_67 (xn : Nat) (a0 : Nat) (z0 : x_St) : Option (Int32 × x_St) :=
  (some ((z0.1 a0 2), z0))
def f_P_take_21 (xn : Nat) : Nat → Nat → Int32 → Int32 → Int32 → Int32 → x_St → Option (Int32 × x_St)
  | 0, _, _, _, _, _, _ => none
  | fu + 1, a0, a3, a4, a5, a6, z0 =>
    (if a4 ≤ a6 then
    (f_P_take_67 xn a0 z0)
    else
    (x_ck ((2 : Int32) + (z0.1 a0 2)) (x_ln xn (a0 + 1))
    (f_P_take_21 xn fu a0 a3 a4 (a5 + a3) (a6 + (1 : Int32)) (x_put (x_put z0 (a0 + 1) (((2 : Int32) + (z0.1 a0 2))).toNatClampNeg (a5 &&& (255 : Int32))) a0 2 (((x_put z0 (a0 + 1) (((2 : Int32) + (z0.1 a0 2))).toNatClampNeg (a5 &&& (255 : Int32))).1 a0 2) + (1 : Int32))))))
def f_P_take (xn : Nat) (k0 : Nat) (p1 : Int32) (p2 : Int32) (p3 : Int32) (z0 : x_St) : Option (Int32 × x_St) :=
  (x_cl (f_P_wanted xn k0 z0) (fun r3 z3 =>
  (f_P_take_21 xn x_FU k0 p3 (if (r3 - (z3.1 k0 2)) < p1 then (r3 - (z3.1 k0 2)) else p1) p2 (0 : Int32) z3)))
def f_P_at (xn : Nat) (k0 : Nat) (p1 : Int32) (p2 : Int32) (z0 : x_St) : Option (Int32 × x_St) :=
  (x_cl (f_P_width xn k0 z0) (fun r1 z1 =>
  (x_ck (((2 : Int32) + (p2 * r1)) + p1) (x_ln xn (k0 + 1))
  (some ((z1.1 (k0 + 1) ((((2 : Int32) + (p2 * r1)) + p1)).toNatClampNeg), z1)))))
def f_P_fillsMessage (xn : Nat) (k0 : Nat) (p1 : Int32) (z0 : x_St) : Option (Int32 × x_St) :=
  (if p1 ≤ (2 : Int32) then
  (some ((0 : Int32), z0))
  else
  (x_cl (f_P_width xn k0 z0) (fun r2 z2 =>
  (x_cl (f_P_isSide xn r2 z2) (fun r4 z4 =>
  (if r4 = 0 then
  (some ((0 : Int32), z4))
  else
  (x_cl (f_P_height xn k0 z4) (fun r7 z7 =>
  (x_cl (f_P_isSide xn r7 z7) (fun r9 z9 =>
  (if r9 = 0 then
  (some ((0 : Int32), z9))
  else
  (x_cl (f_P_isWhole xn k0 (x_put z9 k0 2 (p1 - (2 : Int32)))) (fun r12 z12 =>
  (x_ckb r12
  (some (r12, z12))))))))))))))))
def f_P_printBits_101 (xn : Nat) (a2 : Int64) (z0 : x_St) : Option (Int64 × x_St) :=
  (some (a2, z0))
def f_P_printBits_34 (xn : Nat) : Nat → Nat → Int32 → Int64 → Int32 → x_St → Option (Int64 × x_St)
  | 0, _, _, _, _, _ => none
  | fu + 1, a0, a1, a2, a4, z0 =>
    (if (64 : Int32) ≤ a4 then
    (f_P_printBits_101 xn a2 z0)
    else
    (x_cl (f_P_width xn a0 z0) (fun r2 z2 =>
    (x_cl (f_P_height xn a0 z2) (fun r4 z4 =>
    (x_cl (f_P_at xn a0 (((a4 - a4 / (8 : Int32) * (8 : Int32)) * r2) / (8 : Int32)) (((a4 / (8 : Int32)) * r4) / (8 : Int32)) z4) (fun r6 z6 =>
    (if (r6 * (z6.1 a0 2)) ≤ a1 then
    (f_P_printBits_34 xn fu a0 a1 a2 (a4 + (1 : Int32)) z6)
    else
    (f_P_printBits_34 xn fu a0 a1 (a2 ||| (x_lshl (1 : Int64) a4)) (a4 + (1 : Int32)) z6)))))))))
def f_P_printBits_29 (xn : Nat) (a0 : Nat) (a1 : Int32) (z0 : x_St) : Option (Int64 × x_St) :=
  (f_P_printBits_34 xn x_FU a0 a1 (0 : Int64) (0 : Int32) z0)
def f_P_printBits_4 (xn : Nat) : Nat → Nat → Int32 → Int32 → x_St → Option (Int64 × x_St)
  | 0, _, _, _, _ => none
  | fu + 1, a0, a1, a2, z0 =>
    (if (z0.1 a0 2) ≤ a2 then
    (f_P_printBits_29 xn a0 a1 z0)
    else
    (x_ck ((2 : Int32) + a2) (x_ln xn (a0 + 1))
    (f_P_printBits_4 xn fu a0 (a1 + (z0.1 (a0 + 1) (((2 : Int32) + a2)).toNatClampNeg)) (a2 + (1 : Int32)) z0)))
def f_P_printBits (xn : Nat) (k0 : Nat) (z0 : x_St) : Option (Int64 × x_St) :=
  (f_P_printBits_4 xn x_FU k0 (0 : Int32) (0 : Int32) z0)
abbrev rm_P_isSide : Room := { frames := 0, cells := 0, slots := 0, locals := 0 }
set_option maxHeartbeats 4000000 in
set_option maxRecDepth 100000 in
theorem c_P_isSide (l : Launch) (G : x_G) (p1 : Int32) (z0 : x_St) (r : Int32) (zo : x_St) (hf : f_P_isSide (x_n G) p1 z0 = some (r, zo)) : Met l (⟨"ContentLibrary$Picture", "isSide", "(I)Z"⟩ : MethodName) (x_ws (⟨"ContentLibrary$Picture", "isSide", "(I)Z"⟩ : MethodName) prog_5_method_2_code 1 (some .boolean)) rm_P_isSide (va_Pc [.int p1] (x_PW G z0)) (va_Qi (fun a u => r = a ∧ zo = u) (x_PW G) (x_A G)) 0 0 (x_A G) := by
  refine Met.ofW (cc := prog_5_method_2_code) (maxL := 1) (ret := (some .boolean)) (by decide) rfl ?_
  intro p e s m args below meth c s₁ B hml hv
  obtain ⟨rfl, hz, hP, hD, hK, hG⟩ := hv
  have C0 : x_Ctx G p s m _ meth c prog_5_method_2_code "ContentLibrary$Picture" 1 (some .boolean) := ⟨B.exec, B.bytes, B.returns, hml, findClass_of_methodNamed B.named, fun w h => atoms_spec (ws := (x_ws (⟨"ContentLibrary$Picture", "isSide", "(I)Z"⟩ : MethodName) prog_5_method_2_code 1 (some .boolean))) B.pre w (List.mem_cons_of_mem _ h), B.notSynchronized, hz, hK, hG⟩
  obtain ⟨hx, hb, hr, hml, hown, hts, hlocks, hz, hK, hG⟩ := id C0
  have hS : va_S (x_A G) s.heap s.heap [] := va_S.rf
  have hl := lv_entry ([.int p1]) (n := 1) (Nat.le_of_ble_eq_true rfl)
  rw [lg_entry_eq]
  generalize (lg_sl ([.int p1]) ++ List.replicate (1 - (lg_sl ([.int p1])).length) Slot.unset).toArray = ls at hl ⊢
  have hl : lv_has ls 1 [(0, .int p1)] := hl
  rw [f_P_isSide] at hf
  refine lv_iload_n hx hb d_P_isSide_0 rfl (lv_at hl 0 rfl) ?_
  refine lv_iconst (v := (1 : Int32)) hx hb d_P_isSide_1 (by decide) ?_
  refine lv_icmp_lt (tgt := 15) hx hb d_P_isSide_2 (by decide) (fun hc1 => ?_) (fun hc1 => ?_)
  · have hf := x_br_t hf hc1
    refine lv_iconst (v := (0 : Int32)) hx hb d_P_isSide_15 (by decide) ?_
    obtain ⟨rfl, rfl⟩ := x_ret hf
    exact W.zret (v := (0 : Int32)) hx hb hr rfl (fun t ht hW => ⟨⟨_, _, rfl, ⟨rfl, rfl⟩, x_pw hP hD hK hG hS hz ht hW⟩, hS.F ht⟩) hS.2.2 d_P_isSide_16
  · have hf := x_br_f hf hc1
    refine lv_iload_n hx hb d_P_isSide_5 rfl (lv_at hl 0 rfl) ?_
    refine lv_bipush (v := (8 : Int32)) hx hb d_P_isSide_6 (by decide) ?_
    refine lv_icmp_gt (tgt := 15) hx hb d_P_isSide_8 (by decide) (fun hc2 => ?_) (fun hc2 => ?_)
    · have hf := x_br_t hf hc2
      refine lv_iconst (v := (0 : Int32)) hx hb d_P_isSide_15 (by decide) ?_
      obtain ⟨rfl, rfl⟩ := x_ret hf
      exact W.zret (v := (0 : Int32)) hx hb hr rfl (fun t ht hW => ⟨⟨_, _, rfl, ⟨rfl, rfl⟩, x_pw hP hD hK hG hS hz ht hW⟩, hS.F ht⟩) hS.2.2 d_P_isSide_16
    · have hf := x_br_f hf hc2
      refine lv_iconst (v := (1 : Int32)) hx hb d_P_isSide_11 (by decide) ?_
      refine lv_goto (tgt := 16) hx hb d_P_isSide_12 (by decide) ?_
      obtain ⟨rfl, rfl⟩ := x_ret hf
      exact W.zret (v := (1 : Int32)) hx hb hr rfl (fun t ht hW => ⟨⟨_, _, rfl, ⟨rfl, rfl⟩, x_pw hP hD hK hG hS hz ht hW⟩, hS.F ht⟩) hS.2.2 d_P_isSide_16
abbrev rm_P_begin : Room := { frames := 0, cells := 0, slots := 0, locals := 0 }
set_option maxHeartbeats 4000000 in
set_option maxRecDepth 100000 in
theorem c_P_begin (l : Launch) (G : x_G) (k0 : Nat) (hk0 : x_isP k0 = true) (p1 : Int32) (p2 : Int32) (z0 : x_St) (r : Unit) (zo : x_St) (hf : f_P_begin (x_n G) k0 p1 p2 z0 = some (r, zo)) : Met l (⟨"ContentLibrary$Picture", "begin", "(II)V"⟩ : MethodName) (x_ws (⟨"ContentLibrary$Picture", "begin", "(II)V"⟩ : MethodName) prog_5_method_3_code 3 none) rm_P_begin (va_Pc [.ref (x_ad G k0), .int p1, .int p2] (x_PW G z0)) (va_Qv (fun u => r = () ∧ zo = u) (x_PW G) (x_A G)) 0 0 (x_A G) := by
  refine Met.ofW (cc := prog_5_method_3_code) (maxL := 3) (ret := none) (by decide) rfl ?_
  intro p e s m args below meth c s₁ B hml hv
  obtain ⟨rfl, hz, hP, hD, hK, hG⟩ := hv
  have C0 : x_Ctx G p s m _ meth c prog_5_method_3_code "ContentLibrary$Picture" 3 none := ⟨B.exec, B.bytes, B.returns, hml, findClass_of_methodNamed B.named, fun w h => atoms_spec (ws := (x_ws (⟨"ContentLibrary$Picture", "begin", "(II)V"⟩ : MethodName) prog_5_method_3_code 3 none)) B.pre w (List.mem_cons_of_mem _ h), B.notSynchronized, hz, hK, hG⟩
  obtain ⟨hx, hb, hr, hml, hown, hts, hlocks, hz, hK, hG⟩ := id C0
  have hS : va_S (x_A G) s.heap s.heap [] := va_S.rf
  have hl := lv_entry ([.ref (x_ad G k0), .int p1, .int p2]) (n := 3) (Nat.le_of_ble_eq_true rfl)
  rw [lg_entry_eq]
  generalize (lg_sl ([.ref (x_ad G k0), .int p1, .int p2]) ++ List.replicate (3 - (lg_sl ([.ref (x_ad G k0), .int p1, .int p2])).length) Slot.unset).toArray = ls at hl ⊢
  have hl : lv_has ls 3 [(0, .ref (x_ad G k0)), (1, .int p1), (2, .int p2)] := hl
  rw [f_P_begin] at hf
  refine lv_aload_n hx hb d_P_begin_0 rfl (lv_at hl 0 rfl) ?_
  refine lv_iconst (v := (1 : Int32)) hx hb d_P_begin_1 (by decide) ?_
  refine va_put (D := x_D G) (ci := 2) (v := .int (1 : Int32)) (ty := .boolean) (C := "ContentLibrary$Picture") (T := x_TP) (N := 3) hx hb hts x_inP x_tyP x_tyP_ok x_nmP hown hK hP hD hS k0 (x_lk_P G _ hk0) rfl 0 (by decide) (hts _ t_66) (fun _ h9 => h9) rfl (by decide +kernel) rfl rfl (Nat.le_of_ble_eq_true rfl) d_P_begin_2 (fun H locs hP hD hS => ?_)
  rw [x_st_P0 G _ hk0] at hP hD
  refine lv_aload_n hx hb d_P_begin_5 rfl (lv_at hl 0 rfl) ?_
  refine va_get (D := x_D G) (ci := 2) (v := .ref (x_ad G (k0 + 1))) (C := "ContentLibrary$Picture") (T := x_TP) (N := 3) hx hb hts x_inP hown hK hP k0 (x_lk_P G _ hk0) rfl 1 (by decide) (hts _ t_68) (fun _ h9 => h9) rfl d_P_begin_6 ?_
  refine lv_iconst (v := (0 : Int32)) hx hb d_P_begin_9 (by decide) ?_
  refine lv_iload_n hx hb d_P_begin_10 rfl (lv_at hl 1 rfl) ?_
  obtain ⟨hin1, hf⟩ := x_ck_some hf
  refine va_iast hx hb hK hP hD hS (k0 + 1) 0 (x_lk_A G _ (x_P_A hk0)) rfl hin1 d_P_begin_11 (fun H locs hP hD hS => ?_)
  rw [x_st_A G _ (x_P_A hk0)] at hP hD
  refine lv_aload_n hx hb d_P_begin_12 rfl (lv_at hl 0 rfl) ?_
  refine va_get (D := x_D G) (ci := 2) (v := .ref (x_ad G (k0 + 1))) (C := "ContentLibrary$Picture") (T := x_TP) (N := 3) hx hb hts x_inP hown hK hP k0 (x_lk_P G _ hk0) rfl 1 (by decide) (hts _ t_68) (fun _ h9 => h9) rfl d_P_begin_13 ?_
  refine lv_iconst (v := (1 : Int32)) hx hb d_P_begin_16 (by decide) ?_
  refine lv_iload_n hx hb d_P_begin_17 rfl (lv_at hl 2 rfl) ?_
  obtain ⟨hin2, hf⟩ := x_ck_some hf
  refine va_iast hx hb hK hP hD hS (k0 + 1) 0 (x_lk_A G _ (x_P_A hk0)) rfl hin2 d_P_begin_18 (fun H locs hP hD hS => ?_)
  rw [x_st_A G _ (x_P_A hk0)] at hP hD
  refine lv_aload_n hx hb d_P_begin_19 rfl (lv_at hl 0 rfl) ?_
  refine lv_iconst (v := (0 : Int32)) hx hb d_P_begin_20 (by decide) ?_
  refine va_put (D := x_D G) (ci := 2) (v := .int (0 : Int32)) (ty := .int) (C := "ContentLibrary$Picture") (T := x_TP) (N := 3) hx hb hts x_inP x_tyP x_tyP_ok x_nmP hown hK hP hD hS k0 (x_lk_P G _ hk0) rfl 2 (by decide) (hts _ t_71) (fun _ h9 => h9) rfl (by decide +kernel) rfl rfl (Nat.le_of_ble_eq_true rfl) d_P_begin_21 (fun H locs hP hD hS => ?_)
  rw [x_st_P2 G _ hk0] at hP hD
  obtain ⟨rfl, rfl⟩ := x_ret hf
  exact W.vret hx hb hr (fun t ht hW => ⟨⟨_, rfl, ⟨rfl, rfl⟩, x_pw hP hD hK hG hS hz ht hW⟩, hS.F ht⟩) hS.2.2 d_P_begin_24
abbrev rm_P_copyFrom : Room := { frames := 1, cells := 0, slots := 0, locals := 60 }
set_option maxHeartbeats 4000000 in
set_option maxRecDepth 100000 in
theorem c_P_copyFrom (l : Launch) (G : x_G) (k0 : Nat) (hk0 : x_isP k0 = true) (k1 : Nat) (hk1 : x_isP k1 = true) (z0 : x_St) (r : Unit) (zo : x_St) (hf : f_P_copyFrom (x_n G) k0 k1 z0 = some (r, zo)) : Met l (⟨"ContentLibrary$Picture", "copyFrom", "(LContentLibrary$Picture;)V"⟩ : MethodName) (x_ws (⟨"ContentLibrary$Picture", "copyFrom", "(LContentLibrary$Picture;)V"⟩ : MethodName) prog_5_method_4_code 2 none) rm_P_copyFrom (va_Pc [.ref (x_ad G k0), .ref (x_ad G k1)] (x_PW G z0)) (va_Qv (fun u => r = () ∧ zo = u) (x_PW G) (x_A G)) 0 0 (x_A G) := by
  refine Met.ofW (cc := prog_5_method_4_code) (maxL := 2) (ret := none) (by decide) rfl ?_
  intro p e s m args below meth c s₁ B hml hv
  obtain ⟨rfl, hz, hP, hD, hK, hG⟩ := hv
  have C0 : x_Ctx G p s m _ meth c prog_5_method_4_code "ContentLibrary$Picture" 2 none := ⟨B.exec, B.bytes, B.returns, hml, findClass_of_methodNamed B.named, fun w h => atoms_spec (ws := (x_ws (⟨"ContentLibrary$Picture", "copyFrom", "(LContentLibrary$Picture;)V"⟩ : MethodName) prog_5_method_4_code 2 none)) B.pre w (List.mem_cons_of_mem _ h), B.notSynchronized, hz, hK, hG⟩
  obtain ⟨hx, hb, hr, hml, hown, hts, hlocks, hz, hK, hG⟩ := id C0
  have hS : va_S (x_A G) s.heap s.heap [] := va_S.rf
  have hl := lv_entry ([.ref (x_ad G k0), .ref (x_ad G k1)]) (n := 2) (Nat.le_of_ble_eq_true rfl)
  rw [lg_entry_eq]
  generalize (lg_sl ([.ref (x_ad G k0), .ref (x_ad G k1)]) ++ List.replicate (2 - (lg_sl ([.ref (x_ad G k0), .ref (x_ad G k1)])).length) Slot.unset).toArray = ls at hl ⊢
  have hl : lv_has ls 2 [(0, .ref (x_ad G k0)), (1, .ref (x_ad G k1))] := hl
  rw [f_P_copyFrom] at hf
  refine lv_aload_n hx hb d_P_copyFrom_0 rfl (lv_at hl 1 rfl) ?_
  refine va_get (D := x_D G) (ci := 2) (v := .ref (x_ad G (k1 + 1))) (C := "ContentLibrary$Picture") (T := x_TP) (N := 3) hx hb hts x_inP hown hK hP k1 (x_lk_P G _ hk1) rfl 1 (by decide) (hts _ t_68) (fun _ h9 => h9) rfl d_P_copyFrom_1 ?_
  refine lv_iconst (v := (0 : Int32)) hx hb d_P_copyFrom_4 (by decide) ?_
  refine lv_aload_n hx hb d_P_copyFrom_5 rfl (lv_at hl 0 rfl) ?_
  refine va_get (D := x_D G) (ci := 2) (v := .ref (x_ad G (k0 + 1))) (C := "ContentLibrary$Picture") (T := x_TP) (N := 3) hx hb hts x_inP hown hK hP k0 (x_lk_P G _ hk0) rfl 1 (by decide) (hts _ t_68) (fun _ h9 => h9) rfl d_P_copyFrom_6 ?_
  refine lv_iconst (v := (0 : Int32)) hx hb d_P_copyFrom_9 (by decide) ?_
  refine lv_bipush (v := (66 : Int32)) hx hb d_P_copyFrom_10 (by decide) ?_
  obtain ⟨hc1, hc2, hc3, hc4, hc5, hf⟩ := x_ckc_some hf
  refine va_copyi hx hb (hml.trans hl.1.symm) hown (hts _ t_545) (hts _ t_214) (hts _ t_213) (hts _ t_16) hK hP hD hS (k1 + 1) (k0 + 1) 0 0 (x_lk_A G _ (x_P_A hk1)) (x_lk_A G _ (x_P_A hk0)) rfl rfl rfl hc1 hc2 hc3 hc4 hc5 (fun _ _ => rfl) (Nat.le_of_ble_eq_true rfl) (Nat.le_of_ble_eq_true rfl) d_P_copyFrom_12 (fun H locs hP hD hS => ?_)
  rw [x_cp_A G _ _ _ _ _ (x_P_A hk0)] at hP hD
  refine lv_aload_n hx hb d_P_copyFrom_15 rfl (lv_at hl 0 rfl) ?_
  refine lv_aload_n hx hb d_P_copyFrom_16 rfl (lv_at hl 1 rfl) ?_
  refine va_get (D := x_D G) (ci := 2) (v := .int ((x_cpy z0 (k1 + 1) ((0 : Int32)).toNatClampNeg (k0 + 1) ((0 : Int32)).toNatClampNeg ((66 : Int32)).toNatClampNeg).1 k1 2)) (C := "ContentLibrary$Picture") (T := x_TP) (N := 3) hx hb hts x_inP hown hK hP k1 (x_lk_P G _ hk1) rfl 2 (by decide) (hts _ t_71) (fun _ h9 => h9) rfl d_P_copyFrom_17 ?_
  refine va_put (D := x_D G) (ci := 2) (v := .int ((x_cpy z0 (k1 + 1) ((0 : Int32)).toNatClampNeg (k0 + 1) ((0 : Int32)).toNatClampNeg ((66 : Int32)).toNatClampNeg).1 k1 2)) (ty := .int) (C := "ContentLibrary$Picture") (T := x_TP) (N := 3) hx hb hts x_inP x_tyP x_tyP_ok x_nmP hown hK hP hD hS k0 (x_lk_P G _ hk0) rfl 2 (by decide) (hts _ t_71) (fun _ h9 => h9) rfl (by decide +kernel) rfl rfl (Nat.le_of_ble_eq_true rfl) d_P_copyFrom_20 (fun H locs hP hD hS => ?_)
  rw [x_st_P2 G _ hk0] at hP hD
  obtain ⟨rfl, rfl⟩ := x_ret hf
  exact W.vret hx hb hr (fun t ht hW => ⟨⟨_, rfl, ⟨rfl, rfl⟩, x_pw hP hD hK hG hS hz ht hW⟩, hS.F ht⟩) hS.2.2 d_P_copyFrom_23
abbrev rm_P_width : Room := { frames := 0, cells := 0, slots := 0, locals := 0 }
set_option maxHeartbeats 4000000 in
set_option maxRecDepth 100000 in
theorem c_P_width (l : Launch) (G : x_G) (k0 : Nat) (hk0 : x_isP k0 = true) (z0 : x_St) (r : Int32) (zo : x_St) (hf : f_P_width (x_n G) k0 z0 = some (r, zo)) : Met l (⟨"ContentLibrary$Picture", "width", "()I"⟩ : MethodName) (x_ws (⟨"ContentLibrary$Picture", "width", "()I"⟩ : MethodName) prog_5_method_5_code 1 (some .int)) rm_P_width (va_Pc [.ref (x_ad G k0)] (x_PW G z0)) (va_Qi (fun a u => r = a ∧ zo = u) (x_PW G) (x_A G)) 0 0 (x_A G) := by
  refine Met.ofW (cc := prog_5_method_5_code) (maxL := 1) (ret := (some .int)) (by decide) rfl ?_
  intro p e s m args below meth c s₁ B hml hv
  obtain ⟨rfl, hz, hP, hD, hK, hG⟩ := hv
  have C0 : x_Ctx G p s m _ meth c prog_5_method_5_code "ContentLibrary$Picture" 1 (some .int) := ⟨B.exec, B.bytes, B.returns, hml, findClass_of_methodNamed B.named, fun w h => atoms_spec (ws := (x_ws (⟨"ContentLibrary$Picture", "width", "()I"⟩ : MethodName) prog_5_method_5_code 1 (some .int))) B.pre w (List.mem_cons_of_mem _ h), B.notSynchronized, hz, hK, hG⟩
  obtain ⟨hx, hb, hr, hml, hown, hts, hlocks, hz, hK, hG⟩ := id C0
  have hS : va_S (x_A G) s.heap s.heap [] := va_S.rf
  have hl := lv_entry ([.ref (x_ad G k0)]) (n := 1) (Nat.le_of_ble_eq_true rfl)
  rw [lg_entry_eq]
  generalize (lg_sl ([.ref (x_ad G k0)]) ++ List.replicate (1 - (lg_sl ([.ref (x_ad G k0)])).length) Slot.unset).toArray = ls at hl ⊢
  have hl : lv_has ls 1 [(0, .ref (x_ad G k0))] := hl
  rw [f_P_width] at hf
  refine lv_aload_n hx hb d_P_width_0 rfl (lv_at hl 0 rfl) ?_
  refine va_get (D := x_D G) (ci := 2) (v := .ref (x_ad G (k0 + 1))) (C := "ContentLibrary$Picture") (T := x_TP) (N := 3) hx hb hts x_inP hown hK hP k0 (x_lk_P G _ hk0) rfl 1 (by decide) (hts _ t_68) (fun _ h9 => h9) rfl d_P_width_1 ?_
  refine lv_iconst (v := (0 : Int32)) hx hb d_P_width_4 (by decide) ?_
  obtain ⟨hin1, hf⟩ := x_ck_some hf
  refine va_iald hx hb hK hP (k0 + 1) 0 (x_lk_A G _ (x_P_A hk0)) rfl hin1 d_P_width_5 ?_
  obtain ⟨rfl, rfl⟩ := x_ret hf
  exact W.iret (v := (z0.1 (k0 + 1) ((0 : Int32)).toNatClampNeg)) hx hb hr (fun t ht hW => ⟨⟨_, _, rfl, ⟨rfl, rfl⟩, x_pw hP hD hK hG hS hz ht hW⟩, hS.F ht⟩) hS.2.2 d_P_width_6
abbrev rm_P_height : Room := { frames := 0, cells := 0, slots := 0, locals := 0 }
set_option maxHeartbeats 4000000 in
set_option maxRecDepth 100000 in
theorem c_P_height (l : Launch) (G : x_G) (k0 : Nat) (hk0 : x_isP k0 = true) (z0 : x_St) (r : Int32) (zo : x_St) (hf : f_P_height (x_n G) k0 z0 = some (r, zo)) : Met l (⟨"ContentLibrary$Picture", "height", "()I"⟩ : MethodName) (x_ws (⟨"ContentLibrary$Picture", "height", "()I"⟩ : MethodName) prog_5_method_6_code 1 (some .int)) rm_P_height (va_Pc [.ref (x_ad G k0)] (x_PW G z0)) (va_Qi (fun a u => r = a ∧ zo = u) (x_PW G) (x_A G)) 0 0 (x_A G) := by
  refine Met.ofW (cc := prog_5_method_6_code) (maxL := 1) (ret := (some .int)) (by decide) rfl ?_
  intro p e s m args below meth c s₁ B hml hv
  obtain ⟨rfl, hz, hP, hD, hK, hG⟩ := hv
  have C0 : x_Ctx G p s m _ meth c prog_5_method_6_code "ContentLibrary$Picture" 1 (some .int) := ⟨B.exec, B.bytes, B.returns, hml, findClass_of_methodNamed B.named, fun w h => atoms_spec (ws := (x_ws (⟨"ContentLibrary$Picture", "height", "()I"⟩ : MethodName) prog_5_method_6_code 1 (some .int))) B.pre w (List.mem_cons_of_mem _ h), B.notSynchronized, hz, hK, hG⟩
  obtain ⟨hx, hb, hr, hml, hown, hts, hlocks, hz, hK, hG⟩ := id C0
  have hS : va_S (x_A G) s.heap s.heap [] := va_S.rf
  have hl := lv_entry ([.ref (x_ad G k0)]) (n := 1) (Nat.le_of_ble_eq_true rfl)
  rw [lg_entry_eq]
  generalize (lg_sl ([.ref (x_ad G k0)]) ++ List.replicate (1 - (lg_sl ([.ref (x_ad G k0)])).length) Slot.unset).toArray = ls at hl ⊢
  have hl : lv_has ls 1 [(0, .ref (x_ad G k0))] := hl
  rw [f_P_height] at hf
  refine lv_aload_n hx hb d_P_height_0 rfl (lv_at hl 0 rfl) ?_
  refine va_get (D := x_D G) (ci := 2) (v := .ref (x_ad G (k0 + 1))) (C := "ContentLibrary$Picture") (T := x_TP) (N := 3) hx hb hts x_inP hown hK hP k0 (x_lk_P G _ hk0) rfl 1 (by decide) (hts _ t_68) (fun _ h9 => h9) rfl d_P_height_1 ?_
  refine lv_iconst (v := (1 : Int32)) hx hb d_P_height_4 (by decide) ?_
  obtain ⟨hin1, hf⟩ := x_ck_some hf
  refine va_iald hx hb hK hP (k0 + 1) 0 (x_lk_A G _ (x_P_A hk0)) rfl hin1 d_P_height_5 ?_
  obtain ⟨rfl, rfl⟩ := x_ret hf
  exact W.iret (v := (z0.1 (k0 + 1) ((1 : Int32)).toNatClampNeg)) hx hb hr (fun t ht hW => ⟨⟨_, _, rfl, ⟨rfl, rfl⟩, x_pw hP hD hK hG hS hz ht hW⟩, hS.F ht⟩) hS.2.2 d_P_height_6
abbrev rm_P_wanted : Room := { frames := 1, cells := 0, slots := 0, locals := 20 }
set_option maxHeartbeats 4000000 in
set_option maxRecDepth 100000 in
theorem c_P_wanted (l : Launch) (G : x_G) (k0 : Nat) (hk0 : x_isP k0 = true) (z0 : x_St) (r : Int32) (zo : x_St) (hf : f_P_wanted (x_n G) k0 z0 = some (r, zo)) : Met l (⟨"ContentLibrary$Picture", "wanted", "()I"⟩ : MethodName) (x_ws (⟨"ContentLibrary$Picture", "wanted", "()I"⟩ : MethodName) prog_5_method_7_code 1 (some .int)) rm_P_wanted (va_Pc [.ref (x_ad G k0)] (x_PW G z0)) (va_Qi (fun a u => r = a ∧ zo = u) (x_PW G) (x_A G)) 0 0 (x_A G) := by
  refine Met.ofW (cc := prog_5_method_7_code) (maxL := 1) (ret := (some .int)) (by decide) rfl ?_
  intro p e s m args below meth c s₁ B hml hv
  obtain ⟨rfl, hz, hP, hD, hK, hG⟩ := hv
  have C0 : x_Ctx G p s m _ meth c prog_5_method_7_code "ContentLibrary$Picture" 1 (some .int) := ⟨B.exec, B.bytes, B.returns, hml, findClass_of_methodNamed B.named, fun w h => atoms_spec (ws := (x_ws (⟨"ContentLibrary$Picture", "wanted", "()I"⟩ : MethodName) prog_5_method_7_code 1 (some .int))) B.pre w (List.mem_cons_of_mem _ h), B.notSynchronized, hz, hK, hG⟩
  obtain ⟨hx, hb, hr, hml, hown, hts, hlocks, hz, hK, hG⟩ := id C0
  have hS : va_S (x_A G) s.heap s.heap [] := va_S.rf
  have hl := lv_entry ([.ref (x_ad G k0)]) (n := 1) (Nat.le_of_ble_eq_true rfl)
  rw [lg_entry_eq]
  generalize (lg_sl ([.ref (x_ad G k0)]) ++ List.replicate (1 - (lg_sl ([.ref (x_ad G k0)])).length) Slot.unset).toArray = ls at hl ⊢
  have hl : lv_has ls 1 [(0, .ref (x_ad G k0))] := hl
  rw [f_P_wanted] at hf
  refine lv_aload_n hx hb d_P_wanted_0 rfl (lv_at hl 0 rfl) ?_
  obtain ⟨r1, z1, hq2, hf⟩ := x_cl_some hf
  refine va_calli (va_runV (As := []) (rest := []) ⟨hx, hb, hml, hown, hts⟩ (c_P_width l G k0 hk0 z0 r1 z1 hq2) (cwV 0 hts (x_gV t_219 t_220 t_221 t_4 t_222) rfl rfl rfl (by decide +kernel) ⟨Nat.le_of_ble_eq_true rfl, Nat.le_of_ble_eq_true rfl⟩) ⟨x_blind _ _ _, va_recv hK hP (ci := 2) (q0 := k0) rfl (x_lk_P G _ hk0), fun U hU hW => ⟨rfl, x_pw hP hD hK hG hS hz hU hW⟩⟩ rfl rfl hl.1 rfl (lv_room (Nat.le_of_ble_eq_true rfl)) d_P_wanted_1 ⟨Nat.le_of_ble_eq_true rfl, Nat.le_of_ble_eq_true rfl⟩) hS (fun q _ h => h) (fun q h => h) (fun ra u t H locs ht hvm hw hB _ _ hS => ?_)
  obtain ⟨rfl, rfl⟩ := hw
  obtain ⟨hP, hD⟩ := x_back hB ht
  refine lv_aload_n hx hb d_P_wanted_4 rfl (lv_at hl 0 rfl) ?_
  obtain ⟨r3, z3, hq4, hf⟩ := x_cl_some hf
  refine va_calli (va_runV (As := []) (rest := [.int r1]) ⟨hx, hb, hml, hown, hts⟩ (c_P_height l G k0 hk0 z1 r3 z3 hq4) (cwV 0 hts (x_gV t_226 t_227 t_228 t_4 t_229) rfl rfl rfl (by decide +kernel) ⟨Nat.le_of_ble_eq_true rfl, Nat.le_of_ble_eq_true rfl⟩) ⟨x_blind _ _ _, va_recv hK hP (ci := 2) (q0 := k0) rfl (x_lk_P G _ hk0), fun U hU hW => ⟨rfl, x_pw hP hD hK hG hS hz hU hW⟩⟩ rfl rfl hl.1 rfl (lv_room (Nat.le_of_ble_eq_true rfl)) d_P_wanted_5 ⟨Nat.le_of_ble_eq_true rfl, Nat.le_of_ble_eq_true rfl⟩) hS (fun q _ h => h) (fun q h => h) (fun ra u t H locs ht hvm hw hB _ _ hS => ?_)
  obtain ⟨rfl, rfl⟩ := hw
  obtain ⟨hP, hD⟩ := x_back hB ht
  refine lv_imul hx hb d_P_wanted_8 ?_
  obtain ⟨rfl, rfl⟩ := x_ret hf
  exact W.iret (v := (r1 * r3)) hx hb hr (fun t ht hW => ⟨⟨_, _, rfl, ⟨rfl, rfl⟩, x_pw hP hD hK hG hS hz ht hW⟩, hS.F ht⟩) hS.2.2 d_P_wanted_9
abbrev rm_P_isWhole : Room := { frames := 2, cells := 0, slots := 0, locals := 40 }
set_option maxHeartbeats 4000000 in
set_option maxRecDepth 100000 in
theorem c_P_isWhole (l : Launch) (G : x_G) (k0 : Nat) (hk0 : x_isP k0 = true) (z0 : x_St) (r : Int32) (zo : x_St) (hf : f_P_isWhole (x_n G) k0 z0 = some (r, zo)) : Met l (⟨"ContentLibrary$Picture", "isWhole", "()Z"⟩ : MethodName) (x_ws (⟨"ContentLibrary$Picture", "isWhole", "()Z"⟩ : MethodName) prog_5_method_8_code 1 (some .boolean)) rm_P_isWhole (va_Pc [.ref (x_ad G k0)] (x_PW G z0)) (va_Qi (fun a u => r = a ∧ zo = u) (x_PW G) (x_A G)) 0 0 (x_A G) := by
  refine Met.ofW (cc := prog_5_method_8_code) (maxL := 1) (ret := (some .boolean)) (by decide) rfl ?_
  intro p e s m args below meth c s₁ B hml hv
  obtain ⟨rfl, hz, hP, hD, hK, hG⟩ := hv
  have C0 : x_Ctx G p s m _ meth c prog_5_method_8_code "ContentLibrary$Picture" 1 (some .boolean) := ⟨B.exec, B.bytes, B.returns, hml, findClass_of_methodNamed B.named, fun w h => atoms_spec (ws := (x_ws (⟨"ContentLibrary$Picture", "isWhole", "()Z"⟩ : MethodName) prog_5_method_8_code 1 (some .boolean))) B.pre w (List.mem_cons_of_mem _ h), B.notSynchronized, hz, hK, hG⟩
  obtain ⟨hx, hb, hr, hml, hown, hts, hlocks, hz, hK, hG⟩ := id C0
  have hS : va_S (x_A G) s.heap s.heap [] := va_S.rf
  have hl := lv_entry ([.ref (x_ad G k0)]) (n := 1) (Nat.le_of_ble_eq_true rfl)
  rw [lg_entry_eq]
  generalize (lg_sl ([.ref (x_ad G k0)]) ++ List.replicate (1 - (lg_sl ([.ref (x_ad G k0)])).length) Slot.unset).toArray = ls at hl ⊢
  have hl : lv_has ls 1 [(0, .ref (x_ad G k0))] := hl
  rw [f_P_isWhole] at hf
  refine lv_aload_n hx hb d_P_isWhole_0 rfl (lv_at hl 0 rfl) ?_
  refine va_get (D := x_D G) (ci := 2) (v := .int (z0.1 k0 2)) (C := "ContentLibrary$Picture") (T := x_TP) (N := 3) hx hb hts x_inP hown hK hP k0 (x_lk_P G _ hk0) rfl 2 (by decide) (hts _ t_71) (fun _ h9 => h9) rfl d_P_isWhole_1 ?_
  refine lv_aload_n hx hb d_P_isWhole_4 rfl (lv_at hl 0 rfl) ?_
  obtain ⟨r1, z1, hq2, hf⟩ := x_cl_some hf
  refine va_calli (va_runV (As := []) (rest := [.int (z0.1 k0 2)]) ⟨hx, hb, hml, hown, hts⟩ (c_P_wanted l G k0 hk0 z0 r1 z1 hq2) (cwV 0 hts (x_gV t_234 t_235 t_236 t_4 t_237) rfl rfl rfl (by decide +kernel) ⟨Nat.le_of_ble_eq_true rfl, Nat.le_of_ble_eq_true rfl⟩) ⟨x_blind _ _ _, va_recv hK hP (ci := 2) (q0 := k0) rfl (x_lk_P G _ hk0), fun U hU hW => ⟨rfl, x_pw hP hD hK hG hS hz hU hW⟩⟩ rfl rfl hl.1 rfl (lv_room (Nat.le_of_ble_eq_true rfl)) d_P_isWhole_5 ⟨Nat.le_of_ble_eq_true rfl, Nat.le_of_ble_eq_true rfl⟩) hS (fun q _ h => h) (fun q h => h) (fun ra u t H locs ht hvm hw hB _ _ hS => ?_)
  obtain ⟨rfl, rfl⟩ := hw
  obtain ⟨hP, hD⟩ := x_back hB ht
  refine lv_icmp_ne (tgt := 15) hx hb d_P_isWhole_8 (by decide) (fun hc3 => ?_) (fun hc3 => ?_)
  · have hf := x_br_f hf hc3
    refine lv_iconst (v := (0 : Int32)) hx hb d_P_isWhole_15 (by decide) ?_
    obtain ⟨rfl, rfl⟩ := x_ret hf
    exact W.zret (v := (0 : Int32)) hx hb hr rfl (fun t ht hW => ⟨⟨_, _, rfl, ⟨rfl, rfl⟩, x_pw hP hD hK hG hS hz ht hW⟩, hS.F ht⟩) hS.2.2 d_P_isWhole_16
  · have hf := x_br_t hf hc3
    refine lv_iconst (v := (1 : Int32)) hx hb d_P_isWhole_11 (by decide) ?_
    refine lv_goto (tgt := 16) hx hb d_P_isWhole_12 (by decide) ?_
    obtain ⟨rfl, rfl⟩ := x_ret hf
    exact W.zret (v := (1 : Int32)) hx hb hr rfl (fun t ht hW => ⟨⟨_, _, rfl, ⟨rfl, rfl⟩, x_pw hP hD hK hG hS hz ht hW⟩, hS.F ht⟩) hS.2.2 d_P_isWhole_16
abbrev rm_P_length : Room := { frames := 0, cells := 0, slots := 0, locals := 0 }
set_option maxHeartbeats 4000000 in
set_option maxRecDepth 100000 in
theorem c_P_length (l : Launch) (G : x_G) (k0 : Nat) (hk0 : x_isP k0 = true) (z0 : x_St) (r : Int32) (zo : x_St) (hf : f_P_length (x_n G) k0 z0 = some (r, zo)) : Met l (⟨"ContentLibrary$Picture", "length", "()I"⟩ : MethodName) (x_ws (⟨"ContentLibrary$Picture", "length", "()I"⟩ : MethodName) prog_5_method_9_code 1 (some .int)) rm_P_length (va_Pc [.ref (x_ad G k0)] (x_PW G z0)) (va_Qi (fun a u => r = a ∧ zo = u) (x_PW G) (x_A G)) 0 0 (x_A G) := by
  refine Met.ofW (cc := prog_5_method_9_code) (maxL := 1) (ret := (some .int)) (by decide) rfl ?_
  intro p e s m args below meth c s₁ B hml hv
  obtain ⟨rfl, hz, hP, hD, hK, hG⟩ := hv
  have C0 : x_Ctx G p s m _ meth c prog_5_method_9_code "ContentLibrary$Picture" 1 (some .int) := ⟨B.exec, B.bytes, B.returns, hml, findClass_of_methodNamed B.named, fun w h => atoms_spec (ws := (x_ws (⟨"ContentLibrary$Picture", "length", "()I"⟩ : MethodName) prog_5_method_9_code 1 (some .int))) B.pre w (List.mem_cons_of_mem _ h), B.notSynchronized, hz, hK, hG⟩
  obtain ⟨hx, hb, hr, hml, hown, hts, hlocks, hz, hK, hG⟩ := id C0
  have hS : va_S (x_A G) s.heap s.heap [] := va_S.rf
  have hl := lv_entry ([.ref (x_ad G k0)]) (n := 1) (Nat.le_of_ble_eq_true rfl)
  rw [lg_entry_eq]
  generalize (lg_sl ([.ref (x_ad G k0)]) ++ List.replicate (1 - (lg_sl ([.ref (x_ad G k0)])).length) Slot.unset).toArray = ls at hl ⊢
  have hl : lv_has ls 1 [(0, .ref (x_ad G k0))] := hl
  rw [f_P_length] at hf
  refine lv_iconst (v := (2 : Int32)) hx hb d_P_length_0 (by decide) ?_
  refine lv_aload_n hx hb d_P_length_1 rfl (lv_at hl 0 rfl) ?_
  refine va_get (D := x_D G) (ci := 2) (v := .int (z0.1 k0 2)) (C := "ContentLibrary$Picture") (T := x_TP) (N := 3) hx hb hts x_inP hown hK hP k0 (x_lk_P G _ hk0) rfl 2 (by decide) (hts _ t_71) (fun _ h9 => h9) rfl d_P_length_2 ?_
  refine lv_iadd hx hb d_P_length_5 ?_
  obtain ⟨rfl, rfl⟩ := x_ret hf
  exact W.iret (v := ((2 : Int32) + (z0.1 k0 2))) hx hb hr (fun t ht hW => ⟨⟨_, _, rfl, ⟨rfl, rfl⟩, x_pw hP hD hK hG hS hz ht hW⟩, hS.F ht⟩) hS.2.2 d_P_length_6
abbrev rm_P_recordBlocks : Room := { frames := 1, cells := 0, slots := 0, locals := 20 }
set_option maxHeartbeats 4000000 in
set_option maxRecDepth 100000 in
theorem c_P_recordBlocks (l : Launch) (G : x_G) (k0 : Nat) (hk0 : x_isP k0 = true) (z0 : x_St) (r : Int32) (zo : x_St) (hf : f_P_recordBlocks (x_n G) k0 z0 = some (r, zo)) : Met l (⟨"ContentLibrary$Picture", "recordBlocks", "()I"⟩ : MethodName) (x_ws (⟨"ContentLibrary$Picture", "recordBlocks", "()I"⟩ : MethodName) prog_5_method_10_code 1 (some .int)) rm_P_recordBlocks (va_Pc [.ref (x_ad G k0)] (x_PW G z0)) (va_Qi (fun a u => r = a ∧ zo = u) (x_PW G) (x_A G)) 0 0 (x_A G) := by
  refine Met.ofW (cc := prog_5_method_10_code) (maxL := 1) (ret := (some .int)) (by decide) rfl ?_
  intro p e s m args below meth c s₁ B hml hv
  obtain ⟨rfl, hz, hP, hD, hK, hG⟩ := hv
  have C0 : x_Ctx G p s m _ meth c prog_5_method_10_code "ContentLibrary$Picture" 1 (some .int) := ⟨B.exec, B.bytes, B.returns, hml, findClass_of_methodNamed B.named, fun w h => atoms_spec (ws := (x_ws (⟨"ContentLibrary$Picture", "recordBlocks", "()I"⟩ : MethodName) prog_5_method_10_code 1 (some .int))) B.pre w (List.mem_cons_of_mem _ h), B.notSynchronized, hz, hK, hG⟩
  obtain ⟨hx, hb, hr, hml, hown, hts, hlocks, hz, hK, hG⟩ := id C0
  have hS : va_S (x_A G) s.heap s.heap [] := va_S.rf
  have hl := lv_entry ([.ref (x_ad G k0)]) (n := 1) (Nat.le_of_ble_eq_true rfl)
  rw [lg_entry_eq]
  generalize (lg_sl ([.ref (x_ad G k0)]) ++ List.replicate (1 - (lg_sl ([.ref (x_ad G k0)])).length) Slot.unset).toArray = ls at hl ⊢
  have hl : lv_has ls 1 [(0, .ref (x_ad G k0))] := hl
  rw [f_P_recordBlocks] at hf
  refine lv_aload_n hx hb d_P_recordBlocks_0 rfl (lv_at hl 0 rfl) ?_
  obtain ⟨r1, z1, hq2, hf⟩ := x_cl_some hf
  refine va_calli (va_runV (As := []) (rest := []) ⟨hx, hb, hml, hown, hts⟩ (c_P_length l G k0 hk0 z0 r1 z1 hq2) (cwV 0 hts (x_gV t_499 t_239 t_240 t_4 t_241) rfl rfl rfl (by decide +kernel) ⟨Nat.le_of_ble_eq_true rfl, Nat.le_of_ble_eq_true rfl⟩) ⟨x_blind _ _ _, va_recv hK hP (ci := 2) (q0 := k0) rfl (x_lk_P G _ hk0), fun U hU hW => ⟨rfl, x_pw hP hD hK hG hS hz hU hW⟩⟩ rfl rfl hl.1 rfl (lv_room (Nat.le_of_ble_eq_true rfl)) d_P_recordBlocks_1 ⟨Nat.le_of_ble_eq_true rfl, Nat.le_of_ble_eq_true rfl⟩) hS (fun q _ h => h) (fun q h => h) (fun ra u t H locs ht hvm hw hB _ _ hS => ?_)
  obtain ⟨rfl, rfl⟩ := hw
  obtain ⟨hP, hD⟩ := x_back hB ht
  refine lv_bipush (v := (56 : Int32)) hx hb d_P_recordBlocks_4 (by decide) ?_
  refine lv_iadd hx hb d_P_recordBlocks_6 ?_
  refine lv_iconst (v := (1 : Int32)) hx hb d_P_recordBlocks_7 (by decide) ?_
  refine lv_isub hx hb d_P_recordBlocks_8 ?_
  refine lv_bipush (v := (56 : Int32)) hx hb d_P_recordBlocks_9 (by decide) ?_
  refine lv_idiv hx hb d_P_recordBlocks_11 (by decide) ?_
  obtain ⟨rfl, rfl⟩ := x_ret hf
  exact W.iret (v := (((r1 + (56 : Int32)) - (1 : Int32)) / (56 : Int32))) hx hb hr (fun t ht hW => ⟨⟨_, _, rfl, ⟨rfl, rfl⟩, x_pw hP hD hK hG hS hz ht hW⟩, hS.F ht⟩) hS.2.2 d_P_recordBlocks_12
abbrev rm_P_take : Room := { frames := 2, cells := 0, slots := 0, locals := 40 }
set_option maxHeartbeats 4000000 in
set_option maxRecDepth 100000 in
theorem w_P_take_67 (l : Launch) (G : x_G) {p : Program} {e : Env} {s : State} {m : MethodId} {args : Array Value} {below : List Frame} {meth : Method} {c : Code} (C0 : x_Ctx G p s m args meth c prog_5_method_11_code "ContentLibrary$Picture" 7 (some .int)) (r : Int32) (zo : x_St) : ∀ (a0 : Nat) (ha0 : x_isP a0 = true) (z0 : x_St), f_P_take_67 (x_n G) a0 z0 = some (r, zo) → ∀ (H : Heap) (locs : List Loc) (ls : Array Slot), va_P (x_D G) vwCl (x_Wd G z0) H → va_D (x_A G) (x_Wd G z0) → va_S (x_A G) s.heap H locs → lv_has ls 7 [(0, .ref (x_ad G a0))] → W p l e rm_P_take s m args below meth c H locs 0 0 (MQ below (va_Qi (fun a u => r = a ∧ zo = u) (x_PW G) (x_A G)) args s 0 0 (x_A G)) (F0 m 67 ls []) := by
  obtain ⟨hx, hb, hr, hml, hown, hts, hlocks, hz, hK, hG⟩ := id C0
  intro a0 ha0 z0 hf H locs ls hP hD hS hl
  rw [f_P_take_67] at hf
  refine lv_aload_n hx hb d_P_take_67 rfl (lv_at hl 0 rfl) ?_
  refine va_get (D := x_D G) (ci := 2) (v := .int (z0.1 a0 2)) (C := "ContentLibrary$Picture") (T := x_TP) (N := 3) hx hb hts x_inP hown hK hP a0 (x_lk_P G _ ha0) rfl 2 (by decide) (hts _ t_71) (fun _ h9 => h9) rfl d_P_take_68 ?_
  obtain ⟨rfl, rfl⟩ := x_ret hf
  exact W.iret (v := (z0.1 a0 2)) hx hb hr (fun t ht hW => ⟨⟨_, _, rfl, ⟨rfl, rfl⟩, x_pw hP hD hK hG hS hz ht hW⟩, hS.F ht⟩) hS.2.2 d_P_take_71
set_option maxHeartbeats 4000000 in
set_option maxRecDepth 100000 in
theorem w_P_take_21 (l : Launch) (G : x_G) {p : Program} {e : Env} {s : State} {m : MethodId} {args : Array Value} {below : List Frame} {meth : Method} {c : Code} (C0 : x_Ctx G p s m args meth c prog_5_method_11_code "ContentLibrary$Picture" 7 (some .int)) (r : Int32) (zo : x_St) : ∀ (fu : Nat), ∀ (a0 : Nat) (ha0 : x_isP a0 = true) (a3 : Int32) (a4 : Int32) (a5 : Int32) (a6 : Int32) (z0 : x_St), f_P_take_21 (x_n G) fu a0 a3 a4 a5 a6 z0 = some (r, zo) → ∀ (H : Heap) (locs : List Loc) (ls : Array Slot), va_P (x_D G) vwCl (x_Wd G z0) H → va_D (x_A G) (x_Wd G z0) → va_S (x_A G) s.heap H locs → lv_has ls 7 [(0, .ref (x_ad G a0)), (3, .int a3), (4, .int a4), (5, .int a5), (6, .int a6)] → W p l e rm_P_take s m args below meth c H locs 0 0 (MQ below (va_Qi (fun a u => r = a ∧ zo = u) (x_PW G) (x_A G)) args s 0 0 (x_A G)) (F0 m 21 ls []) := by
  obtain ⟨hx, hb, hr, hml, hown, hts, hlocks, hz, hK, hG⟩ := id C0
  intro fu
  induction fu with
  | zero =>
    intro a0 ha0 a3 a4 a5 a6 z0 hf
    rw [f_P_take_21] at hf
    cases hf
  | succ fu ih =>
    intro a0 ha0 a3 a4 a5 a6 z0 hf H locs ls hP hD hS hl
    rw [f_P_take_21] at hf
    refine lv_iload hx hb d_P_take_21 (lv_at hl 4 rfl) ?_
    refine lv_iload hx hb d_P_take_23 (lv_at hl 2 rfl) ?_
    refine lv_icmp_ge (tgt := 67) hx hb d_P_take_25 (by decide) (fun hc1 => ?_) (fun hc1 => ?_)
    · have hf := x_br_t hf hc1
      exact w_P_take_67 l G C0 r zo a0 ha0 z0 hf _ _ _ hP hD hS (lv_sub hl [0] rfl)
    · have hf := x_br_f hf hc1
      refine lv_aload_n hx hb d_P_take_28 rfl (lv_at hl 0 rfl) ?_
      refine va_get (D := x_D G) (ci := 2) (v := .ref (x_ad G (a0 + 1))) (C := "ContentLibrary$Picture") (T := x_TP) (N := 3) hx hb hts x_inP hown hK hP a0 (x_lk_P G _ ha0) rfl 1 (by decide) (hts _ t_68) (fun _ h9 => h9) rfl d_P_take_29 ?_
      refine lv_iconst (v := (2 : Int32)) hx hb d_P_take_32 (by decide) ?_
      refine lv_aload_n hx hb d_P_take_33 rfl (lv_at hl 0 rfl) ?_
      refine va_get (D := x_D G) (ci := 2) (v := .int (z0.1 a0 2)) (C := "ContentLibrary$Picture") (T := x_TP) (N := 3) hx hb hts x_inP hown hK hP a0 (x_lk_P G _ ha0) rfl 2 (by decide) (hts _ t_71) (fun _ h9 => h9) rfl d_P_take_34 ?_
      refine lv_iadd hx hb d_P_take_37 ?_
      refine lv_iload hx hb d_P_take_38 (lv_at hl 3 rfl) ?_
      refine lv_sipush (v := (255 : Int32)) hx hb d_P_take_40 (by decide) ?_
      refine lv_iand hx hb d_P_take_43 ?_
      obtain ⟨hin2, hf⟩ := x_ck_some hf
      refine va_iast hx hb hK hP hD hS (a0 + 1) 0 (x_lk_A G _ (x_P_A ha0)) rfl hin2 d_P_take_44 (fun H locs hP hD hS => ?_)
      rw [x_st_A G _ (x_P_A ha0)] at hP hD
      refine lv_aload_n hx hb d_P_take_45 rfl (lv_at hl 0 rfl) ?_
      refine lv_dup hx hb d_P_take_46 rfl ?_
      refine va_get (D := x_D G) (ci := 2) (v := .int ((x_put z0 (a0 + 1) (((2 : Int32) + (z0.1 a0 2))).toNatClampNeg (a5 &&& (255 : Int32))).1 a0 2)) (C := "ContentLibrary$Picture") (T := x_TP) (N := 3) hx hb hts x_inP hown hK hP a0 (x_lk_P G _ ha0) rfl 2 (by decide) (hts _ t_71) (fun _ h9 => h9) rfl d_P_take_47 ?_
      refine lv_iconst (v := (1 : Int32)) hx hb d_P_take_50 (by decide) ?_
      refine lv_iadd hx hb d_P_take_51 ?_
      refine va_put (D := x_D G) (ci := 2) (v := .int (((x_put z0 (a0 + 1) (((2 : Int32) + (z0.1 a0 2))).toNatClampNeg (a5 &&& (255 : Int32))).1 a0 2) + (1 : Int32))) (ty := .int) (C := "ContentLibrary$Picture") (T := x_TP) (N := 3) hx hb hts x_inP x_tyP x_tyP_ok x_nmP hown hK hP hD hS a0 (x_lk_P G _ ha0) rfl 2 (by decide) (hts _ t_71) (fun _ h9 => h9) rfl (by decide +kernel) rfl rfl (Nat.le_of_ble_eq_true rfl) d_P_take_52 (fun H locs hP hD hS => ?_)
      rw [x_st_P2 G _ ha0] at hP hD
      refine lv_iload hx hb d_P_take_55 (lv_at hl 3 rfl) ?_
      refine lv_iload_n hx hb d_P_take_57 rfl (lv_at hl 1 rfl) ?_
      refine lv_iadd hx hb d_P_take_58 ?_
      refine lv_istore (lv' := [(5, .int (a5 + a3)), (0, .ref (x_ad G a0)), (3, .int a3), (4, .int a4), (6, .int a6)]) hx hb d_P_take_59 hl (by decide) rfl (fun ls hl => ?_)
      refine lv_iinc (v := (a6 + (1 : Int32))) (lv' := [(6, .int (a6 + (1 : Int32))), (5, .int (a5 + a3)), (0, .ref (x_ad G a0)), (3, .int a3), (4, .int a4)]) hx hb d_P_take_61 hl (k := 4) rfl rfl (by decide) rfl (fun ls hl => ?_)
      refine lv_goto (tgt := 21) hx hb d_P_take_64 (by decide) ?_
      exact ih a0 ha0 a3 a4 (a5 + a3) (a6 + (1 : Int32)) (x_put (x_put z0 (a0 + 1) (((2 : Int32) + (z0.1 a0 2))).toNatClampNeg (a5 &&& (255 : Int32))) a0 2 (((x_put z0 (a0 + 1) (((2 : Int32) + (z0.1 a0 2))).toNatClampNeg (a5 &&& (255 : Int32))).1 a0 2) + (1 : Int32))) hf _ _ _ hP hD hS (lv_sub hl [2, 3, 4, 1, 0] rfl)
set_option maxHeartbeats 4000000 in
set_option maxRecDepth 100000 in
theorem c_P_take (l : Launch) (G : x_G) (k0 : Nat) (hk0 : x_isP k0 = true) (p1 : Int32) (p2 : Int32) (p3 : Int32) (z0 : x_St) (r : Int32) (zo : x_St) (hf : f_P_take (x_n G) k0 p1 p2 p3 z0 = some (r, zo)) : Met l (⟨"ContentLibrary$Picture", "take", "(III)I"⟩ : MethodName) (x_ws (⟨"ContentLibrary$Picture", "take", "(III)I"⟩ : MethodName) prog_5_method_11_code 7 (some .int)) rm_P_take (va_Pc [.ref (x_ad G k0), .int p1, .int p2, .int p3] (x_PW G z0)) (va_Qi (fun a u => r = a ∧ zo = u) (x_PW G) (x_A G)) 0 0 (x_A G) := by
  refine Met.ofW (cc := prog_5_method_11_code) (maxL := 7) (ret := (some .int)) (by decide) rfl ?_
  intro p e s m args below meth c s₁ B hml hv
  obtain ⟨rfl, hz, hP, hD, hK, hG⟩ := hv
  have C0 : x_Ctx G p s m _ meth c prog_5_method_11_code "ContentLibrary$Picture" 7 (some .int) := ⟨B.exec, B.bytes, B.returns, hml, findClass_of_methodNamed B.named, fun w h => atoms_spec (ws := (x_ws (⟨"ContentLibrary$Picture", "take", "(III)I"⟩ : MethodName) prog_5_method_11_code 7 (some .int))) B.pre w (List.mem_cons_of_mem _ h), B.notSynchronized, hz, hK, hG⟩
  obtain ⟨hx, hb, hr, hml, hown, hts, hlocks, hz, hK, hG⟩ := id C0
  have hS : va_S (x_A G) s.heap s.heap [] := va_S.rf
  have hl := lv_entry ([.ref (x_ad G k0), .int p1, .int p2, .int p3]) (n := 7) (Nat.le_of_ble_eq_true rfl)
  rw [lg_entry_eq]
  generalize (lg_sl ([.ref (x_ad G k0), .int p1, .int p2, .int p3]) ++ List.replicate (7 - (lg_sl ([.ref (x_ad G k0), .int p1, .int p2, .int p3])).length) Slot.unset).toArray = ls at hl ⊢
  have hl : lv_has ls 7 [(0, .ref (x_ad G k0)), (1, .int p1), (2, .int p2), (3, .int p3)] := hl
  rw [f_P_take] at hf
  refine lv_iload_n hx hb d_P_take_0 rfl (lv_at hl 1 rfl) ?_
  refine lv_aload_n hx hb d_P_take_1 rfl (lv_at hl 0 rfl) ?_
  obtain ⟨r3, z3, hq4, hf⟩ := x_cl_some hf
  refine va_calli (va_runV (As := []) (rest := [.int p1]) ⟨hx, hb, hml, hown, hts⟩ (c_P_wanted l G k0 hk0 z0 r3 z3 hq4) (cwV 0 hts (x_gV t_234 t_235 t_236 t_4 t_237) rfl rfl rfl (by decide +kernel) ⟨Nat.le_of_ble_eq_true rfl, Nat.le_of_ble_eq_true rfl⟩) ⟨x_blind _ _ _, va_recv hK hP (ci := 2) (q0 := k0) rfl (x_lk_P G _ hk0), fun U hU hW => ⟨rfl, x_pw hP hD hK hG hS hz hU hW⟩⟩ rfl rfl hl.1 rfl (lv_room (Nat.le_of_ble_eq_true rfl)) d_P_take_2 ⟨Nat.le_of_ble_eq_true rfl, Nat.le_of_ble_eq_true rfl⟩) hS (fun q _ h => h) (fun q h => h) (fun ra u t H locs ht hvm hw hB _ _ hS => ?_)
  obtain ⟨rfl, rfl⟩ := hw
  obtain ⟨hP, hD⟩ := x_back hB ht
  refine lv_aload_n hx hb d_P_take_5 rfl (lv_at hl 0 rfl) ?_
  refine va_get (D := x_D G) (ci := 2) (v := .int (z3.1 k0 2)) (C := "ContentLibrary$Picture") (T := x_TP) (N := 3) hx hb hts x_inP hown hK hP k0 (x_lk_P G _ hk0) rfl 2 (by decide) (hts _ t_71) (fun _ h9 => h9) rfl d_P_take_6 ?_
  refine lv_isub hx hb d_P_take_9 ?_
  refine va_mmin hx hb (hml.trans hl.1.symm) hown (hts _ t_478) (hts _ t_28) (hts _ t_2) (hts _ t_29) (Nat.le_of_ble_eq_true rfl) (Nat.le_of_ble_eq_true rfl) (Nat.le_of_ble_eq_true rfl) (Nat.le_of_ble_eq_true rfl) d_P_take_10 ?_
  refine lv_istore (lv' := [(4, .int (if (r3 - (z3.1 k0 2)) < p1 then (r3 - (z3.1 k0 2)) else p1)), (0, .ref (x_ad G k0)), (1, .int p1), (2, .int p2), (3, .int p3)]) hx hb d_P_take_13 hl (by decide) rfl (fun ls hl => ?_)
  refine lv_iload_n hx hb d_P_take_15 rfl (lv_at hl 3 rfl) ?_
  refine lv_istore (lv' := [(5, .int p2), (4, .int (if (r3 - (z3.1 k0 2)) < p1 then (r3 - (z3.1 k0 2)) else p1)), (0, .ref (x_ad G k0)), (1, .int p1), (2, .int p2), (3, .int p3)]) hx hb d_P_take_16 hl (by decide) rfl (fun ls hl => ?_)
  refine lv_iconst (v := (0 : Int32)) hx hb d_P_take_18 (by decide) ?_
  refine lv_istore (lv' := [(6, .int (0 : Int32)), (5, .int p2), (4, .int (if (r3 - (z3.1 k0 2)) < p1 then (r3 - (z3.1 k0 2)) else p1)), (0, .ref (x_ad G k0)), (1, .int p1), (2, .int p2), (3, .int p3)]) hx hb d_P_take_19 hl (by decide) rfl (fun ls hl => ?_)
  exact w_P_take_21 l G C0 r zo x_FU k0 hk0 p3 (if (r3 - (z3.1 k0 2)) < p1 then (r3 - (z3.1 k0 2)) else p1) p2 (0 : Int32) z3 hf _ _ _ hP hD hS (lv_sub hl [3, 6, 2, 1, 0] rfl)
abbrev rm_P_at : Room := { frames := 1, cells := 0, slots := 0, locals := 20 }
set_option maxHeartbeats 4000000 in
set_option maxRecDepth 100000 in
theorem c_P_at (l : Launch) (G : x_G) (k0 : Nat) (hk0 : x_isP k0 = true) (p1 : Int32) (p2 : Int32) (z0 : x_St) (r : Int32) (zo : x_St) (hf : f_P_at (x_n G) k0 p1 p2 z0 = some (r, zo)) : Met l (⟨"ContentLibrary$Picture", "at", "(II)I"⟩ : MethodName) (x_ws (⟨"ContentLibrary$Picture", "at", "(II)I"⟩ : MethodName) prog_5_method_12_code 3 (some .int)) rm_P_at (va_Pc [.ref (x_ad G k0), .int p1, .int p2] (x_PW G z0)) (va_Qi (fun a u => r = a ∧ zo = u) (x_PW G) (x_A G)) 0 0 (x_A G) := by
  refine Met.ofW (cc := prog_5_method_12_code) (maxL := 3) (ret := (some .int)) (by decide) rfl ?_
  intro p e s m args below meth c s₁ B hml hv
  obtain ⟨rfl, hz, hP, hD, hK, hG⟩ := hv
  have C0 : x_Ctx G p s m _ meth c prog_5_method_12_code "ContentLibrary$Picture" 3 (some .int) := ⟨B.exec, B.bytes, B.returns, hml, findClass_of_methodNamed B.named, fun w h => atoms_spec (ws := (x_ws (⟨"ContentLibrary$Picture", "at", "(II)I"⟩ : MethodName) prog_5_method_12_code 3 (some .int))) B.pre w (List.mem_cons_of_mem _ h), B.notSynchronized, hz, hK, hG⟩
  obtain ⟨hx, hb, hr, hml, hown, hts, hlocks, hz, hK, hG⟩ := id C0
  have hS : va_S (x_A G) s.heap s.heap [] := va_S.rf
  have hl := lv_entry ([.ref (x_ad G k0), .int p1, .int p2]) (n := 3) (Nat.le_of_ble_eq_true rfl)
  rw [lg_entry_eq]
  generalize (lg_sl ([.ref (x_ad G k0), .int p1, .int p2]) ++ List.replicate (3 - (lg_sl ([.ref (x_ad G k0), .int p1, .int p2])).length) Slot.unset).toArray = ls at hl ⊢
  have hl : lv_has ls 3 [(0, .ref (x_ad G k0)), (1, .int p1), (2, .int p2)] := hl
  rw [f_P_at] at hf
  refine lv_aload_n hx hb d_P_at_0 rfl (lv_at hl 0 rfl) ?_
  refine va_get (D := x_D G) (ci := 2) (v := .ref (x_ad G (k0 + 1))) (C := "ContentLibrary$Picture") (T := x_TP) (N := 3) hx hb hts x_inP hown hK hP k0 (x_lk_P G _ hk0) rfl 1 (by decide) (hts _ t_68) (fun _ h9 => h9) rfl d_P_at_1 ?_
  refine lv_iconst (v := (2 : Int32)) hx hb d_P_at_4 (by decide) ?_
  refine lv_iload_n hx hb d_P_at_5 rfl (lv_at hl 2 rfl) ?_
  refine lv_aload_n hx hb d_P_at_6 rfl (lv_at hl 0 rfl) ?_
  obtain ⟨r1, z1, hq2, hf⟩ := x_cl_some hf
  refine va_calli (va_runV (As := []) (rest := [.int p2, .int (2 : Int32), .ref (x_ad G (k0 + 1))]) ⟨hx, hb, hml, hown, hts⟩ (c_P_width l G k0 hk0 z0 r1 z1 hq2) (cwV 0 hts (x_gV t_219 t_220 t_221 t_4 t_222) rfl rfl rfl (by decide +kernel) ⟨Nat.le_of_ble_eq_true rfl, Nat.le_of_ble_eq_true rfl⟩) ⟨x_blind _ _ _, va_recv hK hP (ci := 2) (q0 := k0) rfl (x_lk_P G _ hk0), fun U hU hW => ⟨rfl, x_pw hP hD hK hG hS hz hU hW⟩⟩ rfl rfl hl.1 rfl (lv_room (Nat.le_of_ble_eq_true rfl)) d_P_at_7 ⟨Nat.le_of_ble_eq_true rfl, Nat.le_of_ble_eq_true rfl⟩) hS (fun q _ h => h) (fun q h => h) (fun ra u t H locs ht hvm hw hB _ _ hS => ?_)
  obtain ⟨rfl, rfl⟩ := hw
  obtain ⟨hP, hD⟩ := x_back hB ht
  refine lv_imul hx hb d_P_at_10 ?_
  refine lv_iadd hx hb d_P_at_11 ?_
  refine lv_iload_n hx hb d_P_at_12 rfl (lv_at hl 1 rfl) ?_
  refine lv_iadd hx hb d_P_at_13 ?_
  obtain ⟨hin3, hf⟩ := x_ck_some hf
  refine va_iald hx hb hK hP (k0 + 1) 0 (x_lk_A G _ (x_P_A hk0)) rfl hin3 d_P_at_14 ?_
  obtain ⟨rfl, rfl⟩ := x_ret hf
  exact W.iret (v := (z1.1 (k0 + 1) ((((2 : Int32) + (p2 * r1)) + p1)).toNatClampNeg)) hx hb hr (fun t ht hW => ⟨⟨_, _, rfl, ⟨rfl, rfl⟩, x_pw hP hD hK hG hS hz ht hW⟩, hS.F ht⟩) hS.2.2 d_P_at_15
abbrev rm_P_fillsMessage : Room := { frames := 3, cells := 0, slots := 0, locals := 60 }
set_option maxHeartbeats 4000000 in
set_option maxRecDepth 100000 in
theorem c_P_fillsMessage (l : Launch) (G : x_G) (k0 : Nat) (hk0 : x_isP k0 = true) (p1 : Int32) (z0 : x_St) (r : Int32) (zo : x_St) (hf : f_P_fillsMessage (x_n G) k0 p1 z0 = some (r, zo)) : Met l (⟨"ContentLibrary$Picture", "fillsMessage", "(I)Z"⟩ : MethodName) (x_ws (⟨"ContentLibrary$Picture", "fillsMessage", "(I)Z"⟩ : MethodName) prog_5_method_13_code 2 (some .boolean)) rm_P_fillsMessage (va_Pc [.ref (x_ad G k0), .int p1] (x_PW G z0)) (va_Qi (fun a u => r = a ∧ zo = u) (x_PW G) (x_A G)) 0 0 (x_A G) := by
  refine Met.ofW (cc := prog_5_method_13_code) (maxL := 2) (ret := (some .boolean)) (by decide) rfl ?_
  intro p e s m args below meth c s₁ B hml hv
  obtain ⟨rfl, hz, hP, hD, hK, hG⟩ := hv
  have C0 : x_Ctx G p s m _ meth c prog_5_method_13_code "ContentLibrary$Picture" 2 (some .boolean) := ⟨B.exec, B.bytes, B.returns, hml, findClass_of_methodNamed B.named, fun w h => atoms_spec (ws := (x_ws (⟨"ContentLibrary$Picture", "fillsMessage", "(I)Z"⟩ : MethodName) prog_5_method_13_code 2 (some .boolean))) B.pre w (List.mem_cons_of_mem _ h), B.notSynchronized, hz, hK, hG⟩
  obtain ⟨hx, hb, hr, hml, hown, hts, hlocks, hz, hK, hG⟩ := id C0
  have hS : va_S (x_A G) s.heap s.heap [] := va_S.rf
  have hl := lv_entry ([.ref (x_ad G k0), .int p1]) (n := 2) (Nat.le_of_ble_eq_true rfl)
  rw [lg_entry_eq]
  generalize (lg_sl ([.ref (x_ad G k0), .int p1]) ++ List.replicate (2 - (lg_sl ([.ref (x_ad G k0), .int p1])).length) Slot.unset).toArray = ls at hl ⊢
  have hl : lv_has ls 2 [(0, .ref (x_ad G k0)), (1, .int p1)] := hl
  rw [f_P_fillsMessage] at hf
  refine lv_iload_n hx hb d_P_fillsMessage_0 rfl (lv_at hl 1 rfl) ?_
  refine lv_iconst (v := (2 : Int32)) hx hb d_P_fillsMessage_1 (by decide) ?_
  refine lv_icmp_le (tgt := 25) hx hb d_P_fillsMessage_2 (by decide) (fun hc1 => ?_) (fun hc1 => ?_)
  · have hf := x_br_t hf hc1
    refine lv_iconst (v := (0 : Int32)) hx hb d_P_fillsMessage_25 (by decide) ?_
    obtain ⟨rfl, rfl⟩ := x_ret hf
    exact W.zret (v := (0 : Int32)) hx hb hr rfl (fun t ht hW => ⟨⟨_, _, rfl, ⟨rfl, rfl⟩, x_pw hP hD hK hG hS hz ht hW⟩, hS.F ht⟩) hS.2.2 d_P_fillsMessage_26
  · have hf := x_br_f hf hc1
    refine lv_aload_n hx hb d_P_fillsMessage_5 rfl (lv_at hl 0 rfl) ?_
    obtain ⟨r2, z2, hq3, hf⟩ := x_cl_some hf
    refine va_calli (va_runV (As := []) (rest := []) ⟨hx, hb, hml, hown, hts⟩ (c_P_width l G k0 hk0 z0 r2 z2 hq3) (cwV 0 hts (x_gV t_219 t_220 t_221 t_4 t_222) rfl rfl rfl (by decide +kernel) ⟨Nat.le_of_ble_eq_true rfl, Nat.le_of_ble_eq_true rfl⟩) ⟨x_blind _ _ _, va_recv hK hP (ci := 2) (q0 := k0) rfl (x_lk_P G _ hk0), fun U hU hW => ⟨rfl, x_pw hP hD hK hG hS hz hU hW⟩⟩ rfl rfl hl.1 rfl (lv_room (Nat.le_of_ble_eq_true rfl)) d_P_fillsMessage_6 ⟨Nat.le_of_ble_eq_true rfl, Nat.le_of_ble_eq_true rfl⟩) hS (fun q _ h => h) (fun q h => h) (fun ra u t H locs ht hvm hw hB _ _ hS => ?_)
    obtain ⟨rfl, rfl⟩ := hw
    obtain ⟨hP, hD⟩ := x_back hB ht
    obtain ⟨r4, z4, hq5, hf⟩ := x_cl_some hf
    refine va_calli (va_runS (As := [.int r2]) (rest := []) ⟨hx, hb, hml, hown, hts⟩ (c_P_isSide l G r2 z2 r4 z4 hq5) (va_cwS 1 hts (x_gS t_223 t_224 t_4 t_225) rfl rfl rfl (by decide +kernel) ⟨Nat.le_of_ble_eq_true rfl, Nat.le_of_ble_eq_true rfl⟩) ⟨x_blind _ _ _, fun U hU hW => ⟨rfl, x_pw hP hD hK hG hS hz hU hW⟩⟩ rfl rfl hl.1 rfl (lv_room (Nat.le_of_ble_eq_true rfl)) d_P_fillsMessage_9 ⟨Nat.le_of_ble_eq_true rfl, Nat.le_of_ble_eq_true rfl⟩) hS (fun q _ h => h) (fun q h => h) (fun ra u t H locs ht hvm hw hB _ _ hS => ?_)
    obtain ⟨rfl, rfl⟩ := hw
    obtain ⟨hP, hD⟩ := x_back hB ht
    refine lv_if_eq (tgt := 25) hx hb d_P_fillsMessage_12 (by decide) (fun hc6 => ?_) (fun hc6 => ?_)
    · have hf := x_br_t hf hc6
      refine lv_iconst (v := (0 : Int32)) hx hb d_P_fillsMessage_25 (by decide) ?_
      obtain ⟨rfl, rfl⟩ := x_ret hf
      exact W.zret (v := (0 : Int32)) hx hb hr rfl (fun t ht hW => ⟨⟨_, _, rfl, ⟨rfl, rfl⟩, x_pw hP hD hK hG hS hz ht hW⟩, hS.F ht⟩) hS.2.2 d_P_fillsMessage_26
    · have hf := x_br_f hf hc6
      refine lv_aload_n hx hb d_P_fillsMessage_15 rfl (lv_at hl 0 rfl) ?_
      obtain ⟨r7, z7, hq8, hf⟩ := x_cl_some hf
      refine va_calli (va_runV (As := []) (rest := []) ⟨hx, hb, hml, hown, hts⟩ (c_P_height l G k0 hk0 z4 r7 z7 hq8) (cwV 0 hts (x_gV t_226 t_227 t_228 t_4 t_229) rfl rfl rfl (by decide +kernel) ⟨Nat.le_of_ble_eq_true rfl, Nat.le_of_ble_eq_true rfl⟩) ⟨x_blind _ _ _, va_recv hK hP (ci := 2) (q0 := k0) rfl (x_lk_P G _ hk0), fun U hU hW => ⟨rfl, x_pw hP hD hK hG hS hz hU hW⟩⟩ rfl rfl hl.1 rfl (lv_room (Nat.le_of_ble_eq_true rfl)) d_P_fillsMessage_16 ⟨Nat.le_of_ble_eq_true rfl, Nat.le_of_ble_eq_true rfl⟩) hS (fun q _ h => h) (fun q h => h) (fun ra u t H locs ht hvm hw hB _ _ hS => ?_)
      obtain ⟨rfl, rfl⟩ := hw
      obtain ⟨hP, hD⟩ := x_back hB ht
      obtain ⟨r9, z9, hq10, hf⟩ := x_cl_some hf
      refine va_calli (va_runS (As := [.int r7]) (rest := []) ⟨hx, hb, hml, hown, hts⟩ (c_P_isSide l G r7 z7 r9 z9 hq10) (va_cwS 1 hts (x_gS t_223 t_224 t_4 t_225) rfl rfl rfl (by decide +kernel) ⟨Nat.le_of_ble_eq_true rfl, Nat.le_of_ble_eq_true rfl⟩) ⟨x_blind _ _ _, fun U hU hW => ⟨rfl, x_pw hP hD hK hG hS hz hU hW⟩⟩ rfl rfl hl.1 rfl (lv_room (Nat.le_of_ble_eq_true rfl)) d_P_fillsMessage_19 ⟨Nat.le_of_ble_eq_true rfl, Nat.le_of_ble_eq_true rfl⟩) hS (fun q _ h => h) (fun q h => h) (fun ra u t H locs ht hvm hw hB _ _ hS => ?_)
      obtain ⟨rfl, rfl⟩ := hw
      obtain ⟨hP, hD⟩ := x_back hB ht
      refine lv_if_ne (tgt := 27) hx hb d_P_fillsMessage_22 (by decide) (fun hc11 => ?_) (fun hc11 => ?_)
      · have hf := x_br_f hf hc11
        refine lv_aload_n hx hb d_P_fillsMessage_27 rfl (lv_at hl 0 rfl) ?_
        refine lv_iload_n hx hb d_P_fillsMessage_28 rfl (lv_at hl 1 rfl) ?_
        refine lv_iconst (v := (2 : Int32)) hx hb d_P_fillsMessage_29 (by decide) ?_
        refine lv_isub hx hb d_P_fillsMessage_30 ?_
        refine va_put (D := x_D G) (ci := 2) (v := .int (p1 - (2 : Int32))) (ty := .int) (C := "ContentLibrary$Picture") (T := x_TP) (N := 3) hx hb hts x_inP x_tyP x_tyP_ok x_nmP hown hK hP hD hS k0 (x_lk_P G _ hk0) rfl 2 (by decide) (hts _ t_71) (fun _ h9 => h9) rfl (by decide +kernel) rfl rfl (Nat.le_of_ble_eq_true rfl) d_P_fillsMessage_31 (fun H locs hP hD hS => ?_)
        rw [x_st_P2 G _ hk0] at hP hD
        refine lv_aload_n hx hb d_P_fillsMessage_34 rfl (lv_at hl 0 rfl) ?_
        obtain ⟨r12, z12, hq13, hf⟩ := x_cl_some hf
        refine va_calli (va_runV (As := []) (rest := []) ⟨hx, hb, hml, hown, hts⟩ (c_P_isWhole l G k0 hk0 (x_put z9 k0 2 (p1 - (2 : Int32))) r12 z12 hq13) (cwV 0 hts (x_gV t_230 t_231 t_232 t_4 t_233) rfl rfl rfl (by decide +kernel) ⟨Nat.le_of_ble_eq_true rfl, Nat.le_of_ble_eq_true rfl⟩) ⟨x_blind _ _ _, va_recv hK hP (ci := 2) (q0 := k0) rfl (x_lk_P G _ hk0), fun U hU hW => ⟨rfl, x_pw hP hD hK hG hS hz hU hW⟩⟩ rfl rfl hl.1 rfl (lv_room (Nat.le_of_ble_eq_true rfl)) d_P_fillsMessage_35 ⟨Nat.le_of_ble_eq_true rfl, Nat.le_of_ble_eq_true rfl⟩) hS (fun q _ h => h) (fun q h => h) (fun ra u t H locs ht hvm hw hB _ _ hS => ?_)
        obtain ⟨rfl, rfl⟩ := hw
        obtain ⟨hP, hD⟩ := x_back hB ht
        obtain ⟨hbo, hf⟩ := x_ckb_some hf
        obtain ⟨rfl, rfl⟩ := x_ret hf
        exact W.zret (v := r12) hx hb hr (x_nb hbo) (fun t ht hW => ⟨⟨_, _, rfl, ⟨rfl, rfl⟩, x_pw hP hD hK hG hS hz ht hW⟩, hS.F ht⟩) hS.2.2 d_P_fillsMessage_38
      · have hf := x_br_t hf hc11
        refine lv_iconst (v := (0 : Int32)) hx hb d_P_fillsMessage_25 (by decide) ?_
        obtain ⟨rfl, rfl⟩ := x_ret hf
        exact W.zret (v := (0 : Int32)) hx hb hr rfl (fun t ht hW => ⟨⟨_, _, rfl, ⟨rfl, rfl⟩, x_pw hP hD hK hG hS hz ht hW⟩, hS.F ht⟩) hS.2.2 d_P_fillsMessage_26
abbrev rm_P_printBits : Room := { frames := 2, cells := 0, slots := 0, locals := 42 }
set_option maxHeartbeats 4000000 in
set_option maxRecDepth 100000 in
theorem w_P_printBits_101 (l : Launch) (G : x_G) {p : Program} {e : Env} {s : State} {m : MethodId} {args : Array Value} {below : List Frame} {meth : Method} {c : Code} (C0 : x_Ctx G p s m args meth c prog_5_method_14_code "ContentLibrary$Picture" 7 (some .long)) (r : Int64) (zo : x_St) : ∀ (a2 : Int64) (z0 : x_St), f_P_printBits_101 (x_n G) a2 z0 = some (r, zo) → ∀ (H : Heap) (locs : List Loc) (ls : Array Slot), va_P (x_D G) vwCl (x_Wd G z0) H → va_D (x_A G) (x_Wd G z0) → va_S (x_A G) s.heap H locs → lv_has ls 7 [(2, .long a2)] → W p l e rm_P_printBits s m args below meth c H locs 0 0 (MQ below (va_Ql (fun a u => r = a ∧ zo = u) (x_PW G) (x_A G)) args s 0 0 (x_A G)) (F0 m 101 ls []) := by
  obtain ⟨hx, hb, hr, hml, hown, hts, hlocks, hz, hK, hG⟩ := id C0
  intro a2 z0 hf H locs ls hP hD hS hl
  rw [f_P_printBits_101] at hf
  refine lv_lload_n hx hb d_P_printBits_101 rfl (lv_at hl 0 rfl) ?_
  obtain ⟨rfl, rfl⟩ := x_ret hf
  exact W.lret (v := a2) hx hb hr (fun t ht hW => ⟨⟨_, _, rfl, ⟨rfl, rfl⟩, x_pw hP hD hK hG hS hz ht hW⟩, hS.F ht⟩) hS.2.2 d_P_printBits_102
set_option maxHeartbeats 4000000 in
set_option maxRecDepth 100000 in
theorem w_P_printBits_34 (l : Launch) (G : x_G) {p : Program} {e : Env} {s : State} {m : MethodId} {args : Array Value} {below : List Frame} {meth : Method} {c : Code} (C0 : x_Ctx G p s m args meth c prog_5_method_14_code "ContentLibrary$Picture" 7 (some .long)) (r : Int64) (zo : x_St) : ∀ (fu : Nat), ∀ (a0 : Nat) (ha0 : x_isP a0 = true) (a1 : Int32) (a2 : Int64) (a4 : Int32) (z0 : x_St), f_P_printBits_34 (x_n G) fu a0 a1 a2 a4 z0 = some (r, zo) → ∀ (H : Heap) (locs : List Loc) (ls : Array Slot), va_P (x_D G) vwCl (x_Wd G z0) H → va_D (x_A G) (x_Wd G z0) → va_S (x_A G) s.heap H locs → lv_has ls 7 [(0, .ref (x_ad G a0)), (1, .int a1), (2, .long a2), (4, .int a4)] → W p l e rm_P_printBits s m args below meth c H locs 0 0 (MQ below (va_Ql (fun a u => r = a ∧ zo = u) (x_PW G) (x_A G)) args s 0 0 (x_A G)) (F0 m 34 ls []) := by
  obtain ⟨hx, hb, hr, hml, hown, hts, hlocks, hz, hK, hG⟩ := id C0
  intro fu
  induction fu with
  | zero =>
    intro a0 ha0 a1 a2 a4 z0 hf
    rw [f_P_printBits_34] at hf
    cases hf
  | succ fu ih =>
    intro a0 ha0 a1 a2 a4 z0 hf H locs ls hP hD hS hl
    rw [f_P_printBits_34] at hf
    refine lv_iload hx hb d_P_printBits_34 (lv_at hl 3 rfl) ?_
    refine lv_bipush (v := (64 : Int32)) hx hb d_P_printBits_36 (by decide) ?_
    refine lv_icmp_ge (tgt := 101) hx hb d_P_printBits_38 (by decide) (fun hc1 => ?_) (fun hc1 => ?_)
    · have hf := x_br_t hf hc1
      exact w_P_printBits_101 l G C0 r zo a2 z0 hf _ _ _ hP hD hS (lv_sub hl [2] rfl)
    · have hf := x_br_f hf hc1
      refine lv_iload hx hb d_P_printBits_41 (lv_at hl 3 rfl) ?_
      refine lv_bipush (v := (8 : Int32)) hx hb d_P_printBits_43 (by decide) ?_
      refine lv_irem hx hb d_P_printBits_45 (by decide) ?_
      refine lv_aload_n hx hb d_P_printBits_46 rfl (lv_at hl 0 rfl) ?_
      obtain ⟨r2, z2, hq3, hf⟩ := x_cl_some hf
      refine va_calli (va_runV (As := []) (rest := [.int (a4 - a4 / (8 : Int32) * (8 : Int32))]) ⟨hx, hb, hml, hown, hts⟩ (c_P_width l G a0 ha0 z0 r2 z2 hq3) (cwV 0 hts (x_gV t_219 t_220 t_221 t_4 t_222) rfl rfl rfl (by decide +kernel) ⟨Nat.le_of_ble_eq_true rfl, Nat.le_of_ble_eq_true rfl⟩) ⟨x_blind _ _ _, va_recv hK hP (ci := 2) (q0 := a0) rfl (x_lk_P G _ ha0), fun U hU hW => ⟨rfl, x_pw hP hD hK hG hS hz hU hW⟩⟩ rfl rfl hl.1 rfl (lv_room (Nat.le_of_ble_eq_true rfl)) d_P_printBits_47 ⟨Nat.le_of_ble_eq_true rfl, Nat.le_of_ble_eq_true rfl⟩) hS (fun q _ h => h) (fun q h => h) (fun ra u t H locs ht hvm hw hB _ _ hS => ?_)
      obtain ⟨rfl, rfl⟩ := hw
      obtain ⟨hP, hD⟩ := x_back hB ht
      refine lv_imul hx hb d_P_printBits_50 ?_
      refine lv_bipush (v := (8 : Int32)) hx hb d_P_printBits_51 (by decide) ?_
      refine lv_idiv hx hb d_P_printBits_53 (by decide) ?_
      refine lv_istore (lv' := [(5, .int (((a4 - a4 / (8 : Int32) * (8 : Int32)) * r2) / (8 : Int32))), (0, .ref (x_ad G a0)), (1, .int a1), (2, .long a2), (4, .int a4)]) hx hb d_P_printBits_54 hl (by decide) rfl (fun ls hl => ?_)
      refine lv_iload hx hb d_P_printBits_56 (lv_at hl 4 rfl) ?_
      refine lv_bipush (v := (8 : Int32)) hx hb d_P_printBits_58 (by decide) ?_
      refine lv_idiv hx hb d_P_printBits_60 (by decide) ?_
      refine lv_aload_n hx hb d_P_printBits_61 rfl (lv_at hl 1 rfl) ?_
      obtain ⟨r4, z4, hq5, hf⟩ := x_cl_some hf
      refine va_calli (va_runV (As := []) (rest := [.int (a4 / (8 : Int32))]) ⟨hx, hb, hml, hown, hts⟩ (c_P_height l G a0 ha0 z2 r4 z4 hq5) (cwV 0 hts (x_gV t_226 t_227 t_228 t_4 t_229) rfl rfl rfl (by decide +kernel) ⟨Nat.le_of_ble_eq_true rfl, Nat.le_of_ble_eq_true rfl⟩) ⟨x_blind _ _ _, va_recv hK hP (ci := 2) (q0 := a0) rfl (x_lk_P G _ ha0), fun U hU hW => ⟨rfl, x_pw hP hD hK hG hS hz hU hW⟩⟩ rfl rfl hl.1 rfl (lv_room (Nat.le_of_ble_eq_true rfl)) d_P_printBits_62 ⟨Nat.le_of_ble_eq_true rfl, Nat.le_of_ble_eq_true rfl⟩) hS (fun q _ h => h) (fun q h => h) (fun ra u t H locs ht hvm hw hB _ _ hS => ?_)
      obtain ⟨rfl, rfl⟩ := hw
      obtain ⟨hP, hD⟩ := x_back hB ht
      refine lv_imul hx hb d_P_printBits_65 ?_
      refine lv_bipush (v := (8 : Int32)) hx hb d_P_printBits_66 (by decide) ?_
      refine lv_idiv hx hb d_P_printBits_68 (by decide) ?_
      refine lv_istore (lv' := [(6, .int (((a4 / (8 : Int32)) * r4) / (8 : Int32))), (5, .int (((a4 - a4 / (8 : Int32) * (8 : Int32)) * r2) / (8 : Int32))), (0, .ref (x_ad G a0)), (1, .int a1), (2, .long a2), (4, .int a4)]) hx hb d_P_printBits_69 hl (by decide) rfl (fun ls hl => ?_)
      refine lv_aload_n hx hb d_P_printBits_71 rfl (lv_at hl 2 rfl) ?_
      refine lv_iload hx hb d_P_printBits_72 (lv_at hl 1 rfl) ?_
      refine lv_iload hx hb d_P_printBits_74 (lv_at hl 0 rfl) ?_
      obtain ⟨r6, z6, hq7, hf⟩ := x_cl_some hf
      refine va_calli (va_runV (As := [.int (((a4 - a4 / (8 : Int32) * (8 : Int32)) * r2) / (8 : Int32)), .int (((a4 / (8 : Int32)) * r4) / (8 : Int32))]) (rest := []) ⟨hx, hb, hml, hown, hts⟩ (c_P_at l G a0 ha0 (((a4 - a4 / (8 : Int32) * (8 : Int32)) * r2) / (8 : Int32)) (((a4 / (8 : Int32)) * r4) / (8 : Int32)) z4 r6 z6 hq7) (cwV 2 hts (x_gV t_289 t_290 t_291 t_4 t_292) rfl rfl rfl (by decide +kernel) ⟨Nat.le_of_ble_eq_true rfl, Nat.le_of_ble_eq_true rfl⟩) ⟨x_blind _ _ _, va_recv hK hP (ci := 2) (q0 := a0) rfl (x_lk_P G _ ha0), fun U hU hW => ⟨rfl, x_pw hP hD hK hG hS hz hU hW⟩⟩ rfl rfl hl.1 rfl (lv_room (Nat.le_of_ble_eq_true rfl)) d_P_printBits_76 ⟨Nat.le_of_ble_eq_true rfl, Nat.le_of_ble_eq_true rfl⟩) hS (fun q _ h => h) (fun q h => h) (fun ra u t H locs ht hvm hw hB _ _ hS => ?_)
      obtain ⟨rfl, rfl⟩ := hw
      obtain ⟨hP, hD⟩ := x_back hB ht
      refine lv_aload_n hx hb d_P_printBits_79 rfl (lv_at hl 2 rfl) ?_
      refine va_get (D := x_D G) (ci := 2) (v := .int (z6.1 a0 2)) (C := "ContentLibrary$Picture") (T := x_TP) (N := 3) hx hb hts x_inP hown hK hP a0 (x_lk_P G _ ha0) rfl 2 (by decide) (hts _ t_71) (fun _ h9 => h9) rfl d_P_printBits_80 ?_
      refine lv_imul hx hb d_P_printBits_83 ?_
      refine lv_iload_n hx hb d_P_printBits_84 rfl (lv_at hl 3 rfl) ?_
      refine lv_icmp_le (tgt := 95) hx hb d_P_printBits_85 (by decide) (fun hc8 => ?_) (fun hc8 => ?_)
      · have hf := x_br_t hf hc8
        refine lv_iinc (v := (a4 + (1 : Int32))) (lv' := [(4, .int (a4 + (1 : Int32))), (6, .int (((a4 / (8 : Int32)) * r4) / (8 : Int32))), (5, .int (((a4 - a4 / (8 : Int32) * (8 : Int32)) * r2) / (8 : Int32))), (0, .ref (x_ad G a0)), (1, .int a1), (2, .long a2)]) hx hb d_P_printBits_95 hl (k := 5) rfl rfl (by decide) rfl (fun ls hl => ?_)
        refine lv_goto (tgt := 34) hx hb d_P_printBits_98 (by decide) ?_
        exact ih a0 ha0 a1 a2 (a4 + (1 : Int32)) z6 hf _ _ _ hP hD hS (lv_sub hl [3, 4, 5, 0] rfl)
      · have hf := x_br_f hf hc8
        refine lv_lload_n hx hb d_P_printBits_88 rfl (lv_at hl 4 rfl) ?_
        refine lv_lconst (v := (1 : Int64)) hx hb d_P_printBits_89 (by decide) ?_
        refine lv_iload hx hb d_P_printBits_90 (lv_at hl 5 rfl) ?_
        refine lv_lshl (v := (x_lshl (1 : Int64) a4)) hx hb d_P_printBits_92 rfl ?_
        refine lv_lor hx hb d_P_printBits_93 ?_
        refine lv_lstore_n (lv' := [(2, .long (a2 ||| (x_lshl (1 : Int64) a4))), (6, .int (((a4 / (8 : Int32)) * r4) / (8 : Int32))), (5, .int (((a4 - a4 / (8 : Int32) * (8 : Int32)) * r2) / (8 : Int32))), (0, .ref (x_ad G a0)), (1, .int a1), (4, .int a4)]) hx hb d_P_printBits_94 rfl hl (by decide) rfl (fun ls hl => ?_)
        refine lv_iinc (v := (a4 + (1 : Int32))) (lv' := [(4, .int (a4 + (1 : Int32))), (2, .long (a2 ||| (x_lshl (1 : Int64) a4))), (6, .int (((a4 / (8 : Int32)) * r4) / (8 : Int32))), (5, .int (((a4 - a4 / (8 : Int32) * (8 : Int32)) * r2) / (8 : Int32))), (0, .ref (x_ad G a0)), (1, .int a1)]) hx hb d_P_printBits_95 hl (k := 5) rfl rfl (by decide) rfl (fun ls hl => ?_)
        refine lv_goto (tgt := 34) hx hb d_P_printBits_98 (by decide) ?_
        exact ih a0 ha0 a1 (a2 ||| (x_lshl (1 : Int64) a4)) (a4 + (1 : Int32)) z6 hf _ _ _ hP hD hS (lv_sub hl [4, 5, 1, 0] rfl)
set_option maxHeartbeats 4000000 in
set_option maxRecDepth 100000 in
theorem w_P_printBits_29 (l : Launch) (G : x_G) {p : Program} {e : Env} {s : State} {m : MethodId} {args : Array Value} {below : List Frame} {meth : Method} {c : Code} (C0 : x_Ctx G p s m args meth c prog_5_method_14_code "ContentLibrary$Picture" 7 (some .long)) (r : Int64) (zo : x_St) : ∀ (a0 : Nat) (ha0 : x_isP a0 = true) (a1 : Int32) (z0 : x_St), f_P_printBits_29 (x_n G) a0 a1 z0 = some (r, zo) → ∀ (H : Heap) (locs : List Loc) (ls : Array Slot), va_P (x_D G) vwCl (x_Wd G z0) H → va_D (x_A G) (x_Wd G z0) → va_S (x_A G) s.heap H locs → lv_has ls 7 [(0, .ref (x_ad G a0)), (1, .int a1)] → W p l e rm_P_printBits s m args below meth c H locs 0 0 (MQ below (va_Ql (fun a u => r = a ∧ zo = u) (x_PW G) (x_A G)) args s 0 0 (x_A G)) (F0 m 29 ls []) := by
  obtain ⟨hx, hb, hr, hml, hown, hts, hlocks, hz, hK, hG⟩ := id C0
  intro a0 ha0 a1 z0 hf H locs ls hP hD hS hl
  rw [f_P_printBits_29] at hf
  refine lv_lconst (v := (0 : Int64)) hx hb d_P_printBits_29 (by decide) ?_
  refine lv_lstore_n (lv' := [(2, .long (0 : Int64)), (0, .ref (x_ad G a0)), (1, .int a1)]) hx hb d_P_printBits_30 rfl hl (by decide) rfl (fun ls hl => ?_)
  refine lv_iconst (v := (0 : Int32)) hx hb d_P_printBits_31 (by decide) ?_
  refine lv_istore (lv' := [(4, .int (0 : Int32)), (2, .long (0 : Int64)), (0, .ref (x_ad G a0)), (1, .int a1)]) hx hb d_P_printBits_32 hl (by decide) rfl (fun ls hl => ?_)
  exact w_P_printBits_34 l G C0 r zo x_FU a0 ha0 a1 (0 : Int64) (0 : Int32) z0 hf _ _ _ hP hD hS (lv_sub hl [2, 3, 1, 0] rfl)
set_option maxHeartbeats 4000000 in
set_option maxRecDepth 100000 in
theorem w_P_printBits_4 (l : Launch) (G : x_G) {p : Program} {e : Env} {s : State} {m : MethodId} {args : Array Value} {below : List Frame} {meth : Method} {c : Code} (C0 : x_Ctx G p s m args meth c prog_5_method_14_code "ContentLibrary$Picture" 7 (some .long)) (r : Int64) (zo : x_St) : ∀ (fu : Nat), ∀ (a0 : Nat) (ha0 : x_isP a0 = true) (a1 : Int32) (a2 : Int32) (z0 : x_St), f_P_printBits_4 (x_n G) fu a0 a1 a2 z0 = some (r, zo) → ∀ (H : Heap) (locs : List Loc) (ls : Array Slot), va_P (x_D G) vwCl (x_Wd G z0) H → va_D (x_A G) (x_Wd G z0) → va_S (x_A G) s.heap H locs → lv_has ls 7 [(0, .ref (x_ad G a0)), (1, .int a1), (2, .int a2)] → W p l e rm_P_printBits s m args below meth c H locs 0 0 (MQ below (va_Ql (fun a u => r = a ∧ zo = u) (x_PW G) (x_A G)) args s 0 0 (x_A G)) (F0 m 4 ls []) := by
  obtain ⟨hx, hb, hr, hml, hown, hts, hlocks, hz, hK, hG⟩ := id C0
  intro fu
  induction fu with
  | zero =>
    intro a0 ha0 a1 a2 z0 hf
    rw [f_P_printBits_4] at hf
    cases hf
  | succ fu ih =>
    intro a0 ha0 a1 a2 z0 hf H locs ls hP hD hS hl
    rw [f_P_printBits_4] at hf
    refine lv_iload_n hx hb d_P_printBits_4 rfl (lv_at hl 2 rfl) ?_
    refine lv_aload_n hx hb d_P_printBits_5 rfl (lv_at hl 0 rfl) ?_
    refine va_get (D := x_D G) (ci := 2) (v := .int (z0.1 a0 2)) (C := "ContentLibrary$Picture") (T := x_TP) (N := 3) hx hb hts x_inP hown hK hP a0 (x_lk_P G _ ha0) rfl 2 (by decide) (hts _ t_71) (fun _ h9 => h9) rfl d_P_printBits_6 ?_
    refine lv_icmp_ge (tgt := 29) hx hb d_P_printBits_9 (by decide) (fun hc9 => ?_) (fun hc9 => ?_)
    · have hf := x_br_t hf hc9
      exact w_P_printBits_29 l G C0 r zo a0 ha0 a1 z0 hf _ _ _ hP hD hS (lv_sub hl [0, 1] rfl)
    · have hf := x_br_f hf hc9
      refine lv_iload_n hx hb d_P_printBits_12 rfl (lv_at hl 1 rfl) ?_
      refine lv_aload_n hx hb d_P_printBits_13 rfl (lv_at hl 0 rfl) ?_
      refine va_get (D := x_D G) (ci := 2) (v := .ref (x_ad G (a0 + 1))) (C := "ContentLibrary$Picture") (T := x_TP) (N := 3) hx hb hts x_inP hown hK hP a0 (x_lk_P G _ ha0) rfl 1 (by decide) (hts _ t_68) (fun _ h9 => h9) rfl d_P_printBits_14 ?_
      refine lv_iconst (v := (2 : Int32)) hx hb d_P_printBits_17 (by decide) ?_
      refine lv_iload_n hx hb d_P_printBits_18 rfl (lv_at hl 2 rfl) ?_
      refine lv_iadd hx hb d_P_printBits_19 ?_
      obtain ⟨hin10, hf⟩ := x_ck_some hf
      refine va_iald hx hb hK hP (a0 + 1) 0 (x_lk_A G _ (x_P_A ha0)) rfl hin10 d_P_printBits_20 ?_
      refine lv_iadd hx hb d_P_printBits_21 ?_
      refine lv_istore_n (lv' := [(1, .int (a1 + (z0.1 (a0 + 1) (((2 : Int32) + a2)).toNatClampNeg))), (0, .ref (x_ad G a0)), (2, .int a2)]) hx hb d_P_printBits_22 rfl hl (by decide) rfl (fun ls hl => ?_)
      refine lv_iinc (v := (a2 + (1 : Int32))) (lv' := [(2, .int (a2 + (1 : Int32))), (1, .int (a1 + (z0.1 (a0 + 1) (((2 : Int32) + a2)).toNatClampNeg))), (0, .ref (x_ad G a0))]) hx hb d_P_printBits_23 hl (k := 2) rfl rfl (by decide) rfl (fun ls hl => ?_)
      refine lv_goto (tgt := 4) hx hb d_P_printBits_26 (by decide) ?_
      exact ih a0 ha0 (a1 + (z0.1 (a0 + 1) (((2 : Int32) + a2)).toNatClampNeg)) (a2 + (1 : Int32)) z0 hf _ _ _ hP hD hS (lv_sub hl [2, 1, 0] rfl)
set_option maxHeartbeats 4000000 in
set_option maxRecDepth 100000 in
theorem c_P_printBits (l : Launch) (G : x_G) (k0 : Nat) (hk0 : x_isP k0 = true) (z0 : x_St) (r : Int64) (zo : x_St) (hf : f_P_printBits (x_n G) k0 z0 = some (r, zo)) : Met l (⟨"ContentLibrary$Picture", "printBits", "()J"⟩ : MethodName) (x_ws (⟨"ContentLibrary$Picture", "printBits", "()J"⟩ : MethodName) prog_5_method_14_code 7 (some .long)) rm_P_printBits (va_Pc [.ref (x_ad G k0)] (x_PW G z0)) (va_Ql (fun a u => r = a ∧ zo = u) (x_PW G) (x_A G)) 0 0 (x_A G) := by
  refine Met.ofW (cc := prog_5_method_14_code) (maxL := 7) (ret := (some .long)) (by decide) rfl ?_
  intro p e s m args below meth c s₁ B hml hv
  obtain ⟨rfl, hz, hP, hD, hK, hG⟩ := hv
  have C0 : x_Ctx G p s m _ meth c prog_5_method_14_code "ContentLibrary$Picture" 7 (some .long) := ⟨B.exec, B.bytes, B.returns, hml, findClass_of_methodNamed B.named, fun w h => atoms_spec (ws := (x_ws (⟨"ContentLibrary$Picture", "printBits", "()J"⟩ : MethodName) prog_5_method_14_code 7 (some .long))) B.pre w (List.mem_cons_of_mem _ h), B.notSynchronized, hz, hK, hG⟩
  obtain ⟨hx, hb, hr, hml, hown, hts, hlocks, hz, hK, hG⟩ := id C0
  have hS : va_S (x_A G) s.heap s.heap [] := va_S.rf
  have hl := lv_entry ([.ref (x_ad G k0)]) (n := 7) (Nat.le_of_ble_eq_true rfl)
  rw [lg_entry_eq]
  generalize (lg_sl ([.ref (x_ad G k0)]) ++ List.replicate (7 - (lg_sl ([.ref (x_ad G k0)])).length) Slot.unset).toArray = ls at hl ⊢
  have hl : lv_has ls 7 [(0, .ref (x_ad G k0))] := hl
  rw [f_P_printBits] at hf
  refine lv_iconst (v := (0 : Int32)) hx hb d_P_printBits_0 (by decide) ?_
  refine lv_istore_n (lv' := [(1, .int (0 : Int32)), (0, .ref (x_ad G k0))]) hx hb d_P_printBits_1 rfl hl (by decide) rfl (fun ls hl => ?_)
  refine lv_iconst (v := (0 : Int32)) hx hb d_P_printBits_2 (by decide) ?_
  refine lv_istore_n (lv' := [(2, .int (0 : Int32)), (1, .int (0 : Int32)), (0, .ref (x_ad G k0))]) hx hb d_P_printBits_3 rfl hl (by decide) rfl (fun ls hl => ?_)
  exact w_P_printBits_4 l G C0 r zo x_FU k0 hk0 (0 : Int32) (0 : Int32) z0 hf _ _ _ hP hD hS (lv_sub hl [2, 1, 0] rfl)
end
section
theorem t_3 : Cond.initialized "ContentLibrary$Blocks" ∈ x_big := x_bt 3 (by decide +kernel) (by decide +kernel)
theorem t_15 : Cond.initialized "java/util/Arrays" ∈ x_big := x_bt 15 (by decide +kernel) (by decide +kernel)
theorem t_17 : Cond.initialized "java/lang/Integer" ∈ x_big := x_bt 17 (by decide +kernel) (by decide +kernel)
theorem t_39 : Cond.fieldLink "ContentLibrary$Blocks" 11 "ContentLibrary$Blocks" "count" "I" ∈ x_big := x_bt 39 (by decide +kernel) (by decide +kernel)
theorem t_41 : Cond.fieldLink "ContentLibrary$Blocks" 15 "ContentLibrary$Blocks" "fuse" "I" ∈ x_big := x_bt 41 (by decide +kernel) (by decide +kernel)
theorem t_43 : Cond.fieldLink "ContentLibrary$Blocks" 18 "ContentLibrary$Blocks" "cut" "Z" ∈ x_big := x_bt 43 (by decide +kernel) (by decide +kernel)
theorem t_45 : Cond.fieldLink "ContentLibrary$Blocks" 22 "ContentLibrary$Blocks" "bytes" "[I" ∈ x_big := x_bt 45 (by decide +kernel) (by decide +kernel)
theorem t_46 : Cond.fieldLink "ContentLibrary$Blocks" 26 "ContentLibrary$Blocks" "image" "[I" ∈ x_big := x_bt 46 (by decide +kernel) (by decide +kernel)
theorem t_70 : Cond.fieldLink "ContentLibrary$Blocks" 78 "ContentLibrary$Picture" "message" "[I" ∈ x_big := x_bt 70 (by decide +kernel) (by decide +kernel)
theorem t_174 : Cond.methodLink "ContentLibrary$Blocks" 29 (⟨"ContentLibrary$Blocks", "get", "(II)I"⟩ : MethodName) ∈ x_big := x_bt 174 (by decide +kernel) (by decide +kernel)
theorem t_175 : Cond.instanceMethod (⟨"ContentLibrary$Blocks", "get", "(II)I"⟩ : MethodName) ∈ x_big := x_bt 175 (by decide +kernel) (by decide +kernel)
theorem t_176 : Cond.selects "ContentLibrary$Blocks" (⟨"ContentLibrary$Blocks", "get", "(II)I"⟩ : MethodName) (⟨"ContentLibrary$Blocks", "get", "(II)I"⟩ : MethodName) ∈ x_big := x_bt 176 (by decide +kernel) (by decide +kernel)
theorem t_177 : Cond.code (⟨"ContentLibrary$Blocks", "get", "(II)I"⟩ : MethodName) prog_2_method_3_code 3 (some .int) ∈ x_big := x_bt 177 (by decide +kernel) (by decide +kernel)
theorem t_178 : Cond.methodLink "ContentLibrary$Blocks" 50 (⟨"ContentLibrary$Blocks", "isGood", "(I)Z"⟩ : MethodName) ∈ x_big := x_bt 178 (by decide +kernel) (by decide +kernel)
theorem t_179 : Cond.instanceMethod (⟨"ContentLibrary$Blocks", "isGood", "(I)Z"⟩ : MethodName) ∈ x_big := x_bt 179 (by decide +kernel) (by decide +kernel)
theorem t_180 : Cond.selects "ContentLibrary$Blocks" (⟨"ContentLibrary$Blocks", "isGood", "(I)Z"⟩ : MethodName) (⟨"ContentLibrary$Blocks", "isGood", "(I)Z"⟩ : MethodName) ∈ x_big := x_bt 180 (by decide +kernel) (by decide +kernel)
theorem t_181 : Cond.code (⟨"ContentLibrary$Blocks", "isGood", "(I)Z"⟩ : MethodName) prog_2_method_6_code 3 (some .boolean) ∈ x_big := x_bt 181 (by decide +kernel) (by decide +kernel)
theorem t_182 : Cond.methodLink "ContentLibrary$Blocks" 33 (⟨"ContentLibrary$Blocks", "hasRightSum", "(I)Z"⟩ : MethodName) ∈ x_big := x_bt 182 (by decide +kernel) (by decide +kernel)
theorem t_184 : Cond.instanceMethod (⟨"ContentLibrary$Blocks", "hasRightSum", "(I)Z"⟩ : MethodName) ∈ x_big := x_bt 184 (by decide +kernel) (by decide +kernel)
theorem t_185 : Cond.code (⟨"ContentLibrary$Blocks", "hasRightSum", "(I)Z"⟩ : MethodName) prog_2_method_7_code 4 (some .boolean) ∈ x_big := x_bt 185 (by decide +kernel) (by decide +kernel)
theorem t_186 : Cond.methodLink "ContentLibrary$Blocks" 37 (⟨"ContentLibrary$Blocks", "sumOf", "(I[II)I"⟩ : MethodName) ∈ x_big := x_bt 186 (by decide +kernel) (by decide +kernel)
theorem t_187 : Cond.static (⟨"ContentLibrary$Blocks", "sumOf", "(I[II)I"⟩ : MethodName) ∈ x_big := x_bt 187 (by decide +kernel) (by decide +kernel)
theorem t_188 : Cond.code (⟨"ContentLibrary$Blocks", "sumOf", "(I[II)I"⟩ : MethodName) prog_2_method_8_code 5 (some .int) ∈ x_big := x_bt 188 (by decide +kernel) (by decide +kernel)
theorem t_189 : Cond.methodLink "ContentLibrary$Blocks" 44 (⟨"java/lang/Integer", "rotateLeft", "(II)I"⟩ : MethodName) ∈ x_big := x_bt 189 (by decide +kernel) (by decide +kernel)
theorem t_190 : Cond.static (⟨"java/lang/Integer", "rotateLeft", "(II)I"⟩ : MethodName) ∈ x_big := x_bt 190 (by decide +kernel) (by decide +kernel)
theorem t_191 : Cond.code (⟨"java/lang/Integer", "rotateLeft", "(II)I"⟩ : MethodName) prog_12_method_50_code 2 (some .int) ∈ x_big := x_bt 191 (by decide +kernel) (by decide +kernel)
theorem t_192 : Cond.constant "ContentLibrary$Blocks" 49 374761393 ∈ x_big := x_bt 192 (by decide +kernel) (by decide +kernel)
theorem t_193 : Cond.methodLink "ContentLibrary$Blocks" 41 (⟨"ContentLibrary$Blocks", "byteOfSum", "(II)I"⟩ : MethodName) ∈ x_big := x_bt 193 (by decide +kernel) (by decide +kernel)
theorem t_194 : Cond.static (⟨"ContentLibrary$Blocks", "byteOfSum", "(II)I"⟩ : MethodName) ∈ x_big := x_bt 194 (by decide +kernel) (by decide +kernel)
theorem t_195 : Cond.code (⟨"ContentLibrary$Blocks", "byteOfSum", "(II)I"⟩ : MethodName) prog_2_method_9_code 2 (some .int) ∈ x_big := x_bt 195 (by decide +kernel) (by decide +kernel)
theorem t_206 : Cond.static (⟨"ContentLibrary$Blocks", "kindOf", "(I)I"⟩ : MethodName) ∈ x_big := x_bt 206 (by decide +kernel) (by decide +kernel)
theorem t_207 : Cond.code (⟨"ContentLibrary$Blocks", "kindOf", "(I)I"⟩ : MethodName) prog_2_method_2_code 1 (some .int) ∈ x_big := x_bt 207 (by decide +kernel) (by decide +kernel)
theorem t_212 : Cond.methodLink "ContentLibrary$Blocks" 53 (⟨"java/lang/System", "arraycopy", "(Ljava/lang/Object;ILjava/lang/Object;II)V"⟩ : MethodName) ∈ x_big := x_bt 212 (by decide +kernel) (by decide +kernel)
theorem t_251 : Cond.static (⟨"java/util/Arrays", "fill", "([II)V"⟩ : MethodName) ∈ x_big := x_bt 251 (by decide +kernel) (by decide +kernel)
theorem t_252 : Cond.code (⟨"java/util/Arrays", "fill", "([II)V"⟩ : MethodName) prog_20_method_103_code 4 none ∈ x_big := x_bt 252 (by decide +kernel) (by decide +kernel)
theorem t_517 : Cond.methodLink "ContentLibrary$Blocks" 90 (⟨"ContentLibrary$Blocks", "put", "(III)Z"⟩ : MethodName) ∈ x_big := x_bt 517 (by decide +kernel) (by decide +kernel)
theorem t_519 : Cond.instanceMethod (⟨"ContentLibrary$Blocks", "put", "(III)Z"⟩ : MethodName) ∈ x_big := x_bt 519 (by decide +kernel) (by decide +kernel)
theorem t_520 : Cond.code (⟨"ContentLibrary$Blocks", "put", "(III)Z"⟩ : MethodName) prog_2_method_18_code 4 (some .boolean) ∈ x_big := x_bt 520 (by decide +kernel) (by decide +kernel)
theorem t_525 : Cond.methodLink "ContentLibrary$Blocks" 59 (⟨"ContentLibrary$Picture", "length", "()I"⟩ : MethodName) ∈ x_big := x_bt 525 (by decide +kernel) (by decide +kernel)
theorem t_526 : Cond.methodLink "ContentLibrary$Blocks" 65 (⟨"java/lang/Math", "min", "(II)I"⟩ : MethodName) ∈ x_big := x_bt 526 (by decide +kernel) (by decide +kernel)
theorem t_527 : Cond.methodLink "ContentLibrary$Blocks" 70 (⟨"ContentLibrary$Blocks", "kindOf", "(I)I"⟩ : MethodName) ∈ x_big := x_bt 527 (by decide +kernel) (by decide +kernel)
theorem t_528 : Cond.methodLink "ContentLibrary$Blocks" 74 (⟨"ContentLibrary$Blocks", "beginImage", "(IIII)V"⟩ : MethodName) ∈ x_big := x_bt 528 (by decide +kernel) (by decide +kernel)
theorem t_530 : Cond.instanceMethod (⟨"ContentLibrary$Blocks", "beginImage", "(IIII)V"⟩ : MethodName) ∈ x_big := x_bt 530 (by decide +kernel) (by decide +kernel)
theorem t_531 : Cond.code (⟨"ContentLibrary$Blocks", "beginImage", "(IIII)V"⟩ : MethodName) prog_2_method_15_code 5 none ∈ x_big := x_bt 531 (by decide +kernel) (by decide +kernel)
theorem t_532 : Cond.methodLink "ContentLibrary$Blocks" 84 (⟨"java/util/Arrays", "fill", "([II)V"⟩ : MethodName) ∈ x_big := x_bt 532 (by decide +kernel) (by decide +kernel)
theorem t_533 : Cond.methodLink "ContentLibrary$Blocks" 81 (⟨"ContentLibrary$Blocks", "writeImage", "(I)Z"⟩ : MethodName) ∈ x_big := x_bt 533 (by decide +kernel) (by decide +kernel)
theorem t_535 : Cond.instanceMethod (⟨"ContentLibrary$Blocks", "writeImage", "(I)Z"⟩ : MethodName) ∈ x_big := x_bt 535 (by decide +kernel) (by decide +kernel)
theorem t_536 : Cond.code (⟨"ContentLibrary$Blocks", "writeImage", "(I)Z"⟩ : MethodName) prog_2_method_16_code 5 (some .boolean) ∈ x_big := x_bt 536 (by decide +kernel) (by decide +kernel)
theorem sel_ContentLibrary_Blocks_beginImage : Cond.selects "ContentLibrary$Blocks" (⟨"ContentLibrary$Blocks", "beginImage", "(IIII)V"⟩ : MethodName) (⟨"ContentLibrary$Blocks", "beginImage", "(IIII)V"⟩ : MethodName) ∈ x_big := x_bs 22 (by decide +kernel) (by decide +kernel)
theorem sel_ContentLibrary_Blocks_hasRightSum : Cond.selects "ContentLibrary$Blocks" (⟨"ContentLibrary$Blocks", "hasRightSum", "(I)Z"⟩ : MethodName) (⟨"ContentLibrary$Blocks", "hasRightSum", "(I)Z"⟩ : MethodName) ∈ x_big := x_bs 2 (by decide +kernel) (by decide +kernel)
theorem sel_ContentLibrary_Blocks_put : Cond.selects "ContentLibrary$Blocks" (⟨"ContentLibrary$Blocks", "put", "(III)Z"⟩ : MethodName) (⟨"ContentLibrary$Blocks", "put", "(III)Z"⟩ : MethodName) ∈ x_big := x_bs 21 (by decide +kernel) (by decide +kernel)
theorem sel_ContentLibrary_Blocks_writeImage : Cond.selects "ContentLibrary$Blocks" (⟨"ContentLibrary$Blocks", "writeImage", "(I)Z"⟩ : MethodName) (⟨"ContentLibrary$Blocks", "writeImage", "(I)Z"⟩ : MethodName) ∈ x_big := x_bs 23 (by decide +kernel) (by decide +kernel)
theorem d_B_kindOf_0 : decode prog_2_method_2_code 0 = .ok (.iload_n 0, 1) := by decide +kernel
theorem d_B_kindOf_1 : decode prog_2_method_2_code 1 = .ok (.ifCond .ne 7, 3) := by decide +kernel
theorem d_B_kindOf_4 : decode prog_2_method_2_code 4 = .ok (.iconst 1, 1) := by decide +kernel
theorem d_B_kindOf_5 : decode prog_2_method_2_code 5 = .ok (.goto 4, 3) := by decide +kernel
theorem d_B_kindOf_9 : decode prog_2_method_2_code 9 = .ok (.ireturn, 1) := by decide +kernel
theorem d_B_kindOf_8 : decode prog_2_method_2_code 8 = .ok (.iconst 2, 1) := by decide +kernel
theorem d_B_get_0 : decode prog_2_method_3_code 0 = .ok (.aload_n 0, 1) := by decide +kernel
theorem d_B_get_1 : decode prog_2_method_3_code 1 = .ok (.getfield 22, 3) := by decide +kernel
theorem d_B_get_4 : decode prog_2_method_3_code 4 = .ok (.iload_n 1, 1) := by decide +kernel
theorem d_B_get_5 : decode prog_2_method_3_code 5 = .ok (.bipush 64, 2) := by decide +kernel
theorem d_B_get_7 : decode prog_2_method_3_code 7 = .ok (.imul, 1) := by decide +kernel
theorem d_B_get_8 : decode prog_2_method_3_code 8 = .ok (.iload_n 2, 1) := by decide +kernel
theorem d_B_get_9 : decode prog_2_method_3_code 9 = .ok (.iadd, 1) := by decide +kernel
theorem d_B_get_10 : decode prog_2_method_3_code 10 = .ok (.iaload, 1) := by decide +kernel
theorem d_B_get_11 : decode prog_2_method_3_code 11 = .ok (.ireturn, 1) := by decide +kernel
theorem d_B_turn_0 : decode prog_2_method_4_code 0 = .ok (.aload_n 0, 1) := by decide +kernel
theorem d_B_turn_1 : decode prog_2_method_4_code 1 = .ok (.getfield 22, 3) := by decide +kernel
theorem d_B_turn_4 : decode prog_2_method_4_code 4 = .ok (.iload_n 1, 1) := by decide +kernel
theorem d_B_turn_5 : decode prog_2_method_4_code 5 = .ok (.bipush 64, 2) := by decide +kernel
theorem d_B_turn_7 : decode prog_2_method_4_code 7 = .ok (.imul, 1) := by decide +kernel
theorem d_B_turn_8 : decode prog_2_method_4_code 8 = .ok (.iload_n 2, 1) := by decide +kernel
theorem d_B_turn_9 : decode prog_2_method_4_code 9 = .ok (.iadd, 1) := by decide +kernel
theorem d_B_turn_10 : decode prog_2_method_4_code 10 = .ok (.dup2, 1) := by decide +kernel
theorem d_B_turn_11 : decode prog_2_method_4_code 11 = .ok (.iaload, 1) := by decide +kernel
theorem d_B_turn_12 : decode prog_2_method_4_code 12 = .ok (.iload_n 3, 1) := by decide +kernel
theorem d_B_turn_13 : decode prog_2_method_4_code 13 = .ok (.ixor, 1) := by decide +kernel
theorem d_B_turn_14 : decode prog_2_method_4_code 14 = .ok (.iastore, 1) := by decide +kernel
theorem d_B_turn_15 : decode prog_2_method_4_code 15 = .ok (.aload_n 0, 1) := by decide +kernel
theorem d_B_turn_16 : decode prog_2_method_4_code 16 = .ok (.iload_n 1, 1) := by decide +kernel
theorem d_B_turn_17 : decode prog_2_method_4_code 17 = .ok (.iload_n 2, 1) := by decide +kernel
theorem d_B_turn_18 : decode prog_2_method_4_code 18 = .ok (.invokevirtual 29, 3) := by decide +kernel
theorem d_B_turn_21 : decode prog_2_method_4_code 21 = .ok (.ireturn, 1) := by decide +kernel
theorem d_B_isBlank_0 : decode prog_2_method_5_code 0 = .ok (.iconst 0, 1) := by decide +kernel
theorem d_B_isBlank_1 : decode prog_2_method_5_code 1 = .ok (.istore_n 2, 1) := by decide +kernel
theorem d_B_isBlank_2 : decode prog_2_method_5_code 2 = .ok (.iload_n 2, 1) := by decide +kernel
theorem d_B_isBlank_3 : decode prog_2_method_5_code 3 = .ok (.bipush 64, 2) := by decide +kernel
theorem d_B_isBlank_5 : decode prog_2_method_5_code 5 = .ok (.if_icmp .ge 20, 3) := by decide +kernel
theorem d_B_isBlank_8 : decode prog_2_method_5_code 8 = .ok (.aload_n 0, 1) := by decide +kernel
theorem d_B_isBlank_9 : decode prog_2_method_5_code 9 = .ok (.iload_n 1, 1) := by decide +kernel
theorem d_B_isBlank_10 : decode prog_2_method_5_code 10 = .ok (.iload_n 2, 1) := by decide +kernel
theorem d_B_isBlank_11 : decode prog_2_method_5_code 11 = .ok (.invokevirtual 29, 3) := by decide +kernel
theorem d_B_isBlank_14 : decode prog_2_method_5_code 14 = .ok (.ifCond .eq 5, 3) := by decide +kernel
theorem d_B_isBlank_17 : decode prog_2_method_5_code 17 = .ok (.iconst 0, 1) := by decide +kernel
theorem d_B_isBlank_18 : decode prog_2_method_5_code 18 = .ok (.ireturn, 1) := by decide +kernel
theorem d_B_isBlank_19 : decode prog_2_method_5_code 19 = .ok (.iinc 2 1, 3) := by decide +kernel
theorem d_B_isBlank_22 : decode prog_2_method_5_code 22 = .ok (.goto (-20), 3) := by decide +kernel
theorem d_B_isBlank_25 : decode prog_2_method_5_code 25 = .ok (.iconst 1, 1) := by decide +kernel
theorem d_B_isBlank_26 : decode prog_2_method_5_code 26 = .ok (.ireturn, 1) := by decide +kernel
theorem d_B_sumOf_0 : decode prog_2_method_8_code 0 = .ok (.iload_n 0, 1) := by decide +kernel
theorem d_B_sumOf_1 : decode prog_2_method_8_code 1 = .ok (.sipush 256, 3) := by decide +kernel
theorem d_B_sumOf_4 : decode prog_2_method_8_code 4 = .ok (.iadd, 1) := by decide +kernel
theorem d_B_sumOf_5 : decode prog_2_method_8_code 5 = .ok (.istore_n 3, 1) := by decide +kernel
theorem d_B_sumOf_6 : decode prog_2_method_8_code 6 = .ok (.iconst 4, 1) := by decide +kernel
theorem d_B_sumOf_7 : decode prog_2_method_8_code 7 = .ok (.istore 4, 2) := by decide +kernel
theorem d_B_sumOf_9 : decode prog_2_method_8_code 9 = .ok (.iload 4, 2) := by decide +kernel
theorem d_B_sumOf_11 : decode prog_2_method_8_code 11 = .ok (.bipush 64, 2) := by decide +kernel
theorem d_B_sumOf_13 : decode prog_2_method_8_code 13 = .ok (.if_icmp .ge 26, 3) := by decide +kernel
theorem d_B_sumOf_16 : decode prog_2_method_8_code 16 = .ok (.iload_n 3, 1) := by decide +kernel
theorem d_B_sumOf_17 : decode prog_2_method_8_code 17 = .ok (.aload_n 1, 1) := by decide +kernel
theorem d_B_sumOf_18 : decode prog_2_method_8_code 18 = .ok (.iload_n 2, 1) := by decide +kernel
theorem d_B_sumOf_19 : decode prog_2_method_8_code 19 = .ok (.iload 4, 2) := by decide +kernel
theorem d_B_sumOf_21 : decode prog_2_method_8_code 21 = .ok (.iadd, 1) := by decide +kernel
theorem d_B_sumOf_22 : decode prog_2_method_8_code 22 = .ok (.iaload, 1) := by decide +kernel
theorem d_B_sumOf_23 : decode prog_2_method_8_code 23 = .ok (.ixor, 1) := by decide +kernel
theorem d_B_sumOf_24 : decode prog_2_method_8_code 24 = .ok (.bipush 7, 2) := by decide +kernel
theorem d_B_sumOf_26 : decode prog_2_method_8_code 26 = .ok (.invokestatic 44, 3) := by decide +kernel
theorem d_B_sumOf_29 : decode prog_2_method_8_code 29 = .ok (.ldc 49, 2) := by decide +kernel
theorem d_B_sumOf_31 : decode prog_2_method_8_code 31 = .ok (.imul, 1) := by decide +kernel
theorem d_B_sumOf_32 : decode prog_2_method_8_code 32 = .ok (.istore_n 3, 1) := by decide +kernel
theorem d_B_sumOf_33 : decode prog_2_method_8_code 33 = .ok (.iinc 4 1, 3) := by decide +kernel
theorem d_B_sumOf_36 : decode prog_2_method_8_code 36 = .ok (.goto (-27), 3) := by decide +kernel
theorem d_B_sumOf_39 : decode prog_2_method_8_code 39 = .ok (.iload_n 3, 1) := by decide +kernel
theorem d_B_sumOf_40 : decode prog_2_method_8_code 40 = .ok (.ireturn, 1) := by decide +kernel
theorem d_B_byteOfSum_0 : decode prog_2_method_9_code 0 = .ok (.iload_n 0, 1) := by decide +kernel
theorem d_B_byteOfSum_1 : decode prog_2_method_9_code 1 = .ok (.bipush 8, 2) := by decide +kernel
theorem d_B_byteOfSum_3 : decode prog_2_method_9_code 3 = .ok (.iload_n 1, 1) := by decide +kernel
theorem d_B_byteOfSum_4 : decode prog_2_method_9_code 4 = .ok (.imul, 1) := by decide +kernel
theorem d_B_byteOfSum_5 : decode prog_2_method_9_code 5 = .ok (.iushr, 1) := by decide +kernel
theorem d_B_byteOfSum_6 : decode prog_2_method_9_code 6 = .ok (.sipush 255, 3) := by decide +kernel
theorem d_B_byteOfSum_9 : decode prog_2_method_9_code 9 = .ok (.iand, 1) := by decide +kernel
theorem d_B_byteOfSum_10 : decode prog_2_method_9_code 10 = .ok (.ireturn, 1) := by decide +kernel
theorem d_B_hasRightSum_0 : decode prog_2_method_7_code 0 = .ok (.iload_n 1, 1) := by decide +kernel
theorem d_B_hasRightSum_1 : decode prog_2_method_7_code 1 = .ok (.aload_n 0, 1) := by decide +kernel
theorem d_B_hasRightSum_2 : decode prog_2_method_7_code 2 = .ok (.getfield 22, 3) := by decide +kernel
theorem d_B_hasRightSum_5 : decode prog_2_method_7_code 5 = .ok (.iload_n 1, 1) := by decide +kernel
theorem d_B_hasRightSum_6 : decode prog_2_method_7_code 6 = .ok (.bipush 64, 2) := by decide +kernel
theorem d_B_hasRightSum_8 : decode prog_2_method_7_code 8 = .ok (.imul, 1) := by decide +kernel
theorem d_B_hasRightSum_9 : decode prog_2_method_7_code 9 = .ok (.invokestatic 37, 3) := by decide +kernel
theorem d_B_hasRightSum_12 : decode prog_2_method_7_code 12 = .ok (.istore_n 2, 1) := by decide +kernel
theorem d_B_hasRightSum_13 : decode prog_2_method_7_code 13 = .ok (.iconst 0, 1) := by decide +kernel
theorem d_B_hasRightSum_14 : decode prog_2_method_7_code 14 = .ok (.istore_n 3, 1) := by decide +kernel
theorem d_B_hasRightSum_15 : decode prog_2_method_7_code 15 = .ok (.iload_n 3, 1) := by decide +kernel
theorem d_B_hasRightSum_16 : decode prog_2_method_7_code 16 = .ok (.iconst 4, 1) := by decide +kernel
theorem d_B_hasRightSum_17 : decode prog_2_method_7_code 17 = .ok (.if_icmp .ge 25, 3) := by decide +kernel
theorem d_B_hasRightSum_20 : decode prog_2_method_7_code 20 = .ok (.aload_n 0, 1) := by decide +kernel
theorem d_B_hasRightSum_21 : decode prog_2_method_7_code 21 = .ok (.iload_n 1, 1) := by decide +kernel
theorem d_B_hasRightSum_22 : decode prog_2_method_7_code 22 = .ok (.iload_n 3, 1) := by decide +kernel
theorem d_B_hasRightSum_23 : decode prog_2_method_7_code 23 = .ok (.invokevirtual 29, 3) := by decide +kernel
theorem d_B_hasRightSum_26 : decode prog_2_method_7_code 26 = .ok (.iload_n 2, 1) := by decide +kernel
theorem d_B_hasRightSum_27 : decode prog_2_method_7_code 27 = .ok (.iload_n 3, 1) := by decide +kernel
theorem d_B_hasRightSum_28 : decode prog_2_method_7_code 28 = .ok (.invokestatic 41, 3) := by decide +kernel
theorem d_B_hasRightSum_31 : decode prog_2_method_7_code 31 = .ok (.if_icmp .eq 5, 3) := by decide +kernel
theorem d_B_hasRightSum_34 : decode prog_2_method_7_code 34 = .ok (.iconst 0, 1) := by decide +kernel
theorem d_B_hasRightSum_35 : decode prog_2_method_7_code 35 = .ok (.ireturn, 1) := by decide +kernel
theorem d_B_hasRightSum_36 : decode prog_2_method_7_code 36 = .ok (.iinc 3 1, 3) := by decide +kernel
theorem d_B_hasRightSum_39 : decode prog_2_method_7_code 39 = .ok (.goto (-24), 3) := by decide +kernel
theorem d_B_hasRightSum_42 : decode prog_2_method_7_code 42 = .ok (.iconst 1, 1) := by decide +kernel
theorem d_B_hasRightSum_43 : decode prog_2_method_7_code 43 = .ok (.ireturn, 1) := by decide +kernel
theorem d_B_isGood_0 : decode prog_2_method_6_code 0 = .ok (.aload_n 0, 1) := by decide +kernel
theorem d_B_isGood_1 : decode prog_2_method_6_code 1 = .ok (.iload_n 1, 1) := by decide +kernel
theorem d_B_isGood_2 : decode prog_2_method_6_code 2 = .ok (.iconst 4, 1) := by decide +kernel
theorem d_B_isGood_3 : decode prog_2_method_6_code 3 = .ok (.invokevirtual 29, 3) := by decide +kernel
theorem d_B_isGood_6 : decode prog_2_method_6_code 6 = .ok (.istore_n 2, 1) := by decide +kernel
theorem d_B_isGood_7 : decode prog_2_method_6_code 7 = .ok (.iload_n 2, 1) := by decide +kernel
theorem d_B_isGood_8 : decode prog_2_method_6_code 8 = .ok (.iconst 1, 1) := by decide +kernel
theorem d_B_isGood_9 : decode prog_2_method_6_code 9 = .ok (.if_icmp .lt 43, 3) := by decide +kernel
theorem d_B_isGood_12 : decode prog_2_method_6_code 12 = .ok (.iload_n 2, 1) := by decide +kernel
theorem d_B_isGood_13 : decode prog_2_method_6_code 13 = .ok (.iconst 3, 1) := by decide +kernel
theorem d_B_isGood_14 : decode prog_2_method_6_code 14 = .ok (.if_icmp .gt 38, 3) := by decide +kernel
theorem d_B_isGood_17 : decode prog_2_method_6_code 17 = .ok (.aload_n 0, 1) := by decide +kernel
theorem d_B_isGood_18 : decode prog_2_method_6_code 18 = .ok (.iload_n 1, 1) := by decide +kernel
theorem d_B_isGood_19 : decode prog_2_method_6_code 19 = .ok (.iconst 5, 1) := by decide +kernel
theorem d_B_isGood_20 : decode prog_2_method_6_code 20 = .ok (.invokevirtual 29, 3) := by decide +kernel
theorem d_B_isGood_23 : decode prog_2_method_6_code 23 = .ok (.bipush 16, 2) := by decide +kernel
theorem d_B_isGood_25 : decode prog_2_method_6_code 25 = .ok (.if_icmp .ge 27, 3) := by decide +kernel
theorem d_B_isGood_28 : decode prog_2_method_6_code 28 = .ok (.aload_n 0, 1) := by decide +kernel
theorem d_B_isGood_29 : decode prog_2_method_6_code 29 = .ok (.iload_n 1, 1) := by decide +kernel
theorem d_B_isGood_30 : decode prog_2_method_6_code 30 = .ok (.bipush 7, 2) := by decide +kernel
theorem d_B_isGood_32 : decode prog_2_method_6_code 32 = .ok (.invokevirtual 29, 3) := by decide +kernel
theorem d_B_isGood_35 : decode prog_2_method_6_code 35 = .ok (.bipush 56, 2) := by decide +kernel
theorem d_B_isGood_37 : decode prog_2_method_6_code 37 = .ok (.if_icmp .gt 15, 3) := by decide +kernel
theorem d_B_isGood_40 : decode prog_2_method_6_code 40 = .ok (.aload_n 0, 1) := by decide +kernel
theorem d_B_isGood_41 : decode prog_2_method_6_code 41 = .ok (.iload_n 1, 1) := by decide +kernel
theorem d_B_isGood_42 : decode prog_2_method_6_code 42 = .ok (.invokevirtual 33, 3) := by decide +kernel
theorem d_B_isGood_45 : decode prog_2_method_6_code 45 = .ok (.ifCond .eq 7, 3) := by decide +kernel
theorem d_B_isGood_48 : decode prog_2_method_6_code 48 = .ok (.iconst 1, 1) := by decide +kernel
theorem d_B_isGood_49 : decode prog_2_method_6_code 49 = .ok (.goto 4, 3) := by decide +kernel
theorem d_B_isGood_53 : decode prog_2_method_6_code 53 = .ok (.ireturn, 1) := by decide +kernel
theorem d_B_isGood_52 : decode prog_2_method_6_code 52 = .ok (.iconst 0, 1) := by decide +kernel
theorem d_B_onlyGood_0 : decode prog_2_method_10_code 0 = .ok (.iconst (-1), 1) := by decide +kernel
theorem d_B_onlyGood_1 : decode prog_2_method_10_code 1 = .ok (.istore 4, 2) := by decide +kernel
theorem d_B_onlyGood_3 : decode prog_2_method_10_code 3 = .ok (.iconst 0, 1) := by decide +kernel
theorem d_B_onlyGood_4 : decode prog_2_method_10_code 4 = .ok (.istore 5, 2) := by decide +kernel
theorem d_B_onlyGood_6 : decode prog_2_method_10_code 6 = .ok (.iload 5, 2) := by decide +kernel
theorem d_B_onlyGood_8 : decode prog_2_method_10_code 8 = .ok (.aload_n 0, 1) := by decide +kernel
theorem d_B_onlyGood_9 : decode prog_2_method_10_code 9 = .ok (.getfield 11, 3) := by decide +kernel
theorem d_B_onlyGood_12 : decode prog_2_method_10_code 12 = .ok (.if_icmp .ge 81, 3) := by decide +kernel
theorem d_B_onlyGood_15 : decode prog_2_method_10_code 15 = .ok (.aload_n 0, 1) := by decide +kernel
theorem d_B_onlyGood_16 : decode prog_2_method_10_code 16 = .ok (.iload 5, 2) := by decide +kernel
theorem d_B_onlyGood_18 : decode prog_2_method_10_code 18 = .ok (.iconst 4, 1) := by decide +kernel
theorem d_B_onlyGood_19 : decode prog_2_method_10_code 19 = .ok (.invokevirtual 29, 3) := by decide +kernel
theorem d_B_onlyGood_22 : decode prog_2_method_10_code 22 = .ok (.iload_n 1, 1) := by decide +kernel
theorem d_B_onlyGood_23 : decode prog_2_method_10_code 23 = .ok (.if_icmp .ne 35, 3) := by decide +kernel
theorem d_B_onlyGood_26 : decode prog_2_method_10_code 26 = .ok (.aload_n 0, 1) := by decide +kernel
theorem d_B_onlyGood_27 : decode prog_2_method_10_code 27 = .ok (.iload 5, 2) := by decide +kernel
theorem d_B_onlyGood_29 : decode prog_2_method_10_code 29 = .ok (.iconst 5, 1) := by decide +kernel
theorem d_B_onlyGood_30 : decode prog_2_method_10_code 30 = .ok (.invokevirtual 29, 3) := by decide +kernel
theorem d_B_onlyGood_33 : decode prog_2_method_10_code 33 = .ok (.iload_n 2, 1) := by decide +kernel
theorem d_B_onlyGood_34 : decode prog_2_method_10_code 34 = .ok (.if_icmp .ne 24, 3) := by decide +kernel
theorem d_B_onlyGood_37 : decode prog_2_method_10_code 37 = .ok (.iload_n 3, 1) := by decide +kernel
theorem d_B_onlyGood_38 : decode prog_2_method_10_code 38 = .ok (.iconst (-1), 1) := by decide +kernel
theorem d_B_onlyGood_39 : decode prog_2_method_10_code 39 = .ok (.if_icmp .eq 15, 3) := by decide +kernel
theorem d_B_onlyGood_42 : decode prog_2_method_10_code 42 = .ok (.aload_n 0, 1) := by decide +kernel
theorem d_B_onlyGood_43 : decode prog_2_method_10_code 43 = .ok (.iload 5, 2) := by decide +kernel
theorem d_B_onlyGood_45 : decode prog_2_method_10_code 45 = .ok (.bipush 6, 2) := by decide +kernel
theorem d_B_onlyGood_47 : decode prog_2_method_10_code 47 = .ok (.invokevirtual 29, 3) := by decide +kernel
theorem d_B_onlyGood_50 : decode prog_2_method_10_code 50 = .ok (.iload_n 3, 1) := by decide +kernel
theorem d_B_onlyGood_51 : decode prog_2_method_10_code 51 = .ok (.if_icmp .ne 7, 3) := by decide +kernel
theorem d_B_onlyGood_54 : decode prog_2_method_10_code 54 = .ok (.iconst 1, 1) := by decide +kernel
theorem d_B_onlyGood_55 : decode prog_2_method_10_code 55 = .ok (.goto 4, 3) := by decide +kernel
theorem d_B_onlyGood_59 : decode prog_2_method_10_code 59 = .ok (.istore 6, 2) := by decide +kernel
theorem d_B_onlyGood_61 : decode prog_2_method_10_code 61 = .ok (.iload 6, 2) := by decide +kernel
theorem d_B_onlyGood_63 : decode prog_2_method_10_code 63 = .ok (.ifCond .eq 24, 3) := by decide +kernel
theorem d_B_onlyGood_66 : decode prog_2_method_10_code 66 = .ok (.aload_n 0, 1) := by decide +kernel
theorem d_B_onlyGood_67 : decode prog_2_method_10_code 67 = .ok (.iload 5, 2) := by decide +kernel
theorem d_B_onlyGood_69 : decode prog_2_method_10_code 69 = .ok (.invokevirtual 50, 3) := by decide +kernel
theorem d_B_onlyGood_72 : decode prog_2_method_10_code 72 = .ok (.ifCond .eq 15, 3) := by decide +kernel
theorem d_B_onlyGood_75 : decode prog_2_method_10_code 75 = .ok (.iload 4, 2) := by decide +kernel
theorem d_B_onlyGood_77 : decode prog_2_method_10_code 77 = .ok (.iconst (-1), 1) := by decide +kernel
theorem d_B_onlyGood_78 : decode prog_2_method_10_code 78 = .ok (.if_icmp .eq 5, 3) := by decide +kernel
theorem d_B_onlyGood_81 : decode prog_2_method_10_code 81 = .ok (.iconst (-1), 1) := by decide +kernel
theorem d_B_onlyGood_82 : decode prog_2_method_10_code 82 = .ok (.ireturn, 1) := by decide +kernel
theorem d_B_onlyGood_83 : decode prog_2_method_10_code 83 = .ok (.iload 5, 2) := by decide +kernel
theorem d_B_onlyGood_85 : decode prog_2_method_10_code 85 = .ok (.istore 4, 2) := by decide +kernel
theorem d_B_onlyGood_87 : decode prog_2_method_10_code 87 = .ok (.iinc 5 1, 3) := by decide +kernel
theorem d_B_onlyGood_90 : decode prog_2_method_10_code 90 = .ok (.goto (-84), 3) := by decide +kernel
theorem d_B_onlyGood_58 : decode prog_2_method_10_code 58 = .ok (.iconst 0, 1) := by decide +kernel
theorem d_B_onlyGood_93 : decode prog_2_method_10_code 93 = .ok (.iload 4, 2) := by decide +kernel
theorem d_B_onlyGood_95 : decode prog_2_method_10_code 95 = .ok (.ireturn, 1) := by decide +kernel
theorem d_B_isMarkAsTold_0 : decode prog_2_method_11_code 0 = .ok (.aload_n 0, 1) := by decide +kernel
theorem d_B_isMarkAsTold_1 : decode prog_2_method_11_code 1 = .ok (.iload_n 1, 1) := by decide +kernel
theorem d_B_isMarkAsTold_2 : decode prog_2_method_11_code 2 = .ok (.bipush 8, 2) := by decide +kernel
theorem d_B_isMarkAsTold_4 : decode prog_2_method_11_code 4 = .ok (.invokevirtual 29, 3) := by decide +kernel
theorem d_B_isMarkAsTold_7 : decode prog_2_method_11_code 7 = .ok (.istore_n 2, 1) := by decide +kernel
theorem d_B_isMarkAsTold_8 : decode prog_2_method_11_code 8 = .ok (.aload_n 0, 1) := by decide +kernel
theorem d_B_isMarkAsTold_9 : decode prog_2_method_11_code 9 = .ok (.iload_n 1, 1) := by decide +kernel
theorem d_B_isMarkAsTold_10 : decode prog_2_method_11_code 10 = .ok (.bipush 6, 2) := by decide +kernel
theorem d_B_isMarkAsTold_12 : decode prog_2_method_11_code 12 = .ok (.invokevirtual 29, 3) := by decide +kernel
theorem d_B_isMarkAsTold_15 : decode prog_2_method_11_code 15 = .ok (.ifCond .ne 28, 3) := by decide +kernel
theorem d_B_isMarkAsTold_18 : decode prog_2_method_11_code 18 = .ok (.aload_n 0, 1) := by decide +kernel
theorem d_B_isMarkAsTold_19 : decode prog_2_method_11_code 19 = .ok (.iload_n 1, 1) := by decide +kernel
theorem d_B_isMarkAsTold_20 : decode prog_2_method_11_code 20 = .ok (.bipush 7, 2) := by decide +kernel
theorem d_B_isMarkAsTold_22 : decode prog_2_method_11_code 22 = .ok (.invokevirtual 29, 3) := by decide +kernel
theorem d_B_isMarkAsTold_25 : decode prog_2_method_11_code 25 = .ok (.iconst 1, 1) := by decide +kernel
theorem d_B_isMarkAsTold_26 : decode prog_2_method_11_code 26 = .ok (.if_icmp .ne 17, 3) := by decide +kernel
theorem d_B_isMarkAsTold_29 : decode prog_2_method_11_code 29 = .ok (.iload_n 2, 1) := by decide +kernel
theorem d_B_isMarkAsTold_30 : decode prog_2_method_11_code 30 = .ok (.iconst 1, 1) := by decide +kernel
theorem d_B_isMarkAsTold_31 : decode prog_2_method_11_code 31 = .ok (.if_icmp .lt 12, 3) := by decide +kernel
theorem d_B_isMarkAsTold_34 : decode prog_2_method_11_code 34 = .ok (.iload_n 2, 1) := by decide +kernel
theorem d_B_isMarkAsTold_35 : decode prog_2_method_11_code 35 = .ok (.iconst 2, 1) := by decide +kernel
theorem d_B_isMarkAsTold_36 : decode prog_2_method_11_code 36 = .ok (.if_icmp .gt 7, 3) := by decide +kernel
theorem d_B_isMarkAsTold_39 : decode prog_2_method_11_code 39 = .ok (.iconst 1, 1) := by decide +kernel
theorem d_B_isMarkAsTold_40 : decode prog_2_method_11_code 40 = .ok (.goto 4, 3) := by decide +kernel
theorem d_B_isMarkAsTold_44 : decode prog_2_method_11_code 44 = .ok (.ireturn, 1) := by decide +kernel
theorem d_B_isMarkAsTold_43 : decode prog_2_method_11_code 43 = .ok (.iconst 0, 1) := by decide +kernel
theorem d_B_copyData_0 : decode prog_2_method_12_code 0 = .ok (.aload_n 0, 1) := by decide +kernel
theorem d_B_copyData_1 : decode prog_2_method_12_code 1 = .ok (.getfield 22, 3) := by decide +kernel
theorem d_B_copyData_4 : decode prog_2_method_12_code 4 = .ok (.iload_n 1, 1) := by decide +kernel
theorem d_B_copyData_5 : decode prog_2_method_12_code 5 = .ok (.bipush 64, 2) := by decide +kernel
theorem d_B_copyData_7 : decode prog_2_method_12_code 7 = .ok (.imul, 1) := by decide +kernel
theorem d_B_copyData_8 : decode prog_2_method_12_code 8 = .ok (.bipush 8, 2) := by decide +kernel
theorem d_B_copyData_10 : decode prog_2_method_12_code 10 = .ok (.iadd, 1) := by decide +kernel
theorem d_B_copyData_11 : decode prog_2_method_12_code 11 = .ok (.aload_n 3, 1) := by decide +kernel
theorem d_B_copyData_12 : decode prog_2_method_12_code 12 = .ok (.iload 4, 2) := by decide +kernel
theorem d_B_copyData_14 : decode prog_2_method_12_code 14 = .ok (.iload_n 2, 1) := by decide +kernel
theorem d_B_copyData_15 : decode prog_2_method_12_code 15 = .ok (.invokestatic 53, 3) := by decide +kernel
theorem d_B_copyData_18 : decode prog_2_method_12_code 18 = .ok (.return_, 1) := by decide +kernel
theorem d_B_beginImage_0 : decode prog_2_method_15_code 0 = .ok (.aload_n 0, 1) := by decide +kernel
theorem d_B_beginImage_1 : decode prog_2_method_15_code 1 = .ok (.getfield 26, 3) := by decide +kernel
theorem d_B_beginImage_4 : decode prog_2_method_15_code 4 = .ok (.iconst 0, 1) := by decide +kernel
theorem d_B_beginImage_5 : decode prog_2_method_15_code 5 = .ok (.invokestatic 84, 3) := by decide +kernel
theorem d_B_beginImage_8 : decode prog_2_method_15_code 8 = .ok (.aload_n 0, 1) := by decide +kernel
theorem d_B_beginImage_9 : decode prog_2_method_15_code 9 = .ok (.getfield 26, 3) := by decide +kernel
theorem d_B_beginImage_12 : decode prog_2_method_15_code 12 = .ok (.iconst 4, 1) := by decide +kernel
theorem d_B_beginImage_13 : decode prog_2_method_15_code 13 = .ok (.iload_n 1, 1) := by decide +kernel
theorem d_B_beginImage_14 : decode prog_2_method_15_code 14 = .ok (.iastore, 1) := by decide +kernel
theorem d_B_beginImage_15 : decode prog_2_method_15_code 15 = .ok (.aload_n 0, 1) := by decide +kernel
theorem d_B_beginImage_16 : decode prog_2_method_15_code 16 = .ok (.getfield 26, 3) := by decide +kernel
theorem d_B_beginImage_19 : decode prog_2_method_15_code 19 = .ok (.iconst 5, 1) := by decide +kernel
theorem d_B_beginImage_20 : decode prog_2_method_15_code 20 = .ok (.iload_n 2, 1) := by decide +kernel
theorem d_B_beginImage_21 : decode prog_2_method_15_code 21 = .ok (.iastore, 1) := by decide +kernel
theorem d_B_beginImage_22 : decode prog_2_method_15_code 22 = .ok (.aload_n 0, 1) := by decide +kernel
theorem d_B_beginImage_23 : decode prog_2_method_15_code 23 = .ok (.getfield 26, 3) := by decide +kernel
theorem d_B_beginImage_26 : decode prog_2_method_15_code 26 = .ok (.bipush 6, 2) := by decide +kernel
theorem d_B_beginImage_28 : decode prog_2_method_15_code 28 = .ok (.iload_n 3, 1) := by decide +kernel
theorem d_B_beginImage_29 : decode prog_2_method_15_code 29 = .ok (.iastore, 1) := by decide +kernel
theorem d_B_beginImage_30 : decode prog_2_method_15_code 30 = .ok (.aload_n 0, 1) := by decide +kernel
theorem d_B_beginImage_31 : decode prog_2_method_15_code 31 = .ok (.getfield 26, 3) := by decide +kernel
theorem d_B_beginImage_34 : decode prog_2_method_15_code 34 = .ok (.bipush 7, 2) := by decide +kernel
theorem d_B_beginImage_36 : decode prog_2_method_15_code 36 = .ok (.iload 4, 2) := by decide +kernel
theorem d_B_beginImage_38 : decode prog_2_method_15_code 38 = .ok (.iastore, 1) := by decide +kernel
theorem d_B_beginImage_39 : decode prog_2_method_15_code 39 = .ok (.return_, 1) := by decide +kernel
theorem d_B_put_0 : decode prog_2_method_18_code 0 = .ok (.aload_n 0, 1) := by decide +kernel
theorem d_B_put_1 : decode prog_2_method_18_code 1 = .ok (.getfield 15, 3) := by decide +kernel
theorem d_B_put_4 : decode prog_2_method_18_code 4 = .ok (.ifCond .ne 10, 3) := by decide +kernel
theorem d_B_put_7 : decode prog_2_method_18_code 7 = .ok (.aload_n 0, 1) := by decide +kernel
theorem d_B_put_8 : decode prog_2_method_18_code 8 = .ok (.iconst 1, 1) := by decide +kernel
theorem d_B_put_9 : decode prog_2_method_18_code 9 = .ok (.putfield 18, 3) := by decide +kernel
theorem d_B_put_12 : decode prog_2_method_18_code 12 = .ok (.iconst 0, 1) := by decide +kernel
theorem d_B_put_13 : decode prog_2_method_18_code 13 = .ok (.ireturn, 1) := by decide +kernel
theorem d_B_put_14 : decode prog_2_method_18_code 14 = .ok (.aload_n 0, 1) := by decide +kernel
theorem d_B_put_15 : decode prog_2_method_18_code 15 = .ok (.getfield 15, 3) := by decide +kernel
theorem d_B_put_18 : decode prog_2_method_18_code 18 = .ok (.iconst (-1), 1) := by decide +kernel
theorem d_B_put_19 : decode prog_2_method_18_code 19 = .ok (.if_icmp .eq 13, 3) := by decide +kernel
theorem d_B_put_22 : decode prog_2_method_18_code 22 = .ok (.aload_n 0, 1) := by decide +kernel
theorem d_B_put_23 : decode prog_2_method_18_code 23 = .ok (.dup, 1) := by decide +kernel
theorem d_B_put_24 : decode prog_2_method_18_code 24 = .ok (.getfield 15, 3) := by decide +kernel
theorem d_B_put_27 : decode prog_2_method_18_code 27 = .ok (.iconst 1, 1) := by decide +kernel
theorem d_B_put_28 : decode prog_2_method_18_code 28 = .ok (.isub, 1) := by decide +kernel
theorem d_B_put_29 : decode prog_2_method_18_code 29 = .ok (.putfield 15, 3) := by decide +kernel
theorem d_B_put_32 : decode prog_2_method_18_code 32 = .ok (.aload_n 0, 1) := by decide +kernel
theorem d_B_put_33 : decode prog_2_method_18_code 33 = .ok (.getfield 22, 3) := by decide +kernel
theorem d_B_put_36 : decode prog_2_method_18_code 36 = .ok (.iload_n 1, 1) := by decide +kernel
theorem d_B_put_37 : decode prog_2_method_18_code 37 = .ok (.bipush 64, 2) := by decide +kernel
theorem d_B_put_39 : decode prog_2_method_18_code 39 = .ok (.imul, 1) := by decide +kernel
theorem d_B_put_40 : decode prog_2_method_18_code 40 = .ok (.iload_n 2, 1) := by decide +kernel
theorem d_B_put_41 : decode prog_2_method_18_code 41 = .ok (.iadd, 1) := by decide +kernel
theorem d_B_put_42 : decode prog_2_method_18_code 42 = .ok (.iload_n 3, 1) := by decide +kernel
theorem d_B_put_43 : decode prog_2_method_18_code 43 = .ok (.iastore, 1) := by decide +kernel
theorem d_B_put_44 : decode prog_2_method_18_code 44 = .ok (.iconst 1, 1) := by decide +kernel
theorem d_B_put_45 : decode prog_2_method_18_code 45 = .ok (.ireturn, 1) := by decide +kernel
theorem d_B_writeImage_0 : decode prog_2_method_16_code 0 = .ok (.iload_n 1, 1) := by decide +kernel
theorem d_B_writeImage_1 : decode prog_2_method_16_code 1 = .ok (.aload_n 0, 1) := by decide +kernel
theorem d_B_writeImage_2 : decode prog_2_method_16_code 2 = .ok (.getfield 26, 3) := by decide +kernel
theorem d_B_writeImage_5 : decode prog_2_method_16_code 5 = .ok (.iconst 0, 1) := by decide +kernel
theorem d_B_writeImage_6 : decode prog_2_method_16_code 6 = .ok (.invokestatic 37, 3) := by decide +kernel
theorem d_B_writeImage_9 : decode prog_2_method_16_code 9 = .ok (.istore_n 2, 1) := by decide +kernel
theorem d_B_writeImage_10 : decode prog_2_method_16_code 10 = .ok (.aload_n 0, 1) := by decide +kernel
theorem d_B_writeImage_11 : decode prog_2_method_16_code 11 = .ok (.iload_n 1, 1) := by decide +kernel
theorem d_B_writeImage_12 : decode prog_2_method_16_code 12 = .ok (.iconst 4, 1) := by decide +kernel
theorem d_B_writeImage_13 : decode prog_2_method_16_code 13 = .ok (.iconst 0, 1) := by decide +kernel
theorem d_B_writeImage_14 : decode prog_2_method_16_code 14 = .ok (.invokevirtual 90, 3) := by decide +kernel
theorem d_B_writeImage_17 : decode prog_2_method_16_code 17 = .ok (.istore_n 3, 1) := by decide +kernel
theorem d_B_writeImage_18 : decode prog_2_method_16_code 18 = .ok (.iconst 5, 1) := by decide +kernel
theorem d_B_writeImage_19 : decode prog_2_method_16_code 19 = .ok (.istore 4, 2) := by decide +kernel
theorem d_B_writeImage_21 : decode prog_2_method_16_code 21 = .ok (.iload 4, 2) := by decide +kernel
theorem d_B_writeImage_23 : decode prog_2_method_16_code 23 = .ok (.bipush 64, 2) := by decide +kernel
theorem d_B_writeImage_25 : decode prog_2_method_16_code 25 = .ok (.if_icmp .ge 28, 3) := by decide +kernel
theorem d_B_writeImage_28 : decode prog_2_method_16_code 28 = .ok (.iload_n 3, 1) := by decide +kernel
theorem d_B_writeImage_29 : decode prog_2_method_16_code 29 = .ok (.ifCond .eq 24, 3) := by decide +kernel
theorem d_B_writeImage_32 : decode prog_2_method_16_code 32 = .ok (.aload_n 0, 1) := by decide +kernel
theorem d_B_writeImage_33 : decode prog_2_method_16_code 33 = .ok (.iload_n 1, 1) := by decide +kernel
theorem d_B_writeImage_34 : decode prog_2_method_16_code 34 = .ok (.iload 4, 2) := by decide +kernel
theorem d_B_writeImage_36 : decode prog_2_method_16_code 36 = .ok (.aload_n 0, 1) := by decide +kernel
theorem d_B_writeImage_37 : decode prog_2_method_16_code 37 = .ok (.getfield 26, 3) := by decide +kernel
theorem d_B_writeImage_40 : decode prog_2_method_16_code 40 = .ok (.iload 4, 2) := by decide +kernel
theorem d_B_writeImage_42 : decode prog_2_method_16_code 42 = .ok (.iaload, 1) := by decide +kernel
theorem d_B_writeImage_43 : decode prog_2_method_16_code 43 = .ok (.invokevirtual 90, 3) := by decide +kernel
theorem d_B_writeImage_46 : decode prog_2_method_16_code 46 = .ok (.istore_n 3, 1) := by decide +kernel
theorem d_B_writeImage_47 : decode prog_2_method_16_code 47 = .ok (.iinc 4 1, 3) := by decide +kernel
theorem d_B_writeImage_50 : decode prog_2_method_16_code 50 = .ok (.goto (-29), 3) := by decide +kernel
theorem d_B_writeImage_53 : decode prog_2_method_16_code 53 = .ok (.iconst 0, 1) := by decide +kernel
theorem d_B_writeImage_54 : decode prog_2_method_16_code 54 = .ok (.istore 4, 2) := by decide +kernel
theorem d_B_writeImage_56 : decode prog_2_method_16_code 56 = .ok (.iload 4, 2) := by decide +kernel
theorem d_B_writeImage_58 : decode prog_2_method_16_code 58 = .ok (.iconst 4, 1) := by decide +kernel
theorem d_B_writeImage_59 : decode prog_2_method_16_code 59 = .ok (.if_icmp .ge 27, 3) := by decide +kernel
theorem d_B_writeImage_62 : decode prog_2_method_16_code 62 = .ok (.iload_n 3, 1) := by decide +kernel
theorem d_B_writeImage_63 : decode prog_2_method_16_code 63 = .ok (.ifCond .eq 23, 3) := by decide +kernel
theorem d_B_writeImage_66 : decode prog_2_method_16_code 66 = .ok (.aload_n 0, 1) := by decide +kernel
theorem d_B_writeImage_67 : decode prog_2_method_16_code 67 = .ok (.iload_n 1, 1) := by decide +kernel
theorem d_B_writeImage_68 : decode prog_2_method_16_code 68 = .ok (.iload 4, 2) := by decide +kernel
theorem d_B_writeImage_70 : decode prog_2_method_16_code 70 = .ok (.iload_n 2, 1) := by decide +kernel
theorem d_B_writeImage_71 : decode prog_2_method_16_code 71 = .ok (.iload 4, 2) := by decide +kernel
theorem d_B_writeImage_73 : decode prog_2_method_16_code 73 = .ok (.invokestatic 41, 3) := by decide +kernel
theorem d_B_writeImage_76 : decode prog_2_method_16_code 76 = .ok (.invokevirtual 90, 3) := by decide +kernel
theorem d_B_writeImage_79 : decode prog_2_method_16_code 79 = .ok (.istore_n 3, 1) := by decide +kernel
theorem d_B_writeImage_80 : decode prog_2_method_16_code 80 = .ok (.iinc 4 1, 3) := by decide +kernel
theorem d_B_writeImage_83 : decode prog_2_method_16_code 83 = .ok (.goto (-27), 3) := by decide +kernel
theorem d_B_writeImage_86 : decode prog_2_method_16_code 86 = .ok (.iload_n 3, 1) := by decide +kernel
theorem d_B_writeImage_87 : decode prog_2_method_16_code 87 = .ok (.ifCond .eq 22, 3) := by decide +kernel
theorem d_B_writeImage_90 : decode prog_2_method_16_code 90 = .ok (.aload_n 0, 1) := by decide +kernel
theorem d_B_writeImage_91 : decode prog_2_method_16_code 91 = .ok (.iload_n 1, 1) := by decide +kernel
theorem d_B_writeImage_92 : decode prog_2_method_16_code 92 = .ok (.iconst 4, 1) := by decide +kernel
theorem d_B_writeImage_93 : decode prog_2_method_16_code 93 = .ok (.aload_n 0, 1) := by decide +kernel
theorem d_B_writeImage_94 : decode prog_2_method_16_code 94 = .ok (.getfield 26, 3) := by decide +kernel
theorem d_B_writeImage_97 : decode prog_2_method_16_code 97 = .ok (.iconst 4, 1) := by decide +kernel
theorem d_B_writeImage_98 : decode prog_2_method_16_code 98 = .ok (.iaload, 1) := by decide +kernel
theorem d_B_writeImage_99 : decode prog_2_method_16_code 99 = .ok (.invokevirtual 90, 3) := by decide +kernel
theorem d_B_writeImage_102 : decode prog_2_method_16_code 102 = .ok (.ifCond .eq 7, 3) := by decide +kernel
theorem d_B_writeImage_105 : decode prog_2_method_16_code 105 = .ok (.iconst 1, 1) := by decide +kernel
theorem d_B_writeImage_106 : decode prog_2_method_16_code 106 = .ok (.goto 4, 3) := by decide +kernel
theorem d_B_writeImage_110 : decode prog_2_method_16_code 110 = .ok (.ireturn, 1) := by decide +kernel
theorem d_B_writeImage_109 : decode prog_2_method_16_code 109 = .ok (.iconst 0, 1) := by decide +kernel
theorem d_B_writeRecordBlock_0 : decode prog_2_method_13_code 0 = .ok (.iload_n 3, 1) := by decide +kernel
theorem d_B_writeRecordBlock_1 : decode prog_2_method_13_code 1 = .ok (.bipush 56, 2) := by decide +kernel
theorem d_B_writeRecordBlock_3 : decode prog_2_method_13_code 3 = .ok (.imul, 1) := by decide +kernel
theorem d_B_writeRecordBlock_4 : decode prog_2_method_13_code 4 = .ok (.istore 5, 2) := by decide +kernel
theorem d_B_writeRecordBlock_6 : decode prog_2_method_13_code 6 = .ok (.bipush 56, 2) := by decide +kernel
theorem d_B_writeRecordBlock_8 : decode prog_2_method_13_code 8 = .ok (.aload 4, 2) := by decide +kernel
theorem d_B_writeRecordBlock_10 : decode prog_2_method_13_code 10 = .ok (.invokevirtual 59, 3) := by decide +kernel
theorem d_B_writeRecordBlock_13 : decode prog_2_method_13_code 13 = .ok (.iload 5, 2) := by decide +kernel
theorem d_B_writeRecordBlock_15 : decode prog_2_method_13_code 15 = .ok (.isub, 1) := by decide +kernel
theorem d_B_writeRecordBlock_16 : decode prog_2_method_13_code 16 = .ok (.invokestatic 65, 3) := by decide +kernel
theorem d_B_writeRecordBlock_19 : decode prog_2_method_13_code 19 = .ok (.istore 6, 2) := by decide +kernel
theorem d_B_writeRecordBlock_21 : decode prog_2_method_13_code 21 = .ok (.aload_n 0, 1) := by decide +kernel
theorem d_B_writeRecordBlock_22 : decode prog_2_method_13_code 22 = .ok (.iload_n 3, 1) := by decide +kernel
theorem d_B_writeRecordBlock_23 : decode prog_2_method_13_code 23 = .ok (.invokestatic 70, 3) := by decide +kernel
theorem d_B_writeRecordBlock_26 : decode prog_2_method_13_code 26 = .ok (.iload_n 2, 1) := by decide +kernel
theorem d_B_writeRecordBlock_27 : decode prog_2_method_13_code 27 = .ok (.iload_n 3, 1) := by decide +kernel
theorem d_B_writeRecordBlock_28 : decode prog_2_method_13_code 28 = .ok (.iload 6, 2) := by decide +kernel
theorem d_B_writeRecordBlock_30 : decode prog_2_method_13_code 30 = .ok (.invokevirtual 74, 3) := by decide +kernel
theorem d_B_writeRecordBlock_33 : decode prog_2_method_13_code 33 = .ok (.aload 4, 2) := by decide +kernel
theorem d_B_writeRecordBlock_35 : decode prog_2_method_13_code 35 = .ok (.getfield 78, 3) := by decide +kernel
theorem d_B_writeRecordBlock_38 : decode prog_2_method_13_code 38 = .ok (.iload 5, 2) := by decide +kernel
theorem d_B_writeRecordBlock_40 : decode prog_2_method_13_code 40 = .ok (.aload_n 0, 1) := by decide +kernel
theorem d_B_writeRecordBlock_41 : decode prog_2_method_13_code 41 = .ok (.getfield 26, 3) := by decide +kernel
theorem d_B_writeRecordBlock_44 : decode prog_2_method_13_code 44 = .ok (.bipush 8, 2) := by decide +kernel
theorem d_B_writeRecordBlock_46 : decode prog_2_method_13_code 46 = .ok (.iload 6, 2) := by decide +kernel
theorem d_B_writeRecordBlock_48 : decode prog_2_method_13_code 48 = .ok (.invokestatic 53, 3) := by decide +kernel
theorem d_B_writeRecordBlock_51 : decode prog_2_method_13_code 51 = .ok (.aload_n 0, 1) := by decide +kernel
theorem d_B_writeRecordBlock_52 : decode prog_2_method_13_code 52 = .ok (.iload_n 1, 1) := by decide +kernel
theorem d_B_writeRecordBlock_53 : decode prog_2_method_13_code 53 = .ok (.invokevirtual 81, 3) := by decide +kernel
theorem d_B_writeRecordBlock_56 : decode prog_2_method_13_code 56 = .ok (.ireturn, 1) := by decide +kernel
theorem d_B_writeMark_0 : decode prog_2_method_14_code 0 = .ok (.aload_n 0, 1) := by decide +kernel
theorem d_B_writeMark_1 : decode prog_2_method_14_code 1 = .ok (.iconst 3, 1) := by decide +kernel
theorem d_B_writeMark_2 : decode prog_2_method_14_code 2 = .ok (.iload_n 2, 1) := by decide +kernel
theorem d_B_writeMark_3 : decode prog_2_method_14_code 3 = .ok (.iconst 0, 1) := by decide +kernel
theorem d_B_writeMark_4 : decode prog_2_method_14_code 4 = .ok (.iconst 1, 1) := by decide +kernel
theorem d_B_writeMark_5 : decode prog_2_method_14_code 5 = .ok (.invokevirtual 74, 3) := by decide +kernel
theorem d_B_writeMark_8 : decode prog_2_method_14_code 8 = .ok (.aload_n 0, 1) := by decide +kernel
theorem d_B_writeMark_9 : decode prog_2_method_14_code 9 = .ok (.getfield 26, 3) := by decide +kernel
theorem d_B_writeMark_12 : decode prog_2_method_14_code 12 = .ok (.bipush 8, 2) := by decide +kernel
theorem d_B_writeMark_14 : decode prog_2_method_14_code 14 = .ok (.iload_n 3, 1) := by decide +kernel
theorem d_B_writeMark_15 : decode prog_2_method_14_code 15 = .ok (.iastore, 1) := by decide +kernel
theorem d_B_writeMark_16 : decode prog_2_method_14_code 16 = .ok (.aload_n 0, 1) := by decide +kernel
theorem d_B_writeMark_17 : decode prog_2_method_14_code 17 = .ok (.iload_n 1, 1) := by decide +kernel
theorem d_B_writeMark_18 : decode prog_2_method_14_code 18 = .ok (.invokevirtual 81, 3) := by decide +kernel
theorem d_B_writeMark_21 : decode prog_2_method_14_code 21 = .ok (.ireturn, 1) := by decide +kernel
theorem d_B_wipe_0 : decode prog_2_method_17_code 0 = .ok (.aload_n 0, 1) := by decide +kernel
theorem d_B_wipe_1 : decode prog_2_method_17_code 1 = .ok (.iload_n 1, 1) := by decide +kernel
theorem d_B_wipe_2 : decode prog_2_method_17_code 2 = .ok (.iconst 4, 1) := by decide +kernel
theorem d_B_wipe_3 : decode prog_2_method_17_code 3 = .ok (.iconst 0, 1) := by decide +kernel
theorem d_B_wipe_4 : decode prog_2_method_17_code 4 = .ok (.invokevirtual 90, 3) := by decide +kernel
theorem d_B_wipe_7 : decode prog_2_method_17_code 7 = .ok (.istore_n 2, 1) := by decide +kernel
theorem d_B_wipe_8 : decode prog_2_method_17_code 8 = .ok (.iconst 0, 1) := by decide +kernel
theorem d_B_wipe_9 : decode prog_2_method_17_code 9 = .ok (.istore_n 3, 1) := by decide +kernel
theorem d_B_wipe_10 : decode prog_2_method_17_code 10 = .ok (.iload_n 3, 1) := by decide +kernel
theorem d_B_wipe_11 : decode prog_2_method_17_code 11 = .ok (.bipush 64, 2) := by decide +kernel
theorem d_B_wipe_13 : decode prog_2_method_17_code 13 = .ok (.if_icmp .ge 26, 3) := by decide +kernel
theorem d_B_wipe_16 : decode prog_2_method_17_code 16 = .ok (.iload_n 2, 1) := by decide +kernel
theorem d_B_wipe_17 : decode prog_2_method_17_code 17 = .ok (.ifCond .eq 22, 3) := by decide +kernel
theorem d_B_wipe_20 : decode prog_2_method_17_code 20 = .ok (.iload_n 3, 1) := by decide +kernel
theorem d_B_wipe_21 : decode prog_2_method_17_code 21 = .ok (.iconst 4, 1) := by decide +kernel
theorem d_B_wipe_22 : decode prog_2_method_17_code 22 = .ok (.if_icmp .eq 11, 3) := by decide +kernel
theorem d_B_wipe_25 : decode prog_2_method_17_code 25 = .ok (.aload_n 0, 1) := by decide +kernel
theorem d_B_wipe_26 : decode prog_2_method_17_code 26 = .ok (.iload_n 1, 1) := by decide +kernel
theorem d_B_wipe_27 : decode prog_2_method_17_code 27 = .ok (.iload_n 3, 1) := by decide +kernel
theorem d_B_wipe_28 : decode prog_2_method_17_code 28 = .ok (.iconst 0, 1) := by decide +kernel
theorem d_B_wipe_29 : decode prog_2_method_17_code 29 = .ok (.invokevirtual 90, 3) := by decide +kernel
theorem d_B_wipe_32 : decode prog_2_method_17_code 32 = .ok (.istore_n 2, 1) := by decide +kernel
theorem d_B_wipe_33 : decode prog_2_method_17_code 33 = .ok (.iinc 3 1, 3) := by decide +kernel
theorem d_B_wipe_36 : decode prog_2_method_17_code 36 = .ok (.goto (-26), 3) := by decide +kernel
theorem d_B_wipe_39 : decode prog_2_method_17_code 39 = .ok (.iload_n 2, 1) := by decide +kernel
theorem d_B_wipe_40 : decode prog_2_method_17_code 40 = .ok (.ireturn, 1) := by decide +kernel
def f_B_kindOf (xn : Nat) (p1 : Int32) (z0 : x_St) : Option (Int32 × x_St) :=
  (if p1 = 0 then
  (some ((1 : Int32), z0))
  else
  (some ((2 : Int32), z0)))
def f_B_get (xn : Nat) (p1 : Int32) (p2 : Int32) (z0 : x_St) : Option (Int32 × x_St) :=
  (x_ck ((p1 * (64 : Int32)) + p2) (x_ln xn 2)
  (some ((z0.1 2 (((p1 * (64 : Int32)) + p2)).toNatClampNeg), z0)))
def f_B_turn (xn : Nat) (p1 : Int32) (p2 : Int32) (p3 : Int32) (z0 : x_St) : Option (Int32 × x_St) :=
  (x_ck ((p1 * (64 : Int32)) + p2) (x_ln xn 2)
  (x_ck ((p1 * (64 : Int32)) + p2) (x_ln xn 2)
  (x_cl (f_B_get xn p1 p2 (x_put z0 2 (((p1 * (64 : Int32)) + p2)).toNatClampNeg ((z0.1 2 (((p1 * (64 : Int32)) + p2)).toNatClampNeg) ^^^ p3))) (fun r3 z3 =>
  (some (r3, z3))))))
def f_B_isBlank_2 (xn : Nat) : Nat → Int32 → Int32 → x_St → Option (Int32 × x_St)
  | 0, _, _, _ => none
  | fu + 1, a1, a2, z0 =>
    (if (64 : Int32) ≤ a2 then
    (some ((1 : Int32), z0))
    else
    (x_cl (f_B_get xn a1 a2 z0) (fun r2 z2 =>
    (if r2 = 0 then
    (f_B_isBlank_2 xn fu a1 (a2 + (1 : Int32)) z2)
    else
    (some ((0 : Int32), z2))))))
def f_B_isBlank (xn : Nat) (p1 : Int32) (z0 : x_St) : Option (Int32 × x_St) :=
  (f_B_isBlank_2 xn x_FU p1 (0 : Int32) z0)
def f_B_sumOf_39 (xn : Nat) (a3 : Int32) (z0 : x_St) : Option (Int32 × x_St) :=
  (some (a3, z0))
def f_B_sumOf_9 (xn : Nat) : Nat → Nat → Int32 → Int32 → Int32 → x_St → Option (Int32 × x_St)
  | 0, _, _, _, _, _ => none
  | fu + 1, a1, a2, a3, a4, z0 =>
    (if (64 : Int32) ≤ a4 then
    (f_B_sumOf_39 xn a3 z0)
    else
    (x_ck (a2 + a4) (x_ln xn a1)
    (x_cl (f_Integer_rotateLeft xn (a3 ^^^ (z0.1 a1 ((a2 + a4)).toNatClampNeg)) (7 : Int32) z0) (fun r3 z3 =>
    (f_B_sumOf_9 xn fu a1 a2 (r3 * (374761393 : Int32)) (a4 + (1 : Int32)) z3)))))
def f_B_sumOf (xn : Nat) (p1 : Int32) (k2 : Nat) (p3 : Int32) (z0 : x_St) : Option (Int32 × x_St) :=
  (f_B_sumOf_9 xn x_FU k2 p3 (p1 + (256 : Int32)) (4 : Int32) z0)
def f_B_byteOfSum (xn : Nat) (p1 : Int32) (p2 : Int32) (z0 : x_St) : Option (Int32 × x_St) :=
  (some (((x_ushr p1 ((8 : Int32) * p2)) &&& (255 : Int32)), z0))
def f_B_hasRightSum_15 (xn : Nat) : Nat → Int32 → Int32 → Int32 → x_St → Option (Int32 × x_St)
  | 0, _, _, _, _ => none
  | fu + 1, a1, a2, a3, z0 =>
    (if (4 : Int32) ≤ a3 then
    (some ((1 : Int32), z0))
    else
    (x_cl (f_B_get xn a1 a3 z0) (fun r2 z2 =>
    (x_cl (f_B_byteOfSum xn a2 a3 z2) (fun r4 z4 =>
    (if r2 = r4 then
    (f_B_hasRightSum_15 xn fu a1 a2 (a3 + (1 : Int32)) z4)
    else
    (some ((0 : Int32), z4))))))))
def f_B_hasRightSum (xn : Nat) (p1 : Int32) (z0 : x_St) : Option (Int32 × x_St) :=
  (x_cl (f_B_sumOf xn p1 2 (p1 * (64 : Int32)) z0) (fun r7 z7 =>
  (f_B_hasRightSum_15 xn x_FU p1 r7 (0 : Int32) z7)))
def f_B_isGood (xn : Nat) (p1 : Int32) (z0 : x_St) : Option (Int32 × x_St) :=
  (x_cl (f_B_get xn p1 (4 : Int32) z0) (fun r1 z1 =>
  (if r1 < (1 : Int32) then
  (some ((0 : Int32), z1))
  else
  (if (3 : Int32) < r1 then
  (some ((0 : Int32), z1))
  else
  (x_cl (f_B_get xn p1 (5 : Int32) z1) (fun r5 z5 =>
  (if (16 : Int32) ≤ r5 then
  (some ((0 : Int32), z5))
  else
  (x_cl (f_B_get xn p1 (7 : Int32) z5) (fun r8 z8 =>
  (if (56 : Int32) < r8 then
  (some ((0 : Int32), z8))
  else
  (x_cl (f_B_hasRightSum xn p1 z8) (fun r11 z11 =>
  (if r11 = 0 then
  (some ((0 : Int32), z11))
  else
  (some ((1 : Int32), z11)))))))))))))))
def f_B_onlyGood_93 (xn : Nat) (a4 : Int32) (z0 : x_St) : Option (Int32 × x_St) :=
  (some (a4, z0))
def f_B_onlyGood_6 (xn : Nat) : Nat → Int32 → Int32 → Int32 → Int32 → Int32 → x_St → Option (Int32 × x_St)
  | 0, _, _, _, _, _, _ => none
  | fu + 1, a1, a2, a3, a4, a5, z0 =>
    (if (z0.1 1 0) ≤ a5 then
    (f_B_onlyGood_93 xn a4 z0)
    else
    (x_cl (f_B_get xn a5 (4 : Int32) z0) (fun r2 z2 =>
    (if r2 = a1 then
    (x_cl (f_B_get xn a5 (5 : Int32) z2) (fun r5 z5 =>
    (if r5 = a2 then
    (if a3 = (-1 : Int32) then
    (x_cl (f_B_isGood xn a5 z5) (fun r9 z9 =>
    (if r9 = 0 then
    (f_B_onlyGood_6 xn fu a1 a2 a3 a4 (a5 + (1 : Int32)) z9)
    else
    (if a4 = (-1 : Int32) then
    (f_B_onlyGood_6 xn fu a1 a2 a3 a5 (a5 + (1 : Int32)) z9)
    else
    (some ((-1 : Int32), z9))))))
    else
    (x_cl (f_B_get xn a5 (6 : Int32) z5) (fun r13 z13 =>
    (if r13 = a3 then
    (x_cl (f_B_isGood xn a5 z13) (fun r16 z16 =>
    (if r16 = 0 then
    (f_B_onlyGood_6 xn fu a1 a2 a3 a4 (a5 + (1 : Int32)) z16)
    else
    (if a4 = (-1 : Int32) then
    (f_B_onlyGood_6 xn fu a1 a2 a3 a5 (a5 + (1 : Int32)) z16)
    else
    (some ((-1 : Int32), z16))))))
    else
    (f_B_onlyGood_6 xn fu a1 a2 a3 a4 (a5 + (1 : Int32)) z13)))))
    else
    (f_B_onlyGood_6 xn fu a1 a2 a3 a4 (a5 + (1 : Int32)) z5))))
    else
    (f_B_onlyGood_6 xn fu a1 a2 a3 a4 (a5 + (1 : Int32)) z2)))))
def f_B_onlyGood (xn : Nat) (p1 : Int32) (p2 : Int32) (p3 : Int32) (z0 : x_St) : Option (Int32 × x_St) :=
  (f_B_onlyGood_6 xn x_FU p1 p2 p3 (-1 : Int32) (0 : Int32) z0)
def f_B_isMarkAsTold (xn : Nat) (p1 : Int32) (z0 : x_St) : Option (Int32 × x_St) :=
  (x_cl (f_B_get xn p1 (8 : Int32) z0) (fun r1 z1 =>
  (x_cl (f_B_get xn p1 (6 : Int32) z1) (fun r3 z3 =>
  (if r3 = 0 then
  (x_cl (f_B_get xn p1 (7 : Int32) z3) (fun r6 z6 =>
  (if r6 = (1 : Int32) then
  (if r1 < (1 : Int32) then
  (some ((0 : Int32), z6))
  else
  (if (2 : Int32) < r1 then
  (some ((0 : Int32), z6))
  else
  (some ((1 : Int32), z6))))
  else
  (some ((0 : Int32), z6)))))
  else
  (some ((0 : Int32), z3)))))))
def f_B_copyData (xn : Nat) (p1 : Int32) (p2 : Int32) (k3 : Nat) (p4 : Int32) (z0 : x_St) : Option (Unit × x_St) :=
  (x_ckc ((p1 * (64 : Int32)) + (8 : Int32)) p4 p2 (x_ln xn 2) (x_ln xn k3)
  (some ((), (x_cpy z0 2 (((p1 * (64 : Int32)) + (8 : Int32))).toNatClampNeg k3 (p4).toNatClampNeg (p2).toNatClampNeg))))
def f_B_beginImage (xn : Nat) (p1 : Int32) (p2 : Int32) (p3 : Int32) (p4 : Int32) (z0 : x_St) : Option (Unit × x_St) :=
  (x_cl (f_Arrays_fill xn 3 (0 : Int32) z0) (fun r1 z1 =>
  (x_ck (4 : Int32) (x_ln xn 3)
  (x_ck (5 : Int32) (x_ln xn 3)
  (x_ck (6 : Int32) (x_ln xn 3)
  (x_ck (7 : Int32) (x_ln xn 3)
  (some ((), (x_put (x_put (x_put (x_put z1 3 ((4 : Int32)).toNatClampNeg p1) 3 ((5 : Int32)).toNatClampNeg p2) 3 ((6 : Int32)).toNatClampNeg p3) 3 ((7 : Int32)).toNatClampNeg p4)))))))))
def f_B_put_32 (xn : Nat) (a1 : Int32) (a2 : Int32) (a3 : Int32) (z0 : x_St) : Option (Int32 × x_St) :=
  (x_ck ((a1 * (64 : Int32)) + a2) (x_ln xn 2)
  (some ((1 : Int32), (x_put z0 2 (((a1 * (64 : Int32)) + a2)).toNatClampNeg a3))))
def f_B_put (xn : Nat) (p1 : Int32) (p2 : Int32) (p3 : Int32) (z0 : x_St) : Option (Int32 × x_St) :=
  (if (z0.1 1 1) = 0 then
  (some ((0 : Int32), (x_put z0 1 2 (1 : Int32))))
  else
  (if (z0.1 1 1) = (-1 : Int32) then
  (f_B_put_32 xn p1 p2 p3 z0)
  else
  (f_B_put_32 xn p1 p2 p3 (x_put z0 1 1 ((z0.1 1 1) - (1 : Int32))))))
def f_B_writeImage_86 (xn : Nat) (a1 : Int32) (a3 : Int32) (z0 : x_St) : Option (Int32 × x_St) :=
  (if a3 = 0 then
  (some ((0 : Int32), z0))
  else
  (x_ck (4 : Int32) (x_ln xn 3)
  (x_cl (f_B_put xn a1 (4 : Int32) (z0.1 3 ((4 : Int32)).toNatClampNeg) z0) (fun r3 z3 =>
  (if r3 = 0 then
  (some ((0 : Int32), z3))
  else
  (some ((1 : Int32), z3)))))))
def f_B_writeImage_56 (xn : Nat) : Nat → Int32 → Int32 → Int32 → Int32 → x_St → Option (Int32 × x_St)
  | 0, _, _, _, _, _ => none
  | fu + 1, a1, a2, a3, a4, z0 =>
    (if (4 : Int32) ≤ a4 then
    (f_B_writeImage_86 xn a1 a3 z0)
    else
    (if a3 = 0 then
    (f_B_writeImage_86 xn a1 a3 z0)
    else
    (x_cl (f_B_byteOfSum xn a2 a4 z0) (fun r8 z8 =>
    (x_cl (f_B_put xn a1 a4 r8 z8) (fun r10 z10 =>
    (f_B_writeImage_56 xn fu a1 a2 r10 (a4 + (1 : Int32)) z10)))))))
def f_B_writeImage_53 (xn : Nat) (a1 : Int32) (a2 : Int32) (a3 : Int32) (z0 : x_St) : Option (Int32 × x_St) :=
  (f_B_writeImage_56 xn x_FU a1 a2 a3 (0 : Int32) z0)
def f_B_writeImage_21 (xn : Nat) : Nat → Int32 → Int32 → Int32 → Int32 → x_St → Option (Int32 × x_St)
  | 0, _, _, _, _, _ => none
  | fu + 1, a1, a2, a3, a4, z0 =>
    (if (64 : Int32) ≤ a4 then
    (f_B_writeImage_53 xn a1 a2 a3 z0)
    else
    (if a3 = 0 then
    (f_B_writeImage_53 xn a1 a2 a3 z0)
    else
    (x_ck a4 (x_ln xn 3)
    (x_cl (f_B_put xn a1 a4 (z0.1 3 (a4).toNatClampNeg) z0) (fun r15 z15 =>
    (f_B_writeImage_21 xn fu a1 a2 r15 (a4 + (1 : Int32)) z15))))))
def f_B_writeImage (xn : Nat) (p1 : Int32) (z0 : x_St) : Option (Int32 × x_St) :=
  (x_cl (f_B_sumOf xn p1 3 (0 : Int32) z0) (fun r17 z17 =>
  (x_cl (f_B_put xn p1 (4 : Int32) (0 : Int32) z17) (fun r19 z19 =>
  (f_B_writeImage_21 xn x_FU p1 r17 r19 (5 : Int32) z19)))))
def f_B_writeRecordBlock (xn : Nat) (p1 : Int32) (p2 : Int32) (p3 : Int32) (k4 : Nat) (z0 : x_St) : Option (Int32 × x_St) :=
  (x_cl (f_P_length xn k4 z0) (fun r1 z1 =>
  (x_cl (f_B_kindOf xn p3 z1) (fun r3 z3 =>
  (x_cl (f_B_beginImage xn r3 p2 p3 (if (r1 - (p3 * (56 : Int32))) < (56 : Int32) then (r1 - (p3 * (56 : Int32))) else (56 : Int32)) z3) (fun r5 z5 =>
  (x_ckc (p3 * (56 : Int32)) (8 : Int32) (if (r1 - (p3 * (56 : Int32))) < (56 : Int32) then (r1 - (p3 * (56 : Int32))) else (56 : Int32)) (x_ln xn (k4 + 1)) (x_ln xn 3)
  (x_cl (f_B_writeImage xn p1 (x_cpy z5 (k4 + 1) ((p3 * (56 : Int32))).toNatClampNeg 3 ((8 : Int32)).toNatClampNeg ((if (r1 - (p3 * (56 : Int32))) < (56 : Int32) then (r1 - (p3 * (56 : Int32))) else (56 : Int32))).toNatClampNeg)) (fun r7 z7 =>
  (x_ckb r7
  (some (r7, z7))))))))))))
def f_B_writeMark (xn : Nat) (p1 : Int32) (p2 : Int32) (p3 : Int32) (z0 : x_St) : Option (Int32 × x_St) :=
  (x_cl (f_B_beginImage xn (3 : Int32) p2 (0 : Int32) (1 : Int32) z0) (fun r1 z1 =>
  (x_ck (8 : Int32) (x_ln xn 3)
  (x_cl (f_B_writeImage xn p1 (x_put z1 3 ((8 : Int32)).toNatClampNeg p3)) (fun r4 z4 =>
  (x_ckb r4
  (some (r4, z4))))))))
def f_B_wipe_39 (xn : Nat) (a2 : Int32) (z0 : x_St) : Option (Int32 × x_St) :=
  (x_ckb a2
  (some (a2, z0)))
def f_B_wipe_10 (xn : Nat) : Nat → Int32 → Int32 → Int32 → x_St → Option (Int32 × x_St)
  | 0, _, _, _, _ => none
  | fu + 1, a1, a2, a3, z0 =>
    (if (64 : Int32) ≤ a3 then
    (f_B_wipe_39 xn a2 z0)
    else
    (if a2 = 0 then
    (f_B_wipe_39 xn a2 z0)
    else
    (if a3 = (4 : Int32) then
    (f_B_wipe_10 xn fu a1 a2 (a3 + (1 : Int32)) z0)
    else
    (x_cl (f_B_put xn a1 a3 (0 : Int32) z0) (fun r4 z4 =>
    (f_B_wipe_10 xn fu a1 r4 (a3 + (1 : Int32)) z4))))))
def f_B_wipe (xn : Nat) (p1 : Int32) (z0 : x_St) : Option (Int32 × x_St) :=
  (x_cl (f_B_put xn p1 (4 : Int32) (0 : Int32) z0) (fun r6 z6 =>
  (f_B_wipe_10 xn x_FU p1 r6 (0 : Int32) z6)))
abbrev rm_B_kindOf : Room := { frames := 0, cells := 0, slots := 0, locals := 0 }
set_option maxHeartbeats 4000000 in
set_option maxRecDepth 100000 in
theorem c_B_kindOf (l : Launch) (G : x_G) (p1 : Int32) (z0 : x_St) (r : Int32) (zo : x_St) (hf : f_B_kindOf (x_n G) p1 z0 = some (r, zo)) : Met l (⟨"ContentLibrary$Blocks", "kindOf", "(I)I"⟩ : MethodName) (x_ws (⟨"ContentLibrary$Blocks", "kindOf", "(I)I"⟩ : MethodName) prog_2_method_2_code 1 (some .int)) rm_B_kindOf (va_Pc [.int p1] (x_PW G z0)) (va_Qi (fun a u => r = a ∧ zo = u) (x_PW G) (x_A G)) 0 0 (x_A G) := by
  refine Met.ofW (cc := prog_2_method_2_code) (maxL := 1) (ret := (some .int)) (by decide) rfl ?_
  intro p e s m args below meth c s₁ B hml hv
  obtain ⟨rfl, hz, hP, hD, hK, hG⟩ := hv
  have C0 : x_Ctx G p s m _ meth c prog_2_method_2_code "ContentLibrary$Blocks" 1 (some .int) := ⟨B.exec, B.bytes, B.returns, hml, findClass_of_methodNamed B.named, fun w h => atoms_spec (ws := (x_ws (⟨"ContentLibrary$Blocks", "kindOf", "(I)I"⟩ : MethodName) prog_2_method_2_code 1 (some .int))) B.pre w (List.mem_cons_of_mem _ h), B.notSynchronized, hz, hK, hG⟩
  obtain ⟨hx, hb, hr, hml, hown, hts, hlocks, hz, hK, hG⟩ := id C0
  have hS : va_S (x_A G) s.heap s.heap [] := va_S.rf
  have hl := lv_entry ([.int p1]) (n := 1) (Nat.le_of_ble_eq_true rfl)
  rw [lg_entry_eq]
  generalize (lg_sl ([.int p1]) ++ List.replicate (1 - (lg_sl ([.int p1])).length) Slot.unset).toArray = ls at hl ⊢
  have hl : lv_has ls 1 [(0, .int p1)] := hl
  rw [f_B_kindOf] at hf
  refine lv_iload_n hx hb d_B_kindOf_0 rfl (lv_at hl 0 rfl) ?_
  refine lv_if_ne (tgt := 8) hx hb d_B_kindOf_1 (by decide) (fun hc1 => ?_) (fun hc1 => ?_)
  · have hf := x_br_f hf hc1
    refine lv_iconst (v := (2 : Int32)) hx hb d_B_kindOf_8 (by decide) ?_
    obtain ⟨rfl, rfl⟩ := x_ret hf
    exact W.iret (v := (2 : Int32)) hx hb hr (fun t ht hW => ⟨⟨_, _, rfl, ⟨rfl, rfl⟩, x_pw hP hD hK hG hS hz ht hW⟩, hS.F ht⟩) hS.2.2 d_B_kindOf_9
  · have hf := x_br_t hf hc1
    refine lv_iconst (v := (1 : Int32)) hx hb d_B_kindOf_4 (by decide) ?_
    refine lv_goto (tgt := 9) hx hb d_B_kindOf_5 (by decide) ?_
    obtain ⟨rfl, rfl⟩ := x_ret hf
    exact W.iret (v := (1 : Int32)) hx hb hr (fun t ht hW => ⟨⟨_, _, rfl, ⟨rfl, rfl⟩, x_pw hP hD hK hG hS hz ht hW⟩, hS.F ht⟩) hS.2.2 d_B_kindOf_9
abbrev rm_B_get : Room := { frames := 0, cells := 0, slots := 0, locals := 0 }
set_option maxHeartbeats 4000000 in
set_option maxRecDepth 100000 in
theorem c_B_get (l : Launch) (G : x_G) (p1 : Int32) (p2 : Int32) (z0 : x_St) (r : Int32) (zo : x_St) (hf : f_B_get (x_n G) p1 p2 z0 = some (r, zo)) : Met l (⟨"ContentLibrary$Blocks", "get", "(II)I"⟩ : MethodName) (x_ws (⟨"ContentLibrary$Blocks", "get", "(II)I"⟩ : MethodName) prog_2_method_3_code 3 (some .int)) rm_B_get (va_Pc [.ref (x_ad G 1), .int p1, .int p2] (x_PW G z0)) (va_Qi (fun a u => r = a ∧ zo = u) (x_PW G) (x_A G)) 0 0 (x_A G) := by
  refine Met.ofW (cc := prog_2_method_3_code) (maxL := 3) (ret := (some .int)) (by decide) rfl ?_
  intro p e s m args below meth c s₁ B hml hv
  obtain ⟨rfl, hz, hP, hD, hK, hG⟩ := hv
  have C0 : x_Ctx G p s m _ meth c prog_2_method_3_code "ContentLibrary$Blocks" 3 (some .int) := ⟨B.exec, B.bytes, B.returns, hml, findClass_of_methodNamed B.named, fun w h => atoms_spec (ws := (x_ws (⟨"ContentLibrary$Blocks", "get", "(II)I"⟩ : MethodName) prog_2_method_3_code 3 (some .int))) B.pre w (List.mem_cons_of_mem _ h), B.notSynchronized, hz, hK, hG⟩
  obtain ⟨hx, hb, hr, hml, hown, hts, hlocks, hz, hK, hG⟩ := id C0
  have hS : va_S (x_A G) s.heap s.heap [] := va_S.rf
  have hl := lv_entry ([.ref (x_ad G 1), .int p1, .int p2]) (n := 3) (Nat.le_of_ble_eq_true rfl)
  rw [lg_entry_eq]
  generalize (lg_sl ([.ref (x_ad G 1), .int p1, .int p2]) ++ List.replicate (3 - (lg_sl ([.ref (x_ad G 1), .int p1, .int p2])).length) Slot.unset).toArray = ls at hl ⊢
  have hl : lv_has ls 3 [(0, .ref (x_ad G 1)), (1, .int p1), (2, .int p2)] := hl
  rw [f_B_get] at hf
  refine lv_aload_n hx hb d_B_get_0 rfl (lv_at hl 0 rfl) ?_
  refine va_get (D := x_D G) (ci := 1) (v := .ref (x_ad G 2)) (C := "ContentLibrary$Blocks") (T := x_TB) (N := 5) hx hb hts x_inB hown hK hP 1 (x_lk_B G _) rfl 3 (by decide) (hts _ t_45) (fun _ h9 => h9) rfl d_B_get_1 ?_
  refine lv_iload_n hx hb d_B_get_4 rfl (lv_at hl 1 rfl) ?_
  refine lv_bipush (v := (64 : Int32)) hx hb d_B_get_5 (by decide) ?_
  refine lv_imul hx hb d_B_get_7 ?_
  refine lv_iload_n hx hb d_B_get_8 rfl (lv_at hl 2 rfl) ?_
  refine lv_iadd hx hb d_B_get_9 ?_
  obtain ⟨hin1, hf⟩ := x_ck_some hf
  refine va_iald hx hb hK hP 2 0 (x_lk_A G _ rfl) rfl hin1 d_B_get_10 ?_
  obtain ⟨rfl, rfl⟩ := x_ret hf
  exact W.iret (v := (z0.1 2 (((p1 * (64 : Int32)) + p2)).toNatClampNeg)) hx hb hr (fun t ht hW => ⟨⟨_, _, rfl, ⟨rfl, rfl⟩, x_pw hP hD hK hG hS hz ht hW⟩, hS.F ht⟩) hS.2.2 d_B_get_11
abbrev rm_B_turn : Room := { frames := 1, cells := 0, slots := 0, locals := 22 }
set_option maxHeartbeats 4000000 in
set_option maxRecDepth 100000 in
theorem c_B_turn (l : Launch) (G : x_G) (p1 : Int32) (p2 : Int32) (p3 : Int32) (z0 : x_St) (r : Int32) (zo : x_St) (hf : f_B_turn (x_n G) p1 p2 p3 z0 = some (r, zo)) : Met l (⟨"ContentLibrary$Blocks", "turn", "(III)I"⟩ : MethodName) (x_ws (⟨"ContentLibrary$Blocks", "turn", "(III)I"⟩ : MethodName) prog_2_method_4_code 4 (some .int)) rm_B_turn (va_Pc [.ref (x_ad G 1), .int p1, .int p2, .int p3] (x_PW G z0)) (va_Qi (fun a u => r = a ∧ zo = u) (x_PW G) (x_A G)) 0 0 (x_A G) := by
  refine Met.ofW (cc := prog_2_method_4_code) (maxL := 4) (ret := (some .int)) (by decide) rfl ?_
  intro p e s m args below meth c s₁ B hml hv
  obtain ⟨rfl, hz, hP, hD, hK, hG⟩ := hv
  have C0 : x_Ctx G p s m _ meth c prog_2_method_4_code "ContentLibrary$Blocks" 4 (some .int) := ⟨B.exec, B.bytes, B.returns, hml, findClass_of_methodNamed B.named, fun w h => atoms_spec (ws := (x_ws (⟨"ContentLibrary$Blocks", "turn", "(III)I"⟩ : MethodName) prog_2_method_4_code 4 (some .int))) B.pre w (List.mem_cons_of_mem _ h), B.notSynchronized, hz, hK, hG⟩
  obtain ⟨hx, hb, hr, hml, hown, hts, hlocks, hz, hK, hG⟩ := id C0
  have hS : va_S (x_A G) s.heap s.heap [] := va_S.rf
  have hl := lv_entry ([.ref (x_ad G 1), .int p1, .int p2, .int p3]) (n := 4) (Nat.le_of_ble_eq_true rfl)
  rw [lg_entry_eq]
  generalize (lg_sl ([.ref (x_ad G 1), .int p1, .int p2, .int p3]) ++ List.replicate (4 - (lg_sl ([.ref (x_ad G 1), .int p1, .int p2, .int p3])).length) Slot.unset).toArray = ls at hl ⊢
  have hl : lv_has ls 4 [(0, .ref (x_ad G 1)), (1, .int p1), (2, .int p2), (3, .int p3)] := hl
  rw [f_B_turn] at hf
  refine lv_aload_n hx hb d_B_turn_0 rfl (lv_at hl 0 rfl) ?_
  refine va_get (D := x_D G) (ci := 1) (v := .ref (x_ad G 2)) (C := "ContentLibrary$Blocks") (T := x_TB) (N := 5) hx hb hts x_inB hown hK hP 1 (x_lk_B G _) rfl 3 (by decide) (hts _ t_45) (fun _ h9 => h9) rfl d_B_turn_1 ?_
  refine lv_iload_n hx hb d_B_turn_4 rfl (lv_at hl 1 rfl) ?_
  refine lv_bipush (v := (64 : Int32)) hx hb d_B_turn_5 (by decide) ?_
  refine lv_imul hx hb d_B_turn_7 ?_
  refine lv_iload_n hx hb d_B_turn_8 rfl (lv_at hl 2 rfl) ?_
  refine lv_iadd hx hb d_B_turn_9 ?_
  refine lv_dup2_11 hx hb d_B_turn_10 rfl rfl ?_
  obtain ⟨hin1, hf⟩ := x_ck_some hf
  refine va_iald hx hb hK hP 2 0 (x_lk_A G _ rfl) rfl hin1 d_B_turn_11 ?_
  refine lv_iload_n hx hb d_B_turn_12 rfl (lv_at hl 3 rfl) ?_
  refine lv_ixor hx hb d_B_turn_13 ?_
  obtain ⟨hin2, hf⟩ := x_ck_some hf
  refine va_iast hx hb hK hP hD hS 2 0 (x_lk_A G _ rfl) rfl hin2 d_B_turn_14 (fun H locs hP hD hS => ?_)
  rw [x_st_A G _ (k := 2) rfl] at hP hD
  refine lv_aload_n hx hb d_B_turn_15 rfl (lv_at hl 0 rfl) ?_
  refine lv_iload_n hx hb d_B_turn_16 rfl (lv_at hl 1 rfl) ?_
  refine lv_iload_n hx hb d_B_turn_17 rfl (lv_at hl 2 rfl) ?_
  obtain ⟨r3, z3, hq4, hf⟩ := x_cl_some hf
  refine va_calli (va_runV (As := [.int p1, .int p2]) (rest := []) ⟨hx, hb, hml, hown, hts⟩ (c_B_get l G p1 p2 (x_put z0 2 (((p1 * (64 : Int32)) + p2)).toNatClampNeg ((z0.1 2 (((p1 * (64 : Int32)) + p2)).toNatClampNeg) ^^^ p3)) r3 z3 hq4) (cwV 2 hts (x_gV t_174 t_175 t_176 t_3 t_177) rfl rfl rfl (by decide +kernel) ⟨Nat.le_of_ble_eq_true rfl, Nat.le_of_ble_eq_true rfl⟩) ⟨x_blind _ _ _, va_recv hK hP (ci := 1) (q0 := 1) rfl (x_lk_B G _), fun U hU hW => ⟨rfl, x_pw hP hD hK hG hS hz hU hW⟩⟩ rfl rfl hl.1 rfl (lv_room (Nat.le_of_ble_eq_true rfl)) d_B_turn_18 ⟨Nat.le_of_ble_eq_true rfl, Nat.le_of_ble_eq_true rfl⟩) hS (fun q _ h => h) (fun q h => h) (fun ra u t H locs ht hvm hw hB _ _ hS => ?_)
  obtain ⟨rfl, rfl⟩ := hw
  obtain ⟨hP, hD⟩ := x_back hB ht
  obtain ⟨rfl, rfl⟩ := x_ret hf
  exact W.iret (v := r3) hx hb hr (fun t ht hW => ⟨⟨_, _, rfl, ⟨rfl, rfl⟩, x_pw hP hD hK hG hS hz ht hW⟩, hS.F ht⟩) hS.2.2 d_B_turn_21
abbrev rm_B_isBlank : Room := { frames := 1, cells := 0, slots := 0, locals := 22 }
set_option maxHeartbeats 4000000 in
set_option maxRecDepth 100000 in
theorem w_B_isBlank_2 (l : Launch) (G : x_G) {p : Program} {e : Env} {s : State} {m : MethodId} {args : Array Value} {below : List Frame} {meth : Method} {c : Code} (C0 : x_Ctx G p s m args meth c prog_2_method_5_code "ContentLibrary$Blocks" 3 (some .boolean)) (r : Int32) (zo : x_St) : ∀ (fu : Nat), ∀ (a1 : Int32) (a2 : Int32) (z0 : x_St), f_B_isBlank_2 (x_n G) fu a1 a2 z0 = some (r, zo) → ∀ (H : Heap) (locs : List Loc) (ls : Array Slot), va_P (x_D G) vwCl (x_Wd G z0) H → va_D (x_A G) (x_Wd G z0) → va_S (x_A G) s.heap H locs → lv_has ls 3 [(0, .ref (x_ad G 1)), (1, .int a1), (2, .int a2)] → W p l e rm_B_isBlank s m args below meth c H locs 0 0 (MQ below (va_Qi (fun a u => r = a ∧ zo = u) (x_PW G) (x_A G)) args s 0 0 (x_A G)) (F0 m 2 ls []) := by
  obtain ⟨hx, hb, hr, hml, hown, hts, hlocks, hz, hK, hG⟩ := id C0
  intro fu
  induction fu with
  | zero =>
    intro a1 a2 z0 hf
    rw [f_B_isBlank_2] at hf
    cases hf
  | succ fu ih =>
    intro a1 a2 z0 hf H locs ls hP hD hS hl
    rw [f_B_isBlank_2] at hf
    refine lv_iload_n hx hb d_B_isBlank_2 rfl (lv_at hl 2 rfl) ?_
    refine lv_bipush (v := (64 : Int32)) hx hb d_B_isBlank_3 (by decide) ?_
    refine lv_icmp_ge (tgt := 25) hx hb d_B_isBlank_5 (by decide) (fun hc1 => ?_) (fun hc1 => ?_)
    · have hf := x_br_t hf hc1
      refine lv_iconst (v := (1 : Int32)) hx hb d_B_isBlank_25 (by decide) ?_
      obtain ⟨rfl, rfl⟩ := x_ret hf
      exact W.zret (v := (1 : Int32)) hx hb hr rfl (fun t ht hW => ⟨⟨_, _, rfl, ⟨rfl, rfl⟩, x_pw hP hD hK hG hS hz ht hW⟩, hS.F ht⟩) hS.2.2 d_B_isBlank_26
    · have hf := x_br_f hf hc1
      refine lv_aload_n hx hb d_B_isBlank_8 rfl (lv_at hl 0 rfl) ?_
      refine lv_iload_n hx hb d_B_isBlank_9 rfl (lv_at hl 1 rfl) ?_
      refine lv_iload_n hx hb d_B_isBlank_10 rfl (lv_at hl 2 rfl) ?_
      obtain ⟨r2, z2, hq3, hf⟩ := x_cl_some hf
      refine va_calli (va_runV (As := [.int a1, .int a2]) (rest := []) ⟨hx, hb, hml, hown, hts⟩ (c_B_get l G a1 a2 z0 r2 z2 hq3) (cwV 2 hts (x_gV t_174 t_175 t_176 t_3 t_177) rfl rfl rfl (by decide +kernel) ⟨Nat.le_of_ble_eq_true rfl, Nat.le_of_ble_eq_true rfl⟩) ⟨x_blind _ _ _, va_recv hK hP (ci := 1) (q0 := 1) rfl (x_lk_B G _), fun U hU hW => ⟨rfl, x_pw hP hD hK hG hS hz hU hW⟩⟩ rfl rfl hl.1 rfl (lv_room (Nat.le_of_ble_eq_true rfl)) d_B_isBlank_11 ⟨Nat.le_of_ble_eq_true rfl, Nat.le_of_ble_eq_true rfl⟩) hS (fun q _ h => h) (fun q h => h) (fun ra u t H locs ht hvm hw hB _ _ hS => ?_)
      obtain ⟨rfl, rfl⟩ := hw
      obtain ⟨hP, hD⟩ := x_back hB ht
      refine lv_if_eq (tgt := 19) hx hb d_B_isBlank_14 (by decide) (fun hc4 => ?_) (fun hc4 => ?_)
      · have hf := x_br_t hf hc4
        refine lv_iinc (v := (a2 + (1 : Int32))) (lv' := [(2, .int (a2 + (1 : Int32))), (0, .ref (x_ad G 1)), (1, .int a1)]) hx hb d_B_isBlank_19 hl (k := 2) rfl rfl (by decide) rfl (fun ls hl => ?_)
        refine lv_goto (tgt := 2) hx hb d_B_isBlank_22 (by decide) ?_
        exact ih a1 (a2 + (1 : Int32)) z2 hf _ _ _ hP hD hS (lv_sub hl [1, 2, 0] rfl)
      · have hf := x_br_f hf hc4
        refine lv_iconst (v := (0 : Int32)) hx hb d_B_isBlank_17 (by decide) ?_
        obtain ⟨rfl, rfl⟩ := x_ret hf
        exact W.zret (v := (0 : Int32)) hx hb hr rfl (fun t ht hW => ⟨⟨_, _, rfl, ⟨rfl, rfl⟩, x_pw hP hD hK hG hS hz ht hW⟩, hS.F ht⟩) hS.2.2 d_B_isBlank_18
set_option maxHeartbeats 4000000 in
set_option maxRecDepth 100000 in
theorem c_B_isBlank (l : Launch) (G : x_G) (p1 : Int32) (z0 : x_St) (r : Int32) (zo : x_St) (hf : f_B_isBlank (x_n G) p1 z0 = some (r, zo)) : Met l (⟨"ContentLibrary$Blocks", "isBlank", "(I)Z"⟩ : MethodName) (x_ws (⟨"ContentLibrary$Blocks", "isBlank", "(I)Z"⟩ : MethodName) prog_2_method_5_code 3 (some .boolean)) rm_B_isBlank (va_Pc [.ref (x_ad G 1), .int p1] (x_PW G z0)) (va_Qi (fun a u => r = a ∧ zo = u) (x_PW G) (x_A G)) 0 0 (x_A G) := by
  refine Met.ofW (cc := prog_2_method_5_code) (maxL := 3) (ret := (some .boolean)) (by decide) rfl ?_
  intro p e s m args below meth c s₁ B hml hv
  obtain ⟨rfl, hz, hP, hD, hK, hG⟩ := hv
  have C0 : x_Ctx G p s m _ meth c prog_2_method_5_code "ContentLibrary$Blocks" 3 (some .boolean) := ⟨B.exec, B.bytes, B.returns, hml, findClass_of_methodNamed B.named, fun w h => atoms_spec (ws := (x_ws (⟨"ContentLibrary$Blocks", "isBlank", "(I)Z"⟩ : MethodName) prog_2_method_5_code 3 (some .boolean))) B.pre w (List.mem_cons_of_mem _ h), B.notSynchronized, hz, hK, hG⟩
  obtain ⟨hx, hb, hr, hml, hown, hts, hlocks, hz, hK, hG⟩ := id C0
  have hS : va_S (x_A G) s.heap s.heap [] := va_S.rf
  have hl := lv_entry ([.ref (x_ad G 1), .int p1]) (n := 3) (Nat.le_of_ble_eq_true rfl)
  rw [lg_entry_eq]
  generalize (lg_sl ([.ref (x_ad G 1), .int p1]) ++ List.replicate (3 - (lg_sl ([.ref (x_ad G 1), .int p1])).length) Slot.unset).toArray = ls at hl ⊢
  have hl : lv_has ls 3 [(0, .ref (x_ad G 1)), (1, .int p1)] := hl
  rw [f_B_isBlank] at hf
  refine lv_iconst (v := (0 : Int32)) hx hb d_B_isBlank_0 (by decide) ?_
  refine lv_istore_n (lv' := [(2, .int (0 : Int32)), (0, .ref (x_ad G 1)), (1, .int p1)]) hx hb d_B_isBlank_1 rfl hl (by decide) rfl (fun ls hl => ?_)
  exact w_B_isBlank_2 l G C0 r zo x_FU p1 (0 : Int32) z0 hf _ _ _ hP hD hS (lv_sub hl [1, 2, 0] rfl)
abbrev rm_B_sumOf : Room := { frames := 1, cells := 0, slots := 0, locals := 21 }
set_option maxHeartbeats 4000000 in
set_option maxRecDepth 100000 in
theorem w_B_sumOf_39 (l : Launch) (G : x_G) {p : Program} {e : Env} {s : State} {m : MethodId} {args : Array Value} {below : List Frame} {meth : Method} {c : Code} (C0 : x_Ctx G p s m args meth c prog_2_method_8_code "ContentLibrary$Blocks" 5 (some .int)) (r : Int32) (zo : x_St) : ∀ (a3 : Int32) (z0 : x_St), f_B_sumOf_39 (x_n G) a3 z0 = some (r, zo) → ∀ (H : Heap) (locs : List Loc) (ls : Array Slot), va_P (x_D G) vwCl (x_Wd G z0) H → va_D (x_A G) (x_Wd G z0) → va_S (x_A G) s.heap H locs → lv_has ls 5 [(3, .int a3)] → W p l e rm_B_sumOf s m args below meth c H locs 0 0 (MQ below (va_Qi (fun a u => r = a ∧ zo = u) (x_PW G) (x_A G)) args s 0 0 (x_A G)) (F0 m 39 ls []) := by
  obtain ⟨hx, hb, hr, hml, hown, hts, hlocks, hz, hK, hG⟩ := id C0
  intro a3 z0 hf H locs ls hP hD hS hl
  rw [f_B_sumOf_39] at hf
  refine lv_iload_n hx hb d_B_sumOf_39 rfl (lv_at hl 0 rfl) ?_
  obtain ⟨rfl, rfl⟩ := x_ret hf
  exact W.iret (v := a3) hx hb hr (fun t ht hW => ⟨⟨_, _, rfl, ⟨rfl, rfl⟩, x_pw hP hD hK hG hS hz ht hW⟩, hS.F ht⟩) hS.2.2 d_B_sumOf_40
set_option maxHeartbeats 4000000 in
set_option maxRecDepth 100000 in
theorem w_B_sumOf_9 (l : Launch) (G : x_G) {p : Program} {e : Env} {s : State} {m : MethodId} {args : Array Value} {below : List Frame} {meth : Method} {c : Code} (C0 : x_Ctx G p s m args meth c prog_2_method_8_code "ContentLibrary$Blocks" 5 (some .int)) (r : Int32) (zo : x_St) : ∀ (fu : Nat), ∀ (a1 : Nat) (ha1 : x_isA a1 = true) (a2 : Int32) (a3 : Int32) (a4 : Int32) (z0 : x_St), f_B_sumOf_9 (x_n G) fu a1 a2 a3 a4 z0 = some (r, zo) → ∀ (H : Heap) (locs : List Loc) (ls : Array Slot), va_P (x_D G) vwCl (x_Wd G z0) H → va_D (x_A G) (x_Wd G z0) → va_S (x_A G) s.heap H locs → lv_has ls 5 [(1, .ref (x_ad G a1)), (2, .int a2), (3, .int a3), (4, .int a4)] → W p l e rm_B_sumOf s m args below meth c H locs 0 0 (MQ below (va_Qi (fun a u => r = a ∧ zo = u) (x_PW G) (x_A G)) args s 0 0 (x_A G)) (F0 m 9 ls []) := by
  obtain ⟨hx, hb, hr, hml, hown, hts, hlocks, hz, hK, hG⟩ := id C0
  intro fu
  induction fu with
  | zero =>
    intro a1 ha1 a2 a3 a4 z0 hf
    rw [f_B_sumOf_9] at hf
    cases hf
  | succ fu ih =>
    intro a1 ha1 a2 a3 a4 z0 hf H locs ls hP hD hS hl
    rw [f_B_sumOf_9] at hf
    refine lv_iload hx hb d_B_sumOf_9 (lv_at hl 3 rfl) ?_
    refine lv_bipush (v := (64 : Int32)) hx hb d_B_sumOf_11 (by decide) ?_
    refine lv_icmp_ge (tgt := 39) hx hb d_B_sumOf_13 (by decide) (fun hc1 => ?_) (fun hc1 => ?_)
    · have hf := x_br_t hf hc1
      exact w_B_sumOf_39 l G C0 r zo a3 z0 hf _ _ _ hP hD hS (lv_sub hl [2] rfl)
    · have hf := x_br_f hf hc1
      refine lv_iload_n hx hb d_B_sumOf_16 rfl (lv_at hl 2 rfl) ?_
      refine lv_aload_n hx hb d_B_sumOf_17 rfl (lv_at hl 0 rfl) ?_
      refine lv_iload_n hx hb d_B_sumOf_18 rfl (lv_at hl 1 rfl) ?_
      refine lv_iload hx hb d_B_sumOf_19 (lv_at hl 3 rfl) ?_
      refine lv_iadd hx hb d_B_sumOf_21 ?_
      obtain ⟨hin2, hf⟩ := x_ck_some hf
      refine va_iald hx hb hK hP a1 0 (x_lk_A G _ ha1) rfl hin2 d_B_sumOf_22 ?_
      refine lv_ixor hx hb d_B_sumOf_23 ?_
      refine lv_bipush (v := (7 : Int32)) hx hb d_B_sumOf_24 (by decide) ?_
      obtain ⟨r3, z3, hq4, hf⟩ := x_cl_some hf
      refine va_calli (va_runS (As := [.int (a3 ^^^ (z0.1 a1 ((a2 + a4)).toNatClampNeg)), .int (7 : Int32)]) (rest := []) ⟨hx, hb, hml, hown, hts⟩ (c_Integer_rotateLeft l G (a3 ^^^ (z0.1 a1 ((a2 + a4)).toNatClampNeg)) (7 : Int32) z0 r3 z3 hq4) (va_cwS 2 hts (x_gS t_189 t_190 t_17 t_191) rfl rfl rfl (by decide +kernel) ⟨Nat.le_of_ble_eq_true rfl, Nat.le_of_ble_eq_true rfl⟩) ⟨x_blind _ _ _, fun U hU hW => ⟨rfl, x_pw hP hD hK hG hS hz hU hW⟩⟩ rfl rfl hl.1 rfl (lv_room (Nat.le_of_ble_eq_true rfl)) d_B_sumOf_26 ⟨Nat.le_of_ble_eq_true rfl, Nat.le_of_ble_eq_true rfl⟩) hS (fun q _ h => h) (fun q h => h) (fun ra u t H locs ht hvm hw hB _ _ hS => ?_)
      obtain ⟨rfl, rfl⟩ := hw
      obtain ⟨hP, hD⟩ := x_back hB ht
      refine lv_ldc (v := (374761393 : Int32)) hx hb hown (hts _ t_192) d_B_sumOf_29 ?_
      refine lv_imul hx hb d_B_sumOf_31 ?_
      refine lv_istore_n (lv' := [(3, .int (r3 * (374761393 : Int32))), (1, .ref (x_ad G a1)), (2, .int a2), (4, .int a4)]) hx hb d_B_sumOf_32 rfl hl (by decide) rfl (fun ls hl => ?_)
      refine lv_iinc (v := (a4 + (1 : Int32))) (lv' := [(4, .int (a4 + (1 : Int32))), (3, .int (r3 * (374761393 : Int32))), (1, .ref (x_ad G a1)), (2, .int a2)]) hx hb d_B_sumOf_33 hl (k := 3) rfl rfl (by decide) rfl (fun ls hl => ?_)
      refine lv_goto (tgt := 9) hx hb d_B_sumOf_36 (by decide) ?_
      exact ih a1 ha1 a2 (r3 * (374761393 : Int32)) (a4 + (1 : Int32)) z3 hf _ _ _ hP hD hS (lv_sub hl [2, 3, 1, 0] rfl)
set_option maxHeartbeats 4000000 in
set_option maxRecDepth 100000 in
theorem c_B_sumOf (l : Launch) (G : x_G) (p1 : Int32) (k2 : Nat) (hk2 : x_isA k2 = true) (p3 : Int32) (z0 : x_St) (r : Int32) (zo : x_St) (hf : f_B_sumOf (x_n G) p1 k2 p3 z0 = some (r, zo)) : Met l (⟨"ContentLibrary$Blocks", "sumOf", "(I[II)I"⟩ : MethodName) (x_ws (⟨"ContentLibrary$Blocks", "sumOf", "(I[II)I"⟩ : MethodName) prog_2_method_8_code 5 (some .int)) rm_B_sumOf (va_Pc [.int p1, .ref (x_ad G k2), .int p3] (x_PW G z0)) (va_Qi (fun a u => r = a ∧ zo = u) (x_PW G) (x_A G)) 0 0 (x_A G) := by
  refine Met.ofW (cc := prog_2_method_8_code) (maxL := 5) (ret := (some .int)) (by decide) rfl ?_
  intro p e s m args below meth c s₁ B hml hv
  obtain ⟨rfl, hz, hP, hD, hK, hG⟩ := hv
  have C0 : x_Ctx G p s m _ meth c prog_2_method_8_code "ContentLibrary$Blocks" 5 (some .int) := ⟨B.exec, B.bytes, B.returns, hml, findClass_of_methodNamed B.named, fun w h => atoms_spec (ws := (x_ws (⟨"ContentLibrary$Blocks", "sumOf", "(I[II)I"⟩ : MethodName) prog_2_method_8_code 5 (some .int))) B.pre w (List.mem_cons_of_mem _ h), B.notSynchronized, hz, hK, hG⟩
  obtain ⟨hx, hb, hr, hml, hown, hts, hlocks, hz, hK, hG⟩ := id C0
  have hS : va_S (x_A G) s.heap s.heap [] := va_S.rf
  have hl := lv_entry ([.int p1, .ref (x_ad G k2), .int p3]) (n := 5) (Nat.le_of_ble_eq_true rfl)
  rw [lg_entry_eq]
  generalize (lg_sl ([.int p1, .ref (x_ad G k2), .int p3]) ++ List.replicate (5 - (lg_sl ([.int p1, .ref (x_ad G k2), .int p3])).length) Slot.unset).toArray = ls at hl ⊢
  have hl : lv_has ls 5 [(0, .int p1), (1, .ref (x_ad G k2)), (2, .int p3)] := hl
  rw [f_B_sumOf] at hf
  refine lv_iload_n hx hb d_B_sumOf_0 rfl (lv_at hl 0 rfl) ?_
  refine lv_sipush (v := (256 : Int32)) hx hb d_B_sumOf_1 (by decide) ?_
  refine lv_iadd hx hb d_B_sumOf_4 ?_
  refine lv_istore_n (lv' := [(3, .int (p1 + (256 : Int32))), (0, .int p1), (1, .ref (x_ad G k2)), (2, .int p3)]) hx hb d_B_sumOf_5 rfl hl (by decide) rfl (fun ls hl => ?_)
  refine lv_iconst (v := (4 : Int32)) hx hb d_B_sumOf_6 (by decide) ?_
  refine lv_istore (lv' := [(4, .int (4 : Int32)), (3, .int (p1 + (256 : Int32))), (0, .int p1), (1, .ref (x_ad G k2)), (2, .int p3)]) hx hb d_B_sumOf_7 hl (by decide) rfl (fun ls hl => ?_)
  exact w_B_sumOf_9 l G C0 r zo x_FU k2 hk2 p3 (p1 + (256 : Int32)) (4 : Int32) z0 hf _ _ _ hP hD hS (lv_sub hl [3, 4, 1, 0] rfl)
abbrev rm_B_byteOfSum : Room := { frames := 0, cells := 0, slots := 0, locals := 0 }
set_option maxHeartbeats 4000000 in
set_option maxRecDepth 100000 in
theorem c_B_byteOfSum (l : Launch) (G : x_G) (p1 : Int32) (p2 : Int32) (z0 : x_St) (r : Int32) (zo : x_St) (hf : f_B_byteOfSum (x_n G) p1 p2 z0 = some (r, zo)) : Met l (⟨"ContentLibrary$Blocks", "byteOfSum", "(II)I"⟩ : MethodName) (x_ws (⟨"ContentLibrary$Blocks", "byteOfSum", "(II)I"⟩ : MethodName) prog_2_method_9_code 2 (some .int)) rm_B_byteOfSum (va_Pc [.int p1, .int p2] (x_PW G z0)) (va_Qi (fun a u => r = a ∧ zo = u) (x_PW G) (x_A G)) 0 0 (x_A G) := by
  refine Met.ofW (cc := prog_2_method_9_code) (maxL := 2) (ret := (some .int)) (by decide) rfl ?_
  intro p e s m args below meth c s₁ B hml hv
  obtain ⟨rfl, hz, hP, hD, hK, hG⟩ := hv
  have C0 : x_Ctx G p s m _ meth c prog_2_method_9_code "ContentLibrary$Blocks" 2 (some .int) := ⟨B.exec, B.bytes, B.returns, hml, findClass_of_methodNamed B.named, fun w h => atoms_spec (ws := (x_ws (⟨"ContentLibrary$Blocks", "byteOfSum", "(II)I"⟩ : MethodName) prog_2_method_9_code 2 (some .int))) B.pre w (List.mem_cons_of_mem _ h), B.notSynchronized, hz, hK, hG⟩
  obtain ⟨hx, hb, hr, hml, hown, hts, hlocks, hz, hK, hG⟩ := id C0
  have hS : va_S (x_A G) s.heap s.heap [] := va_S.rf
  have hl := lv_entry ([.int p1, .int p2]) (n := 2) (Nat.le_of_ble_eq_true rfl)
  rw [lg_entry_eq]
  generalize (lg_sl ([.int p1, .int p2]) ++ List.replicate (2 - (lg_sl ([.int p1, .int p2])).length) Slot.unset).toArray = ls at hl ⊢
  have hl : lv_has ls 2 [(0, .int p1), (1, .int p2)] := hl
  rw [f_B_byteOfSum] at hf
  refine lv_iload_n hx hb d_B_byteOfSum_0 rfl (lv_at hl 0 rfl) ?_
  refine lv_bipush (v := (8 : Int32)) hx hb d_B_byteOfSum_1 (by decide) ?_
  refine lv_iload_n hx hb d_B_byteOfSum_3 rfl (lv_at hl 1 rfl) ?_
  refine lv_imul hx hb d_B_byteOfSum_4 ?_
  refine lv_iushr (v := (x_ushr p1 ((8 : Int32) * p2))) hx hb d_B_byteOfSum_5 rfl ?_
  refine lv_sipush (v := (255 : Int32)) hx hb d_B_byteOfSum_6 (by decide) ?_
  refine lv_iand hx hb d_B_byteOfSum_9 ?_
  obtain ⟨rfl, rfl⟩ := x_ret hf
  exact W.iret (v := ((x_ushr p1 ((8 : Int32) * p2)) &&& (255 : Int32))) hx hb hr (fun t ht hW => ⟨⟨_, _, rfl, ⟨rfl, rfl⟩, x_pw hP hD hK hG hS hz ht hW⟩, hS.F ht⟩) hS.2.2 d_B_byteOfSum_10
abbrev rm_B_hasRightSum : Room := { frames := 2, cells := 0, slots := 0, locals := 45 }
set_option maxHeartbeats 4000000 in
set_option maxRecDepth 100000 in
theorem w_B_hasRightSum_15 (l : Launch) (G : x_G) {p : Program} {e : Env} {s : State} {m : MethodId} {args : Array Value} {below : List Frame} {meth : Method} {c : Code} (C0 : x_Ctx G p s m args meth c prog_2_method_7_code "ContentLibrary$Blocks" 4 (some .boolean)) (r : Int32) (zo : x_St) : ∀ (fu : Nat), ∀ (a1 : Int32) (a2 : Int32) (a3 : Int32) (z0 : x_St), f_B_hasRightSum_15 (x_n G) fu a1 a2 a3 z0 = some (r, zo) → ∀ (H : Heap) (locs : List Loc) (ls : Array Slot), va_P (x_D G) vwCl (x_Wd G z0) H → va_D (x_A G) (x_Wd G z0) → va_S (x_A G) s.heap H locs → lv_has ls 4 [(0, .ref (x_ad G 1)), (1, .int a1), (2, .int a2), (3, .int a3)] → W p l e rm_B_hasRightSum s m args below meth c H locs 0 0 (MQ below (va_Qi (fun a u => r = a ∧ zo = u) (x_PW G) (x_A G)) args s 0 0 (x_A G)) (F0 m 15 ls []) := by
  obtain ⟨hx, hb, hr, hml, hown, hts, hlocks, hz, hK, hG⟩ := id C0
  intro fu
  induction fu with
  | zero =>
    intro a1 a2 a3 z0 hf
    rw [f_B_hasRightSum_15] at hf
    cases hf
  | succ fu ih =>
    intro a1 a2 a3 z0 hf H locs ls hP hD hS hl
    rw [f_B_hasRightSum_15] at hf
    refine lv_iload_n hx hb d_B_hasRightSum_15 rfl (lv_at hl 3 rfl) ?_
    refine lv_iconst (v := (4 : Int32)) hx hb d_B_hasRightSum_16 (by decide) ?_
    refine lv_icmp_ge (tgt := 42) hx hb d_B_hasRightSum_17 (by decide) (fun hc1 => ?_) (fun hc1 => ?_)
    · have hf := x_br_t hf hc1
      refine lv_iconst (v := (1 : Int32)) hx hb d_B_hasRightSum_42 (by decide) ?_
      obtain ⟨rfl, rfl⟩ := x_ret hf
      exact W.zret (v := (1 : Int32)) hx hb hr rfl (fun t ht hW => ⟨⟨_, _, rfl, ⟨rfl, rfl⟩, x_pw hP hD hK hG hS hz ht hW⟩, hS.F ht⟩) hS.2.2 d_B_hasRightSum_43
    · have hf := x_br_f hf hc1
      refine lv_aload_n hx hb d_B_hasRightSum_20 rfl (lv_at hl 0 rfl) ?_
      refine lv_iload_n hx hb d_B_hasRightSum_21 rfl (lv_at hl 1 rfl) ?_
      refine lv_iload_n hx hb d_B_hasRightSum_22 rfl (lv_at hl 3 rfl) ?_
      obtain ⟨r2, z2, hq3, hf⟩ := x_cl_some hf
      refine va_calli (va_runV (As := [.int a1, .int a3]) (rest := []) ⟨hx, hb, hml, hown, hts⟩ (c_B_get l G a1 a3 z0 r2 z2 hq3) (cwV 2 hts (x_gV t_174 t_175 t_176 t_3 t_177) rfl rfl rfl (by decide +kernel) ⟨Nat.le_of_ble_eq_true rfl, Nat.le_of_ble_eq_true rfl⟩) ⟨x_blind _ _ _, va_recv hK hP (ci := 1) (q0 := 1) rfl (x_lk_B G _), fun U hU hW => ⟨rfl, x_pw hP hD hK hG hS hz hU hW⟩⟩ rfl rfl hl.1 rfl (lv_room (Nat.le_of_ble_eq_true rfl)) d_B_hasRightSum_23 ⟨Nat.le_of_ble_eq_true rfl, Nat.le_of_ble_eq_true rfl⟩) hS (fun q _ h => h) (fun q h => h) (fun ra u t H locs ht hvm hw hB _ _ hS => ?_)
      obtain ⟨rfl, rfl⟩ := hw
      obtain ⟨hP, hD⟩ := x_back hB ht
      refine lv_iload_n hx hb d_B_hasRightSum_26 rfl (lv_at hl 2 rfl) ?_
      refine lv_iload_n hx hb d_B_hasRightSum_27 rfl (lv_at hl 3 rfl) ?_
      obtain ⟨r4, z4, hq5, hf⟩ := x_cl_some hf
      refine va_calli (va_runS (As := [.int a2, .int a3]) (rest := [.int r2]) ⟨hx, hb, hml, hown, hts⟩ (c_B_byteOfSum l G a2 a3 z2 r4 z4 hq5) (va_cwS 2 hts (x_gS t_193 t_194 t_3 t_195) rfl rfl rfl (by decide +kernel) ⟨Nat.le_of_ble_eq_true rfl, Nat.le_of_ble_eq_true rfl⟩) ⟨x_blind _ _ _, fun U hU hW => ⟨rfl, x_pw hP hD hK hG hS hz hU hW⟩⟩ rfl rfl hl.1 rfl (lv_room (Nat.le_of_ble_eq_true rfl)) d_B_hasRightSum_28 ⟨Nat.le_of_ble_eq_true rfl, Nat.le_of_ble_eq_true rfl⟩) hS (fun q _ h => h) (fun q h => h) (fun ra u t H locs ht hvm hw hB _ _ hS => ?_)
      obtain ⟨rfl, rfl⟩ := hw
      obtain ⟨hP, hD⟩ := x_back hB ht
      refine lv_icmp_eq (tgt := 36) hx hb d_B_hasRightSum_31 (by decide) (fun hc6 => ?_) (fun hc6 => ?_)
      · have hf := x_br_t hf hc6
        refine lv_iinc (v := (a3 + (1 : Int32))) (lv' := [(3, .int (a3 + (1 : Int32))), (0, .ref (x_ad G 1)), (1, .int a1), (2, .int a2)]) hx hb d_B_hasRightSum_36 hl (k := 3) rfl rfl (by decide) rfl (fun ls hl => ?_)
        refine lv_goto (tgt := 15) hx hb d_B_hasRightSum_39 (by decide) ?_
        exact ih a1 a2 (a3 + (1 : Int32)) z4 hf _ _ _ hP hD hS (lv_sub hl [1, 2, 3, 0] rfl)
      · have hf := x_br_f hf hc6
        refine lv_iconst (v := (0 : Int32)) hx hb d_B_hasRightSum_34 (by decide) ?_
        obtain ⟨rfl, rfl⟩ := x_ret hf
        exact W.zret (v := (0 : Int32)) hx hb hr rfl (fun t ht hW => ⟨⟨_, _, rfl, ⟨rfl, rfl⟩, x_pw hP hD hK hG hS hz ht hW⟩, hS.F ht⟩) hS.2.2 d_B_hasRightSum_35
set_option maxHeartbeats 4000000 in
set_option maxRecDepth 100000 in
theorem c_B_hasRightSum (l : Launch) (G : x_G) (p1 : Int32) (z0 : x_St) (r : Int32) (zo : x_St) (hf : f_B_hasRightSum (x_n G) p1 z0 = some (r, zo)) : Met l (⟨"ContentLibrary$Blocks", "hasRightSum", "(I)Z"⟩ : MethodName) (x_ws (⟨"ContentLibrary$Blocks", "hasRightSum", "(I)Z"⟩ : MethodName) prog_2_method_7_code 4 (some .boolean)) rm_B_hasRightSum (va_Pc [.ref (x_ad G 1), .int p1] (x_PW G z0)) (va_Qi (fun a u => r = a ∧ zo = u) (x_PW G) (x_A G)) 0 0 (x_A G) := by
  refine Met.ofW (cc := prog_2_method_7_code) (maxL := 4) (ret := (some .boolean)) (by decide) rfl ?_
  intro p e s m args below meth c s₁ B hml hv
  obtain ⟨rfl, hz, hP, hD, hK, hG⟩ := hv
  have C0 : x_Ctx G p s m _ meth c prog_2_method_7_code "ContentLibrary$Blocks" 4 (some .boolean) := ⟨B.exec, B.bytes, B.returns, hml, findClass_of_methodNamed B.named, fun w h => atoms_spec (ws := (x_ws (⟨"ContentLibrary$Blocks", "hasRightSum", "(I)Z"⟩ : MethodName) prog_2_method_7_code 4 (some .boolean))) B.pre w (List.mem_cons_of_mem _ h), B.notSynchronized, hz, hK, hG⟩
  obtain ⟨hx, hb, hr, hml, hown, hts, hlocks, hz, hK, hG⟩ := id C0
  have hS : va_S (x_A G) s.heap s.heap [] := va_S.rf
  have hl := lv_entry ([.ref (x_ad G 1), .int p1]) (n := 4) (Nat.le_of_ble_eq_true rfl)
  rw [lg_entry_eq]
  generalize (lg_sl ([.ref (x_ad G 1), .int p1]) ++ List.replicate (4 - (lg_sl ([.ref (x_ad G 1), .int p1])).length) Slot.unset).toArray = ls at hl ⊢
  have hl : lv_has ls 4 [(0, .ref (x_ad G 1)), (1, .int p1)] := hl
  rw [f_B_hasRightSum] at hf
  refine lv_iload_n hx hb d_B_hasRightSum_0 rfl (lv_at hl 1 rfl) ?_
  refine lv_aload_n hx hb d_B_hasRightSum_1 rfl (lv_at hl 0 rfl) ?_
  refine va_get (D := x_D G) (ci := 1) (v := .ref (x_ad G 2)) (C := "ContentLibrary$Blocks") (T := x_TB) (N := 5) hx hb hts x_inB hown hK hP 1 (x_lk_B G _) rfl 3 (by decide) (hts _ t_45) (fun _ h9 => h9) rfl d_B_hasRightSum_2 ?_
  refine lv_iload_n hx hb d_B_hasRightSum_5 rfl (lv_at hl 1 rfl) ?_
  refine lv_bipush (v := (64 : Int32)) hx hb d_B_hasRightSum_6 (by decide) ?_
  refine lv_imul hx hb d_B_hasRightSum_8 ?_
  obtain ⟨r7, z7, hq8, hf⟩ := x_cl_some hf
  refine va_calli (va_runS (As := [.int p1, .ref (x_ad G 2), .int (p1 * (64 : Int32))]) (rest := []) ⟨hx, hb, hml, hown, hts⟩ (c_B_sumOf l G p1 2 (by decide) (p1 * (64 : Int32)) z0 r7 z7 hq8) (va_cwS 3 hts (x_gS t_186 t_187 t_3 t_188) rfl rfl rfl (by decide +kernel) ⟨Nat.le_of_ble_eq_true rfl, Nat.le_of_ble_eq_true rfl⟩) ⟨x_blind _ _ _, fun U hU hW => ⟨rfl, x_pw hP hD hK hG hS hz hU hW⟩⟩ rfl rfl hl.1 rfl (lv_room (Nat.le_of_ble_eq_true rfl)) d_B_hasRightSum_9 ⟨Nat.le_of_ble_eq_true rfl, Nat.le_of_ble_eq_true rfl⟩) hS (fun q _ h => h) (fun q h => h) (fun ra u t H locs ht hvm hw hB _ _ hS => ?_)
  obtain ⟨rfl, rfl⟩ := hw
  obtain ⟨hP, hD⟩ := x_back hB ht
  refine lv_istore_n (lv' := [(2, .int r7), (0, .ref (x_ad G 1)), (1, .int p1)]) hx hb d_B_hasRightSum_12 rfl hl (by decide) rfl (fun ls hl => ?_)
  refine lv_iconst (v := (0 : Int32)) hx hb d_B_hasRightSum_13 (by decide) ?_
  refine lv_istore_n (lv' := [(3, .int (0 : Int32)), (2, .int r7), (0, .ref (x_ad G 1)), (1, .int p1)]) hx hb d_B_hasRightSum_14 rfl hl (by decide) rfl (fun ls hl => ?_)
  exact w_B_hasRightSum_15 l G C0 r zo x_FU p1 r7 (0 : Int32) z7 hf _ _ _ hP hD hS (lv_sub hl [2, 3, 1, 0] rfl)
abbrev rm_B_isGood : Room := { frames := 3, cells := 0, slots := 0, locals := 68 }
set_option maxHeartbeats 4000000 in
set_option maxRecDepth 100000 in
theorem c_B_isGood (l : Launch) (G : x_G) (p1 : Int32) (z0 : x_St) (r : Int32) (zo : x_St) (hf : f_B_isGood (x_n G) p1 z0 = some (r, zo)) : Met l (⟨"ContentLibrary$Blocks", "isGood", "(I)Z"⟩ : MethodName) (x_ws (⟨"ContentLibrary$Blocks", "isGood", "(I)Z"⟩ : MethodName) prog_2_method_6_code 3 (some .boolean)) rm_B_isGood (va_Pc [.ref (x_ad G 1), .int p1] (x_PW G z0)) (va_Qi (fun a u => r = a ∧ zo = u) (x_PW G) (x_A G)) 0 0 (x_A G) := by
  refine Met.ofW (cc := prog_2_method_6_code) (maxL := 3) (ret := (some .boolean)) (by decide) rfl ?_
  intro p e s m args below meth c s₁ B hml hv
  obtain ⟨rfl, hz, hP, hD, hK, hG⟩ := hv
  have C0 : x_Ctx G p s m _ meth c prog_2_method_6_code "ContentLibrary$Blocks" 3 (some .boolean) := ⟨B.exec, B.bytes, B.returns, hml, findClass_of_methodNamed B.named, fun w h => atoms_spec (ws := (x_ws (⟨"ContentLibrary$Blocks", "isGood", "(I)Z"⟩ : MethodName) prog_2_method_6_code 3 (some .boolean))) B.pre w (List.mem_cons_of_mem _ h), B.notSynchronized, hz, hK, hG⟩
  obtain ⟨hx, hb, hr, hml, hown, hts, hlocks, hz, hK, hG⟩ := id C0
  have hS : va_S (x_A G) s.heap s.heap [] := va_S.rf
  have hl := lv_entry ([.ref (x_ad G 1), .int p1]) (n := 3) (Nat.le_of_ble_eq_true rfl)
  rw [lg_entry_eq]
  generalize (lg_sl ([.ref (x_ad G 1), .int p1]) ++ List.replicate (3 - (lg_sl ([.ref (x_ad G 1), .int p1])).length) Slot.unset).toArray = ls at hl ⊢
  have hl : lv_has ls 3 [(0, .ref (x_ad G 1)), (1, .int p1)] := hl
  rw [f_B_isGood] at hf
  refine lv_aload_n hx hb d_B_isGood_0 rfl (lv_at hl 0 rfl) ?_
  refine lv_iload_n hx hb d_B_isGood_1 rfl (lv_at hl 1 rfl) ?_
  refine lv_iconst (v := (4 : Int32)) hx hb d_B_isGood_2 (by decide) ?_
  obtain ⟨r1, z1, hq2, hf⟩ := x_cl_some hf
  refine va_calli (va_runV (As := [.int p1, .int (4 : Int32)]) (rest := []) ⟨hx, hb, hml, hown, hts⟩ (c_B_get l G p1 (4 : Int32) z0 r1 z1 hq2) (cwV 2 hts (x_gV t_174 t_175 t_176 t_3 t_177) rfl rfl rfl (by decide +kernel) ⟨Nat.le_of_ble_eq_true rfl, Nat.le_of_ble_eq_true rfl⟩) ⟨x_blind _ _ _, va_recv hK hP (ci := 1) (q0 := 1) rfl (x_lk_B G _), fun U hU hW => ⟨rfl, x_pw hP hD hK hG hS hz hU hW⟩⟩ rfl rfl hl.1 rfl (lv_room (Nat.le_of_ble_eq_true rfl)) d_B_isGood_3 ⟨Nat.le_of_ble_eq_true rfl, Nat.le_of_ble_eq_true rfl⟩) hS (fun q _ h => h) (fun q h => h) (fun ra u t H locs ht hvm hw hB _ _ hS => ?_)
  obtain ⟨rfl, rfl⟩ := hw
  obtain ⟨hP, hD⟩ := x_back hB ht
  refine lv_istore_n (lv' := [(2, .int r1), (0, .ref (x_ad G 1)), (1, .int p1)]) hx hb d_B_isGood_6 rfl hl (by decide) rfl (fun ls hl => ?_)
  refine lv_iload_n hx hb d_B_isGood_7 rfl (lv_at hl 0 rfl) ?_
  refine lv_iconst (v := (1 : Int32)) hx hb d_B_isGood_8 (by decide) ?_
  refine lv_icmp_lt (tgt := 52) hx hb d_B_isGood_9 (by decide) (fun hc3 => ?_) (fun hc3 => ?_)
  · have hf := x_br_t hf hc3
    refine lv_iconst (v := (0 : Int32)) hx hb d_B_isGood_52 (by decide) ?_
    obtain ⟨rfl, rfl⟩ := x_ret hf
    exact W.zret (v := (0 : Int32)) hx hb hr rfl (fun t ht hW => ⟨⟨_, _, rfl, ⟨rfl, rfl⟩, x_pw hP hD hK hG hS hz ht hW⟩, hS.F ht⟩) hS.2.2 d_B_isGood_53
  · have hf := x_br_f hf hc3
    refine lv_iload_n hx hb d_B_isGood_12 rfl (lv_at hl 0 rfl) ?_
    refine lv_iconst (v := (3 : Int32)) hx hb d_B_isGood_13 (by decide) ?_
    refine lv_icmp_gt (tgt := 52) hx hb d_B_isGood_14 (by decide) (fun hc4 => ?_) (fun hc4 => ?_)
    · have hf := x_br_t hf hc4
      refine lv_iconst (v := (0 : Int32)) hx hb d_B_isGood_52 (by decide) ?_
      obtain ⟨rfl, rfl⟩ := x_ret hf
      exact W.zret (v := (0 : Int32)) hx hb hr rfl (fun t ht hW => ⟨⟨_, _, rfl, ⟨rfl, rfl⟩, x_pw hP hD hK hG hS hz ht hW⟩, hS.F ht⟩) hS.2.2 d_B_isGood_53
    · have hf := x_br_f hf hc4
      refine lv_aload_n hx hb d_B_isGood_17 rfl (lv_at hl 1 rfl) ?_
      refine lv_iload_n hx hb d_B_isGood_18 rfl (lv_at hl 2 rfl) ?_
      refine lv_iconst (v := (5 : Int32)) hx hb d_B_isGood_19 (by decide) ?_
      obtain ⟨r5, z5, hq6, hf⟩ := x_cl_some hf
      refine va_calli (va_runV (As := [.int p1, .int (5 : Int32)]) (rest := []) ⟨hx, hb, hml, hown, hts⟩ (c_B_get l G p1 (5 : Int32) z1 r5 z5 hq6) (cwV 2 hts (x_gV t_174 t_175 t_176 t_3 t_177) rfl rfl rfl (by decide +kernel) ⟨Nat.le_of_ble_eq_true rfl, Nat.le_of_ble_eq_true rfl⟩) ⟨x_blind _ _ _, va_recv hK hP (ci := 1) (q0 := 1) rfl (x_lk_B G _), fun U hU hW => ⟨rfl, x_pw hP hD hK hG hS hz hU hW⟩⟩ rfl rfl hl.1 rfl (lv_room (Nat.le_of_ble_eq_true rfl)) d_B_isGood_20 ⟨Nat.le_of_ble_eq_true rfl, Nat.le_of_ble_eq_true rfl⟩) hS (fun q _ h => h) (fun q h => h) (fun ra u t H locs ht hvm hw hB _ _ hS => ?_)
      obtain ⟨rfl, rfl⟩ := hw
      obtain ⟨hP, hD⟩ := x_back hB ht
      refine lv_bipush (v := (16 : Int32)) hx hb d_B_isGood_23 (by decide) ?_
      refine lv_icmp_ge (tgt := 52) hx hb d_B_isGood_25 (by decide) (fun hc7 => ?_) (fun hc7 => ?_)
      · have hf := x_br_t hf hc7
        refine lv_iconst (v := (0 : Int32)) hx hb d_B_isGood_52 (by decide) ?_
        obtain ⟨rfl, rfl⟩ := x_ret hf
        exact W.zret (v := (0 : Int32)) hx hb hr rfl (fun t ht hW => ⟨⟨_, _, rfl, ⟨rfl, rfl⟩, x_pw hP hD hK hG hS hz ht hW⟩, hS.F ht⟩) hS.2.2 d_B_isGood_53
      · have hf := x_br_f hf hc7
        refine lv_aload_n hx hb d_B_isGood_28 rfl (lv_at hl 1 rfl) ?_
        refine lv_iload_n hx hb d_B_isGood_29 rfl (lv_at hl 2 rfl) ?_
        refine lv_bipush (v := (7 : Int32)) hx hb d_B_isGood_30 (by decide) ?_
        obtain ⟨r8, z8, hq9, hf⟩ := x_cl_some hf
        refine va_calli (va_runV (As := [.int p1, .int (7 : Int32)]) (rest := []) ⟨hx, hb, hml, hown, hts⟩ (c_B_get l G p1 (7 : Int32) z5 r8 z8 hq9) (cwV 2 hts (x_gV t_174 t_175 t_176 t_3 t_177) rfl rfl rfl (by decide +kernel) ⟨Nat.le_of_ble_eq_true rfl, Nat.le_of_ble_eq_true rfl⟩) ⟨x_blind _ _ _, va_recv hK hP (ci := 1) (q0 := 1) rfl (x_lk_B G _), fun U hU hW => ⟨rfl, x_pw hP hD hK hG hS hz hU hW⟩⟩ rfl rfl hl.1 rfl (lv_room (Nat.le_of_ble_eq_true rfl)) d_B_isGood_32 ⟨Nat.le_of_ble_eq_true rfl, Nat.le_of_ble_eq_true rfl⟩) hS (fun q _ h => h) (fun q h => h) (fun ra u t H locs ht hvm hw hB _ _ hS => ?_)
        obtain ⟨rfl, rfl⟩ := hw
        obtain ⟨hP, hD⟩ := x_back hB ht
        refine lv_bipush (v := (56 : Int32)) hx hb d_B_isGood_35 (by decide) ?_
        refine lv_icmp_gt (tgt := 52) hx hb d_B_isGood_37 (by decide) (fun hc10 => ?_) (fun hc10 => ?_)
        · have hf := x_br_t hf hc10
          refine lv_iconst (v := (0 : Int32)) hx hb d_B_isGood_52 (by decide) ?_
          obtain ⟨rfl, rfl⟩ := x_ret hf
          exact W.zret (v := (0 : Int32)) hx hb hr rfl (fun t ht hW => ⟨⟨_, _, rfl, ⟨rfl, rfl⟩, x_pw hP hD hK hG hS hz ht hW⟩, hS.F ht⟩) hS.2.2 d_B_isGood_53
        · have hf := x_br_f hf hc10
          refine lv_aload_n hx hb d_B_isGood_40 rfl (lv_at hl 1 rfl) ?_
          refine lv_iload_n hx hb d_B_isGood_41 rfl (lv_at hl 2 rfl) ?_
          obtain ⟨r11, z11, hq12, hf⟩ := x_cl_some hf
          refine va_calli (va_runV (As := [.int p1]) (rest := []) ⟨hx, hb, hml, hown, hts⟩ (c_B_hasRightSum l G p1 z8 r11 z11 hq12) (cwV 1 hts (x_gV t_182 t_184 sel_ContentLibrary_Blocks_hasRightSum t_3 t_185) rfl rfl rfl (by decide +kernel) ⟨Nat.le_of_ble_eq_true rfl, Nat.le_of_ble_eq_true rfl⟩) ⟨x_blind _ _ _, va_recv hK hP (ci := 1) (q0 := 1) rfl (x_lk_B G _), fun U hU hW => ⟨rfl, x_pw hP hD hK hG hS hz hU hW⟩⟩ rfl rfl hl.1 rfl (lv_room (Nat.le_of_ble_eq_true rfl)) d_B_isGood_42 ⟨Nat.le_of_ble_eq_true rfl, Nat.le_of_ble_eq_true rfl⟩) hS (fun q _ h => h) (fun q h => h) (fun ra u t H locs ht hvm hw hB _ _ hS => ?_)
          obtain ⟨rfl, rfl⟩ := hw
          obtain ⟨hP, hD⟩ := x_back hB ht
          refine lv_if_eq (tgt := 52) hx hb d_B_isGood_45 (by decide) (fun hc13 => ?_) (fun hc13 => ?_)
          · have hf := x_br_t hf hc13
            refine lv_iconst (v := (0 : Int32)) hx hb d_B_isGood_52 (by decide) ?_
            obtain ⟨rfl, rfl⟩ := x_ret hf
            exact W.zret (v := (0 : Int32)) hx hb hr rfl (fun t ht hW => ⟨⟨_, _, rfl, ⟨rfl, rfl⟩, x_pw hP hD hK hG hS hz ht hW⟩, hS.F ht⟩) hS.2.2 d_B_isGood_53
          · have hf := x_br_f hf hc13
            refine lv_iconst (v := (1 : Int32)) hx hb d_B_isGood_48 (by decide) ?_
            refine lv_goto (tgt := 53) hx hb d_B_isGood_49 (by decide) ?_
            obtain ⟨rfl, rfl⟩ := x_ret hf
            exact W.zret (v := (1 : Int32)) hx hb hr rfl (fun t ht hW => ⟨⟨_, _, rfl, ⟨rfl, rfl⟩, x_pw hP hD hK hG hS hz ht hW⟩, hS.F ht⟩) hS.2.2 d_B_isGood_53
abbrev rm_B_onlyGood : Room := { frames := 4, cells := 0, slots := 0, locals := 90 }
set_option maxHeartbeats 4000000 in
set_option maxRecDepth 100000 in
theorem w_B_onlyGood_93 (l : Launch) (G : x_G) {p : Program} {e : Env} {s : State} {m : MethodId} {args : Array Value} {below : List Frame} {meth : Method} {c : Code} (C0 : x_Ctx G p s m args meth c prog_2_method_10_code "ContentLibrary$Blocks" 7 (some .int)) (r : Int32) (zo : x_St) : ∀ (a4 : Int32) (z0 : x_St), f_B_onlyGood_93 (x_n G) a4 z0 = some (r, zo) → ∀ (H : Heap) (locs : List Loc) (ls : Array Slot), va_P (x_D G) vwCl (x_Wd G z0) H → va_D (x_A G) (x_Wd G z0) → va_S (x_A G) s.heap H locs → lv_has ls 7 [(4, .int a4)] → W p l e rm_B_onlyGood s m args below meth c H locs 0 0 (MQ below (va_Qi (fun a u => r = a ∧ zo = u) (x_PW G) (x_A G)) args s 0 0 (x_A G)) (F0 m 93 ls []) := by
  obtain ⟨hx, hb, hr, hml, hown, hts, hlocks, hz, hK, hG⟩ := id C0
  intro a4 z0 hf H locs ls hP hD hS hl
  rw [f_B_onlyGood_93] at hf
  refine lv_iload hx hb d_B_onlyGood_93 (lv_at hl 0 rfl) ?_
  obtain ⟨rfl, rfl⟩ := x_ret hf
  exact W.iret (v := a4) hx hb hr (fun t ht hW => ⟨⟨_, _, rfl, ⟨rfl, rfl⟩, x_pw hP hD hK hG hS hz ht hW⟩, hS.F ht⟩) hS.2.2 d_B_onlyGood_95
set_option maxHeartbeats 4000000 in
set_option maxRecDepth 100000 in
theorem w_B_onlyGood_6 (l : Launch) (G : x_G) {p : Program} {e : Env} {s : State} {m : MethodId} {args : Array Value} {below : List Frame} {meth : Method} {c : Code} (C0 : x_Ctx G p s m args meth c prog_2_method_10_code "ContentLibrary$Blocks" 7 (some .int)) (r : Int32) (zo : x_St) : ∀ (fu : Nat), ∀ (a1 : Int32) (a2 : Int32) (a3 : Int32) (a4 : Int32) (a5 : Int32) (z0 : x_St), f_B_onlyGood_6 (x_n G) fu a1 a2 a3 a4 a5 z0 = some (r, zo) → ∀ (H : Heap) (locs : List Loc) (ls : Array Slot), va_P (x_D G) vwCl (x_Wd G z0) H → va_D (x_A G) (x_Wd G z0) → va_S (x_A G) s.heap H locs → lv_has ls 7 [(0, .ref (x_ad G 1)), (1, .int a1), (2, .int a2), (3, .int a3), (4, .int a4), (5, .int a5)] → W p l e rm_B_onlyGood s m args below meth c H locs 0 0 (MQ below (va_Qi (fun a u => r = a ∧ zo = u) (x_PW G) (x_A G)) args s 0 0 (x_A G)) (F0 m 6 ls []) := by
  obtain ⟨hx, hb, hr, hml, hown, hts, hlocks, hz, hK, hG⟩ := id C0
  intro fu
  induction fu with
  | zero =>
    intro a1 a2 a3 a4 a5 z0 hf
    rw [f_B_onlyGood_6] at hf
    cases hf
  | succ fu ih =>
    intro a1 a2 a3 a4 a5 z0 hf H locs ls hP hD hS hl
    rw [f_B_onlyGood_6] at hf
    refine lv_iload hx hb d_B_onlyGood_6 (lv_at hl 5 rfl) ?_
    refine lv_aload_n hx hb d_B_onlyGood_8 rfl (lv_at hl 0 rfl) ?_
    refine va_get (D := x_D G) (ci := 1) (v := .int (z0.1 1 0)) (C := "ContentLibrary$Blocks") (T := x_TB) (N := 5) hx hb hts x_inB hown hK hP 1 (x_lk_B G _) rfl 0 (by decide) (hts _ t_39) (fun _ h9 => h9) rfl d_B_onlyGood_9 ?_
    refine lv_icmp_ge (tgt := 93) hx hb d_B_onlyGood_12 (by decide) (fun hc1 => ?_) (fun hc1 => ?_)
    · have hf := x_br_t hf hc1
      exact w_B_onlyGood_93 l G C0 r zo a4 z0 hf _ _ _ hP hD hS (lv_sub hl [4] rfl)
    · have hf := x_br_f hf hc1
      refine lv_aload_n hx hb d_B_onlyGood_15 rfl (lv_at hl 0 rfl) ?_
      refine lv_iload hx hb d_B_onlyGood_16 (lv_at hl 5 rfl) ?_
      refine lv_iconst (v := (4 : Int32)) hx hb d_B_onlyGood_18 (by decide) ?_
      obtain ⟨r2, z2, hq3, hf⟩ := x_cl_some hf
      refine va_calli (va_runV (As := [.int a5, .int (4 : Int32)]) (rest := []) ⟨hx, hb, hml, hown, hts⟩ (c_B_get l G a5 (4 : Int32) z0 r2 z2 hq3) (cwV 2 hts (x_gV t_174 t_175 t_176 t_3 t_177) rfl rfl rfl (by decide +kernel) ⟨Nat.le_of_ble_eq_true rfl, Nat.le_of_ble_eq_true rfl⟩) ⟨x_blind _ _ _, va_recv hK hP (ci := 1) (q0 := 1) rfl (x_lk_B G _), fun U hU hW => ⟨rfl, x_pw hP hD hK hG hS hz hU hW⟩⟩ rfl rfl hl.1 rfl (lv_room (Nat.le_of_ble_eq_true rfl)) d_B_onlyGood_19 ⟨Nat.le_of_ble_eq_true rfl, Nat.le_of_ble_eq_true rfl⟩) hS (fun q _ h => h) (fun q h => h) (fun ra u t H locs ht hvm hw hB _ _ hS => ?_)
      obtain ⟨rfl, rfl⟩ := hw
      obtain ⟨hP, hD⟩ := x_back hB ht
      refine lv_iload_n hx hb d_B_onlyGood_22 rfl (lv_at hl 1 rfl) ?_
      refine lv_icmp_ne (tgt := 58) hx hb d_B_onlyGood_23 (by decide) (fun hc4 => ?_) (fun hc4 => ?_)
      · have hf := x_br_f hf hc4
        refine lv_iconst (v := (0 : Int32)) hx hb d_B_onlyGood_58 (by decide) ?_
        refine lv_istore (lv' := [(6, .int (0 : Int32)), (0, .ref (x_ad G 1)), (1, .int a1), (2, .int a2), (3, .int a3), (4, .int a4), (5, .int a5)]) hx hb d_B_onlyGood_59 hl (by decide) rfl (fun ls hl => ?_)
        refine lv_iload hx hb d_B_onlyGood_61 (lv_at hl 0 rfl) ?_
        refine lv_if_eq (tgt := 87) hx hb d_B_onlyGood_63 (by decide) (fun _ => ?_) (fun hc => absurd hc (by decide))
        refine lv_iinc (v := (a5 + (1 : Int32))) (lv' := [(5, .int (a5 + (1 : Int32))), (6, .int (0 : Int32)), (0, .ref (x_ad G 1)), (1, .int a1), (2, .int a2), (3, .int a3), (4, .int a4)]) hx hb d_B_onlyGood_87 hl (k := 6) rfl rfl (by decide) rfl (fun ls hl => ?_)
        refine lv_goto (tgt := 6) hx hb d_B_onlyGood_90 (by decide) ?_
        exact ih a1 a2 a3 a4 (a5 + (1 : Int32)) z2 hf _ _ _ hP hD hS (lv_sub hl [2, 3, 4, 5, 6, 0] rfl)
      · have hf := x_br_t hf hc4
        refine lv_aload_n hx hb d_B_onlyGood_26 rfl (lv_at hl 0 rfl) ?_
        refine lv_iload hx hb d_B_onlyGood_27 (lv_at hl 5 rfl) ?_
        refine lv_iconst (v := (5 : Int32)) hx hb d_B_onlyGood_29 (by decide) ?_
        obtain ⟨r5, z5, hq6, hf⟩ := x_cl_some hf
        refine va_calli (va_runV (As := [.int a5, .int (5 : Int32)]) (rest := []) ⟨hx, hb, hml, hown, hts⟩ (c_B_get l G a5 (5 : Int32) z2 r5 z5 hq6) (cwV 2 hts (x_gV t_174 t_175 t_176 t_3 t_177) rfl rfl rfl (by decide +kernel) ⟨Nat.le_of_ble_eq_true rfl, Nat.le_of_ble_eq_true rfl⟩) ⟨x_blind _ _ _, va_recv hK hP (ci := 1) (q0 := 1) rfl (x_lk_B G _), fun U hU hW => ⟨rfl, x_pw hP hD hK hG hS hz hU hW⟩⟩ rfl rfl hl.1 rfl (lv_room (Nat.le_of_ble_eq_true rfl)) d_B_onlyGood_30 ⟨Nat.le_of_ble_eq_true rfl, Nat.le_of_ble_eq_true rfl⟩) hS (fun q _ h => h) (fun q h => h) (fun ra u t H locs ht hvm hw hB _ _ hS => ?_)
        obtain ⟨rfl, rfl⟩ := hw
        obtain ⟨hP, hD⟩ := x_back hB ht
        refine lv_iload_n hx hb d_B_onlyGood_33 rfl (lv_at hl 2 rfl) ?_
        refine lv_icmp_ne (tgt := 58) hx hb d_B_onlyGood_34 (by decide) (fun hc7 => ?_) (fun hc7 => ?_)
        · have hf := x_br_f hf hc7
          refine lv_iconst (v := (0 : Int32)) hx hb d_B_onlyGood_58 (by decide) ?_
          refine lv_istore (lv' := [(6, .int (0 : Int32)), (0, .ref (x_ad G 1)), (1, .int a1), (2, .int a2), (3, .int a3), (4, .int a4), (5, .int a5)]) hx hb d_B_onlyGood_59 hl (by decide) rfl (fun ls hl => ?_)
          refine lv_iload hx hb d_B_onlyGood_61 (lv_at hl 0 rfl) ?_
          refine lv_if_eq (tgt := 87) hx hb d_B_onlyGood_63 (by decide) (fun _ => ?_) (fun hc => absurd hc (by decide))
          refine lv_iinc (v := (a5 + (1 : Int32))) (lv' := [(5, .int (a5 + (1 : Int32))), (6, .int (0 : Int32)), (0, .ref (x_ad G 1)), (1, .int a1), (2, .int a2), (3, .int a3), (4, .int a4)]) hx hb d_B_onlyGood_87 hl (k := 6) rfl rfl (by decide) rfl (fun ls hl => ?_)
          refine lv_goto (tgt := 6) hx hb d_B_onlyGood_90 (by decide) ?_
          exact ih a1 a2 a3 a4 (a5 + (1 : Int32)) z5 hf _ _ _ hP hD hS (lv_sub hl [2, 3, 4, 5, 6, 0] rfl)
        · have hf := x_br_t hf hc7
          refine lv_iload_n hx hb d_B_onlyGood_37 rfl (lv_at hl 3 rfl) ?_
          refine lv_iconst (v := (-1 : Int32)) hx hb d_B_onlyGood_38 (by decide) ?_
          refine lv_icmp_eq (tgt := 54) hx hb d_B_onlyGood_39 (by decide) (fun hc8 => ?_) (fun hc8 => ?_)
          · have hf := x_br_t hf hc8
            refine lv_iconst (v := (1 : Int32)) hx hb d_B_onlyGood_54 (by decide) ?_
            refine lv_goto (tgt := 59) hx hb d_B_onlyGood_55 (by decide) ?_
            refine lv_istore (lv' := [(6, .int (1 : Int32)), (0, .ref (x_ad G 1)), (1, .int a1), (2, .int a2), (3, .int a3), (4, .int a4), (5, .int a5)]) hx hb d_B_onlyGood_59 hl (by decide) rfl (fun ls hl => ?_)
            refine lv_iload hx hb d_B_onlyGood_61 (lv_at hl 0 rfl) ?_
            refine lv_if_eq (tgt := 87) hx hb d_B_onlyGood_63 (by decide) (fun hc => absurd hc (by decide)) (fun _ => ?_)
            refine lv_aload_n hx hb d_B_onlyGood_66 rfl (lv_at hl 1 rfl) ?_
            refine lv_iload hx hb d_B_onlyGood_67 (lv_at hl 6 rfl) ?_
            obtain ⟨r9, z9, hq10, hf⟩ := x_cl_some hf
            refine va_calli (va_runV (As := [.int a5]) (rest := []) ⟨hx, hb, hml, hown, hts⟩ (c_B_isGood l G a5 z5 r9 z9 hq10) (cwV 1 hts (x_gV t_178 t_179 t_180 t_3 t_181) rfl rfl rfl (by decide +kernel) ⟨Nat.le_of_ble_eq_true rfl, Nat.le_of_ble_eq_true rfl⟩) ⟨x_blind _ _ _, va_recv hK hP (ci := 1) (q0 := 1) rfl (x_lk_B G _), fun U hU hW => ⟨rfl, x_pw hP hD hK hG hS hz hU hW⟩⟩ rfl rfl hl.1 rfl (lv_room (Nat.le_of_ble_eq_true rfl)) d_B_onlyGood_69 ⟨Nat.le_of_ble_eq_true rfl, Nat.le_of_ble_eq_true rfl⟩) hS (fun q _ h => h) (fun q h => h) (fun ra u t H locs ht hvm hw hB _ _ hS => ?_)
            obtain ⟨rfl, rfl⟩ := hw
            obtain ⟨hP, hD⟩ := x_back hB ht
            refine lv_if_eq (tgt := 87) hx hb d_B_onlyGood_72 (by decide) (fun hc11 => ?_) (fun hc11 => ?_)
            · have hf := x_br_t hf hc11
              refine lv_iinc (v := (a5 + (1 : Int32))) (lv' := [(5, .int (a5 + (1 : Int32))), (6, .int (1 : Int32)), (0, .ref (x_ad G 1)), (1, .int a1), (2, .int a2), (3, .int a3), (4, .int a4)]) hx hb d_B_onlyGood_87 hl (k := 6) rfl rfl (by decide) rfl (fun ls hl => ?_)
              refine lv_goto (tgt := 6) hx hb d_B_onlyGood_90 (by decide) ?_
              exact ih a1 a2 a3 a4 (a5 + (1 : Int32)) z9 hf _ _ _ hP hD hS (lv_sub hl [2, 3, 4, 5, 6, 0] rfl)
            · have hf := x_br_f hf hc11
              refine lv_iload hx hb d_B_onlyGood_75 (lv_at hl 5 rfl) ?_
              refine lv_iconst (v := (-1 : Int32)) hx hb d_B_onlyGood_77 (by decide) ?_
              refine lv_icmp_eq (tgt := 83) hx hb d_B_onlyGood_78 (by decide) (fun hc12 => ?_) (fun hc12 => ?_)
              · have hf := x_br_t hf hc12
                refine lv_iload hx hb d_B_onlyGood_83 (lv_at hl 6 rfl) ?_
                refine lv_istore (lv' := [(4, .int a5), (6, .int (1 : Int32)), (0, .ref (x_ad G 1)), (1, .int a1), (2, .int a2), (3, .int a3), (5, .int a5)]) hx hb d_B_onlyGood_85 hl (by decide) rfl (fun ls hl => ?_)
                refine lv_iinc (v := (a5 + (1 : Int32))) (lv' := [(5, .int (a5 + (1 : Int32))), (4, .int a5), (6, .int (1 : Int32)), (0, .ref (x_ad G 1)), (1, .int a1), (2, .int a2), (3, .int a3)]) hx hb d_B_onlyGood_87 hl (k := 6) rfl rfl (by decide) rfl (fun ls hl => ?_)
                refine lv_goto (tgt := 6) hx hb d_B_onlyGood_90 (by decide) ?_
                exact ih a1 a2 a3 a5 (a5 + (1 : Int32)) z9 hf _ _ _ hP hD hS (lv_sub hl [3, 4, 5, 6, 1, 0] rfl)
              · have hf := x_br_f hf hc12
                refine lv_iconst (v := (-1 : Int32)) hx hb d_B_onlyGood_81 (by decide) ?_
                obtain ⟨rfl, rfl⟩ := x_ret hf
                exact W.iret (v := (-1 : Int32)) hx hb hr (fun t ht hW => ⟨⟨_, _, rfl, ⟨rfl, rfl⟩, x_pw hP hD hK hG hS hz ht hW⟩, hS.F ht⟩) hS.2.2 d_B_onlyGood_82
          · have hf := x_br_f hf hc8
            refine lv_aload_n hx hb d_B_onlyGood_42 rfl (lv_at hl 0 rfl) ?_
            refine lv_iload hx hb d_B_onlyGood_43 (lv_at hl 5 rfl) ?_
            refine lv_bipush (v := (6 : Int32)) hx hb d_B_onlyGood_45 (by decide) ?_
            obtain ⟨r13, z13, hq14, hf⟩ := x_cl_some hf
            refine va_calli (va_runV (As := [.int a5, .int (6 : Int32)]) (rest := []) ⟨hx, hb, hml, hown, hts⟩ (c_B_get l G a5 (6 : Int32) z5 r13 z13 hq14) (cwV 2 hts (x_gV t_174 t_175 t_176 t_3 t_177) rfl rfl rfl (by decide +kernel) ⟨Nat.le_of_ble_eq_true rfl, Nat.le_of_ble_eq_true rfl⟩) ⟨x_blind _ _ _, va_recv hK hP (ci := 1) (q0 := 1) rfl (x_lk_B G _), fun U hU hW => ⟨rfl, x_pw hP hD hK hG hS hz hU hW⟩⟩ rfl rfl hl.1 rfl (lv_room (Nat.le_of_ble_eq_true rfl)) d_B_onlyGood_47 ⟨Nat.le_of_ble_eq_true rfl, Nat.le_of_ble_eq_true rfl⟩) hS (fun q _ h => h) (fun q h => h) (fun ra u t H locs ht hvm hw hB _ _ hS => ?_)
            obtain ⟨rfl, rfl⟩ := hw
            obtain ⟨hP, hD⟩ := x_back hB ht
            refine lv_iload_n hx hb d_B_onlyGood_50 rfl (lv_at hl 3 rfl) ?_
            refine lv_icmp_ne (tgt := 58) hx hb d_B_onlyGood_51 (by decide) (fun hc15 => ?_) (fun hc15 => ?_)
            · have hf := x_br_f hf hc15
              refine lv_iconst (v := (0 : Int32)) hx hb d_B_onlyGood_58 (by decide) ?_
              refine lv_istore (lv' := [(6, .int (0 : Int32)), (0, .ref (x_ad G 1)), (1, .int a1), (2, .int a2), (3, .int a3), (4, .int a4), (5, .int a5)]) hx hb d_B_onlyGood_59 hl (by decide) rfl (fun ls hl => ?_)
              refine lv_iload hx hb d_B_onlyGood_61 (lv_at hl 0 rfl) ?_
              refine lv_if_eq (tgt := 87) hx hb d_B_onlyGood_63 (by decide) (fun _ => ?_) (fun hc => absurd hc (by decide))
              refine lv_iinc (v := (a5 + (1 : Int32))) (lv' := [(5, .int (a5 + (1 : Int32))), (6, .int (0 : Int32)), (0, .ref (x_ad G 1)), (1, .int a1), (2, .int a2), (3, .int a3), (4, .int a4)]) hx hb d_B_onlyGood_87 hl (k := 6) rfl rfl (by decide) rfl (fun ls hl => ?_)
              refine lv_goto (tgt := 6) hx hb d_B_onlyGood_90 (by decide) ?_
              exact ih a1 a2 a3 a4 (a5 + (1 : Int32)) z13 hf _ _ _ hP hD hS (lv_sub hl [2, 3, 4, 5, 6, 0] rfl)
            · have hf := x_br_t hf hc15
              refine lv_iconst (v := (1 : Int32)) hx hb d_B_onlyGood_54 (by decide) ?_
              refine lv_goto (tgt := 59) hx hb d_B_onlyGood_55 (by decide) ?_
              refine lv_istore (lv' := [(6, .int (1 : Int32)), (0, .ref (x_ad G 1)), (1, .int a1), (2, .int a2), (3, .int a3), (4, .int a4), (5, .int a5)]) hx hb d_B_onlyGood_59 hl (by decide) rfl (fun ls hl => ?_)
              refine lv_iload hx hb d_B_onlyGood_61 (lv_at hl 0 rfl) ?_
              refine lv_if_eq (tgt := 87) hx hb d_B_onlyGood_63 (by decide) (fun hc => absurd hc (by decide)) (fun _ => ?_)
              refine lv_aload_n hx hb d_B_onlyGood_66 rfl (lv_at hl 1 rfl) ?_
              refine lv_iload hx hb d_B_onlyGood_67 (lv_at hl 6 rfl) ?_
              obtain ⟨r16, z16, hq17, hf⟩ := x_cl_some hf
              refine va_calli (va_runV (As := [.int a5]) (rest := []) ⟨hx, hb, hml, hown, hts⟩ (c_B_isGood l G a5 z13 r16 z16 hq17) (cwV 1 hts (x_gV t_178 t_179 t_180 t_3 t_181) rfl rfl rfl (by decide +kernel) ⟨Nat.le_of_ble_eq_true rfl, Nat.le_of_ble_eq_true rfl⟩) ⟨x_blind _ _ _, va_recv hK hP (ci := 1) (q0 := 1) rfl (x_lk_B G _), fun U hU hW => ⟨rfl, x_pw hP hD hK hG hS hz hU hW⟩⟩ rfl rfl hl.1 rfl (lv_room (Nat.le_of_ble_eq_true rfl)) d_B_onlyGood_69 ⟨Nat.le_of_ble_eq_true rfl, Nat.le_of_ble_eq_true rfl⟩) hS (fun q _ h => h) (fun q h => h) (fun ra u t H locs ht hvm hw hB _ _ hS => ?_)
              obtain ⟨rfl, rfl⟩ := hw
              obtain ⟨hP, hD⟩ := x_back hB ht
              refine lv_if_eq (tgt := 87) hx hb d_B_onlyGood_72 (by decide) (fun hc18 => ?_) (fun hc18 => ?_)
              · have hf := x_br_t hf hc18
                refine lv_iinc (v := (a5 + (1 : Int32))) (lv' := [(5, .int (a5 + (1 : Int32))), (6, .int (1 : Int32)), (0, .ref (x_ad G 1)), (1, .int a1), (2, .int a2), (3, .int a3), (4, .int a4)]) hx hb d_B_onlyGood_87 hl (k := 6) rfl rfl (by decide) rfl (fun ls hl => ?_)
                refine lv_goto (tgt := 6) hx hb d_B_onlyGood_90 (by decide) ?_
                exact ih a1 a2 a3 a4 (a5 + (1 : Int32)) z16 hf _ _ _ hP hD hS (lv_sub hl [2, 3, 4, 5, 6, 0] rfl)
              · have hf := x_br_f hf hc18
                refine lv_iload hx hb d_B_onlyGood_75 (lv_at hl 5 rfl) ?_
                refine lv_iconst (v := (-1 : Int32)) hx hb d_B_onlyGood_77 (by decide) ?_
                refine lv_icmp_eq (tgt := 83) hx hb d_B_onlyGood_78 (by decide) (fun hc19 => ?_) (fun hc19 => ?_)
                · have hf := x_br_t hf hc19
                  refine lv_iload hx hb d_B_onlyGood_83 (lv_at hl 6 rfl) ?_
                  refine lv_istore (lv' := [(4, .int a5), (6, .int (1 : Int32)), (0, .ref (x_ad G 1)), (1, .int a1), (2, .int a2), (3, .int a3), (5, .int a5)]) hx hb d_B_onlyGood_85 hl (by decide) rfl (fun ls hl => ?_)
                  refine lv_iinc (v := (a5 + (1 : Int32))) (lv' := [(5, .int (a5 + (1 : Int32))), (4, .int a5), (6, .int (1 : Int32)), (0, .ref (x_ad G 1)), (1, .int a1), (2, .int a2), (3, .int a3)]) hx hb d_B_onlyGood_87 hl (k := 6) rfl rfl (by decide) rfl (fun ls hl => ?_)
                  refine lv_goto (tgt := 6) hx hb d_B_onlyGood_90 (by decide) ?_
                  exact ih a1 a2 a3 a5 (a5 + (1 : Int32)) z16 hf _ _ _ hP hD hS (lv_sub hl [3, 4, 5, 6, 1, 0] rfl)
                · have hf := x_br_f hf hc19
                  refine lv_iconst (v := (-1 : Int32)) hx hb d_B_onlyGood_81 (by decide) ?_
                  obtain ⟨rfl, rfl⟩ := x_ret hf
                  exact W.iret (v := (-1 : Int32)) hx hb hr (fun t ht hW => ⟨⟨_, _, rfl, ⟨rfl, rfl⟩, x_pw hP hD hK hG hS hz ht hW⟩, hS.F ht⟩) hS.2.2 d_B_onlyGood_82
set_option maxHeartbeats 4000000 in
set_option maxRecDepth 100000 in
theorem c_B_onlyGood (l : Launch) (G : x_G) (p1 : Int32) (p2 : Int32) (p3 : Int32) (z0 : x_St) (r : Int32) (zo : x_St) (hf : f_B_onlyGood (x_n G) p1 p2 p3 z0 = some (r, zo)) : Met l (⟨"ContentLibrary$Blocks", "onlyGood", "(III)I"⟩ : MethodName) (x_ws (⟨"ContentLibrary$Blocks", "onlyGood", "(III)I"⟩ : MethodName) prog_2_method_10_code 7 (some .int)) rm_B_onlyGood (va_Pc [.ref (x_ad G 1), .int p1, .int p2, .int p3] (x_PW G z0)) (va_Qi (fun a u => r = a ∧ zo = u) (x_PW G) (x_A G)) 0 0 (x_A G) := by
  refine Met.ofW (cc := prog_2_method_10_code) (maxL := 7) (ret := (some .int)) (by decide) rfl ?_
  intro p e s m args below meth c s₁ B hml hv
  obtain ⟨rfl, hz, hP, hD, hK, hG⟩ := hv
  have C0 : x_Ctx G p s m _ meth c prog_2_method_10_code "ContentLibrary$Blocks" 7 (some .int) := ⟨B.exec, B.bytes, B.returns, hml, findClass_of_methodNamed B.named, fun w h => atoms_spec (ws := (x_ws (⟨"ContentLibrary$Blocks", "onlyGood", "(III)I"⟩ : MethodName) prog_2_method_10_code 7 (some .int))) B.pre w (List.mem_cons_of_mem _ h), B.notSynchronized, hz, hK, hG⟩
  obtain ⟨hx, hb, hr, hml, hown, hts, hlocks, hz, hK, hG⟩ := id C0
  have hS : va_S (x_A G) s.heap s.heap [] := va_S.rf
  have hl := lv_entry ([.ref (x_ad G 1), .int p1, .int p2, .int p3]) (n := 7) (Nat.le_of_ble_eq_true rfl)
  rw [lg_entry_eq]
  generalize (lg_sl ([.ref (x_ad G 1), .int p1, .int p2, .int p3]) ++ List.replicate (7 - (lg_sl ([.ref (x_ad G 1), .int p1, .int p2, .int p3])).length) Slot.unset).toArray = ls at hl ⊢
  have hl : lv_has ls 7 [(0, .ref (x_ad G 1)), (1, .int p1), (2, .int p2), (3, .int p3)] := hl
  rw [f_B_onlyGood] at hf
  refine lv_iconst (v := (-1 : Int32)) hx hb d_B_onlyGood_0 (by decide) ?_
  refine lv_istore (lv' := [(4, .int (-1 : Int32)), (0, .ref (x_ad G 1)), (1, .int p1), (2, .int p2), (3, .int p3)]) hx hb d_B_onlyGood_1 hl (by decide) rfl (fun ls hl => ?_)
  refine lv_iconst (v := (0 : Int32)) hx hb d_B_onlyGood_3 (by decide) ?_
  refine lv_istore (lv' := [(5, .int (0 : Int32)), (4, .int (-1 : Int32)), (0, .ref (x_ad G 1)), (1, .int p1), (2, .int p2), (3, .int p3)]) hx hb d_B_onlyGood_4 hl (by decide) rfl (fun ls hl => ?_)
  exact w_B_onlyGood_6 l G C0 r zo x_FU p1 p2 p3 (-1 : Int32) (0 : Int32) z0 hf _ _ _ hP hD hS (lv_sub hl [2, 3, 4, 5, 1, 0] rfl)
abbrev rm_B_isMarkAsTold : Room := { frames := 1, cells := 0, slots := 0, locals := 22 }
set_option maxHeartbeats 4000000 in
set_option maxRecDepth 100000 in
theorem c_B_isMarkAsTold (l : Launch) (G : x_G) (p1 : Int32) (z0 : x_St) (r : Int32) (zo : x_St) (hf : f_B_isMarkAsTold (x_n G) p1 z0 = some (r, zo)) : Met l (⟨"ContentLibrary$Blocks", "isMarkAsTold", "(I)Z"⟩ : MethodName) (x_ws (⟨"ContentLibrary$Blocks", "isMarkAsTold", "(I)Z"⟩ : MethodName) prog_2_method_11_code 3 (some .boolean)) rm_B_isMarkAsTold (va_Pc [.ref (x_ad G 1), .int p1] (x_PW G z0)) (va_Qi (fun a u => r = a ∧ zo = u) (x_PW G) (x_A G)) 0 0 (x_A G) := by
  refine Met.ofW (cc := prog_2_method_11_code) (maxL := 3) (ret := (some .boolean)) (by decide) rfl ?_
  intro p e s m args below meth c s₁ B hml hv
  obtain ⟨rfl, hz, hP, hD, hK, hG⟩ := hv
  have C0 : x_Ctx G p s m _ meth c prog_2_method_11_code "ContentLibrary$Blocks" 3 (some .boolean) := ⟨B.exec, B.bytes, B.returns, hml, findClass_of_methodNamed B.named, fun w h => atoms_spec (ws := (x_ws (⟨"ContentLibrary$Blocks", "isMarkAsTold", "(I)Z"⟩ : MethodName) prog_2_method_11_code 3 (some .boolean))) B.pre w (List.mem_cons_of_mem _ h), B.notSynchronized, hz, hK, hG⟩
  obtain ⟨hx, hb, hr, hml, hown, hts, hlocks, hz, hK, hG⟩ := id C0
  have hS : va_S (x_A G) s.heap s.heap [] := va_S.rf
  have hl := lv_entry ([.ref (x_ad G 1), .int p1]) (n := 3) (Nat.le_of_ble_eq_true rfl)
  rw [lg_entry_eq]
  generalize (lg_sl ([.ref (x_ad G 1), .int p1]) ++ List.replicate (3 - (lg_sl ([.ref (x_ad G 1), .int p1])).length) Slot.unset).toArray = ls at hl ⊢
  have hl : lv_has ls 3 [(0, .ref (x_ad G 1)), (1, .int p1)] := hl
  rw [f_B_isMarkAsTold] at hf
  refine lv_aload_n hx hb d_B_isMarkAsTold_0 rfl (lv_at hl 0 rfl) ?_
  refine lv_iload_n hx hb d_B_isMarkAsTold_1 rfl (lv_at hl 1 rfl) ?_
  refine lv_bipush (v := (8 : Int32)) hx hb d_B_isMarkAsTold_2 (by decide) ?_
  obtain ⟨r1, z1, hq2, hf⟩ := x_cl_some hf
  refine va_calli (va_runV (As := [.int p1, .int (8 : Int32)]) (rest := []) ⟨hx, hb, hml, hown, hts⟩ (c_B_get l G p1 (8 : Int32) z0 r1 z1 hq2) (cwV 2 hts (x_gV t_174 t_175 t_176 t_3 t_177) rfl rfl rfl (by decide +kernel) ⟨Nat.le_of_ble_eq_true rfl, Nat.le_of_ble_eq_true rfl⟩) ⟨x_blind _ _ _, va_recv hK hP (ci := 1) (q0 := 1) rfl (x_lk_B G _), fun U hU hW => ⟨rfl, x_pw hP hD hK hG hS hz hU hW⟩⟩ rfl rfl hl.1 rfl (lv_room (Nat.le_of_ble_eq_true rfl)) d_B_isMarkAsTold_4 ⟨Nat.le_of_ble_eq_true rfl, Nat.le_of_ble_eq_true rfl⟩) hS (fun q _ h => h) (fun q h => h) (fun ra u t H locs ht hvm hw hB _ _ hS => ?_)
  obtain ⟨rfl, rfl⟩ := hw
  obtain ⟨hP, hD⟩ := x_back hB ht
  refine lv_istore_n (lv' := [(2, .int r1), (0, .ref (x_ad G 1)), (1, .int p1)]) hx hb d_B_isMarkAsTold_7 rfl hl (by decide) rfl (fun ls hl => ?_)
  refine lv_aload_n hx hb d_B_isMarkAsTold_8 rfl (lv_at hl 1 rfl) ?_
  refine lv_iload_n hx hb d_B_isMarkAsTold_9 rfl (lv_at hl 2 rfl) ?_
  refine lv_bipush (v := (6 : Int32)) hx hb d_B_isMarkAsTold_10 (by decide) ?_
  obtain ⟨r3, z3, hq4, hf⟩ := x_cl_some hf
  refine va_calli (va_runV (As := [.int p1, .int (6 : Int32)]) (rest := []) ⟨hx, hb, hml, hown, hts⟩ (c_B_get l G p1 (6 : Int32) z1 r3 z3 hq4) (cwV 2 hts (x_gV t_174 t_175 t_176 t_3 t_177) rfl rfl rfl (by decide +kernel) ⟨Nat.le_of_ble_eq_true rfl, Nat.le_of_ble_eq_true rfl⟩) ⟨x_blind _ _ _, va_recv hK hP (ci := 1) (q0 := 1) rfl (x_lk_B G _), fun U hU hW => ⟨rfl, x_pw hP hD hK hG hS hz hU hW⟩⟩ rfl rfl hl.1 rfl (lv_room (Nat.le_of_ble_eq_true rfl)) d_B_isMarkAsTold_12 ⟨Nat.le_of_ble_eq_true rfl, Nat.le_of_ble_eq_true rfl⟩) hS (fun q _ h => h) (fun q h => h) (fun ra u t H locs ht hvm hw hB _ _ hS => ?_)
  obtain ⟨rfl, rfl⟩ := hw
  obtain ⟨hP, hD⟩ := x_back hB ht
  refine lv_if_ne (tgt := 43) hx hb d_B_isMarkAsTold_15 (by decide) (fun hc5 => ?_) (fun hc5 => ?_)
  · have hf := x_br_f hf hc5
    refine lv_iconst (v := (0 : Int32)) hx hb d_B_isMarkAsTold_43 (by decide) ?_
    obtain ⟨rfl, rfl⟩ := x_ret hf
    exact W.zret (v := (0 : Int32)) hx hb hr rfl (fun t ht hW => ⟨⟨_, _, rfl, ⟨rfl, rfl⟩, x_pw hP hD hK hG hS hz ht hW⟩, hS.F ht⟩) hS.2.2 d_B_isMarkAsTold_44
  · have hf := x_br_t hf hc5
    refine lv_aload_n hx hb d_B_isMarkAsTold_18 rfl (lv_at hl 1 rfl) ?_
    refine lv_iload_n hx hb d_B_isMarkAsTold_19 rfl (lv_at hl 2 rfl) ?_
    refine lv_bipush (v := (7 : Int32)) hx hb d_B_isMarkAsTold_20 (by decide) ?_
    obtain ⟨r6, z6, hq7, hf⟩ := x_cl_some hf
    refine va_calli (va_runV (As := [.int p1, .int (7 : Int32)]) (rest := []) ⟨hx, hb, hml, hown, hts⟩ (c_B_get l G p1 (7 : Int32) z3 r6 z6 hq7) (cwV 2 hts (x_gV t_174 t_175 t_176 t_3 t_177) rfl rfl rfl (by decide +kernel) ⟨Nat.le_of_ble_eq_true rfl, Nat.le_of_ble_eq_true rfl⟩) ⟨x_blind _ _ _, va_recv hK hP (ci := 1) (q0 := 1) rfl (x_lk_B G _), fun U hU hW => ⟨rfl, x_pw hP hD hK hG hS hz hU hW⟩⟩ rfl rfl hl.1 rfl (lv_room (Nat.le_of_ble_eq_true rfl)) d_B_isMarkAsTold_22 ⟨Nat.le_of_ble_eq_true rfl, Nat.le_of_ble_eq_true rfl⟩) hS (fun q _ h => h) (fun q h => h) (fun ra u t H locs ht hvm hw hB _ _ hS => ?_)
    obtain ⟨rfl, rfl⟩ := hw
    obtain ⟨hP, hD⟩ := x_back hB ht
    refine lv_iconst (v := (1 : Int32)) hx hb d_B_isMarkAsTold_25 (by decide) ?_
    refine lv_icmp_ne (tgt := 43) hx hb d_B_isMarkAsTold_26 (by decide) (fun hc8 => ?_) (fun hc8 => ?_)
    · have hf := x_br_f hf hc8
      refine lv_iconst (v := (0 : Int32)) hx hb d_B_isMarkAsTold_43 (by decide) ?_
      obtain ⟨rfl, rfl⟩ := x_ret hf
      exact W.zret (v := (0 : Int32)) hx hb hr rfl (fun t ht hW => ⟨⟨_, _, rfl, ⟨rfl, rfl⟩, x_pw hP hD hK hG hS hz ht hW⟩, hS.F ht⟩) hS.2.2 d_B_isMarkAsTold_44
    · have hf := x_br_t hf hc8
      refine lv_iload_n hx hb d_B_isMarkAsTold_29 rfl (lv_at hl 0 rfl) ?_
      refine lv_iconst (v := (1 : Int32)) hx hb d_B_isMarkAsTold_30 (by decide) ?_
      refine lv_icmp_lt (tgt := 43) hx hb d_B_isMarkAsTold_31 (by decide) (fun hc9 => ?_) (fun hc9 => ?_)
      · have hf := x_br_t hf hc9
        refine lv_iconst (v := (0 : Int32)) hx hb d_B_isMarkAsTold_43 (by decide) ?_
        obtain ⟨rfl, rfl⟩ := x_ret hf
        exact W.zret (v := (0 : Int32)) hx hb hr rfl (fun t ht hW => ⟨⟨_, _, rfl, ⟨rfl, rfl⟩, x_pw hP hD hK hG hS hz ht hW⟩, hS.F ht⟩) hS.2.2 d_B_isMarkAsTold_44
      · have hf := x_br_f hf hc9
        refine lv_iload_n hx hb d_B_isMarkAsTold_34 rfl (lv_at hl 0 rfl) ?_
        refine lv_iconst (v := (2 : Int32)) hx hb d_B_isMarkAsTold_35 (by decide) ?_
        refine lv_icmp_gt (tgt := 43) hx hb d_B_isMarkAsTold_36 (by decide) (fun hc10 => ?_) (fun hc10 => ?_)
        · have hf := x_br_t hf hc10
          refine lv_iconst (v := (0 : Int32)) hx hb d_B_isMarkAsTold_43 (by decide) ?_
          obtain ⟨rfl, rfl⟩ := x_ret hf
          exact W.zret (v := (0 : Int32)) hx hb hr rfl (fun t ht hW => ⟨⟨_, _, rfl, ⟨rfl, rfl⟩, x_pw hP hD hK hG hS hz ht hW⟩, hS.F ht⟩) hS.2.2 d_B_isMarkAsTold_44
        · have hf := x_br_f hf hc10
          refine lv_iconst (v := (1 : Int32)) hx hb d_B_isMarkAsTold_39 (by decide) ?_
          refine lv_goto (tgt := 44) hx hb d_B_isMarkAsTold_40 (by decide) ?_
          obtain ⟨rfl, rfl⟩ := x_ret hf
          exact W.zret (v := (1 : Int32)) hx hb hr rfl (fun t ht hW => ⟨⟨_, _, rfl, ⟨rfl, rfl⟩, x_pw hP hD hK hG hS hz ht hW⟩, hS.F ht⟩) hS.2.2 d_B_isMarkAsTold_44
abbrev rm_B_copyData : Room := { frames := 1, cells := 0, slots := 0, locals := 60 }
set_option maxHeartbeats 4000000 in
set_option maxRecDepth 100000 in
theorem c_B_copyData (l : Launch) (G : x_G) (p1 : Int32) (p2 : Int32) (k3 : Nat) (hk3 : x_isA k3 = true) (p4 : Int32) (z0 : x_St) (r : Unit) (zo : x_St) (hf : f_B_copyData (x_n G) p1 p2 k3 p4 z0 = some (r, zo)) : Met l (⟨"ContentLibrary$Blocks", "copyData", "(II[II)V"⟩ : MethodName) (x_ws (⟨"ContentLibrary$Blocks", "copyData", "(II[II)V"⟩ : MethodName) prog_2_method_12_code 5 none) rm_B_copyData (va_Pc [.ref (x_ad G 1), .int p1, .int p2, .ref (x_ad G k3), .int p4] (x_PW G z0)) (va_Qv (fun u => r = () ∧ zo = u) (x_PW G) (x_A G)) 0 0 (x_A G) := by
  refine Met.ofW (cc := prog_2_method_12_code) (maxL := 5) (ret := none) (by decide) rfl ?_
  intro p e s m args below meth c s₁ B hml hv
  obtain ⟨rfl, hz, hP, hD, hK, hG⟩ := hv
  have C0 : x_Ctx G p s m _ meth c prog_2_method_12_code "ContentLibrary$Blocks" 5 none := ⟨B.exec, B.bytes, B.returns, hml, findClass_of_methodNamed B.named, fun w h => atoms_spec (ws := (x_ws (⟨"ContentLibrary$Blocks", "copyData", "(II[II)V"⟩ : MethodName) prog_2_method_12_code 5 none)) B.pre w (List.mem_cons_of_mem _ h), B.notSynchronized, hz, hK, hG⟩
  obtain ⟨hx, hb, hr, hml, hown, hts, hlocks, hz, hK, hG⟩ := id C0
  have hS : va_S (x_A G) s.heap s.heap [] := va_S.rf
  have hl := lv_entry ([.ref (x_ad G 1), .int p1, .int p2, .ref (x_ad G k3), .int p4]) (n := 5) (Nat.le_of_ble_eq_true rfl)
  rw [lg_entry_eq]
  generalize (lg_sl ([.ref (x_ad G 1), .int p1, .int p2, .ref (x_ad G k3), .int p4]) ++ List.replicate (5 - (lg_sl ([.ref (x_ad G 1), .int p1, .int p2, .ref (x_ad G k3), .int p4])).length) Slot.unset).toArray = ls at hl ⊢
  have hl : lv_has ls 5 [(0, .ref (x_ad G 1)), (1, .int p1), (2, .int p2), (3, .ref (x_ad G k3)), (4, .int p4)] := hl
  rw [f_B_copyData] at hf
  refine lv_aload_n hx hb d_B_copyData_0 rfl (lv_at hl 0 rfl) ?_
  refine va_get (D := x_D G) (ci := 1) (v := .ref (x_ad G 2)) (C := "ContentLibrary$Blocks") (T := x_TB) (N := 5) hx hb hts x_inB hown hK hP 1 (x_lk_B G _) rfl 3 (by decide) (hts _ t_45) (fun _ h9 => h9) rfl d_B_copyData_1 ?_
  refine lv_iload_n hx hb d_B_copyData_4 rfl (lv_at hl 1 rfl) ?_
  refine lv_bipush (v := (64 : Int32)) hx hb d_B_copyData_5 (by decide) ?_
  refine lv_imul hx hb d_B_copyData_7 ?_
  refine lv_bipush (v := (8 : Int32)) hx hb d_B_copyData_8 (by decide) ?_
  refine lv_iadd hx hb d_B_copyData_10 ?_
  refine lv_aload_n hx hb d_B_copyData_11 rfl (lv_at hl 3 rfl) ?_
  refine lv_iload hx hb d_B_copyData_12 (lv_at hl 4 rfl) ?_
  refine lv_iload_n hx hb d_B_copyData_14 rfl (lv_at hl 2 rfl) ?_
  obtain ⟨hc1, hc2, hc3, hc4, hc5, hf⟩ := x_ckc_some hf
  refine va_copyi hx hb (hml.trans hl.1.symm) hown (hts _ t_212) (hts _ t_214) (hts _ t_213) (hts _ t_16) hK hP hD hS 2 k3 0 0 (x_lk_A G _ rfl) (x_lk_A G _ hk3) rfl rfl rfl hc1 hc2 hc3 hc4 hc5 (fun _ _ => rfl) (Nat.le_of_ble_eq_true rfl) (Nat.le_of_ble_eq_true rfl) d_B_copyData_15 (fun H locs hP hD hS => ?_)
  rw [x_cp_A G _ _ _ _ _ hk3] at hP hD
  obtain ⟨rfl, rfl⟩ := x_ret hf
  exact W.vret hx hb hr (fun t ht hW => ⟨⟨_, rfl, ⟨rfl, rfl⟩, x_pw hP hD hK hG hS hz ht hW⟩, hS.F ht⟩) hS.2.2 d_B_copyData_18
abbrev rm_B_beginImage : Room := { frames := 1, cells := 0, slots := 0, locals := 23 }
set_option maxHeartbeats 4000000 in
set_option maxRecDepth 100000 in
theorem c_B_beginImage (l : Launch) (G : x_G) (p1 : Int32) (p2 : Int32) (p3 : Int32) (p4 : Int32) (z0 : x_St) (r : Unit) (zo : x_St) (hf : f_B_beginImage (x_n G) p1 p2 p3 p4 z0 = some (r, zo)) : Met l (⟨"ContentLibrary$Blocks", "beginImage", "(IIII)V"⟩ : MethodName) (x_ws (⟨"ContentLibrary$Blocks", "beginImage", "(IIII)V"⟩ : MethodName) prog_2_method_15_code 5 none) rm_B_beginImage (va_Pc [.ref (x_ad G 1), .int p1, .int p2, .int p3, .int p4] (x_PW G z0)) (va_Qv (fun u => r = () ∧ zo = u) (x_PW G) (x_A G)) 0 0 (x_A G) := by
  refine Met.ofW (cc := prog_2_method_15_code) (maxL := 5) (ret := none) (by decide) rfl ?_
  intro p e s m args below meth c s₁ B hml hv
  obtain ⟨rfl, hz, hP, hD, hK, hG⟩ := hv
  have C0 : x_Ctx G p s m _ meth c prog_2_method_15_code "ContentLibrary$Blocks" 5 none := ⟨B.exec, B.bytes, B.returns, hml, findClass_of_methodNamed B.named, fun w h => atoms_spec (ws := (x_ws (⟨"ContentLibrary$Blocks", "beginImage", "(IIII)V"⟩ : MethodName) prog_2_method_15_code 5 none)) B.pre w (List.mem_cons_of_mem _ h), B.notSynchronized, hz, hK, hG⟩
  obtain ⟨hx, hb, hr, hml, hown, hts, hlocks, hz, hK, hG⟩ := id C0
  have hS : va_S (x_A G) s.heap s.heap [] := va_S.rf
  have hl := lv_entry ([.ref (x_ad G 1), .int p1, .int p2, .int p3, .int p4]) (n := 5) (Nat.le_of_ble_eq_true rfl)
  rw [lg_entry_eq]
  generalize (lg_sl ([.ref (x_ad G 1), .int p1, .int p2, .int p3, .int p4]) ++ List.replicate (5 - (lg_sl ([.ref (x_ad G 1), .int p1, .int p2, .int p3, .int p4])).length) Slot.unset).toArray = ls at hl ⊢
  have hl : lv_has ls 5 [(0, .ref (x_ad G 1)), (1, .int p1), (2, .int p2), (3, .int p3), (4, .int p4)] := hl
  rw [f_B_beginImage] at hf
  refine lv_aload_n hx hb d_B_beginImage_0 rfl (lv_at hl 0 rfl) ?_
  refine va_get (D := x_D G) (ci := 1) (v := .ref (x_ad G 3)) (C := "ContentLibrary$Blocks") (T := x_TB) (N := 5) hx hb hts x_inB hown hK hP 1 (x_lk_B G _) rfl 4 (by decide) (hts _ t_46) (fun _ h9 => h9) rfl d_B_beginImage_1 ?_
  refine lv_iconst (v := (0 : Int32)) hx hb d_B_beginImage_4 (by decide) ?_
  obtain ⟨r1, z1, hq2, hf⟩ := x_cl_some hf
  refine va_callv (va_runS (As := [.ref (x_ad G 3), .int (0 : Int32)]) (rest := []) ⟨hx, hb, hml, hown, hts⟩ (c_Arrays_fill l G 3 (by decide) (0 : Int32) z0 r1 z1 hq2) (va_cwS 2 hts (x_gS t_532 t_251 t_15 t_252) rfl rfl rfl (by decide +kernel) ⟨Nat.le_of_ble_eq_true rfl, Nat.le_of_ble_eq_true rfl⟩) ⟨x_blind _ _ _, fun U hU hW => ⟨rfl, x_pw hP hD hK hG hS hz hU hW⟩⟩ rfl rfl hl.1 rfl (lv_room (Nat.le_of_ble_eq_true rfl)) d_B_beginImage_5 ⟨Nat.le_of_ble_eq_true rfl, Nat.le_of_ble_eq_true rfl⟩) hS (fun q _ h => h) (fun q h => h) (fun u t H locs ht hvm hw hB _ _ hS => ?_)
  obtain ⟨rfl, rfl⟩ := hw
  obtain ⟨hP, hD⟩ := x_back hB ht
  refine lv_aload_n hx hb d_B_beginImage_8 rfl (lv_at hl 0 rfl) ?_
  refine va_get (D := x_D G) (ci := 1) (v := .ref (x_ad G 3)) (C := "ContentLibrary$Blocks") (T := x_TB) (N := 5) hx hb hts x_inB hown hK hP 1 (x_lk_B G _) rfl 4 (by decide) (hts _ t_46) (fun _ h9 => h9) rfl d_B_beginImage_9 ?_
  refine lv_iconst (v := (4 : Int32)) hx hb d_B_beginImage_12 (by decide) ?_
  refine lv_iload_n hx hb d_B_beginImage_13 rfl (lv_at hl 1 rfl) ?_
  obtain ⟨hin3, hf⟩ := x_ck_some hf
  refine va_iast hx hb hK hP hD hS 3 0 (x_lk_A G _ rfl) rfl hin3 d_B_beginImage_14 (fun H locs hP hD hS => ?_)
  rw [x_st_A G _ (k := 3) rfl] at hP hD
  refine lv_aload_n hx hb d_B_beginImage_15 rfl (lv_at hl 0 rfl) ?_
  refine va_get (D := x_D G) (ci := 1) (v := .ref (x_ad G 3)) (C := "ContentLibrary$Blocks") (T := x_TB) (N := 5) hx hb hts x_inB hown hK hP 1 (x_lk_B G _) rfl 4 (by decide) (hts _ t_46) (fun _ h9 => h9) rfl d_B_beginImage_16 ?_
  refine lv_iconst (v := (5 : Int32)) hx hb d_B_beginImage_19 (by decide) ?_
  refine lv_iload_n hx hb d_B_beginImage_20 rfl (lv_at hl 2 rfl) ?_
  obtain ⟨hin4, hf⟩ := x_ck_some hf
  refine va_iast hx hb hK hP hD hS 3 0 (x_lk_A G _ rfl) rfl hin4 d_B_beginImage_21 (fun H locs hP hD hS => ?_)
  rw [x_st_A G _ (k := 3) rfl] at hP hD
  refine lv_aload_n hx hb d_B_beginImage_22 rfl (lv_at hl 0 rfl) ?_
  refine va_get (D := x_D G) (ci := 1) (v := .ref (x_ad G 3)) (C := "ContentLibrary$Blocks") (T := x_TB) (N := 5) hx hb hts x_inB hown hK hP 1 (x_lk_B G _) rfl 4 (by decide) (hts _ t_46) (fun _ h9 => h9) rfl d_B_beginImage_23 ?_
  refine lv_bipush (v := (6 : Int32)) hx hb d_B_beginImage_26 (by decide) ?_
  refine lv_iload_n hx hb d_B_beginImage_28 rfl (lv_at hl 3 rfl) ?_
  obtain ⟨hin5, hf⟩ := x_ck_some hf
  refine va_iast hx hb hK hP hD hS 3 0 (x_lk_A G _ rfl) rfl hin5 d_B_beginImage_29 (fun H locs hP hD hS => ?_)
  rw [x_st_A G _ (k := 3) rfl] at hP hD
  refine lv_aload_n hx hb d_B_beginImage_30 rfl (lv_at hl 0 rfl) ?_
  refine va_get (D := x_D G) (ci := 1) (v := .ref (x_ad G 3)) (C := "ContentLibrary$Blocks") (T := x_TB) (N := 5) hx hb hts x_inB hown hK hP 1 (x_lk_B G _) rfl 4 (by decide) (hts _ t_46) (fun _ h9 => h9) rfl d_B_beginImage_31 ?_
  refine lv_bipush (v := (7 : Int32)) hx hb d_B_beginImage_34 (by decide) ?_
  refine lv_iload hx hb d_B_beginImage_36 (lv_at hl 4 rfl) ?_
  obtain ⟨hin6, hf⟩ := x_ck_some hf
  refine va_iast hx hb hK hP hD hS 3 0 (x_lk_A G _ rfl) rfl hin6 d_B_beginImage_38 (fun H locs hP hD hS => ?_)
  rw [x_st_A G _ (k := 3) rfl] at hP hD
  obtain ⟨rfl, rfl⟩ := x_ret hf
  exact W.vret hx hb hr (fun t ht hW => ⟨⟨_, rfl, ⟨rfl, rfl⟩, x_pw hP hD hK hG hS hz ht hW⟩, hS.F ht⟩) hS.2.2 d_B_beginImage_39
abbrev rm_B_put : Room := { frames := 0, cells := 0, slots := 0, locals := 0 }
set_option maxHeartbeats 4000000 in
set_option maxRecDepth 100000 in
theorem w_B_put_32 (l : Launch) (G : x_G) {p : Program} {e : Env} {s : State} {m : MethodId} {args : Array Value} {below : List Frame} {meth : Method} {c : Code} (C0 : x_Ctx G p s m args meth c prog_2_method_18_code "ContentLibrary$Blocks" 4 (some .boolean)) (r : Int32) (zo : x_St) : ∀ (a1 : Int32) (a2 : Int32) (a3 : Int32) (z0 : x_St), f_B_put_32 (x_n G) a1 a2 a3 z0 = some (r, zo) → ∀ (H : Heap) (locs : List Loc) (ls : Array Slot), va_P (x_D G) vwCl (x_Wd G z0) H → va_D (x_A G) (x_Wd G z0) → va_S (x_A G) s.heap H locs → lv_has ls 4 [(0, .ref (x_ad G 1)), (1, .int a1), (2, .int a2), (3, .int a3)] → W p l e rm_B_put s m args below meth c H locs 0 0 (MQ below (va_Qi (fun a u => r = a ∧ zo = u) (x_PW G) (x_A G)) args s 0 0 (x_A G)) (F0 m 32 ls []) := by
  obtain ⟨hx, hb, hr, hml, hown, hts, hlocks, hz, hK, hG⟩ := id C0
  intro a1 a2 a3 z0 hf H locs ls hP hD hS hl
  rw [f_B_put_32] at hf
  refine lv_aload_n hx hb d_B_put_32 rfl (lv_at hl 0 rfl) ?_
  refine va_get (D := x_D G) (ci := 1) (v := .ref (x_ad G 2)) (C := "ContentLibrary$Blocks") (T := x_TB) (N := 5) hx hb hts x_inB hown hK hP 1 (x_lk_B G _) rfl 3 (by decide) (hts _ t_45) (fun _ h9 => h9) rfl d_B_put_33 ?_
  refine lv_iload_n hx hb d_B_put_36 rfl (lv_at hl 1 rfl) ?_
  refine lv_bipush (v := (64 : Int32)) hx hb d_B_put_37 (by decide) ?_
  refine lv_imul hx hb d_B_put_39 ?_
  refine lv_iload_n hx hb d_B_put_40 rfl (lv_at hl 2 rfl) ?_
  refine lv_iadd hx hb d_B_put_41 ?_
  refine lv_iload_n hx hb d_B_put_42 rfl (lv_at hl 3 rfl) ?_
  obtain ⟨hin1, hf⟩ := x_ck_some hf
  refine va_iast hx hb hK hP hD hS 2 0 (x_lk_A G _ rfl) rfl hin1 d_B_put_43 (fun H locs hP hD hS => ?_)
  rw [x_st_A G _ (k := 2) rfl] at hP hD
  refine lv_iconst (v := (1 : Int32)) hx hb d_B_put_44 (by decide) ?_
  obtain ⟨rfl, rfl⟩ := x_ret hf
  exact W.zret (v := (1 : Int32)) hx hb hr rfl (fun t ht hW => ⟨⟨_, _, rfl, ⟨rfl, rfl⟩, x_pw hP hD hK hG hS hz ht hW⟩, hS.F ht⟩) hS.2.2 d_B_put_45
set_option maxHeartbeats 4000000 in
set_option maxRecDepth 100000 in
theorem c_B_put (l : Launch) (G : x_G) (p1 : Int32) (p2 : Int32) (p3 : Int32) (z0 : x_St) (r : Int32) (zo : x_St) (hf : f_B_put (x_n G) p1 p2 p3 z0 = some (r, zo)) : Met l (⟨"ContentLibrary$Blocks", "put", "(III)Z"⟩ : MethodName) (x_ws (⟨"ContentLibrary$Blocks", "put", "(III)Z"⟩ : MethodName) prog_2_method_18_code 4 (some .boolean)) rm_B_put (va_Pc [.ref (x_ad G 1), .int p1, .int p2, .int p3] (x_PW G z0)) (va_Qi (fun a u => r = a ∧ zo = u) (x_PW G) (x_A G)) 0 0 (x_A G) := by
  refine Met.ofW (cc := prog_2_method_18_code) (maxL := 4) (ret := (some .boolean)) (by decide) rfl ?_
  intro p e s m args below meth c s₁ B hml hv
  obtain ⟨rfl, hz, hP, hD, hK, hG⟩ := hv
  have C0 : x_Ctx G p s m _ meth c prog_2_method_18_code "ContentLibrary$Blocks" 4 (some .boolean) := ⟨B.exec, B.bytes, B.returns, hml, findClass_of_methodNamed B.named, fun w h => atoms_spec (ws := (x_ws (⟨"ContentLibrary$Blocks", "put", "(III)Z"⟩ : MethodName) prog_2_method_18_code 4 (some .boolean))) B.pre w (List.mem_cons_of_mem _ h), B.notSynchronized, hz, hK, hG⟩
  obtain ⟨hx, hb, hr, hml, hown, hts, hlocks, hz, hK, hG⟩ := id C0
  have hS : va_S (x_A G) s.heap s.heap [] := va_S.rf
  have hl := lv_entry ([.ref (x_ad G 1), .int p1, .int p2, .int p3]) (n := 4) (Nat.le_of_ble_eq_true rfl)
  rw [lg_entry_eq]
  generalize (lg_sl ([.ref (x_ad G 1), .int p1, .int p2, .int p3]) ++ List.replicate (4 - (lg_sl ([.ref (x_ad G 1), .int p1, .int p2, .int p3])).length) Slot.unset).toArray = ls at hl ⊢
  have hl : lv_has ls 4 [(0, .ref (x_ad G 1)), (1, .int p1), (2, .int p2), (3, .int p3)] := hl
  rw [f_B_put] at hf
  refine lv_aload_n hx hb d_B_put_0 rfl (lv_at hl 0 rfl) ?_
  refine va_get (D := x_D G) (ci := 1) (v := .int (z0.1 1 1)) (C := "ContentLibrary$Blocks") (T := x_TB) (N := 5) hx hb hts x_inB hown hK hP 1 (x_lk_B G _) rfl 1 (by decide) (hts _ t_41) (fun _ h9 => h9) rfl d_B_put_1 ?_
  refine lv_if_ne (tgt := 14) hx hb d_B_put_4 (by decide) (fun hc2 => ?_) (fun hc2 => ?_)
  · have hf := x_br_f hf hc2
    refine lv_aload_n hx hb d_B_put_14 rfl (lv_at hl 0 rfl) ?_
    refine va_get (D := x_D G) (ci := 1) (v := .int (z0.1 1 1)) (C := "ContentLibrary$Blocks") (T := x_TB) (N := 5) hx hb hts x_inB hown hK hP 1 (x_lk_B G _) rfl 1 (by decide) (hts _ t_41) (fun _ h9 => h9) rfl d_B_put_15 ?_
    refine lv_iconst (v := (-1 : Int32)) hx hb d_B_put_18 (by decide) ?_
    refine lv_icmp_eq (tgt := 32) hx hb d_B_put_19 (by decide) (fun hc3 => ?_) (fun hc3 => ?_)
    · have hf := x_br_t hf hc3
      exact w_B_put_32 l G C0 r zo p1 p2 p3 z0 hf _ _ _ hP hD hS (lv_sub hl [0, 1, 2, 3] rfl)
    · have hf := x_br_f hf hc3
      refine lv_aload_n hx hb d_B_put_22 rfl (lv_at hl 0 rfl) ?_
      refine lv_dup hx hb d_B_put_23 rfl ?_
      refine va_get (D := x_D G) (ci := 1) (v := .int (z0.1 1 1)) (C := "ContentLibrary$Blocks") (T := x_TB) (N := 5) hx hb hts x_inB hown hK hP 1 (x_lk_B G _) rfl 1 (by decide) (hts _ t_41) (fun _ h9 => h9) rfl d_B_put_24 ?_
      refine lv_iconst (v := (1 : Int32)) hx hb d_B_put_27 (by decide) ?_
      refine lv_isub hx hb d_B_put_28 ?_
      refine va_put (D := x_D G) (ci := 1) (v := .int ((z0.1 1 1) - (1 : Int32))) (ty := .int) (C := "ContentLibrary$Blocks") (T := x_TB) (N := 5) hx hb hts x_inB x_tyB x_tyB_ok x_nmB hown hK hP hD hS 1 (x_lk_B G _) rfl 1 (by decide) (hts _ t_41) (fun _ h9 => h9) rfl (by decide +kernel) rfl rfl (Nat.le_of_ble_eq_true rfl) d_B_put_29 (fun H locs hP hD hS => ?_)
      rw [x_st_B1 G _] at hP hD
      exact w_B_put_32 l G C0 r zo p1 p2 p3 (x_put z0 1 1 ((z0.1 1 1) - (1 : Int32))) hf _ _ _ hP hD hS (lv_sub hl [0, 1, 2, 3] rfl)
  · have hf := x_br_t hf hc2
    refine lv_aload_n hx hb d_B_put_7 rfl (lv_at hl 0 rfl) ?_
    refine lv_iconst (v := (1 : Int32)) hx hb d_B_put_8 (by decide) ?_
    refine va_put (D := x_D G) (ci := 1) (v := .int (1 : Int32)) (ty := .boolean) (C := "ContentLibrary$Blocks") (T := x_TB) (N := 5) hx hb hts x_inB x_tyB x_tyB_ok x_nmB hown hK hP hD hS 1 (x_lk_B G _) rfl 2 (by decide) (hts _ t_43) (fun _ h9 => h9) rfl (by decide +kernel) rfl rfl (Nat.le_of_ble_eq_true rfl) d_B_put_9 (fun H locs hP hD hS => ?_)
    rw [x_st_B2 G _] at hP hD
    refine lv_iconst (v := (0 : Int32)) hx hb d_B_put_12 (by decide) ?_
    obtain ⟨rfl, rfl⟩ := x_ret hf
    exact W.zret (v := (0 : Int32)) hx hb hr rfl (fun t ht hW => ⟨⟨_, _, rfl, ⟨rfl, rfl⟩, x_pw hP hD hK hG hS hz ht hW⟩, hS.F ht⟩) hS.2.2 d_B_put_13
abbrev rm_B_writeImage : Room := { frames := 2, cells := 0, slots := 0, locals := 45 }
set_option maxHeartbeats 4000000 in
set_option maxRecDepth 100000 in
theorem w_B_writeImage_86 (l : Launch) (G : x_G) {p : Program} {e : Env} {s : State} {m : MethodId} {args : Array Value} {below : List Frame} {meth : Method} {c : Code} (C0 : x_Ctx G p s m args meth c prog_2_method_16_code "ContentLibrary$Blocks" 5 (some .boolean)) (r : Int32) (zo : x_St) : ∀ (a1 : Int32) (a3 : Int32) (z0 : x_St), f_B_writeImage_86 (x_n G) a1 a3 z0 = some (r, zo) → ∀ (H : Heap) (locs : List Loc) (ls : Array Slot), va_P (x_D G) vwCl (x_Wd G z0) H → va_D (x_A G) (x_Wd G z0) → va_S (x_A G) s.heap H locs → lv_has ls 5 [(0, .ref (x_ad G 1)), (1, .int a1), (3, .int a3)] → W p l e rm_B_writeImage s m args below meth c H locs 0 0 (MQ below (va_Qi (fun a u => r = a ∧ zo = u) (x_PW G) (x_A G)) args s 0 0 (x_A G)) (F0 m 86 ls []) := by
  obtain ⟨hx, hb, hr, hml, hown, hts, hlocks, hz, hK, hG⟩ := id C0
  intro a1 a3 z0 hf H locs ls hP hD hS hl
  rw [f_B_writeImage_86] at hf
  refine lv_iload_n hx hb d_B_writeImage_86 rfl (lv_at hl 2 rfl) ?_
  refine lv_if_eq (tgt := 109) hx hb d_B_writeImage_87 (by decide) (fun hc1 => ?_) (fun hc1 => ?_)
  · have hf := x_br_t hf hc1
    refine lv_iconst (v := (0 : Int32)) hx hb d_B_writeImage_109 (by decide) ?_
    obtain ⟨rfl, rfl⟩ := x_ret hf
    exact W.zret (v := (0 : Int32)) hx hb hr rfl (fun t ht hW => ⟨⟨_, _, rfl, ⟨rfl, rfl⟩, x_pw hP hD hK hG hS hz ht hW⟩, hS.F ht⟩) hS.2.2 d_B_writeImage_110
  · have hf := x_br_f hf hc1
    refine lv_aload_n hx hb d_B_writeImage_90 rfl (lv_at hl 0 rfl) ?_
    refine lv_iload_n hx hb d_B_writeImage_91 rfl (lv_at hl 1 rfl) ?_
    refine lv_iconst (v := (4 : Int32)) hx hb d_B_writeImage_92 (by decide) ?_
    refine lv_aload_n hx hb d_B_writeImage_93 rfl (lv_at hl 0 rfl) ?_
    refine va_get (D := x_D G) (ci := 1) (v := .ref (x_ad G 3)) (C := "ContentLibrary$Blocks") (T := x_TB) (N := 5) hx hb hts x_inB hown hK hP 1 (x_lk_B G _) rfl 4 (by decide) (hts _ t_46) (fun _ h9 => h9) rfl d_B_writeImage_94 ?_
    refine lv_iconst (v := (4 : Int32)) hx hb d_B_writeImage_97 (by decide) ?_
    obtain ⟨hin2, hf⟩ := x_ck_some hf
    refine va_iald hx hb hK hP 3 0 (x_lk_A G _ rfl) rfl hin2 d_B_writeImage_98 ?_
    obtain ⟨r3, z3, hq4, hf⟩ := x_cl_some hf
    refine va_calli (va_runV (As := [.int a1, .int (4 : Int32), .int (z0.1 3 ((4 : Int32)).toNatClampNeg)]) (rest := []) ⟨hx, hb, hml, hown, hts⟩ (c_B_put l G a1 (4 : Int32) (z0.1 3 ((4 : Int32)).toNatClampNeg) z0 r3 z3 hq4) (cwV 3 hts (x_gV t_517 t_519 sel_ContentLibrary_Blocks_put t_3 t_520) rfl rfl rfl (by decide +kernel) ⟨Nat.le_of_ble_eq_true rfl, Nat.le_of_ble_eq_true rfl⟩) ⟨x_blind _ _ _, va_recv hK hP (ci := 1) (q0 := 1) rfl (x_lk_B G _), fun U hU hW => ⟨rfl, x_pw hP hD hK hG hS hz hU hW⟩⟩ rfl rfl hl.1 rfl (lv_room (Nat.le_of_ble_eq_true rfl)) d_B_writeImage_99 ⟨Nat.le_of_ble_eq_true rfl, Nat.le_of_ble_eq_true rfl⟩) hS (fun q _ h => h) (fun q h => h) (fun ra u t H locs ht hvm hw hB _ _ hS => ?_)
    obtain ⟨rfl, rfl⟩ := hw
    obtain ⟨hP, hD⟩ := x_back hB ht
    refine lv_if_eq (tgt := 109) hx hb d_B_writeImage_102 (by decide) (fun hc5 => ?_) (fun hc5 => ?_)
    · have hf := x_br_t hf hc5
      refine lv_iconst (v := (0 : Int32)) hx hb d_B_writeImage_109 (by decide) ?_
      obtain ⟨rfl, rfl⟩ := x_ret hf
      exact W.zret (v := (0 : Int32)) hx hb hr rfl (fun t ht hW => ⟨⟨_, _, rfl, ⟨rfl, rfl⟩, x_pw hP hD hK hG hS hz ht hW⟩, hS.F ht⟩) hS.2.2 d_B_writeImage_110
    · have hf := x_br_f hf hc5
      refine lv_iconst (v := (1 : Int32)) hx hb d_B_writeImage_105 (by decide) ?_
      refine lv_goto (tgt := 110) hx hb d_B_writeImage_106 (by decide) ?_
      obtain ⟨rfl, rfl⟩ := x_ret hf
      exact W.zret (v := (1 : Int32)) hx hb hr rfl (fun t ht hW => ⟨⟨_, _, rfl, ⟨rfl, rfl⟩, x_pw hP hD hK hG hS hz ht hW⟩, hS.F ht⟩) hS.2.2 d_B_writeImage_110
set_option maxHeartbeats 4000000 in
set_option maxRecDepth 100000 in
theorem w_B_writeImage_56 (l : Launch) (G : x_G) {p : Program} {e : Env} {s : State} {m : MethodId} {args : Array Value} {below : List Frame} {meth : Method} {c : Code} (C0 : x_Ctx G p s m args meth c prog_2_method_16_code "ContentLibrary$Blocks" 5 (some .boolean)) (r : Int32) (zo : x_St) : ∀ (fu : Nat), ∀ (a1 : Int32) (a2 : Int32) (a3 : Int32) (a4 : Int32) (z0 : x_St), f_B_writeImage_56 (x_n G) fu a1 a2 a3 a4 z0 = some (r, zo) → ∀ (H : Heap) (locs : List Loc) (ls : Array Slot), va_P (x_D G) vwCl (x_Wd G z0) H → va_D (x_A G) (x_Wd G z0) → va_S (x_A G) s.heap H locs → lv_has ls 5 [(0, .ref (x_ad G 1)), (1, .int a1), (2, .int a2), (3, .int a3), (4, .int a4)] → W p l e rm_B_writeImage s m args below meth c H locs 0 0 (MQ below (va_Qi (fun a u => r = a ∧ zo = u) (x_PW G) (x_A G)) args s 0 0 (x_A G)) (F0 m 56 ls []) := by
  obtain ⟨hx, hb, hr, hml, hown, hts, hlocks, hz, hK, hG⟩ := id C0
  intro fu
  induction fu with
  | zero =>
    intro a1 a2 a3 a4 z0 hf
    rw [f_B_writeImage_56] at hf
    cases hf
  | succ fu ih =>
    intro a1 a2 a3 a4 z0 hf H locs ls hP hD hS hl
    rw [f_B_writeImage_56] at hf
    refine lv_iload hx hb d_B_writeImage_56 (lv_at hl 4 rfl) ?_
    refine lv_iconst (v := (4 : Int32)) hx hb d_B_writeImage_58 (by decide) ?_
    refine lv_icmp_ge (tgt := 86) hx hb d_B_writeImage_59 (by decide) (fun hc6 => ?_) (fun hc6 => ?_)
    · have hf := x_br_t hf hc6
      exact w_B_writeImage_86 l G C0 r zo a1 a3 z0 hf _ _ _ hP hD hS (lv_sub hl [0, 1, 3] rfl)
    · have hf := x_br_f hf hc6
      refine lv_iload_n hx hb d_B_writeImage_62 rfl (lv_at hl 3 rfl) ?_
      refine lv_if_eq (tgt := 86) hx hb d_B_writeImage_63 (by decide) (fun hc7 => ?_) (fun hc7 => ?_)
      · have hf := x_br_t hf hc7
        exact w_B_writeImage_86 l G C0 r zo a1 a3 z0 hf _ _ _ hP hD hS (lv_sub hl [0, 1, 3] rfl)
      · have hf := x_br_f hf hc7
        refine lv_aload_n hx hb d_B_writeImage_66 rfl (lv_at hl 0 rfl) ?_
        refine lv_iload_n hx hb d_B_writeImage_67 rfl (lv_at hl 1 rfl) ?_
        refine lv_iload hx hb d_B_writeImage_68 (lv_at hl 4 rfl) ?_
        refine lv_iload_n hx hb d_B_writeImage_70 rfl (lv_at hl 2 rfl) ?_
        refine lv_iload hx hb d_B_writeImage_71 (lv_at hl 4 rfl) ?_
        obtain ⟨r8, z8, hq9, hf⟩ := x_cl_some hf
        refine va_calli (va_runS (As := [.int a2, .int a4]) (rest := [.int a4, .int a1, .ref (x_ad G 1)]) ⟨hx, hb, hml, hown, hts⟩ (c_B_byteOfSum l G a2 a4 z0 r8 z8 hq9) (va_cwS 2 hts (x_gS t_193 t_194 t_3 t_195) rfl rfl rfl (by decide +kernel) ⟨Nat.le_of_ble_eq_true rfl, Nat.le_of_ble_eq_true rfl⟩) ⟨x_blind _ _ _, fun U hU hW => ⟨rfl, x_pw hP hD hK hG hS hz hU hW⟩⟩ rfl rfl hl.1 rfl (lv_room (Nat.le_of_ble_eq_true rfl)) d_B_writeImage_73 ⟨Nat.le_of_ble_eq_true rfl, Nat.le_of_ble_eq_true rfl⟩) hS (fun q _ h => h) (fun q h => h) (fun ra u t H locs ht hvm hw hB _ _ hS => ?_)
        obtain ⟨rfl, rfl⟩ := hw
        obtain ⟨hP, hD⟩ := x_back hB ht
        obtain ⟨r10, z10, hq11, hf⟩ := x_cl_some hf
        refine va_calli (va_runV (As := [.int a1, .int a4, .int r8]) (rest := []) ⟨hx, hb, hml, hown, hts⟩ (c_B_put l G a1 a4 r8 z8 r10 z10 hq11) (cwV 3 hts (x_gV t_517 t_519 sel_ContentLibrary_Blocks_put t_3 t_520) rfl rfl rfl (by decide +kernel) ⟨Nat.le_of_ble_eq_true rfl, Nat.le_of_ble_eq_true rfl⟩) ⟨x_blind _ _ _, va_recv hK hP (ci := 1) (q0 := 1) rfl (x_lk_B G _), fun U hU hW => ⟨rfl, x_pw hP hD hK hG hS hz hU hW⟩⟩ rfl rfl hl.1 rfl (lv_room (Nat.le_of_ble_eq_true rfl)) d_B_writeImage_76 ⟨Nat.le_of_ble_eq_true rfl, Nat.le_of_ble_eq_true rfl⟩) hS (fun q _ h => h) (fun q h => h) (fun ra u t H locs ht hvm hw hB _ _ hS => ?_)
        obtain ⟨rfl, rfl⟩ := hw
        obtain ⟨hP, hD⟩ := x_back hB ht
        refine lv_istore_n (lv' := [(3, .int r10), (0, .ref (x_ad G 1)), (1, .int a1), (2, .int a2), (4, .int a4)]) hx hb d_B_writeImage_79 rfl hl (by decide) rfl (fun ls hl => ?_)
        refine lv_iinc (v := (a4 + (1 : Int32))) (lv' := [(4, .int (a4 + (1 : Int32))), (3, .int r10), (0, .ref (x_ad G 1)), (1, .int a1), (2, .int a2)]) hx hb d_B_writeImage_80 hl (k := 4) rfl rfl (by decide) rfl (fun ls hl => ?_)
        refine lv_goto (tgt := 56) hx hb d_B_writeImage_83 (by decide) ?_
        exact ih a1 a2 r10 (a4 + (1 : Int32)) z10 hf _ _ _ hP hD hS (lv_sub hl [2, 3, 4, 1, 0] rfl)
set_option maxHeartbeats 4000000 in
set_option maxRecDepth 100000 in
theorem w_B_writeImage_53 (l : Launch) (G : x_G) {p : Program} {e : Env} {s : State} {m : MethodId} {args : Array Value} {below : List Frame} {meth : Method} {c : Code} (C0 : x_Ctx G p s m args meth c prog_2_method_16_code "ContentLibrary$Blocks" 5 (some .boolean)) (r : Int32) (zo : x_St) : ∀ (a1 : Int32) (a2 : Int32) (a3 : Int32) (z0 : x_St), f_B_writeImage_53 (x_n G) a1 a2 a3 z0 = some (r, zo) → ∀ (H : Heap) (locs : List Loc) (ls : Array Slot), va_P (x_D G) vwCl (x_Wd G z0) H → va_D (x_A G) (x_Wd G z0) → va_S (x_A G) s.heap H locs → lv_has ls 5 [(0, .ref (x_ad G 1)), (1, .int a1), (2, .int a2), (3, .int a3)] → W p l e rm_B_writeImage s m args below meth c H locs 0 0 (MQ below (va_Qi (fun a u => r = a ∧ zo = u) (x_PW G) (x_A G)) args s 0 0 (x_A G)) (F0 m 53 ls []) := by
  obtain ⟨hx, hb, hr, hml, hown, hts, hlocks, hz, hK, hG⟩ := id C0
  intro a1 a2 a3 z0 hf H locs ls hP hD hS hl
  rw [f_B_writeImage_53] at hf
  refine lv_iconst (v := (0 : Int32)) hx hb d_B_writeImage_53 (by decide) ?_
  refine lv_istore (lv' := [(4, .int (0 : Int32)), (0, .ref (x_ad G 1)), (1, .int a1), (2, .int a2), (3, .int a3)]) hx hb d_B_writeImage_54 hl (by decide) rfl (fun ls hl => ?_)
  exact w_B_writeImage_56 l G C0 r zo x_FU a1 a2 a3 (0 : Int32) z0 hf _ _ _ hP hD hS (lv_sub hl [1, 2, 3, 4, 0] rfl)
set_option maxHeartbeats 4000000 in
set_option maxRecDepth 100000 in
theorem w_B_writeImage_21 (l : Launch) (G : x_G) {p : Program} {e : Env} {s : State} {m : MethodId} {args : Array Value} {below : List Frame} {meth : Method} {c : Code} (C0 : x_Ctx G p s m args meth c prog_2_method_16_code "ContentLibrary$Blocks" 5 (some .boolean)) (r : Int32) (zo : x_St) : ∀ (fu : Nat), ∀ (a1 : Int32) (a2 : Int32) (a3 : Int32) (a4 : Int32) (z0 : x_St), f_B_writeImage_21 (x_n G) fu a1 a2 a3 a4 z0 = some (r, zo) → ∀ (H : Heap) (locs : List Loc) (ls : Array Slot), va_P (x_D G) vwCl (x_Wd G z0) H → va_D (x_A G) (x_Wd G z0) → va_S (x_A G) s.heap H locs → lv_has ls 5 [(0, .ref (x_ad G 1)), (1, .int a1), (2, .int a2), (3, .int a3), (4, .int a4)] → W p l e rm_B_writeImage s m args below meth c H locs 0 0 (MQ below (va_Qi (fun a u => r = a ∧ zo = u) (x_PW G) (x_A G)) args s 0 0 (x_A G)) (F0 m 21 ls []) := by
  obtain ⟨hx, hb, hr, hml, hown, hts, hlocks, hz, hK, hG⟩ := id C0
  intro fu
  induction fu with
  | zero =>
    intro a1 a2 a3 a4 z0 hf
    rw [f_B_writeImage_21] at hf
    cases hf
  | succ fu ih =>
    intro a1 a2 a3 a4 z0 hf H locs ls hP hD hS hl
    rw [f_B_writeImage_21] at hf
    refine lv_iload hx hb d_B_writeImage_21 (lv_at hl 4 rfl) ?_
    refine lv_bipush (v := (64 : Int32)) hx hb d_B_writeImage_23 (by decide) ?_
    refine lv_icmp_ge (tgt := 53) hx hb d_B_writeImage_25 (by decide) (fun hc12 => ?_) (fun hc12 => ?_)
    · have hf := x_br_t hf hc12
      exact w_B_writeImage_53 l G C0 r zo a1 a2 a3 z0 hf _ _ _ hP hD hS (lv_sub hl [0, 1, 2, 3] rfl)
    · have hf := x_br_f hf hc12
      refine lv_iload_n hx hb d_B_writeImage_28 rfl (lv_at hl 3 rfl) ?_
      refine lv_if_eq (tgt := 53) hx hb d_B_writeImage_29 (by decide) (fun hc13 => ?_) (fun hc13 => ?_)
      · have hf := x_br_t hf hc13
        exact w_B_writeImage_53 l G C0 r zo a1 a2 a3 z0 hf _ _ _ hP hD hS (lv_sub hl [0, 1, 2, 3] rfl)
      · have hf := x_br_f hf hc13
        refine lv_aload_n hx hb d_B_writeImage_32 rfl (lv_at hl 0 rfl) ?_
        refine lv_iload_n hx hb d_B_writeImage_33 rfl (lv_at hl 1 rfl) ?_
        refine lv_iload hx hb d_B_writeImage_34 (lv_at hl 4 rfl) ?_
        refine lv_aload_n hx hb d_B_writeImage_36 rfl (lv_at hl 0 rfl) ?_
        refine va_get (D := x_D G) (ci := 1) (v := .ref (x_ad G 3)) (C := "ContentLibrary$Blocks") (T := x_TB) (N := 5) hx hb hts x_inB hown hK hP 1 (x_lk_B G _) rfl 4 (by decide) (hts _ t_46) (fun _ h9 => h9) rfl d_B_writeImage_37 ?_
        refine lv_iload hx hb d_B_writeImage_40 (lv_at hl 4 rfl) ?_
        obtain ⟨hin14, hf⟩ := x_ck_some hf
        refine va_iald hx hb hK hP 3 0 (x_lk_A G _ rfl) rfl hin14 d_B_writeImage_42 ?_
        obtain ⟨r15, z15, hq16, hf⟩ := x_cl_some hf
        refine va_calli (va_runV (As := [.int a1, .int a4, .int (z0.1 3 (a4).toNatClampNeg)]) (rest := []) ⟨hx, hb, hml, hown, hts⟩ (c_B_put l G a1 a4 (z0.1 3 (a4).toNatClampNeg) z0 r15 z15 hq16) (cwV 3 hts (x_gV t_517 t_519 sel_ContentLibrary_Blocks_put t_3 t_520) rfl rfl rfl (by decide +kernel) ⟨Nat.le_of_ble_eq_true rfl, Nat.le_of_ble_eq_true rfl⟩) ⟨x_blind _ _ _, va_recv hK hP (ci := 1) (q0 := 1) rfl (x_lk_B G _), fun U hU hW => ⟨rfl, x_pw hP hD hK hG hS hz hU hW⟩⟩ rfl rfl hl.1 rfl (lv_room (Nat.le_of_ble_eq_true rfl)) d_B_writeImage_43 ⟨Nat.le_of_ble_eq_true rfl, Nat.le_of_ble_eq_true rfl⟩) hS (fun q _ h => h) (fun q h => h) (fun ra u t H locs ht hvm hw hB _ _ hS => ?_)
        obtain ⟨rfl, rfl⟩ := hw
        obtain ⟨hP, hD⟩ := x_back hB ht
        refine lv_istore_n (lv' := [(3, .int r15), (0, .ref (x_ad G 1)), (1, .int a1), (2, .int a2), (4, .int a4)]) hx hb d_B_writeImage_46 rfl hl (by decide) rfl (fun ls hl => ?_)
        refine lv_iinc (v := (a4 + (1 : Int32))) (lv' := [(4, .int (a4 + (1 : Int32))), (3, .int r15), (0, .ref (x_ad G 1)), (1, .int a1), (2, .int a2)]) hx hb d_B_writeImage_47 hl (k := 4) rfl rfl (by decide) rfl (fun ls hl => ?_)
        refine lv_goto (tgt := 21) hx hb d_B_writeImage_50 (by decide) ?_
        exact ih a1 a2 r15 (a4 + (1 : Int32)) z15 hf _ _ _ hP hD hS (lv_sub hl [2, 3, 4, 1, 0] rfl)
set_option maxHeartbeats 4000000 in
set_option maxRecDepth 100000 in
theorem c_B_writeImage (l : Launch) (G : x_G) (p1 : Int32) (z0 : x_St) (r : Int32) (zo : x_St) (hf : f_B_writeImage (x_n G) p1 z0 = some (r, zo)) : Met l (⟨"ContentLibrary$Blocks", "writeImage", "(I)Z"⟩ : MethodName) (x_ws (⟨"ContentLibrary$Blocks", "writeImage", "(I)Z"⟩ : MethodName) prog_2_method_16_code 5 (some .boolean)) rm_B_writeImage (va_Pc [.ref (x_ad G 1), .int p1] (x_PW G z0)) (va_Qi (fun a u => r = a ∧ zo = u) (x_PW G) (x_A G)) 0 0 (x_A G) := by
  refine Met.ofW (cc := prog_2_method_16_code) (maxL := 5) (ret := (some .boolean)) (by decide) rfl ?_
  intro p e s m args below meth c s₁ B hml hv
  obtain ⟨rfl, hz, hP, hD, hK, hG⟩ := hv
  have C0 : x_Ctx G p s m _ meth c prog_2_method_16_code "ContentLibrary$Blocks" 5 (some .boolean) := ⟨B.exec, B.bytes, B.returns, hml, findClass_of_methodNamed B.named, fun w h => atoms_spec (ws := (x_ws (⟨"ContentLibrary$Blocks", "writeImage", "(I)Z"⟩ : MethodName) prog_2_method_16_code 5 (some .boolean))) B.pre w (List.mem_cons_of_mem _ h), B.notSynchronized, hz, hK, hG⟩
  obtain ⟨hx, hb, hr, hml, hown, hts, hlocks, hz, hK, hG⟩ := id C0
  have hS : va_S (x_A G) s.heap s.heap [] := va_S.rf
  have hl := lv_entry ([.ref (x_ad G 1), .int p1]) (n := 5) (Nat.le_of_ble_eq_true rfl)
  rw [lg_entry_eq]
  generalize (lg_sl ([.ref (x_ad G 1), .int p1]) ++ List.replicate (5 - (lg_sl ([.ref (x_ad G 1), .int p1])).length) Slot.unset).toArray = ls at hl ⊢
  have hl : lv_has ls 5 [(0, .ref (x_ad G 1)), (1, .int p1)] := hl
  rw [f_B_writeImage] at hf
  refine lv_iload_n hx hb d_B_writeImage_0 rfl (lv_at hl 1 rfl) ?_
  refine lv_aload_n hx hb d_B_writeImage_1 rfl (lv_at hl 0 rfl) ?_
  refine va_get (D := x_D G) (ci := 1) (v := .ref (x_ad G 3)) (C := "ContentLibrary$Blocks") (T := x_TB) (N := 5) hx hb hts x_inB hown hK hP 1 (x_lk_B G _) rfl 4 (by decide) (hts _ t_46) (fun _ h9 => h9) rfl d_B_writeImage_2 ?_
  refine lv_iconst (v := (0 : Int32)) hx hb d_B_writeImage_5 (by decide) ?_
  obtain ⟨r17, z17, hq18, hf⟩ := x_cl_some hf
  refine va_calli (va_runS (As := [.int p1, .ref (x_ad G 3), .int (0 : Int32)]) (rest := []) ⟨hx, hb, hml, hown, hts⟩ (c_B_sumOf l G p1 3 (by decide) (0 : Int32) z0 r17 z17 hq18) (va_cwS 3 hts (x_gS t_186 t_187 t_3 t_188) rfl rfl rfl (by decide +kernel) ⟨Nat.le_of_ble_eq_true rfl, Nat.le_of_ble_eq_true rfl⟩) ⟨x_blind _ _ _, fun U hU hW => ⟨rfl, x_pw hP hD hK hG hS hz hU hW⟩⟩ rfl rfl hl.1 rfl (lv_room (Nat.le_of_ble_eq_true rfl)) d_B_writeImage_6 ⟨Nat.le_of_ble_eq_true rfl, Nat.le_of_ble_eq_true rfl⟩) hS (fun q _ h => h) (fun q h => h) (fun ra u t H locs ht hvm hw hB _ _ hS => ?_)
  obtain ⟨rfl, rfl⟩ := hw
  obtain ⟨hP, hD⟩ := x_back hB ht
  refine lv_istore_n (lv' := [(2, .int r17), (0, .ref (x_ad G 1)), (1, .int p1)]) hx hb d_B_writeImage_9 rfl hl (by decide) rfl (fun ls hl => ?_)
  refine lv_aload_n hx hb d_B_writeImage_10 rfl (lv_at hl 1 rfl) ?_
  refine lv_iload_n hx hb d_B_writeImage_11 rfl (lv_at hl 2 rfl) ?_
  refine lv_iconst (v := (4 : Int32)) hx hb d_B_writeImage_12 (by decide) ?_
  refine lv_iconst (v := (0 : Int32)) hx hb d_B_writeImage_13 (by decide) ?_
  obtain ⟨r19, z19, hq20, hf⟩ := x_cl_some hf
  refine va_calli (va_runV (As := [.int p1, .int (4 : Int32), .int (0 : Int32)]) (rest := []) ⟨hx, hb, hml, hown, hts⟩ (c_B_put l G p1 (4 : Int32) (0 : Int32) z17 r19 z19 hq20) (cwV 3 hts (x_gV t_517 t_519 sel_ContentLibrary_Blocks_put t_3 t_520) rfl rfl rfl (by decide +kernel) ⟨Nat.le_of_ble_eq_true rfl, Nat.le_of_ble_eq_true rfl⟩) ⟨x_blind _ _ _, va_recv hK hP (ci := 1) (q0 := 1) rfl (x_lk_B G _), fun U hU hW => ⟨rfl, x_pw hP hD hK hG hS hz hU hW⟩⟩ rfl rfl hl.1 rfl (lv_room (Nat.le_of_ble_eq_true rfl)) d_B_writeImage_14 ⟨Nat.le_of_ble_eq_true rfl, Nat.le_of_ble_eq_true rfl⟩) hS (fun q _ h => h) (fun q h => h) (fun ra u t H locs ht hvm hw hB _ _ hS => ?_)
  obtain ⟨rfl, rfl⟩ := hw
  obtain ⟨hP, hD⟩ := x_back hB ht
  refine lv_istore_n (lv' := [(3, .int r19), (2, .int r17), (0, .ref (x_ad G 1)), (1, .int p1)]) hx hb d_B_writeImage_17 rfl hl (by decide) rfl (fun ls hl => ?_)
  refine lv_iconst (v := (5 : Int32)) hx hb d_B_writeImage_18 (by decide) ?_
  refine lv_istore (lv' := [(4, .int (5 : Int32)), (3, .int r19), (2, .int r17), (0, .ref (x_ad G 1)), (1, .int p1)]) hx hb d_B_writeImage_19 hl (by decide) rfl (fun ls hl => ?_)
  exact w_B_writeImage_21 l G C0 r zo x_FU p1 r17 r19 (5 : Int32) z19 hf _ _ _ hP hD hS (lv_sub hl [3, 4, 2, 1, 0] rfl)
abbrev rm_B_writeRecordBlock : Room := { frames := 3, cells := 0, slots := 0, locals := 69 }
set_option maxHeartbeats 4000000 in
set_option maxRecDepth 100000 in
theorem c_B_writeRecordBlock (l : Launch) (G : x_G) (p1 : Int32) (p2 : Int32) (p3 : Int32) (k4 : Nat) (hk4 : x_isP k4 = true) (z0 : x_St) (r : Int32) (zo : x_St) (hf : f_B_writeRecordBlock (x_n G) p1 p2 p3 k4 z0 = some (r, zo)) : Met l (⟨"ContentLibrary$Blocks", "writeRecordBlock", "(IIILContentLibrary$Picture;)Z"⟩ : MethodName) (x_ws (⟨"ContentLibrary$Blocks", "writeRecordBlock", "(IIILContentLibrary$Picture;)Z"⟩ : MethodName) prog_2_method_13_code 7 (some .boolean)) rm_B_writeRecordBlock (va_Pc [.ref (x_ad G 1), .int p1, .int p2, .int p3, .ref (x_ad G k4)] (x_PW G z0)) (va_Qi (fun a u => r = a ∧ zo = u) (x_PW G) (x_A G)) 0 0 (x_A G) := by
  refine Met.ofW (cc := prog_2_method_13_code) (maxL := 7) (ret := (some .boolean)) (by decide) rfl ?_
  intro p e s m args below meth c s₁ B hml hv
  obtain ⟨rfl, hz, hP, hD, hK, hG⟩ := hv
  have C0 : x_Ctx G p s m _ meth c prog_2_method_13_code "ContentLibrary$Blocks" 7 (some .boolean) := ⟨B.exec, B.bytes, B.returns, hml, findClass_of_methodNamed B.named, fun w h => atoms_spec (ws := (x_ws (⟨"ContentLibrary$Blocks", "writeRecordBlock", "(IIILContentLibrary$Picture;)Z"⟩ : MethodName) prog_2_method_13_code 7 (some .boolean))) B.pre w (List.mem_cons_of_mem _ h), B.notSynchronized, hz, hK, hG⟩
  obtain ⟨hx, hb, hr, hml, hown, hts, hlocks, hz, hK, hG⟩ := id C0
  have hS : va_S (x_A G) s.heap s.heap [] := va_S.rf
  have hl := lv_entry ([.ref (x_ad G 1), .int p1, .int p2, .int p3, .ref (x_ad G k4)]) (n := 7) (Nat.le_of_ble_eq_true rfl)
  rw [lg_entry_eq]
  generalize (lg_sl ([.ref (x_ad G 1), .int p1, .int p2, .int p3, .ref (x_ad G k4)]) ++ List.replicate (7 - (lg_sl ([.ref (x_ad G 1), .int p1, .int p2, .int p3, .ref (x_ad G k4)])).length) Slot.unset).toArray = ls at hl ⊢
  have hl : lv_has ls 7 [(0, .ref (x_ad G 1)), (1, .int p1), (2, .int p2), (3, .int p3), (4, .ref (x_ad G k4))] := hl
  rw [f_B_writeRecordBlock] at hf
  refine lv_iload_n hx hb d_B_writeRecordBlock_0 rfl (lv_at hl 3 rfl) ?_
  refine lv_bipush (v := (56 : Int32)) hx hb d_B_writeRecordBlock_1 (by decide) ?_
  refine lv_imul hx hb d_B_writeRecordBlock_3 ?_
  refine lv_istore (lv' := [(5, .int (p3 * (56 : Int32))), (0, .ref (x_ad G 1)), (1, .int p1), (2, .int p2), (3, .int p3), (4, .ref (x_ad G k4))]) hx hb d_B_writeRecordBlock_4 hl (by decide) rfl (fun ls hl => ?_)
  refine lv_bipush (v := (56 : Int32)) hx hb d_B_writeRecordBlock_6 (by decide) ?_
  refine lv_aload hx hb d_B_writeRecordBlock_8 (lv_at hl 5 rfl) ?_
  obtain ⟨r1, z1, hq2, hf⟩ := x_cl_some hf
  refine va_calli (va_runV (As := []) (rest := [.int (56 : Int32)]) ⟨hx, hb, hml, hown, hts⟩ (c_P_length l G k4 hk4 z0 r1 z1 hq2) (cwV 0 hts (x_gV t_525 t_239 t_240 t_4 t_241) rfl rfl rfl (by decide +kernel) ⟨Nat.le_of_ble_eq_true rfl, Nat.le_of_ble_eq_true rfl⟩) ⟨x_blind _ _ _, va_recv hK hP (ci := 2) (q0 := k4) rfl (x_lk_P G _ hk4), fun U hU hW => ⟨rfl, x_pw hP hD hK hG hS hz hU hW⟩⟩ rfl rfl hl.1 rfl (lv_room (Nat.le_of_ble_eq_true rfl)) d_B_writeRecordBlock_10 ⟨Nat.le_of_ble_eq_true rfl, Nat.le_of_ble_eq_true rfl⟩) hS (fun q _ h => h) (fun q h => h) (fun ra u t H locs ht hvm hw hB _ _ hS => ?_)
  obtain ⟨rfl, rfl⟩ := hw
  obtain ⟨hP, hD⟩ := x_back hB ht
  refine lv_iload hx hb d_B_writeRecordBlock_13 (lv_at hl 0 rfl) ?_
  refine lv_isub hx hb d_B_writeRecordBlock_15 ?_
  refine va_mmin hx hb (hml.trans hl.1.symm) hown (hts _ t_526) (hts _ t_28) (hts _ t_2) (hts _ t_29) (Nat.le_of_ble_eq_true rfl) (Nat.le_of_ble_eq_true rfl) (Nat.le_of_ble_eq_true rfl) (Nat.le_of_ble_eq_true rfl) d_B_writeRecordBlock_16 ?_
  refine lv_istore (lv' := [(6, .int (if (r1 - (p3 * (56 : Int32))) < (56 : Int32) then (r1 - (p3 * (56 : Int32))) else (56 : Int32))), (5, .int (p3 * (56 : Int32))), (0, .ref (x_ad G 1)), (1, .int p1), (2, .int p2), (3, .int p3), (4, .ref (x_ad G k4))]) hx hb d_B_writeRecordBlock_19 hl (by decide) rfl (fun ls hl => ?_)
  refine lv_aload_n hx hb d_B_writeRecordBlock_21 rfl (lv_at hl 2 rfl) ?_
  refine lv_iload_n hx hb d_B_writeRecordBlock_22 rfl (lv_at hl 5 rfl) ?_
  obtain ⟨r3, z3, hq4, hf⟩ := x_cl_some hf
  refine va_calli (va_runS (As := [.int p3]) (rest := [.ref (x_ad G 1)]) ⟨hx, hb, hml, hown, hts⟩ (c_B_kindOf l G p3 z1 r3 z3 hq4) (va_cwS 1 hts (x_gS t_527 t_206 t_3 t_207) rfl rfl rfl (by decide +kernel) ⟨Nat.le_of_ble_eq_true rfl, Nat.le_of_ble_eq_true rfl⟩) ⟨x_blind _ _ _, fun U hU hW => ⟨rfl, x_pw hP hD hK hG hS hz hU hW⟩⟩ rfl rfl hl.1 rfl (lv_room (Nat.le_of_ble_eq_true rfl)) d_B_writeRecordBlock_23 ⟨Nat.le_of_ble_eq_true rfl, Nat.le_of_ble_eq_true rfl⟩) hS (fun q _ h => h) (fun q h => h) (fun ra u t H locs ht hvm hw hB _ _ hS => ?_)
  obtain ⟨rfl, rfl⟩ := hw
  obtain ⟨hP, hD⟩ := x_back hB ht
  refine lv_iload_n hx hb d_B_writeRecordBlock_26 rfl (lv_at hl 4 rfl) ?_
  refine lv_iload_n hx hb d_B_writeRecordBlock_27 rfl (lv_at hl 5 rfl) ?_
  refine lv_iload hx hb d_B_writeRecordBlock_28 (lv_at hl 0 rfl) ?_
  obtain ⟨r5, z5, hq6, hf⟩ := x_cl_some hf
  refine va_callv (va_runV (As := [.int r3, .int p2, .int p3, .int (if (r1 - (p3 * (56 : Int32))) < (56 : Int32) then (r1 - (p3 * (56 : Int32))) else (56 : Int32))]) (rest := []) ⟨hx, hb, hml, hown, hts⟩ (c_B_beginImage l G r3 p2 p3 (if (r1 - (p3 * (56 : Int32))) < (56 : Int32) then (r1 - (p3 * (56 : Int32))) else (56 : Int32)) z3 r5 z5 hq6) (cwV 4 hts (x_gV t_528 t_530 sel_ContentLibrary_Blocks_beginImage t_3 t_531) rfl rfl rfl (by decide +kernel) ⟨Nat.le_of_ble_eq_true rfl, Nat.le_of_ble_eq_true rfl⟩) ⟨x_blind _ _ _, va_recv hK hP (ci := 1) (q0 := 1) rfl (x_lk_B G _), fun U hU hW => ⟨rfl, x_pw hP hD hK hG hS hz hU hW⟩⟩ rfl rfl hl.1 rfl (lv_room (Nat.le_of_ble_eq_true rfl)) d_B_writeRecordBlock_30 ⟨Nat.le_of_ble_eq_true rfl, Nat.le_of_ble_eq_true rfl⟩) hS (fun q _ h => h) (fun q h => h) (fun u t H locs ht hvm hw hB _ _ hS => ?_)
  obtain ⟨rfl, rfl⟩ := hw
  obtain ⟨hP, hD⟩ := x_back hB ht
  refine lv_aload hx hb d_B_writeRecordBlock_33 (lv_at hl 6 rfl) ?_
  refine va_get (D := x_D G) (ci := 2) (v := .ref (x_ad G (k4 + 1))) (C := "ContentLibrary$Picture") (T := x_TP) (N := 3) hx hb hts x_inP hown hK hP k4 (x_lk_P G _ hk4) rfl 1 (by decide) (hts _ t_70) (fun _ h9 => h9) rfl d_B_writeRecordBlock_35 ?_
  refine lv_iload hx hb d_B_writeRecordBlock_38 (lv_at hl 1 rfl) ?_
  refine lv_aload_n hx hb d_B_writeRecordBlock_40 rfl (lv_at hl 2 rfl) ?_
  refine va_get (D := x_D G) (ci := 1) (v := .ref (x_ad G 3)) (C := "ContentLibrary$Blocks") (T := x_TB) (N := 5) hx hb hts x_inB hown hK hP 1 (x_lk_B G _) rfl 4 (by decide) (hts _ t_46) (fun _ h9 => h9) rfl d_B_writeRecordBlock_41 ?_
  refine lv_bipush (v := (8 : Int32)) hx hb d_B_writeRecordBlock_44 (by decide) ?_
  refine lv_iload hx hb d_B_writeRecordBlock_46 (lv_at hl 0 rfl) ?_
  obtain ⟨hc1, hc2, hc3, hc4, hc5, hf⟩ := x_ckc_some hf
  refine va_copyi hx hb (hml.trans hl.1.symm) hown (hts _ t_212) (hts _ t_214) (hts _ t_213) (hts _ t_16) hK hP hD hS (k4 + 1) 3 0 0 (x_lk_A G _ (x_P_A hk4)) (x_lk_A G _ rfl) rfl rfl rfl hc1 hc2 hc3 hc4 hc5 (fun _ _ => rfl) (Nat.le_of_ble_eq_true rfl) (Nat.le_of_ble_eq_true rfl) d_B_writeRecordBlock_48 (fun H locs hP hD hS => ?_)
  rw [x_cp_A G _ _ _ _ _ (k2 := 3) rfl] at hP hD
  refine lv_aload_n hx hb d_B_writeRecordBlock_51 rfl (lv_at hl 2 rfl) ?_
  refine lv_iload_n hx hb d_B_writeRecordBlock_52 rfl (lv_at hl 3 rfl) ?_
  obtain ⟨r7, z7, hq8, hf⟩ := x_cl_some hf
  refine va_calli (va_runV (As := [.int p1]) (rest := []) ⟨hx, hb, hml, hown, hts⟩ (c_B_writeImage l G p1 (x_cpy z5 (k4 + 1) ((p3 * (56 : Int32))).toNatClampNeg 3 ((8 : Int32)).toNatClampNeg ((if (r1 - (p3 * (56 : Int32))) < (56 : Int32) then (r1 - (p3 * (56 : Int32))) else (56 : Int32))).toNatClampNeg) r7 z7 hq8) (cwV 1 hts (x_gV t_533 t_535 sel_ContentLibrary_Blocks_writeImage t_3 t_536) rfl rfl rfl (by decide +kernel) ⟨Nat.le_of_ble_eq_true rfl, Nat.le_of_ble_eq_true rfl⟩) ⟨x_blind _ _ _, va_recv hK hP (ci := 1) (q0 := 1) rfl (x_lk_B G _), fun U hU hW => ⟨rfl, x_pw hP hD hK hG hS hz hU hW⟩⟩ rfl rfl hl.1 rfl (lv_room (Nat.le_of_ble_eq_true rfl)) d_B_writeRecordBlock_53 ⟨Nat.le_of_ble_eq_true rfl, Nat.le_of_ble_eq_true rfl⟩) hS (fun q _ h => h) (fun q h => h) (fun ra u t H locs ht hvm hw hB _ _ hS => ?_)
  obtain ⟨rfl, rfl⟩ := hw
  obtain ⟨hP, hD⟩ := x_back hB ht
  obtain ⟨hbo, hf⟩ := x_ckb_some hf
  obtain ⟨rfl, rfl⟩ := x_ret hf
  exact W.zret (v := r7) hx hb hr (x_nb hbo) (fun t ht hW => ⟨⟨_, _, rfl, ⟨rfl, rfl⟩, x_pw hP hD hK hG hS hz ht hW⟩, hS.F ht⟩) hS.2.2 d_B_writeRecordBlock_56
abbrev rm_B_writeMark : Room := { frames := 3, cells := 0, slots := 0, locals := 69 }
set_option maxHeartbeats 4000000 in
set_option maxRecDepth 100000 in
theorem c_B_writeMark (l : Launch) (G : x_G) (p1 : Int32) (p2 : Int32) (p3 : Int32) (z0 : x_St) (r : Int32) (zo : x_St) (hf : f_B_writeMark (x_n G) p1 p2 p3 z0 = some (r, zo)) : Met l (⟨"ContentLibrary$Blocks", "writeMark", "(III)Z"⟩ : MethodName) (x_ws (⟨"ContentLibrary$Blocks", "writeMark", "(III)Z"⟩ : MethodName) prog_2_method_14_code 4 (some .boolean)) rm_B_writeMark (va_Pc [.ref (x_ad G 1), .int p1, .int p2, .int p3] (x_PW G z0)) (va_Qi (fun a u => r = a ∧ zo = u) (x_PW G) (x_A G)) 0 0 (x_A G) := by
  refine Met.ofW (cc := prog_2_method_14_code) (maxL := 4) (ret := (some .boolean)) (by decide) rfl ?_
  intro p e s m args below meth c s₁ B hml hv
  obtain ⟨rfl, hz, hP, hD, hK, hG⟩ := hv
  have C0 : x_Ctx G p s m _ meth c prog_2_method_14_code "ContentLibrary$Blocks" 4 (some .boolean) := ⟨B.exec, B.bytes, B.returns, hml, findClass_of_methodNamed B.named, fun w h => atoms_spec (ws := (x_ws (⟨"ContentLibrary$Blocks", "writeMark", "(III)Z"⟩ : MethodName) prog_2_method_14_code 4 (some .boolean))) B.pre w (List.mem_cons_of_mem _ h), B.notSynchronized, hz, hK, hG⟩
  obtain ⟨hx, hb, hr, hml, hown, hts, hlocks, hz, hK, hG⟩ := id C0
  have hS : va_S (x_A G) s.heap s.heap [] := va_S.rf
  have hl := lv_entry ([.ref (x_ad G 1), .int p1, .int p2, .int p3]) (n := 4) (Nat.le_of_ble_eq_true rfl)
  rw [lg_entry_eq]
  generalize (lg_sl ([.ref (x_ad G 1), .int p1, .int p2, .int p3]) ++ List.replicate (4 - (lg_sl ([.ref (x_ad G 1), .int p1, .int p2, .int p3])).length) Slot.unset).toArray = ls at hl ⊢
  have hl : lv_has ls 4 [(0, .ref (x_ad G 1)), (1, .int p1), (2, .int p2), (3, .int p3)] := hl
  rw [f_B_writeMark] at hf
  refine lv_aload_n hx hb d_B_writeMark_0 rfl (lv_at hl 0 rfl) ?_
  refine lv_iconst (v := (3 : Int32)) hx hb d_B_writeMark_1 (by decide) ?_
  refine lv_iload_n hx hb d_B_writeMark_2 rfl (lv_at hl 2 rfl) ?_
  refine lv_iconst (v := (0 : Int32)) hx hb d_B_writeMark_3 (by decide) ?_
  refine lv_iconst (v := (1 : Int32)) hx hb d_B_writeMark_4 (by decide) ?_
  obtain ⟨r1, z1, hq2, hf⟩ := x_cl_some hf
  refine va_callv (va_runV (As := [.int (3 : Int32), .int p2, .int (0 : Int32), .int (1 : Int32)]) (rest := []) ⟨hx, hb, hml, hown, hts⟩ (c_B_beginImage l G (3 : Int32) p2 (0 : Int32) (1 : Int32) z0 r1 z1 hq2) (cwV 4 hts (x_gV t_528 t_530 sel_ContentLibrary_Blocks_beginImage t_3 t_531) rfl rfl rfl (by decide +kernel) ⟨Nat.le_of_ble_eq_true rfl, Nat.le_of_ble_eq_true rfl⟩) ⟨x_blind _ _ _, va_recv hK hP (ci := 1) (q0 := 1) rfl (x_lk_B G _), fun U hU hW => ⟨rfl, x_pw hP hD hK hG hS hz hU hW⟩⟩ rfl rfl hl.1 rfl (lv_room (Nat.le_of_ble_eq_true rfl)) d_B_writeMark_5 ⟨Nat.le_of_ble_eq_true rfl, Nat.le_of_ble_eq_true rfl⟩) hS (fun q _ h => h) (fun q h => h) (fun u t H locs ht hvm hw hB _ _ hS => ?_)
  obtain ⟨rfl, rfl⟩ := hw
  obtain ⟨hP, hD⟩ := x_back hB ht
  refine lv_aload_n hx hb d_B_writeMark_8 rfl (lv_at hl 0 rfl) ?_
  refine va_get (D := x_D G) (ci := 1) (v := .ref (x_ad G 3)) (C := "ContentLibrary$Blocks") (T := x_TB) (N := 5) hx hb hts x_inB hown hK hP 1 (x_lk_B G _) rfl 4 (by decide) (hts _ t_46) (fun _ h9 => h9) rfl d_B_writeMark_9 ?_
  refine lv_bipush (v := (8 : Int32)) hx hb d_B_writeMark_12 (by decide) ?_
  refine lv_iload_n hx hb d_B_writeMark_14 rfl (lv_at hl 3 rfl) ?_
  obtain ⟨hin3, hf⟩ := x_ck_some hf
  refine va_iast hx hb hK hP hD hS 3 0 (x_lk_A G _ rfl) rfl hin3 d_B_writeMark_15 (fun H locs hP hD hS => ?_)
  rw [x_st_A G _ (k := 3) rfl] at hP hD
  refine lv_aload_n hx hb d_B_writeMark_16 rfl (lv_at hl 0 rfl) ?_
  refine lv_iload_n hx hb d_B_writeMark_17 rfl (lv_at hl 1 rfl) ?_
  obtain ⟨r4, z4, hq5, hf⟩ := x_cl_some hf
  refine va_calli (va_runV (As := [.int p1]) (rest := []) ⟨hx, hb, hml, hown, hts⟩ (c_B_writeImage l G p1 (x_put z1 3 ((8 : Int32)).toNatClampNeg p3) r4 z4 hq5) (cwV 1 hts (x_gV t_533 t_535 sel_ContentLibrary_Blocks_writeImage t_3 t_536) rfl rfl rfl (by decide +kernel) ⟨Nat.le_of_ble_eq_true rfl, Nat.le_of_ble_eq_true rfl⟩) ⟨x_blind _ _ _, va_recv hK hP (ci := 1) (q0 := 1) rfl (x_lk_B G _), fun U hU hW => ⟨rfl, x_pw hP hD hK hG hS hz hU hW⟩⟩ rfl rfl hl.1 rfl (lv_room (Nat.le_of_ble_eq_true rfl)) d_B_writeMark_18 ⟨Nat.le_of_ble_eq_true rfl, Nat.le_of_ble_eq_true rfl⟩) hS (fun q _ h => h) (fun q h => h) (fun ra u t H locs ht hvm hw hB _ _ hS => ?_)
  obtain ⟨rfl, rfl⟩ := hw
  obtain ⟨hP, hD⟩ := x_back hB ht
  obtain ⟨hbo, hf⟩ := x_ckb_some hf
  obtain ⟨rfl, rfl⟩ := x_ret hf
  exact W.zret (v := r4) hx hb hr (x_nb hbo) (fun t ht hW => ⟨⟨_, _, rfl, ⟨rfl, rfl⟩, x_pw hP hD hK hG hS hz ht hW⟩, hS.F ht⟩) hS.2.2 d_B_writeMark_21
abbrev rm_B_wipe : Room := { frames := 1, cells := 0, slots := 0, locals := 23 }
set_option maxHeartbeats 4000000 in
set_option maxRecDepth 100000 in
theorem w_B_wipe_39 (l : Launch) (G : x_G) {p : Program} {e : Env} {s : State} {m : MethodId} {args : Array Value} {below : List Frame} {meth : Method} {c : Code} (C0 : x_Ctx G p s m args meth c prog_2_method_17_code "ContentLibrary$Blocks" 4 (some .boolean)) (r : Int32) (zo : x_St) : ∀ (a2 : Int32) (z0 : x_St), f_B_wipe_39 (x_n G) a2 z0 = some (r, zo) → ∀ (H : Heap) (locs : List Loc) (ls : Array Slot), va_P (x_D G) vwCl (x_Wd G z0) H → va_D (x_A G) (x_Wd G z0) → va_S (x_A G) s.heap H locs → lv_has ls 4 [(2, .int a2)] → W p l e rm_B_wipe s m args below meth c H locs 0 0 (MQ below (va_Qi (fun a u => r = a ∧ zo = u) (x_PW G) (x_A G)) args s 0 0 (x_A G)) (F0 m 39 ls []) := by
  obtain ⟨hx, hb, hr, hml, hown, hts, hlocks, hz, hK, hG⟩ := id C0
  intro a2 z0 hf H locs ls hP hD hS hl
  rw [f_B_wipe_39] at hf
  refine lv_iload_n hx hb d_B_wipe_39 rfl (lv_at hl 0 rfl) ?_
  obtain ⟨hbo, hf⟩ := x_ckb_some hf
  obtain ⟨rfl, rfl⟩ := x_ret hf
  exact W.zret (v := a2) hx hb hr (x_nb hbo) (fun t ht hW => ⟨⟨_, _, rfl, ⟨rfl, rfl⟩, x_pw hP hD hK hG hS hz ht hW⟩, hS.F ht⟩) hS.2.2 d_B_wipe_40
set_option maxHeartbeats 4000000 in
set_option maxRecDepth 100000 in
theorem w_B_wipe_10 (l : Launch) (G : x_G) {p : Program} {e : Env} {s : State} {m : MethodId} {args : Array Value} {below : List Frame} {meth : Method} {c : Code} (C0 : x_Ctx G p s m args meth c prog_2_method_17_code "ContentLibrary$Blocks" 4 (some .boolean)) (r : Int32) (zo : x_St) : ∀ (fu : Nat), ∀ (a1 : Int32) (a2 : Int32) (a3 : Int32) (z0 : x_St), f_B_wipe_10 (x_n G) fu a1 a2 a3 z0 = some (r, zo) → ∀ (H : Heap) (locs : List Loc) (ls : Array Slot), va_P (x_D G) vwCl (x_Wd G z0) H → va_D (x_A G) (x_Wd G z0) → va_S (x_A G) s.heap H locs → lv_has ls 4 [(0, .ref (x_ad G 1)), (1, .int a1), (2, .int a2), (3, .int a3)] → W p l e rm_B_wipe s m args below meth c H locs 0 0 (MQ below (va_Qi (fun a u => r = a ∧ zo = u) (x_PW G) (x_A G)) args s 0 0 (x_A G)) (F0 m 10 ls []) := by
  obtain ⟨hx, hb, hr, hml, hown, hts, hlocks, hz, hK, hG⟩ := id C0
  intro fu
  induction fu with
  | zero =>
    intro a1 a2 a3 z0 hf
    rw [f_B_wipe_10] at hf
    cases hf
  | succ fu ih =>
    intro a1 a2 a3 z0 hf H locs ls hP hD hS hl
    rw [f_B_wipe_10] at hf
    refine lv_iload_n hx hb d_B_wipe_10 rfl (lv_at hl 3 rfl) ?_
    refine lv_bipush (v := (64 : Int32)) hx hb d_B_wipe_11 (by decide) ?_
    refine lv_icmp_ge (tgt := 39) hx hb d_B_wipe_13 (by decide) (fun hc1 => ?_) (fun hc1 => ?_)
    · have hf := x_br_t hf hc1
      exact w_B_wipe_39 l G C0 r zo a2 z0 hf _ _ _ hP hD hS (lv_sub hl [2] rfl)
    · have hf := x_br_f hf hc1
      refine lv_iload_n hx hb d_B_wipe_16 rfl (lv_at hl 2 rfl) ?_
      refine lv_if_eq (tgt := 39) hx hb d_B_wipe_17 (by decide) (fun hc2 => ?_) (fun hc2 => ?_)
      · have hf := x_br_t hf hc2
        exact w_B_wipe_39 l G C0 r zo a2 z0 hf _ _ _ hP hD hS (lv_sub hl [2] rfl)
      · have hf := x_br_f hf hc2
        refine lv_iload_n hx hb d_B_wipe_20 rfl (lv_at hl 3 rfl) ?_
        refine lv_iconst (v := (4 : Int32)) hx hb d_B_wipe_21 (by decide) ?_
        refine lv_icmp_eq (tgt := 33) hx hb d_B_wipe_22 (by decide) (fun hc3 => ?_) (fun hc3 => ?_)
        · have hf := x_br_t hf hc3
          refine lv_iinc (v := (a3 + (1 : Int32))) (lv' := [(3, .int (a3 + (1 : Int32))), (0, .ref (x_ad G 1)), (1, .int a1), (2, .int a2)]) hx hb d_B_wipe_33 hl (k := 3) rfl rfl (by decide) rfl (fun ls hl => ?_)
          refine lv_goto (tgt := 10) hx hb d_B_wipe_36 (by decide) ?_
          exact ih a1 a2 (a3 + (1 : Int32)) z0 hf _ _ _ hP hD hS (lv_sub hl [1, 2, 3, 0] rfl)
        · have hf := x_br_f hf hc3
          refine lv_aload_n hx hb d_B_wipe_25 rfl (lv_at hl 0 rfl) ?_
          refine lv_iload_n hx hb d_B_wipe_26 rfl (lv_at hl 1 rfl) ?_
          refine lv_iload_n hx hb d_B_wipe_27 rfl (lv_at hl 3 rfl) ?_
          refine lv_iconst (v := (0 : Int32)) hx hb d_B_wipe_28 (by decide) ?_
          obtain ⟨r4, z4, hq5, hf⟩ := x_cl_some hf
          refine va_calli (va_runV (As := [.int a1, .int a3, .int (0 : Int32)]) (rest := []) ⟨hx, hb, hml, hown, hts⟩ (c_B_put l G a1 a3 (0 : Int32) z0 r4 z4 hq5) (cwV 3 hts (x_gV t_517 t_519 sel_ContentLibrary_Blocks_put t_3 t_520) rfl rfl rfl (by decide +kernel) ⟨Nat.le_of_ble_eq_true rfl, Nat.le_of_ble_eq_true rfl⟩) ⟨x_blind _ _ _, va_recv hK hP (ci := 1) (q0 := 1) rfl (x_lk_B G _), fun U hU hW => ⟨rfl, x_pw hP hD hK hG hS hz hU hW⟩⟩ rfl rfl hl.1 rfl (lv_room (Nat.le_of_ble_eq_true rfl)) d_B_wipe_29 ⟨Nat.le_of_ble_eq_true rfl, Nat.le_of_ble_eq_true rfl⟩) hS (fun q _ h => h) (fun q h => h) (fun ra u t H locs ht hvm hw hB _ _ hS => ?_)
          obtain ⟨rfl, rfl⟩ := hw
          obtain ⟨hP, hD⟩ := x_back hB ht
          refine lv_istore_n (lv' := [(2, .int r4), (0, .ref (x_ad G 1)), (1, .int a1), (3, .int a3)]) hx hb d_B_wipe_32 rfl hl (by decide) rfl (fun ls hl => ?_)
          refine lv_iinc (v := (a3 + (1 : Int32))) (lv' := [(3, .int (a3 + (1 : Int32))), (2, .int r4), (0, .ref (x_ad G 1)), (1, .int a1)]) hx hb d_B_wipe_33 hl (k := 3) rfl rfl (by decide) rfl (fun ls hl => ?_)
          refine lv_goto (tgt := 10) hx hb d_B_wipe_36 (by decide) ?_
          exact ih a1 r4 (a3 + (1 : Int32)) z4 hf _ _ _ hP hD hS (lv_sub hl [2, 3, 1, 0] rfl)
set_option maxHeartbeats 4000000 in
set_option maxRecDepth 100000 in
theorem c_B_wipe (l : Launch) (G : x_G) (p1 : Int32) (z0 : x_St) (r : Int32) (zo : x_St) (hf : f_B_wipe (x_n G) p1 z0 = some (r, zo)) : Met l (⟨"ContentLibrary$Blocks", "wipe", "(I)Z"⟩ : MethodName) (x_ws (⟨"ContentLibrary$Blocks", "wipe", "(I)Z"⟩ : MethodName) prog_2_method_17_code 4 (some .boolean)) rm_B_wipe (va_Pc [.ref (x_ad G 1), .int p1] (x_PW G z0)) (va_Qi (fun a u => r = a ∧ zo = u) (x_PW G) (x_A G)) 0 0 (x_A G) := by
  refine Met.ofW (cc := prog_2_method_17_code) (maxL := 4) (ret := (some .boolean)) (by decide) rfl ?_
  intro p e s m args below meth c s₁ B hml hv
  obtain ⟨rfl, hz, hP, hD, hK, hG⟩ := hv
  have C0 : x_Ctx G p s m _ meth c prog_2_method_17_code "ContentLibrary$Blocks" 4 (some .boolean) := ⟨B.exec, B.bytes, B.returns, hml, findClass_of_methodNamed B.named, fun w h => atoms_spec (ws := (x_ws (⟨"ContentLibrary$Blocks", "wipe", "(I)Z"⟩ : MethodName) prog_2_method_17_code 4 (some .boolean))) B.pre w (List.mem_cons_of_mem _ h), B.notSynchronized, hz, hK, hG⟩
  obtain ⟨hx, hb, hr, hml, hown, hts, hlocks, hz, hK, hG⟩ := id C0
  have hS : va_S (x_A G) s.heap s.heap [] := va_S.rf
  have hl := lv_entry ([.ref (x_ad G 1), .int p1]) (n := 4) (Nat.le_of_ble_eq_true rfl)
  rw [lg_entry_eq]
  generalize (lg_sl ([.ref (x_ad G 1), .int p1]) ++ List.replicate (4 - (lg_sl ([.ref (x_ad G 1), .int p1])).length) Slot.unset).toArray = ls at hl ⊢
  have hl : lv_has ls 4 [(0, .ref (x_ad G 1)), (1, .int p1)] := hl
  rw [f_B_wipe] at hf
  refine lv_aload_n hx hb d_B_wipe_0 rfl (lv_at hl 0 rfl) ?_
  refine lv_iload_n hx hb d_B_wipe_1 rfl (lv_at hl 1 rfl) ?_
  refine lv_iconst (v := (4 : Int32)) hx hb d_B_wipe_2 (by decide) ?_
  refine lv_iconst (v := (0 : Int32)) hx hb d_B_wipe_3 (by decide) ?_
  obtain ⟨r6, z6, hq7, hf⟩ := x_cl_some hf
  refine va_calli (va_runV (As := [.int p1, .int (4 : Int32), .int (0 : Int32)]) (rest := []) ⟨hx, hb, hml, hown, hts⟩ (c_B_put l G p1 (4 : Int32) (0 : Int32) z0 r6 z6 hq7) (cwV 3 hts (x_gV t_517 t_519 sel_ContentLibrary_Blocks_put t_3 t_520) rfl rfl rfl (by decide +kernel) ⟨Nat.le_of_ble_eq_true rfl, Nat.le_of_ble_eq_true rfl⟩) ⟨x_blind _ _ _, va_recv hK hP (ci := 1) (q0 := 1) rfl (x_lk_B G _), fun U hU hW => ⟨rfl, x_pw hP hD hK hG hS hz hU hW⟩⟩ rfl rfl hl.1 rfl (lv_room (Nat.le_of_ble_eq_true rfl)) d_B_wipe_4 ⟨Nat.le_of_ble_eq_true rfl, Nat.le_of_ble_eq_true rfl⟩) hS (fun q _ h => h) (fun q h => h) (fun ra u t H locs ht hvm hw hB _ _ hS => ?_)
  obtain ⟨rfl, rfl⟩ := hw
  obtain ⟨hP, hD⟩ := x_back hB ht
  refine lv_istore_n (lv' := [(2, .int r6), (0, .ref (x_ad G 1)), (1, .int p1)]) hx hb d_B_wipe_7 rfl hl (by decide) rfl (fun ls hl => ?_)
  refine lv_iconst (v := (0 : Int32)) hx hb d_B_wipe_8 (by decide) ?_
  refine lv_istore_n (lv' := [(3, .int (0 : Int32)), (2, .int r6), (0, .ref (x_ad G 1)), (1, .int p1)]) hx hb d_B_wipe_9 rfl hl (by decide) rfl (fun ls hl => ?_)
  exact w_B_wipe_10 l G C0 r zo x_FU p1 r6 (0 : Int32) z6 hf _ _ _ hP hD hS (lv_sub hl [2, 3, 1, 0] rfl)
end
section
theorem t_1 : Cond.initialized "ContentLibrary" ∈ x_big := x_bt 1 (by decide +kernel) (by decide +kernel)
theorem t_5 : Cond.initialized "ContentLibrary$Kept" ∈ x_big := x_bt 5 (by decide +kernel) (by decide +kernel)
theorem t_40 : Cond.fieldLink "ContentLibrary" 233 "ContentLibrary$Blocks" "count" "I" ∈ x_big := x_bt 40 (by decide +kernel) (by decide +kernel)
theorem t_67 : Cond.fieldLink "ContentLibrary" 80 "ContentLibrary$Picture" "there" "Z" ∈ x_big := x_bt 67 (by decide +kernel) (by decide +kernel)
theorem t_90 : Cond.fieldLink "ContentLibrary" 178 "ContentLibrary$Kept" "there" "Z" ∈ x_big := x_bt 90 (by decide +kernel) (by decide +kernel)
theorem t_92 : Cond.fieldLink "ContentLibrary" 157 "ContentLibrary$Kept" "picture" "LContentLibrary$Picture;" ∈ x_big := x_bt 92 (by decide +kernel) (by decide +kernel)
theorem t_93 : Cond.fieldLink "ContentLibrary$Kept" 22 "ContentLibrary$Kept" "digest" "[I" ∈ x_big := x_bt 93 (by decide +kernel) (by decide +kernel)
theorem t_96 : Cond.fieldLink "ContentLibrary" 153 "ContentLibrary$Kept" "print" "J" ∈ x_big := x_bt 96 (by decide +kernel) (by decide +kernel)
theorem t_98 : Cond.fieldLink "ContentLibrary" 195 "ContentLibrary$Kept" "recordBlocks" "I" ∈ x_big := x_bt 98 (by decide +kernel) (by decide +kernel)
theorem t_100 : Cond.fieldLink "ContentLibrary" 192 "ContentLibrary$Kept" "places" "[I" ∈ x_big := x_bt 100 (by decide +kernel) (by decide +kernel)
theorem t_130 : Cond.fieldLink "ContentLibrary" 23 "ContentLibrary" "blocks" "LContentLibrary$Blocks;" ∈ x_big := x_bt 130 (by decide +kernel) (by decide +kernel)
theorem t_131 : Cond.fieldLink "ContentLibrary" 27 "ContentLibrary" "used" "[Z" ∈ x_big := x_bt 131 (by decide +kernel) (by decide +kernel)
theorem t_132 : Cond.fieldLink "ContentLibrary" 33 "ContentLibrary" "made" "[LContentLibrary$Picture;" ∈ x_big := x_bt 132 (by decide +kernel) (by decide +kernel)
theorem t_133 : Cond.fieldLink "ContentLibrary" 40 "ContentLibrary" "kept" "[LContentLibrary$Kept;" ∈ x_big := x_bt 133 (by decide +kernel) (by decide +kernel)
theorem t_136 : Cond.fieldLink "ContentLibrary" 56 "ContentLibrary" "foundNumbers" "[I" ∈ x_big := x_bt 136 (by decide +kernel) (by decide +kernel)
theorem t_137 : Cond.fieldLink "ContentLibrary" 59 "ContentLibrary" "foundBits" "[I" ∈ x_big := x_bt 137 (by decide +kernel) (by decide +kernel)
theorem t_138 : Cond.fieldLink "ContentLibrary" 62 "ContentLibrary" "foundCount" "I" ∈ x_big := x_bt 138 (by decide +kernel) (by decide +kernel)
theorem t_162 : Cond.methodLink "ContentLibrary" 216 (⟨"ContentLibrary", "forget", "()V"⟩ : MethodName) ∈ x_big := x_bt 162 (by decide +kernel) (by decide +kernel)
theorem t_164 : Cond.instanceMethod (⟨"ContentLibrary", "forget", "()V"⟩ : MethodName) ∈ x_big := x_bt 164 (by decide +kernel) (by decide +kernel)
theorem t_165 : Cond.code (⟨"ContentLibrary", "forget", "()V"⟩ : MethodName) prog_1_method_34_code 2 none ∈ x_big := x_bt 165 (by decide +kernel) (by decide +kernel)
theorem t_277 : Cond.methodLink "ContentLibrary" 268 (⟨"ContentLibrary$Kept", "hasDigest", "([I)Z"⟩ : MethodName) ∈ x_big := x_bt 277 (by decide +kernel) (by decide +kernel)
theorem t_278 : Cond.instanceMethod (⟨"ContentLibrary$Kept", "hasDigest", "([I)Z"⟩ : MethodName) ∈ x_big := x_bt 278 (by decide +kernel) (by decide +kernel)
theorem t_279 : Cond.selects "ContentLibrary$Kept" (⟨"ContentLibrary$Kept", "hasDigest", "([I)Z"⟩ : MethodName) (⟨"ContentLibrary$Kept", "hasDigest", "([I)Z"⟩ : MethodName) ∈ x_big := x_bt 279 (by decide +kernel) (by decide +kernel)
theorem t_280 : Cond.code (⟨"ContentLibrary$Kept", "hasDigest", "([I)Z"⟩ : MethodName) prog_4_method_2_code 3 (some .boolean) ∈ x_big := x_bt 280 (by decide +kernel) (by decide +kernel)
theorem t_285 : Cond.methodLink "ContentLibrary" 174 (⟨"ContentLibrary$Picture", "printBits", "()J"⟩ : MethodName) ∈ x_big := x_bt 285 (by decide +kernel) (by decide +kernel)
theorem t_286 : Cond.instanceMethod (⟨"ContentLibrary$Picture", "printBits", "()J"⟩ : MethodName) ∈ x_big := x_bt 286 (by decide +kernel) (by decide +kernel)
theorem t_287 : Cond.selects "ContentLibrary$Picture" (⟨"ContentLibrary$Picture", "printBits", "()J"⟩ : MethodName) (⟨"ContentLibrary$Picture", "printBits", "()J"⟩ : MethodName) ∈ x_big := x_bt 287 (by decide +kernel) (by decide +kernel)
theorem t_288 : Cond.code (⟨"ContentLibrary$Picture", "printBits", "()J"⟩ : MethodName) prog_5_method_14_code 7 (some .long) ∈ x_big := x_bt 288 (by decide +kernel) (by decide +kernel)
theorem t_293 : Cond.methodLink "ContentLibrary" 200 (⟨"ContentLibrary", "setUsed", "(LContentLibrary$Kept;Z)V"⟩ : MethodName) ∈ x_big := x_bt 293 (by decide +kernel) (by decide +kernel)
theorem t_295 : Cond.instanceMethod (⟨"ContentLibrary", "setUsed", "(LContentLibrary$Kept;Z)V"⟩ : MethodName) ∈ x_big := x_bt 295 (by decide +kernel) (by decide +kernel)
theorem t_296 : Cond.code (⟨"ContentLibrary", "setUsed", "(LContentLibrary$Kept;Z)V"⟩ : MethodName) prog_1_method_28_code 4 none ∈ x_big := x_bt 296 (by decide +kernel) (by decide +kernel)
theorem sel_ContentLibrary_forget : Cond.selects "ContentLibrary" (⟨"ContentLibrary", "forget", "()V"⟩ : MethodName) (⟨"ContentLibrary", "forget", "()V"⟩ : MethodName) ∈ x_big := x_bs 0 (by decide +kernel) (by decide +kernel)
theorem sel_ContentLibrary_setUsed : Cond.selects "ContentLibrary" (⟨"ContentLibrary", "setUsed", "(LContentLibrary$Kept;Z)V"⟩ : MethodName) (⟨"ContentLibrary", "setUsed", "(LContentLibrary$Kept;Z)V"⟩ : MethodName) ∈ x_big := x_bs 10 (by decide +kernel) (by decide +kernel)
theorem d_X_forget_0 : decode prog_1_method_34_code 0 = .ok (.iconst 0, 1) := by decide +kernel
theorem d_X_forget_1 : decode prog_1_method_34_code 1 = .ok (.istore_n 1, 1) := by decide +kernel
theorem d_X_forget_2 : decode prog_1_method_34_code 2 = .ok (.iload_n 1, 1) := by decide +kernel
theorem d_X_forget_3 : decode prog_1_method_34_code 3 = .ok (.bipush 8, 2) := by decide +kernel
theorem d_X_forget_5 : decode prog_1_method_34_code 5 = .ok (.if_icmp .ge 19, 3) := by decide +kernel
theorem d_X_forget_8 : decode prog_1_method_34_code 8 = .ok (.aload_n 0, 1) := by decide +kernel
theorem d_X_forget_9 : decode prog_1_method_34_code 9 = .ok (.getfield 33, 3) := by decide +kernel
theorem d_X_forget_12 : decode prog_1_method_34_code 12 = .ok (.iload_n 1, 1) := by decide +kernel
theorem d_X_forget_13 : decode prog_1_method_34_code 13 = .ok (.aaload, 1) := by decide +kernel
theorem d_X_forget_14 : decode prog_1_method_34_code 14 = .ok (.iconst 0, 1) := by decide +kernel
theorem d_X_forget_15 : decode prog_1_method_34_code 15 = .ok (.putfield 80, 3) := by decide +kernel
theorem d_X_forget_18 : decode prog_1_method_34_code 18 = .ok (.iinc 1 1, 3) := by decide +kernel
theorem d_X_forget_21 : decode prog_1_method_34_code 21 = .ok (.goto (-19), 3) := by decide +kernel
theorem d_X_forget_24 : decode prog_1_method_34_code 24 = .ok (.iconst 0, 1) := by decide +kernel
theorem d_X_forget_25 : decode prog_1_method_34_code 25 = .ok (.istore_n 1, 1) := by decide +kernel
theorem d_X_forget_26 : decode prog_1_method_34_code 26 = .ok (.iload_n 1, 1) := by decide +kernel
theorem d_X_forget_27 : decode prog_1_method_34_code 27 = .ok (.bipush 16, 2) := by decide +kernel
theorem d_X_forget_29 : decode prog_1_method_34_code 29 = .ok (.if_icmp .ge 19, 3) := by decide +kernel
theorem d_X_forget_32 : decode prog_1_method_34_code 32 = .ok (.aload_n 0, 1) := by decide +kernel
theorem d_X_forget_33 : decode prog_1_method_34_code 33 = .ok (.getfield 40, 3) := by decide +kernel
theorem d_X_forget_36 : decode prog_1_method_34_code 36 = .ok (.iload_n 1, 1) := by decide +kernel
theorem d_X_forget_37 : decode prog_1_method_34_code 37 = .ok (.aaload, 1) := by decide +kernel
theorem d_X_forget_38 : decode prog_1_method_34_code 38 = .ok (.iconst 0, 1) := by decide +kernel
theorem d_X_forget_39 : decode prog_1_method_34_code 39 = .ok (.putfield 178, 3) := by decide +kernel
theorem d_X_forget_42 : decode prog_1_method_34_code 42 = .ok (.iinc 1 1, 3) := by decide +kernel
theorem d_X_forget_45 : decode prog_1_method_34_code 45 = .ok (.goto (-19), 3) := by decide +kernel
theorem d_X_forget_48 : decode prog_1_method_34_code 48 = .ok (.iconst 0, 1) := by decide +kernel
theorem d_X_forget_49 : decode prog_1_method_34_code 49 = .ok (.istore_n 1, 1) := by decide +kernel
theorem d_X_forget_50 : decode prog_1_method_34_code 50 = .ok (.iload_n 1, 1) := by decide +kernel
theorem d_X_forget_51 : decode prog_1_method_34_code 51 = .ok (.aload_n 0, 1) := by decide +kernel
theorem d_X_forget_52 : decode prog_1_method_34_code 52 = .ok (.getfield 23, 3) := by decide +kernel
theorem d_X_forget_55 : decode prog_1_method_34_code 55 = .ok (.getfield 233, 3) := by decide +kernel
theorem d_X_forget_58 : decode prog_1_method_34_code 58 = .ok (.if_icmp .ge 16, 3) := by decide +kernel
theorem d_X_forget_61 : decode prog_1_method_34_code 61 = .ok (.aload_n 0, 1) := by decide +kernel
theorem d_X_forget_62 : decode prog_1_method_34_code 62 = .ok (.getfield 27, 3) := by decide +kernel
theorem d_X_forget_65 : decode prog_1_method_34_code 65 = .ok (.iload_n 1, 1) := by decide +kernel
theorem d_X_forget_66 : decode prog_1_method_34_code 66 = .ok (.iconst 0, 1) := by decide +kernel
theorem d_X_forget_67 : decode prog_1_method_34_code 67 = .ok (.bastore, 1) := by decide +kernel
theorem d_X_forget_68 : decode prog_1_method_34_code 68 = .ok (.iinc 1 1, 3) := by decide +kernel
theorem d_X_forget_71 : decode prog_1_method_34_code 71 = .ok (.goto (-21), 3) := by decide +kernel
theorem d_X_forget_74 : decode prog_1_method_34_code 74 = .ok (.aload_n 0, 1) := by decide +kernel
theorem d_X_forget_75 : decode prog_1_method_34_code 75 = .ok (.iconst 0, 1) := by decide +kernel
theorem d_X_forget_76 : decode prog_1_method_34_code 76 = .ok (.putfield 62, 3) := by decide +kernel
theorem d_X_forget_79 : decode prog_1_method_34_code 79 = .ok (.return_, 1) := by decide +kernel
theorem d_K_hasDigest_0 : decode prog_4_method_2_code 0 = .ok (.iconst 0, 1) := by decide +kernel
theorem d_K_hasDigest_1 : decode prog_4_method_2_code 1 = .ok (.istore_n 2, 1) := by decide +kernel
theorem d_K_hasDigest_2 : decode prog_4_method_2_code 2 = .ok (.iload_n 2, 1) := by decide +kernel
theorem d_K_hasDigest_3 : decode prog_4_method_2_code 3 = .ok (.bipush 8, 2) := by decide +kernel
theorem d_K_hasDigest_5 : decode prog_4_method_2_code 5 = .ok (.if_icmp .ge 23, 3) := by decide +kernel
theorem d_K_hasDigest_8 : decode prog_4_method_2_code 8 = .ok (.aload_n 0, 1) := by decide +kernel
theorem d_K_hasDigest_9 : decode prog_4_method_2_code 9 = .ok (.getfield 22, 3) := by decide +kernel
theorem d_K_hasDigest_12 : decode prog_4_method_2_code 12 = .ok (.iload_n 2, 1) := by decide +kernel
theorem d_K_hasDigest_13 : decode prog_4_method_2_code 13 = .ok (.iaload, 1) := by decide +kernel
theorem d_K_hasDigest_14 : decode prog_4_method_2_code 14 = .ok (.aload_n 1, 1) := by decide +kernel
theorem d_K_hasDigest_15 : decode prog_4_method_2_code 15 = .ok (.iload_n 2, 1) := by decide +kernel
theorem d_K_hasDigest_16 : decode prog_4_method_2_code 16 = .ok (.iaload, 1) := by decide +kernel
theorem d_K_hasDigest_17 : decode prog_4_method_2_code 17 = .ok (.if_icmp .eq 5, 3) := by decide +kernel
theorem d_K_hasDigest_20 : decode prog_4_method_2_code 20 = .ok (.iconst 0, 1) := by decide +kernel
theorem d_K_hasDigest_21 : decode prog_4_method_2_code 21 = .ok (.ireturn, 1) := by decide +kernel
theorem d_K_hasDigest_22 : decode prog_4_method_2_code 22 = .ok (.iinc 2 1, 3) := by decide +kernel
theorem d_K_hasDigest_25 : decode prog_4_method_2_code 25 = .ok (.goto (-23), 3) := by decide +kernel
theorem d_K_hasDigest_28 : decode prog_4_method_2_code 28 = .ok (.iconst 1, 1) := by decide +kernel
theorem d_K_hasDigest_29 : decode prog_4_method_2_code 29 = .ok (.ireturn, 1) := by decide +kernel
theorem d_X_numberWith_0 : decode prog_1_method_23_code 0 = .ok (.iconst 0, 1) := by decide +kernel
theorem d_X_numberWith_1 : decode prog_1_method_23_code 1 = .ok (.istore_n 3, 1) := by decide +kernel
theorem d_X_numberWith_2 : decode prog_1_method_23_code 2 = .ok (.iload_n 3, 1) := by decide +kernel
theorem d_X_numberWith_3 : decode prog_1_method_23_code 3 = .ok (.iload_n 2, 1) := by decide +kernel
theorem d_X_numberWith_4 : decode prog_1_method_23_code 4 = .ok (.if_icmp .ge 36, 3) := by decide +kernel
theorem d_X_numberWith_7 : decode prog_1_method_23_code 7 = .ok (.aload_n 0, 1) := by decide +kernel
theorem d_X_numberWith_8 : decode prog_1_method_23_code 8 = .ok (.getfield 40, 3) := by decide +kernel
theorem d_X_numberWith_11 : decode prog_1_method_23_code 11 = .ok (.iload_n 3, 1) := by decide +kernel
theorem d_X_numberWith_12 : decode prog_1_method_23_code 12 = .ok (.aaload, 1) := by decide +kernel
theorem d_X_numberWith_13 : decode prog_1_method_23_code 13 = .ok (.getfield 178, 3) := by decide +kernel
theorem d_X_numberWith_16 : decode prog_1_method_23_code 16 = .ok (.ifCond .eq 18, 3) := by decide +kernel
theorem d_X_numberWith_19 : decode prog_1_method_23_code 19 = .ok (.aload_n 0, 1) := by decide +kernel
theorem d_X_numberWith_20 : decode prog_1_method_23_code 20 = .ok (.getfield 40, 3) := by decide +kernel
theorem d_X_numberWith_23 : decode prog_1_method_23_code 23 = .ok (.iload_n 3, 1) := by decide +kernel
theorem d_X_numberWith_24 : decode prog_1_method_23_code 24 = .ok (.aaload, 1) := by decide +kernel
theorem d_X_numberWith_25 : decode prog_1_method_23_code 25 = .ok (.aload_n 1, 1) := by decide +kernel
theorem d_X_numberWith_26 : decode prog_1_method_23_code 26 = .ok (.invokevirtual 268, 3) := by decide +kernel
theorem d_X_numberWith_29 : decode prog_1_method_23_code 29 = .ok (.ifCond .eq 5, 3) := by decide +kernel
theorem d_X_numberWith_32 : decode prog_1_method_23_code 32 = .ok (.iload_n 3, 1) := by decide +kernel
theorem d_X_numberWith_33 : decode prog_1_method_23_code 33 = .ok (.ireturn, 1) := by decide +kernel
theorem d_X_numberWith_34 : decode prog_1_method_23_code 34 = .ok (.iinc 3 1, 3) := by decide +kernel
theorem d_X_numberWith_37 : decode prog_1_method_23_code 37 = .ok (.goto (-35), 3) := by decide +kernel
theorem d_X_numberWith_40 : decode prog_1_method_23_code 40 = .ok (.iconst (-1), 1) := by decide +kernel
theorem d_X_numberWith_41 : decode prog_1_method_23_code 41 = .ok (.ireturn, 1) := by decide +kernel
theorem d_X_setUsed_0 : decode prog_1_method_28_code 0 = .ok (.iconst 0, 1) := by decide +kernel
theorem d_X_setUsed_1 : decode prog_1_method_28_code 1 = .ok (.istore_n 3, 1) := by decide +kernel
theorem d_X_setUsed_2 : decode prog_1_method_28_code 2 = .ok (.iload_n 3, 1) := by decide +kernel
theorem d_X_setUsed_3 : decode prog_1_method_28_code 3 = .ok (.aload_n 1, 1) := by decide +kernel
theorem d_X_setUsed_4 : decode prog_1_method_28_code 4 = .ok (.getfield 195, 3) := by decide +kernel
theorem d_X_setUsed_7 : decode prog_1_method_28_code 7 = .ok (.if_icmp .gt 21, 3) := by decide +kernel
theorem d_X_setUsed_10 : decode prog_1_method_28_code 10 = .ok (.aload_n 0, 1) := by decide +kernel
theorem d_X_setUsed_11 : decode prog_1_method_28_code 11 = .ok (.getfield 27, 3) := by decide +kernel
theorem d_X_setUsed_14 : decode prog_1_method_28_code 14 = .ok (.aload_n 1, 1) := by decide +kernel
theorem d_X_setUsed_15 : decode prog_1_method_28_code 15 = .ok (.getfield 192, 3) := by decide +kernel
theorem d_X_setUsed_18 : decode prog_1_method_28_code 18 = .ok (.iload_n 3, 1) := by decide +kernel
theorem d_X_setUsed_19 : decode prog_1_method_28_code 19 = .ok (.iaload, 1) := by decide +kernel
theorem d_X_setUsed_20 : decode prog_1_method_28_code 20 = .ok (.iload_n 2, 1) := by decide +kernel
theorem d_X_setUsed_21 : decode prog_1_method_28_code 21 = .ok (.bastore, 1) := by decide +kernel
theorem d_X_setUsed_22 : decode prog_1_method_28_code 22 = .ok (.iinc 3 1, 3) := by decide +kernel
theorem d_X_setUsed_25 : decode prog_1_method_28_code 25 = .ok (.goto (-23), 3) := by decide +kernel
theorem d_X_setUsed_28 : decode prog_1_method_28_code 28 = .ok (.return_, 1) := by decide +kernel
theorem d_X_admit_0 : decode prog_1_method_27_code 0 = .ok (.aload_n 1, 1) := by decide +kernel
theorem d_X_admit_1 : decode prog_1_method_27_code 1 = .ok (.iconst 1, 1) := by decide +kernel
theorem d_X_admit_2 : decode prog_1_method_27_code 2 = .ok (.putfield 178, 3) := by decide +kernel
theorem d_X_admit_5 : decode prog_1_method_27_code 5 = .ok (.aload_n 1, 1) := by decide +kernel
theorem d_X_admit_6 : decode prog_1_method_27_code 6 = .ok (.aload_n 1, 1) := by decide +kernel
theorem d_X_admit_7 : decode prog_1_method_27_code 7 = .ok (.getfield 157, 3) := by decide +kernel
theorem d_X_admit_10 : decode prog_1_method_27_code 10 = .ok (.invokevirtual 174, 3) := by decide +kernel
theorem d_X_admit_13 : decode prog_1_method_27_code 13 = .ok (.putfield 153, 3) := by decide +kernel
theorem d_X_admit_16 : decode prog_1_method_27_code 16 = .ok (.aload_n 1, 1) := by decide +kernel
theorem d_X_admit_17 : decode prog_1_method_27_code 17 = .ok (.iload_n 2, 1) := by decide +kernel
theorem d_X_admit_18 : decode prog_1_method_27_code 18 = .ok (.putfield 195, 3) := by decide +kernel
theorem d_X_admit_21 : decode prog_1_method_27_code 21 = .ok (.aload_n 0, 1) := by decide +kernel
theorem d_X_admit_22 : decode prog_1_method_27_code 22 = .ok (.aload_n 1, 1) := by decide +kernel
theorem d_X_admit_23 : decode prog_1_method_27_code 23 = .ok (.iconst 1, 1) := by decide +kernel
theorem d_X_admit_24 : decode prog_1_method_27_code 24 = .ok (.invokevirtual 200, 3) := by decide +kernel
theorem d_X_admit_27 : decode prog_1_method_27_code 27 = .ok (.return_, 1) := by decide +kernel
theorem d_X_countKept_0 : decode prog_1_method_36_code 0 = .ok (.iconst 0, 1) := by decide +kernel
theorem d_X_countKept_1 : decode prog_1_method_36_code 1 = .ok (.istore_n 1, 1) := by decide +kernel
theorem d_X_countKept_2 : decode prog_1_method_36_code 2 = .ok (.iconst 0, 1) := by decide +kernel
theorem d_X_countKept_3 : decode prog_1_method_36_code 3 = .ok (.istore_n 2, 1) := by decide +kernel
theorem d_X_countKept_4 : decode prog_1_method_36_code 4 = .ok (.iload_n 2, 1) := by decide +kernel
theorem d_X_countKept_5 : decode prog_1_method_36_code 5 = .ok (.bipush 16, 2) := by decide +kernel
theorem d_X_countKept_7 : decode prog_1_method_36_code 7 = .ok (.if_icmp .ge 29, 3) := by decide +kernel
theorem d_X_countKept_10 : decode prog_1_method_36_code 10 = .ok (.iload_n 1, 1) := by decide +kernel
theorem d_X_countKept_11 : decode prog_1_method_36_code 11 = .ok (.aload_n 0, 1) := by decide +kernel
theorem d_X_countKept_12 : decode prog_1_method_36_code 12 = .ok (.getfield 40, 3) := by decide +kernel
theorem d_X_countKept_15 : decode prog_1_method_36_code 15 = .ok (.iload_n 2, 1) := by decide +kernel
theorem d_X_countKept_16 : decode prog_1_method_36_code 16 = .ok (.aaload, 1) := by decide +kernel
theorem d_X_countKept_17 : decode prog_1_method_36_code 17 = .ok (.getfield 178, 3) := by decide +kernel
theorem d_X_countKept_20 : decode prog_1_method_36_code 20 = .ok (.ifCond .eq 7, 3) := by decide +kernel
theorem d_X_countKept_23 : decode prog_1_method_36_code 23 = .ok (.iconst 1, 1) := by decide +kernel
theorem d_X_countKept_24 : decode prog_1_method_36_code 24 = .ok (.goto 4, 3) := by decide +kernel
theorem d_X_countKept_28 : decode prog_1_method_36_code 28 = .ok (.iadd, 1) := by decide +kernel
theorem d_X_countKept_29 : decode prog_1_method_36_code 29 = .ok (.istore_n 1, 1) := by decide +kernel
theorem d_X_countKept_30 : decode prog_1_method_36_code 30 = .ok (.iinc 2 1, 3) := by decide +kernel
theorem d_X_countKept_33 : decode prog_1_method_36_code 33 = .ok (.goto (-29), 3) := by decide +kernel
theorem d_X_countKept_27 : decode prog_1_method_36_code 27 = .ok (.iconst 0, 1) := by decide +kernel
theorem d_X_countKept_36 : decode prog_1_method_36_code 36 = .ok (.iload_n 1, 1) := by decide +kernel
theorem d_X_countKept_37 : decode prog_1_method_36_code 37 = .ok (.ireturn, 1) := by decide +kernel
theorem d_X_countFreeBlocks_0 : decode prog_1_method_35_code 0 = .ok (.iconst 0, 1) := by decide +kernel
theorem d_X_countFreeBlocks_1 : decode prog_1_method_35_code 1 = .ok (.istore_n 1, 1) := by decide +kernel
theorem d_X_countFreeBlocks_2 : decode prog_1_method_35_code 2 = .ok (.iconst 0, 1) := by decide +kernel
theorem d_X_countFreeBlocks_3 : decode prog_1_method_35_code 3 = .ok (.istore_n 2, 1) := by decide +kernel
theorem d_X_countFreeBlocks_4 : decode prog_1_method_35_code 4 = .ok (.iload_n 2, 1) := by decide +kernel
theorem d_X_countFreeBlocks_5 : decode prog_1_method_35_code 5 = .ok (.aload_n 0, 1) := by decide +kernel
theorem d_X_countFreeBlocks_6 : decode prog_1_method_35_code 6 = .ok (.getfield 23, 3) := by decide +kernel
theorem d_X_countFreeBlocks_9 : decode prog_1_method_35_code 9 = .ok (.getfield 233, 3) := by decide +kernel
theorem d_X_countFreeBlocks_12 : decode prog_1_method_35_code 12 = .ok (.if_icmp .ge 26, 3) := by decide +kernel
theorem d_X_countFreeBlocks_15 : decode prog_1_method_35_code 15 = .ok (.iload_n 1, 1) := by decide +kernel
theorem d_X_countFreeBlocks_16 : decode prog_1_method_35_code 16 = .ok (.aload_n 0, 1) := by decide +kernel
theorem d_X_countFreeBlocks_17 : decode prog_1_method_35_code 17 = .ok (.getfield 27, 3) := by decide +kernel
theorem d_X_countFreeBlocks_20 : decode prog_1_method_35_code 20 = .ok (.iload_n 2, 1) := by decide +kernel
theorem d_X_countFreeBlocks_21 : decode prog_1_method_35_code 21 = .ok (.baload, 1) := by decide +kernel
theorem d_X_countFreeBlocks_22 : decode prog_1_method_35_code 22 = .ok (.ifCond .eq 7, 3) := by decide +kernel
theorem d_X_countFreeBlocks_25 : decode prog_1_method_35_code 25 = .ok (.iconst 0, 1) := by decide +kernel
theorem d_X_countFreeBlocks_26 : decode prog_1_method_35_code 26 = .ok (.goto 4, 3) := by decide +kernel
theorem d_X_countFreeBlocks_30 : decode prog_1_method_35_code 30 = .ok (.iadd, 1) := by decide +kernel
theorem d_X_countFreeBlocks_31 : decode prog_1_method_35_code 31 = .ok (.istore_n 1, 1) := by decide +kernel
theorem d_X_countFreeBlocks_32 : decode prog_1_method_35_code 32 = .ok (.iinc 2 1, 3) := by decide +kernel
theorem d_X_countFreeBlocks_35 : decode prog_1_method_35_code 35 = .ok (.goto (-31), 3) := by decide +kernel
theorem d_X_countFreeBlocks_29 : decode prog_1_method_35_code 29 = .ok (.iconst 1, 1) := by decide +kernel
theorem d_X_countFreeBlocks_38 : decode prog_1_method_35_code 38 = .ok (.iload_n 1, 1) := by decide +kernel
theorem d_X_countFreeBlocks_39 : decode prog_1_method_35_code 39 = .ok (.ireturn, 1) := by decide +kernel
theorem d_X_countMade_0 : decode prog_1_method_37_code 0 = .ok (.iconst 0, 1) := by decide +kernel
theorem d_X_countMade_1 : decode prog_1_method_37_code 1 = .ok (.istore_n 1, 1) := by decide +kernel
theorem d_X_countMade_2 : decode prog_1_method_37_code 2 = .ok (.iconst 0, 1) := by decide +kernel
theorem d_X_countMade_3 : decode prog_1_method_37_code 3 = .ok (.istore_n 2, 1) := by decide +kernel
theorem d_X_countMade_4 : decode prog_1_method_37_code 4 = .ok (.iload_n 2, 1) := by decide +kernel
theorem d_X_countMade_5 : decode prog_1_method_37_code 5 = .ok (.bipush 8, 2) := by decide +kernel
theorem d_X_countMade_7 : decode prog_1_method_37_code 7 = .ok (.if_icmp .ge 29, 3) := by decide +kernel
theorem d_X_countMade_10 : decode prog_1_method_37_code 10 = .ok (.iload_n 1, 1) := by decide +kernel
theorem d_X_countMade_11 : decode prog_1_method_37_code 11 = .ok (.aload_n 0, 1) := by decide +kernel
theorem d_X_countMade_12 : decode prog_1_method_37_code 12 = .ok (.getfield 33, 3) := by decide +kernel
theorem d_X_countMade_15 : decode prog_1_method_37_code 15 = .ok (.iload_n 2, 1) := by decide +kernel
theorem d_X_countMade_16 : decode prog_1_method_37_code 16 = .ok (.aaload, 1) := by decide +kernel
theorem d_X_countMade_17 : decode prog_1_method_37_code 17 = .ok (.getfield 80, 3) := by decide +kernel
theorem d_X_countMade_20 : decode prog_1_method_37_code 20 = .ok (.ifCond .eq 7, 3) := by decide +kernel
theorem d_X_countMade_23 : decode prog_1_method_37_code 23 = .ok (.iconst 1, 1) := by decide +kernel
theorem d_X_countMade_24 : decode prog_1_method_37_code 24 = .ok (.goto 4, 3) := by decide +kernel
theorem d_X_countMade_28 : decode prog_1_method_37_code 28 = .ok (.iadd, 1) := by decide +kernel
theorem d_X_countMade_29 : decode prog_1_method_37_code 29 = .ok (.istore_n 1, 1) := by decide +kernel
theorem d_X_countMade_30 : decode prog_1_method_37_code 30 = .ok (.iinc 2 1, 3) := by decide +kernel
theorem d_X_countMade_33 : decode prog_1_method_37_code 33 = .ok (.goto (-29), 3) := by decide +kernel
theorem d_X_countMade_27 : decode prog_1_method_37_code 27 = .ok (.iconst 0, 1) := by decide +kernel
theorem d_X_countMade_36 : decode prog_1_method_37_code 36 = .ok (.iload_n 1, 1) := by decide +kernel
theorem d_X_countMade_37 : decode prog_1_method_37_code 37 = .ok (.ireturn, 1) := by decide +kernel
theorem d_X_freeNumber_0 : decode prog_1_method_24_code 0 = .ok (.iconst 0, 1) := by decide +kernel
theorem d_X_freeNumber_1 : decode prog_1_method_24_code 1 = .ok (.istore_n 1, 1) := by decide +kernel
theorem d_X_freeNumber_2 : decode prog_1_method_24_code 2 = .ok (.iload_n 1, 1) := by decide +kernel
theorem d_X_freeNumber_3 : decode prog_1_method_24_code 3 = .ok (.bipush 16, 2) := by decide +kernel
theorem d_X_freeNumber_5 : decode prog_1_method_24_code 5 = .ok (.if_icmp .ge 23, 3) := by decide +kernel
theorem d_X_freeNumber_8 : decode prog_1_method_24_code 8 = .ok (.aload_n 0, 1) := by decide +kernel
theorem d_X_freeNumber_9 : decode prog_1_method_24_code 9 = .ok (.getfield 40, 3) := by decide +kernel
theorem d_X_freeNumber_12 : decode prog_1_method_24_code 12 = .ok (.iload_n 1, 1) := by decide +kernel
theorem d_X_freeNumber_13 : decode prog_1_method_24_code 13 = .ok (.aaload, 1) := by decide +kernel
theorem d_X_freeNumber_14 : decode prog_1_method_24_code 14 = .ok (.getfield 178, 3) := by decide +kernel
theorem d_X_freeNumber_17 : decode prog_1_method_24_code 17 = .ok (.ifCond .ne 5, 3) := by decide +kernel
theorem d_X_freeNumber_20 : decode prog_1_method_24_code 20 = .ok (.iload_n 1, 1) := by decide +kernel
theorem d_X_freeNumber_21 : decode prog_1_method_24_code 21 = .ok (.ireturn, 1) := by decide +kernel
theorem d_X_freeNumber_22 : decode prog_1_method_24_code 22 = .ok (.iinc 1 1, 3) := by decide +kernel
theorem d_X_freeNumber_25 : decode prog_1_method_24_code 25 = .ok (.goto (-23), 3) := by decide +kernel
theorem d_X_freeNumber_28 : decode prog_1_method_24_code 28 = .ok (.iconst (-1), 1) := by decide +kernel
theorem d_X_freeNumber_29 : decode prog_1_method_24_code 29 = .ok (.ireturn, 1) := by decide +kernel
theorem d_X_choosePlaces_0 : decode prog_1_method_25_code 0 = .ok (.iconst 0, 1) := by decide +kernel
theorem d_X_choosePlaces_1 : decode prog_1_method_25_code 1 = .ok (.istore_n 3, 1) := by decide +kernel
theorem d_X_choosePlaces_2 : decode prog_1_method_25_code 2 = .ok (.iconst 0, 1) := by decide +kernel
theorem d_X_choosePlaces_3 : decode prog_1_method_25_code 3 = .ok (.istore 4, 2) := by decide +kernel
theorem d_X_choosePlaces_5 : decode prog_1_method_25_code 5 = .ok (.iload 4, 2) := by decide +kernel
theorem d_X_choosePlaces_7 : decode prog_1_method_25_code 7 = .ok (.aload_n 0, 1) := by decide +kernel
theorem d_X_choosePlaces_8 : decode prog_1_method_25_code 8 = .ok (.getfield 23, 3) := by decide +kernel
theorem d_X_choosePlaces_11 : decode prog_1_method_25_code 11 = .ok (.getfield 233, 3) := by decide +kernel
theorem d_X_choosePlaces_14 : decode prog_1_method_25_code 14 = .ok (.if_icmp .ge 35, 3) := by decide +kernel
theorem d_X_choosePlaces_17 : decode prog_1_method_25_code 17 = .ok (.iload_n 3, 1) := by decide +kernel
theorem d_X_choosePlaces_18 : decode prog_1_method_25_code 18 = .ok (.iload_n 2, 1) := by decide +kernel
theorem d_X_choosePlaces_19 : decode prog_1_method_25_code 19 = .ok (.if_icmp .gt 30, 3) := by decide +kernel
theorem d_X_choosePlaces_22 : decode prog_1_method_25_code 22 = .ok (.aload_n 0, 1) := by decide +kernel
theorem d_X_choosePlaces_23 : decode prog_1_method_25_code 23 = .ok (.getfield 27, 3) := by decide +kernel
theorem d_X_choosePlaces_26 : decode prog_1_method_25_code 26 = .ok (.iload 4, 2) := by decide +kernel
theorem d_X_choosePlaces_28 : decode prog_1_method_25_code 28 = .ok (.baload, 1) := by decide +kernel
theorem d_X_choosePlaces_29 : decode prog_1_method_25_code 29 = .ok (.ifCond .ne 14, 3) := by decide +kernel
theorem d_X_choosePlaces_32 : decode prog_1_method_25_code 32 = .ok (.aload_n 1, 1) := by decide +kernel
theorem d_X_choosePlaces_33 : decode prog_1_method_25_code 33 = .ok (.getfield 192, 3) := by decide +kernel
theorem d_X_choosePlaces_36 : decode prog_1_method_25_code 36 = .ok (.iload_n 3, 1) := by decide +kernel
theorem d_X_choosePlaces_37 : decode prog_1_method_25_code 37 = .ok (.iload 4, 2) := by decide +kernel
theorem d_X_choosePlaces_39 : decode prog_1_method_25_code 39 = .ok (.iastore, 1) := by decide +kernel
theorem d_X_choosePlaces_40 : decode prog_1_method_25_code 40 = .ok (.iinc 3 1, 3) := by decide +kernel
theorem d_X_choosePlaces_43 : decode prog_1_method_25_code 43 = .ok (.iinc 4 1, 3) := by decide +kernel
theorem d_X_choosePlaces_46 : decode prog_1_method_25_code 46 = .ok (.goto (-41), 3) := by decide +kernel
theorem d_X_choosePlaces_49 : decode prog_1_method_25_code 49 = .ok (.iload_n 3, 1) := by decide +kernel
theorem d_X_choosePlaces_50 : decode prog_1_method_25_code 50 = .ok (.iload_n 2, 1) := by decide +kernel
theorem d_X_choosePlaces_51 : decode prog_1_method_25_code 51 = .ok (.if_icmp .le 7, 3) := by decide +kernel
theorem d_X_choosePlaces_54 : decode prog_1_method_25_code 54 = .ok (.iconst 1, 1) := by decide +kernel
theorem d_X_choosePlaces_55 : decode prog_1_method_25_code 55 = .ok (.goto 4, 3) := by decide +kernel
theorem d_X_choosePlaces_59 : decode prog_1_method_25_code 59 = .ok (.ireturn, 1) := by decide +kernel
theorem d_X_choosePlaces_58 : decode prog_1_method_25_code 58 = .ok (.iconst 0, 1) := by decide +kernel
theorem d_X_enterFound_0 : decode prog_1_method_32_code 0 = .ok (.aload_n 0, 1) := by decide +kernel
theorem d_X_enterFound_1 : decode prog_1_method_32_code 1 = .ok (.getfield 62, 3) := by decide +kernel
theorem d_X_enterFound_4 : decode prog_1_method_32_code 4 = .ok (.istore_n 3, 1) := by decide +kernel
theorem d_X_enterFound_5 : decode prog_1_method_32_code 5 = .ok (.iload_n 3, 1) := by decide +kernel
theorem d_X_enterFound_6 : decode prog_1_method_32_code 6 = .ok (.ifCond .le 49, 3) := by decide +kernel
theorem d_X_enterFound_9 : decode prog_1_method_32_code 9 = .ok (.aload_n 0, 1) := by decide +kernel
theorem d_X_enterFound_10 : decode prog_1_method_32_code 10 = .ok (.getfield 59, 3) := by decide +kernel
theorem d_X_enterFound_13 : decode prog_1_method_32_code 13 = .ok (.iload_n 3, 1) := by decide +kernel
theorem d_X_enterFound_14 : decode prog_1_method_32_code 14 = .ok (.iconst 1, 1) := by decide +kernel
theorem d_X_enterFound_15 : decode prog_1_method_32_code 15 = .ok (.isub, 1) := by decide +kernel
theorem d_X_enterFound_16 : decode prog_1_method_32_code 16 = .ok (.iaload, 1) := by decide +kernel
theorem d_X_enterFound_17 : decode prog_1_method_32_code 17 = .ok (.iload_n 2, 1) := by decide +kernel
theorem d_X_enterFound_18 : decode prog_1_method_32_code 18 = .ok (.if_icmp .le 37, 3) := by decide +kernel
theorem d_X_enterFound_21 : decode prog_1_method_32_code 21 = .ok (.aload_n 0, 1) := by decide +kernel
theorem d_X_enterFound_22 : decode prog_1_method_32_code 22 = .ok (.getfield 56, 3) := by decide +kernel
theorem d_X_enterFound_25 : decode prog_1_method_32_code 25 = .ok (.iload_n 3, 1) := by decide +kernel
theorem d_X_enterFound_26 : decode prog_1_method_32_code 26 = .ok (.aload_n 0, 1) := by decide +kernel
theorem d_X_enterFound_27 : decode prog_1_method_32_code 27 = .ok (.getfield 56, 3) := by decide +kernel
theorem d_X_enterFound_30 : decode prog_1_method_32_code 30 = .ok (.iload_n 3, 1) := by decide +kernel
theorem d_X_enterFound_31 : decode prog_1_method_32_code 31 = .ok (.iconst 1, 1) := by decide +kernel
theorem d_X_enterFound_32 : decode prog_1_method_32_code 32 = .ok (.isub, 1) := by decide +kernel
theorem d_X_enterFound_33 : decode prog_1_method_32_code 33 = .ok (.iaload, 1) := by decide +kernel
theorem d_X_enterFound_34 : decode prog_1_method_32_code 34 = .ok (.iastore, 1) := by decide +kernel
theorem d_X_enterFound_35 : decode prog_1_method_32_code 35 = .ok (.aload_n 0, 1) := by decide +kernel
theorem d_X_enterFound_36 : decode prog_1_method_32_code 36 = .ok (.getfield 59, 3) := by decide +kernel
theorem d_X_enterFound_39 : decode prog_1_method_32_code 39 = .ok (.iload_n 3, 1) := by decide +kernel
theorem d_X_enterFound_40 : decode prog_1_method_32_code 40 = .ok (.aload_n 0, 1) := by decide +kernel
theorem d_X_enterFound_41 : decode prog_1_method_32_code 41 = .ok (.getfield 59, 3) := by decide +kernel
theorem d_X_enterFound_44 : decode prog_1_method_32_code 44 = .ok (.iload_n 3, 1) := by decide +kernel
theorem d_X_enterFound_45 : decode prog_1_method_32_code 45 = .ok (.iconst 1, 1) := by decide +kernel
theorem d_X_enterFound_46 : decode prog_1_method_32_code 46 = .ok (.isub, 1) := by decide +kernel
theorem d_X_enterFound_47 : decode prog_1_method_32_code 47 = .ok (.iaload, 1) := by decide +kernel
theorem d_X_enterFound_48 : decode prog_1_method_32_code 48 = .ok (.iastore, 1) := by decide +kernel
theorem d_X_enterFound_49 : decode prog_1_method_32_code 49 = .ok (.iinc 3 (-1), 3) := by decide +kernel
theorem d_X_enterFound_52 : decode prog_1_method_32_code 52 = .ok (.goto (-47), 3) := by decide +kernel
theorem d_X_enterFound_55 : decode prog_1_method_32_code 55 = .ok (.aload_n 0, 1) := by decide +kernel
theorem d_X_enterFound_56 : decode prog_1_method_32_code 56 = .ok (.getfield 56, 3) := by decide +kernel
theorem d_X_enterFound_59 : decode prog_1_method_32_code 59 = .ok (.iload_n 3, 1) := by decide +kernel
theorem d_X_enterFound_60 : decode prog_1_method_32_code 60 = .ok (.iload_n 1, 1) := by decide +kernel
theorem d_X_enterFound_61 : decode prog_1_method_32_code 61 = .ok (.iastore, 1) := by decide +kernel
theorem d_X_enterFound_62 : decode prog_1_method_32_code 62 = .ok (.aload_n 0, 1) := by decide +kernel
theorem d_X_enterFound_63 : decode prog_1_method_32_code 63 = .ok (.getfield 59, 3) := by decide +kernel
theorem d_X_enterFound_66 : decode prog_1_method_32_code 66 = .ok (.iload_n 3, 1) := by decide +kernel
theorem d_X_enterFound_67 : decode prog_1_method_32_code 67 = .ok (.iload_n 2, 1) := by decide +kernel
theorem d_X_enterFound_68 : decode prog_1_method_32_code 68 = .ok (.iastore, 1) := by decide +kernel
theorem d_X_enterFound_69 : decode prog_1_method_32_code 69 = .ok (.aload_n 0, 1) := by decide +kernel
theorem d_X_enterFound_70 : decode prog_1_method_32_code 70 = .ok (.dup, 1) := by decide +kernel
theorem d_X_enterFound_71 : decode prog_1_method_32_code 71 = .ok (.getfield 62, 3) := by decide +kernel
theorem d_X_enterFound_74 : decode prog_1_method_32_code 74 = .ok (.iconst 1, 1) := by decide +kernel
theorem d_X_enterFound_75 : decode prog_1_method_32_code 75 = .ok (.iadd, 1) := by decide +kernel
theorem d_X_enterFound_76 : decode prog_1_method_32_code 76 = .ok (.putfield 62, 3) := by decide +kernel
theorem d_X_enterFound_79 : decode prog_1_method_32_code 79 = .ok (.return_, 1) := by decide +kernel
theorem d_X_afterCut_0 : decode prog_1_method_33_code 0 = .ok (.aload_n 0, 1) := by decide +kernel
theorem d_X_afterCut_1 : decode prog_1_method_33_code 1 = .ok (.invokevirtual 216, 3) := by decide +kernel
theorem d_X_afterCut_4 : decode prog_1_method_33_code 4 = .ok (.bipush (-2), 2) := by decide +kernel
theorem d_X_afterCut_6 : decode prog_1_method_33_code 6 = .ok (.ireturn, 1) := by decide +kernel
def f_X_forget_74 (xn : Nat)  (z0 : x_St) : Option (Unit × x_St) :=
  (some ((), (x_put z0 0 8 (0 : Int32))))
def f_X_forget_50 (xn : Nat) : Nat → Int32 → x_St → Option (Unit × x_St)
  | 0, _, _ => none
  | fu + 1, a1, z0 =>
    (if (z0.1 1 0) ≤ a1 then
    (f_X_forget_74 xn z0)
    else
    (x_ck a1 xn
    (f_X_forget_50 xn fu (a1 + (1 : Int32)) (x_put z0 4 (a1).toNatClampNeg (vp_nar .boolean (0 : Int32))))))
def f_X_forget_48 (xn : Nat)  (z0 : x_St) : Option (Unit × x_St) :=
  (f_X_forget_50 xn x_FU (0 : Int32) z0)
def f_X_forget_26 (xn : Nat) : Nat → Int32 → x_St → Option (Unit × x_St)
  | 0, _, _ => none
  | fu + 1, a1, z0 =>
    (if (16 : Int32) ≤ a1 then
    (f_X_forget_48 xn z0)
    else
    (x_ck a1 16
    (f_X_forget_26 xn fu (a1 + (1 : Int32)) (x_put z0 (23 + 5 * (a1).toNatClampNeg) 0 (0 : Int32)))))
def f_X_forget_24 (xn : Nat)  (z0 : x_St) : Option (Unit × x_St) :=
  (f_X_forget_26 xn x_FU (0 : Int32) z0)
def f_X_forget_2 (xn : Nat) : Nat → Int32 → x_St → Option (Unit × x_St)
  | 0, _, _ => none
  | fu + 1, a1, z0 =>
    (if (8 : Int32) ≤ a1 then
    (f_X_forget_24 xn z0)
    else
    (x_ck a1 8
    (f_X_forget_2 xn fu (a1 + (1 : Int32)) (x_put z0 (6 + 2 * (a1).toNatClampNeg) 0 (0 : Int32)))))
def f_X_forget (xn : Nat)  (z0 : x_St) : Option (Unit × x_St) :=
  (f_X_forget_2 xn x_FU (0 : Int32) z0)
def f_K_hasDigest_2 (xn : Nat) : Nat → Nat → Nat → Int32 → x_St → Option (Int32 × x_St)
  | 0, _, _, _, _ => none
  | fu + 1, a0, a1, a2, z0 =>
    (if (8 : Int32) ≤ a2 then
    (some ((1 : Int32), z0))
    else
    (x_ck a2 (x_ln xn (a0 + 3))
    (x_ck a2 (x_ln xn a1)
    (if (z0.1 (a0 + 3) (a2).toNatClampNeg) = (z0.1 a1 (a2).toNatClampNeg) then
    (f_K_hasDigest_2 xn fu a0 a1 (a2 + (1 : Int32)) z0)
    else
    (some ((0 : Int32), z0))))))
def f_K_hasDigest (xn : Nat) (k0 : Nat) (k1 : Nat) (z0 : x_St) : Option (Int32 × x_St) :=
  (f_K_hasDigest_2 xn x_FU k0 k1 (0 : Int32) z0)
def f_X_numberWith_32 (xn : Nat) (a3 : Int32) (z0 : x_St) : Option (Int32 × x_St) :=
  (some (a3, z0))
def f_X_numberWith_2 (xn : Nat) : Nat → Nat → Int32 → Int32 → x_St → Option (Int32 × x_St)
  | 0, _, _, _, _ => none
  | fu + 1, a1, a2, a3, z0 =>
    (if a2 ≤ a3 then
    (some ((-1 : Int32), z0))
    else
    (x_ck a3 16
    (if (z0.1 (23 + 5 * (a3).toNatClampNeg) 0) = 0 then
    (f_X_numberWith_2 xn fu a1 a2 (a3 + (1 : Int32)) z0)
    else
    (x_ck a3 16
    (x_cl (f_K_hasDigest xn (23 + 5 * (a3).toNatClampNeg) a1 z0) (fun r5 z5 =>
    (if r5 = 0 then
    (f_X_numberWith_2 xn fu a1 a2 (a3 + (1 : Int32)) z5)
    else
    (f_X_numberWith_32 xn a3 z5))))))))
def f_X_numberWith (xn : Nat) (k1 : Nat) (p2 : Int32) (z0 : x_St) : Option (Int32 × x_St) :=
  (f_X_numberWith_2 xn x_FU k1 p2 (0 : Int32) z0)
def f_X_setUsed_2 (xn : Nat) : Nat → Nat → Int32 → Int32 → x_St → Option (Unit × x_St)
  | 0, _, _, _, _ => none
  | fu + 1, a1, a2, a3, z0 =>
    (if (z0.1 a1 4) < a3 then
    (some ((), z0))
    else
    (x_ck a3 (x_ln xn (a1 + 4))
    (x_ck (z0.1 (a1 + 4) (a3).toNatClampNeg) xn
    (f_X_setUsed_2 xn fu a1 a2 (a3 + (1 : Int32)) (x_put z0 4 ((z0.1 (a1 + 4) (a3).toNatClampNeg)).toNatClampNeg (vp_nar .boolean a2))))))
def f_X_setUsed (xn : Nat) (k1 : Nat) (p2 : Int32) (z0 : x_St) : Option (Unit × x_St) :=
  (f_X_setUsed_2 xn x_FU k1 p2 (0 : Int32) z0)
def f_X_admit (xn : Nat) (k1 : Nat) (p2 : Int32) (z0 : x_St) : Option (Unit × x_St) :=
  (x_cl (f_P_printBits xn (k1 + 1) (x_put z0 k1 0 (1 : Int32))) (fun r1 z1 =>
  (x_cl (f_X_setUsed xn k1 (1 : Int32) (x_put (x_putL z1 k1 3 r1) k1 4 p2)) (fun r3 z3 =>
  (some ((), z3))))))
def f_X_countKept_36 (xn : Nat) (a1 : Int32) (z0 : x_St) : Option (Int32 × x_St) :=
  (some (a1, z0))
def f_X_countKept_4 (xn : Nat) : Nat → Int32 → Int32 → x_St → Option (Int32 × x_St)
  | 0, _, _, _ => none
  | fu + 1, a1, a2, z0 =>
    (if (16 : Int32) ≤ a2 then
    (f_X_countKept_36 xn a1 z0)
    else
    (x_ck a2 16
    (if (z0.1 (23 + 5 * (a2).toNatClampNeg) 0) = 0 then
    (f_X_countKept_4 xn fu (a1 + (0 : Int32)) (a2 + (1 : Int32)) z0)
    else
    (f_X_countKept_4 xn fu (a1 + (1 : Int32)) (a2 + (1 : Int32)) z0))))
def f_X_countKept (xn : Nat)  (z0 : x_St) : Option (Int32 × x_St) :=
  (f_X_countKept_4 xn x_FU (0 : Int32) (0 : Int32) z0)
def f_X_countFreeBlocks_38 (xn : Nat) (a1 : Int32) (z0 : x_St) : Option (Int32 × x_St) :=
  (some (a1, z0))
def f_X_countFreeBlocks_4 (xn : Nat) : Nat → Int32 → Int32 → x_St → Option (Int32 × x_St)
  | 0, _, _, _ => none
  | fu + 1, a1, a2, z0 =>
    (if (z0.1 1 0) ≤ a2 then
    (f_X_countFreeBlocks_38 xn a1 z0)
    else
    (x_ck a2 xn
    (if (z0.1 4 (a2).toNatClampNeg) = 0 then
    (f_X_countFreeBlocks_4 xn fu (a1 + (1 : Int32)) (a2 + (1 : Int32)) z0)
    else
    (f_X_countFreeBlocks_4 xn fu (a1 + (0 : Int32)) (a2 + (1 : Int32)) z0))))
def f_X_countFreeBlocks (xn : Nat)  (z0 : x_St) : Option (Int32 × x_St) :=
  (f_X_countFreeBlocks_4 xn x_FU (0 : Int32) (0 : Int32) z0)
def f_X_countMade_36 (xn : Nat) (a1 : Int32) (z0 : x_St) : Option (Int32 × x_St) :=
  (some (a1, z0))
def f_X_countMade_4 (xn : Nat) : Nat → Int32 → Int32 → x_St → Option (Int32 × x_St)
  | 0, _, _, _ => none
  | fu + 1, a1, a2, z0 =>
    (if (8 : Int32) ≤ a2 then
    (f_X_countMade_36 xn a1 z0)
    else
    (x_ck a2 8
    (if (z0.1 (6 + 2 * (a2).toNatClampNeg) 0) = 0 then
    (f_X_countMade_4 xn fu (a1 + (0 : Int32)) (a2 + (1 : Int32)) z0)
    else
    (f_X_countMade_4 xn fu (a1 + (1 : Int32)) (a2 + (1 : Int32)) z0))))
def f_X_countMade (xn : Nat)  (z0 : x_St) : Option (Int32 × x_St) :=
  (f_X_countMade_4 xn x_FU (0 : Int32) (0 : Int32) z0)
def f_X_freeNumber_20 (xn : Nat) (a1 : Int32) (z0 : x_St) : Option (Int32 × x_St) :=
  (some (a1, z0))
def f_X_freeNumber_2 (xn : Nat) : Nat → Int32 → x_St → Option (Int32 × x_St)
  | 0, _, _ => none
  | fu + 1, a1, z0 =>
    (if (16 : Int32) ≤ a1 then
    (some ((-1 : Int32), z0))
    else
    (x_ck a1 16
    (if (z0.1 (23 + 5 * (a1).toNatClampNeg) 0) = 0 then
    (f_X_freeNumber_20 xn a1 z0)
    else
    (f_X_freeNumber_2 xn fu (a1 + (1 : Int32)) z0))))
def f_X_freeNumber (xn : Nat)  (z0 : x_St) : Option (Int32 × x_St) :=
  (f_X_freeNumber_2 xn x_FU (0 : Int32) z0)
def f_X_choosePlaces_49 (xn : Nat) (a2 : Int32) (a3 : Int32) (z0 : x_St) : Option (Int32 × x_St) :=
  (if a3 ≤ a2 then
  (some ((0 : Int32), z0))
  else
  (some ((1 : Int32), z0)))
def f_X_choosePlaces_5 (xn : Nat) : Nat → Nat → Int32 → Int32 → Int32 → x_St → Option (Int32 × x_St)
  | 0, _, _, _, _, _ => none
  | fu + 1, a1, a2, a3, a4, z0 =>
    (if (z0.1 1 0) ≤ a4 then
    (f_X_choosePlaces_49 xn a2 a3 z0)
    else
    (if a2 < a3 then
    (f_X_choosePlaces_49 xn a2 a3 z0)
    else
    (x_ck a4 xn
    (if (z0.1 4 (a4).toNatClampNeg) = 0 then
    (x_ck a3 (x_ln xn (a1 + 4))
    (f_X_choosePlaces_5 xn fu a1 a2 (a3 + (1 : Int32)) (a4 + (1 : Int32)) (x_put z0 (a1 + 4) (a3).toNatClampNeg a4)))
    else
    (f_X_choosePlaces_5 xn fu a1 a2 a3 (a4 + (1 : Int32)) z0)))))
def f_X_choosePlaces (xn : Nat) (k1 : Nat) (p2 : Int32) (z0 : x_St) : Option (Int32 × x_St) :=
  (f_X_choosePlaces_5 xn x_FU k1 p2 (0 : Int32) (0 : Int32) z0)
def f_X_enterFound_55 (xn : Nat) (a1 : Int32) (a2 : Int32) (a3 : Int32) (z0 : x_St) : Option (Unit × x_St) :=
  (x_ck a3 (x_ln xn 108)
  (x_ck a3 (x_ln xn 109)
  (some ((), (x_put (x_put (x_put z0 108 (a3).toNatClampNeg a1) 109 (a3).toNatClampNeg a2) 0 8 (((x_put (x_put z0 108 (a3).toNatClampNeg a1) 109 (a3).toNatClampNeg a2).1 0 8) + (1 : Int32)))))))
def f_X_enterFound_5 (xn : Nat) : Nat → Int32 → Int32 → Int32 → x_St → Option (Unit × x_St)
  | 0, _, _, _, _ => none
  | fu + 1, a1, a2, a3, z0 =>
    (if a3 ≤ 0 then
    (f_X_enterFound_55 xn a1 a2 a3 z0)
    else
    (x_ck (a3 - (1 : Int32)) (x_ln xn 109)
    (if (z0.1 109 ((a3 - (1 : Int32))).toNatClampNeg) ≤ a2 then
    (f_X_enterFound_55 xn a1 a2 a3 z0)
    else
    (x_ck (a3 - (1 : Int32)) (x_ln xn 108)
    (x_ck a3 (x_ln xn 108)
    (x_ck (a3 - (1 : Int32)) (x_ln xn 109)
    (x_ck a3 (x_ln xn 109)
    (f_X_enterFound_5 xn fu a1 a2 (a3 + (-1 : Int32)) (x_put (x_put z0 108 (a3).toNatClampNeg (z0.1 108 ((a3 - (1 : Int32))).toNatClampNeg)) 109 (a3).toNatClampNeg ((x_put z0 108 (a3).toNatClampNeg (z0.1 108 ((a3 - (1 : Int32))).toNatClampNeg)).1 109 ((a3 - (1 : Int32))).toNatClampNeg))))))))))
def f_X_enterFound (xn : Nat) (p1 : Int32) (p2 : Int32) (z0 : x_St) : Option (Unit × x_St) :=
  (f_X_enterFound_5 xn x_FU p1 p2 (z0.1 0 8) z0)
def f_X_afterCut (xn : Nat)  (z0 : x_St) : Option (Int32 × x_St) :=
  (x_cl (f_X_forget xn z0) (fun r1 z1 =>
  (some ((-2 : Int32), z1))))
abbrev rm_X_forget : Room := { frames := 0, cells := 0, slots := 0, locals := 0 }
set_option maxHeartbeats 4000000 in
set_option maxRecDepth 100000 in
theorem w_X_forget_74 (l : Launch) (G : x_G) {p : Program} {e : Env} {s : State} {m : MethodId} {args : Array Value} {below : List Frame} {meth : Method} {c : Code} (C0 : x_Ctx G p s m args meth c prog_1_method_34_code "ContentLibrary" 2 none) (r : Unit) (zo : x_St) : ∀ (z0 : x_St), f_X_forget_74 (x_n G)  z0 = some (r, zo) → ∀ (H : Heap) (locs : List Loc) (ls : Array Slot), va_P (x_D G) vwCl (x_Wd G z0) H → va_D (x_A G) (x_Wd G z0) → va_S (x_A G) s.heap H locs → lv_has ls 2 [(0, .ref (x_ad G 0))] → W p l e rm_X_forget s m args below meth c H locs 0 0 (MQ below (va_Qv (fun u => r = () ∧ zo = u) (x_PW G) (x_A G)) args s 0 0 (x_A G)) (F0 m 74 ls []) := by
  obtain ⟨hx, hb, hr, hml, hown, hts, hlocks, hz, hK, hG⟩ := id C0
  intro  z0 hf H locs ls hP hD hS hl
  rw [f_X_forget_74] at hf
  refine lv_aload_n hx hb d_X_forget_74 rfl (lv_at hl 0 rfl) ?_
  refine lv_iconst (v := (0 : Int32)) hx hb d_X_forget_75 (by decide) ?_
  refine va_put (D := x_D G) (ci := 0) (v := .int (0 : Int32)) (ty := .int) (C := "ContentLibrary") (T := x_TX) (N := 9) hx hb hts x_inX x_tyX x_tyX_ok x_nmX hown hK hP hD hS 0 (x_lk_X G _) rfl 8 (by decide) (hts _ t_138) (fun _ h9 => h9) rfl (by decide +kernel) rfl rfl (Nat.le_of_ble_eq_true rfl) d_X_forget_76 (fun H locs hP hD hS => ?_)
  rw [x_st_X8 G _] at hP hD
  obtain ⟨rfl, rfl⟩ := x_ret hf
  exact W.vret hx hb hr (fun t ht hW => ⟨⟨_, rfl, ⟨rfl, rfl⟩, x_pw hP hD hK hG hS hz ht hW⟩, hS.F ht⟩) hS.2.2 d_X_forget_79
set_option maxHeartbeats 4000000 in
set_option maxRecDepth 100000 in
theorem w_X_forget_50 (l : Launch) (G : x_G) {p : Program} {e : Env} {s : State} {m : MethodId} {args : Array Value} {below : List Frame} {meth : Method} {c : Code} (C0 : x_Ctx G p s m args meth c prog_1_method_34_code "ContentLibrary" 2 none) (r : Unit) (zo : x_St) : ∀ (fu : Nat), ∀ (a1 : Int32) (z0 : x_St), f_X_forget_50 (x_n G) fu a1 z0 = some (r, zo) → ∀ (H : Heap) (locs : List Loc) (ls : Array Slot), va_P (x_D G) vwCl (x_Wd G z0) H → va_D (x_A G) (x_Wd G z0) → va_S (x_A G) s.heap H locs → lv_has ls 2 [(0, .ref (x_ad G 0)), (1, .int a1)] → W p l e rm_X_forget s m args below meth c H locs 0 0 (MQ below (va_Qv (fun u => r = () ∧ zo = u) (x_PW G) (x_A G)) args s 0 0 (x_A G)) (F0 m 50 ls []) := by
  obtain ⟨hx, hb, hr, hml, hown, hts, hlocks, hz, hK, hG⟩ := id C0
  intro fu
  induction fu with
  | zero =>
    intro a1 z0 hf
    rw [f_X_forget_50] at hf
    cases hf
  | succ fu ih =>
    intro a1 z0 hf H locs ls hP hD hS hl
    rw [f_X_forget_50] at hf
    refine lv_iload_n hx hb d_X_forget_50 rfl (lv_at hl 1 rfl) ?_
    refine lv_aload_n hx hb d_X_forget_51 rfl (lv_at hl 0 rfl) ?_
    refine va_get (D := x_D G) (ci := 0) (v := .ref (x_ad G 1)) (C := "ContentLibrary") (T := x_TX) (N := 9) hx hb hts x_inX hown hK hP 0 (x_lk_X G _) rfl 0 (by decide) (hts _ t_130) (fun _ h9 => h9) rfl d_X_forget_52 ?_
    refine va_get (D := x_D G) (ci := 1) (v := .int (z0.1 1 0)) (C := "ContentLibrary$Blocks") (T := x_TB) (N := 5) hx hb hts x_inB hown hK hP 1 (x_lk_B G _) rfl 0 (by decide) (hts _ t_40) (fun _ h9 => h9) rfl d_X_forget_55 ?_
    refine lv_icmp_ge (tgt := 74) hx hb d_X_forget_58 (by decide) (fun hc1 => ?_) (fun hc1 => ?_)
    · have hf := x_br_t hf hc1
      exact w_X_forget_74 l G C0 r zo z0 hf _ _ _ hP hD hS (lv_sub hl [0] rfl)
    · have hf := x_br_f hf hc1
      refine lv_aload_n hx hb d_X_forget_61 rfl (lv_at hl 0 rfl) ?_
      refine va_get (D := x_D G) (ci := 0) (v := .ref (x_ad G 4)) (C := "ContentLibrary") (T := x_TX) (N := 9) hx hb hts x_inX hown hK hP 0 (x_lk_X G _) rfl 1 (by decide) (hts _ t_131) (fun _ h9 => h9) rfl d_X_forget_62 ?_
      refine lv_iload_n hx hb d_X_forget_65 rfl (lv_at hl 1 rfl) ?_
      refine lv_iconst (v := (0 : Int32)) hx hb d_X_forget_66 (by decide) ?_
      obtain ⟨hin2, hf⟩ := x_ck_some hf
      refine va_zast hx hb hK hP hD hS 4 1 (x_lk_Z G _) rfl hin2 d_X_forget_67 (fun H locs hP hD hS => ?_)
      rw [x_st_Z G _] at hP hD
      refine lv_iinc (v := (a1 + (1 : Int32))) (lv' := [(1, .int (a1 + (1 : Int32))), (0, .ref (x_ad G 0))]) hx hb d_X_forget_68 hl (k := 1) rfl rfl (by decide) rfl (fun ls hl => ?_)
      refine lv_goto (tgt := 50) hx hb d_X_forget_71 (by decide) ?_
      exact ih (a1 + (1 : Int32)) (x_put z0 4 (a1).toNatClampNeg (vp_nar .boolean (0 : Int32))) hf _ _ _ hP hD hS (lv_sub hl [1, 0] rfl)
set_option maxHeartbeats 4000000 in
set_option maxRecDepth 100000 in
theorem w_X_forget_48 (l : Launch) (G : x_G) {p : Program} {e : Env} {s : State} {m : MethodId} {args : Array Value} {below : List Frame} {meth : Method} {c : Code} (C0 : x_Ctx G p s m args meth c prog_1_method_34_code "ContentLibrary" 2 none) (r : Unit) (zo : x_St) : ∀ (z0 : x_St), f_X_forget_48 (x_n G)  z0 = some (r, zo) → ∀ (H : Heap) (locs : List Loc) (ls : Array Slot), va_P (x_D G) vwCl (x_Wd G z0) H → va_D (x_A G) (x_Wd G z0) → va_S (x_A G) s.heap H locs → lv_has ls 2 [(0, .ref (x_ad G 0))] → W p l e rm_X_forget s m args below meth c H locs 0 0 (MQ below (va_Qv (fun u => r = () ∧ zo = u) (x_PW G) (x_A G)) args s 0 0 (x_A G)) (F0 m 48 ls []) := by
  obtain ⟨hx, hb, hr, hml, hown, hts, hlocks, hz, hK, hG⟩ := id C0
  intro  z0 hf H locs ls hP hD hS hl
  rw [f_X_forget_48] at hf
  refine lv_iconst (v := (0 : Int32)) hx hb d_X_forget_48 (by decide) ?_
  refine lv_istore_n (lv' := [(1, .int (0 : Int32)), (0, .ref (x_ad G 0))]) hx hb d_X_forget_49 rfl hl (by decide) rfl (fun ls hl => ?_)
  exact w_X_forget_50 l G C0 r zo x_FU (0 : Int32) z0 hf _ _ _ hP hD hS (lv_sub hl [1, 0] rfl)
set_option maxHeartbeats 4000000 in
set_option maxRecDepth 100000 in
theorem w_X_forget_26 (l : Launch) (G : x_G) {p : Program} {e : Env} {s : State} {m : MethodId} {args : Array Value} {below : List Frame} {meth : Method} {c : Code} (C0 : x_Ctx G p s m args meth c prog_1_method_34_code "ContentLibrary" 2 none) (r : Unit) (zo : x_St) : ∀ (fu : Nat), ∀ (a1 : Int32) (z0 : x_St), f_X_forget_26 (x_n G) fu a1 z0 = some (r, zo) → ∀ (H : Heap) (locs : List Loc) (ls : Array Slot), va_P (x_D G) vwCl (x_Wd G z0) H → va_D (x_A G) (x_Wd G z0) → va_S (x_A G) s.heap H locs → lv_has ls 2 [(0, .ref (x_ad G 0)), (1, .int a1)] → W p l e rm_X_forget s m args below meth c H locs 0 0 (MQ below (va_Qv (fun u => r = () ∧ zo = u) (x_PW G) (x_A G)) args s 0 0 (x_A G)) (F0 m 26 ls []) := by
  obtain ⟨hx, hb, hr, hml, hown, hts, hlocks, hz, hK, hG⟩ := id C0
  intro fu
  induction fu with
  | zero =>
    intro a1 z0 hf
    rw [f_X_forget_26] at hf
    cases hf
  | succ fu ih =>
    intro a1 z0 hf H locs ls hP hD hS hl
    rw [f_X_forget_26] at hf
    refine lv_iload_n hx hb d_X_forget_26 rfl (lv_at hl 1 rfl) ?_
    refine lv_bipush (v := (16 : Int32)) hx hb d_X_forget_27 (by decide) ?_
    refine lv_icmp_ge (tgt := 48) hx hb d_X_forget_29 (by decide) (fun hc3 => ?_) (fun hc3 => ?_)
    · have hf := x_br_t hf hc3
      exact w_X_forget_48 l G C0 r zo z0 hf _ _ _ hP hD hS (lv_sub hl [0] rfl)
    · have hf := x_br_f hf hc3
      refine lv_aload_n hx hb d_X_forget_32 rfl (lv_at hl 0 rfl) ?_
      refine va_get (D := x_D G) (ci := 0) (v := .ref (x_ad G 22)) (C := "ContentLibrary") (T := x_TX) (N := 9) hx hb hts x_inX hown hK hP 0 (x_lk_X G _) rfl 3 (by decide) (hts _ t_133) (fun _ h9 => h9) rfl d_X_forget_33 ?_
      refine lv_iload_n hx hb d_X_forget_36 rfl (lv_at hl 1 rfl) ?_
      obtain ⟨hin4, hf⟩ := x_ck_some hf
      refine va_aldq hx hb hK hP 22 3 (x_lk_kept G _) rfl hin4 d_X_forget_37 ?_
      refine W.eq (g2 := F0 m 38 ls [.ref (x_ad G (23 + 5 * (a1).toNatClampNeg))]) rfl ?_
      refine lv_iconst (v := (0 : Int32)) hx hb d_X_forget_38 (by decide) ?_
      refine va_put (D := x_D G) (ci := 3) (v := .int (0 : Int32)) (ty := .boolean) (C := "ContentLibrary$Kept") (T := x_TK) (N := 6) hx hb hts x_inK x_tyK x_tyK_ok x_nmK hown hK hP hD hS (23 + 5 * (a1).toNatClampNeg) (x_lk_K G _ (x_el_K hin4)) rfl 0 (by decide) (hts _ t_90) (fun _ h9 => h9) rfl (by decide +kernel) rfl rfl (Nat.le_of_ble_eq_true rfl) d_X_forget_39 (fun H locs hP hD hS => ?_)
      rw [x_st_K0 G _ (x_el_K hin4)] at hP hD
      refine lv_iinc (v := (a1 + (1 : Int32))) (lv' := [(1, .int (a1 + (1 : Int32))), (0, .ref (x_ad G 0))]) hx hb d_X_forget_42 hl (k := 1) rfl rfl (by decide) rfl (fun ls hl => ?_)
      refine lv_goto (tgt := 26) hx hb d_X_forget_45 (by decide) ?_
      exact ih (a1 + (1 : Int32)) (x_put z0 (23 + 5 * (a1).toNatClampNeg) 0 (0 : Int32)) hf _ _ _ hP hD hS (lv_sub hl [1, 0] rfl)
set_option maxHeartbeats 4000000 in
set_option maxRecDepth 100000 in
theorem w_X_forget_24 (l : Launch) (G : x_G) {p : Program} {e : Env} {s : State} {m : MethodId} {args : Array Value} {below : List Frame} {meth : Method} {c : Code} (C0 : x_Ctx G p s m args meth c prog_1_method_34_code "ContentLibrary" 2 none) (r : Unit) (zo : x_St) : ∀ (z0 : x_St), f_X_forget_24 (x_n G)  z0 = some (r, zo) → ∀ (H : Heap) (locs : List Loc) (ls : Array Slot), va_P (x_D G) vwCl (x_Wd G z0) H → va_D (x_A G) (x_Wd G z0) → va_S (x_A G) s.heap H locs → lv_has ls 2 [(0, .ref (x_ad G 0))] → W p l e rm_X_forget s m args below meth c H locs 0 0 (MQ below (va_Qv (fun u => r = () ∧ zo = u) (x_PW G) (x_A G)) args s 0 0 (x_A G)) (F0 m 24 ls []) := by
  obtain ⟨hx, hb, hr, hml, hown, hts, hlocks, hz, hK, hG⟩ := id C0
  intro  z0 hf H locs ls hP hD hS hl
  rw [f_X_forget_24] at hf
  refine lv_iconst (v := (0 : Int32)) hx hb d_X_forget_24 (by decide) ?_
  refine lv_istore_n (lv' := [(1, .int (0 : Int32)), (0, .ref (x_ad G 0))]) hx hb d_X_forget_25 rfl hl (by decide) rfl (fun ls hl => ?_)
  exact w_X_forget_26 l G C0 r zo x_FU (0 : Int32) z0 hf _ _ _ hP hD hS (lv_sub hl [1, 0] rfl)
set_option maxHeartbeats 4000000 in
set_option maxRecDepth 100000 in
theorem w_X_forget_2 (l : Launch) (G : x_G) {p : Program} {e : Env} {s : State} {m : MethodId} {args : Array Value} {below : List Frame} {meth : Method} {c : Code} (C0 : x_Ctx G p s m args meth c prog_1_method_34_code "ContentLibrary" 2 none) (r : Unit) (zo : x_St) : ∀ (fu : Nat), ∀ (a1 : Int32) (z0 : x_St), f_X_forget_2 (x_n G) fu a1 z0 = some (r, zo) → ∀ (H : Heap) (locs : List Loc) (ls : Array Slot), va_P (x_D G) vwCl (x_Wd G z0) H → va_D (x_A G) (x_Wd G z0) → va_S (x_A G) s.heap H locs → lv_has ls 2 [(0, .ref (x_ad G 0)), (1, .int a1)] → W p l e rm_X_forget s m args below meth c H locs 0 0 (MQ below (va_Qv (fun u => r = () ∧ zo = u) (x_PW G) (x_A G)) args s 0 0 (x_A G)) (F0 m 2 ls []) := by
  obtain ⟨hx, hb, hr, hml, hown, hts, hlocks, hz, hK, hG⟩ := id C0
  intro fu
  induction fu with
  | zero =>
    intro a1 z0 hf
    rw [f_X_forget_2] at hf
    cases hf
  | succ fu ih =>
    intro a1 z0 hf H locs ls hP hD hS hl
    rw [f_X_forget_2] at hf
    refine lv_iload_n hx hb d_X_forget_2 rfl (lv_at hl 1 rfl) ?_
    refine lv_bipush (v := (8 : Int32)) hx hb d_X_forget_3 (by decide) ?_
    refine lv_icmp_ge (tgt := 24) hx hb d_X_forget_5 (by decide) (fun hc5 => ?_) (fun hc5 => ?_)
    · have hf := x_br_t hf hc5
      exact w_X_forget_24 l G C0 r zo z0 hf _ _ _ hP hD hS (lv_sub hl [0] rfl)
    · have hf := x_br_f hf hc5
      refine lv_aload_n hx hb d_X_forget_8 rfl (lv_at hl 0 rfl) ?_
      refine va_get (D := x_D G) (ci := 0) (v := .ref (x_ad G 5)) (C := "ContentLibrary") (T := x_TX) (N := 9) hx hb hts x_inX hown hK hP 0 (x_lk_X G _) rfl 2 (by decide) (hts _ t_132) (fun _ h9 => h9) rfl d_X_forget_9 ?_
      refine lv_iload_n hx hb d_X_forget_12 rfl (lv_at hl 1 rfl) ?_
      obtain ⟨hin6, hf⟩ := x_ck_some hf
      refine va_aldq hx hb hK hP 5 2 (x_lk_made G _) rfl hin6 d_X_forget_13 ?_
      refine W.eq (g2 := F0 m 14 ls [.ref (x_ad G (6 + 2 * (a1).toNatClampNeg))]) rfl ?_
      refine lv_iconst (v := (0 : Int32)) hx hb d_X_forget_14 (by decide) ?_
      refine va_put (D := x_D G) (ci := 2) (v := .int (0 : Int32)) (ty := .boolean) (C := "ContentLibrary$Picture") (T := x_TP) (N := 3) hx hb hts x_inP x_tyP x_tyP_ok x_nmP hown hK hP hD hS (6 + 2 * (a1).toNatClampNeg) (x_lk_P G _ (x_el_P hin6)) rfl 0 (by decide) (hts _ t_67) (fun _ h9 => h9) rfl (by decide +kernel) rfl rfl (Nat.le_of_ble_eq_true rfl) d_X_forget_15 (fun H locs hP hD hS => ?_)
      rw [x_st_P0 G _ (x_el_P hin6)] at hP hD
      refine lv_iinc (v := (a1 + (1 : Int32))) (lv' := [(1, .int (a1 + (1 : Int32))), (0, .ref (x_ad G 0))]) hx hb d_X_forget_18 hl (k := 1) rfl rfl (by decide) rfl (fun ls hl => ?_)
      refine lv_goto (tgt := 2) hx hb d_X_forget_21 (by decide) ?_
      exact ih (a1 + (1 : Int32)) (x_put z0 (6 + 2 * (a1).toNatClampNeg) 0 (0 : Int32)) hf _ _ _ hP hD hS (lv_sub hl [1, 0] rfl)
set_option maxHeartbeats 4000000 in
set_option maxRecDepth 100000 in
theorem c_X_forget (l : Launch) (G : x_G)  (z0 : x_St) (r : Unit) (zo : x_St) (hf : f_X_forget (x_n G)  z0 = some (r, zo)) : Met l (⟨"ContentLibrary", "forget", "()V"⟩ : MethodName) (x_ws (⟨"ContentLibrary", "forget", "()V"⟩ : MethodName) prog_1_method_34_code 2 none) rm_X_forget (va_Pc [.ref (x_ad G 0)] (x_PW G z0)) (va_Qv (fun u => r = () ∧ zo = u) (x_PW G) (x_A G)) 0 0 (x_A G) := by
  refine Met.ofW (cc := prog_1_method_34_code) (maxL := 2) (ret := none) (by decide) rfl ?_
  intro p e s m args below meth c s₁ B hml hv
  obtain ⟨rfl, hz, hP, hD, hK, hG⟩ := hv
  have C0 : x_Ctx G p s m _ meth c prog_1_method_34_code "ContentLibrary" 2 none := ⟨B.exec, B.bytes, B.returns, hml, findClass_of_methodNamed B.named, fun w h => atoms_spec (ws := (x_ws (⟨"ContentLibrary", "forget", "()V"⟩ : MethodName) prog_1_method_34_code 2 none)) B.pre w (List.mem_cons_of_mem _ h), B.notSynchronized, hz, hK, hG⟩
  obtain ⟨hx, hb, hr, hml, hown, hts, hlocks, hz, hK, hG⟩ := id C0
  have hS : va_S (x_A G) s.heap s.heap [] := va_S.rf
  have hl := lv_entry ([.ref (x_ad G 0)]) (n := 2) (Nat.le_of_ble_eq_true rfl)
  rw [lg_entry_eq]
  generalize (lg_sl ([.ref (x_ad G 0)]) ++ List.replicate (2 - (lg_sl ([.ref (x_ad G 0)])).length) Slot.unset).toArray = ls at hl ⊢
  have hl : lv_has ls 2 [(0, .ref (x_ad G 0))] := hl
  rw [f_X_forget] at hf
  refine lv_iconst (v := (0 : Int32)) hx hb d_X_forget_0 (by decide) ?_
  refine lv_istore_n (lv' := [(1, .int (0 : Int32)), (0, .ref (x_ad G 0))]) hx hb d_X_forget_1 rfl hl (by decide) rfl (fun ls hl => ?_)
  exact w_X_forget_2 l G C0 r zo x_FU (0 : Int32) z0 hf _ _ _ hP hD hS (lv_sub hl [1, 0] rfl)
abbrev rm_K_hasDigest : Room := { frames := 0, cells := 0, slots := 0, locals := 0 }
set_option maxHeartbeats 4000000 in
set_option maxRecDepth 100000 in
theorem w_K_hasDigest_2 (l : Launch) (G : x_G) {p : Program} {e : Env} {s : State} {m : MethodId} {args : Array Value} {below : List Frame} {meth : Method} {c : Code} (C0 : x_Ctx G p s m args meth c prog_4_method_2_code "ContentLibrary$Kept" 3 (some .boolean)) (r : Int32) (zo : x_St) : ∀ (fu : Nat), ∀ (a0 : Nat) (ha0 : x_isK a0 = true) (a1 : Nat) (ha1 : x_isA a1 = true) (a2 : Int32) (z0 : x_St), f_K_hasDigest_2 (x_n G) fu a0 a1 a2 z0 = some (r, zo) → ∀ (H : Heap) (locs : List Loc) (ls : Array Slot), va_P (x_D G) vwCl (x_Wd G z0) H → va_D (x_A G) (x_Wd G z0) → va_S (x_A G) s.heap H locs → lv_has ls 3 [(0, .ref (x_ad G a0)), (1, .ref (x_ad G a1)), (2, .int a2)] → W p l e rm_K_hasDigest s m args below meth c H locs 0 0 (MQ below (va_Qi (fun a u => r = a ∧ zo = u) (x_PW G) (x_A G)) args s 0 0 (x_A G)) (F0 m 2 ls []) := by
  obtain ⟨hx, hb, hr, hml, hown, hts, hlocks, hz, hK, hG⟩ := id C0
  intro fu
  induction fu with
  | zero =>
    intro a0 ha0 a1 ha1 a2 z0 hf
    rw [f_K_hasDigest_2] at hf
    cases hf
  | succ fu ih =>
    intro a0 ha0 a1 ha1 a2 z0 hf H locs ls hP hD hS hl
    rw [f_K_hasDigest_2] at hf
    refine lv_iload_n hx hb d_K_hasDigest_2 rfl (lv_at hl 2 rfl) ?_
    refine lv_bipush (v := (8 : Int32)) hx hb d_K_hasDigest_3 (by decide) ?_
    refine lv_icmp_ge (tgt := 28) hx hb d_K_hasDigest_5 (by decide) (fun hc1 => ?_) (fun hc1 => ?_)
    · have hf := x_br_t hf hc1
      refine lv_iconst (v := (1 : Int32)) hx hb d_K_hasDigest_28 (by decide) ?_
      obtain ⟨rfl, rfl⟩ := x_ret hf
      exact W.zret (v := (1 : Int32)) hx hb hr rfl (fun t ht hW => ⟨⟨_, _, rfl, ⟨rfl, rfl⟩, x_pw hP hD hK hG hS hz ht hW⟩, hS.F ht⟩) hS.2.2 d_K_hasDigest_29
    · have hf := x_br_f hf hc1
      refine lv_aload_n hx hb d_K_hasDigest_8 rfl (lv_at hl 0 rfl) ?_
      refine va_get (D := x_D G) (ci := 3) (v := .ref (x_ad G (a0 + 3))) (C := "ContentLibrary$Kept") (T := x_TK) (N := 6) hx hb hts x_inK hown hK hP a0 (x_lk_K G _ ha0) rfl 2 (by decide) (hts _ t_93) (fun _ h9 => h9) rfl d_K_hasDigest_9 ?_
      refine lv_iload_n hx hb d_K_hasDigest_12 rfl (lv_at hl 2 rfl) ?_
      obtain ⟨hin2, hf⟩ := x_ck_some hf
      refine va_iald hx hb hK hP (a0 + 3) 0 (x_lk_A G _ (x_K_A3 ha0)) rfl hin2 d_K_hasDigest_13 ?_
      refine lv_aload_n hx hb d_K_hasDigest_14 rfl (lv_at hl 1 rfl) ?_
      refine lv_iload_n hx hb d_K_hasDigest_15 rfl (lv_at hl 2 rfl) ?_
      obtain ⟨hin3, hf⟩ := x_ck_some hf
      refine va_iald hx hb hK hP a1 0 (x_lk_A G _ ha1) rfl hin3 d_K_hasDigest_16 ?_
      refine lv_icmp_eq (tgt := 22) hx hb d_K_hasDigest_17 (by decide) (fun hc4 => ?_) (fun hc4 => ?_)
      · have hf := x_br_t hf hc4
        refine lv_iinc (v := (a2 + (1 : Int32))) (lv' := [(2, .int (a2 + (1 : Int32))), (0, .ref (x_ad G a0)), (1, .ref (x_ad G a1))]) hx hb d_K_hasDigest_22 hl (k := 2) rfl rfl (by decide) rfl (fun ls hl => ?_)
        refine lv_goto (tgt := 2) hx hb d_K_hasDigest_25 (by decide) ?_
        exact ih a0 ha0 a1 ha1 (a2 + (1 : Int32)) z0 hf _ _ _ hP hD hS (lv_sub hl [1, 2, 0] rfl)
      · have hf := x_br_f hf hc4
        refine lv_iconst (v := (0 : Int32)) hx hb d_K_hasDigest_20 (by decide) ?_
        obtain ⟨rfl, rfl⟩ := x_ret hf
        exact W.zret (v := (0 : Int32)) hx hb hr rfl (fun t ht hW => ⟨⟨_, _, rfl, ⟨rfl, rfl⟩, x_pw hP hD hK hG hS hz ht hW⟩, hS.F ht⟩) hS.2.2 d_K_hasDigest_21
set_option maxHeartbeats 4000000 in
set_option maxRecDepth 100000 in
theorem c_K_hasDigest (l : Launch) (G : x_G) (k0 : Nat) (hk0 : x_isK k0 = true) (k1 : Nat) (hk1 : x_isA k1 = true) (z0 : x_St) (r : Int32) (zo : x_St) (hf : f_K_hasDigest (x_n G) k0 k1 z0 = some (r, zo)) : Met l (⟨"ContentLibrary$Kept", "hasDigest", "([I)Z"⟩ : MethodName) (x_ws (⟨"ContentLibrary$Kept", "hasDigest", "([I)Z"⟩ : MethodName) prog_4_method_2_code 3 (some .boolean)) rm_K_hasDigest (va_Pc [.ref (x_ad G k0), .ref (x_ad G k1)] (x_PW G z0)) (va_Qi (fun a u => r = a ∧ zo = u) (x_PW G) (x_A G)) 0 0 (x_A G) := by
  refine Met.ofW (cc := prog_4_method_2_code) (maxL := 3) (ret := (some .boolean)) (by decide) rfl ?_
  intro p e s m args below meth c s₁ B hml hv
  obtain ⟨rfl, hz, hP, hD, hK, hG⟩ := hv
  have C0 : x_Ctx G p s m _ meth c prog_4_method_2_code "ContentLibrary$Kept" 3 (some .boolean) := ⟨B.exec, B.bytes, B.returns, hml, findClass_of_methodNamed B.named, fun w h => atoms_spec (ws := (x_ws (⟨"ContentLibrary$Kept", "hasDigest", "([I)Z"⟩ : MethodName) prog_4_method_2_code 3 (some .boolean))) B.pre w (List.mem_cons_of_mem _ h), B.notSynchronized, hz, hK, hG⟩
  obtain ⟨hx, hb, hr, hml, hown, hts, hlocks, hz, hK, hG⟩ := id C0
  have hS : va_S (x_A G) s.heap s.heap [] := va_S.rf
  have hl := lv_entry ([.ref (x_ad G k0), .ref (x_ad G k1)]) (n := 3) (Nat.le_of_ble_eq_true rfl)
  rw [lg_entry_eq]
  generalize (lg_sl ([.ref (x_ad G k0), .ref (x_ad G k1)]) ++ List.replicate (3 - (lg_sl ([.ref (x_ad G k0), .ref (x_ad G k1)])).length) Slot.unset).toArray = ls at hl ⊢
  have hl : lv_has ls 3 [(0, .ref (x_ad G k0)), (1, .ref (x_ad G k1))] := hl
  rw [f_K_hasDigest] at hf
  refine lv_iconst (v := (0 : Int32)) hx hb d_K_hasDigest_0 (by decide) ?_
  refine lv_istore_n (lv' := [(2, .int (0 : Int32)), (0, .ref (x_ad G k0)), (1, .ref (x_ad G k1))]) hx hb d_K_hasDigest_1 rfl hl (by decide) rfl (fun ls hl => ?_)
  exact w_K_hasDigest_2 l G C0 r zo x_FU k0 hk0 k1 hk1 (0 : Int32) z0 hf _ _ _ hP hD hS (lv_sub hl [1, 2, 0] rfl)
abbrev rm_X_numberWith : Room := { frames := 1, cells := 0, slots := 0, locals := 22 }
set_option maxHeartbeats 4000000 in
set_option maxRecDepth 100000 in
theorem w_X_numberWith_32 (l : Launch) (G : x_G) {p : Program} {e : Env} {s : State} {m : MethodId} {args : Array Value} {below : List Frame} {meth : Method} {c : Code} (C0 : x_Ctx G p s m args meth c prog_1_method_23_code "ContentLibrary" 4 (some .int)) (r : Int32) (zo : x_St) : ∀ (a3 : Int32) (z0 : x_St), f_X_numberWith_32 (x_n G) a3 z0 = some (r, zo) → ∀ (H : Heap) (locs : List Loc) (ls : Array Slot), va_P (x_D G) vwCl (x_Wd G z0) H → va_D (x_A G) (x_Wd G z0) → va_S (x_A G) s.heap H locs → lv_has ls 4 [(3, .int a3)] → W p l e rm_X_numberWith s m args below meth c H locs 0 0 (MQ below (va_Qi (fun a u => r = a ∧ zo = u) (x_PW G) (x_A G)) args s 0 0 (x_A G)) (F0 m 32 ls []) := by
  obtain ⟨hx, hb, hr, hml, hown, hts, hlocks, hz, hK, hG⟩ := id C0
  intro a3 z0 hf H locs ls hP hD hS hl
  rw [f_X_numberWith_32] at hf
  refine lv_iload_n hx hb d_X_numberWith_32 rfl (lv_at hl 0 rfl) ?_
  obtain ⟨rfl, rfl⟩ := x_ret hf
  exact W.iret (v := a3) hx hb hr (fun t ht hW => ⟨⟨_, _, rfl, ⟨rfl, rfl⟩, x_pw hP hD hK hG hS hz ht hW⟩, hS.F ht⟩) hS.2.2 d_X_numberWith_33
set_option maxHeartbeats 4000000 in
set_option maxRecDepth 100000 in
theorem w_X_numberWith_2 (l : Launch) (G : x_G) {p : Program} {e : Env} {s : State} {m : MethodId} {args : Array Value} {below : List Frame} {meth : Method} {c : Code} (C0 : x_Ctx G p s m args meth c prog_1_method_23_code "ContentLibrary" 4 (some .int)) (r : Int32) (zo : x_St) : ∀ (fu : Nat), ∀ (a1 : Nat) (ha1 : x_isA a1 = true) (a2 : Int32) (a3 : Int32) (z0 : x_St), f_X_numberWith_2 (x_n G) fu a1 a2 a3 z0 = some (r, zo) → ∀ (H : Heap) (locs : List Loc) (ls : Array Slot), va_P (x_D G) vwCl (x_Wd G z0) H → va_D (x_A G) (x_Wd G z0) → va_S (x_A G) s.heap H locs → lv_has ls 4 [(0, .ref (x_ad G 0)), (1, .ref (x_ad G a1)), (2, .int a2), (3, .int a3)] → W p l e rm_X_numberWith s m args below meth c H locs 0 0 (MQ below (va_Qi (fun a u => r = a ∧ zo = u) (x_PW G) (x_A G)) args s 0 0 (x_A G)) (F0 m 2 ls []) := by
  obtain ⟨hx, hb, hr, hml, hown, hts, hlocks, hz, hK, hG⟩ := id C0
  intro fu
  induction fu with
  | zero =>
    intro a1 ha1 a2 a3 z0 hf
    rw [f_X_numberWith_2] at hf
    cases hf
  | succ fu ih =>
    intro a1 ha1 a2 a3 z0 hf H locs ls hP hD hS hl
    rw [f_X_numberWith_2] at hf
    refine lv_iload_n hx hb d_X_numberWith_2 rfl (lv_at hl 3 rfl) ?_
    refine lv_iload_n hx hb d_X_numberWith_3 rfl (lv_at hl 2 rfl) ?_
    refine lv_icmp_ge (tgt := 40) hx hb d_X_numberWith_4 (by decide) (fun hc1 => ?_) (fun hc1 => ?_)
    · have hf := x_br_t hf hc1
      refine lv_iconst (v := (-1 : Int32)) hx hb d_X_numberWith_40 (by decide) ?_
      obtain ⟨rfl, rfl⟩ := x_ret hf
      exact W.iret (v := (-1 : Int32)) hx hb hr (fun t ht hW => ⟨⟨_, _, rfl, ⟨rfl, rfl⟩, x_pw hP hD hK hG hS hz ht hW⟩, hS.F ht⟩) hS.2.2 d_X_numberWith_41
    · have hf := x_br_f hf hc1
      refine lv_aload_n hx hb d_X_numberWith_7 rfl (lv_at hl 0 rfl) ?_
      refine va_get (D := x_D G) (ci := 0) (v := .ref (x_ad G 22)) (C := "ContentLibrary") (T := x_TX) (N := 9) hx hb hts x_inX hown hK hP 0 (x_lk_X G _) rfl 3 (by decide) (hts _ t_133) (fun _ h9 => h9) rfl d_X_numberWith_8 ?_
      refine lv_iload_n hx hb d_X_numberWith_11 rfl (lv_at hl 3 rfl) ?_
      obtain ⟨hin2, hf⟩ := x_ck_some hf
      refine va_aldq hx hb hK hP 22 3 (x_lk_kept G _) rfl hin2 d_X_numberWith_12 ?_
      refine W.eq (g2 := F0 m 13 ls [.ref (x_ad G (23 + 5 * (a3).toNatClampNeg))]) rfl ?_
      refine va_get (D := x_D G) (ci := 3) (v := .int (z0.1 (23 + 5 * (a3).toNatClampNeg) 0)) (C := "ContentLibrary$Kept") (T := x_TK) (N := 6) hx hb hts x_inK hown hK hP (23 + 5 * (a3).toNatClampNeg) (x_lk_K G _ (x_el_K hin2)) rfl 0 (by decide) (hts _ t_90) (fun _ h9 => h9) rfl d_X_numberWith_13 ?_
      refine lv_if_eq (tgt := 34) hx hb d_X_numberWith_16 (by decide) (fun hc3 => ?_) (fun hc3 => ?_)
      · have hf := x_br_t hf hc3
        refine lv_iinc (v := (a3 + (1 : Int32))) (lv' := [(3, .int (a3 + (1 : Int32))), (0, .ref (x_ad G 0)), (1, .ref (x_ad G a1)), (2, .int a2)]) hx hb d_X_numberWith_34 hl (k := 3) rfl rfl (by decide) rfl (fun ls hl => ?_)
        refine lv_goto (tgt := 2) hx hb d_X_numberWith_37 (by decide) ?_
        exact ih a1 ha1 a2 (a3 + (1 : Int32)) z0 hf _ _ _ hP hD hS (lv_sub hl [1, 2, 3, 0] rfl)
      · have hf := x_br_f hf hc3
        refine lv_aload_n hx hb d_X_numberWith_19 rfl (lv_at hl 0 rfl) ?_
        refine va_get (D := x_D G) (ci := 0) (v := .ref (x_ad G 22)) (C := "ContentLibrary") (T := x_TX) (N := 9) hx hb hts x_inX hown hK hP 0 (x_lk_X G _) rfl 3 (by decide) (hts _ t_133) (fun _ h9 => h9) rfl d_X_numberWith_20 ?_
        refine lv_iload_n hx hb d_X_numberWith_23 rfl (lv_at hl 3 rfl) ?_
        obtain ⟨hin4, hf⟩ := x_ck_some hf
        refine va_aldq hx hb hK hP 22 3 (x_lk_kept G _) rfl hin4 d_X_numberWith_24 ?_
        refine W.eq (g2 := F0 m 25 ls [.ref (x_ad G (23 + 5 * (a3).toNatClampNeg))]) rfl ?_
        refine lv_aload_n hx hb d_X_numberWith_25 rfl (lv_at hl 1 rfl) ?_
        obtain ⟨r5, z5, hq6, hf⟩ := x_cl_some hf
        refine va_calli (va_runV (As := [.ref (x_ad G a1)]) (rest := []) ⟨hx, hb, hml, hown, hts⟩ (c_K_hasDigest l G (23 + 5 * (a3).toNatClampNeg) (x_el_K hin4) a1 ha1 z0 r5 z5 hq6) (cwV 1 hts (x_gV t_277 t_278 t_279 t_5 t_280) rfl rfl rfl (by decide +kernel) ⟨Nat.le_of_ble_eq_true rfl, Nat.le_of_ble_eq_true rfl⟩) ⟨x_blind _ _ _, va_recv hK hP (ci := 3) (q0 := (23 + 5 * (a3).toNatClampNeg)) rfl (x_lk_K G _ (x_el_K hin4)), fun U hU hW => ⟨rfl, x_pw hP hD hK hG hS hz hU hW⟩⟩ rfl rfl hl.1 rfl (lv_room (Nat.le_of_ble_eq_true rfl)) d_X_numberWith_26 ⟨Nat.le_of_ble_eq_true rfl, Nat.le_of_ble_eq_true rfl⟩) hS (fun q _ h => h) (fun q h => h) (fun ra u t H locs ht hvm hw hB _ _ hS => ?_)
        obtain ⟨rfl, rfl⟩ := hw
        obtain ⟨hP, hD⟩ := x_back hB ht
        refine lv_if_eq (tgt := 34) hx hb d_X_numberWith_29 (by decide) (fun hc7 => ?_) (fun hc7 => ?_)
        · have hf := x_br_t hf hc7
          refine lv_iinc (v := (a3 + (1 : Int32))) (lv' := [(3, .int (a3 + (1 : Int32))), (0, .ref (x_ad G 0)), (1, .ref (x_ad G a1)), (2, .int a2)]) hx hb d_X_numberWith_34 hl (k := 3) rfl rfl (by decide) rfl (fun ls hl => ?_)
          refine lv_goto (tgt := 2) hx hb d_X_numberWith_37 (by decide) ?_
          exact ih a1 ha1 a2 (a3 + (1 : Int32)) z5 hf _ _ _ hP hD hS (lv_sub hl [1, 2, 3, 0] rfl)
        · have hf := x_br_f hf hc7
          exact w_X_numberWith_32 l G C0 r zo a3 z5 hf _ _ _ hP hD hS (lv_sub hl [3] rfl)
set_option maxHeartbeats 4000000 in
set_option maxRecDepth 100000 in
theorem c_X_numberWith (l : Launch) (G : x_G) (k1 : Nat) (hk1 : x_isA k1 = true) (p2 : Int32) (z0 : x_St) (r : Int32) (zo : x_St) (hf : f_X_numberWith (x_n G) k1 p2 z0 = some (r, zo)) : Met l (⟨"ContentLibrary", "numberWith", "([II)I"⟩ : MethodName) (x_ws (⟨"ContentLibrary", "numberWith", "([II)I"⟩ : MethodName) prog_1_method_23_code 4 (some .int)) rm_X_numberWith (va_Pc [.ref (x_ad G 0), .ref (x_ad G k1), .int p2] (x_PW G z0)) (va_Qi (fun a u => r = a ∧ zo = u) (x_PW G) (x_A G)) 0 0 (x_A G) := by
  refine Met.ofW (cc := prog_1_method_23_code) (maxL := 4) (ret := (some .int)) (by decide) rfl ?_
  intro p e s m args below meth c s₁ B hml hv
  obtain ⟨rfl, hz, hP, hD, hK, hG⟩ := hv
  have C0 : x_Ctx G p s m _ meth c prog_1_method_23_code "ContentLibrary" 4 (some .int) := ⟨B.exec, B.bytes, B.returns, hml, findClass_of_methodNamed B.named, fun w h => atoms_spec (ws := (x_ws (⟨"ContentLibrary", "numberWith", "([II)I"⟩ : MethodName) prog_1_method_23_code 4 (some .int))) B.pre w (List.mem_cons_of_mem _ h), B.notSynchronized, hz, hK, hG⟩
  obtain ⟨hx, hb, hr, hml, hown, hts, hlocks, hz, hK, hG⟩ := id C0
  have hS : va_S (x_A G) s.heap s.heap [] := va_S.rf
  have hl := lv_entry ([.ref (x_ad G 0), .ref (x_ad G k1), .int p2]) (n := 4) (Nat.le_of_ble_eq_true rfl)
  rw [lg_entry_eq]
  generalize (lg_sl ([.ref (x_ad G 0), .ref (x_ad G k1), .int p2]) ++ List.replicate (4 - (lg_sl ([.ref (x_ad G 0), .ref (x_ad G k1), .int p2])).length) Slot.unset).toArray = ls at hl ⊢
  have hl : lv_has ls 4 [(0, .ref (x_ad G 0)), (1, .ref (x_ad G k1)), (2, .int p2)] := hl
  rw [f_X_numberWith] at hf
  refine lv_iconst (v := (0 : Int32)) hx hb d_X_numberWith_0 (by decide) ?_
  refine lv_istore_n (lv' := [(3, .int (0 : Int32)), (0, .ref (x_ad G 0)), (1, .ref (x_ad G k1)), (2, .int p2)]) hx hb d_X_numberWith_1 rfl hl (by decide) rfl (fun ls hl => ?_)
  exact w_X_numberWith_2 l G C0 r zo x_FU k1 hk1 p2 (0 : Int32) z0 hf _ _ _ hP hD hS (lv_sub hl [1, 2, 3, 0] rfl)
abbrev rm_X_setUsed : Room := { frames := 0, cells := 0, slots := 0, locals := 0 }
set_option maxHeartbeats 4000000 in
set_option maxRecDepth 100000 in
theorem w_X_setUsed_2 (l : Launch) (G : x_G) {p : Program} {e : Env} {s : State} {m : MethodId} {args : Array Value} {below : List Frame} {meth : Method} {c : Code} (C0 : x_Ctx G p s m args meth c prog_1_method_28_code "ContentLibrary" 4 none) (r : Unit) (zo : x_St) : ∀ (fu : Nat), ∀ (a1 : Nat) (ha1 : x_isK a1 = true) (a2 : Int32) (a3 : Int32) (z0 : x_St), f_X_setUsed_2 (x_n G) fu a1 a2 a3 z0 = some (r, zo) → ∀ (H : Heap) (locs : List Loc) (ls : Array Slot), va_P (x_D G) vwCl (x_Wd G z0) H → va_D (x_A G) (x_Wd G z0) → va_S (x_A G) s.heap H locs → lv_has ls 4 [(0, .ref (x_ad G 0)), (1, .ref (x_ad G a1)), (2, .int a2), (3, .int a3)] → W p l e rm_X_setUsed s m args below meth c H locs 0 0 (MQ below (va_Qv (fun u => r = () ∧ zo = u) (x_PW G) (x_A G)) args s 0 0 (x_A G)) (F0 m 2 ls []) := by
  obtain ⟨hx, hb, hr, hml, hown, hts, hlocks, hz, hK, hG⟩ := id C0
  intro fu
  induction fu with
  | zero =>
    intro a1 ha1 a2 a3 z0 hf
    rw [f_X_setUsed_2] at hf
    cases hf
  | succ fu ih =>
    intro a1 ha1 a2 a3 z0 hf H locs ls hP hD hS hl
    rw [f_X_setUsed_2] at hf
    refine lv_iload_n hx hb d_X_setUsed_2 rfl (lv_at hl 3 rfl) ?_
    refine lv_aload_n hx hb d_X_setUsed_3 rfl (lv_at hl 1 rfl) ?_
    refine va_get (D := x_D G) (ci := 3) (v := .int (z0.1 a1 4)) (C := "ContentLibrary$Kept") (T := x_TK) (N := 6) hx hb hts x_inK hown hK hP a1 (x_lk_K G _ ha1) rfl 4 (by decide) (hts _ t_98) (fun _ h9 => h9) rfl d_X_setUsed_4 ?_
    refine lv_icmp_gt (tgt := 28) hx hb d_X_setUsed_7 (by decide) (fun hc1 => ?_) (fun hc1 => ?_)
    · have hf := x_br_t hf hc1
      obtain ⟨rfl, rfl⟩ := x_ret hf
      exact W.vret hx hb hr (fun t ht hW => ⟨⟨_, rfl, ⟨rfl, rfl⟩, x_pw hP hD hK hG hS hz ht hW⟩, hS.F ht⟩) hS.2.2 d_X_setUsed_28
    · have hf := x_br_f hf hc1
      refine lv_aload_n hx hb d_X_setUsed_10 rfl (lv_at hl 0 rfl) ?_
      refine va_get (D := x_D G) (ci := 0) (v := .ref (x_ad G 4)) (C := "ContentLibrary") (T := x_TX) (N := 9) hx hb hts x_inX hown hK hP 0 (x_lk_X G _) rfl 1 (by decide) (hts _ t_131) (fun _ h9 => h9) rfl d_X_setUsed_11 ?_
      refine lv_aload_n hx hb d_X_setUsed_14 rfl (lv_at hl 1 rfl) ?_
      refine va_get (D := x_D G) (ci := 3) (v := .ref (x_ad G (a1 + 4))) (C := "ContentLibrary$Kept") (T := x_TK) (N := 6) hx hb hts x_inK hown hK hP a1 (x_lk_K G _ ha1) rfl 5 (by decide) (hts _ t_100) (fun _ h9 => h9) rfl d_X_setUsed_15 ?_
      refine lv_iload_n hx hb d_X_setUsed_18 rfl (lv_at hl 3 rfl) ?_
      obtain ⟨hin2, hf⟩ := x_ck_some hf
      refine va_iald hx hb hK hP (a1 + 4) 0 (x_lk_A G _ (x_K_A4 ha1)) rfl hin2 d_X_setUsed_19 ?_
      refine lv_iload_n hx hb d_X_setUsed_20 rfl (lv_at hl 2 rfl) ?_
      obtain ⟨hin3, hf⟩ := x_ck_some hf
      refine va_zast hx hb hK hP hD hS 4 1 (x_lk_Z G _) rfl hin3 d_X_setUsed_21 (fun H locs hP hD hS => ?_)
      rw [x_st_Z G _] at hP hD
      refine lv_iinc (v := (a3 + (1 : Int32))) (lv' := [(3, .int (a3 + (1 : Int32))), (0, .ref (x_ad G 0)), (1, .ref (x_ad G a1)), (2, .int a2)]) hx hb d_X_setUsed_22 hl (k := 3) rfl rfl (by decide) rfl (fun ls hl => ?_)
      refine lv_goto (tgt := 2) hx hb d_X_setUsed_25 (by decide) ?_
      exact ih a1 ha1 a2 (a3 + (1 : Int32)) (x_put z0 4 ((z0.1 (a1 + 4) (a3).toNatClampNeg)).toNatClampNeg (vp_nar .boolean a2)) hf _ _ _ hP hD hS (lv_sub hl [1, 2, 3, 0] rfl)
set_option maxHeartbeats 4000000 in
set_option maxRecDepth 100000 in
theorem c_X_setUsed (l : Launch) (G : x_G) (k1 : Nat) (hk1 : x_isK k1 = true) (p2 : Int32) (z0 : x_St) (r : Unit) (zo : x_St) (hf : f_X_setUsed (x_n G) k1 p2 z0 = some (r, zo)) : Met l (⟨"ContentLibrary", "setUsed", "(LContentLibrary$Kept;Z)V"⟩ : MethodName) (x_ws (⟨"ContentLibrary", "setUsed", "(LContentLibrary$Kept;Z)V"⟩ : MethodName) prog_1_method_28_code 4 none) rm_X_setUsed (va_Pc [.ref (x_ad G 0), .ref (x_ad G k1), .int p2] (x_PW G z0)) (va_Qv (fun u => r = () ∧ zo = u) (x_PW G) (x_A G)) 0 0 (x_A G) := by
  refine Met.ofW (cc := prog_1_method_28_code) (maxL := 4) (ret := none) (by decide) rfl ?_
  intro p e s m args below meth c s₁ B hml hv
  obtain ⟨rfl, hz, hP, hD, hK, hG⟩ := hv
  have C0 : x_Ctx G p s m _ meth c prog_1_method_28_code "ContentLibrary" 4 none := ⟨B.exec, B.bytes, B.returns, hml, findClass_of_methodNamed B.named, fun w h => atoms_spec (ws := (x_ws (⟨"ContentLibrary", "setUsed", "(LContentLibrary$Kept;Z)V"⟩ : MethodName) prog_1_method_28_code 4 none)) B.pre w (List.mem_cons_of_mem _ h), B.notSynchronized, hz, hK, hG⟩
  obtain ⟨hx, hb, hr, hml, hown, hts, hlocks, hz, hK, hG⟩ := id C0
  have hS : va_S (x_A G) s.heap s.heap [] := va_S.rf
  have hl := lv_entry ([.ref (x_ad G 0), .ref (x_ad G k1), .int p2]) (n := 4) (Nat.le_of_ble_eq_true rfl)
  rw [lg_entry_eq]
  generalize (lg_sl ([.ref (x_ad G 0), .ref (x_ad G k1), .int p2]) ++ List.replicate (4 - (lg_sl ([.ref (x_ad G 0), .ref (x_ad G k1), .int p2])).length) Slot.unset).toArray = ls at hl ⊢
  have hl : lv_has ls 4 [(0, .ref (x_ad G 0)), (1, .ref (x_ad G k1)), (2, .int p2)] := hl
  rw [f_X_setUsed] at hf
  refine lv_iconst (v := (0 : Int32)) hx hb d_X_setUsed_0 (by decide) ?_
  refine lv_istore_n (lv' := [(3, .int (0 : Int32)), (0, .ref (x_ad G 0)), (1, .ref (x_ad G k1)), (2, .int p2)]) hx hb d_X_setUsed_1 rfl hl (by decide) rfl (fun ls hl => ?_)
  exact w_X_setUsed_2 l G C0 r zo x_FU k1 hk1 p2 (0 : Int32) z0 hf _ _ _ hP hD hS (lv_sub hl [1, 2, 3, 0] rfl)
abbrev rm_X_admit : Room := { frames := 3, cells := 0, slots := 0, locals := 68 }
set_option maxHeartbeats 4000000 in
set_option maxRecDepth 100000 in
theorem c_X_admit (l : Launch) (G : x_G) (k1 : Nat) (hk1 : x_isK k1 = true) (p2 : Int32) (z0 : x_St) (r : Unit) (zo : x_St) (hf : f_X_admit (x_n G) k1 p2 z0 = some (r, zo)) : Met l (⟨"ContentLibrary", "admit", "(LContentLibrary$Kept;I)V"⟩ : MethodName) (x_ws (⟨"ContentLibrary", "admit", "(LContentLibrary$Kept;I)V"⟩ : MethodName) prog_1_method_27_code 3 none) rm_X_admit (va_Pc [.ref (x_ad G 0), .ref (x_ad G k1), .int p2] (x_PW G z0)) (va_Qv (fun u => r = () ∧ zo = u) (x_PW G) (x_A G)) 0 0 (x_A G) := by
  refine Met.ofW (cc := prog_1_method_27_code) (maxL := 3) (ret := none) (by decide) rfl ?_
  intro p e s m args below meth c s₁ B hml hv
  obtain ⟨rfl, hz, hP, hD, hK, hG⟩ := hv
  have C0 : x_Ctx G p s m _ meth c prog_1_method_27_code "ContentLibrary" 3 none := ⟨B.exec, B.bytes, B.returns, hml, findClass_of_methodNamed B.named, fun w h => atoms_spec (ws := (x_ws (⟨"ContentLibrary", "admit", "(LContentLibrary$Kept;I)V"⟩ : MethodName) prog_1_method_27_code 3 none)) B.pre w (List.mem_cons_of_mem _ h), B.notSynchronized, hz, hK, hG⟩
  obtain ⟨hx, hb, hr, hml, hown, hts, hlocks, hz, hK, hG⟩ := id C0
  have hS : va_S (x_A G) s.heap s.heap [] := va_S.rf
  have hl := lv_entry ([.ref (x_ad G 0), .ref (x_ad G k1), .int p2]) (n := 3) (Nat.le_of_ble_eq_true rfl)
  rw [lg_entry_eq]
  generalize (lg_sl ([.ref (x_ad G 0), .ref (x_ad G k1), .int p2]) ++ List.replicate (3 - (lg_sl ([.ref (x_ad G 0), .ref (x_ad G k1), .int p2])).length) Slot.unset).toArray = ls at hl ⊢
  have hl : lv_has ls 3 [(0, .ref (x_ad G 0)), (1, .ref (x_ad G k1)), (2, .int p2)] := hl
  rw [f_X_admit] at hf
  refine lv_aload_n hx hb d_X_admit_0 rfl (lv_at hl 1 rfl) ?_
  refine lv_iconst (v := (1 : Int32)) hx hb d_X_admit_1 (by decide) ?_
  refine va_put (D := x_D G) (ci := 3) (v := .int (1 : Int32)) (ty := .boolean) (C := "ContentLibrary$Kept") (T := x_TK) (N := 6) hx hb hts x_inK x_tyK x_tyK_ok x_nmK hown hK hP hD hS k1 (x_lk_K G _ hk1) rfl 0 (by decide) (hts _ t_90) (fun _ h9 => h9) rfl (by decide +kernel) rfl rfl (Nat.le_of_ble_eq_true rfl) d_X_admit_2 (fun H locs hP hD hS => ?_)
  rw [x_st_K0 G _ hk1] at hP hD
  refine lv_aload_n hx hb d_X_admit_5 rfl (lv_at hl 1 rfl) ?_
  refine lv_aload_n hx hb d_X_admit_6 rfl (lv_at hl 1 rfl) ?_
  refine va_get (D := x_D G) (ci := 3) (v := .ref (x_ad G (k1 + 1))) (C := "ContentLibrary$Kept") (T := x_TK) (N := 6) hx hb hts x_inK hown hK hP k1 (x_lk_K G _ hk1) rfl 1 (by decide) (hts _ t_92) (fun _ h9 => h9) rfl d_X_admit_7 ?_
  obtain ⟨r1, z1, hq2, hf⟩ := x_cl_some hf
  refine va_calll (va_runV (As := []) (rest := [.ref (x_ad G k1)]) ⟨hx, hb, hml, hown, hts⟩ (c_P_printBits l G (k1 + 1) (x_K_P hk1) (x_put z0 k1 0 (1 : Int32)) r1 z1 hq2) (cwV 0 hts (x_gV t_285 t_286 t_287 t_4 t_288) rfl rfl rfl (by decide +kernel) ⟨Nat.le_of_ble_eq_true rfl, Nat.le_of_ble_eq_true rfl⟩) ⟨x_blind _ _ _, va_recv hK hP (ci := 2) (q0 := (k1 + 1)) rfl (x_lk_P G _ (x_K_P hk1)), fun U hU hW => ⟨rfl, x_pw hP hD hK hG hS hz hU hW⟩⟩ rfl rfl hl.1 rfl (lv_room (Nat.le_of_ble_eq_true rfl)) d_X_admit_10 ⟨Nat.le_of_ble_eq_true rfl, Nat.le_of_ble_eq_true rfl⟩) hS (fun q _ h => h) (fun q h => h) (fun ra u t H locs ht hvm hw hB _ _ hS => ?_)
  obtain ⟨rfl, rfl⟩ := hw
  obtain ⟨hP, hD⟩ := x_back hB ht
  refine va_put (D := x_D G) (ci := 3) (v := .long r1) (ty := .long) (C := "ContentLibrary$Kept") (T := x_TK) (N := 6) hx hb hts x_inK x_tyK x_tyK_ok x_nmK hown hK hP hD hS k1 (x_lk_K G _ hk1) rfl 3 (by decide) (hts _ t_96) (fun _ h9 => h9) rfl (by decide +kernel) rfl rfl (Nat.le_of_ble_eq_true rfl) d_X_admit_13 (fun H locs hP hD hS => ?_)
  rw [x_st_K3 G _ hk1] at hP hD
  refine lv_aload_n hx hb d_X_admit_16 rfl (lv_at hl 1 rfl) ?_
  refine lv_iload_n hx hb d_X_admit_17 rfl (lv_at hl 2 rfl) ?_
  refine va_put (D := x_D G) (ci := 3) (v := .int p2) (ty := .int) (C := "ContentLibrary$Kept") (T := x_TK) (N := 6) hx hb hts x_inK x_tyK x_tyK_ok x_nmK hown hK hP hD hS k1 (x_lk_K G _ hk1) rfl 4 (by decide) (hts _ t_98) (fun _ h9 => h9) rfl (by decide +kernel) rfl rfl (Nat.le_of_ble_eq_true rfl) d_X_admit_18 (fun H locs hP hD hS => ?_)
  rw [x_st_K4 G _ hk1] at hP hD
  refine lv_aload_n hx hb d_X_admit_21 rfl (lv_at hl 0 rfl) ?_
  refine lv_aload_n hx hb d_X_admit_22 rfl (lv_at hl 1 rfl) ?_
  refine lv_iconst (v := (1 : Int32)) hx hb d_X_admit_23 (by decide) ?_
  obtain ⟨r3, z3, hq4, hf⟩ := x_cl_some hf
  refine va_callv (va_runV (As := [.ref (x_ad G k1), .int (1 : Int32)]) (rest := []) ⟨hx, hb, hml, hown, hts⟩ (c_X_setUsed l G k1 hk1 (1 : Int32) (x_put (x_putL z1 k1 3 r1) k1 4 p2) r3 z3 hq4) (cwV 2 hts (x_gV t_293 t_295 sel_ContentLibrary_setUsed t_1 t_296) rfl rfl rfl (by decide +kernel) ⟨Nat.le_of_ble_eq_true rfl, Nat.le_of_ble_eq_true rfl⟩) ⟨x_blind _ _ _, va_recv hK hP (ci := 0) (q0 := 0) rfl (x_lk_X G _), fun U hU hW => ⟨rfl, x_pw hP hD hK hG hS hz hU hW⟩⟩ rfl rfl hl.1 rfl (lv_room (Nat.le_of_ble_eq_true rfl)) d_X_admit_24 ⟨Nat.le_of_ble_eq_true rfl, Nat.le_of_ble_eq_true rfl⟩) hS (fun q _ h => h) (fun q h => h) (fun u t H locs ht hvm hw hB _ _ hS => ?_)
  obtain ⟨rfl, rfl⟩ := hw
  obtain ⟨hP, hD⟩ := x_back hB ht
  obtain ⟨rfl, rfl⟩ := x_ret hf
  exact W.vret hx hb hr (fun t ht hW => ⟨⟨_, rfl, ⟨rfl, rfl⟩, x_pw hP hD hK hG hS hz ht hW⟩, hS.F ht⟩) hS.2.2 d_X_admit_27
abbrev rm_X_countKept : Room := { frames := 0, cells := 0, slots := 0, locals := 0 }
set_option maxHeartbeats 4000000 in
set_option maxRecDepth 100000 in
theorem w_X_countKept_36 (l : Launch) (G : x_G) {p : Program} {e : Env} {s : State} {m : MethodId} {args : Array Value} {below : List Frame} {meth : Method} {c : Code} (C0 : x_Ctx G p s m args meth c prog_1_method_36_code "ContentLibrary" 3 (some .int)) (r : Int32) (zo : x_St) : ∀ (a1 : Int32) (z0 : x_St), f_X_countKept_36 (x_n G) a1 z0 = some (r, zo) → ∀ (H : Heap) (locs : List Loc) (ls : Array Slot), va_P (x_D G) vwCl (x_Wd G z0) H → va_D (x_A G) (x_Wd G z0) → va_S (x_A G) s.heap H locs → lv_has ls 3 [(1, .int a1)] → W p l e rm_X_countKept s m args below meth c H locs 0 0 (MQ below (va_Qi (fun a u => r = a ∧ zo = u) (x_PW G) (x_A G)) args s 0 0 (x_A G)) (F0 m 36 ls []) := by
  obtain ⟨hx, hb, hr, hml, hown, hts, hlocks, hz, hK, hG⟩ := id C0
  intro a1 z0 hf H locs ls hP hD hS hl
  rw [f_X_countKept_36] at hf
  refine lv_iload_n hx hb d_X_countKept_36 rfl (lv_at hl 0 rfl) ?_
  obtain ⟨rfl, rfl⟩ := x_ret hf
  exact W.iret (v := a1) hx hb hr (fun t ht hW => ⟨⟨_, _, rfl, ⟨rfl, rfl⟩, x_pw hP hD hK hG hS hz ht hW⟩, hS.F ht⟩) hS.2.2 d_X_countKept_37
set_option maxHeartbeats 4000000 in
set_option maxRecDepth 100000 in
theorem w_X_countKept_4 (l : Launch) (G : x_G) {p : Program} {e : Env} {s : State} {m : MethodId} {args : Array Value} {below : List Frame} {meth : Method} {c : Code} (C0 : x_Ctx G p s m args meth c prog_1_method_36_code "ContentLibrary" 3 (some .int)) (r : Int32) (zo : x_St) : ∀ (fu : Nat), ∀ (a1 : Int32) (a2 : Int32) (z0 : x_St), f_X_countKept_4 (x_n G) fu a1 a2 z0 = some (r, zo) → ∀ (H : Heap) (locs : List Loc) (ls : Array Slot), va_P (x_D G) vwCl (x_Wd G z0) H → va_D (x_A G) (x_Wd G z0) → va_S (x_A G) s.heap H locs → lv_has ls 3 [(0, .ref (x_ad G 0)), (1, .int a1), (2, .int a2)] → W p l e rm_X_countKept s m args below meth c H locs 0 0 (MQ below (va_Qi (fun a u => r = a ∧ zo = u) (x_PW G) (x_A G)) args s 0 0 (x_A G)) (F0 m 4 ls []) := by
  obtain ⟨hx, hb, hr, hml, hown, hts, hlocks, hz, hK, hG⟩ := id C0
  intro fu
  induction fu with
  | zero =>
    intro a1 a2 z0 hf
    rw [f_X_countKept_4] at hf
    cases hf
  | succ fu ih =>
    intro a1 a2 z0 hf H locs ls hP hD hS hl
    rw [f_X_countKept_4] at hf
    refine lv_iload_n hx hb d_X_countKept_4 rfl (lv_at hl 2 rfl) ?_
    refine lv_bipush (v := (16 : Int32)) hx hb d_X_countKept_5 (by decide) ?_
    refine lv_icmp_ge (tgt := 36) hx hb d_X_countKept_7 (by decide) (fun hc1 => ?_) (fun hc1 => ?_)
    · have hf := x_br_t hf hc1
      exact w_X_countKept_36 l G C0 r zo a1 z0 hf _ _ _ hP hD hS (lv_sub hl [1] rfl)
    · have hf := x_br_f hf hc1
      refine lv_iload_n hx hb d_X_countKept_10 rfl (lv_at hl 1 rfl) ?_
      refine lv_aload_n hx hb d_X_countKept_11 rfl (lv_at hl 0 rfl) ?_
      refine va_get (D := x_D G) (ci := 0) (v := .ref (x_ad G 22)) (C := "ContentLibrary") (T := x_TX) (N := 9) hx hb hts x_inX hown hK hP 0 (x_lk_X G _) rfl 3 (by decide) (hts _ t_133) (fun _ h9 => h9) rfl d_X_countKept_12 ?_
      refine lv_iload_n hx hb d_X_countKept_15 rfl (lv_at hl 2 rfl) ?_
      obtain ⟨hin2, hf⟩ := x_ck_some hf
      refine va_aldq hx hb hK hP 22 3 (x_lk_kept G _) rfl hin2 d_X_countKept_16 ?_
      refine W.eq (g2 := F0 m 17 ls [.ref (x_ad G (23 + 5 * (a2).toNatClampNeg)), .int a1]) rfl ?_
      refine va_get (D := x_D G) (ci := 3) (v := .int (z0.1 (23 + 5 * (a2).toNatClampNeg) 0)) (C := "ContentLibrary$Kept") (T := x_TK) (N := 6) hx hb hts x_inK hown hK hP (23 + 5 * (a2).toNatClampNeg) (x_lk_K G _ (x_el_K hin2)) rfl 0 (by decide) (hts _ t_90) (fun _ h9 => h9) rfl d_X_countKept_17 ?_
      refine lv_if_eq (tgt := 27) hx hb d_X_countKept_20 (by decide) (fun hc3 => ?_) (fun hc3 => ?_)
      · have hf := x_br_t hf hc3
        refine lv_iconst (v := (0 : Int32)) hx hb d_X_countKept_27 (by decide) ?_
        refine lv_iadd hx hb d_X_countKept_28 ?_
        refine lv_istore_n (lv' := [(1, .int (a1 + (0 : Int32))), (0, .ref (x_ad G 0)), (2, .int a2)]) hx hb d_X_countKept_29 rfl hl (by decide) rfl (fun ls hl => ?_)
        refine lv_iinc (v := (a2 + (1 : Int32))) (lv' := [(2, .int (a2 + (1 : Int32))), (1, .int (a1 + (0 : Int32))), (0, .ref (x_ad G 0))]) hx hb d_X_countKept_30 hl (k := 2) rfl rfl (by decide) rfl (fun ls hl => ?_)
        refine lv_goto (tgt := 4) hx hb d_X_countKept_33 (by decide) ?_
        exact ih (a1 + (0 : Int32)) (a2 + (1 : Int32)) z0 hf _ _ _ hP hD hS (lv_sub hl [2, 1, 0] rfl)
      · have hf := x_br_f hf hc3
        refine lv_iconst (v := (1 : Int32)) hx hb d_X_countKept_23 (by decide) ?_
        refine lv_goto (tgt := 28) hx hb d_X_countKept_24 (by decide) ?_
        refine lv_iadd hx hb d_X_countKept_28 ?_
        refine lv_istore_n (lv' := [(1, .int (a1 + (1 : Int32))), (0, .ref (x_ad G 0)), (2, .int a2)]) hx hb d_X_countKept_29 rfl hl (by decide) rfl (fun ls hl => ?_)
        refine lv_iinc (v := (a2 + (1 : Int32))) (lv' := [(2, .int (a2 + (1 : Int32))), (1, .int (a1 + (1 : Int32))), (0, .ref (x_ad G 0))]) hx hb d_X_countKept_30 hl (k := 2) rfl rfl (by decide) rfl (fun ls hl => ?_)
        refine lv_goto (tgt := 4) hx hb d_X_countKept_33 (by decide) ?_
        exact ih (a1 + (1 : Int32)) (a2 + (1 : Int32)) z0 hf _ _ _ hP hD hS (lv_sub hl [2, 1, 0] rfl)
set_option maxHeartbeats 4000000 in
set_option maxRecDepth 100000 in
theorem c_X_countKept (l : Launch) (G : x_G)  (z0 : x_St) (r : Int32) (zo : x_St) (hf : f_X_countKept (x_n G)  z0 = some (r, zo)) : Met l (⟨"ContentLibrary", "countKept", "()I"⟩ : MethodName) (x_ws (⟨"ContentLibrary", "countKept", "()I"⟩ : MethodName) prog_1_method_36_code 3 (some .int)) rm_X_countKept (va_Pc [.ref (x_ad G 0)] (x_PW G z0)) (va_Qi (fun a u => r = a ∧ zo = u) (x_PW G) (x_A G)) 0 0 (x_A G) := by
  refine Met.ofW (cc := prog_1_method_36_code) (maxL := 3) (ret := (some .int)) (by decide) rfl ?_
  intro p e s m args below meth c s₁ B hml hv
  obtain ⟨rfl, hz, hP, hD, hK, hG⟩ := hv
  have C0 : x_Ctx G p s m _ meth c prog_1_method_36_code "ContentLibrary" 3 (some .int) := ⟨B.exec, B.bytes, B.returns, hml, findClass_of_methodNamed B.named, fun w h => atoms_spec (ws := (x_ws (⟨"ContentLibrary", "countKept", "()I"⟩ : MethodName) prog_1_method_36_code 3 (some .int))) B.pre w (List.mem_cons_of_mem _ h), B.notSynchronized, hz, hK, hG⟩
  obtain ⟨hx, hb, hr, hml, hown, hts, hlocks, hz, hK, hG⟩ := id C0
  have hS : va_S (x_A G) s.heap s.heap [] := va_S.rf
  have hl := lv_entry ([.ref (x_ad G 0)]) (n := 3) (Nat.le_of_ble_eq_true rfl)
  rw [lg_entry_eq]
  generalize (lg_sl ([.ref (x_ad G 0)]) ++ List.replicate (3 - (lg_sl ([.ref (x_ad G 0)])).length) Slot.unset).toArray = ls at hl ⊢
  have hl : lv_has ls 3 [(0, .ref (x_ad G 0))] := hl
  rw [f_X_countKept] at hf
  refine lv_iconst (v := (0 : Int32)) hx hb d_X_countKept_0 (by decide) ?_
  refine lv_istore_n (lv' := [(1, .int (0 : Int32)), (0, .ref (x_ad G 0))]) hx hb d_X_countKept_1 rfl hl (by decide) rfl (fun ls hl => ?_)
  refine lv_iconst (v := (0 : Int32)) hx hb d_X_countKept_2 (by decide) ?_
  refine lv_istore_n (lv' := [(2, .int (0 : Int32)), (1, .int (0 : Int32)), (0, .ref (x_ad G 0))]) hx hb d_X_countKept_3 rfl hl (by decide) rfl (fun ls hl => ?_)
  exact w_X_countKept_4 l G C0 r zo x_FU (0 : Int32) (0 : Int32) z0 hf _ _ _ hP hD hS (lv_sub hl [2, 1, 0] rfl)
abbrev rm_X_countFreeBlocks : Room := { frames := 0, cells := 0, slots := 0, locals := 0 }
set_option maxHeartbeats 4000000 in
set_option maxRecDepth 100000 in
theorem w_X_countFreeBlocks_38 (l : Launch) (G : x_G) {p : Program} {e : Env} {s : State} {m : MethodId} {args : Array Value} {below : List Frame} {meth : Method} {c : Code} (C0 : x_Ctx G p s m args meth c prog_1_method_35_code "ContentLibrary" 3 (some .int)) (r : Int32) (zo : x_St) : ∀ (a1 : Int32) (z0 : x_St), f_X_countFreeBlocks_38 (x_n G) a1 z0 = some (r, zo) → ∀ (H : Heap) (locs : List Loc) (ls : Array Slot), va_P (x_D G) vwCl (x_Wd G z0) H → va_D (x_A G) (x_Wd G z0) → va_S (x_A G) s.heap H locs → lv_has ls 3 [(1, .int a1)] → W p l e rm_X_countFreeBlocks s m args below meth c H locs 0 0 (MQ below (va_Qi (fun a u => r = a ∧ zo = u) (x_PW G) (x_A G)) args s 0 0 (x_A G)) (F0 m 38 ls []) := by
  obtain ⟨hx, hb, hr, hml, hown, hts, hlocks, hz, hK, hG⟩ := id C0
  intro a1 z0 hf H locs ls hP hD hS hl
  rw [f_X_countFreeBlocks_38] at hf
  refine lv_iload_n hx hb d_X_countFreeBlocks_38 rfl (lv_at hl 0 rfl) ?_
  obtain ⟨rfl, rfl⟩ := x_ret hf
  exact W.iret (v := a1) hx hb hr (fun t ht hW => ⟨⟨_, _, rfl, ⟨rfl, rfl⟩, x_pw hP hD hK hG hS hz ht hW⟩, hS.F ht⟩) hS.2.2 d_X_countFreeBlocks_39
set_option maxHeartbeats 4000000 in
set_option maxRecDepth 100000 in
theorem w_X_countFreeBlocks_4 (l : Launch) (G : x_G) {p : Program} {e : Env} {s : State} {m : MethodId} {args : Array Value} {below : List Frame} {meth : Method} {c : Code} (C0 : x_Ctx G p s m args meth c prog_1_method_35_code "ContentLibrary" 3 (some .int)) (r : Int32) (zo : x_St) : ∀ (fu : Nat), ∀ (a1 : Int32) (a2 : Int32) (z0 : x_St), f_X_countFreeBlocks_4 (x_n G) fu a1 a2 z0 = some (r, zo) → ∀ (H : Heap) (locs : List Loc) (ls : Array Slot), va_P (x_D G) vwCl (x_Wd G z0) H → va_D (x_A G) (x_Wd G z0) → va_S (x_A G) s.heap H locs → lv_has ls 3 [(0, .ref (x_ad G 0)), (1, .int a1), (2, .int a2)] → W p l e rm_X_countFreeBlocks s m args below meth c H locs 0 0 (MQ below (va_Qi (fun a u => r = a ∧ zo = u) (x_PW G) (x_A G)) args s 0 0 (x_A G)) (F0 m 4 ls []) := by
  obtain ⟨hx, hb, hr, hml, hown, hts, hlocks, hz, hK, hG⟩ := id C0
  intro fu
  induction fu with
  | zero =>
    intro a1 a2 z0 hf
    rw [f_X_countFreeBlocks_4] at hf
    cases hf
  | succ fu ih =>
    intro a1 a2 z0 hf H locs ls hP hD hS hl
    rw [f_X_countFreeBlocks_4] at hf
    refine lv_iload_n hx hb d_X_countFreeBlocks_4 rfl (lv_at hl 2 rfl) ?_
    refine lv_aload_n hx hb d_X_countFreeBlocks_5 rfl (lv_at hl 0 rfl) ?_
    refine va_get (D := x_D G) (ci := 0) (v := .ref (x_ad G 1)) (C := "ContentLibrary") (T := x_TX) (N := 9) hx hb hts x_inX hown hK hP 0 (x_lk_X G _) rfl 0 (by decide) (hts _ t_130) (fun _ h9 => h9) rfl d_X_countFreeBlocks_6 ?_
    refine va_get (D := x_D G) (ci := 1) (v := .int (z0.1 1 0)) (C := "ContentLibrary$Blocks") (T := x_TB) (N := 5) hx hb hts x_inB hown hK hP 1 (x_lk_B G _) rfl 0 (by decide) (hts _ t_40) (fun _ h9 => h9) rfl d_X_countFreeBlocks_9 ?_
    refine lv_icmp_ge (tgt := 38) hx hb d_X_countFreeBlocks_12 (by decide) (fun hc1 => ?_) (fun hc1 => ?_)
    · have hf := x_br_t hf hc1
      exact w_X_countFreeBlocks_38 l G C0 r zo a1 z0 hf _ _ _ hP hD hS (lv_sub hl [1] rfl)
    · have hf := x_br_f hf hc1
      refine lv_iload_n hx hb d_X_countFreeBlocks_15 rfl (lv_at hl 1 rfl) ?_
      refine lv_aload_n hx hb d_X_countFreeBlocks_16 rfl (lv_at hl 0 rfl) ?_
      refine va_get (D := x_D G) (ci := 0) (v := .ref (x_ad G 4)) (C := "ContentLibrary") (T := x_TX) (N := 9) hx hb hts x_inX hown hK hP 0 (x_lk_X G _) rfl 1 (by decide) (hts _ t_131) (fun _ h9 => h9) rfl d_X_countFreeBlocks_17 ?_
      refine lv_iload_n hx hb d_X_countFreeBlocks_20 rfl (lv_at hl 2 rfl) ?_
      obtain ⟨hin2, hf⟩ := x_ck_some hf
      refine va_zald hx hb hK hP 4 1 (x_lk_Z G _) rfl hin2 d_X_countFreeBlocks_21 ?_
      refine lv_if_eq (tgt := 29) hx hb d_X_countFreeBlocks_22 (by decide) (fun hc3 => ?_) (fun hc3 => ?_)
      · have hf := x_br_t hf hc3
        refine lv_iconst (v := (1 : Int32)) hx hb d_X_countFreeBlocks_29 (by decide) ?_
        refine lv_iadd hx hb d_X_countFreeBlocks_30 ?_
        refine lv_istore_n (lv' := [(1, .int (a1 + (1 : Int32))), (0, .ref (x_ad G 0)), (2, .int a2)]) hx hb d_X_countFreeBlocks_31 rfl hl (by decide) rfl (fun ls hl => ?_)
        refine lv_iinc (v := (a2 + (1 : Int32))) (lv' := [(2, .int (a2 + (1 : Int32))), (1, .int (a1 + (1 : Int32))), (0, .ref (x_ad G 0))]) hx hb d_X_countFreeBlocks_32 hl (k := 2) rfl rfl (by decide) rfl (fun ls hl => ?_)
        refine lv_goto (tgt := 4) hx hb d_X_countFreeBlocks_35 (by decide) ?_
        exact ih (a1 + (1 : Int32)) (a2 + (1 : Int32)) z0 hf _ _ _ hP hD hS (lv_sub hl [2, 1, 0] rfl)
      · have hf := x_br_f hf hc3
        refine lv_iconst (v := (0 : Int32)) hx hb d_X_countFreeBlocks_25 (by decide) ?_
        refine lv_goto (tgt := 30) hx hb d_X_countFreeBlocks_26 (by decide) ?_
        refine lv_iadd hx hb d_X_countFreeBlocks_30 ?_
        refine lv_istore_n (lv' := [(1, .int (a1 + (0 : Int32))), (0, .ref (x_ad G 0)), (2, .int a2)]) hx hb d_X_countFreeBlocks_31 rfl hl (by decide) rfl (fun ls hl => ?_)
        refine lv_iinc (v := (a2 + (1 : Int32))) (lv' := [(2, .int (a2 + (1 : Int32))), (1, .int (a1 + (0 : Int32))), (0, .ref (x_ad G 0))]) hx hb d_X_countFreeBlocks_32 hl (k := 2) rfl rfl (by decide) rfl (fun ls hl => ?_)
        refine lv_goto (tgt := 4) hx hb d_X_countFreeBlocks_35 (by decide) ?_
        exact ih (a1 + (0 : Int32)) (a2 + (1 : Int32)) z0 hf _ _ _ hP hD hS (lv_sub hl [2, 1, 0] rfl)
set_option maxHeartbeats 4000000 in
set_option maxRecDepth 100000 in
theorem c_X_countFreeBlocks (l : Launch) (G : x_G)  (z0 : x_St) (r : Int32) (zo : x_St) (hf : f_X_countFreeBlocks (x_n G)  z0 = some (r, zo)) : Met l (⟨"ContentLibrary", "countFreeBlocks", "()I"⟩ : MethodName) (x_ws (⟨"ContentLibrary", "countFreeBlocks", "()I"⟩ : MethodName) prog_1_method_35_code 3 (some .int)) rm_X_countFreeBlocks (va_Pc [.ref (x_ad G 0)] (x_PW G z0)) (va_Qi (fun a u => r = a ∧ zo = u) (x_PW G) (x_A G)) 0 0 (x_A G) := by
  refine Met.ofW (cc := prog_1_method_35_code) (maxL := 3) (ret := (some .int)) (by decide) rfl ?_
  intro p e s m args below meth c s₁ B hml hv
  obtain ⟨rfl, hz, hP, hD, hK, hG⟩ := hv
  have C0 : x_Ctx G p s m _ meth c prog_1_method_35_code "ContentLibrary" 3 (some .int) := ⟨B.exec, B.bytes, B.returns, hml, findClass_of_methodNamed B.named, fun w h => atoms_spec (ws := (x_ws (⟨"ContentLibrary", "countFreeBlocks", "()I"⟩ : MethodName) prog_1_method_35_code 3 (some .int))) B.pre w (List.mem_cons_of_mem _ h), B.notSynchronized, hz, hK, hG⟩
  obtain ⟨hx, hb, hr, hml, hown, hts, hlocks, hz, hK, hG⟩ := id C0
  have hS : va_S (x_A G) s.heap s.heap [] := va_S.rf
  have hl := lv_entry ([.ref (x_ad G 0)]) (n := 3) (Nat.le_of_ble_eq_true rfl)
  rw [lg_entry_eq]
  generalize (lg_sl ([.ref (x_ad G 0)]) ++ List.replicate (3 - (lg_sl ([.ref (x_ad G 0)])).length) Slot.unset).toArray = ls at hl ⊢
  have hl : lv_has ls 3 [(0, .ref (x_ad G 0))] := hl
  rw [f_X_countFreeBlocks] at hf
  refine lv_iconst (v := (0 : Int32)) hx hb d_X_countFreeBlocks_0 (by decide) ?_
  refine lv_istore_n (lv' := [(1, .int (0 : Int32)), (0, .ref (x_ad G 0))]) hx hb d_X_countFreeBlocks_1 rfl hl (by decide) rfl (fun ls hl => ?_)
  refine lv_iconst (v := (0 : Int32)) hx hb d_X_countFreeBlocks_2 (by decide) ?_
  refine lv_istore_n (lv' := [(2, .int (0 : Int32)), (1, .int (0 : Int32)), (0, .ref (x_ad G 0))]) hx hb d_X_countFreeBlocks_3 rfl hl (by decide) rfl (fun ls hl => ?_)
  exact w_X_countFreeBlocks_4 l G C0 r zo x_FU (0 : Int32) (0 : Int32) z0 hf _ _ _ hP hD hS (lv_sub hl [2, 1, 0] rfl)
abbrev rm_X_countMade : Room := { frames := 0, cells := 0, slots := 0, locals := 0 }
set_option maxHeartbeats 4000000 in
set_option maxRecDepth 100000 in
theorem w_X_countMade_36 (l : Launch) (G : x_G) {p : Program} {e : Env} {s : State} {m : MethodId} {args : Array Value} {below : List Frame} {meth : Method} {c : Code} (C0 : x_Ctx G p s m args meth c prog_1_method_37_code "ContentLibrary" 3 (some .int)) (r : Int32) (zo : x_St) : ∀ (a1 : Int32) (z0 : x_St), f_X_countMade_36 (x_n G) a1 z0 = some (r, zo) → ∀ (H : Heap) (locs : List Loc) (ls : Array Slot), va_P (x_D G) vwCl (x_Wd G z0) H → va_D (x_A G) (x_Wd G z0) → va_S (x_A G) s.heap H locs → lv_has ls 3 [(1, .int a1)] → W p l e rm_X_countMade s m args below meth c H locs 0 0 (MQ below (va_Qi (fun a u => r = a ∧ zo = u) (x_PW G) (x_A G)) args s 0 0 (x_A G)) (F0 m 36 ls []) := by
  obtain ⟨hx, hb, hr, hml, hown, hts, hlocks, hz, hK, hG⟩ := id C0
  intro a1 z0 hf H locs ls hP hD hS hl
  rw [f_X_countMade_36] at hf
  refine lv_iload_n hx hb d_X_countMade_36 rfl (lv_at hl 0 rfl) ?_
  obtain ⟨rfl, rfl⟩ := x_ret hf
  exact W.iret (v := a1) hx hb hr (fun t ht hW => ⟨⟨_, _, rfl, ⟨rfl, rfl⟩, x_pw hP hD hK hG hS hz ht hW⟩, hS.F ht⟩) hS.2.2 d_X_countMade_37
set_option maxHeartbeats 4000000 in
set_option maxRecDepth 100000 in
theorem w_X_countMade_4 (l : Launch) (G : x_G) {p : Program} {e : Env} {s : State} {m : MethodId} {args : Array Value} {below : List Frame} {meth : Method} {c : Code} (C0 : x_Ctx G p s m args meth c prog_1_method_37_code "ContentLibrary" 3 (some .int)) (r : Int32) (zo : x_St) : ∀ (fu : Nat), ∀ (a1 : Int32) (a2 : Int32) (z0 : x_St), f_X_countMade_4 (x_n G) fu a1 a2 z0 = some (r, zo) → ∀ (H : Heap) (locs : List Loc) (ls : Array Slot), va_P (x_D G) vwCl (x_Wd G z0) H → va_D (x_A G) (x_Wd G z0) → va_S (x_A G) s.heap H locs → lv_has ls 3 [(0, .ref (x_ad G 0)), (1, .int a1), (2, .int a2)] → W p l e rm_X_countMade s m args below meth c H locs 0 0 (MQ below (va_Qi (fun a u => r = a ∧ zo = u) (x_PW G) (x_A G)) args s 0 0 (x_A G)) (F0 m 4 ls []) := by
  obtain ⟨hx, hb, hr, hml, hown, hts, hlocks, hz, hK, hG⟩ := id C0
  intro fu
  induction fu with
  | zero =>
    intro a1 a2 z0 hf
    rw [f_X_countMade_4] at hf
    cases hf
  | succ fu ih =>
    intro a1 a2 z0 hf H locs ls hP hD hS hl
    rw [f_X_countMade_4] at hf
    refine lv_iload_n hx hb d_X_countMade_4 rfl (lv_at hl 2 rfl) ?_
    refine lv_bipush (v := (8 : Int32)) hx hb d_X_countMade_5 (by decide) ?_
    refine lv_icmp_ge (tgt := 36) hx hb d_X_countMade_7 (by decide) (fun hc1 => ?_) (fun hc1 => ?_)
    · have hf := x_br_t hf hc1
      exact w_X_countMade_36 l G C0 r zo a1 z0 hf _ _ _ hP hD hS (lv_sub hl [1] rfl)
    · have hf := x_br_f hf hc1
      refine lv_iload_n hx hb d_X_countMade_10 rfl (lv_at hl 1 rfl) ?_
      refine lv_aload_n hx hb d_X_countMade_11 rfl (lv_at hl 0 rfl) ?_
      refine va_get (D := x_D G) (ci := 0) (v := .ref (x_ad G 5)) (C := "ContentLibrary") (T := x_TX) (N := 9) hx hb hts x_inX hown hK hP 0 (x_lk_X G _) rfl 2 (by decide) (hts _ t_132) (fun _ h9 => h9) rfl d_X_countMade_12 ?_
      refine lv_iload_n hx hb d_X_countMade_15 rfl (lv_at hl 2 rfl) ?_
      obtain ⟨hin2, hf⟩ := x_ck_some hf
      refine va_aldq hx hb hK hP 5 2 (x_lk_made G _) rfl hin2 d_X_countMade_16 ?_
      refine W.eq (g2 := F0 m 17 ls [.ref (x_ad G (6 + 2 * (a2).toNatClampNeg)), .int a1]) rfl ?_
      refine va_get (D := x_D G) (ci := 2) (v := .int (z0.1 (6 + 2 * (a2).toNatClampNeg) 0)) (C := "ContentLibrary$Picture") (T := x_TP) (N := 3) hx hb hts x_inP hown hK hP (6 + 2 * (a2).toNatClampNeg) (x_lk_P G _ (x_el_P hin2)) rfl 0 (by decide) (hts _ t_67) (fun _ h9 => h9) rfl d_X_countMade_17 ?_
      refine lv_if_eq (tgt := 27) hx hb d_X_countMade_20 (by decide) (fun hc3 => ?_) (fun hc3 => ?_)
      · have hf := x_br_t hf hc3
        refine lv_iconst (v := (0 : Int32)) hx hb d_X_countMade_27 (by decide) ?_
        refine lv_iadd hx hb d_X_countMade_28 ?_
        refine lv_istore_n (lv' := [(1, .int (a1 + (0 : Int32))), (0, .ref (x_ad G 0)), (2, .int a2)]) hx hb d_X_countMade_29 rfl hl (by decide) rfl (fun ls hl => ?_)
        refine lv_iinc (v := (a2 + (1 : Int32))) (lv' := [(2, .int (a2 + (1 : Int32))), (1, .int (a1 + (0 : Int32))), (0, .ref (x_ad G 0))]) hx hb d_X_countMade_30 hl (k := 2) rfl rfl (by decide) rfl (fun ls hl => ?_)
        refine lv_goto (tgt := 4) hx hb d_X_countMade_33 (by decide) ?_
        exact ih (a1 + (0 : Int32)) (a2 + (1 : Int32)) z0 hf _ _ _ hP hD hS (lv_sub hl [2, 1, 0] rfl)
      · have hf := x_br_f hf hc3
        refine lv_iconst (v := (1 : Int32)) hx hb d_X_countMade_23 (by decide) ?_
        refine lv_goto (tgt := 28) hx hb d_X_countMade_24 (by decide) ?_
        refine lv_iadd hx hb d_X_countMade_28 ?_
        refine lv_istore_n (lv' := [(1, .int (a1 + (1 : Int32))), (0, .ref (x_ad G 0)), (2, .int a2)]) hx hb d_X_countMade_29 rfl hl (by decide) rfl (fun ls hl => ?_)
        refine lv_iinc (v := (a2 + (1 : Int32))) (lv' := [(2, .int (a2 + (1 : Int32))), (1, .int (a1 + (1 : Int32))), (0, .ref (x_ad G 0))]) hx hb d_X_countMade_30 hl (k := 2) rfl rfl (by decide) rfl (fun ls hl => ?_)
        refine lv_goto (tgt := 4) hx hb d_X_countMade_33 (by decide) ?_
        exact ih (a1 + (1 : Int32)) (a2 + (1 : Int32)) z0 hf _ _ _ hP hD hS (lv_sub hl [2, 1, 0] rfl)
set_option maxHeartbeats 4000000 in
set_option maxRecDepth 100000 in
theorem c_X_countMade (l : Launch) (G : x_G)  (z0 : x_St) (r : Int32) (zo : x_St) (hf : f_X_countMade (x_n G)  z0 = some (r, zo)) : Met l (⟨"ContentLibrary", "countMade", "()I"⟩ : MethodName) (x_ws (⟨"ContentLibrary", "countMade", "()I"⟩ : MethodName) prog_1_method_37_code 3 (some .int)) rm_X_countMade (va_Pc [.ref (x_ad G 0)] (x_PW G z0)) (va_Qi (fun a u => r = a ∧ zo = u) (x_PW G) (x_A G)) 0 0 (x_A G) := by
  refine Met.ofW (cc := prog_1_method_37_code) (maxL := 3) (ret := (some .int)) (by decide) rfl ?_
  intro p e s m args below meth c s₁ B hml hv
  obtain ⟨rfl, hz, hP, hD, hK, hG⟩ := hv
  have C0 : x_Ctx G p s m _ meth c prog_1_method_37_code "ContentLibrary" 3 (some .int) := ⟨B.exec, B.bytes, B.returns, hml, findClass_of_methodNamed B.named, fun w h => atoms_spec (ws := (x_ws (⟨"ContentLibrary", "countMade", "()I"⟩ : MethodName) prog_1_method_37_code 3 (some .int))) B.pre w (List.mem_cons_of_mem _ h), B.notSynchronized, hz, hK, hG⟩
  obtain ⟨hx, hb, hr, hml, hown, hts, hlocks, hz, hK, hG⟩ := id C0
  have hS : va_S (x_A G) s.heap s.heap [] := va_S.rf
  have hl := lv_entry ([.ref (x_ad G 0)]) (n := 3) (Nat.le_of_ble_eq_true rfl)
  rw [lg_entry_eq]
  generalize (lg_sl ([.ref (x_ad G 0)]) ++ List.replicate (3 - (lg_sl ([.ref (x_ad G 0)])).length) Slot.unset).toArray = ls at hl ⊢
  have hl : lv_has ls 3 [(0, .ref (x_ad G 0))] := hl
  rw [f_X_countMade] at hf
  refine lv_iconst (v := (0 : Int32)) hx hb d_X_countMade_0 (by decide) ?_
  refine lv_istore_n (lv' := [(1, .int (0 : Int32)), (0, .ref (x_ad G 0))]) hx hb d_X_countMade_1 rfl hl (by decide) rfl (fun ls hl => ?_)
  refine lv_iconst (v := (0 : Int32)) hx hb d_X_countMade_2 (by decide) ?_
  refine lv_istore_n (lv' := [(2, .int (0 : Int32)), (1, .int (0 : Int32)), (0, .ref (x_ad G 0))]) hx hb d_X_countMade_3 rfl hl (by decide) rfl (fun ls hl => ?_)
  exact w_X_countMade_4 l G C0 r zo x_FU (0 : Int32) (0 : Int32) z0 hf _ _ _ hP hD hS (lv_sub hl [2, 1, 0] rfl)
abbrev rm_X_freeNumber : Room := { frames := 0, cells := 0, slots := 0, locals := 0 }
set_option maxHeartbeats 4000000 in
set_option maxRecDepth 100000 in
theorem w_X_freeNumber_20 (l : Launch) (G : x_G) {p : Program} {e : Env} {s : State} {m : MethodId} {args : Array Value} {below : List Frame} {meth : Method} {c : Code} (C0 : x_Ctx G p s m args meth c prog_1_method_24_code "ContentLibrary" 2 (some .int)) (r : Int32) (zo : x_St) : ∀ (a1 : Int32) (z0 : x_St), f_X_freeNumber_20 (x_n G) a1 z0 = some (r, zo) → ∀ (H : Heap) (locs : List Loc) (ls : Array Slot), va_P (x_D G) vwCl (x_Wd G z0) H → va_D (x_A G) (x_Wd G z0) → va_S (x_A G) s.heap H locs → lv_has ls 2 [(1, .int a1)] → W p l e rm_X_freeNumber s m args below meth c H locs 0 0 (MQ below (va_Qi (fun a u => r = a ∧ zo = u) (x_PW G) (x_A G)) args s 0 0 (x_A G)) (F0 m 20 ls []) := by
  obtain ⟨hx, hb, hr, hml, hown, hts, hlocks, hz, hK, hG⟩ := id C0
  intro a1 z0 hf H locs ls hP hD hS hl
  rw [f_X_freeNumber_20] at hf
  refine lv_iload_n hx hb d_X_freeNumber_20 rfl (lv_at hl 0 rfl) ?_
  obtain ⟨rfl, rfl⟩ := x_ret hf
  exact W.iret (v := a1) hx hb hr (fun t ht hW => ⟨⟨_, _, rfl, ⟨rfl, rfl⟩, x_pw hP hD hK hG hS hz ht hW⟩, hS.F ht⟩) hS.2.2 d_X_freeNumber_21
set_option maxHeartbeats 4000000 in
set_option maxRecDepth 100000 in
theorem w_X_freeNumber_2 (l : Launch) (G : x_G) {p : Program} {e : Env} {s : State} {m : MethodId} {args : Array Value} {below : List Frame} {meth : Method} {c : Code} (C0 : x_Ctx G p s m args meth c prog_1_method_24_code "ContentLibrary" 2 (some .int)) (r : Int32) (zo : x_St) : ∀ (fu : Nat), ∀ (a1 : Int32) (z0 : x_St), f_X_freeNumber_2 (x_n G) fu a1 z0 = some (r, zo) → ∀ (H : Heap) (locs : List Loc) (ls : Array Slot), va_P (x_D G) vwCl (x_Wd G z0) H → va_D (x_A G) (x_Wd G z0) → va_S (x_A G) s.heap H locs → lv_has ls 2 [(0, .ref (x_ad G 0)), (1, .int a1)] → W p l e rm_X_freeNumber s m args below meth c H locs 0 0 (MQ below (va_Qi (fun a u => r = a ∧ zo = u) (x_PW G) (x_A G)) args s 0 0 (x_A G)) (F0 m 2 ls []) := by
  obtain ⟨hx, hb, hr, hml, hown, hts, hlocks, hz, hK, hG⟩ := id C0
  intro fu
  induction fu with
  | zero =>
    intro a1 z0 hf
    rw [f_X_freeNumber_2] at hf
    cases hf
  | succ fu ih =>
    intro a1 z0 hf H locs ls hP hD hS hl
    rw [f_X_freeNumber_2] at hf
    refine lv_iload_n hx hb d_X_freeNumber_2 rfl (lv_at hl 1 rfl) ?_
    refine lv_bipush (v := (16 : Int32)) hx hb d_X_freeNumber_3 (by decide) ?_
    refine lv_icmp_ge (tgt := 28) hx hb d_X_freeNumber_5 (by decide) (fun hc1 => ?_) (fun hc1 => ?_)
    · have hf := x_br_t hf hc1
      refine lv_iconst (v := (-1 : Int32)) hx hb d_X_freeNumber_28 (by decide) ?_
      obtain ⟨rfl, rfl⟩ := x_ret hf
      exact W.iret (v := (-1 : Int32)) hx hb hr (fun t ht hW => ⟨⟨_, _, rfl, ⟨rfl, rfl⟩, x_pw hP hD hK hG hS hz ht hW⟩, hS.F ht⟩) hS.2.2 d_X_freeNumber_29
    · have hf := x_br_f hf hc1
      refine lv_aload_n hx hb d_X_freeNumber_8 rfl (lv_at hl 0 rfl) ?_
      refine va_get (D := x_D G) (ci := 0) (v := .ref (x_ad G 22)) (C := "ContentLibrary") (T := x_TX) (N := 9) hx hb hts x_inX hown hK hP 0 (x_lk_X G _) rfl 3 (by decide) (hts _ t_133) (fun _ h9 => h9) rfl d_X_freeNumber_9 ?_
      refine lv_iload_n hx hb d_X_freeNumber_12 rfl (lv_at hl 1 rfl) ?_
      obtain ⟨hin2, hf⟩ := x_ck_some hf
      refine va_aldq hx hb hK hP 22 3 (x_lk_kept G _) rfl hin2 d_X_freeNumber_13 ?_
      refine W.eq (g2 := F0 m 14 ls [.ref (x_ad G (23 + 5 * (a1).toNatClampNeg))]) rfl ?_
      refine va_get (D := x_D G) (ci := 3) (v := .int (z0.1 (23 + 5 * (a1).toNatClampNeg) 0)) (C := "ContentLibrary$Kept") (T := x_TK) (N := 6) hx hb hts x_inK hown hK hP (23 + 5 * (a1).toNatClampNeg) (x_lk_K G _ (x_el_K hin2)) rfl 0 (by decide) (hts _ t_90) (fun _ h9 => h9) rfl d_X_freeNumber_14 ?_
      refine lv_if_ne (tgt := 22) hx hb d_X_freeNumber_17 (by decide) (fun hc3 => ?_) (fun hc3 => ?_)
      · have hf := x_br_f hf hc3
        refine lv_iinc (v := (a1 + (1 : Int32))) (lv' := [(1, .int (a1 + (1 : Int32))), (0, .ref (x_ad G 0))]) hx hb d_X_freeNumber_22 hl (k := 1) rfl rfl (by decide) rfl (fun ls hl => ?_)
        refine lv_goto (tgt := 2) hx hb d_X_freeNumber_25 (by decide) ?_
        exact ih (a1 + (1 : Int32)) z0 hf _ _ _ hP hD hS (lv_sub hl [1, 0] rfl)
      · have hf := x_br_t hf hc3
        exact w_X_freeNumber_20 l G C0 r zo a1 z0 hf _ _ _ hP hD hS (lv_sub hl [1] rfl)
set_option maxHeartbeats 4000000 in
set_option maxRecDepth 100000 in
theorem c_X_freeNumber (l : Launch) (G : x_G)  (z0 : x_St) (r : Int32) (zo : x_St) (hf : f_X_freeNumber (x_n G)  z0 = some (r, zo)) : Met l (⟨"ContentLibrary", "freeNumber", "()I"⟩ : MethodName) (x_ws (⟨"ContentLibrary", "freeNumber", "()I"⟩ : MethodName) prog_1_method_24_code 2 (some .int)) rm_X_freeNumber (va_Pc [.ref (x_ad G 0)] (x_PW G z0)) (va_Qi (fun a u => r = a ∧ zo = u) (x_PW G) (x_A G)) 0 0 (x_A G) := by
  refine Met.ofW (cc := prog_1_method_24_code) (maxL := 2) (ret := (some .int)) (by decide) rfl ?_
  intro p e s m args below meth c s₁ B hml hv
  obtain ⟨rfl, hz, hP, hD, hK, hG⟩ := hv
  have C0 : x_Ctx G p s m _ meth c prog_1_method_24_code "ContentLibrary" 2 (some .int) := ⟨B.exec, B.bytes, B.returns, hml, findClass_of_methodNamed B.named, fun w h => atoms_spec (ws := (x_ws (⟨"ContentLibrary", "freeNumber", "()I"⟩ : MethodName) prog_1_method_24_code 2 (some .int))) B.pre w (List.mem_cons_of_mem _ h), B.notSynchronized, hz, hK, hG⟩
  obtain ⟨hx, hb, hr, hml, hown, hts, hlocks, hz, hK, hG⟩ := id C0
  have hS : va_S (x_A G) s.heap s.heap [] := va_S.rf
  have hl := lv_entry ([.ref (x_ad G 0)]) (n := 2) (Nat.le_of_ble_eq_true rfl)
  rw [lg_entry_eq]
  generalize (lg_sl ([.ref (x_ad G 0)]) ++ List.replicate (2 - (lg_sl ([.ref (x_ad G 0)])).length) Slot.unset).toArray = ls at hl ⊢
  have hl : lv_has ls 2 [(0, .ref (x_ad G 0))] := hl
  rw [f_X_freeNumber] at hf
  refine lv_iconst (v := (0 : Int32)) hx hb d_X_freeNumber_0 (by decide) ?_
  refine lv_istore_n (lv' := [(1, .int (0 : Int32)), (0, .ref (x_ad G 0))]) hx hb d_X_freeNumber_1 rfl hl (by decide) rfl (fun ls hl => ?_)
  exact w_X_freeNumber_2 l G C0 r zo x_FU (0 : Int32) z0 hf _ _ _ hP hD hS (lv_sub hl [1, 0] rfl)
abbrev rm_X_choosePlaces : Room := { frames := 0, cells := 0, slots := 0, locals := 0 }
set_option maxHeartbeats 4000000 in
set_option maxRecDepth 100000 in
theorem w_X_choosePlaces_49 (l : Launch) (G : x_G) {p : Program} {e : Env} {s : State} {m : MethodId} {args : Array Value} {below : List Frame} {meth : Method} {c : Code} (C0 : x_Ctx G p s m args meth c prog_1_method_25_code "ContentLibrary" 5 (some .boolean)) (r : Int32) (zo : x_St) : ∀ (a2 : Int32) (a3 : Int32) (z0 : x_St), f_X_choosePlaces_49 (x_n G) a2 a3 z0 = some (r, zo) → ∀ (H : Heap) (locs : List Loc) (ls : Array Slot), va_P (x_D G) vwCl (x_Wd G z0) H → va_D (x_A G) (x_Wd G z0) → va_S (x_A G) s.heap H locs → lv_has ls 5 [(2, .int a2), (3, .int a3)] → W p l e rm_X_choosePlaces s m args below meth c H locs 0 0 (MQ below (va_Qi (fun a u => r = a ∧ zo = u) (x_PW G) (x_A G)) args s 0 0 (x_A G)) (F0 m 49 ls []) := by
  obtain ⟨hx, hb, hr, hml, hown, hts, hlocks, hz, hK, hG⟩ := id C0
  intro a2 a3 z0 hf H locs ls hP hD hS hl
  rw [f_X_choosePlaces_49] at hf
  refine lv_iload_n hx hb d_X_choosePlaces_49 rfl (lv_at hl 1 rfl) ?_
  refine lv_iload_n hx hb d_X_choosePlaces_50 rfl (lv_at hl 0 rfl) ?_
  refine lv_icmp_le (tgt := 58) hx hb d_X_choosePlaces_51 (by decide) (fun hc1 => ?_) (fun hc1 => ?_)
  · have hf := x_br_t hf hc1
    refine lv_iconst (v := (0 : Int32)) hx hb d_X_choosePlaces_58 (by decide) ?_
    obtain ⟨rfl, rfl⟩ := x_ret hf
    exact W.zret (v := (0 : Int32)) hx hb hr rfl (fun t ht hW => ⟨⟨_, _, rfl, ⟨rfl, rfl⟩, x_pw hP hD hK hG hS hz ht hW⟩, hS.F ht⟩) hS.2.2 d_X_choosePlaces_59
  · have hf := x_br_f hf hc1
    refine lv_iconst (v := (1 : Int32)) hx hb d_X_choosePlaces_54 (by decide) ?_
    refine lv_goto (tgt := 59) hx hb d_X_choosePlaces_55 (by decide) ?_
    obtain ⟨rfl, rfl⟩ := x_ret hf
    exact W.zret (v := (1 : Int32)) hx hb hr rfl (fun t ht hW => ⟨⟨_, _, rfl, ⟨rfl, rfl⟩, x_pw hP hD hK hG hS hz ht hW⟩, hS.F ht⟩) hS.2.2 d_X_choosePlaces_59
set_option maxHeartbeats 4000000 in
set_option maxRecDepth 100000 in
theorem w_X_choosePlaces_5 (l : Launch) (G : x_G) {p : Program} {e : Env} {s : State} {m : MethodId} {args : Array Value} {below : List Frame} {meth : Method} {c : Code} (C0 : x_Ctx G p s m args meth c prog_1_method_25_code "ContentLibrary" 5 (some .boolean)) (r : Int32) (zo : x_St) : ∀ (fu : Nat), ∀ (a1 : Nat) (ha1 : x_isK a1 = true) (a2 : Int32) (a3 : Int32) (a4 : Int32) (z0 : x_St), f_X_choosePlaces_5 (x_n G) fu a1 a2 a3 a4 z0 = some (r, zo) → ∀ (H : Heap) (locs : List Loc) (ls : Array Slot), va_P (x_D G) vwCl (x_Wd G z0) H → va_D (x_A G) (x_Wd G z0) → va_S (x_A G) s.heap H locs → lv_has ls 5 [(0, .ref (x_ad G 0)), (1, .ref (x_ad G a1)), (2, .int a2), (3, .int a3), (4, .int a4)] → W p l e rm_X_choosePlaces s m args below meth c H locs 0 0 (MQ below (va_Qi (fun a u => r = a ∧ zo = u) (x_PW G) (x_A G)) args s 0 0 (x_A G)) (F0 m 5 ls []) := by
  obtain ⟨hx, hb, hr, hml, hown, hts, hlocks, hz, hK, hG⟩ := id C0
  intro fu
  induction fu with
  | zero =>
    intro a1 ha1 a2 a3 a4 z0 hf
    rw [f_X_choosePlaces_5] at hf
    cases hf
  | succ fu ih =>
    intro a1 ha1 a2 a3 a4 z0 hf H locs ls hP hD hS hl
    rw [f_X_choosePlaces_5] at hf
    refine lv_iload hx hb d_X_choosePlaces_5 (lv_at hl 4 rfl) ?_
    refine lv_aload_n hx hb d_X_choosePlaces_7 rfl (lv_at hl 0 rfl) ?_
    refine va_get (D := x_D G) (ci := 0) (v := .ref (x_ad G 1)) (C := "ContentLibrary") (T := x_TX) (N := 9) hx hb hts x_inX hown hK hP 0 (x_lk_X G _) rfl 0 (by decide) (hts _ t_130) (fun _ h9 => h9) rfl d_X_choosePlaces_8 ?_
    refine va_get (D := x_D G) (ci := 1) (v := .int (z0.1 1 0)) (C := "ContentLibrary$Blocks") (T := x_TB) (N := 5) hx hb hts x_inB hown hK hP 1 (x_lk_B G _) rfl 0 (by decide) (hts _ t_40) (fun _ h9 => h9) rfl d_X_choosePlaces_11 ?_
    refine lv_icmp_ge (tgt := 49) hx hb d_X_choosePlaces_14 (by decide) (fun hc2 => ?_) (fun hc2 => ?_)
    · have hf := x_br_t hf hc2
      exact w_X_choosePlaces_49 l G C0 r zo a2 a3 z0 hf _ _ _ hP hD hS (lv_sub hl [2, 3] rfl)
    · have hf := x_br_f hf hc2
      refine lv_iload_n hx hb d_X_choosePlaces_17 rfl (lv_at hl 3 rfl) ?_
      refine lv_iload_n hx hb d_X_choosePlaces_18 rfl (lv_at hl 2 rfl) ?_
      refine lv_icmp_gt (tgt := 49) hx hb d_X_choosePlaces_19 (by decide) (fun hc3 => ?_) (fun hc3 => ?_)
      · have hf := x_br_t hf hc3
        exact w_X_choosePlaces_49 l G C0 r zo a2 a3 z0 hf _ _ _ hP hD hS (lv_sub hl [2, 3] rfl)
      · have hf := x_br_f hf hc3
        refine lv_aload_n hx hb d_X_choosePlaces_22 rfl (lv_at hl 0 rfl) ?_
        refine va_get (D := x_D G) (ci := 0) (v := .ref (x_ad G 4)) (C := "ContentLibrary") (T := x_TX) (N := 9) hx hb hts x_inX hown hK hP 0 (x_lk_X G _) rfl 1 (by decide) (hts _ t_131) (fun _ h9 => h9) rfl d_X_choosePlaces_23 ?_
        refine lv_iload hx hb d_X_choosePlaces_26 (lv_at hl 4 rfl) ?_
        obtain ⟨hin4, hf⟩ := x_ck_some hf
        refine va_zald hx hb hK hP 4 1 (x_lk_Z G _) rfl hin4 d_X_choosePlaces_28 ?_
        refine lv_if_ne (tgt := 43) hx hb d_X_choosePlaces_29 (by decide) (fun hc5 => ?_) (fun hc5 => ?_)
        · have hf := x_br_f hf hc5
          refine lv_iinc (v := (a4 + (1 : Int32))) (lv' := [(4, .int (a4 + (1 : Int32))), (0, .ref (x_ad G 0)), (1, .ref (x_ad G a1)), (2, .int a2), (3, .int a3)]) hx hb d_X_choosePlaces_43 hl (k := 4) rfl rfl (by decide) rfl (fun ls hl => ?_)
          refine lv_goto (tgt := 5) hx hb d_X_choosePlaces_46 (by decide) ?_
          exact ih a1 ha1 a2 a3 (a4 + (1 : Int32)) z0 hf _ _ _ hP hD hS (lv_sub hl [1, 2, 3, 4, 0] rfl)
        · have hf := x_br_t hf hc5
          refine lv_aload_n hx hb d_X_choosePlaces_32 rfl (lv_at hl 1 rfl) ?_
          refine va_get (D := x_D G) (ci := 3) (v := .ref (x_ad G (a1 + 4))) (C := "ContentLibrary$Kept") (T := x_TK) (N := 6) hx hb hts x_inK hown hK hP a1 (x_lk_K G _ ha1) rfl 5 (by decide) (hts _ t_100) (fun _ h9 => h9) rfl d_X_choosePlaces_33 ?_
          refine lv_iload_n hx hb d_X_choosePlaces_36 rfl (lv_at hl 3 rfl) ?_
          refine lv_iload hx hb d_X_choosePlaces_37 (lv_at hl 4 rfl) ?_
          obtain ⟨hin6, hf⟩ := x_ck_some hf
          refine va_iast hx hb hK hP hD hS (a1 + 4) 0 (x_lk_A G _ (x_K_A4 ha1)) rfl hin6 d_X_choosePlaces_39 (fun H locs hP hD hS => ?_)
          rw [x_st_A G _ (x_K_A4 ha1)] at hP hD
          refine lv_iinc (v := (a3 + (1 : Int32))) (lv' := [(3, .int (a3 + (1 : Int32))), (0, .ref (x_ad G 0)), (1, .ref (x_ad G a1)), (2, .int a2), (4, .int a4)]) hx hb d_X_choosePlaces_40 hl (k := 3) rfl rfl (by decide) rfl (fun ls hl => ?_)
          refine lv_iinc (v := (a4 + (1 : Int32))) (lv' := [(4, .int (a4 + (1 : Int32))), (3, .int (a3 + (1 : Int32))), (0, .ref (x_ad G 0)), (1, .ref (x_ad G a1)), (2, .int a2)]) hx hb d_X_choosePlaces_43 hl (k := 4) rfl rfl (by decide) rfl (fun ls hl => ?_)
          refine lv_goto (tgt := 5) hx hb d_X_choosePlaces_46 (by decide) ?_
          exact ih a1 ha1 a2 (a3 + (1 : Int32)) (a4 + (1 : Int32)) (x_put z0 (a1 + 4) (a3).toNatClampNeg a4) hf _ _ _ hP hD hS (lv_sub hl [2, 3, 4, 1, 0] rfl)
set_option maxHeartbeats 4000000 in
set_option maxRecDepth 100000 in
theorem c_X_choosePlaces (l : Launch) (G : x_G) (k1 : Nat) (hk1 : x_isK k1 = true) (p2 : Int32) (z0 : x_St) (r : Int32) (zo : x_St) (hf : f_X_choosePlaces (x_n G) k1 p2 z0 = some (r, zo)) : Met l (⟨"ContentLibrary", "choosePlaces", "(LContentLibrary$Kept;I)Z"⟩ : MethodName) (x_ws (⟨"ContentLibrary", "choosePlaces", "(LContentLibrary$Kept;I)Z"⟩ : MethodName) prog_1_method_25_code 5 (some .boolean)) rm_X_choosePlaces (va_Pc [.ref (x_ad G 0), .ref (x_ad G k1), .int p2] (x_PW G z0)) (va_Qi (fun a u => r = a ∧ zo = u) (x_PW G) (x_A G)) 0 0 (x_A G) := by
  refine Met.ofW (cc := prog_1_method_25_code) (maxL := 5) (ret := (some .boolean)) (by decide) rfl ?_
  intro p e s m args below meth c s₁ B hml hv
  obtain ⟨rfl, hz, hP, hD, hK, hG⟩ := hv
  have C0 : x_Ctx G p s m _ meth c prog_1_method_25_code "ContentLibrary" 5 (some .boolean) := ⟨B.exec, B.bytes, B.returns, hml, findClass_of_methodNamed B.named, fun w h => atoms_spec (ws := (x_ws (⟨"ContentLibrary", "choosePlaces", "(LContentLibrary$Kept;I)Z"⟩ : MethodName) prog_1_method_25_code 5 (some .boolean))) B.pre w (List.mem_cons_of_mem _ h), B.notSynchronized, hz, hK, hG⟩
  obtain ⟨hx, hb, hr, hml, hown, hts, hlocks, hz, hK, hG⟩ := id C0
  have hS : va_S (x_A G) s.heap s.heap [] := va_S.rf
  have hl := lv_entry ([.ref (x_ad G 0), .ref (x_ad G k1), .int p2]) (n := 5) (Nat.le_of_ble_eq_true rfl)
  rw [lg_entry_eq]
  generalize (lg_sl ([.ref (x_ad G 0), .ref (x_ad G k1), .int p2]) ++ List.replicate (5 - (lg_sl ([.ref (x_ad G 0), .ref (x_ad G k1), .int p2])).length) Slot.unset).toArray = ls at hl ⊢
  have hl : lv_has ls 5 [(0, .ref (x_ad G 0)), (1, .ref (x_ad G k1)), (2, .int p2)] := hl
  rw [f_X_choosePlaces] at hf
  refine lv_iconst (v := (0 : Int32)) hx hb d_X_choosePlaces_0 (by decide) ?_
  refine lv_istore_n (lv' := [(3, .int (0 : Int32)), (0, .ref (x_ad G 0)), (1, .ref (x_ad G k1)), (2, .int p2)]) hx hb d_X_choosePlaces_1 rfl hl (by decide) rfl (fun ls hl => ?_)
  refine lv_iconst (v := (0 : Int32)) hx hb d_X_choosePlaces_2 (by decide) ?_
  refine lv_istore (lv' := [(4, .int (0 : Int32)), (3, .int (0 : Int32)), (0, .ref (x_ad G 0)), (1, .ref (x_ad G k1)), (2, .int p2)]) hx hb d_X_choosePlaces_3 hl (by decide) rfl (fun ls hl => ?_)
  exact w_X_choosePlaces_5 l G C0 r zo x_FU k1 hk1 p2 (0 : Int32) (0 : Int32) z0 hf _ _ _ hP hD hS (lv_sub hl [2, 3, 4, 1, 0] rfl)
abbrev rm_X_enterFound : Room := { frames := 0, cells := 0, slots := 0, locals := 0 }
set_option maxHeartbeats 4000000 in
set_option maxRecDepth 100000 in
theorem w_X_enterFound_55 (l : Launch) (G : x_G) {p : Program} {e : Env} {s : State} {m : MethodId} {args : Array Value} {below : List Frame} {meth : Method} {c : Code} (C0 : x_Ctx G p s m args meth c prog_1_method_32_code "ContentLibrary" 4 none) (r : Unit) (zo : x_St) : ∀ (a1 : Int32) (a2 : Int32) (a3 : Int32) (z0 : x_St), f_X_enterFound_55 (x_n G) a1 a2 a3 z0 = some (r, zo) → ∀ (H : Heap) (locs : List Loc) (ls : Array Slot), va_P (x_D G) vwCl (x_Wd G z0) H → va_D (x_A G) (x_Wd G z0) → va_S (x_A G) s.heap H locs → lv_has ls 4 [(0, .ref (x_ad G 0)), (1, .int a1), (2, .int a2), (3, .int a3)] → W p l e rm_X_enterFound s m args below meth c H locs 0 0 (MQ below (va_Qv (fun u => r = () ∧ zo = u) (x_PW G) (x_A G)) args s 0 0 (x_A G)) (F0 m 55 ls []) := by
  obtain ⟨hx, hb, hr, hml, hown, hts, hlocks, hz, hK, hG⟩ := id C0
  intro a1 a2 a3 z0 hf H locs ls hP hD hS hl
  rw [f_X_enterFound_55] at hf
  refine lv_aload_n hx hb d_X_enterFound_55 rfl (lv_at hl 0 rfl) ?_
  refine va_get (D := x_D G) (ci := 0) (v := .ref (x_ad G 108)) (C := "ContentLibrary") (T := x_TX) (N := 9) hx hb hts x_inX hown hK hP 0 (x_lk_X G _) rfl 6 (by decide) (hts _ t_136) (fun _ h9 => h9) rfl d_X_enterFound_56 ?_
  refine lv_iload_n hx hb d_X_enterFound_59 rfl (lv_at hl 3 rfl) ?_
  refine lv_iload_n hx hb d_X_enterFound_60 rfl (lv_at hl 1 rfl) ?_
  obtain ⟨hin1, hf⟩ := x_ck_some hf
  refine va_iast hx hb hK hP hD hS 108 0 (x_lk_A G _ rfl) rfl hin1 d_X_enterFound_61 (fun H locs hP hD hS => ?_)
  rw [x_st_A G _ (k := 108) rfl] at hP hD
  refine lv_aload_n hx hb d_X_enterFound_62 rfl (lv_at hl 0 rfl) ?_
  refine va_get (D := x_D G) (ci := 0) (v := .ref (x_ad G 109)) (C := "ContentLibrary") (T := x_TX) (N := 9) hx hb hts x_inX hown hK hP 0 (x_lk_X G _) rfl 7 (by decide) (hts _ t_137) (fun _ h9 => h9) rfl d_X_enterFound_63 ?_
  refine lv_iload_n hx hb d_X_enterFound_66 rfl (lv_at hl 3 rfl) ?_
  refine lv_iload_n hx hb d_X_enterFound_67 rfl (lv_at hl 2 rfl) ?_
  obtain ⟨hin2, hf⟩ := x_ck_some hf
  refine va_iast hx hb hK hP hD hS 109 0 (x_lk_A G _ rfl) rfl hin2 d_X_enterFound_68 (fun H locs hP hD hS => ?_)
  rw [x_st_A G _ (k := 109) rfl] at hP hD
  refine lv_aload_n hx hb d_X_enterFound_69 rfl (lv_at hl 0 rfl) ?_
  refine lv_dup hx hb d_X_enterFound_70 rfl ?_
  refine va_get (D := x_D G) (ci := 0) (v := .int ((x_put (x_put z0 108 (a3).toNatClampNeg a1) 109 (a3).toNatClampNeg a2).1 0 8)) (C := "ContentLibrary") (T := x_TX) (N := 9) hx hb hts x_inX hown hK hP 0 (x_lk_X G _) rfl 8 (by decide) (hts _ t_138) (fun _ h9 => h9) rfl d_X_enterFound_71 ?_
  refine lv_iconst (v := (1 : Int32)) hx hb d_X_enterFound_74 (by decide) ?_
  refine lv_iadd hx hb d_X_enterFound_75 ?_
  refine va_put (D := x_D G) (ci := 0) (v := .int (((x_put (x_put z0 108 (a3).toNatClampNeg a1) 109 (a3).toNatClampNeg a2).1 0 8) + (1 : Int32))) (ty := .int) (C := "ContentLibrary") (T := x_TX) (N := 9) hx hb hts x_inX x_tyX x_tyX_ok x_nmX hown hK hP hD hS 0 (x_lk_X G _) rfl 8 (by decide) (hts _ t_138) (fun _ h9 => h9) rfl (by decide +kernel) rfl rfl (Nat.le_of_ble_eq_true rfl) d_X_enterFound_76 (fun H locs hP hD hS => ?_)
  rw [x_st_X8 G _] at hP hD
  obtain ⟨rfl, rfl⟩ := x_ret hf
  exact W.vret hx hb hr (fun t ht hW => ⟨⟨_, rfl, ⟨rfl, rfl⟩, x_pw hP hD hK hG hS hz ht hW⟩, hS.F ht⟩) hS.2.2 d_X_enterFound_79
set_option maxHeartbeats 4000000 in
set_option maxRecDepth 100000 in
theorem w_X_enterFound_5 (l : Launch) (G : x_G) {p : Program} {e : Env} {s : State} {m : MethodId} {args : Array Value} {below : List Frame} {meth : Method} {c : Code} (C0 : x_Ctx G p s m args meth c prog_1_method_32_code "ContentLibrary" 4 none) (r : Unit) (zo : x_St) : ∀ (fu : Nat), ∀ (a1 : Int32) (a2 : Int32) (a3 : Int32) (z0 : x_St), f_X_enterFound_5 (x_n G) fu a1 a2 a3 z0 = some (r, zo) → ∀ (H : Heap) (locs : List Loc) (ls : Array Slot), va_P (x_D G) vwCl (x_Wd G z0) H → va_D (x_A G) (x_Wd G z0) → va_S (x_A G) s.heap H locs → lv_has ls 4 [(0, .ref (x_ad G 0)), (1, .int a1), (2, .int a2), (3, .int a3)] → W p l e rm_X_enterFound s m args below meth c H locs 0 0 (MQ below (va_Qv (fun u => r = () ∧ zo = u) (x_PW G) (x_A G)) args s 0 0 (x_A G)) (F0 m 5 ls []) := by
  obtain ⟨hx, hb, hr, hml, hown, hts, hlocks, hz, hK, hG⟩ := id C0
  intro fu
  induction fu with
  | zero =>
    intro a1 a2 a3 z0 hf
    rw [f_X_enterFound_5] at hf
    cases hf
  | succ fu ih =>
    intro a1 a2 a3 z0 hf H locs ls hP hD hS hl
    rw [f_X_enterFound_5] at hf
    refine lv_iload_n hx hb d_X_enterFound_5 rfl (lv_at hl 3 rfl) ?_
    refine lv_if_le (tgt := 55) hx hb d_X_enterFound_6 (by decide) (fun hc3 => ?_) (fun hc3 => ?_)
    · have hf := x_br_t hf hc3
      exact w_X_enterFound_55 l G C0 r zo a1 a2 a3 z0 hf _ _ _ hP hD hS (lv_sub hl [0, 1, 2, 3] rfl)
    · have hf := x_br_f hf hc3
      refine lv_aload_n hx hb d_X_enterFound_9 rfl (lv_at hl 0 rfl) ?_
      refine va_get (D := x_D G) (ci := 0) (v := .ref (x_ad G 109)) (C := "ContentLibrary") (T := x_TX) (N := 9) hx hb hts x_inX hown hK hP 0 (x_lk_X G _) rfl 7 (by decide) (hts _ t_137) (fun _ h9 => h9) rfl d_X_enterFound_10 ?_
      refine lv_iload_n hx hb d_X_enterFound_13 rfl (lv_at hl 3 rfl) ?_
      refine lv_iconst (v := (1 : Int32)) hx hb d_X_enterFound_14 (by decide) ?_
      refine lv_isub hx hb d_X_enterFound_15 ?_
      obtain ⟨hin4, hf⟩ := x_ck_some hf
      refine va_iald hx hb hK hP 109 0 (x_lk_A G _ rfl) rfl hin4 d_X_enterFound_16 ?_
      refine lv_iload_n hx hb d_X_enterFound_17 rfl (lv_at hl 2 rfl) ?_
      refine lv_icmp_le (tgt := 55) hx hb d_X_enterFound_18 (by decide) (fun hc5 => ?_) (fun hc5 => ?_)
      · have hf := x_br_t hf hc5
        exact w_X_enterFound_55 l G C0 r zo a1 a2 a3 z0 hf _ _ _ hP hD hS (lv_sub hl [0, 1, 2, 3] rfl)
      · have hf := x_br_f hf hc5
        refine lv_aload_n hx hb d_X_enterFound_21 rfl (lv_at hl 0 rfl) ?_
        refine va_get (D := x_D G) (ci := 0) (v := .ref (x_ad G 108)) (C := "ContentLibrary") (T := x_TX) (N := 9) hx hb hts x_inX hown hK hP 0 (x_lk_X G _) rfl 6 (by decide) (hts _ t_136) (fun _ h9 => h9) rfl d_X_enterFound_22 ?_
        refine lv_iload_n hx hb d_X_enterFound_25 rfl (lv_at hl 3 rfl) ?_
        refine lv_aload_n hx hb d_X_enterFound_26 rfl (lv_at hl 0 rfl) ?_
        refine va_get (D := x_D G) (ci := 0) (v := .ref (x_ad G 108)) (C := "ContentLibrary") (T := x_TX) (N := 9) hx hb hts x_inX hown hK hP 0 (x_lk_X G _) rfl 6 (by decide) (hts _ t_136) (fun _ h9 => h9) rfl d_X_enterFound_27 ?_
        refine lv_iload_n hx hb d_X_enterFound_30 rfl (lv_at hl 3 rfl) ?_
        refine lv_iconst (v := (1 : Int32)) hx hb d_X_enterFound_31 (by decide) ?_
        refine lv_isub hx hb d_X_enterFound_32 ?_
        obtain ⟨hin6, hf⟩ := x_ck_some hf
        refine va_iald hx hb hK hP 108 0 (x_lk_A G _ rfl) rfl hin6 d_X_enterFound_33 ?_
        obtain ⟨hin7, hf⟩ := x_ck_some hf
        refine va_iast hx hb hK hP hD hS 108 0 (x_lk_A G _ rfl) rfl hin7 d_X_enterFound_34 (fun H locs hP hD hS => ?_)
        rw [x_st_A G _ (k := 108) rfl] at hP hD
        refine lv_aload_n hx hb d_X_enterFound_35 rfl (lv_at hl 0 rfl) ?_
        refine va_get (D := x_D G) (ci := 0) (v := .ref (x_ad G 109)) (C := "ContentLibrary") (T := x_TX) (N := 9) hx hb hts x_inX hown hK hP 0 (x_lk_X G _) rfl 7 (by decide) (hts _ t_137) (fun _ h9 => h9) rfl d_X_enterFound_36 ?_
        refine lv_iload_n hx hb d_X_enterFound_39 rfl (lv_at hl 3 rfl) ?_
        refine lv_aload_n hx hb d_X_enterFound_40 rfl (lv_at hl 0 rfl) ?_
        refine va_get (D := x_D G) (ci := 0) (v := .ref (x_ad G 109)) (C := "ContentLibrary") (T := x_TX) (N := 9) hx hb hts x_inX hown hK hP 0 (x_lk_X G _) rfl 7 (by decide) (hts _ t_137) (fun _ h9 => h9) rfl d_X_enterFound_41 ?_
        refine lv_iload_n hx hb d_X_enterFound_44 rfl (lv_at hl 3 rfl) ?_
        refine lv_iconst (v := (1 : Int32)) hx hb d_X_enterFound_45 (by decide) ?_
        refine lv_isub hx hb d_X_enterFound_46 ?_
        obtain ⟨hin8, hf⟩ := x_ck_some hf
        refine va_iald hx hb hK hP 109 0 (x_lk_A G _ rfl) rfl hin8 d_X_enterFound_47 ?_
        obtain ⟨hin9, hf⟩ := x_ck_some hf
        refine va_iast hx hb hK hP hD hS 109 0 (x_lk_A G _ rfl) rfl hin9 d_X_enterFound_48 (fun H locs hP hD hS => ?_)
        rw [x_st_A G _ (k := 109) rfl] at hP hD
        refine lv_iinc (v := (a3 + (-1 : Int32))) (lv' := [(3, .int (a3 + (-1 : Int32))), (0, .ref (x_ad G 0)), (1, .int a1), (2, .int a2)]) hx hb d_X_enterFound_49 hl (k := 3) rfl rfl (by decide) rfl (fun ls hl => ?_)
        refine lv_goto (tgt := 5) hx hb d_X_enterFound_52 (by decide) ?_
        exact ih a1 a2 (a3 + (-1 : Int32)) (x_put (x_put z0 108 (a3).toNatClampNeg (z0.1 108 ((a3 - (1 : Int32))).toNatClampNeg)) 109 (a3).toNatClampNeg ((x_put z0 108 (a3).toNatClampNeg (z0.1 108 ((a3 - (1 : Int32))).toNatClampNeg)).1 109 ((a3 - (1 : Int32))).toNatClampNeg)) hf _ _ _ hP hD hS (lv_sub hl [1, 2, 3, 0] rfl)
set_option maxHeartbeats 4000000 in
set_option maxRecDepth 100000 in
theorem c_X_enterFound (l : Launch) (G : x_G) (p1 : Int32) (p2 : Int32) (z0 : x_St) (r : Unit) (zo : x_St) (hf : f_X_enterFound (x_n G) p1 p2 z0 = some (r, zo)) : Met l (⟨"ContentLibrary", "enterFound", "(II)V"⟩ : MethodName) (x_ws (⟨"ContentLibrary", "enterFound", "(II)V"⟩ : MethodName) prog_1_method_32_code 4 none) rm_X_enterFound (va_Pc [.ref (x_ad G 0), .int p1, .int p2] (x_PW G z0)) (va_Qv (fun u => r = () ∧ zo = u) (x_PW G) (x_A G)) 0 0 (x_A G) := by
  refine Met.ofW (cc := prog_1_method_32_code) (maxL := 4) (ret := none) (by decide) rfl ?_
  intro p e s m args below meth c s₁ B hml hv
  obtain ⟨rfl, hz, hP, hD, hK, hG⟩ := hv
  have C0 : x_Ctx G p s m _ meth c prog_1_method_32_code "ContentLibrary" 4 none := ⟨B.exec, B.bytes, B.returns, hml, findClass_of_methodNamed B.named, fun w h => atoms_spec (ws := (x_ws (⟨"ContentLibrary", "enterFound", "(II)V"⟩ : MethodName) prog_1_method_32_code 4 none)) B.pre w (List.mem_cons_of_mem _ h), B.notSynchronized, hz, hK, hG⟩
  obtain ⟨hx, hb, hr, hml, hown, hts, hlocks, hz, hK, hG⟩ := id C0
  have hS : va_S (x_A G) s.heap s.heap [] := va_S.rf
  have hl := lv_entry ([.ref (x_ad G 0), .int p1, .int p2]) (n := 4) (Nat.le_of_ble_eq_true rfl)
  rw [lg_entry_eq]
  generalize (lg_sl ([.ref (x_ad G 0), .int p1, .int p2]) ++ List.replicate (4 - (lg_sl ([.ref (x_ad G 0), .int p1, .int p2])).length) Slot.unset).toArray = ls at hl ⊢
  have hl : lv_has ls 4 [(0, .ref (x_ad G 0)), (1, .int p1), (2, .int p2)] := hl
  rw [f_X_enterFound] at hf
  refine lv_aload_n hx hb d_X_enterFound_0 rfl (lv_at hl 0 rfl) ?_
  refine va_get (D := x_D G) (ci := 0) (v := .int (z0.1 0 8)) (C := "ContentLibrary") (T := x_TX) (N := 9) hx hb hts x_inX hown hK hP 0 (x_lk_X G _) rfl 8 (by decide) (hts _ t_138) (fun _ h9 => h9) rfl d_X_enterFound_1 ?_
  refine lv_istore_n (lv' := [(3, .int (z0.1 0 8)), (0, .ref (x_ad G 0)), (1, .int p1), (2, .int p2)]) hx hb d_X_enterFound_4 rfl hl (by decide) rfl (fun ls hl => ?_)
  exact w_X_enterFound_5 l G C0 r zo x_FU p1 p2 (z0.1 0 8) z0 hf _ _ _ hP hD hS (lv_sub hl [1, 2, 3, 0] rfl)
abbrev rm_X_afterCut : Room := { frames := 1, cells := 0, slots := 0, locals := 21 }
set_option maxHeartbeats 4000000 in
set_option maxRecDepth 100000 in
theorem c_X_afterCut (l : Launch) (G : x_G)  (z0 : x_St) (r : Int32) (zo : x_St) (hf : f_X_afterCut (x_n G)  z0 = some (r, zo)) : Met l (⟨"ContentLibrary", "afterCut", "()I"⟩ : MethodName) (x_ws (⟨"ContentLibrary", "afterCut", "()I"⟩ : MethodName) prog_1_method_33_code 1 (some .int)) rm_X_afterCut (va_Pc [.ref (x_ad G 0)] (x_PW G z0)) (va_Qi (fun a u => r = a ∧ zo = u) (x_PW G) (x_A G)) 0 0 (x_A G) := by
  refine Met.ofW (cc := prog_1_method_33_code) (maxL := 1) (ret := (some .int)) (by decide) rfl ?_
  intro p e s m args below meth c s₁ B hml hv
  obtain ⟨rfl, hz, hP, hD, hK, hG⟩ := hv
  have C0 : x_Ctx G p s m _ meth c prog_1_method_33_code "ContentLibrary" 1 (some .int) := ⟨B.exec, B.bytes, B.returns, hml, findClass_of_methodNamed B.named, fun w h => atoms_spec (ws := (x_ws (⟨"ContentLibrary", "afterCut", "()I"⟩ : MethodName) prog_1_method_33_code 1 (some .int))) B.pre w (List.mem_cons_of_mem _ h), B.notSynchronized, hz, hK, hG⟩
  obtain ⟨hx, hb, hr, hml, hown, hts, hlocks, hz, hK, hG⟩ := id C0
  have hS : va_S (x_A G) s.heap s.heap [] := va_S.rf
  have hl := lv_entry ([.ref (x_ad G 0)]) (n := 1) (Nat.le_of_ble_eq_true rfl)
  rw [lg_entry_eq]
  generalize (lg_sl ([.ref (x_ad G 0)]) ++ List.replicate (1 - (lg_sl ([.ref (x_ad G 0)])).length) Slot.unset).toArray = ls at hl ⊢
  have hl : lv_has ls 1 [(0, .ref (x_ad G 0))] := hl
  rw [f_X_afterCut] at hf
  refine lv_aload_n hx hb d_X_afterCut_0 rfl (lv_at hl 0 rfl) ?_
  obtain ⟨r1, z1, hq2, hf⟩ := x_cl_some hf
  refine va_callv (va_runV (As := []) (rest := []) ⟨hx, hb, hml, hown, hts⟩ (c_X_forget l G z0 r1 z1 hq2) (cwV 0 hts (x_gV t_162 t_164 sel_ContentLibrary_forget t_1 t_165) rfl rfl rfl (by decide +kernel) ⟨Nat.le_of_ble_eq_true rfl, Nat.le_of_ble_eq_true rfl⟩) ⟨x_blind _ _ _, va_recv hK hP (ci := 0) (q0 := 0) rfl (x_lk_X G _), fun U hU hW => ⟨rfl, x_pw hP hD hK hG hS hz hU hW⟩⟩ rfl rfl hl.1 rfl (lv_room (Nat.le_of_ble_eq_true rfl)) d_X_afterCut_1 ⟨Nat.le_of_ble_eq_true rfl, Nat.le_of_ble_eq_true rfl⟩) hS (fun q _ h => h) (fun q h => h) (fun u t H locs ht hvm hw hB _ _ hS => ?_)
  obtain ⟨rfl, rfl⟩ := hw
  obtain ⟨hP, hD⟩ := x_back hB ht
  refine lv_bipush (v := (-2 : Int32)) hx hb d_X_afterCut_4 (by decide) ?_
  obtain ⟨rfl, rfl⟩ := x_ret hf
  exact W.iret (v := (-2 : Int32)) hx hb hr (fun t ht hW => ⟨⟨_, _, rfl, ⟨rfl, rfl⟩, x_pw hP hD hK hG hS hz ht hW⟩, hS.F ht⟩) hS.2.2 d_X_afterCut_6
end
section
theorem t_42 : Cond.fieldLink "ContentLibrary" 210 "ContentLibrary$Blocks" "fuse" "I" ∈ x_big := x_bt 42 (by decide +kernel) (by decide +kernel)
theorem t_44 : Cond.fieldLink "ContentLibrary" 213 "ContentLibrary$Blocks" "cut" "Z" ∈ x_big := x_bt 44 (by decide +kernel) (by decide +kernel)
theorem t_69 : Cond.fieldLink "ContentLibrary" 107 "ContentLibrary$Picture" "message" "[I" ∈ x_big := x_bt 69 (by decide +kernel) (by decide +kernel)
theorem t_166 : Cond.methodLink "ContentLibrary" 219 (⟨"ContentLibrary", "openNumber", "(I)V"⟩ : MethodName) ∈ x_big := x_bt 166 (by decide +kernel) (by decide +kernel)
theorem t_168 : Cond.instanceMethod (⟨"ContentLibrary", "openNumber", "(I)V"⟩ : MethodName) ∈ x_big := x_bt 168 (by decide +kernel) (by decide +kernel)
theorem t_169 : Cond.code (⟨"ContentLibrary", "openNumber", "(I)V"⟩ : MethodName) prog_1_method_30_code 5 none ∈ x_big := x_bt 169 (by decide +kernel) (by decide +kernel)
theorem t_170 : Cond.methodLink "ContentLibrary" 293 (⟨"ContentLibrary$Blocks", "onlyGood", "(III)I"⟩ : MethodName) ∈ x_big := x_bt 170 (by decide +kernel) (by decide +kernel)
theorem t_171 : Cond.instanceMethod (⟨"ContentLibrary$Blocks", "onlyGood", "(III)I"⟩ : MethodName) ∈ x_big := x_bt 171 (by decide +kernel) (by decide +kernel)
theorem t_172 : Cond.selects "ContentLibrary$Blocks" (⟨"ContentLibrary$Blocks", "onlyGood", "(III)I"⟩ : MethodName) (⟨"ContentLibrary$Blocks", "onlyGood", "(III)I"⟩ : MethodName) ∈ x_big := x_bt 172 (by decide +kernel) (by decide +kernel)
theorem t_173 : Cond.code (⟨"ContentLibrary$Blocks", "onlyGood", "(III)I"⟩ : MethodName) prog_2_method_10_code 7 (some .int) ∈ x_big := x_bt 173 (by decide +kernel) (by decide +kernel)
theorem t_196 : Cond.methodLink "ContentLibrary" 296 (⟨"ContentLibrary$Blocks", "isMarkAsTold", "(I)Z"⟩ : MethodName) ∈ x_big := x_bt 196 (by decide +kernel) (by decide +kernel)
theorem t_197 : Cond.instanceMethod (⟨"ContentLibrary$Blocks", "isMarkAsTold", "(I)Z"⟩ : MethodName) ∈ x_big := x_bt 197 (by decide +kernel) (by decide +kernel)
theorem t_198 : Cond.selects "ContentLibrary$Blocks" (⟨"ContentLibrary$Blocks", "isMarkAsTold", "(I)Z"⟩ : MethodName) (⟨"ContentLibrary$Blocks", "isMarkAsTold", "(I)Z"⟩ : MethodName) ∈ x_big := x_bt 198 (by decide +kernel) (by decide +kernel)
theorem t_199 : Cond.code (⟨"ContentLibrary$Blocks", "isMarkAsTold", "(I)Z"⟩ : MethodName) prog_2_method_11_code 3 (some .boolean) ∈ x_big := x_bt 199 (by decide +kernel) (by decide +kernel)
theorem t_200 : Cond.methodLink "ContentLibrary" 242 (⟨"ContentLibrary$Blocks", "get", "(II)I"⟩ : MethodName) ∈ x_big := x_bt 200 (by decide +kernel) (by decide +kernel)
theorem t_201 : Cond.methodLink "ContentLibrary" 299 (⟨"ContentLibrary", "readRecord", "(LContentLibrary$Kept;II)Z"⟩ : MethodName) ∈ x_big := x_bt 201 (by decide +kernel) (by decide +kernel)
theorem t_203 : Cond.instanceMethod (⟨"ContentLibrary", "readRecord", "(LContentLibrary$Kept;II)Z"⟩ : MethodName) ∈ x_big := x_bt 203 (by decide +kernel) (by decide +kernel)
theorem t_204 : Cond.code (⟨"ContentLibrary", "readRecord", "(LContentLibrary$Kept;II)Z"⟩ : MethodName) prog_1_method_31_code 9 (some .boolean) ∈ x_big := x_bt 204 (by decide +kernel) (by decide +kernel)
theorem t_205 : Cond.methodLink "ContentLibrary" 303 (⟨"ContentLibrary$Blocks", "kindOf", "(I)I"⟩ : MethodName) ∈ x_big := x_bt 205 (by decide +kernel) (by decide +kernel)
theorem t_208 : Cond.methodLink "ContentLibrary" 306 (⟨"ContentLibrary$Blocks", "copyData", "(II[II)V"⟩ : MethodName) ∈ x_big := x_bt 208 (by decide +kernel) (by decide +kernel)
theorem t_209 : Cond.instanceMethod (⟨"ContentLibrary$Blocks", "copyData", "(II[II)V"⟩ : MethodName) ∈ x_big := x_bt 209 (by decide +kernel) (by decide +kernel)
theorem t_210 : Cond.selects "ContentLibrary$Blocks" (⟨"ContentLibrary$Blocks", "copyData", "(II[II)V"⟩ : MethodName) (⟨"ContentLibrary$Blocks", "copyData", "(II[II)V"⟩ : MethodName) ∈ x_big := x_bt 210 (by decide +kernel) (by decide +kernel)
theorem t_211 : Cond.code (⟨"ContentLibrary$Blocks", "copyData", "(II[II)V"⟩ : MethodName) prog_2_method_12_code 5 none ∈ x_big := x_bt 211 (by decide +kernel) (by decide +kernel)
theorem t_215 : Cond.methodLink "ContentLibrary" 310 (⟨"ContentLibrary$Picture", "fillsMessage", "(I)Z"⟩ : MethodName) ∈ x_big := x_bt 215 (by decide +kernel) (by decide +kernel)
theorem t_216 : Cond.instanceMethod (⟨"ContentLibrary$Picture", "fillsMessage", "(I)Z"⟩ : MethodName) ∈ x_big := x_bt 216 (by decide +kernel) (by decide +kernel)
theorem t_217 : Cond.selects "ContentLibrary$Picture" (⟨"ContentLibrary$Picture", "fillsMessage", "(I)Z"⟩ : MethodName) (⟨"ContentLibrary$Picture", "fillsMessage", "(I)Z"⟩ : MethodName) ∈ x_big := x_bt 217 (by decide +kernel) (by decide +kernel)
theorem t_218 : Cond.code (⟨"ContentLibrary$Picture", "fillsMessage", "(I)Z"⟩ : MethodName) prog_5_method_13_code 2 (some .boolean) ∈ x_big := x_bt 218 (by decide +kernel) (by decide +kernel)
theorem t_297 : Cond.methodLink "ContentLibrary" 222 (⟨"ContentLibrary", "countKept", "()I"⟩ : MethodName) ∈ x_big := x_bt 297 (by decide +kernel) (by decide +kernel)
theorem t_299 : Cond.instanceMethod (⟨"ContentLibrary", "countKept", "()I"⟩ : MethodName) ∈ x_big := x_bt 299 (by decide +kernel) (by decide +kernel)
theorem t_300 : Cond.code (⟨"ContentLibrary", "countKept", "()I"⟩ : MethodName) prog_1_method_36_code 3 (some .int) ∈ x_big := x_bt 300 (by decide +kernel) (by decide +kernel)
theorem t_305 : Cond.methodLink "ContentLibrary" 236 (⟨"ContentLibrary$Blocks", "isBlank", "(I)Z"⟩ : MethodName) ∈ x_big := x_bt 305 (by decide +kernel) (by decide +kernel)
theorem t_306 : Cond.instanceMethod (⟨"ContentLibrary$Blocks", "isBlank", "(I)Z"⟩ : MethodName) ∈ x_big := x_bt 306 (by decide +kernel) (by decide +kernel)
theorem t_307 : Cond.selects "ContentLibrary$Blocks" (⟨"ContentLibrary$Blocks", "isBlank", "(I)Z"⟩ : MethodName) (⟨"ContentLibrary$Blocks", "isBlank", "(I)Z"⟩ : MethodName) ∈ x_big := x_bt 307 (by decide +kernel) (by decide +kernel)
theorem t_308 : Cond.code (⟨"ContentLibrary$Blocks", "isBlank", "(I)Z"⟩ : MethodName) prog_2_method_5_code 3 (some .boolean) ∈ x_big := x_bt 308 (by decide +kernel) (by decide +kernel)
theorem t_309 : Cond.methodLink "ContentLibrary" 239 (⟨"ContentLibrary$Blocks", "isGood", "(I)Z"⟩ : MethodName) ∈ x_big := x_bt 309 (by decide +kernel) (by decide +kernel)
theorem t_314 : Cond.methodLink "ContentLibrary" 245 (⟨"ContentLibrary", "countFreeBlocks", "()I"⟩ : MethodName) ∈ x_big := x_bt 314 (by decide +kernel) (by decide +kernel)
theorem t_316 : Cond.instanceMethod (⟨"ContentLibrary", "countFreeBlocks", "()I"⟩ : MethodName) ∈ x_big := x_bt 316 (by decide +kernel) (by decide +kernel)
theorem t_317 : Cond.code (⟨"ContentLibrary", "countFreeBlocks", "()I"⟩ : MethodName) prog_1_method_35_code 3 (some .int) ∈ x_big := x_bt 317 (by decide +kernel) (by decide +kernel)
theorem t_318 : Cond.methodLink "ContentLibrary" 248 (⟨"ContentLibrary", "countMade", "()I"⟩ : MethodName) ∈ x_big := x_bt 318 (by decide +kernel) (by decide +kernel)
theorem t_320 : Cond.instanceMethod (⟨"ContentLibrary", "countMade", "()I"⟩ : MethodName) ∈ x_big := x_bt 320 (by decide +kernel) (by decide +kernel)
theorem t_321 : Cond.code (⟨"ContentLibrary", "countMade", "()I"⟩ : MethodName) prog_1_method_37_code 3 (some .int) ∈ x_big := x_bt 321 (by decide +kernel) (by decide +kernel)
theorem t_513 : Cond.methodLink "ContentLibrary" 197 (⟨"ContentLibrary$Blocks", "wipe", "(I)Z"⟩ : MethodName) ∈ x_big := x_bt 513 (by decide +kernel) (by decide +kernel)
theorem t_514 : Cond.instanceMethod (⟨"ContentLibrary$Blocks", "wipe", "(I)Z"⟩ : MethodName) ∈ x_big := x_bt 514 (by decide +kernel) (by decide +kernel)
theorem t_515 : Cond.selects "ContentLibrary$Blocks" (⟨"ContentLibrary$Blocks", "wipe", "(I)Z"⟩ : MethodName) (⟨"ContentLibrary$Blocks", "wipe", "(I)Z"⟩ : MethodName) ∈ x_big := x_bt 515 (by decide +kernel) (by decide +kernel)
theorem t_516 : Cond.code (⟨"ContentLibrary$Blocks", "wipe", "(I)Z"⟩ : MethodName) prog_2_method_17_code 4 (some .boolean) ∈ x_big := x_bt 516 (by decide +kernel) (by decide +kernel)
theorem sel_ContentLibrary_countFreeBlocks : Cond.selects "ContentLibrary" (⟨"ContentLibrary", "countFreeBlocks", "()I"⟩ : MethodName) (⟨"ContentLibrary", "countFreeBlocks", "()I"⟩ : MethodName) ∈ x_big := x_bs 12 (by decide +kernel) (by decide +kernel)
theorem sel_ContentLibrary_countKept : Cond.selects "ContentLibrary" (⟨"ContentLibrary", "countKept", "()I"⟩ : MethodName) (⟨"ContentLibrary", "countKept", "()I"⟩ : MethodName) ∈ x_big := x_bs 11 (by decide +kernel) (by decide +kernel)
theorem sel_ContentLibrary_countMade : Cond.selects "ContentLibrary" (⟨"ContentLibrary", "countMade", "()I"⟩ : MethodName) (⟨"ContentLibrary", "countMade", "()I"⟩ : MethodName) ∈ x_big := x_bs 13 (by decide +kernel) (by decide +kernel)
theorem sel_ContentLibrary_openNumber : Cond.selects "ContentLibrary" (⟨"ContentLibrary", "openNumber", "(I)V"⟩ : MethodName) (⟨"ContentLibrary", "openNumber", "(I)V"⟩ : MethodName) ∈ x_big := x_bs 1 (by decide +kernel) (by decide +kernel)
theorem sel_ContentLibrary_readRecord : Cond.selects "ContentLibrary" (⟨"ContentLibrary", "readRecord", "(LContentLibrary$Kept;II)Z"⟩ : MethodName) (⟨"ContentLibrary", "readRecord", "(LContentLibrary$Kept;II)Z"⟩ : MethodName) ∈ x_big := x_bs 3 (by decide +kernel) (by decide +kernel)
theorem d_X_readRecord_0 : decode prog_1_method_31_code 0 = .ok (.iconst 0, 1) := by decide +kernel
theorem d_X_readRecord_1 : decode prog_1_method_31_code 1 = .ok (.istore 4, 2) := by decide +kernel
theorem d_X_readRecord_3 : decode prog_1_method_31_code 3 = .ok (.iconst 0, 1) := by decide +kernel
theorem d_X_readRecord_4 : decode prog_1_method_31_code 4 = .ok (.istore 5, 2) := by decide +kernel
theorem d_X_readRecord_6 : decode prog_1_method_31_code 6 = .ok (.iload 5, 2) := by decide +kernel
theorem d_X_readRecord_8 : decode prog_1_method_31_code 8 = .ok (.iload_n 3, 1) := by decide +kernel
theorem d_X_readRecord_9 : decode prog_1_method_31_code 9 = .ok (.if_icmp .ge 128, 3) := by decide +kernel
theorem d_X_readRecord_12 : decode prog_1_method_31_code 12 = .ok (.iload 5, 2) := by decide +kernel
theorem d_X_readRecord_14 : decode prog_1_method_31_code 14 = .ok (.iconst 2, 1) := by decide +kernel
theorem d_X_readRecord_15 : decode prog_1_method_31_code 15 = .ok (.if_icmp .ge 122, 3) := by decide +kernel
theorem d_X_readRecord_18 : decode prog_1_method_31_code 18 = .ok (.aload_n 0, 1) := by decide +kernel
theorem d_X_readRecord_19 : decode prog_1_method_31_code 19 = .ok (.getfield 23, 3) := by decide +kernel
theorem d_X_readRecord_22 : decode prog_1_method_31_code 22 = .ok (.iload 5, 2) := by decide +kernel
theorem d_X_readRecord_24 : decode prog_1_method_31_code 24 = .ok (.invokestatic 303, 3) := by decide +kernel
theorem d_X_readRecord_27 : decode prog_1_method_31_code 27 = .ok (.iload_n 2, 1) := by decide +kernel
theorem d_X_readRecord_28 : decode prog_1_method_31_code 28 = .ok (.iload 5, 2) := by decide +kernel
theorem d_X_readRecord_30 : decode prog_1_method_31_code 30 = .ok (.invokevirtual 293, 3) := by decide +kernel
theorem d_X_readRecord_33 : decode prog_1_method_31_code 33 = .ok (.istore 6, 2) := by decide +kernel
theorem d_X_readRecord_35 : decode prog_1_method_31_code 35 = .ok (.iload 6, 2) := by decide +kernel
theorem d_X_readRecord_37 : decode prog_1_method_31_code 37 = .ok (.iconst (-1), 1) := by decide +kernel
theorem d_X_readRecord_38 : decode prog_1_method_31_code 38 = .ok (.if_icmp .ne 5, 3) := by decide +kernel
theorem d_X_readRecord_41 : decode prog_1_method_31_code 41 = .ok (.iconst 0, 1) := by decide +kernel
theorem d_X_readRecord_42 : decode prog_1_method_31_code 42 = .ok (.ireturn, 1) := by decide +kernel
theorem d_X_readRecord_43 : decode prog_1_method_31_code 43 = .ok (.aload_n 0, 1) := by decide +kernel
theorem d_X_readRecord_44 : decode prog_1_method_31_code 44 = .ok (.getfield 23, 3) := by decide +kernel
theorem d_X_readRecord_47 : decode prog_1_method_31_code 47 = .ok (.iload 6, 2) := by decide +kernel
theorem d_X_readRecord_49 : decode prog_1_method_31_code 49 = .ok (.bipush 7, 2) := by decide +kernel
theorem d_X_readRecord_51 : decode prog_1_method_31_code 51 = .ok (.invokevirtual 242, 3) := by decide +kernel
theorem d_X_readRecord_54 : decode prog_1_method_31_code 54 = .ok (.istore 7, 2) := by decide +kernel
theorem d_X_readRecord_56 : decode prog_1_method_31_code 56 = .ok (.iload 5, 2) := by decide +kernel
theorem d_X_readRecord_58 : decode prog_1_method_31_code 58 = .ok (.iload_n 3, 1) := by decide +kernel
theorem d_X_readRecord_59 : decode prog_1_method_31_code 59 = .ok (.iconst 1, 1) := by decide +kernel
theorem d_X_readRecord_60 : decode prog_1_method_31_code 60 = .ok (.isub, 1) := by decide +kernel
theorem d_X_readRecord_61 : decode prog_1_method_31_code 61 = .ok (.if_icmp .ne 7, 3) := by decide +kernel
theorem d_X_readRecord_64 : decode prog_1_method_31_code 64 = .ok (.iconst 1, 1) := by decide +kernel
theorem d_X_readRecord_65 : decode prog_1_method_31_code 65 = .ok (.goto 4, 3) := by decide +kernel
theorem d_X_readRecord_69 : decode prog_1_method_31_code 69 = .ok (.istore 8, 2) := by decide +kernel
theorem d_X_readRecord_71 : decode prog_1_method_31_code 71 = .ok (.iload 8, 2) := by decide +kernel
theorem d_X_readRecord_73 : decode prog_1_method_31_code 73 = .ok (.ifCond .ne 10, 3) := by decide +kernel
theorem d_X_readRecord_83 : decode prog_1_method_31_code 83 = .ok (.iload 4, 2) := by decide +kernel
theorem d_X_readRecord_85 : decode prog_1_method_31_code 85 = .ok (.iload 7, 2) := by decide +kernel
theorem d_X_readRecord_87 : decode prog_1_method_31_code 87 = .ok (.iadd, 1) := by decide +kernel
theorem d_X_readRecord_88 : decode prog_1_method_31_code 88 = .ok (.bipush 66, 2) := by decide +kernel
theorem d_X_readRecord_90 : decode prog_1_method_31_code 90 = .ok (.if_icmp .le 5, 3) := by decide +kernel
theorem d_X_readRecord_93 : decode prog_1_method_31_code 93 = .ok (.iconst 0, 1) := by decide +kernel
theorem d_X_readRecord_94 : decode prog_1_method_31_code 94 = .ok (.ireturn, 1) := by decide +kernel
theorem d_X_readRecord_95 : decode prog_1_method_31_code 95 = .ok (.aload_n 0, 1) := by decide +kernel
theorem d_X_readRecord_96 : decode prog_1_method_31_code 96 = .ok (.getfield 23, 3) := by decide +kernel
theorem d_X_readRecord_99 : decode prog_1_method_31_code 99 = .ok (.iload 6, 2) := by decide +kernel
theorem d_X_readRecord_101 : decode prog_1_method_31_code 101 = .ok (.iload 7, 2) := by decide +kernel
theorem d_X_readRecord_103 : decode prog_1_method_31_code 103 = .ok (.aload_n 1, 1) := by decide +kernel
theorem d_X_readRecord_104 : decode prog_1_method_31_code 104 = .ok (.getfield 157, 3) := by decide +kernel
theorem d_X_readRecord_107 : decode prog_1_method_31_code 107 = .ok (.getfield 107, 3) := by decide +kernel
theorem d_X_readRecord_110 : decode prog_1_method_31_code 110 = .ok (.iload 4, 2) := by decide +kernel
theorem d_X_readRecord_112 : decode prog_1_method_31_code 112 = .ok (.invokevirtual 306, 3) := by decide +kernel
theorem d_X_readRecord_115 : decode prog_1_method_31_code 115 = .ok (.aload_n 1, 1) := by decide +kernel
theorem d_X_readRecord_116 : decode prog_1_method_31_code 116 = .ok (.getfield 192, 3) := by decide +kernel
theorem d_X_readRecord_119 : decode prog_1_method_31_code 119 = .ok (.iload 5, 2) := by decide +kernel
theorem d_X_readRecord_121 : decode prog_1_method_31_code 121 = .ok (.iload 6, 2) := by decide +kernel
theorem d_X_readRecord_123 : decode prog_1_method_31_code 123 = .ok (.iastore, 1) := by decide +kernel
theorem d_X_readRecord_124 : decode prog_1_method_31_code 124 = .ok (.iload 4, 2) := by decide +kernel
theorem d_X_readRecord_126 : decode prog_1_method_31_code 126 = .ok (.iload 7, 2) := by decide +kernel
theorem d_X_readRecord_128 : decode prog_1_method_31_code 128 = .ok (.iadd, 1) := by decide +kernel
theorem d_X_readRecord_129 : decode prog_1_method_31_code 129 = .ok (.istore 4, 2) := by decide +kernel
theorem d_X_readRecord_131 : decode prog_1_method_31_code 131 = .ok (.iinc 5 1, 3) := by decide +kernel
theorem d_X_readRecord_134 : decode prog_1_method_31_code 134 = .ok (.goto (-128), 3) := by decide +kernel
theorem d_X_readRecord_68 : decode prog_1_method_31_code 68 = .ok (.iconst 0, 1) := by decide +kernel
theorem d_X_readRecord_137 : decode prog_1_method_31_code 137 = .ok (.aload_n 1, 1) := by decide +kernel
theorem d_X_readRecord_138 : decode prog_1_method_31_code 138 = .ok (.getfield 157, 3) := by decide +kernel
theorem d_X_readRecord_141 : decode prog_1_method_31_code 141 = .ok (.iload 4, 2) := by decide +kernel
theorem d_X_readRecord_143 : decode prog_1_method_31_code 143 = .ok (.invokevirtual 310, 3) := by decide +kernel
theorem d_X_readRecord_146 : decode prog_1_method_31_code 146 = .ok (.ireturn, 1) := by decide +kernel
theorem d_X_readRecord_76 : decode prog_1_method_31_code 76 = .ok (.iload 7, 2) := by decide +kernel
theorem d_X_readRecord_78 : decode prog_1_method_31_code 78 = .ok (.bipush 56, 2) := by decide +kernel
theorem d_X_readRecord_80 : decode prog_1_method_31_code 80 = .ok (.if_icmp .ne 13, 3) := by decide +kernel
theorem d_X_openNumber_0 : decode prog_1_method_30_code 0 = .ok (.aload_n 0, 1) := by decide +kernel
theorem d_X_openNumber_1 : decode prog_1_method_30_code 1 = .ok (.getfield 40, 3) := by decide +kernel
theorem d_X_openNumber_4 : decode prog_1_method_30_code 4 = .ok (.iload_n 1, 1) := by decide +kernel
theorem d_X_openNumber_5 : decode prog_1_method_30_code 5 = .ok (.aaload, 1) := by decide +kernel
theorem d_X_openNumber_6 : decode prog_1_method_30_code 6 = .ok (.astore_n 2, 1) := by decide +kernel
theorem d_X_openNumber_7 : decode prog_1_method_30_code 7 = .ok (.aload_n 0, 1) := by decide +kernel
theorem d_X_openNumber_8 : decode prog_1_method_30_code 8 = .ok (.getfield 23, 3) := by decide +kernel
theorem d_X_openNumber_11 : decode prog_1_method_30_code 11 = .ok (.iconst 3, 1) := by decide +kernel
theorem d_X_openNumber_12 : decode prog_1_method_30_code 12 = .ok (.iload_n 1, 1) := by decide +kernel
theorem d_X_openNumber_13 : decode prog_1_method_30_code 13 = .ok (.iconst (-1), 1) := by decide +kernel
theorem d_X_openNumber_14 : decode prog_1_method_30_code 14 = .ok (.invokevirtual 293, 3) := by decide +kernel
theorem d_X_openNumber_17 : decode prog_1_method_30_code 17 = .ok (.istore_n 3, 1) := by decide +kernel
theorem d_X_openNumber_18 : decode prog_1_method_30_code 18 = .ok (.iload_n 3, 1) := by decide +kernel
theorem d_X_openNumber_19 : decode prog_1_method_30_code 19 = .ok (.iconst (-1), 1) := by decide +kernel
theorem d_X_openNumber_20 : decode prog_1_method_30_code 20 = .ok (.if_icmp .eq 14, 3) := by decide +kernel
theorem d_X_openNumber_23 : decode prog_1_method_30_code 23 = .ok (.aload_n 0, 1) := by decide +kernel
theorem d_X_openNumber_24 : decode prog_1_method_30_code 24 = .ok (.getfield 23, 3) := by decide +kernel
theorem d_X_openNumber_27 : decode prog_1_method_30_code 27 = .ok (.iload_n 3, 1) := by decide +kernel
theorem d_X_openNumber_28 : decode prog_1_method_30_code 28 = .ok (.invokevirtual 296, 3) := by decide +kernel
theorem d_X_openNumber_31 : decode prog_1_method_30_code 31 = .ok (.ifCond .ne 4, 3) := by decide +kernel
theorem d_X_openNumber_34 : decode prog_1_method_30_code 34 = .ok (.return_, 1) := by decide +kernel
theorem d_X_openNumber_35 : decode prog_1_method_30_code 35 = .ok (.aload_n 0, 1) := by decide +kernel
theorem d_X_openNumber_36 : decode prog_1_method_30_code 36 = .ok (.getfield 23, 3) := by decide +kernel
theorem d_X_openNumber_39 : decode prog_1_method_30_code 39 = .ok (.iload_n 3, 1) := by decide +kernel
theorem d_X_openNumber_40 : decode prog_1_method_30_code 40 = .ok (.bipush 8, 2) := by decide +kernel
theorem d_X_openNumber_42 : decode prog_1_method_30_code 42 = .ok (.invokevirtual 242, 3) := by decide +kernel
theorem d_X_openNumber_45 : decode prog_1_method_30_code 45 = .ok (.istore 4, 2) := by decide +kernel
theorem d_X_openNumber_47 : decode prog_1_method_30_code 47 = .ok (.aload_n 0, 1) := by decide +kernel
theorem d_X_openNumber_48 : decode prog_1_method_30_code 48 = .ok (.aload_n 2, 1) := by decide +kernel
theorem d_X_openNumber_49 : decode prog_1_method_30_code 49 = .ok (.iload_n 1, 1) := by decide +kernel
theorem d_X_openNumber_50 : decode prog_1_method_30_code 50 = .ok (.iload 4, 2) := by decide +kernel
theorem d_X_openNumber_52 : decode prog_1_method_30_code 52 = .ok (.invokevirtual 299, 3) := by decide +kernel
theorem d_X_openNumber_55 : decode prog_1_method_30_code 55 = .ok (.ifCond .ne 4, 3) := by decide +kernel
theorem d_X_openNumber_58 : decode prog_1_method_30_code 58 = .ok (.return_, 1) := by decide +kernel
theorem d_X_reopen_0 : decode prog_1_method_13_code 0 = .ok (.aload_n 0, 1) := by decide +kernel
theorem d_X_reopen_1 : decode prog_1_method_13_code 1 = .ok (.getfield 23, 3) := by decide +kernel
theorem d_X_reopen_4 : decode prog_1_method_13_code 4 = .ok (.iconst (-1), 1) := by decide +kernel
theorem d_X_reopen_5 : decode prog_1_method_13_code 5 = .ok (.putfield 210, 3) := by decide +kernel
theorem d_X_reopen_8 : decode prog_1_method_13_code 8 = .ok (.aload_n 0, 1) := by decide +kernel
theorem d_X_reopen_9 : decode prog_1_method_13_code 9 = .ok (.getfield 23, 3) := by decide +kernel
theorem d_X_reopen_12 : decode prog_1_method_13_code 12 = .ok (.iconst 0, 1) := by decide +kernel
theorem d_X_reopen_13 : decode prog_1_method_13_code 13 = .ok (.putfield 213, 3) := by decide +kernel
theorem d_X_reopen_16 : decode prog_1_method_13_code 16 = .ok (.aload_n 0, 1) := by decide +kernel
theorem d_X_reopen_17 : decode prog_1_method_13_code 17 = .ok (.invokevirtual 216, 3) := by decide +kernel
theorem d_X_reopen_20 : decode prog_1_method_13_code 20 = .ok (.iconst 0, 1) := by decide +kernel
theorem d_X_reopen_21 : decode prog_1_method_13_code 21 = .ok (.istore_n 1, 1) := by decide +kernel
theorem d_X_reopen_22 : decode prog_1_method_13_code 22 = .ok (.iload_n 1, 1) := by decide +kernel
theorem d_X_reopen_23 : decode prog_1_method_13_code 23 = .ok (.bipush 16, 2) := by decide +kernel
theorem d_X_reopen_25 : decode prog_1_method_13_code 25 = .ok (.if_icmp .ge 14, 3) := by decide +kernel
theorem d_X_reopen_28 : decode prog_1_method_13_code 28 = .ok (.aload_n 0, 1) := by decide +kernel
theorem d_X_reopen_29 : decode prog_1_method_13_code 29 = .ok (.iload_n 1, 1) := by decide +kernel
theorem d_X_reopen_30 : decode prog_1_method_13_code 30 = .ok (.invokevirtual 219, 3) := by decide +kernel
theorem d_X_reopen_33 : decode prog_1_method_13_code 33 = .ok (.iinc 1 1, 3) := by decide +kernel
theorem d_X_reopen_36 : decode prog_1_method_13_code 36 = .ok (.goto (-14), 3) := by decide +kernel
theorem d_X_reopen_39 : decode prog_1_method_13_code 39 = .ok (.aload_n 0, 1) := by decide +kernel
theorem d_X_reopen_40 : decode prog_1_method_13_code 40 = .ok (.invokevirtual 222, 3) := by decide +kernel
theorem d_X_reopen_43 : decode prog_1_method_13_code 43 = .ok (.ireturn, 1) := by decide +kernel
theorem d_X_badAt_0 : decode prog_1_method_15_code 0 = .ok (.iconst 0, 1) := by decide +kernel
theorem d_X_badAt_1 : decode prog_1_method_15_code 1 = .ok (.istore_n 1, 1) := by decide +kernel
theorem d_X_badAt_2 : decode prog_1_method_15_code 2 = .ok (.iload_n 1, 1) := by decide +kernel
theorem d_X_badAt_3 : decode prog_1_method_15_code 3 = .ok (.aload_n 0, 1) := by decide +kernel
theorem d_X_badAt_4 : decode prog_1_method_15_code 4 = .ok (.getfield 23, 3) := by decide +kernel
theorem d_X_badAt_7 : decode prog_1_method_15_code 7 = .ok (.getfield 233, 3) := by decide +kernel
theorem d_X_badAt_10 : decode prog_1_method_15_code 10 = .ok (.if_icmp .ge 33, 3) := by decide +kernel
theorem d_X_badAt_13 : decode prog_1_method_15_code 13 = .ok (.aload_n 0, 1) := by decide +kernel
theorem d_X_badAt_14 : decode prog_1_method_15_code 14 = .ok (.getfield 23, 3) := by decide +kernel
theorem d_X_badAt_17 : decode prog_1_method_15_code 17 = .ok (.iload_n 1, 1) := by decide +kernel
theorem d_X_badAt_18 : decode prog_1_method_15_code 18 = .ok (.invokevirtual 236, 3) := by decide +kernel
theorem d_X_badAt_21 : decode prog_1_method_15_code 21 = .ok (.ifCond .ne 16, 3) := by decide +kernel
theorem d_X_badAt_24 : decode prog_1_method_15_code 24 = .ok (.aload_n 0, 1) := by decide +kernel
theorem d_X_badAt_25 : decode prog_1_method_15_code 25 = .ok (.getfield 23, 3) := by decide +kernel
theorem d_X_badAt_28 : decode prog_1_method_15_code 28 = .ok (.iload_n 1, 1) := by decide +kernel
theorem d_X_badAt_29 : decode prog_1_method_15_code 29 = .ok (.invokevirtual 239, 3) := by decide +kernel
theorem d_X_badAt_32 : decode prog_1_method_15_code 32 = .ok (.ifCond .ne 5, 3) := by decide +kernel
theorem d_X_badAt_35 : decode prog_1_method_15_code 35 = .ok (.iload_n 1, 1) := by decide +kernel
theorem d_X_badAt_36 : decode prog_1_method_15_code 36 = .ok (.ireturn, 1) := by decide +kernel
theorem d_X_badAt_37 : decode prog_1_method_15_code 37 = .ok (.iinc 1 1, 3) := by decide +kernel
theorem d_X_badAt_40 : decode prog_1_method_15_code 40 = .ok (.goto (-38), 3) := by decide +kernel
theorem d_X_badAt_43 : decode prog_1_method_15_code 43 = .ok (.iconst (-1), 1) := by decide +kernel
theorem d_X_badAt_44 : decode prog_1_method_15_code 44 = .ok (.ireturn, 1) := by decide +kernel
theorem d_X_told_0 : decode prog_1_method_17_code 0 = .ok (.iload_n 1, 1) := by decide +kernel
theorem d_X_told_1 : decode prog_1_method_17_code 1 = .ok (.tableswitch 109 0 6 #[43, 51, 70, 75, 80, 85, 101], 43) := by decide +kernel
theorem d_X_told_110 : decode prog_1_method_17_code 110 = .ok (.iconst (-1), 1) := by decide +kernel
theorem d_X_told_111 : decode prog_1_method_17_code 111 = .ok (.ireturn, 1) := by decide +kernel
theorem d_X_told_102 : decode prog_1_method_17_code 102 = .ok (.aload_n 0, 1) := by decide +kernel
theorem d_X_told_103 : decode prog_1_method_17_code 103 = .ok (.getfield 23, 3) := by decide +kernel
theorem d_X_told_106 : decode prog_1_method_17_code 106 = .ok (.getfield 210, 3) := by decide +kernel
theorem d_X_told_109 : decode prog_1_method_17_code 109 = .ok (.ireturn, 1) := by decide +kernel
theorem d_X_told_86 : decode prog_1_method_17_code 86 = .ok (.aload_n 0, 1) := by decide +kernel
theorem d_X_told_87 : decode prog_1_method_17_code 87 = .ok (.getfield 23, 3) := by decide +kernel
theorem d_X_told_90 : decode prog_1_method_17_code 90 = .ok (.getfield 213, 3) := by decide +kernel
theorem d_X_told_93 : decode prog_1_method_17_code 93 = .ok (.ifCond .eq 7, 3) := by decide +kernel
theorem d_X_told_96 : decode prog_1_method_17_code 96 = .ok (.iconst 1, 1) := by decide +kernel
theorem d_X_told_97 : decode prog_1_method_17_code 97 = .ok (.goto 4, 3) := by decide +kernel
theorem d_X_told_101 : decode prog_1_method_17_code 101 = .ok (.ireturn, 1) := by decide +kernel
theorem d_X_told_100 : decode prog_1_method_17_code 100 = .ok (.iconst 0, 1) := by decide +kernel
theorem d_X_told_81 : decode prog_1_method_17_code 81 = .ok (.aload_n 0, 1) := by decide +kernel
theorem d_X_told_82 : decode prog_1_method_17_code 82 = .ok (.getfield 62, 3) := by decide +kernel
theorem d_X_told_85 : decode prog_1_method_17_code 85 = .ok (.ireturn, 1) := by decide +kernel
theorem d_X_told_76 : decode prog_1_method_17_code 76 = .ok (.aload_n 0, 1) := by decide +kernel
theorem d_X_told_77 : decode prog_1_method_17_code 77 = .ok (.invokevirtual 248, 3) := by decide +kernel
theorem d_X_told_80 : decode prog_1_method_17_code 80 = .ok (.ireturn, 1) := by decide +kernel
theorem d_X_told_71 : decode prog_1_method_17_code 71 = .ok (.aload_n 0, 1) := by decide +kernel
theorem d_X_told_72 : decode prog_1_method_17_code 72 = .ok (.invokevirtual 222, 3) := by decide +kernel
theorem d_X_told_75 : decode prog_1_method_17_code 75 = .ok (.ireturn, 1) := by decide +kernel
theorem d_X_told_52 : decode prog_1_method_17_code 52 = .ok (.aload_n 0, 1) := by decide +kernel
theorem d_X_told_53 : decode prog_1_method_17_code 53 = .ok (.getfield 23, 3) := by decide +kernel
theorem d_X_told_56 : decode prog_1_method_17_code 56 = .ok (.getfield 213, 3) := by decide +kernel
theorem d_X_told_59 : decode prog_1_method_17_code 59 = .ok (.ifCond .eq 7, 3) := by decide +kernel
theorem d_X_told_62 : decode prog_1_method_17_code 62 = .ok (.iconst 0, 1) := by decide +kernel
theorem d_X_told_63 : decode prog_1_method_17_code 63 = .ok (.goto 7, 3) := by decide +kernel
theorem d_X_told_70 : decode prog_1_method_17_code 70 = .ok (.ireturn, 1) := by decide +kernel
theorem d_X_told_66 : decode prog_1_method_17_code 66 = .ok (.aload_n 0, 1) := by decide +kernel
theorem d_X_told_67 : decode prog_1_method_17_code 67 = .ok (.invokevirtual 245, 3) := by decide +kernel
theorem d_X_told_44 : decode prog_1_method_17_code 44 = .ok (.aload_n 0, 1) := by decide +kernel
theorem d_X_told_45 : decode prog_1_method_17_code 45 = .ok (.getfield 23, 3) := by decide +kernel
theorem d_X_told_48 : decode prog_1_method_17_code 48 = .ok (.getfield 233, 3) := by decide +kernel
theorem d_X_told_51 : decode prog_1_method_17_code 51 = .ok (.ireturn, 1) := by decide +kernel
theorem d_X_wipeFreeBlocks_0 : decode prog_1_method_29_code 0 = .ok (.iconst 0, 1) := by decide +kernel
theorem d_X_wipeFreeBlocks_1 : decode prog_1_method_29_code 1 = .ok (.istore_n 2, 1) := by decide +kernel
theorem d_X_wipeFreeBlocks_2 : decode prog_1_method_29_code 2 = .ok (.iconst 0, 1) := by decide +kernel
theorem d_X_wipeFreeBlocks_3 : decode prog_1_method_29_code 3 = .ok (.istore_n 3, 1) := by decide +kernel
theorem d_X_wipeFreeBlocks_4 : decode prog_1_method_29_code 4 = .ok (.iload_n 3, 1) := by decide +kernel
theorem d_X_wipeFreeBlocks_5 : decode prog_1_method_29_code 5 = .ok (.aload_n 0, 1) := by decide +kernel
theorem d_X_wipeFreeBlocks_6 : decode prog_1_method_29_code 6 = .ok (.getfield 23, 3) := by decide +kernel
theorem d_X_wipeFreeBlocks_9 : decode prog_1_method_29_code 9 = .ok (.getfield 233, 3) := by decide +kernel
theorem d_X_wipeFreeBlocks_12 : decode prog_1_method_29_code 12 = .ok (.if_icmp .ge 76, 3) := by decide +kernel
theorem d_X_wipeFreeBlocks_15 : decode prog_1_method_29_code 15 = .ok (.iload_n 1, 1) := by decide +kernel
theorem d_X_wipeFreeBlocks_16 : decode prog_1_method_29_code 16 = .ok (.iconst (-1), 1) := by decide +kernel
theorem d_X_wipeFreeBlocks_17 : decode prog_1_method_29_code 17 = .ok (.if_icmp .eq 16, 3) := by decide +kernel
theorem d_X_wipeFreeBlocks_20 : decode prog_1_method_29_code 20 = .ok (.aload_n 0, 1) := by decide +kernel
theorem d_X_wipeFreeBlocks_21 : decode prog_1_method_29_code 21 = .ok (.getfield 23, 3) := by decide +kernel
theorem d_X_wipeFreeBlocks_24 : decode prog_1_method_29_code 24 = .ok (.iload_n 3, 1) := by decide +kernel
theorem d_X_wipeFreeBlocks_25 : decode prog_1_method_29_code 25 = .ok (.iconst 5, 1) := by decide +kernel
theorem d_X_wipeFreeBlocks_26 : decode prog_1_method_29_code 26 = .ok (.invokevirtual 242, 3) := by decide +kernel
theorem d_X_wipeFreeBlocks_29 : decode prog_1_method_29_code 29 = .ok (.iload_n 1, 1) := by decide +kernel
theorem d_X_wipeFreeBlocks_30 : decode prog_1_method_29_code 30 = .ok (.if_icmp .ne 7, 3) := by decide +kernel
theorem d_X_wipeFreeBlocks_33 : decode prog_1_method_29_code 33 = .ok (.iconst 1, 1) := by decide +kernel
theorem d_X_wipeFreeBlocks_34 : decode prog_1_method_29_code 34 = .ok (.goto 4, 3) := by decide +kernel
theorem d_X_wipeFreeBlocks_38 : decode prog_1_method_29_code 38 = .ok (.istore 4, 2) := by decide +kernel
theorem d_X_wipeFreeBlocks_40 : decode prog_1_method_29_code 40 = .ok (.aload_n 0, 1) := by decide +kernel
theorem d_X_wipeFreeBlocks_41 : decode prog_1_method_29_code 41 = .ok (.getfield 27, 3) := by decide +kernel
theorem d_X_wipeFreeBlocks_44 : decode prog_1_method_29_code 44 = .ok (.iload_n 3, 1) := by decide +kernel
theorem d_X_wipeFreeBlocks_45 : decode prog_1_method_29_code 45 = .ok (.baload, 1) := by decide +kernel
theorem d_X_wipeFreeBlocks_46 : decode prog_1_method_29_code 46 = .ok (.ifCond .ne 36, 3) := by decide +kernel
theorem d_X_wipeFreeBlocks_49 : decode prog_1_method_29_code 49 = .ok (.iload 4, 2) := by decide +kernel
theorem d_X_wipeFreeBlocks_51 : decode prog_1_method_29_code 51 = .ok (.ifCond .eq 31, 3) := by decide +kernel
theorem d_X_wipeFreeBlocks_54 : decode prog_1_method_29_code 54 = .ok (.aload_n 0, 1) := by decide +kernel
theorem d_X_wipeFreeBlocks_55 : decode prog_1_method_29_code 55 = .ok (.getfield 23, 3) := by decide +kernel
theorem d_X_wipeFreeBlocks_58 : decode prog_1_method_29_code 58 = .ok (.iload_n 3, 1) := by decide +kernel
theorem d_X_wipeFreeBlocks_59 : decode prog_1_method_29_code 59 = .ok (.invokevirtual 236, 3) := by decide +kernel
theorem d_X_wipeFreeBlocks_62 : decode prog_1_method_29_code 62 = .ok (.ifCond .ne 20, 3) := by decide +kernel
theorem d_X_wipeFreeBlocks_65 : decode prog_1_method_29_code 65 = .ok (.aload_n 0, 1) := by decide +kernel
theorem d_X_wipeFreeBlocks_66 : decode prog_1_method_29_code 66 = .ok (.getfield 23, 3) := by decide +kernel
theorem d_X_wipeFreeBlocks_69 : decode prog_1_method_29_code 69 = .ok (.iload_n 3, 1) := by decide +kernel
theorem d_X_wipeFreeBlocks_70 : decode prog_1_method_29_code 70 = .ok (.invokevirtual 197, 3) := by decide +kernel
theorem d_X_wipeFreeBlocks_73 : decode prog_1_method_29_code 73 = .ok (.ifCond .ne 6, 3) := by decide +kernel
theorem d_X_wipeFreeBlocks_76 : decode prog_1_method_29_code 76 = .ok (.bipush (-2), 2) := by decide +kernel
theorem d_X_wipeFreeBlocks_78 : decode prog_1_method_29_code 78 = .ok (.ireturn, 1) := by decide +kernel
theorem d_X_wipeFreeBlocks_79 : decode prog_1_method_29_code 79 = .ok (.iinc 2 1, 3) := by decide +kernel
theorem d_X_wipeFreeBlocks_82 : decode prog_1_method_29_code 82 = .ok (.iinc 3 1, 3) := by decide +kernel
theorem d_X_wipeFreeBlocks_85 : decode prog_1_method_29_code 85 = .ok (.goto (-81), 3) := by decide +kernel
theorem d_X_wipeFreeBlocks_37 : decode prog_1_method_29_code 37 = .ok (.iconst 0, 1) := by decide +kernel
theorem d_X_wipeFreeBlocks_88 : decode prog_1_method_29_code 88 = .ok (.iload_n 2, 1) := by decide +kernel
theorem d_X_wipeFreeBlocks_89 : decode prog_1_method_29_code 89 = .ok (.ireturn, 1) := by decide +kernel
def f_X_readRecord_137 (xn : Nat) (a1 : Nat) (a4 : Int32) (z0 : x_St) : Option (Int32 × x_St) :=
  (x_cl (f_P_fillsMessage xn (a1 + 1) a4 z0) (fun r1 z1 =>
  (x_ckb r1
  (some (r1, z1)))))
def f_X_readRecord_6 (xn : Nat) : Nat → Nat → Int32 → Int32 → Int32 → Int32 → x_St → Option (Int32 × x_St)
  | 0, _, _, _, _, _, _ => none
  | fu + 1, a1, a2, a3, a4, a5, z0 =>
    (if a3 ≤ a5 then
    (f_X_readRecord_137 xn a1 a4 z0)
    else
    (if (2 : Int32) ≤ a5 then
    (f_X_readRecord_137 xn a1 a4 z0)
    else
    (x_cl (f_B_kindOf xn a5 z0) (fun r5 z5 =>
    (x_cl (f_B_onlyGood xn r5 a2 a5 z5) (fun r7 z7 =>
    (if r7 = (-1 : Int32) then
    (some ((0 : Int32), z7))
    else
    (x_cl (f_B_get xn r7 (7 : Int32) z7) (fun r10 z10 =>
    (if a5 = (a3 - (1 : Int32)) then
    (if (a4 + r10) ≤ (66 : Int32) then
    (x_cl (f_B_copyData xn r7 r10 ((a1 + 1) + 1) a4 z10) (fun r19 z19 =>
    (x_ck a5 (x_ln xn (a1 + 4))
    (f_X_readRecord_6 xn fu a1 a2 a3 (a4 + r10) (a5 + (1 : Int32)) (x_put z19 (a1 + 4) (a5).toNatClampNeg r7)))))
    else
    (some ((0 : Int32), z10)))
    else
    (if r10 = (56 : Int32) then
    (if (a4 + r10) ≤ (66 : Int32) then
    (x_cl (f_B_copyData xn r7 r10 ((a1 + 1) + 1) a4 z10) (fun r15 z15 =>
    (x_ck a5 (x_ln xn (a1 + 4))
    (f_X_readRecord_6 xn fu a1 a2 a3 (a4 + r10) (a5 + (1 : Int32)) (x_put z15 (a1 + 4) (a5).toNatClampNeg r7)))))
    else
    (some ((0 : Int32), z10)))
    else
    (some ((0 : Int32), z10)))))))))))))
def f_X_readRecord (xn : Nat) (k1 : Nat) (p2 : Int32) (p3 : Int32) (z0 : x_St) : Option (Int32 × x_St) :=
  (f_X_readRecord_6 xn x_FU k1 p2 p3 (0 : Int32) (0 : Int32) z0)
def f_X_openNumber (xn : Nat) (p1 : Int32) (z0 : x_St) : Option (Unit × x_St) :=
  (x_ck p1 16
  (x_cl (f_B_onlyGood xn (3 : Int32) p1 (-1 : Int32) z0) (fun r2 z2 =>
  (if r2 = (-1 : Int32) then
  (some ((), z2))
  else
  (x_cl (f_B_isMarkAsTold xn r2 z2) (fun r5 z5 =>
  (if r5 = 0 then
  (some ((), z5))
  else
  (x_cl (f_B_get xn r2 (8 : Int32) z5) (fun r8 z8 =>
  (x_cl (f_X_readRecord xn (23 + 5 * (p1).toNatClampNeg) p1 r8 z8) (fun r10 z10 =>
  (if r10 = 0 then
  (some ((), z10))
  else
  none))))))))))))
def f_X_reopen_39 (xn : Nat)  (z0 : x_St) : Option (Int32 × x_St) :=
  (x_cl (f_X_countKept xn z0) (fun r1 z1 =>
  (some (r1, z1))))
def f_X_reopen_22 (xn : Nat) : Nat → Int32 → x_St → Option (Int32 × x_St)
  | 0, _, _ => none
  | fu + 1, a1, z0 =>
    (if (16 : Int32) ≤ a1 then
    (f_X_reopen_39 xn z0)
    else
    (x_cl (f_X_openNumber xn a1 z0) (fun r4 z4 =>
    (f_X_reopen_22 xn fu (a1 + (1 : Int32)) z4))))
def f_X_reopen (xn : Nat)  (z0 : x_St) : Option (Int32 × x_St) :=
  (x_cl (f_X_forget xn (x_put (x_put z0 1 1 (-1 : Int32)) 1 2 (0 : Int32))) (fun r6 z6 =>
  (f_X_reopen_22 xn x_FU (0 : Int32) z6)))
def f_X_badAt_35 (xn : Nat) (a1 : Int32) (z0 : x_St) : Option (Int32 × x_St) :=
  (some (a1, z0))
def f_X_badAt_2 (xn : Nat) : Nat → Int32 → x_St → Option (Int32 × x_St)
  | 0, _, _ => none
  | fu + 1, a1, z0 =>
    (if (z0.1 1 0) ≤ a1 then
    (some ((-1 : Int32), z0))
    else
    (x_cl (f_B_isBlank xn a1 z0) (fun r2 z2 =>
    (if r2 = 0 then
    (x_cl (f_B_isGood xn a1 z2) (fun r5 z5 =>
    (if r5 = 0 then
    (f_X_badAt_35 xn a1 z5)
    else
    (f_X_badAt_2 xn fu (a1 + (1 : Int32)) z5))))
    else
    (f_X_badAt_2 xn fu (a1 + (1 : Int32)) z2)))))
def f_X_badAt (xn : Nat)  (z0 : x_St) : Option (Int32 × x_St) :=
  (f_X_badAt_2 xn x_FU (0 : Int32) z0)
def f_X_told (xn : Nat) (p1 : Int32) (z0 : x_St) : Option (Int32 × x_St) :=
  (if p1 = (0 : Int32) then
  (some ((z0.1 1 0), z0))
  else
  (if p1 = (1 : Int32) then
  (if (z0.1 1 2) = 0 then
  (x_cl (f_X_countFreeBlocks xn z0) (fun r4 z4 =>
  (some (r4, z4))))
  else
  (some ((0 : Int32), z0)))
  else
  (if p1 = (2 : Int32) then
  (x_cl (f_X_countKept xn z0) (fun r7 z7 =>
  (some (r7, z7))))
  else
  (if p1 = (3 : Int32) then
  (x_cl (f_X_countMade xn z0) (fun r10 z10 =>
  (some (r10, z10))))
  else
  (if p1 = (4 : Int32) then
  (some ((z0.1 0 8), z0))
  else
  (if p1 = (5 : Int32) then
  (if (z0.1 1 2) = 0 then
  (some ((0 : Int32), z0))
  else
  (some ((1 : Int32), z0)))
  else
  (if p1 = (6 : Int32) then
  (some ((z0.1 1 1), z0))
  else
  (some ((-1 : Int32), z0)))))))))
def f_X_wipeFreeBlocks_88 (xn : Nat) (a2 : Int32) (z0 : x_St) : Option (Int32 × x_St) :=
  (some (a2, z0))
def f_X_wipeFreeBlocks_76 (xn : Nat)  (z0 : x_St) : Option (Int32 × x_St) :=
  (some ((-2 : Int32), z0))
def f_X_wipeFreeBlocks_4 (xn : Nat) : Nat → Int32 → Int32 → Int32 → x_St → Option (Int32 × x_St)
  | 0, _, _, _, _ => none
  | fu + 1, a1, a2, a3, z0 =>
    (if (z0.1 1 0) ≤ a3 then
    (f_X_wipeFreeBlocks_88 xn a2 z0)
    else
    (if a1 = (-1 : Int32) then
    (x_ck a3 xn
    (if (z0.1 4 (a3).toNatClampNeg) = 0 then
    (x_cl (f_B_isBlank xn a3 z0) (fun r5 z5 =>
    (if r5 = 0 then
    (x_cl (f_B_wipe xn a3 z5) (fun r8 z8 =>
    (if r8 = 0 then
    (f_X_wipeFreeBlocks_76 xn z8)
    else
    (f_X_wipeFreeBlocks_4 xn fu a1 (a2 + (1 : Int32)) (a3 + (1 : Int32)) z8))))
    else
    (f_X_wipeFreeBlocks_4 xn fu a1 a2 (a3 + (1 : Int32)) z5))))
    else
    (f_X_wipeFreeBlocks_4 xn fu a1 a2 (a3 + (1 : Int32)) z0)))
    else
    (x_cl (f_B_get xn a3 (5 : Int32) z0) (fun r11 z11 =>
    (if r11 = a1 then
    (x_ck a3 xn
    (if (z11.1 4 (a3).toNatClampNeg) = 0 then
    (x_cl (f_B_isBlank xn a3 z11) (fun r18 z18 =>
    (if r18 = 0 then
    (x_cl (f_B_wipe xn a3 z18) (fun r21 z21 =>
    (if r21 = 0 then
    (f_X_wipeFreeBlocks_76 xn z21)
    else
    (f_X_wipeFreeBlocks_4 xn fu a1 (a2 + (1 : Int32)) (a3 + (1 : Int32)) z21))))
    else
    (f_X_wipeFreeBlocks_4 xn fu a1 a2 (a3 + (1 : Int32)) z18))))
    else
    (f_X_wipeFreeBlocks_4 xn fu a1 a2 (a3 + (1 : Int32)) z11)))
    else
    (x_ck a3 xn
    (if (z11.1 4 (a3).toNatClampNeg) = 0 then
    (f_X_wipeFreeBlocks_4 xn fu a1 a2 (a3 + (1 : Int32)) z11)
    else
    (f_X_wipeFreeBlocks_4 xn fu a1 a2 (a3 + (1 : Int32)) z11))))))))
def f_X_wipeFreeBlocks (xn : Nat) (p1 : Int32) (z0 : x_St) : Option (Int32 × x_St) :=
  (f_X_wipeFreeBlocks_4 xn x_FU p1 (0 : Int32) (0 : Int32) z0)
abbrev rm_X_readRecord : Room := { frames := 5, cells := 0, slots := 0, locals := 116 }
set_option maxHeartbeats 4000000 in
set_option maxRecDepth 100000 in
theorem w_X_readRecord_137 (l : Launch) (G : x_G) {p : Program} {e : Env} {s : State} {m : MethodId} {args : Array Value} {below : List Frame} {meth : Method} {c : Code} (C0 : x_Ctx G p s m args meth c prog_1_method_31_code "ContentLibrary" 9 (some .boolean)) (r : Int32) (zo : x_St) : ∀ (a1 : Nat) (ha1 : x_isK a1 = true) (a4 : Int32) (z0 : x_St), f_X_readRecord_137 (x_n G) a1 a4 z0 = some (r, zo) → ∀ (H : Heap) (locs : List Loc) (ls : Array Slot), va_P (x_D G) vwCl (x_Wd G z0) H → va_D (x_A G) (x_Wd G z0) → va_S (x_A G) s.heap H locs → lv_has ls 9 [(1, .ref (x_ad G a1)), (4, .int a4)] → W p l e rm_X_readRecord s m args below meth c H locs 0 0 (MQ below (va_Qi (fun a u => r = a ∧ zo = u) (x_PW G) (x_A G)) args s 0 0 (x_A G)) (F0 m 137 ls []) := by
  obtain ⟨hx, hb, hr, hml, hown, hts, hlocks, hz, hK, hG⟩ := id C0
  intro a1 ha1 a4 z0 hf H locs ls hP hD hS hl
  rw [f_X_readRecord_137] at hf
  refine lv_aload_n hx hb d_X_readRecord_137 rfl (lv_at hl 0 rfl) ?_
  refine va_get (D := x_D G) (ci := 3) (v := .ref (x_ad G (a1 + 1))) (C := "ContentLibrary$Kept") (T := x_TK) (N := 6) hx hb hts x_inK hown hK hP a1 (x_lk_K G _ ha1) rfl 1 (by decide) (hts _ t_92) (fun _ h9 => h9) rfl d_X_readRecord_138 ?_
  refine lv_iload hx hb d_X_readRecord_141 (lv_at hl 1 rfl) ?_
  obtain ⟨r1, z1, hq2, hf⟩ := x_cl_some hf
  refine va_calli (va_runV (As := [.int a4]) (rest := []) ⟨hx, hb, hml, hown, hts⟩ (c_P_fillsMessage l G (a1 + 1) (x_K_P ha1) a4 z0 r1 z1 hq2) (cwV 1 hts (x_gV t_215 t_216 t_217 t_4 t_218) rfl rfl rfl (by decide +kernel) ⟨Nat.le_of_ble_eq_true rfl, Nat.le_of_ble_eq_true rfl⟩) ⟨x_blind _ _ _, va_recv hK hP (ci := 2) (q0 := (a1 + 1)) rfl (x_lk_P G _ (x_K_P ha1)), fun U hU hW => ⟨rfl, x_pw hP hD hK hG hS hz hU hW⟩⟩ rfl rfl hl.1 rfl (lv_room (Nat.le_of_ble_eq_true rfl)) d_X_readRecord_143 ⟨Nat.le_of_ble_eq_true rfl, Nat.le_of_ble_eq_true rfl⟩) hS (fun q _ h => h) (fun q h => h) (fun ra u t H locs ht hvm hw hB _ _ hS => ?_)
  obtain ⟨rfl, rfl⟩ := hw
  obtain ⟨hP, hD⟩ := x_back hB ht
  obtain ⟨hbo, hf⟩ := x_ckb_some hf
  obtain ⟨rfl, rfl⟩ := x_ret hf
  exact W.zret (v := r1) hx hb hr (x_nb hbo) (fun t ht hW => ⟨⟨_, _, rfl, ⟨rfl, rfl⟩, x_pw hP hD hK hG hS hz ht hW⟩, hS.F ht⟩) hS.2.2 d_X_readRecord_146
set_option maxHeartbeats 4000000 in
set_option maxRecDepth 100000 in
theorem w_X_readRecord_6 (l : Launch) (G : x_G) {p : Program} {e : Env} {s : State} {m : MethodId} {args : Array Value} {below : List Frame} {meth : Method} {c : Code} (C0 : x_Ctx G p s m args meth c prog_1_method_31_code "ContentLibrary" 9 (some .boolean)) (r : Int32) (zo : x_St) : ∀ (fu : Nat), ∀ (a1 : Nat) (ha1 : x_isK a1 = true) (a2 : Int32) (a3 : Int32) (a4 : Int32) (a5 : Int32) (z0 : x_St), f_X_readRecord_6 (x_n G) fu a1 a2 a3 a4 a5 z0 = some (r, zo) → ∀ (H : Heap) (locs : List Loc) (ls : Array Slot), va_P (x_D G) vwCl (x_Wd G z0) H → va_D (x_A G) (x_Wd G z0) → va_S (x_A G) s.heap H locs → lv_has ls 9 [(0, .ref (x_ad G 0)), (1, .ref (x_ad G a1)), (2, .int a2), (3, .int a3), (4, .int a4), (5, .int a5)] → W p l e rm_X_readRecord s m args below meth c H locs 0 0 (MQ below (va_Qi (fun a u => r = a ∧ zo = u) (x_PW G) (x_A G)) args s 0 0 (x_A G)) (F0 m 6 ls []) := by
  obtain ⟨hx, hb, hr, hml, hown, hts, hlocks, hz, hK, hG⟩ := id C0
  intro fu
  induction fu with
  | zero =>
    intro a1 ha1 a2 a3 a4 a5 z0 hf
    rw [f_X_readRecord_6] at hf
    cases hf
  | succ fu ih =>
    intro a1 ha1 a2 a3 a4 a5 z0 hf H locs ls hP hD hS hl
    rw [f_X_readRecord_6] at hf
    refine lv_iload hx hb d_X_readRecord_6 (lv_at hl 5 rfl) ?_
    refine lv_iload_n hx hb d_X_readRecord_8 rfl (lv_at hl 3 rfl) ?_
    refine lv_icmp_ge (tgt := 137) hx hb d_X_readRecord_9 (by decide) (fun hc3 => ?_) (fun hc3 => ?_)
    · have hf := x_br_t hf hc3
      exact w_X_readRecord_137 l G C0 r zo a1 ha1 a4 z0 hf _ _ _ hP hD hS (lv_sub hl [1, 4] rfl)
    · have hf := x_br_f hf hc3
      refine lv_iload hx hb d_X_readRecord_12 (lv_at hl 5 rfl) ?_
      refine lv_iconst (v := (2 : Int32)) hx hb d_X_readRecord_14 (by decide) ?_
      refine lv_icmp_ge (tgt := 137) hx hb d_X_readRecord_15 (by decide) (fun hc4 => ?_) (fun hc4 => ?_)
      · have hf := x_br_t hf hc4
        exact w_X_readRecord_137 l G C0 r zo a1 ha1 a4 z0 hf _ _ _ hP hD hS (lv_sub hl [1, 4] rfl)
      · have hf := x_br_f hf hc4
        refine lv_aload_n hx hb d_X_readRecord_18 rfl (lv_at hl 0 rfl) ?_
        refine va_get (D := x_D G) (ci := 0) (v := .ref (x_ad G 1)) (C := "ContentLibrary") (T := x_TX) (N := 9) hx hb hts x_inX hown hK hP 0 (x_lk_X G _) rfl 0 (by decide) (hts _ t_130) (fun _ h9 => h9) rfl d_X_readRecord_19 ?_
        refine lv_iload hx hb d_X_readRecord_22 (lv_at hl 5 rfl) ?_
        obtain ⟨r5, z5, hq6, hf⟩ := x_cl_some hf
        refine va_calli (va_runS (As := [.int a5]) (rest := [.ref (x_ad G 1)]) ⟨hx, hb, hml, hown, hts⟩ (c_B_kindOf l G a5 z0 r5 z5 hq6) (va_cwS 1 hts (x_gS t_205 t_206 t_3 t_207) rfl rfl rfl (by decide +kernel) ⟨Nat.le_of_ble_eq_true rfl, Nat.le_of_ble_eq_true rfl⟩) ⟨x_blind _ _ _, fun U hU hW => ⟨rfl, x_pw hP hD hK hG hS hz hU hW⟩⟩ rfl rfl hl.1 rfl (lv_room (Nat.le_of_ble_eq_true rfl)) d_X_readRecord_24 ⟨Nat.le_of_ble_eq_true rfl, Nat.le_of_ble_eq_true rfl⟩) hS (fun q _ h => h) (fun q h => h) (fun ra u t H locs ht hvm hw hB _ _ hS => ?_)
        obtain ⟨rfl, rfl⟩ := hw
        obtain ⟨hP, hD⟩ := x_back hB ht
        refine lv_iload_n hx hb d_X_readRecord_27 rfl (lv_at hl 2 rfl) ?_
        refine lv_iload hx hb d_X_readRecord_28 (lv_at hl 5 rfl) ?_
        obtain ⟨r7, z7, hq8, hf⟩ := x_cl_some hf
        refine va_calli (va_runV (As := [.int r5, .int a2, .int a5]) (rest := []) ⟨hx, hb, hml, hown, hts⟩ (c_B_onlyGood l G r5 a2 a5 z5 r7 z7 hq8) (cwV 3 hts (x_gV t_170 t_171 t_172 t_3 t_173) rfl rfl rfl (by decide +kernel) ⟨Nat.le_of_ble_eq_true rfl, Nat.le_of_ble_eq_true rfl⟩) ⟨x_blind _ _ _, va_recv hK hP (ci := 1) (q0 := 1) rfl (x_lk_B G _), fun U hU hW => ⟨rfl, x_pw hP hD hK hG hS hz hU hW⟩⟩ rfl rfl hl.1 rfl (lv_room (Nat.le_of_ble_eq_true rfl)) d_X_readRecord_30 ⟨Nat.le_of_ble_eq_true rfl, Nat.le_of_ble_eq_true rfl⟩) hS (fun q _ h => h) (fun q h => h) (fun ra u t H locs ht hvm hw hB _ _ hS => ?_)
        obtain ⟨rfl, rfl⟩ := hw
        obtain ⟨hP, hD⟩ := x_back hB ht
        refine lv_istore (lv' := [(6, .int r7), (0, .ref (x_ad G 0)), (1, .ref (x_ad G a1)), (2, .int a2), (3, .int a3), (4, .int a4), (5, .int a5)]) hx hb d_X_readRecord_33 hl (by decide) rfl (fun ls hl => ?_)
        refine lv_iload hx hb d_X_readRecord_35 (lv_at hl 0 rfl) ?_
        refine lv_iconst (v := (-1 : Int32)) hx hb d_X_readRecord_37 (by decide) ?_
        refine lv_icmp_ne (tgt := 43) hx hb d_X_readRecord_38 (by decide) (fun hc9 => ?_) (fun hc9 => ?_)
        · have hf := x_br_f hf hc9
          refine lv_aload_n hx hb d_X_readRecord_43 rfl (lv_at hl 1 rfl) ?_
          refine va_get (D := x_D G) (ci := 0) (v := .ref (x_ad G 1)) (C := "ContentLibrary") (T := x_TX) (N := 9) hx hb hts x_inX hown hK hP 0 (x_lk_X G _) rfl 0 (by decide) (hts _ t_130) (fun _ h9 => h9) rfl d_X_readRecord_44 ?_
          refine lv_iload hx hb d_X_readRecord_47 (lv_at hl 0 rfl) ?_
          refine lv_bipush (v := (7 : Int32)) hx hb d_X_readRecord_49 (by decide) ?_
          obtain ⟨r10, z10, hq11, hf⟩ := x_cl_some hf
          refine va_calli (va_runV (As := [.int r7, .int (7 : Int32)]) (rest := []) ⟨hx, hb, hml, hown, hts⟩ (c_B_get l G r7 (7 : Int32) z7 r10 z10 hq11) (cwV 2 hts (x_gV t_200 t_175 t_176 t_3 t_177) rfl rfl rfl (by decide +kernel) ⟨Nat.le_of_ble_eq_true rfl, Nat.le_of_ble_eq_true rfl⟩) ⟨x_blind _ _ _, va_recv hK hP (ci := 1) (q0 := 1) rfl (x_lk_B G _), fun U hU hW => ⟨rfl, x_pw hP hD hK hG hS hz hU hW⟩⟩ rfl rfl hl.1 rfl (lv_room (Nat.le_of_ble_eq_true rfl)) d_X_readRecord_51 ⟨Nat.le_of_ble_eq_true rfl, Nat.le_of_ble_eq_true rfl⟩) hS (fun q _ h => h) (fun q h => h) (fun ra u t H locs ht hvm hw hB _ _ hS => ?_)
          obtain ⟨rfl, rfl⟩ := hw
          obtain ⟨hP, hD⟩ := x_back hB ht
          refine lv_istore (lv' := [(7, .int r10), (6, .int r7), (0, .ref (x_ad G 0)), (1, .ref (x_ad G a1)), (2, .int a2), (3, .int a3), (4, .int a4), (5, .int a5)]) hx hb d_X_readRecord_54 hl (by decide) rfl (fun ls hl => ?_)
          refine lv_iload hx hb d_X_readRecord_56 (lv_at hl 7 rfl) ?_
          refine lv_iload_n hx hb d_X_readRecord_58 rfl (lv_at hl 5 rfl) ?_
          refine lv_iconst (v := (1 : Int32)) hx hb d_X_readRecord_59 (by decide) ?_
          refine lv_isub hx hb d_X_readRecord_60 ?_
          refine lv_icmp_ne (tgt := 68) hx hb d_X_readRecord_61 (by decide) (fun hc12 => ?_) (fun hc12 => ?_)
          · have hf := x_br_f hf hc12
            refine lv_iconst (v := (0 : Int32)) hx hb d_X_readRecord_68 (by decide) ?_
            refine lv_istore (lv' := [(8, .int (0 : Int32)), (7, .int r10), (6, .int r7), (0, .ref (x_ad G 0)), (1, .ref (x_ad G a1)), (2, .int a2), (3, .int a3), (4, .int a4), (5, .int a5)]) hx hb d_X_readRecord_69 hl (by decide) rfl (fun ls hl => ?_)
            refine lv_iload hx hb d_X_readRecord_71 (lv_at hl 0 rfl) ?_
            refine lv_if_ne (tgt := 83) hx hb d_X_readRecord_73 (by decide) (fun hc => absurd hc (by decide)) (fun _ => ?_)
            refine lv_iload hx hb d_X_readRecord_76 (lv_at hl 1 rfl) ?_
            refine lv_bipush (v := (56 : Int32)) hx hb d_X_readRecord_78 (by decide) ?_
            refine lv_icmp_ne (tgt := 93) hx hb d_X_readRecord_80 (by decide) (fun hc13 => ?_) (fun hc13 => ?_)
            · have hf := x_br_f hf hc13
              refine lv_iconst (v := (0 : Int32)) hx hb d_X_readRecord_93 (by decide) ?_
              obtain ⟨rfl, rfl⟩ := x_ret hf
              exact W.zret (v := (0 : Int32)) hx hb hr rfl (fun t ht hW => ⟨⟨_, _, rfl, ⟨rfl, rfl⟩, x_pw hP hD hK hG hS hz ht hW⟩, hS.F ht⟩) hS.2.2 d_X_readRecord_94
            · have hf := x_br_t hf hc13
              refine lv_iload hx hb d_X_readRecord_83 (lv_at hl 7 rfl) ?_
              refine lv_iload hx hb d_X_readRecord_85 (lv_at hl 1 rfl) ?_
              refine lv_iadd hx hb d_X_readRecord_87 ?_
              refine lv_bipush (v := (66 : Int32)) hx hb d_X_readRecord_88 (by decide) ?_
              refine lv_icmp_le (tgt := 95) hx hb d_X_readRecord_90 (by decide) (fun hc14 => ?_) (fun hc14 => ?_)
              · have hf := x_br_t hf hc14
                refine lv_aload_n hx hb d_X_readRecord_95 rfl (lv_at hl 3 rfl) ?_
                refine va_get (D := x_D G) (ci := 0) (v := .ref (x_ad G 1)) (C := "ContentLibrary") (T := x_TX) (N := 9) hx hb hts x_inX hown hK hP 0 (x_lk_X G _) rfl 0 (by decide) (hts _ t_130) (fun _ h9 => h9) rfl d_X_readRecord_96 ?_
                refine lv_iload hx hb d_X_readRecord_99 (lv_at hl 2 rfl) ?_
                refine lv_iload hx hb d_X_readRecord_101 (lv_at hl 1 rfl) ?_
                refine lv_aload_n hx hb d_X_readRecord_103 rfl (lv_at hl 4 rfl) ?_
                refine va_get (D := x_D G) (ci := 3) (v := .ref (x_ad G (a1 + 1))) (C := "ContentLibrary$Kept") (T := x_TK) (N := 6) hx hb hts x_inK hown hK hP a1 (x_lk_K G _ ha1) rfl 1 (by decide) (hts _ t_92) (fun _ h9 => h9) rfl d_X_readRecord_104 ?_
                refine va_get (D := x_D G) (ci := 2) (v := .ref (x_ad G ((a1 + 1) + 1))) (C := "ContentLibrary$Picture") (T := x_TP) (N := 3) hx hb hts x_inP hown hK hP (a1 + 1) (x_lk_P G _ (x_K_P ha1)) rfl 1 (by decide) (hts _ t_69) (fun _ h9 => h9) rfl d_X_readRecord_107 ?_
                refine lv_iload hx hb d_X_readRecord_110 (lv_at hl 7 rfl) ?_
                obtain ⟨r15, z15, hq16, hf⟩ := x_cl_some hf
                refine va_callv (va_runV (As := [.int r7, .int r10, .ref (x_ad G ((a1 + 1) + 1)), .int a4]) (rest := []) ⟨hx, hb, hml, hown, hts⟩ (c_B_copyData l G r7 r10 ((a1 + 1) + 1) (x_P_A (x_K_P ha1)) a4 z10 r15 z15 hq16) (cwV 4 hts (x_gV t_208 t_209 t_210 t_3 t_211) rfl rfl rfl (by decide +kernel) ⟨Nat.le_of_ble_eq_true rfl, Nat.le_of_ble_eq_true rfl⟩) ⟨x_blind _ _ _, va_recv hK hP (ci := 1) (q0 := 1) rfl (x_lk_B G _), fun U hU hW => ⟨rfl, x_pw hP hD hK hG hS hz hU hW⟩⟩ rfl rfl hl.1 rfl (lv_room (Nat.le_of_ble_eq_true rfl)) d_X_readRecord_112 ⟨Nat.le_of_ble_eq_true rfl, Nat.le_of_ble_eq_true rfl⟩) hS (fun q _ h => h) (fun q h => h) (fun u t H locs ht hvm hw hB _ _ hS => ?_)
                obtain ⟨rfl, rfl⟩ := hw
                obtain ⟨hP, hD⟩ := x_back hB ht
                refine lv_aload_n hx hb d_X_readRecord_115 rfl (lv_at hl 4 rfl) ?_
                refine va_get (D := x_D G) (ci := 3) (v := .ref (x_ad G (a1 + 4))) (C := "ContentLibrary$Kept") (T := x_TK) (N := 6) hx hb hts x_inK hown hK hP a1 (x_lk_K G _ ha1) rfl 5 (by decide) (hts _ t_100) (fun _ h9 => h9) rfl d_X_readRecord_116 ?_
                refine lv_iload hx hb d_X_readRecord_119 (lv_at hl 8 rfl) ?_
                refine lv_iload hx hb d_X_readRecord_121 (lv_at hl 2 rfl) ?_
                obtain ⟨hin17, hf⟩ := x_ck_some hf
                refine va_iast hx hb hK hP hD hS (a1 + 4) 0 (x_lk_A G _ (x_K_A4 ha1)) rfl hin17 d_X_readRecord_123 (fun H locs hP hD hS => ?_)
                rw [x_st_A G _ (x_K_A4 ha1)] at hP hD
                refine lv_iload hx hb d_X_readRecord_124 (lv_at hl 7 rfl) ?_
                refine lv_iload hx hb d_X_readRecord_126 (lv_at hl 1 rfl) ?_
                refine lv_iadd hx hb d_X_readRecord_128 ?_
                refine lv_istore (lv' := [(4, .int (a4 + r10)), (8, .int (0 : Int32)), (7, .int r10), (6, .int r7), (0, .ref (x_ad G 0)), (1, .ref (x_ad G a1)), (2, .int a2), (3, .int a3), (5, .int a5)]) hx hb d_X_readRecord_129 hl (by decide) rfl (fun ls hl => ?_)
                refine lv_iinc (v := (a5 + (1 : Int32))) (lv' := [(5, .int (a5 + (1 : Int32))), (4, .int (a4 + r10)), (8, .int (0 : Int32)), (7, .int r10), (6, .int r7), (0, .ref (x_ad G 0)), (1, .ref (x_ad G a1)), (2, .int a2), (3, .int a3)]) hx hb d_X_readRecord_131 hl (k := 8) rfl rfl (by decide) rfl (fun ls hl => ?_)
                refine lv_goto (tgt := 6) hx hb d_X_readRecord_134 (by decide) ?_
                exact ih a1 ha1 a2 a3 (a4 + r10) (a5 + (1 : Int32)) (x_put z15 (a1 + 4) (a5).toNatClampNeg r7) hf _ _ _ hP hD hS (lv_sub hl [5, 6, 7, 8, 1, 0] rfl)
              · have hf := x_br_f hf hc14
                refine lv_iconst (v := (0 : Int32)) hx hb d_X_readRecord_93 (by decide) ?_
                obtain ⟨rfl, rfl⟩ := x_ret hf
                exact W.zret (v := (0 : Int32)) hx hb hr rfl (fun t ht hW => ⟨⟨_, _, rfl, ⟨rfl, rfl⟩, x_pw hP hD hK hG hS hz ht hW⟩, hS.F ht⟩) hS.2.2 d_X_readRecord_94
          · have hf := x_br_t hf hc12
            refine lv_iconst (v := (1 : Int32)) hx hb d_X_readRecord_64 (by decide) ?_
            refine lv_goto (tgt := 69) hx hb d_X_readRecord_65 (by decide) ?_
            refine lv_istore (lv' := [(8, .int (1 : Int32)), (7, .int r10), (6, .int r7), (0, .ref (x_ad G 0)), (1, .ref (x_ad G a1)), (2, .int a2), (3, .int a3), (4, .int a4), (5, .int a5)]) hx hb d_X_readRecord_69 hl (by decide) rfl (fun ls hl => ?_)
            refine lv_iload hx hb d_X_readRecord_71 (lv_at hl 0 rfl) ?_
            refine lv_if_ne (tgt := 83) hx hb d_X_readRecord_73 (by decide) (fun _ => ?_) (fun hc => absurd hc (by decide))
            refine lv_iload hx hb d_X_readRecord_83 (lv_at hl 7 rfl) ?_
            refine lv_iload hx hb d_X_readRecord_85 (lv_at hl 1 rfl) ?_
            refine lv_iadd hx hb d_X_readRecord_87 ?_
            refine lv_bipush (v := (66 : Int32)) hx hb d_X_readRecord_88 (by decide) ?_
            refine lv_icmp_le (tgt := 95) hx hb d_X_readRecord_90 (by decide) (fun hc18 => ?_) (fun hc18 => ?_)
            · have hf := x_br_t hf hc18
              refine lv_aload_n hx hb d_X_readRecord_95 rfl (lv_at hl 3 rfl) ?_
              refine va_get (D := x_D G) (ci := 0) (v := .ref (x_ad G 1)) (C := "ContentLibrary") (T := x_TX) (N := 9) hx hb hts x_inX hown hK hP 0 (x_lk_X G _) rfl 0 (by decide) (hts _ t_130) (fun _ h9 => h9) rfl d_X_readRecord_96 ?_
              refine lv_iload hx hb d_X_readRecord_99 (lv_at hl 2 rfl) ?_
              refine lv_iload hx hb d_X_readRecord_101 (lv_at hl 1 rfl) ?_
              refine lv_aload_n hx hb d_X_readRecord_103 rfl (lv_at hl 4 rfl) ?_
              refine va_get (D := x_D G) (ci := 3) (v := .ref (x_ad G (a1 + 1))) (C := "ContentLibrary$Kept") (T := x_TK) (N := 6) hx hb hts x_inK hown hK hP a1 (x_lk_K G _ ha1) rfl 1 (by decide) (hts _ t_92) (fun _ h9 => h9) rfl d_X_readRecord_104 ?_
              refine va_get (D := x_D G) (ci := 2) (v := .ref (x_ad G ((a1 + 1) + 1))) (C := "ContentLibrary$Picture") (T := x_TP) (N := 3) hx hb hts x_inP hown hK hP (a1 + 1) (x_lk_P G _ (x_K_P ha1)) rfl 1 (by decide) (hts _ t_69) (fun _ h9 => h9) rfl d_X_readRecord_107 ?_
              refine lv_iload hx hb d_X_readRecord_110 (lv_at hl 7 rfl) ?_
              obtain ⟨r19, z19, hq20, hf⟩ := x_cl_some hf
              refine va_callv (va_runV (As := [.int r7, .int r10, .ref (x_ad G ((a1 + 1) + 1)), .int a4]) (rest := []) ⟨hx, hb, hml, hown, hts⟩ (c_B_copyData l G r7 r10 ((a1 + 1) + 1) (x_P_A (x_K_P ha1)) a4 z10 r19 z19 hq20) (cwV 4 hts (x_gV t_208 t_209 t_210 t_3 t_211) rfl rfl rfl (by decide +kernel) ⟨Nat.le_of_ble_eq_true rfl, Nat.le_of_ble_eq_true rfl⟩) ⟨x_blind _ _ _, va_recv hK hP (ci := 1) (q0 := 1) rfl (x_lk_B G _), fun U hU hW => ⟨rfl, x_pw hP hD hK hG hS hz hU hW⟩⟩ rfl rfl hl.1 rfl (lv_room (Nat.le_of_ble_eq_true rfl)) d_X_readRecord_112 ⟨Nat.le_of_ble_eq_true rfl, Nat.le_of_ble_eq_true rfl⟩) hS (fun q _ h => h) (fun q h => h) (fun u t H locs ht hvm hw hB _ _ hS => ?_)
              obtain ⟨rfl, rfl⟩ := hw
              obtain ⟨hP, hD⟩ := x_back hB ht
              refine lv_aload_n hx hb d_X_readRecord_115 rfl (lv_at hl 4 rfl) ?_
              refine va_get (D := x_D G) (ci := 3) (v := .ref (x_ad G (a1 + 4))) (C := "ContentLibrary$Kept") (T := x_TK) (N := 6) hx hb hts x_inK hown hK hP a1 (x_lk_K G _ ha1) rfl 5 (by decide) (hts _ t_100) (fun _ h9 => h9) rfl d_X_readRecord_116 ?_
              refine lv_iload hx hb d_X_readRecord_119 (lv_at hl 8 rfl) ?_
              refine lv_iload hx hb d_X_readRecord_121 (lv_at hl 2 rfl) ?_
              obtain ⟨hin21, hf⟩ := x_ck_some hf
              refine va_iast hx hb hK hP hD hS (a1 + 4) 0 (x_lk_A G _ (x_K_A4 ha1)) rfl hin21 d_X_readRecord_123 (fun H locs hP hD hS => ?_)
              rw [x_st_A G _ (x_K_A4 ha1)] at hP hD
              refine lv_iload hx hb d_X_readRecord_124 (lv_at hl 7 rfl) ?_
              refine lv_iload hx hb d_X_readRecord_126 (lv_at hl 1 rfl) ?_
              refine lv_iadd hx hb d_X_readRecord_128 ?_
              refine lv_istore (lv' := [(4, .int (a4 + r10)), (8, .int (1 : Int32)), (7, .int r10), (6, .int r7), (0, .ref (x_ad G 0)), (1, .ref (x_ad G a1)), (2, .int a2), (3, .int a3), (5, .int a5)]) hx hb d_X_readRecord_129 hl (by decide) rfl (fun ls hl => ?_)
              refine lv_iinc (v := (a5 + (1 : Int32))) (lv' := [(5, .int (a5 + (1 : Int32))), (4, .int (a4 + r10)), (8, .int (1 : Int32)), (7, .int r10), (6, .int r7), (0, .ref (x_ad G 0)), (1, .ref (x_ad G a1)), (2, .int a2), (3, .int a3)]) hx hb d_X_readRecord_131 hl (k := 8) rfl rfl (by decide) rfl (fun ls hl => ?_)
              refine lv_goto (tgt := 6) hx hb d_X_readRecord_134 (by decide) ?_
              exact ih a1 ha1 a2 a3 (a4 + r10) (a5 + (1 : Int32)) (x_put z19 (a1 + 4) (a5).toNatClampNeg r7) hf _ _ _ hP hD hS (lv_sub hl [5, 6, 7, 8, 1, 0] rfl)
            · have hf := x_br_f hf hc18
              refine lv_iconst (v := (0 : Int32)) hx hb d_X_readRecord_93 (by decide) ?_
              obtain ⟨rfl, rfl⟩ := x_ret hf
              exact W.zret (v := (0 : Int32)) hx hb hr rfl (fun t ht hW => ⟨⟨_, _, rfl, ⟨rfl, rfl⟩, x_pw hP hD hK hG hS hz ht hW⟩, hS.F ht⟩) hS.2.2 d_X_readRecord_94
        · have hf := x_br_t hf hc9
          refine lv_iconst (v := (0 : Int32)) hx hb d_X_readRecord_41 (by decide) ?_
          obtain ⟨rfl, rfl⟩ := x_ret hf
          exact W.zret (v := (0 : Int32)) hx hb hr rfl (fun t ht hW => ⟨⟨_, _, rfl, ⟨rfl, rfl⟩, x_pw hP hD hK hG hS hz ht hW⟩, hS.F ht⟩) hS.2.2 d_X_readRecord_42
set_option maxHeartbeats 4000000 in
set_option maxRecDepth 100000 in
theorem c_X_readRecord (l : Launch) (G : x_G) (k1 : Nat) (hk1 : x_isK k1 = true) (p2 : Int32) (p3 : Int32) (z0 : x_St) (r : Int32) (zo : x_St) (hf : f_X_readRecord (x_n G) k1 p2 p3 z0 = some (r, zo)) : Met l (⟨"ContentLibrary", "readRecord", "(LContentLibrary$Kept;II)Z"⟩ : MethodName) (x_ws (⟨"ContentLibrary", "readRecord", "(LContentLibrary$Kept;II)Z"⟩ : MethodName) prog_1_method_31_code 9 (some .boolean)) rm_X_readRecord (va_Pc [.ref (x_ad G 0), .ref (x_ad G k1), .int p2, .int p3] (x_PW G z0)) (va_Qi (fun a u => r = a ∧ zo = u) (x_PW G) (x_A G)) 0 0 (x_A G) := by
  refine Met.ofW (cc := prog_1_method_31_code) (maxL := 9) (ret := (some .boolean)) (by decide) rfl ?_
  intro p e s m args below meth c s₁ B hml hv
  obtain ⟨rfl, hz, hP, hD, hK, hG⟩ := hv
  have C0 : x_Ctx G p s m _ meth c prog_1_method_31_code "ContentLibrary" 9 (some .boolean) := ⟨B.exec, B.bytes, B.returns, hml, findClass_of_methodNamed B.named, fun w h => atoms_spec (ws := (x_ws (⟨"ContentLibrary", "readRecord", "(LContentLibrary$Kept;II)Z"⟩ : MethodName) prog_1_method_31_code 9 (some .boolean))) B.pre w (List.mem_cons_of_mem _ h), B.notSynchronized, hz, hK, hG⟩
  obtain ⟨hx, hb, hr, hml, hown, hts, hlocks, hz, hK, hG⟩ := id C0
  have hS : va_S (x_A G) s.heap s.heap [] := va_S.rf
  have hl := lv_entry ([.ref (x_ad G 0), .ref (x_ad G k1), .int p2, .int p3]) (n := 9) (Nat.le_of_ble_eq_true rfl)
  rw [lg_entry_eq]
  generalize (lg_sl ([.ref (x_ad G 0), .ref (x_ad G k1), .int p2, .int p3]) ++ List.replicate (9 - (lg_sl ([.ref (x_ad G 0), .ref (x_ad G k1), .int p2, .int p3])).length) Slot.unset).toArray = ls at hl ⊢
  have hl : lv_has ls 9 [(0, .ref (x_ad G 0)), (1, .ref (x_ad G k1)), (2, .int p2), (3, .int p3)] := hl
  rw [f_X_readRecord] at hf
  refine lv_iconst (v := (0 : Int32)) hx hb d_X_readRecord_0 (by decide) ?_
  refine lv_istore (lv' := [(4, .int (0 : Int32)), (0, .ref (x_ad G 0)), (1, .ref (x_ad G k1)), (2, .int p2), (3, .int p3)]) hx hb d_X_readRecord_1 hl (by decide) rfl (fun ls hl => ?_)
  refine lv_iconst (v := (0 : Int32)) hx hb d_X_readRecord_3 (by decide) ?_
  refine lv_istore (lv' := [(5, .int (0 : Int32)), (4, .int (0 : Int32)), (0, .ref (x_ad G 0)), (1, .ref (x_ad G k1)), (2, .int p2), (3, .int p3)]) hx hb d_X_readRecord_4 hl (by decide) rfl (fun ls hl => ?_)
  exact w_X_readRecord_6 l G C0 r zo x_FU k1 hk1 p2 p3 (0 : Int32) (0 : Int32) z0 hf _ _ _ hP hD hS (lv_sub hl [2, 3, 4, 5, 1, 0] rfl)
abbrev rm_X_openNumber : Room := { frames := 6, cells := 0, slots := 0, locals := 144 }
set_option maxHeartbeats 4000000 in
set_option maxRecDepth 100000 in
theorem c_X_openNumber (l : Launch) (G : x_G) (p1 : Int32) (z0 : x_St) (r : Unit) (zo : x_St) (hf : f_X_openNumber (x_n G) p1 z0 = some (r, zo)) : Met l (⟨"ContentLibrary", "openNumber", "(I)V"⟩ : MethodName) (x_ws (⟨"ContentLibrary", "openNumber", "(I)V"⟩ : MethodName) prog_1_method_30_code 5 none) rm_X_openNumber (va_Pc [.ref (x_ad G 0), .int p1] (x_PW G z0)) (va_Qv (fun u => r = () ∧ zo = u) (x_PW G) (x_A G)) 0 0 (x_A G) := by
  refine Met.ofW (cc := prog_1_method_30_code) (maxL := 5) (ret := none) (by decide) rfl ?_
  intro p e s m args below meth c s₁ B hml hv
  obtain ⟨rfl, hz, hP, hD, hK, hG⟩ := hv
  have C0 : x_Ctx G p s m _ meth c prog_1_method_30_code "ContentLibrary" 5 none := ⟨B.exec, B.bytes, B.returns, hml, findClass_of_methodNamed B.named, fun w h => atoms_spec (ws := (x_ws (⟨"ContentLibrary", "openNumber", "(I)V"⟩ : MethodName) prog_1_method_30_code 5 none)) B.pre w (List.mem_cons_of_mem _ h), B.notSynchronized, hz, hK, hG⟩
  obtain ⟨hx, hb, hr, hml, hown, hts, hlocks, hz, hK, hG⟩ := id C0
  have hS : va_S (x_A G) s.heap s.heap [] := va_S.rf
  have hl := lv_entry ([.ref (x_ad G 0), .int p1]) (n := 5) (Nat.le_of_ble_eq_true rfl)
  rw [lg_entry_eq]
  generalize (lg_sl ([.ref (x_ad G 0), .int p1]) ++ List.replicate (5 - (lg_sl ([.ref (x_ad G 0), .int p1])).length) Slot.unset).toArray = ls at hl ⊢
  have hl : lv_has ls 5 [(0, .ref (x_ad G 0)), (1, .int p1)] := hl
  rw [f_X_openNumber] at hf
  refine lv_aload_n hx hb d_X_openNumber_0 rfl (lv_at hl 0 rfl) ?_
  refine va_get (D := x_D G) (ci := 0) (v := .ref (x_ad G 22)) (C := "ContentLibrary") (T := x_TX) (N := 9) hx hb hts x_inX hown hK hP 0 (x_lk_X G _) rfl 3 (by decide) (hts _ t_133) (fun _ h9 => h9) rfl d_X_openNumber_1 ?_
  refine lv_iload_n hx hb d_X_openNumber_4 rfl (lv_at hl 1 rfl) ?_
  obtain ⟨hin1, hf⟩ := x_ck_some hf
  refine va_aldq hx hb hK hP 22 3 (x_lk_kept G _) rfl hin1 d_X_openNumber_5 ?_
  refine W.eq (g2 := F0 m 6 ls [.ref (x_ad G (23 + 5 * (p1).toNatClampNeg))]) rfl ?_
  refine lv_astore_n (lv' := [(2, .ref (x_ad G (23 + 5 * (p1).toNatClampNeg))), (0, .ref (x_ad G 0)), (1, .int p1)]) hx hb d_X_openNumber_6 rfl hl (by decide) rfl (fun ls hl => ?_)
  refine lv_aload_n hx hb d_X_openNumber_7 rfl (lv_at hl 1 rfl) ?_
  refine va_get (D := x_D G) (ci := 0) (v := .ref (x_ad G 1)) (C := "ContentLibrary") (T := x_TX) (N := 9) hx hb hts x_inX hown hK hP 0 (x_lk_X G _) rfl 0 (by decide) (hts _ t_130) (fun _ h9 => h9) rfl d_X_openNumber_8 ?_
  refine lv_iconst (v := (3 : Int32)) hx hb d_X_openNumber_11 (by decide) ?_
  refine lv_iload_n hx hb d_X_openNumber_12 rfl (lv_at hl 2 rfl) ?_
  refine lv_iconst (v := (-1 : Int32)) hx hb d_X_openNumber_13 (by decide) ?_
  obtain ⟨r2, z2, hq3, hf⟩ := x_cl_some hf
  refine va_calli (va_runV (As := [.int (3 : Int32), .int p1, .int (-1 : Int32)]) (rest := []) ⟨hx, hb, hml, hown, hts⟩ (c_B_onlyGood l G (3 : Int32) p1 (-1 : Int32) z0 r2 z2 hq3) (cwV 3 hts (x_gV t_170 t_171 t_172 t_3 t_173) rfl rfl rfl (by decide +kernel) ⟨Nat.le_of_ble_eq_true rfl, Nat.le_of_ble_eq_true rfl⟩) ⟨x_blind _ _ _, va_recv hK hP (ci := 1) (q0 := 1) rfl (x_lk_B G _), fun U hU hW => ⟨rfl, x_pw hP hD hK hG hS hz hU hW⟩⟩ rfl rfl hl.1 rfl (lv_room (Nat.le_of_ble_eq_true rfl)) d_X_openNumber_14 ⟨Nat.le_of_ble_eq_true rfl, Nat.le_of_ble_eq_true rfl⟩) hS (fun q _ h => h) (fun q h => h) (fun ra u t H locs ht hvm hw hB _ _ hS => ?_)
  obtain ⟨rfl, rfl⟩ := hw
  obtain ⟨hP, hD⟩ := x_back hB ht
  refine lv_istore_n (lv' := [(3, .int r2), (2, .ref (x_ad G (23 + 5 * (p1).toNatClampNeg))), (0, .ref (x_ad G 0)), (1, .int p1)]) hx hb d_X_openNumber_17 rfl hl (by decide) rfl (fun ls hl => ?_)
  refine lv_iload_n hx hb d_X_openNumber_18 rfl (lv_at hl 0 rfl) ?_
  refine lv_iconst (v := (-1 : Int32)) hx hb d_X_openNumber_19 (by decide) ?_
  refine lv_icmp_eq (tgt := 34) hx hb d_X_openNumber_20 (by decide) (fun hc4 => ?_) (fun hc4 => ?_)
  · have hf := x_br_t hf hc4
    obtain ⟨rfl, rfl⟩ := x_ret hf
    exact W.vret hx hb hr (fun t ht hW => ⟨⟨_, rfl, ⟨rfl, rfl⟩, x_pw hP hD hK hG hS hz ht hW⟩, hS.F ht⟩) hS.2.2 d_X_openNumber_34
  · have hf := x_br_f hf hc4
    refine lv_aload_n hx hb d_X_openNumber_23 rfl (lv_at hl 2 rfl) ?_
    refine va_get (D := x_D G) (ci := 0) (v := .ref (x_ad G 1)) (C := "ContentLibrary") (T := x_TX) (N := 9) hx hb hts x_inX hown hK hP 0 (x_lk_X G _) rfl 0 (by decide) (hts _ t_130) (fun _ h9 => h9) rfl d_X_openNumber_24 ?_
    refine lv_iload_n hx hb d_X_openNumber_27 rfl (lv_at hl 0 rfl) ?_
    obtain ⟨r5, z5, hq6, hf⟩ := x_cl_some hf
    refine va_calli (va_runV (As := [.int r2]) (rest := []) ⟨hx, hb, hml, hown, hts⟩ (c_B_isMarkAsTold l G r2 z2 r5 z5 hq6) (cwV 1 hts (x_gV t_196 t_197 t_198 t_3 t_199) rfl rfl rfl (by decide +kernel) ⟨Nat.le_of_ble_eq_true rfl, Nat.le_of_ble_eq_true rfl⟩) ⟨x_blind _ _ _, va_recv hK hP (ci := 1) (q0 := 1) rfl (x_lk_B G _), fun U hU hW => ⟨rfl, x_pw hP hD hK hG hS hz hU hW⟩⟩ rfl rfl hl.1 rfl (lv_room (Nat.le_of_ble_eq_true rfl)) d_X_openNumber_28 ⟨Nat.le_of_ble_eq_true rfl, Nat.le_of_ble_eq_true rfl⟩) hS (fun q _ h => h) (fun q h => h) (fun ra u t H locs ht hvm hw hB _ _ hS => ?_)
    obtain ⟨rfl, rfl⟩ := hw
    obtain ⟨hP, hD⟩ := x_back hB ht
    refine lv_if_ne (tgt := 35) hx hb d_X_openNumber_31 (by decide) (fun hc7 => ?_) (fun hc7 => ?_)
    · have hf := x_br_f hf hc7
      refine lv_aload_n hx hb d_X_openNumber_35 rfl (lv_at hl 2 rfl) ?_
      refine va_get (D := x_D G) (ci := 0) (v := .ref (x_ad G 1)) (C := "ContentLibrary") (T := x_TX) (N := 9) hx hb hts x_inX hown hK hP 0 (x_lk_X G _) rfl 0 (by decide) (hts _ t_130) (fun _ h9 => h9) rfl d_X_openNumber_36 ?_
      refine lv_iload_n hx hb d_X_openNumber_39 rfl (lv_at hl 0 rfl) ?_
      refine lv_bipush (v := (8 : Int32)) hx hb d_X_openNumber_40 (by decide) ?_
      obtain ⟨r8, z8, hq9, hf⟩ := x_cl_some hf
      refine va_calli (va_runV (As := [.int r2, .int (8 : Int32)]) (rest := []) ⟨hx, hb, hml, hown, hts⟩ (c_B_get l G r2 (8 : Int32) z5 r8 z8 hq9) (cwV 2 hts (x_gV t_200 t_175 t_176 t_3 t_177) rfl rfl rfl (by decide +kernel) ⟨Nat.le_of_ble_eq_true rfl, Nat.le_of_ble_eq_true rfl⟩) ⟨x_blind _ _ _, va_recv hK hP (ci := 1) (q0 := 1) rfl (x_lk_B G _), fun U hU hW => ⟨rfl, x_pw hP hD hK hG hS hz hU hW⟩⟩ rfl rfl hl.1 rfl (lv_room (Nat.le_of_ble_eq_true rfl)) d_X_openNumber_42 ⟨Nat.le_of_ble_eq_true rfl, Nat.le_of_ble_eq_true rfl⟩) hS (fun q _ h => h) (fun q h => h) (fun ra u t H locs ht hvm hw hB _ _ hS => ?_)
      obtain ⟨rfl, rfl⟩ := hw
      obtain ⟨hP, hD⟩ := x_back hB ht
      refine lv_istore (lv' := [(4, .int r8), (3, .int r2), (2, .ref (x_ad G (23 + 5 * (p1).toNatClampNeg))), (0, .ref (x_ad G 0)), (1, .int p1)]) hx hb d_X_openNumber_45 hl (by decide) rfl (fun ls hl => ?_)
      refine lv_aload_n hx hb d_X_openNumber_47 rfl (lv_at hl 3 rfl) ?_
      refine lv_aload_n hx hb d_X_openNumber_48 rfl (lv_at hl 2 rfl) ?_
      refine lv_iload_n hx hb d_X_openNumber_49 rfl (lv_at hl 4 rfl) ?_
      refine lv_iload hx hb d_X_openNumber_50 (lv_at hl 0 rfl) ?_
      obtain ⟨r10, z10, hq11, hf⟩ := x_cl_some hf
      refine va_calli (va_runV (As := [.ref (x_ad G (23 + 5 * (p1).toNatClampNeg)), .int p1, .int r8]) (rest := []) ⟨hx, hb, hml, hown, hts⟩ (c_X_readRecord l G (23 + 5 * (p1).toNatClampNeg) (x_el_K hin1) p1 r8 z8 r10 z10 hq11) (cwV 3 hts (x_gV t_201 t_203 sel_ContentLibrary_readRecord t_1 t_204) rfl rfl rfl (by decide +kernel) ⟨Nat.le_of_ble_eq_true rfl, Nat.le_of_ble_eq_true rfl⟩) ⟨x_blind _ _ _, va_recv hK hP (ci := 0) (q0 := 0) rfl (x_lk_X G _), fun U hU hW => ⟨rfl, x_pw hP hD hK hG hS hz hU hW⟩⟩ rfl rfl hl.1 rfl (lv_room (Nat.le_of_ble_eq_true rfl)) d_X_openNumber_52 ⟨Nat.le_of_ble_eq_true rfl, Nat.le_of_ble_eq_true rfl⟩) hS (fun q _ h => h) (fun q h => h) (fun ra u t H locs ht hvm hw hB _ _ hS => ?_)
      obtain ⟨rfl, rfl⟩ := hw
      obtain ⟨hP, hD⟩ := x_back hB ht
      refine lv_if_ne (tgt := 59) hx hb d_X_openNumber_55 (by decide) (fun hc12 => ?_) (fun hc12 => ?_)
      · have hf := x_br_f hf hc12
        cases hf
      · have hf := x_br_t hf hc12
        obtain ⟨rfl, rfl⟩ := x_ret hf
        exact W.vret hx hb hr (fun t ht hW => ⟨⟨_, rfl, ⟨rfl, rfl⟩, x_pw hP hD hK hG hS hz ht hW⟩, hS.F ht⟩) hS.2.2 d_X_openNumber_58
    · have hf := x_br_t hf hc7
      obtain ⟨rfl, rfl⟩ := x_ret hf
      exact W.vret hx hb hr (fun t ht hW => ⟨⟨_, rfl, ⟨rfl, rfl⟩, x_pw hP hD hK hG hS hz ht hW⟩, hS.F ht⟩) hS.2.2 d_X_openNumber_34
abbrev rm_X_reopen : Room := { frames := 7, cells := 0, slots := 0, locals := 168 }
set_option maxHeartbeats 4000000 in
set_option maxRecDepth 100000 in
theorem w_X_reopen_39 (l : Launch) (G : x_G) {p : Program} {e : Env} {s : State} {m : MethodId} {args : Array Value} {below : List Frame} {meth : Method} {c : Code} (C0 : x_Ctx G p s m args meth c prog_1_method_13_code "ContentLibrary" 2 (some .int)) (r : Int32) (zo : x_St) : ∀ (z0 : x_St), f_X_reopen_39 (x_n G)  z0 = some (r, zo) → ∀ (H : Heap) (locs : List Loc) (ls : Array Slot), va_P (x_D G) vwCl (x_Wd G z0) H → va_D (x_A G) (x_Wd G z0) → va_S (x_A G) s.heap H locs → lv_has ls 2 [(0, .ref (x_ad G 0))] → W p l e rm_X_reopen s m args below meth c H locs 0 0 (MQ below (va_Qi (fun a u => r = a ∧ zo = u) (x_PW G) (x_A G)) args s 0 0 (x_A G)) (F0 m 39 ls []) := by
  obtain ⟨hx, hb, hr, hml, hown, hts, hlocks, hz, hK, hG⟩ := id C0
  intro  z0 hf H locs ls hP hD hS hl
  rw [f_X_reopen_39] at hf
  refine lv_aload_n hx hb d_X_reopen_39 rfl (lv_at hl 0 rfl) ?_
  obtain ⟨r1, z1, hq2, hf⟩ := x_cl_some hf
  refine va_calli (va_runV (As := []) (rest := []) ⟨hx, hb, hml, hown, hts⟩ (c_X_countKept l G z0 r1 z1 hq2) (cwV 0 hts (x_gV t_297 t_299 sel_ContentLibrary_countKept t_1 t_300) rfl rfl rfl (by decide +kernel) ⟨Nat.le_of_ble_eq_true rfl, Nat.le_of_ble_eq_true rfl⟩) ⟨x_blind _ _ _, va_recv hK hP (ci := 0) (q0 := 0) rfl (x_lk_X G _), fun U hU hW => ⟨rfl, x_pw hP hD hK hG hS hz hU hW⟩⟩ rfl rfl hl.1 rfl (lv_room (Nat.le_of_ble_eq_true rfl)) d_X_reopen_40 ⟨Nat.le_of_ble_eq_true rfl, Nat.le_of_ble_eq_true rfl⟩) hS (fun q _ h => h) (fun q h => h) (fun ra u t H locs ht hvm hw hB _ _ hS => ?_)
  obtain ⟨rfl, rfl⟩ := hw
  obtain ⟨hP, hD⟩ := x_back hB ht
  obtain ⟨rfl, rfl⟩ := x_ret hf
  exact W.iret (v := r1) hx hb hr (fun t ht hW => ⟨⟨_, _, rfl, ⟨rfl, rfl⟩, x_pw hP hD hK hG hS hz ht hW⟩, hS.F ht⟩) hS.2.2 d_X_reopen_43
set_option maxHeartbeats 4000000 in
set_option maxRecDepth 100000 in
theorem w_X_reopen_22 (l : Launch) (G : x_G) {p : Program} {e : Env} {s : State} {m : MethodId} {args : Array Value} {below : List Frame} {meth : Method} {c : Code} (C0 : x_Ctx G p s m args meth c prog_1_method_13_code "ContentLibrary" 2 (some .int)) (r : Int32) (zo : x_St) : ∀ (fu : Nat), ∀ (a1 : Int32) (z0 : x_St), f_X_reopen_22 (x_n G) fu a1 z0 = some (r, zo) → ∀ (H : Heap) (locs : List Loc) (ls : Array Slot), va_P (x_D G) vwCl (x_Wd G z0) H → va_D (x_A G) (x_Wd G z0) → va_S (x_A G) s.heap H locs → lv_has ls 2 [(0, .ref (x_ad G 0)), (1, .int a1)] → W p l e rm_X_reopen s m args below meth c H locs 0 0 (MQ below (va_Qi (fun a u => r = a ∧ zo = u) (x_PW G) (x_A G)) args s 0 0 (x_A G)) (F0 m 22 ls []) := by
  obtain ⟨hx, hb, hr, hml, hown, hts, hlocks, hz, hK, hG⟩ := id C0
  intro fu
  induction fu with
  | zero =>
    intro a1 z0 hf
    rw [f_X_reopen_22] at hf
    cases hf
  | succ fu ih =>
    intro a1 z0 hf H locs ls hP hD hS hl
    rw [f_X_reopen_22] at hf
    refine lv_iload_n hx hb d_X_reopen_22 rfl (lv_at hl 1 rfl) ?_
    refine lv_bipush (v := (16 : Int32)) hx hb d_X_reopen_23 (by decide) ?_
    refine lv_icmp_ge (tgt := 39) hx hb d_X_reopen_25 (by decide) (fun hc3 => ?_) (fun hc3 => ?_)
    · have hf := x_br_t hf hc3
      exact w_X_reopen_39 l G C0 r zo z0 hf _ _ _ hP hD hS (lv_sub hl [0] rfl)
    · have hf := x_br_f hf hc3
      refine lv_aload_n hx hb d_X_reopen_28 rfl (lv_at hl 0 rfl) ?_
      refine lv_iload_n hx hb d_X_reopen_29 rfl (lv_at hl 1 rfl) ?_
      obtain ⟨r4, z4, hq5, hf⟩ := x_cl_some hf
      refine va_callv (va_runV (As := [.int a1]) (rest := []) ⟨hx, hb, hml, hown, hts⟩ (c_X_openNumber l G a1 z0 r4 z4 hq5) (cwV 1 hts (x_gV t_166 t_168 sel_ContentLibrary_openNumber t_1 t_169) rfl rfl rfl (by decide +kernel) ⟨Nat.le_of_ble_eq_true rfl, Nat.le_of_ble_eq_true rfl⟩) ⟨x_blind _ _ _, va_recv hK hP (ci := 0) (q0 := 0) rfl (x_lk_X G _), fun U hU hW => ⟨rfl, x_pw hP hD hK hG hS hz hU hW⟩⟩ rfl rfl hl.1 rfl (lv_room (Nat.le_of_ble_eq_true rfl)) d_X_reopen_30 ⟨Nat.le_of_ble_eq_true rfl, Nat.le_of_ble_eq_true rfl⟩) hS (fun q _ h => h) (fun q h => h) (fun u t H locs ht hvm hw hB _ _ hS => ?_)
      obtain ⟨rfl, rfl⟩ := hw
      obtain ⟨hP, hD⟩ := x_back hB ht
      refine lv_iinc (v := (a1 + (1 : Int32))) (lv' := [(1, .int (a1 + (1 : Int32))), (0, .ref (x_ad G 0))]) hx hb d_X_reopen_33 hl (k := 1) rfl rfl (by decide) rfl (fun ls hl => ?_)
      refine lv_goto (tgt := 22) hx hb d_X_reopen_36 (by decide) ?_
      exact ih (a1 + (1 : Int32)) z4 hf _ _ _ hP hD hS (lv_sub hl [1, 0] rfl)
set_option maxHeartbeats 4000000 in
set_option maxRecDepth 100000 in
theorem c_X_reopen (l : Launch) (G : x_G)  (z0 : x_St) (r : Int32) (zo : x_St) (hf : f_X_reopen (x_n G)  z0 = some (r, zo)) : Met l (⟨"ContentLibrary", "reopen", "()I"⟩ : MethodName) (x_ws (⟨"ContentLibrary", "reopen", "()I"⟩ : MethodName) prog_1_method_13_code 2 (some .int)) rm_X_reopen (va_Pc [.ref (x_ad G 0)] (x_PW G z0)) (va_Qi (fun a u => r = a ∧ zo = u) (x_PW G) (x_A G)) 0 0 (x_A G) := by
  refine Met.ofW (cc := prog_1_method_13_code) (maxL := 2) (ret := (some .int)) (by decide) rfl ?_
  intro p e s m args below meth c s₁ B hml hv
  obtain ⟨rfl, hz, hP, hD, hK, hG⟩ := hv
  have C0 : x_Ctx G p s m _ meth c prog_1_method_13_code "ContentLibrary" 2 (some .int) := ⟨B.exec, B.bytes, B.returns, hml, findClass_of_methodNamed B.named, fun w h => atoms_spec (ws := (x_ws (⟨"ContentLibrary", "reopen", "()I"⟩ : MethodName) prog_1_method_13_code 2 (some .int))) B.pre w (List.mem_cons_of_mem _ h), B.notSynchronized, hz, hK, hG⟩
  obtain ⟨hx, hb, hr, hml, hown, hts, hlocks, hz, hK, hG⟩ := id C0
  have hS : va_S (x_A G) s.heap s.heap [] := va_S.rf
  have hl := lv_entry ([.ref (x_ad G 0)]) (n := 2) (Nat.le_of_ble_eq_true rfl)
  rw [lg_entry_eq]
  generalize (lg_sl ([.ref (x_ad G 0)]) ++ List.replicate (2 - (lg_sl ([.ref (x_ad G 0)])).length) Slot.unset).toArray = ls at hl ⊢
  have hl : lv_has ls 2 [(0, .ref (x_ad G 0))] := hl
  rw [f_X_reopen] at hf
  refine lv_aload_n hx hb d_X_reopen_0 rfl (lv_at hl 0 rfl) ?_
  refine va_get (D := x_D G) (ci := 0) (v := .ref (x_ad G 1)) (C := "ContentLibrary") (T := x_TX) (N := 9) hx hb hts x_inX hown hK hP 0 (x_lk_X G _) rfl 0 (by decide) (hts _ t_130) (fun _ h9 => h9) rfl d_X_reopen_1 ?_
  refine lv_iconst (v := (-1 : Int32)) hx hb d_X_reopen_4 (by decide) ?_
  refine va_put (D := x_D G) (ci := 1) (v := .int (-1 : Int32)) (ty := .int) (C := "ContentLibrary$Blocks") (T := x_TB) (N := 5) hx hb hts x_inB x_tyB x_tyB_ok x_nmB hown hK hP hD hS 1 (x_lk_B G _) rfl 1 (by decide) (hts _ t_42) (fun _ h9 => h9) rfl (by decide +kernel) rfl rfl (Nat.le_of_ble_eq_true rfl) d_X_reopen_5 (fun H locs hP hD hS => ?_)
  rw [x_st_B1 G _] at hP hD
  refine lv_aload_n hx hb d_X_reopen_8 rfl (lv_at hl 0 rfl) ?_
  refine va_get (D := x_D G) (ci := 0) (v := .ref (x_ad G 1)) (C := "ContentLibrary") (T := x_TX) (N := 9) hx hb hts x_inX hown hK hP 0 (x_lk_X G _) rfl 0 (by decide) (hts _ t_130) (fun _ h9 => h9) rfl d_X_reopen_9 ?_
  refine lv_iconst (v := (0 : Int32)) hx hb d_X_reopen_12 (by decide) ?_
  refine va_put (D := x_D G) (ci := 1) (v := .int (0 : Int32)) (ty := .boolean) (C := "ContentLibrary$Blocks") (T := x_TB) (N := 5) hx hb hts x_inB x_tyB x_tyB_ok x_nmB hown hK hP hD hS 1 (x_lk_B G _) rfl 2 (by decide) (hts _ t_44) (fun _ h9 => h9) rfl (by decide +kernel) rfl rfl (Nat.le_of_ble_eq_true rfl) d_X_reopen_13 (fun H locs hP hD hS => ?_)
  rw [x_st_B2 G _] at hP hD
  refine lv_aload_n hx hb d_X_reopen_16 rfl (lv_at hl 0 rfl) ?_
  obtain ⟨r6, z6, hq7, hf⟩ := x_cl_some hf
  refine va_callv (va_runV (As := []) (rest := []) ⟨hx, hb, hml, hown, hts⟩ (c_X_forget l G (x_put (x_put z0 1 1 (-1 : Int32)) 1 2 (0 : Int32)) r6 z6 hq7) (cwV 0 hts (x_gV t_162 t_164 sel_ContentLibrary_forget t_1 t_165) rfl rfl rfl (by decide +kernel) ⟨Nat.le_of_ble_eq_true rfl, Nat.le_of_ble_eq_true rfl⟩) ⟨x_blind _ _ _, va_recv hK hP (ci := 0) (q0 := 0) rfl (x_lk_X G _), fun U hU hW => ⟨rfl, x_pw hP hD hK hG hS hz hU hW⟩⟩ rfl rfl hl.1 rfl (lv_room (Nat.le_of_ble_eq_true rfl)) d_X_reopen_17 ⟨Nat.le_of_ble_eq_true rfl, Nat.le_of_ble_eq_true rfl⟩) hS (fun q _ h => h) (fun q h => h) (fun u t H locs ht hvm hw hB _ _ hS => ?_)
  obtain ⟨rfl, rfl⟩ := hw
  obtain ⟨hP, hD⟩ := x_back hB ht
  refine lv_iconst (v := (0 : Int32)) hx hb d_X_reopen_20 (by decide) ?_
  refine lv_istore_n (lv' := [(1, .int (0 : Int32)), (0, .ref (x_ad G 0))]) hx hb d_X_reopen_21 rfl hl (by decide) rfl (fun ls hl => ?_)
  exact w_X_reopen_22 l G C0 r zo x_FU (0 : Int32) z6 hf _ _ _ hP hD hS (lv_sub hl [1, 0] rfl)
abbrev rm_X_badAt : Room := { frames := 4, cells := 0, slots := 0, locals := 90 }
set_option maxHeartbeats 4000000 in
set_option maxRecDepth 100000 in
theorem w_X_badAt_35 (l : Launch) (G : x_G) {p : Program} {e : Env} {s : State} {m : MethodId} {args : Array Value} {below : List Frame} {meth : Method} {c : Code} (C0 : x_Ctx G p s m args meth c prog_1_method_15_code "ContentLibrary" 2 (some .int)) (r : Int32) (zo : x_St) : ∀ (a1 : Int32) (z0 : x_St), f_X_badAt_35 (x_n G) a1 z0 = some (r, zo) → ∀ (H : Heap) (locs : List Loc) (ls : Array Slot), va_P (x_D G) vwCl (x_Wd G z0) H → va_D (x_A G) (x_Wd G z0) → va_S (x_A G) s.heap H locs → lv_has ls 2 [(1, .int a1)] → W p l e rm_X_badAt s m args below meth c H locs 0 0 (MQ below (va_Qi (fun a u => r = a ∧ zo = u) (x_PW G) (x_A G)) args s 0 0 (x_A G)) (F0 m 35 ls []) := by
  obtain ⟨hx, hb, hr, hml, hown, hts, hlocks, hz, hK, hG⟩ := id C0
  intro a1 z0 hf H locs ls hP hD hS hl
  rw [f_X_badAt_35] at hf
  refine lv_iload_n hx hb d_X_badAt_35 rfl (lv_at hl 0 rfl) ?_
  obtain ⟨rfl, rfl⟩ := x_ret hf
  exact W.iret (v := a1) hx hb hr (fun t ht hW => ⟨⟨_, _, rfl, ⟨rfl, rfl⟩, x_pw hP hD hK hG hS hz ht hW⟩, hS.F ht⟩) hS.2.2 d_X_badAt_36
set_option maxHeartbeats 4000000 in
set_option maxRecDepth 100000 in
theorem w_X_badAt_2 (l : Launch) (G : x_G) {p : Program} {e : Env} {s : State} {m : MethodId} {args : Array Value} {below : List Frame} {meth : Method} {c : Code} (C0 : x_Ctx G p s m args meth c prog_1_method_15_code "ContentLibrary" 2 (some .int)) (r : Int32) (zo : x_St) : ∀ (fu : Nat), ∀ (a1 : Int32) (z0 : x_St), f_X_badAt_2 (x_n G) fu a1 z0 = some (r, zo) → ∀ (H : Heap) (locs : List Loc) (ls : Array Slot), va_P (x_D G) vwCl (x_Wd G z0) H → va_D (x_A G) (x_Wd G z0) → va_S (x_A G) s.heap H locs → lv_has ls 2 [(0, .ref (x_ad G 0)), (1, .int a1)] → W p l e rm_X_badAt s m args below meth c H locs 0 0 (MQ below (va_Qi (fun a u => r = a ∧ zo = u) (x_PW G) (x_A G)) args s 0 0 (x_A G)) (F0 m 2 ls []) := by
  obtain ⟨hx, hb, hr, hml, hown, hts, hlocks, hz, hK, hG⟩ := id C0
  intro fu
  induction fu with
  | zero =>
    intro a1 z0 hf
    rw [f_X_badAt_2] at hf
    cases hf
  | succ fu ih =>
    intro a1 z0 hf H locs ls hP hD hS hl
    rw [f_X_badAt_2] at hf
    refine lv_iload_n hx hb d_X_badAt_2 rfl (lv_at hl 1 rfl) ?_
    refine lv_aload_n hx hb d_X_badAt_3 rfl (lv_at hl 0 rfl) ?_
    refine va_get (D := x_D G) (ci := 0) (v := .ref (x_ad G 1)) (C := "ContentLibrary") (T := x_TX) (N := 9) hx hb hts x_inX hown hK hP 0 (x_lk_X G _) rfl 0 (by decide) (hts _ t_130) (fun _ h9 => h9) rfl d_X_badAt_4 ?_
    refine va_get (D := x_D G) (ci := 1) (v := .int (z0.1 1 0)) (C := "ContentLibrary$Blocks") (T := x_TB) (N := 5) hx hb hts x_inB hown hK hP 1 (x_lk_B G _) rfl 0 (by decide) (hts _ t_40) (fun _ h9 => h9) rfl d_X_badAt_7 ?_
    refine lv_icmp_ge (tgt := 43) hx hb d_X_badAt_10 (by decide) (fun hc1 => ?_) (fun hc1 => ?_)
    · have hf := x_br_t hf hc1
      refine lv_iconst (v := (-1 : Int32)) hx hb d_X_badAt_43 (by decide) ?_
      obtain ⟨rfl, rfl⟩ := x_ret hf
      exact W.iret (v := (-1 : Int32)) hx hb hr (fun t ht hW => ⟨⟨_, _, rfl, ⟨rfl, rfl⟩, x_pw hP hD hK hG hS hz ht hW⟩, hS.F ht⟩) hS.2.2 d_X_badAt_44
    · have hf := x_br_f hf hc1
      refine lv_aload_n hx hb d_X_badAt_13 rfl (lv_at hl 0 rfl) ?_
      refine va_get (D := x_D G) (ci := 0) (v := .ref (x_ad G 1)) (C := "ContentLibrary") (T := x_TX) (N := 9) hx hb hts x_inX hown hK hP 0 (x_lk_X G _) rfl 0 (by decide) (hts _ t_130) (fun _ h9 => h9) rfl d_X_badAt_14 ?_
      refine lv_iload_n hx hb d_X_badAt_17 rfl (lv_at hl 1 rfl) ?_
      obtain ⟨r2, z2, hq3, hf⟩ := x_cl_some hf
      refine va_calli (va_runV (As := [.int a1]) (rest := []) ⟨hx, hb, hml, hown, hts⟩ (c_B_isBlank l G a1 z0 r2 z2 hq3) (cwV 1 hts (x_gV t_305 t_306 t_307 t_3 t_308) rfl rfl rfl (by decide +kernel) ⟨Nat.le_of_ble_eq_true rfl, Nat.le_of_ble_eq_true rfl⟩) ⟨x_blind _ _ _, va_recv hK hP (ci := 1) (q0 := 1) rfl (x_lk_B G _), fun U hU hW => ⟨rfl, x_pw hP hD hK hG hS hz hU hW⟩⟩ rfl rfl hl.1 rfl (lv_room (Nat.le_of_ble_eq_true rfl)) d_X_badAt_18 ⟨Nat.le_of_ble_eq_true rfl, Nat.le_of_ble_eq_true rfl⟩) hS (fun q _ h => h) (fun q h => h) (fun ra u t H locs ht hvm hw hB _ _ hS => ?_)
      obtain ⟨rfl, rfl⟩ := hw
      obtain ⟨hP, hD⟩ := x_back hB ht
      refine lv_if_ne (tgt := 37) hx hb d_X_badAt_21 (by decide) (fun hc4 => ?_) (fun hc4 => ?_)
      · have hf := x_br_f hf hc4
        refine lv_iinc (v := (a1 + (1 : Int32))) (lv' := [(1, .int (a1 + (1 : Int32))), (0, .ref (x_ad G 0))]) hx hb d_X_badAt_37 hl (k := 1) rfl rfl (by decide) rfl (fun ls hl => ?_)
        refine lv_goto (tgt := 2) hx hb d_X_badAt_40 (by decide) ?_
        exact ih (a1 + (1 : Int32)) z2 hf _ _ _ hP hD hS (lv_sub hl [1, 0] rfl)
      · have hf := x_br_t hf hc4
        refine lv_aload_n hx hb d_X_badAt_24 rfl (lv_at hl 0 rfl) ?_
        refine va_get (D := x_D G) (ci := 0) (v := .ref (x_ad G 1)) (C := "ContentLibrary") (T := x_TX) (N := 9) hx hb hts x_inX hown hK hP 0 (x_lk_X G _) rfl 0 (by decide) (hts _ t_130) (fun _ h9 => h9) rfl d_X_badAt_25 ?_
        refine lv_iload_n hx hb d_X_badAt_28 rfl (lv_at hl 1 rfl) ?_
        obtain ⟨r5, z5, hq6, hf⟩ := x_cl_some hf
        refine va_calli (va_runV (As := [.int a1]) (rest := []) ⟨hx, hb, hml, hown, hts⟩ (c_B_isGood l G a1 z2 r5 z5 hq6) (cwV 1 hts (x_gV t_309 t_179 t_180 t_3 t_181) rfl rfl rfl (by decide +kernel) ⟨Nat.le_of_ble_eq_true rfl, Nat.le_of_ble_eq_true rfl⟩) ⟨x_blind _ _ _, va_recv hK hP (ci := 1) (q0 := 1) rfl (x_lk_B G _), fun U hU hW => ⟨rfl, x_pw hP hD hK hG hS hz hU hW⟩⟩ rfl rfl hl.1 rfl (lv_room (Nat.le_of_ble_eq_true rfl)) d_X_badAt_29 ⟨Nat.le_of_ble_eq_true rfl, Nat.le_of_ble_eq_true rfl⟩) hS (fun q _ h => h) (fun q h => h) (fun ra u t H locs ht hvm hw hB _ _ hS => ?_)
        obtain ⟨rfl, rfl⟩ := hw
        obtain ⟨hP, hD⟩ := x_back hB ht
        refine lv_if_ne (tgt := 37) hx hb d_X_badAt_32 (by decide) (fun hc7 => ?_) (fun hc7 => ?_)
        · have hf := x_br_f hf hc7
          refine lv_iinc (v := (a1 + (1 : Int32))) (lv' := [(1, .int (a1 + (1 : Int32))), (0, .ref (x_ad G 0))]) hx hb d_X_badAt_37 hl (k := 1) rfl rfl (by decide) rfl (fun ls hl => ?_)
          refine lv_goto (tgt := 2) hx hb d_X_badAt_40 (by decide) ?_
          exact ih (a1 + (1 : Int32)) z5 hf _ _ _ hP hD hS (lv_sub hl [1, 0] rfl)
        · have hf := x_br_t hf hc7
          exact w_X_badAt_35 l G C0 r zo a1 z5 hf _ _ _ hP hD hS (lv_sub hl [1] rfl)
set_option maxHeartbeats 4000000 in
set_option maxRecDepth 100000 in
theorem c_X_badAt (l : Launch) (G : x_G)  (z0 : x_St) (r : Int32) (zo : x_St) (hf : f_X_badAt (x_n G)  z0 = some (r, zo)) : Met l (⟨"ContentLibrary", "badAt", "()I"⟩ : MethodName) (x_ws (⟨"ContentLibrary", "badAt", "()I"⟩ : MethodName) prog_1_method_15_code 2 (some .int)) rm_X_badAt (va_Pc [.ref (x_ad G 0)] (x_PW G z0)) (va_Qi (fun a u => r = a ∧ zo = u) (x_PW G) (x_A G)) 0 0 (x_A G) := by
  refine Met.ofW (cc := prog_1_method_15_code) (maxL := 2) (ret := (some .int)) (by decide) rfl ?_
  intro p e s m args below meth c s₁ B hml hv
  obtain ⟨rfl, hz, hP, hD, hK, hG⟩ := hv
  have C0 : x_Ctx G p s m _ meth c prog_1_method_15_code "ContentLibrary" 2 (some .int) := ⟨B.exec, B.bytes, B.returns, hml, findClass_of_methodNamed B.named, fun w h => atoms_spec (ws := (x_ws (⟨"ContentLibrary", "badAt", "()I"⟩ : MethodName) prog_1_method_15_code 2 (some .int))) B.pre w (List.mem_cons_of_mem _ h), B.notSynchronized, hz, hK, hG⟩
  obtain ⟨hx, hb, hr, hml, hown, hts, hlocks, hz, hK, hG⟩ := id C0
  have hS : va_S (x_A G) s.heap s.heap [] := va_S.rf
  have hl := lv_entry ([.ref (x_ad G 0)]) (n := 2) (Nat.le_of_ble_eq_true rfl)
  rw [lg_entry_eq]
  generalize (lg_sl ([.ref (x_ad G 0)]) ++ List.replicate (2 - (lg_sl ([.ref (x_ad G 0)])).length) Slot.unset).toArray = ls at hl ⊢
  have hl : lv_has ls 2 [(0, .ref (x_ad G 0))] := hl
  rw [f_X_badAt] at hf
  refine lv_iconst (v := (0 : Int32)) hx hb d_X_badAt_0 (by decide) ?_
  refine lv_istore_n (lv' := [(1, .int (0 : Int32)), (0, .ref (x_ad G 0))]) hx hb d_X_badAt_1 rfl hl (by decide) rfl (fun ls hl => ?_)
  exact w_X_badAt_2 l G C0 r zo x_FU (0 : Int32) z0 hf _ _ _ hP hD hS (lv_sub hl [1, 0] rfl)
abbrev rm_X_told : Room := { frames := 1, cells := 0, slots := 0, locals := 22 }
set_option maxHeartbeats 4000000 in
set_option maxRecDepth 100000 in
theorem c_X_told (l : Launch) (G : x_G) (p1 : Int32) (z0 : x_St) (r : Int32) (zo : x_St) (hf : f_X_told (x_n G) p1 z0 = some (r, zo)) : Met l (⟨"ContentLibrary", "told", "(I)I"⟩ : MethodName) (x_ws (⟨"ContentLibrary", "told", "(I)I"⟩ : MethodName) prog_1_method_17_code 2 (some .int)) rm_X_told (va_Pc [.ref (x_ad G 0), .int p1] (x_PW G z0)) (va_Qi (fun a u => r = a ∧ zo = u) (x_PW G) (x_A G)) 0 0 (x_A G) := by
  refine Met.ofW (cc := prog_1_method_17_code) (maxL := 2) (ret := (some .int)) (by decide) rfl ?_
  intro p e s m args below meth c s₁ B hml hv
  obtain ⟨rfl, hz, hP, hD, hK, hG⟩ := hv
  have C0 : x_Ctx G p s m _ meth c prog_1_method_17_code "ContentLibrary" 2 (some .int) := ⟨B.exec, B.bytes, B.returns, hml, findClass_of_methodNamed B.named, fun w h => atoms_spec (ws := (x_ws (⟨"ContentLibrary", "told", "(I)I"⟩ : MethodName) prog_1_method_17_code 2 (some .int))) B.pre w (List.mem_cons_of_mem _ h), B.notSynchronized, hz, hK, hG⟩
  obtain ⟨hx, hb, hr, hml, hown, hts, hlocks, hz, hK, hG⟩ := id C0
  have hS : va_S (x_A G) s.heap s.heap [] := va_S.rf
  have hl := lv_entry ([.ref (x_ad G 0), .int p1]) (n := 2) (Nat.le_of_ble_eq_true rfl)
  rw [lg_entry_eq]
  generalize (lg_sl ([.ref (x_ad G 0), .int p1]) ++ List.replicate (2 - (lg_sl ([.ref (x_ad G 0), .int p1])).length) Slot.unset).toArray = ls at hl ⊢
  have hl : lv_has ls 2 [(0, .ref (x_ad G 0)), (1, .int p1)] := hl
  rw [f_X_told] at hf
  refine lv_iload_n hx hb d_X_told_0 rfl (lv_at hl 1 rfl) ?_
  by_cases hs1 : p1 = (0 : Int32)
  · have hf := x_br_t hf hs1
    refine lv_tableIn (tgt := 44) hx hb d_X_told_1 (by rw [hs1]; decide) (by rw [hs1]; decide) (by rw [hs1]; rfl) (by decide) ?_
    refine lv_aload_n hx hb d_X_told_44 rfl (lv_at hl 0 rfl) ?_
    refine va_get (D := x_D G) (ci := 0) (v := .ref (x_ad G 1)) (C := "ContentLibrary") (T := x_TX) (N := 9) hx hb hts x_inX hown hK hP 0 (x_lk_X G _) rfl 0 (by decide) (hts _ t_130) (fun _ h9 => h9) rfl d_X_told_45 ?_
    refine va_get (D := x_D G) (ci := 1) (v := .int (z0.1 1 0)) (C := "ContentLibrary$Blocks") (T := x_TB) (N := 5) hx hb hts x_inB hown hK hP 1 (x_lk_B G _) rfl 0 (by decide) (hts _ t_40) (fun _ h9 => h9) rfl d_X_told_48 ?_
    obtain ⟨rfl, rfl⟩ := x_ret hf
    exact W.iret (v := (z0.1 1 0)) hx hb hr (fun t ht hW => ⟨⟨_, _, rfl, ⟨rfl, rfl⟩, x_pw hP hD hK hG hS hz ht hW⟩, hS.F ht⟩) hS.2.2 d_X_told_51
  have hf := x_br_f hf hs1
  by_cases hs2 : p1 = (1 : Int32)
  · have hf := x_br_t hf hs2
    refine lv_tableIn (tgt := 52) hx hb d_X_told_1 (by rw [hs2]; decide) (by rw [hs2]; decide) (by rw [hs2]; rfl) (by decide) ?_
    refine lv_aload_n hx hb d_X_told_52 rfl (lv_at hl 0 rfl) ?_
    refine va_get (D := x_D G) (ci := 0) (v := .ref (x_ad G 1)) (C := "ContentLibrary") (T := x_TX) (N := 9) hx hb hts x_inX hown hK hP 0 (x_lk_X G _) rfl 0 (by decide) (hts _ t_130) (fun _ h9 => h9) rfl d_X_told_53 ?_
    refine va_get (D := x_D G) (ci := 1) (v := .int (z0.1 1 2)) (C := "ContentLibrary$Blocks") (T := x_TB) (N := 5) hx hb hts x_inB hown hK hP 1 (x_lk_B G _) rfl 2 (by decide) (hts _ t_44) (fun _ h9 => h9) rfl d_X_told_56 ?_
    refine lv_if_eq (tgt := 66) hx hb d_X_told_59 (by decide) (fun hc3 => ?_) (fun hc3 => ?_)
    · have hf := x_br_t hf hc3
      refine lv_aload_n hx hb d_X_told_66 rfl (lv_at hl 0 rfl) ?_
      obtain ⟨r4, z4, hq5, hf⟩ := x_cl_some hf
      refine va_calli (va_runV (As := []) (rest := []) ⟨hx, hb, hml, hown, hts⟩ (c_X_countFreeBlocks l G z0 r4 z4 hq5) (cwV 0 hts (x_gV t_314 t_316 sel_ContentLibrary_countFreeBlocks t_1 t_317) rfl rfl rfl (by decide +kernel) ⟨Nat.le_of_ble_eq_true rfl, Nat.le_of_ble_eq_true rfl⟩) ⟨x_blind _ _ _, va_recv hK hP (ci := 0) (q0 := 0) rfl (x_lk_X G _), fun U hU hW => ⟨rfl, x_pw hP hD hK hG hS hz hU hW⟩⟩ rfl rfl hl.1 rfl (lv_room (Nat.le_of_ble_eq_true rfl)) d_X_told_67 ⟨Nat.le_of_ble_eq_true rfl, Nat.le_of_ble_eq_true rfl⟩) hS (fun q _ h => h) (fun q h => h) (fun ra u t H locs ht hvm hw hB _ _ hS => ?_)
      obtain ⟨rfl, rfl⟩ := hw
      obtain ⟨hP, hD⟩ := x_back hB ht
      obtain ⟨rfl, rfl⟩ := x_ret hf
      exact W.iret (v := r4) hx hb hr (fun t ht hW => ⟨⟨_, _, rfl, ⟨rfl, rfl⟩, x_pw hP hD hK hG hS hz ht hW⟩, hS.F ht⟩) hS.2.2 d_X_told_70
    · have hf := x_br_f hf hc3
      refine lv_iconst (v := (0 : Int32)) hx hb d_X_told_62 (by decide) ?_
      refine lv_goto (tgt := 70) hx hb d_X_told_63 (by decide) ?_
      obtain ⟨rfl, rfl⟩ := x_ret hf
      exact W.iret (v := (0 : Int32)) hx hb hr (fun t ht hW => ⟨⟨_, _, rfl, ⟨rfl, rfl⟩, x_pw hP hD hK hG hS hz ht hW⟩, hS.F ht⟩) hS.2.2 d_X_told_70
  have hf := x_br_f hf hs2
  by_cases hs6 : p1 = (2 : Int32)
  · have hf := x_br_t hf hs6
    refine lv_tableIn (tgt := 71) hx hb d_X_told_1 (by rw [hs6]; decide) (by rw [hs6]; decide) (by rw [hs6]; rfl) (by decide) ?_
    refine lv_aload_n hx hb d_X_told_71 rfl (lv_at hl 0 rfl) ?_
    obtain ⟨r7, z7, hq8, hf⟩ := x_cl_some hf
    refine va_calli (va_runV (As := []) (rest := []) ⟨hx, hb, hml, hown, hts⟩ (c_X_countKept l G z0 r7 z7 hq8) (cwV 0 hts (x_gV t_297 t_299 sel_ContentLibrary_countKept t_1 t_300) rfl rfl rfl (by decide +kernel) ⟨Nat.le_of_ble_eq_true rfl, Nat.le_of_ble_eq_true rfl⟩) ⟨x_blind _ _ _, va_recv hK hP (ci := 0) (q0 := 0) rfl (x_lk_X G _), fun U hU hW => ⟨rfl, x_pw hP hD hK hG hS hz hU hW⟩⟩ rfl rfl hl.1 rfl (lv_room (Nat.le_of_ble_eq_true rfl)) d_X_told_72 ⟨Nat.le_of_ble_eq_true rfl, Nat.le_of_ble_eq_true rfl⟩) hS (fun q _ h => h) (fun q h => h) (fun ra u t H locs ht hvm hw hB _ _ hS => ?_)
    obtain ⟨rfl, rfl⟩ := hw
    obtain ⟨hP, hD⟩ := x_back hB ht
    obtain ⟨rfl, rfl⟩ := x_ret hf
    exact W.iret (v := r7) hx hb hr (fun t ht hW => ⟨⟨_, _, rfl, ⟨rfl, rfl⟩, x_pw hP hD hK hG hS hz ht hW⟩, hS.F ht⟩) hS.2.2 d_X_told_75
  have hf := x_br_f hf hs6
  by_cases hs9 : p1 = (3 : Int32)
  · have hf := x_br_t hf hs9
    refine lv_tableIn (tgt := 76) hx hb d_X_told_1 (by rw [hs9]; decide) (by rw [hs9]; decide) (by rw [hs9]; rfl) (by decide) ?_
    refine lv_aload_n hx hb d_X_told_76 rfl (lv_at hl 0 rfl) ?_
    obtain ⟨r10, z10, hq11, hf⟩ := x_cl_some hf
    refine va_calli (va_runV (As := []) (rest := []) ⟨hx, hb, hml, hown, hts⟩ (c_X_countMade l G z0 r10 z10 hq11) (cwV 0 hts (x_gV t_318 t_320 sel_ContentLibrary_countMade t_1 t_321) rfl rfl rfl (by decide +kernel) ⟨Nat.le_of_ble_eq_true rfl, Nat.le_of_ble_eq_true rfl⟩) ⟨x_blind _ _ _, va_recv hK hP (ci := 0) (q0 := 0) rfl (x_lk_X G _), fun U hU hW => ⟨rfl, x_pw hP hD hK hG hS hz hU hW⟩⟩ rfl rfl hl.1 rfl (lv_room (Nat.le_of_ble_eq_true rfl)) d_X_told_77 ⟨Nat.le_of_ble_eq_true rfl, Nat.le_of_ble_eq_true rfl⟩) hS (fun q _ h => h) (fun q h => h) (fun ra u t H locs ht hvm hw hB _ _ hS => ?_)
    obtain ⟨rfl, rfl⟩ := hw
    obtain ⟨hP, hD⟩ := x_back hB ht
    obtain ⟨rfl, rfl⟩ := x_ret hf
    exact W.iret (v := r10) hx hb hr (fun t ht hW => ⟨⟨_, _, rfl, ⟨rfl, rfl⟩, x_pw hP hD hK hG hS hz ht hW⟩, hS.F ht⟩) hS.2.2 d_X_told_80
  have hf := x_br_f hf hs9
  by_cases hs12 : p1 = (4 : Int32)
  · have hf := x_br_t hf hs12
    refine lv_tableIn (tgt := 81) hx hb d_X_told_1 (by rw [hs12]; decide) (by rw [hs12]; decide) (by rw [hs12]; rfl) (by decide) ?_
    refine lv_aload_n hx hb d_X_told_81 rfl (lv_at hl 0 rfl) ?_
    refine va_get (D := x_D G) (ci := 0) (v := .int (z0.1 0 8)) (C := "ContentLibrary") (T := x_TX) (N := 9) hx hb hts x_inX hown hK hP 0 (x_lk_X G _) rfl 8 (by decide) (hts _ t_138) (fun _ h9 => h9) rfl d_X_told_82 ?_
    obtain ⟨rfl, rfl⟩ := x_ret hf
    exact W.iret (v := (z0.1 0 8)) hx hb hr (fun t ht hW => ⟨⟨_, _, rfl, ⟨rfl, rfl⟩, x_pw hP hD hK hG hS hz ht hW⟩, hS.F ht⟩) hS.2.2 d_X_told_85
  have hf := x_br_f hf hs12
  by_cases hs13 : p1 = (5 : Int32)
  · have hf := x_br_t hf hs13
    refine lv_tableIn (tgt := 86) hx hb d_X_told_1 (by rw [hs13]; decide) (by rw [hs13]; decide) (by rw [hs13]; rfl) (by decide) ?_
    refine lv_aload_n hx hb d_X_told_86 rfl (lv_at hl 0 rfl) ?_
    refine va_get (D := x_D G) (ci := 0) (v := .ref (x_ad G 1)) (C := "ContentLibrary") (T := x_TX) (N := 9) hx hb hts x_inX hown hK hP 0 (x_lk_X G _) rfl 0 (by decide) (hts _ t_130) (fun _ h9 => h9) rfl d_X_told_87 ?_
    refine va_get (D := x_D G) (ci := 1) (v := .int (z0.1 1 2)) (C := "ContentLibrary$Blocks") (T := x_TB) (N := 5) hx hb hts x_inB hown hK hP 1 (x_lk_B G _) rfl 2 (by decide) (hts _ t_44) (fun _ h9 => h9) rfl d_X_told_90 ?_
    refine lv_if_eq (tgt := 100) hx hb d_X_told_93 (by decide) (fun hc14 => ?_) (fun hc14 => ?_)
    · have hf := x_br_t hf hc14
      refine lv_iconst (v := (0 : Int32)) hx hb d_X_told_100 (by decide) ?_
      obtain ⟨rfl, rfl⟩ := x_ret hf
      exact W.iret (v := (0 : Int32)) hx hb hr (fun t ht hW => ⟨⟨_, _, rfl, ⟨rfl, rfl⟩, x_pw hP hD hK hG hS hz ht hW⟩, hS.F ht⟩) hS.2.2 d_X_told_101
    · have hf := x_br_f hf hc14
      refine lv_iconst (v := (1 : Int32)) hx hb d_X_told_96 (by decide) ?_
      refine lv_goto (tgt := 101) hx hb d_X_told_97 (by decide) ?_
      obtain ⟨rfl, rfl⟩ := x_ret hf
      exact W.iret (v := (1 : Int32)) hx hb hr (fun t ht hW => ⟨⟨_, _, rfl, ⟨rfl, rfl⟩, x_pw hP hD hK hG hS hz ht hW⟩, hS.F ht⟩) hS.2.2 d_X_told_101
  have hf := x_br_f hf hs13
  by_cases hs15 : p1 = (6 : Int32)
  · have hf := x_br_t hf hs15
    refine lv_tableIn (tgt := 102) hx hb d_X_told_1 (by rw [hs15]; decide) (by rw [hs15]; decide) (by rw [hs15]; rfl) (by decide) ?_
    refine lv_aload_n hx hb d_X_told_102 rfl (lv_at hl 0 rfl) ?_
    refine va_get (D := x_D G) (ci := 0) (v := .ref (x_ad G 1)) (C := "ContentLibrary") (T := x_TX) (N := 9) hx hb hts x_inX hown hK hP 0 (x_lk_X G _) rfl 0 (by decide) (hts _ t_130) (fun _ h9 => h9) rfl d_X_told_103 ?_
    refine va_get (D := x_D G) (ci := 1) (v := .int (z0.1 1 1)) (C := "ContentLibrary$Blocks") (T := x_TB) (N := 5) hx hb hts x_inB hown hK hP 1 (x_lk_B G _) rfl 1 (by decide) (hts _ t_42) (fun _ h9 => h9) rfl d_X_told_106 ?_
    obtain ⟨rfl, rfl⟩ := x_ret hf
    exact W.iret (v := (z0.1 1 1)) hx hb hr (fun t ht hW => ⟨⟨_, _, rfl, ⟨rfl, rfl⟩, x_pw hP hD hK hG hS hz ht hW⟩, hS.F ht⟩) hS.2.2 d_X_told_109
  have hf := x_br_f hf hs15
  refine lv_tableOut (tgt := 110) hx hb d_X_told_1 (x_out7 hs1 hs2 hs6 hs9 hs12 hs13 hs15) (by decide) ?_
  refine lv_iconst (v := (-1 : Int32)) hx hb d_X_told_110 (by decide) ?_
  obtain ⟨rfl, rfl⟩ := x_ret hf
  exact W.iret (v := (-1 : Int32)) hx hb hr (fun t ht hW => ⟨⟨_, _, rfl, ⟨rfl, rfl⟩, x_pw hP hD hK hG hS hz ht hW⟩, hS.F ht⟩) hS.2.2 d_X_told_111
abbrev rm_X_wipeFreeBlocks : Room := { frames := 2, cells := 0, slots := 0, locals := 46 }
set_option maxHeartbeats 4000000 in
set_option maxRecDepth 100000 in
theorem w_X_wipeFreeBlocks_88 (l : Launch) (G : x_G) {p : Program} {e : Env} {s : State} {m : MethodId} {args : Array Value} {below : List Frame} {meth : Method} {c : Code} (C0 : x_Ctx G p s m args meth c prog_1_method_29_code "ContentLibrary" 5 (some .int)) (r : Int32) (zo : x_St) : ∀ (a2 : Int32) (z0 : x_St), f_X_wipeFreeBlocks_88 (x_n G) a2 z0 = some (r, zo) → ∀ (H : Heap) (locs : List Loc) (ls : Array Slot), va_P (x_D G) vwCl (x_Wd G z0) H → va_D (x_A G) (x_Wd G z0) → va_S (x_A G) s.heap H locs → lv_has ls 5 [(2, .int a2)] → W p l e rm_X_wipeFreeBlocks s m args below meth c H locs 0 0 (MQ below (va_Qi (fun a u => r = a ∧ zo = u) (x_PW G) (x_A G)) args s 0 0 (x_A G)) (F0 m 88 ls []) := by
  obtain ⟨hx, hb, hr, hml, hown, hts, hlocks, hz, hK, hG⟩ := id C0
  intro a2 z0 hf H locs ls hP hD hS hl
  rw [f_X_wipeFreeBlocks_88] at hf
  refine lv_iload_n hx hb d_X_wipeFreeBlocks_88 rfl (lv_at hl 0 rfl) ?_
  obtain ⟨rfl, rfl⟩ := x_ret hf
  exact W.iret (v := a2) hx hb hr (fun t ht hW => ⟨⟨_, _, rfl, ⟨rfl, rfl⟩, x_pw hP hD hK hG hS hz ht hW⟩, hS.F ht⟩) hS.2.2 d_X_wipeFreeBlocks_89
set_option maxHeartbeats 4000000 in
set_option maxRecDepth 100000 in
theorem w_X_wipeFreeBlocks_76 (l : Launch) (G : x_G) {p : Program} {e : Env} {s : State} {m : MethodId} {args : Array Value} {below : List Frame} {meth : Method} {c : Code} (C0 : x_Ctx G p s m args meth c prog_1_method_29_code "ContentLibrary" 5 (some .int)) (r : Int32) (zo : x_St) : ∀ (z0 : x_St), f_X_wipeFreeBlocks_76 (x_n G)  z0 = some (r, zo) → ∀ (H : Heap) (locs : List Loc) (ls : Array Slot), va_P (x_D G) vwCl (x_Wd G z0) H → va_D (x_A G) (x_Wd G z0) → va_S (x_A G) s.heap H locs → lv_has ls 5 [] → W p l e rm_X_wipeFreeBlocks s m args below meth c H locs 0 0 (MQ below (va_Qi (fun a u => r = a ∧ zo = u) (x_PW G) (x_A G)) args s 0 0 (x_A G)) (F0 m 76 ls []) := by
  obtain ⟨hx, hb, hr, hml, hown, hts, hlocks, hz, hK, hG⟩ := id C0
  intro  z0 hf H locs ls hP hD hS hl
  rw [f_X_wipeFreeBlocks_76] at hf
  refine lv_bipush (v := (-2 : Int32)) hx hb d_X_wipeFreeBlocks_76 (by decide) ?_
  obtain ⟨rfl, rfl⟩ := x_ret hf
  exact W.iret (v := (-2 : Int32)) hx hb hr (fun t ht hW => ⟨⟨_, _, rfl, ⟨rfl, rfl⟩, x_pw hP hD hK hG hS hz ht hW⟩, hS.F ht⟩) hS.2.2 d_X_wipeFreeBlocks_78
set_option maxHeartbeats 4000000 in
set_option maxRecDepth 100000 in
theorem w_X_wipeFreeBlocks_4 (l : Launch) (G : x_G) {p : Program} {e : Env} {s : State} {m : MethodId} {args : Array Value} {below : List Frame} {meth : Method} {c : Code} (C0 : x_Ctx G p s m args meth c prog_1_method_29_code "ContentLibrary" 5 (some .int)) (r : Int32) (zo : x_St) : ∀ (fu : Nat), ∀ (a1 : Int32) (a2 : Int32) (a3 : Int32) (z0 : x_St), f_X_wipeFreeBlocks_4 (x_n G) fu a1 a2 a3 z0 = some (r, zo) → ∀ (H : Heap) (locs : List Loc) (ls : Array Slot), va_P (x_D G) vwCl (x_Wd G z0) H → va_D (x_A G) (x_Wd G z0) → va_S (x_A G) s.heap H locs → lv_has ls 5 [(0, .ref (x_ad G 0)), (1, .int a1), (2, .int a2), (3, .int a3)] → W p l e rm_X_wipeFreeBlocks s m args below meth c H locs 0 0 (MQ below (va_Qi (fun a u => r = a ∧ zo = u) (x_PW G) (x_A G)) args s 0 0 (x_A G)) (F0 m 4 ls []) := by
  obtain ⟨hx, hb, hr, hml, hown, hts, hlocks, hz, hK, hG⟩ := id C0
  intro fu
  induction fu with
  | zero =>
    intro a1 a2 a3 z0 hf
    rw [f_X_wipeFreeBlocks_4] at hf
    cases hf
  | succ fu ih =>
    intro a1 a2 a3 z0 hf H locs ls hP hD hS hl
    rw [f_X_wipeFreeBlocks_4] at hf
    refine lv_iload_n hx hb d_X_wipeFreeBlocks_4 rfl (lv_at hl 3 rfl) ?_
    refine lv_aload_n hx hb d_X_wipeFreeBlocks_5 rfl (lv_at hl 0 rfl) ?_
    refine va_get (D := x_D G) (ci := 0) (v := .ref (x_ad G 1)) (C := "ContentLibrary") (T := x_TX) (N := 9) hx hb hts x_inX hown hK hP 0 (x_lk_X G _) rfl 0 (by decide) (hts _ t_130) (fun _ h9 => h9) rfl d_X_wipeFreeBlocks_6 ?_
    refine va_get (D := x_D G) (ci := 1) (v := .int (z0.1 1 0)) (C := "ContentLibrary$Blocks") (T := x_TB) (N := 5) hx hb hts x_inB hown hK hP 1 (x_lk_B G _) rfl 0 (by decide) (hts _ t_40) (fun _ h9 => h9) rfl d_X_wipeFreeBlocks_9 ?_
    refine lv_icmp_ge (tgt := 88) hx hb d_X_wipeFreeBlocks_12 (by decide) (fun hc1 => ?_) (fun hc1 => ?_)
    · have hf := x_br_t hf hc1
      exact w_X_wipeFreeBlocks_88 l G C0 r zo a2 z0 hf _ _ _ hP hD hS (lv_sub hl [2] rfl)
    · have hf := x_br_f hf hc1
      refine lv_iload_n hx hb d_X_wipeFreeBlocks_15 rfl (lv_at hl 1 rfl) ?_
      refine lv_iconst (v := (-1 : Int32)) hx hb d_X_wipeFreeBlocks_16 (by decide) ?_
      refine lv_icmp_eq (tgt := 33) hx hb d_X_wipeFreeBlocks_17 (by decide) (fun hc2 => ?_) (fun hc2 => ?_)
      · have hf := x_br_t hf hc2
        refine lv_iconst (v := (1 : Int32)) hx hb d_X_wipeFreeBlocks_33 (by decide) ?_
        refine lv_goto (tgt := 38) hx hb d_X_wipeFreeBlocks_34 (by decide) ?_
        refine lv_istore (lv' := [(4, .int (1 : Int32)), (0, .ref (x_ad G 0)), (1, .int a1), (2, .int a2), (3, .int a3)]) hx hb d_X_wipeFreeBlocks_38 hl (by decide) rfl (fun ls hl => ?_)
        refine lv_aload_n hx hb d_X_wipeFreeBlocks_40 rfl (lv_at hl 1 rfl) ?_
        refine va_get (D := x_D G) (ci := 0) (v := .ref (x_ad G 4)) (C := "ContentLibrary") (T := x_TX) (N := 9) hx hb hts x_inX hown hK hP 0 (x_lk_X G _) rfl 1 (by decide) (hts _ t_131) (fun _ h9 => h9) rfl d_X_wipeFreeBlocks_41 ?_
        refine lv_iload_n hx hb d_X_wipeFreeBlocks_44 rfl (lv_at hl 4 rfl) ?_
        obtain ⟨hin3, hf⟩ := x_ck_some hf
        refine va_zald hx hb hK hP 4 1 (x_lk_Z G _) rfl hin3 d_X_wipeFreeBlocks_45 ?_
        refine lv_if_ne (tgt := 82) hx hb d_X_wipeFreeBlocks_46 (by decide) (fun hc4 => ?_) (fun hc4 => ?_)
        · have hf := x_br_f hf hc4
          refine lv_iinc (v := (a3 + (1 : Int32))) (lv' := [(3, .int (a3 + (1 : Int32))), (4, .int (1 : Int32)), (0, .ref (x_ad G 0)), (1, .int a1), (2, .int a2)]) hx hb d_X_wipeFreeBlocks_82 hl (k := 4) rfl rfl (by decide) rfl (fun ls hl => ?_)
          refine lv_goto (tgt := 4) hx hb d_X_wipeFreeBlocks_85 (by decide) ?_
          exact ih a1 a2 (a3 + (1 : Int32)) z0 hf _ _ _ hP hD hS (lv_sub hl [2, 3, 4, 0] rfl)
        · have hf := x_br_t hf hc4
          refine lv_iload hx hb d_X_wipeFreeBlocks_49 (lv_at hl 0 rfl) ?_
          refine lv_if_eq (tgt := 82) hx hb d_X_wipeFreeBlocks_51 (by decide) (fun hc => absurd hc (by decide)) (fun _ => ?_)
          refine lv_aload_n hx hb d_X_wipeFreeBlocks_54 rfl (lv_at hl 1 rfl) ?_
          refine va_get (D := x_D G) (ci := 0) (v := .ref (x_ad G 1)) (C := "ContentLibrary") (T := x_TX) (N := 9) hx hb hts x_inX hown hK hP 0 (x_lk_X G _) rfl 0 (by decide) (hts _ t_130) (fun _ h9 => h9) rfl d_X_wipeFreeBlocks_55 ?_
          refine lv_iload_n hx hb d_X_wipeFreeBlocks_58 rfl (lv_at hl 4 rfl) ?_
          obtain ⟨r5, z5, hq6, hf⟩ := x_cl_some hf
          refine va_calli (va_runV (As := [.int a3]) (rest := []) ⟨hx, hb, hml, hown, hts⟩ (c_B_isBlank l G a3 z0 r5 z5 hq6) (cwV 1 hts (x_gV t_305 t_306 t_307 t_3 t_308) rfl rfl rfl (by decide +kernel) ⟨Nat.le_of_ble_eq_true rfl, Nat.le_of_ble_eq_true rfl⟩) ⟨x_blind _ _ _, va_recv hK hP (ci := 1) (q0 := 1) rfl (x_lk_B G _), fun U hU hW => ⟨rfl, x_pw hP hD hK hG hS hz hU hW⟩⟩ rfl rfl hl.1 rfl (lv_room (Nat.le_of_ble_eq_true rfl)) d_X_wipeFreeBlocks_59 ⟨Nat.le_of_ble_eq_true rfl, Nat.le_of_ble_eq_true rfl⟩) hS (fun q _ h => h) (fun q h => h) (fun ra u t H locs ht hvm hw hB _ _ hS => ?_)
          obtain ⟨rfl, rfl⟩ := hw
          obtain ⟨hP, hD⟩ := x_back hB ht
          refine lv_if_ne (tgt := 82) hx hb d_X_wipeFreeBlocks_62 (by decide) (fun hc7 => ?_) (fun hc7 => ?_)
          · have hf := x_br_f hf hc7
            refine lv_iinc (v := (a3 + (1 : Int32))) (lv' := [(3, .int (a3 + (1 : Int32))), (4, .int (1 : Int32)), (0, .ref (x_ad G 0)), (1, .int a1), (2, .int a2)]) hx hb d_X_wipeFreeBlocks_82 hl (k := 4) rfl rfl (by decide) rfl (fun ls hl => ?_)
            refine lv_goto (tgt := 4) hx hb d_X_wipeFreeBlocks_85 (by decide) ?_
            exact ih a1 a2 (a3 + (1 : Int32)) z5 hf _ _ _ hP hD hS (lv_sub hl [2, 3, 4, 0] rfl)
          · have hf := x_br_t hf hc7
            refine lv_aload_n hx hb d_X_wipeFreeBlocks_65 rfl (lv_at hl 1 rfl) ?_
            refine va_get (D := x_D G) (ci := 0) (v := .ref (x_ad G 1)) (C := "ContentLibrary") (T := x_TX) (N := 9) hx hb hts x_inX hown hK hP 0 (x_lk_X G _) rfl 0 (by decide) (hts _ t_130) (fun _ h9 => h9) rfl d_X_wipeFreeBlocks_66 ?_
            refine lv_iload_n hx hb d_X_wipeFreeBlocks_69 rfl (lv_at hl 4 rfl) ?_
            obtain ⟨r8, z8, hq9, hf⟩ := x_cl_some hf
            refine va_calli (va_runV (As := [.int a3]) (rest := []) ⟨hx, hb, hml, hown, hts⟩ (c_B_wipe l G a3 z5 r8 z8 hq9) (cwV 1 hts (x_gV t_513 t_514 t_515 t_3 t_516) rfl rfl rfl (by decide +kernel) ⟨Nat.le_of_ble_eq_true rfl, Nat.le_of_ble_eq_true rfl⟩) ⟨x_blind _ _ _, va_recv hK hP (ci := 1) (q0 := 1) rfl (x_lk_B G _), fun U hU hW => ⟨rfl, x_pw hP hD hK hG hS hz hU hW⟩⟩ rfl rfl hl.1 rfl (lv_room (Nat.le_of_ble_eq_true rfl)) d_X_wipeFreeBlocks_70 ⟨Nat.le_of_ble_eq_true rfl, Nat.le_of_ble_eq_true rfl⟩) hS (fun q _ h => h) (fun q h => h) (fun ra u t H locs ht hvm hw hB _ _ hS => ?_)
            obtain ⟨rfl, rfl⟩ := hw
            obtain ⟨hP, hD⟩ := x_back hB ht
            refine lv_if_ne (tgt := 79) hx hb d_X_wipeFreeBlocks_73 (by decide) (fun hc10 => ?_) (fun hc10 => ?_)
            · have hf := x_br_f hf hc10
              refine lv_iinc (v := (a2 + (1 : Int32))) (lv' := [(2, .int (a2 + (1 : Int32))), (4, .int (1 : Int32)), (0, .ref (x_ad G 0)), (1, .int a1), (3, .int a3)]) hx hb d_X_wipeFreeBlocks_79 hl (k := 3) rfl rfl (by decide) rfl (fun ls hl => ?_)
              refine lv_iinc (v := (a3 + (1 : Int32))) (lv' := [(3, .int (a3 + (1 : Int32))), (2, .int (a2 + (1 : Int32))), (4, .int (1 : Int32)), (0, .ref (x_ad G 0)), (1, .int a1)]) hx hb d_X_wipeFreeBlocks_82 hl (k := 4) rfl rfl (by decide) rfl (fun ls hl => ?_)
              refine lv_goto (tgt := 4) hx hb d_X_wipeFreeBlocks_85 (by decide) ?_
              exact ih a1 (a2 + (1 : Int32)) (a3 + (1 : Int32)) z8 hf _ _ _ hP hD hS (lv_sub hl [3, 4, 1, 0] rfl)
            · have hf := x_br_t hf hc10
              exact w_X_wipeFreeBlocks_76 l G C0 r zo z8 hf _ _ _ hP hD hS (lv_sub hl [] rfl)
      · have hf := x_br_f hf hc2
        refine lv_aload_n hx hb d_X_wipeFreeBlocks_20 rfl (lv_at hl 0 rfl) ?_
        refine va_get (D := x_D G) (ci := 0) (v := .ref (x_ad G 1)) (C := "ContentLibrary") (T := x_TX) (N := 9) hx hb hts x_inX hown hK hP 0 (x_lk_X G _) rfl 0 (by decide) (hts _ t_130) (fun _ h9 => h9) rfl d_X_wipeFreeBlocks_21 ?_
        refine lv_iload_n hx hb d_X_wipeFreeBlocks_24 rfl (lv_at hl 3 rfl) ?_
        refine lv_iconst (v := (5 : Int32)) hx hb d_X_wipeFreeBlocks_25 (by decide) ?_
        obtain ⟨r11, z11, hq12, hf⟩ := x_cl_some hf
        refine va_calli (va_runV (As := [.int a3, .int (5 : Int32)]) (rest := []) ⟨hx, hb, hml, hown, hts⟩ (c_B_get l G a3 (5 : Int32) z0 r11 z11 hq12) (cwV 2 hts (x_gV t_200 t_175 t_176 t_3 t_177) rfl rfl rfl (by decide +kernel) ⟨Nat.le_of_ble_eq_true rfl, Nat.le_of_ble_eq_true rfl⟩) ⟨x_blind _ _ _, va_recv hK hP (ci := 1) (q0 := 1) rfl (x_lk_B G _), fun U hU hW => ⟨rfl, x_pw hP hD hK hG hS hz hU hW⟩⟩ rfl rfl hl.1 rfl (lv_room (Nat.le_of_ble_eq_true rfl)) d_X_wipeFreeBlocks_26 ⟨Nat.le_of_ble_eq_true rfl, Nat.le_of_ble_eq_true rfl⟩) hS (fun q _ h => h) (fun q h => h) (fun ra u t H locs ht hvm hw hB _ _ hS => ?_)
        obtain ⟨rfl, rfl⟩ := hw
        obtain ⟨hP, hD⟩ := x_back hB ht
        refine lv_iload_n hx hb d_X_wipeFreeBlocks_29 rfl (lv_at hl 1 rfl) ?_
        refine lv_icmp_ne (tgt := 37) hx hb d_X_wipeFreeBlocks_30 (by decide) (fun hc13 => ?_) (fun hc13 => ?_)
        · have hf := x_br_f hf hc13
          refine lv_iconst (v := (0 : Int32)) hx hb d_X_wipeFreeBlocks_37 (by decide) ?_
          refine lv_istore (lv' := [(4, .int (0 : Int32)), (0, .ref (x_ad G 0)), (1, .int a1), (2, .int a2), (3, .int a3)]) hx hb d_X_wipeFreeBlocks_38 hl (by decide) rfl (fun ls hl => ?_)
          refine lv_aload_n hx hb d_X_wipeFreeBlocks_40 rfl (lv_at hl 1 rfl) ?_
          refine va_get (D := x_D G) (ci := 0) (v := .ref (x_ad G 4)) (C := "ContentLibrary") (T := x_TX) (N := 9) hx hb hts x_inX hown hK hP 0 (x_lk_X G _) rfl 1 (by decide) (hts _ t_131) (fun _ h9 => h9) rfl d_X_wipeFreeBlocks_41 ?_
          refine lv_iload_n hx hb d_X_wipeFreeBlocks_44 rfl (lv_at hl 4 rfl) ?_
          obtain ⟨hin14, hf⟩ := x_ck_some hf
          refine va_zald hx hb hK hP 4 1 (x_lk_Z G _) rfl hin14 d_X_wipeFreeBlocks_45 ?_
          refine lv_if_ne (tgt := 82) hx hb d_X_wipeFreeBlocks_46 (by decide) (fun hc15 => ?_) (fun hc15 => ?_)
          · have hf := x_br_f hf hc15
            refine lv_iinc (v := (a3 + (1 : Int32))) (lv' := [(3, .int (a3 + (1 : Int32))), (4, .int (0 : Int32)), (0, .ref (x_ad G 0)), (1, .int a1), (2, .int a2)]) hx hb d_X_wipeFreeBlocks_82 hl (k := 4) rfl rfl (by decide) rfl (fun ls hl => ?_)
            refine lv_goto (tgt := 4) hx hb d_X_wipeFreeBlocks_85 (by decide) ?_
            exact ih a1 a2 (a3 + (1 : Int32)) z11 hf _ _ _ hP hD hS (lv_sub hl [2, 3, 4, 0] rfl)
          · have hf := x_br_t hf hc15
            refine lv_iload hx hb d_X_wipeFreeBlocks_49 (lv_at hl 0 rfl) ?_
            refine lv_if_eq (tgt := 82) hx hb d_X_wipeFreeBlocks_51 (by decide) (fun _ => ?_) (fun hc => absurd hc (by decide))
            refine lv_iinc (v := (a3 + (1 : Int32))) (lv' := [(3, .int (a3 + (1 : Int32))), (4, .int (0 : Int32)), (0, .ref (x_ad G 0)), (1, .int a1), (2, .int a2)]) hx hb d_X_wipeFreeBlocks_82 hl (k := 4) rfl rfl (by decide) rfl (fun ls hl => ?_)
            refine lv_goto (tgt := 4) hx hb d_X_wipeFreeBlocks_85 (by decide) ?_
            exact ih a1 a2 (a3 + (1 : Int32)) z11 hf _ _ _ hP hD hS (lv_sub hl [2, 3, 4, 0] rfl)
        · have hf := x_br_t hf hc13
          refine lv_iconst (v := (1 : Int32)) hx hb d_X_wipeFreeBlocks_33 (by decide) ?_
          refine lv_goto (tgt := 38) hx hb d_X_wipeFreeBlocks_34 (by decide) ?_
          refine lv_istore (lv' := [(4, .int (1 : Int32)), (0, .ref (x_ad G 0)), (1, .int a1), (2, .int a2), (3, .int a3)]) hx hb d_X_wipeFreeBlocks_38 hl (by decide) rfl (fun ls hl => ?_)
          refine lv_aload_n hx hb d_X_wipeFreeBlocks_40 rfl (lv_at hl 1 rfl) ?_
          refine va_get (D := x_D G) (ci := 0) (v := .ref (x_ad G 4)) (C := "ContentLibrary") (T := x_TX) (N := 9) hx hb hts x_inX hown hK hP 0 (x_lk_X G _) rfl 1 (by decide) (hts _ t_131) (fun _ h9 => h9) rfl d_X_wipeFreeBlocks_41 ?_
          refine lv_iload_n hx hb d_X_wipeFreeBlocks_44 rfl (lv_at hl 4 rfl) ?_
          obtain ⟨hin16, hf⟩ := x_ck_some hf
          refine va_zald hx hb hK hP 4 1 (x_lk_Z G _) rfl hin16 d_X_wipeFreeBlocks_45 ?_
          refine lv_if_ne (tgt := 82) hx hb d_X_wipeFreeBlocks_46 (by decide) (fun hc17 => ?_) (fun hc17 => ?_)
          · have hf := x_br_f hf hc17
            refine lv_iinc (v := (a3 + (1 : Int32))) (lv' := [(3, .int (a3 + (1 : Int32))), (4, .int (1 : Int32)), (0, .ref (x_ad G 0)), (1, .int a1), (2, .int a2)]) hx hb d_X_wipeFreeBlocks_82 hl (k := 4) rfl rfl (by decide) rfl (fun ls hl => ?_)
            refine lv_goto (tgt := 4) hx hb d_X_wipeFreeBlocks_85 (by decide) ?_
            exact ih a1 a2 (a3 + (1 : Int32)) z11 hf _ _ _ hP hD hS (lv_sub hl [2, 3, 4, 0] rfl)
          · have hf := x_br_t hf hc17
            refine lv_iload hx hb d_X_wipeFreeBlocks_49 (lv_at hl 0 rfl) ?_
            refine lv_if_eq (tgt := 82) hx hb d_X_wipeFreeBlocks_51 (by decide) (fun hc => absurd hc (by decide)) (fun _ => ?_)
            refine lv_aload_n hx hb d_X_wipeFreeBlocks_54 rfl (lv_at hl 1 rfl) ?_
            refine va_get (D := x_D G) (ci := 0) (v := .ref (x_ad G 1)) (C := "ContentLibrary") (T := x_TX) (N := 9) hx hb hts x_inX hown hK hP 0 (x_lk_X G _) rfl 0 (by decide) (hts _ t_130) (fun _ h9 => h9) rfl d_X_wipeFreeBlocks_55 ?_
            refine lv_iload_n hx hb d_X_wipeFreeBlocks_58 rfl (lv_at hl 4 rfl) ?_
            obtain ⟨r18, z18, hq19, hf⟩ := x_cl_some hf
            refine va_calli (va_runV (As := [.int a3]) (rest := []) ⟨hx, hb, hml, hown, hts⟩ (c_B_isBlank l G a3 z11 r18 z18 hq19) (cwV 1 hts (x_gV t_305 t_306 t_307 t_3 t_308) rfl rfl rfl (by decide +kernel) ⟨Nat.le_of_ble_eq_true rfl, Nat.le_of_ble_eq_true rfl⟩) ⟨x_blind _ _ _, va_recv hK hP (ci := 1) (q0 := 1) rfl (x_lk_B G _), fun U hU hW => ⟨rfl, x_pw hP hD hK hG hS hz hU hW⟩⟩ rfl rfl hl.1 rfl (lv_room (Nat.le_of_ble_eq_true rfl)) d_X_wipeFreeBlocks_59 ⟨Nat.le_of_ble_eq_true rfl, Nat.le_of_ble_eq_true rfl⟩) hS (fun q _ h => h) (fun q h => h) (fun ra u t H locs ht hvm hw hB _ _ hS => ?_)
            obtain ⟨rfl, rfl⟩ := hw
            obtain ⟨hP, hD⟩ := x_back hB ht
            refine lv_if_ne (tgt := 82) hx hb d_X_wipeFreeBlocks_62 (by decide) (fun hc20 => ?_) (fun hc20 => ?_)
            · have hf := x_br_f hf hc20
              refine lv_iinc (v := (a3 + (1 : Int32))) (lv' := [(3, .int (a3 + (1 : Int32))), (4, .int (1 : Int32)), (0, .ref (x_ad G 0)), (1, .int a1), (2, .int a2)]) hx hb d_X_wipeFreeBlocks_82 hl (k := 4) rfl rfl (by decide) rfl (fun ls hl => ?_)
              refine lv_goto (tgt := 4) hx hb d_X_wipeFreeBlocks_85 (by decide) ?_
              exact ih a1 a2 (a3 + (1 : Int32)) z18 hf _ _ _ hP hD hS (lv_sub hl [2, 3, 4, 0] rfl)
            · have hf := x_br_t hf hc20
              refine lv_aload_n hx hb d_X_wipeFreeBlocks_65 rfl (lv_at hl 1 rfl) ?_
              refine va_get (D := x_D G) (ci := 0) (v := .ref (x_ad G 1)) (C := "ContentLibrary") (T := x_TX) (N := 9) hx hb hts x_inX hown hK hP 0 (x_lk_X G _) rfl 0 (by decide) (hts _ t_130) (fun _ h9 => h9) rfl d_X_wipeFreeBlocks_66 ?_
              refine lv_iload_n hx hb d_X_wipeFreeBlocks_69 rfl (lv_at hl 4 rfl) ?_
              obtain ⟨r21, z21, hq22, hf⟩ := x_cl_some hf
              refine va_calli (va_runV (As := [.int a3]) (rest := []) ⟨hx, hb, hml, hown, hts⟩ (c_B_wipe l G a3 z18 r21 z21 hq22) (cwV 1 hts (x_gV t_513 t_514 t_515 t_3 t_516) rfl rfl rfl (by decide +kernel) ⟨Nat.le_of_ble_eq_true rfl, Nat.le_of_ble_eq_true rfl⟩) ⟨x_blind _ _ _, va_recv hK hP (ci := 1) (q0 := 1) rfl (x_lk_B G _), fun U hU hW => ⟨rfl, x_pw hP hD hK hG hS hz hU hW⟩⟩ rfl rfl hl.1 rfl (lv_room (Nat.le_of_ble_eq_true rfl)) d_X_wipeFreeBlocks_70 ⟨Nat.le_of_ble_eq_true rfl, Nat.le_of_ble_eq_true rfl⟩) hS (fun q _ h => h) (fun q h => h) (fun ra u t H locs ht hvm hw hB _ _ hS => ?_)
              obtain ⟨rfl, rfl⟩ := hw
              obtain ⟨hP, hD⟩ := x_back hB ht
              refine lv_if_ne (tgt := 79) hx hb d_X_wipeFreeBlocks_73 (by decide) (fun hc23 => ?_) (fun hc23 => ?_)
              · have hf := x_br_f hf hc23
                refine lv_iinc (v := (a2 + (1 : Int32))) (lv' := [(2, .int (a2 + (1 : Int32))), (4, .int (1 : Int32)), (0, .ref (x_ad G 0)), (1, .int a1), (3, .int a3)]) hx hb d_X_wipeFreeBlocks_79 hl (k := 3) rfl rfl (by decide) rfl (fun ls hl => ?_)
                refine lv_iinc (v := (a3 + (1 : Int32))) (lv' := [(3, .int (a3 + (1 : Int32))), (2, .int (a2 + (1 : Int32))), (4, .int (1 : Int32)), (0, .ref (x_ad G 0)), (1, .int a1)]) hx hb d_X_wipeFreeBlocks_82 hl (k := 4) rfl rfl (by decide) rfl (fun ls hl => ?_)
                refine lv_goto (tgt := 4) hx hb d_X_wipeFreeBlocks_85 (by decide) ?_
                exact ih a1 (a2 + (1 : Int32)) (a3 + (1 : Int32)) z21 hf _ _ _ hP hD hS (lv_sub hl [3, 4, 1, 0] rfl)
              · have hf := x_br_t hf hc23
                exact w_X_wipeFreeBlocks_76 l G C0 r zo z21 hf _ _ _ hP hD hS (lv_sub hl [] rfl)
set_option maxHeartbeats 4000000 in
set_option maxRecDepth 100000 in
theorem c_X_wipeFreeBlocks (l : Launch) (G : x_G) (p1 : Int32) (z0 : x_St) (r : Int32) (zo : x_St) (hf : f_X_wipeFreeBlocks (x_n G) p1 z0 = some (r, zo)) : Met l (⟨"ContentLibrary", "wipeFreeBlocks", "(I)I"⟩ : MethodName) (x_ws (⟨"ContentLibrary", "wipeFreeBlocks", "(I)I"⟩ : MethodName) prog_1_method_29_code 5 (some .int)) rm_X_wipeFreeBlocks (va_Pc [.ref (x_ad G 0), .int p1] (x_PW G z0)) (va_Qi (fun a u => r = a ∧ zo = u) (x_PW G) (x_A G)) 0 0 (x_A G) := by
  refine Met.ofW (cc := prog_1_method_29_code) (maxL := 5) (ret := (some .int)) (by decide) rfl ?_
  intro p e s m args below meth c s₁ B hml hv
  obtain ⟨rfl, hz, hP, hD, hK, hG⟩ := hv
  have C0 : x_Ctx G p s m _ meth c prog_1_method_29_code "ContentLibrary" 5 (some .int) := ⟨B.exec, B.bytes, B.returns, hml, findClass_of_methodNamed B.named, fun w h => atoms_spec (ws := (x_ws (⟨"ContentLibrary", "wipeFreeBlocks", "(I)I"⟩ : MethodName) prog_1_method_29_code 5 (some .int))) B.pre w (List.mem_cons_of_mem _ h), B.notSynchronized, hz, hK, hG⟩
  obtain ⟨hx, hb, hr, hml, hown, hts, hlocks, hz, hK, hG⟩ := id C0
  have hS : va_S (x_A G) s.heap s.heap [] := va_S.rf
  have hl := lv_entry ([.ref (x_ad G 0), .int p1]) (n := 5) (Nat.le_of_ble_eq_true rfl)
  rw [lg_entry_eq]
  generalize (lg_sl ([.ref (x_ad G 0), .int p1]) ++ List.replicate (5 - (lg_sl ([.ref (x_ad G 0), .int p1])).length) Slot.unset).toArray = ls at hl ⊢
  have hl : lv_has ls 5 [(0, .ref (x_ad G 0)), (1, .int p1)] := hl
  rw [f_X_wipeFreeBlocks] at hf
  refine lv_iconst (v := (0 : Int32)) hx hb d_X_wipeFreeBlocks_0 (by decide) ?_
  refine lv_istore_n (lv' := [(2, .int (0 : Int32)), (0, .ref (x_ad G 0)), (1, .int p1)]) hx hb d_X_wipeFreeBlocks_1 rfl hl (by decide) rfl (fun ls hl => ?_)
  refine lv_iconst (v := (0 : Int32)) hx hb d_X_wipeFreeBlocks_2 (by decide) ?_
  refine lv_istore_n (lv' := [(3, .int (0 : Int32)), (2, .int (0 : Int32)), (0, .ref (x_ad G 0)), (1, .int p1)]) hx hb d_X_wipeFreeBlocks_3 rfl hl (by decide) rfl (fun ls hl => ?_)
  exact w_X_wipeFreeBlocks_4 l G C0 r zo x_FU p1 (0 : Int32) (0 : Int32) z0 hf _ _ _ hP hD hS (lv_sub hl [2, 3, 1, 0] rfl)
end
section
theorem t_11 : Cond.initialized "java/lang/IllegalStateException" ∈ x_big := x_bt 11 (by decide +kernel) (by decide +kernel)
theorem t_12 : Cond.initialized "java/lang/IllegalArgumentException" ∈ x_big := x_bt 12 (by decide +kernel) (by decide +kernel)
theorem t_14 : Cond.initialized "java/lang/IndexOutOfBoundsException" ∈ x_big := x_bt 14 (by decide +kernel) (by decide +kernel)
theorem t_339 : Cond.classLink "ContentLibrary" 251 "java/lang/IllegalStateException" ∈ x_big := x_bt 339 (by decide +kernel) (by decide +kernel)
theorem t_409 : Cond.classLink "ContentLibrary" 73 "java/lang/IllegalArgumentException" ∈ x_big := x_bt 409 (by decide +kernel) (by decide +kernel)
theorem t_457 : Cond.classLink "ContentLibrary" 145 "java/lang/IndexOutOfBoundsException" ∈ x_big := x_bt 457 (by decide +kernel) (by decide +kernel)
theorem t_489 : Cond.methodLink "ContentLibrary" 258 (⟨"ContentLibrary$Picture", "isWhole", "()Z"⟩ : MethodName) ∈ x_big := x_bt 489 (by decide +kernel) (by decide +kernel)
theorem at_255_IllegalStateException : ∀ w ∈ Jvm.Bundle.ownAtoms "ContentLibrary" 255 "java/lang/IllegalStateException" ["java/lang/RuntimeException", "java/lang/Exception"], w ∈ x_big ∨ w ∈ e_rest "java/lang/IllegalStateException" := by
  have h : ∀ w ∈ Jvm.Bundle.ownAtoms "ContentLibrary" 255 "java/lang/IllegalStateException" ["java/lang/RuntimeException", "java/lang/Exception"], (goodWord w = true ∧ w ∈ lw_tbl) ∨ w ∈ e_rest "java/lang/IllegalStateException" := by decide +kernel
  exact fun w hw => (h w hw).imp (fun q => List.mem_filter.mpr ⟨q.2, q.1⟩) id
theorem at_149_IndexOutOfBoundsException : ∀ w ∈ Jvm.Bundle.ownAtoms "ContentLibrary" 149 "java/lang/IndexOutOfBoundsException" ["java/lang/RuntimeException", "java/lang/Exception"], w ∈ x_big ∨ w ∈ e_rest "java/lang/IndexOutOfBoundsException" := by
  have h : ∀ w ∈ Jvm.Bundle.ownAtoms "ContentLibrary" 149 "java/lang/IndexOutOfBoundsException" ["java/lang/RuntimeException", "java/lang/Exception"], (goodWord w = true ∧ w ∈ lw_tbl) ∨ w ∈ e_rest "java/lang/IndexOutOfBoundsException" := by decide +kernel
  exact fun w hw => (h w hw).imp (fun q => List.mem_filter.mpr ⟨q.2, q.1⟩) id
theorem at_77_IllegalArgumentException : ∀ w ∈ Jvm.Bundle.ownAtoms "ContentLibrary" 77 "java/lang/IllegalArgumentException" ["java/lang/RuntimeException", "java/lang/Exception"], w ∈ x_big ∨ w ∈ e_rest "java/lang/IllegalArgumentException" := by
  have h : ∀ w ∈ Jvm.Bundle.ownAtoms "ContentLibrary" 77 "java/lang/IllegalArgumentException" ["java/lang/RuntimeException", "java/lang/Exception"], (goodWord w = true ∧ w ∈ lw_tbl) ∨ w ∈ e_rest "java/lang/IllegalArgumentException" := by decide +kernel
  exact fun w hw => (h w hw).imp (fun q => List.mem_filter.mpr ⟨q.2, q.1⟩) id
theorem d_X_refuseWhenCut_0 : decode prog_1_method_18_code 0 = .ok (.aload_n 0, 1) := by decide +kernel
theorem d_X_refuseWhenCut_1 : decode prog_1_method_18_code 1 = .ok (.getfield 23, 3) := by decide +kernel
theorem d_X_refuseWhenCut_4 : decode prog_1_method_18_code 4 = .ok (.getfield 213, 3) := by decide +kernel
theorem d_X_refuseWhenCut_7 : decode prog_1_method_18_code 7 = .ok (.ifCond .eq 13, 3) := by decide +kernel
theorem d_X_refuseWhenCut_10 : decode prog_1_method_18_code 10 = .ok (.new 251, 3) := by decide +kernel
theorem d_X_refuseWhenCut_13 : decode prog_1_method_18_code 13 = .ok (.dup, 1) := by decide +kernel
theorem d_X_refuseWhenCut_14 : decode prog_1_method_18_code 14 = .ok (.ldc 253, 2) := by decide +kernel
theorem d_X_refuseWhenCut_16 : decode prog_1_method_18_code 16 = .ok (.invokespecial 255, 3) := by decide +kernel
theorem d_X_refuseWhenCut_19 : decode prog_1_method_18_code 19 = .ok (.athrow, 1) := by decide +kernel
theorem d_X_refuseWhenCut_20 : decode prog_1_method_18_code 20 = .ok (.return_, 1) := by decide +kernel
theorem d_X_refuseUnlessByte_0 : decode prog_1_method_19_code 0 = .ok (.iload_n 1, 1) := by decide +kernel
theorem d_X_refuseUnlessByte_1 : decode prog_1_method_19_code 1 = .ok (.ifCond .lt 24, 3) := by decide +kernel
theorem d_X_refuseUnlessByte_4 : decode prog_1_method_19_code 4 = .ok (.iload_n 1, 1) := by decide +kernel
theorem d_X_refuseUnlessByte_5 : decode prog_1_method_19_code 5 = .ok (.aload_n 0, 1) := by decide +kernel
theorem d_X_refuseUnlessByte_6 : decode prog_1_method_19_code 6 = .ok (.getfield 23, 3) := by decide +kernel
theorem d_X_refuseUnlessByte_9 : decode prog_1_method_19_code 9 = .ok (.getfield 233, 3) := by decide +kernel
theorem d_X_refuseUnlessByte_12 : decode prog_1_method_19_code 12 = .ok (.if_icmp .ge 13, 3) := by decide +kernel
theorem d_X_refuseUnlessByte_15 : decode prog_1_method_19_code 15 = .ok (.iload_n 2, 1) := by decide +kernel
theorem d_X_refuseUnlessByte_16 : decode prog_1_method_19_code 16 = .ok (.ifCond .lt 9, 3) := by decide +kernel
theorem d_X_refuseUnlessByte_19 : decode prog_1_method_19_code 19 = .ok (.iload_n 2, 1) := by decide +kernel
theorem d_X_refuseUnlessByte_20 : decode prog_1_method_19_code 20 = .ok (.bipush 64, 2) := by decide +kernel
theorem d_X_refuseUnlessByte_22 : decode prog_1_method_19_code 22 = .ok (.if_icmp .lt 14, 3) := by decide +kernel
theorem d_X_refuseUnlessByte_25 : decode prog_1_method_19_code 25 = .ok (.new 145, 3) := by decide +kernel
theorem d_X_refuseUnlessByte_28 : decode prog_1_method_19_code 28 = .ok (.dup, 1) := by decide +kernel
theorem d_X_refuseUnlessByte_29 : decode prog_1_method_19_code 29 = .ok (.ldc_w 256, 3) := by decide +kernel
theorem d_X_refuseUnlessByte_32 : decode prog_1_method_19_code 32 = .ok (.invokespecial 149, 3) := by decide +kernel
theorem d_X_refuseUnlessByte_35 : decode prog_1_method_19_code 35 = .ok (.athrow, 1) := by decide +kernel
theorem d_X_refuseUnlessByte_36 : decode prog_1_method_19_code 36 = .ok (.return_, 1) := by decide +kernel
theorem d_X_refuseUnlessWhole_0 : decode prog_1_method_20_code 0 = .ok (.aload_n 0, 1) := by decide +kernel
theorem d_X_refuseUnlessWhole_1 : decode prog_1_method_20_code 1 = .ok (.invokevirtual 258, 3) := by decide +kernel
theorem d_X_refuseUnlessWhole_4 : decode prog_1_method_20_code 4 = .ok (.ifCond .ne 14, 3) := by decide +kernel
theorem d_X_refuseUnlessWhole_7 : decode prog_1_method_20_code 7 = .ok (.new 73, 3) := by decide +kernel
theorem d_X_refuseUnlessWhole_10 : decode prog_1_method_20_code 10 = .ok (.dup, 1) := by decide +kernel
theorem d_X_refuseUnlessWhole_11 : decode prog_1_method_20_code 11 = .ok (.ldc_w 262, 3) := by decide +kernel
theorem d_X_refuseUnlessWhole_14 : decode prog_1_method_20_code 14 = .ok (.invokespecial 77, 3) := by decide +kernel
theorem d_X_refuseUnlessWhole_17 : decode prog_1_method_20_code 17 = .ok (.athrow, 1) := by decide +kernel
theorem d_X_refuseUnlessWhole_18 : decode prog_1_method_20_code 18 = .ok (.return_, 1) := by decide +kernel
theorem d_X_pictureBeingMade_0 : decode prog_1_method_21_code 0 = .ok (.iload_n 1, 1) := by decide +kernel
theorem d_X_pictureBeingMade_1 : decode prog_1_method_21_code 1 = .ok (.ifCond .lt 21, 3) := by decide +kernel
theorem d_X_pictureBeingMade_4 : decode prog_1_method_21_code 4 = .ok (.iload_n 1, 1) := by decide +kernel
theorem d_X_pictureBeingMade_5 : decode prog_1_method_21_code 5 = .ok (.bipush 8, 2) := by decide +kernel
theorem d_X_pictureBeingMade_7 : decode prog_1_method_21_code 7 = .ok (.if_icmp .ge 15, 3) := by decide +kernel
theorem d_X_pictureBeingMade_10 : decode prog_1_method_21_code 10 = .ok (.aload_n 0, 1) := by decide +kernel
theorem d_X_pictureBeingMade_11 : decode prog_1_method_21_code 11 = .ok (.getfield 33, 3) := by decide +kernel
theorem d_X_pictureBeingMade_14 : decode prog_1_method_21_code 14 = .ok (.iload_n 1, 1) := by decide +kernel
theorem d_X_pictureBeingMade_15 : decode prog_1_method_21_code 15 = .ok (.aaload, 1) := by decide +kernel
theorem d_X_pictureBeingMade_16 : decode prog_1_method_21_code 16 = .ok (.getfield 80, 3) := by decide +kernel
theorem d_X_pictureBeingMade_19 : decode prog_1_method_21_code 19 = .ok (.ifCond .ne 14, 3) := by decide +kernel
theorem d_X_pictureBeingMade_22 : decode prog_1_method_21_code 22 = .ok (.new 145, 3) := by decide +kernel
theorem d_X_pictureBeingMade_25 : decode prog_1_method_21_code 25 = .ok (.dup, 1) := by decide +kernel
theorem d_X_pictureBeingMade_26 : decode prog_1_method_21_code 26 = .ok (.ldc_w 264, 3) := by decide +kernel
theorem d_X_pictureBeingMade_29 : decode prog_1_method_21_code 29 = .ok (.invokespecial 149, 3) := by decide +kernel
theorem d_X_pictureBeingMade_32 : decode prog_1_method_21_code 32 = .ok (.athrow, 1) := by decide +kernel
theorem d_X_pictureBeingMade_33 : decode prog_1_method_21_code 33 = .ok (.aload_n 0, 1) := by decide +kernel
theorem d_X_pictureBeingMade_34 : decode prog_1_method_21_code 34 = .ok (.getfield 33, 3) := by decide +kernel
theorem d_X_pictureBeingMade_37 : decode prog_1_method_21_code 37 = .ok (.iload_n 1, 1) := by decide +kernel
theorem d_X_pictureBeingMade_38 : decode prog_1_method_21_code 38 = .ok (.aaload, 1) := by decide +kernel
theorem d_X_pictureBeingMade_39 : decode prog_1_method_21_code 39 = .ok (.areturn, 1) := by decide +kernel
theorem d_X_keptAt_0 : decode prog_1_method_22_code 0 = .ok (.iload_n 1, 1) := by decide +kernel
theorem d_X_keptAt_1 : decode prog_1_method_22_code 1 = .ok (.ifCond .lt 21, 3) := by decide +kernel
theorem d_X_keptAt_4 : decode prog_1_method_22_code 4 = .ok (.iload_n 1, 1) := by decide +kernel
theorem d_X_keptAt_5 : decode prog_1_method_22_code 5 = .ok (.bipush 16, 2) := by decide +kernel
theorem d_X_keptAt_7 : decode prog_1_method_22_code 7 = .ok (.if_icmp .ge 15, 3) := by decide +kernel
theorem d_X_keptAt_10 : decode prog_1_method_22_code 10 = .ok (.aload_n 0, 1) := by decide +kernel
theorem d_X_keptAt_11 : decode prog_1_method_22_code 11 = .ok (.getfield 40, 3) := by decide +kernel
theorem d_X_keptAt_14 : decode prog_1_method_22_code 14 = .ok (.iload_n 1, 1) := by decide +kernel
theorem d_X_keptAt_15 : decode prog_1_method_22_code 15 = .ok (.aaload, 1) := by decide +kernel
theorem d_X_keptAt_16 : decode prog_1_method_22_code 16 = .ok (.getfield 178, 3) := by decide +kernel
theorem d_X_keptAt_19 : decode prog_1_method_22_code 19 = .ok (.ifCond .ne 14, 3) := by decide +kernel
theorem d_X_keptAt_22 : decode prog_1_method_22_code 22 = .ok (.new 145, 3) := by decide +kernel
theorem d_X_keptAt_25 : decode prog_1_method_22_code 25 = .ok (.dup, 1) := by decide +kernel
theorem d_X_keptAt_26 : decode prog_1_method_22_code 26 = .ok (.ldc_w 266, 3) := by decide +kernel
theorem d_X_keptAt_29 : decode prog_1_method_22_code 29 = .ok (.invokespecial 149, 3) := by decide +kernel
theorem d_X_keptAt_32 : decode prog_1_method_22_code 32 = .ok (.athrow, 1) := by decide +kernel
theorem d_X_keptAt_33 : decode prog_1_method_22_code 33 = .ok (.aload_n 0, 1) := by decide +kernel
theorem d_X_keptAt_34 : decode prog_1_method_22_code 34 = .ok (.getfield 40, 3) := by decide +kernel
theorem d_X_keptAt_37 : decode prog_1_method_22_code 37 = .ok (.iload_n 1, 1) := by decide +kernel
theorem d_X_keptAt_38 : decode prog_1_method_22_code 38 = .ok (.aaload, 1) := by decide +kernel
theorem d_X_keptAt_39 : decode prog_1_method_22_code 39 = .ok (.areturn, 1) := by decide +kernel
def f_X_refuseWhenCut (xn : Nat)  (z0 : x_St) : Option ((String ⊕ Unit) × x_St) :=
  (if (z0.1 1 2) = 0 then
  (some (Sum.inr (), z0))
  else
  (some (Sum.inl "java/lang/IllegalStateException", z0)))
def f_X_refuseUnlessByte (xn : Nat) (p1 : Int32) (p2 : Int32) (z0 : x_St) : Option ((String ⊕ Unit) × x_St) :=
  (if p1 < 0 then
  (some (Sum.inl "java/lang/IndexOutOfBoundsException", z0))
  else
  (if (z0.1 1 0) ≤ p1 then
  (some (Sum.inl "java/lang/IndexOutOfBoundsException", z0))
  else
  (if p2 < 0 then
  (some (Sum.inl "java/lang/IndexOutOfBoundsException", z0))
  else
  (if p2 < (64 : Int32) then
  (some (Sum.inr (), z0))
  else
  (some (Sum.inl "java/lang/IndexOutOfBoundsException", z0))))))
def f_X_refuseUnlessWhole (xn : Nat) (k1 : Nat) (z0 : x_St) : Option ((String ⊕ Unit) × x_St) :=
  (x_cl (f_P_isWhole xn k1 z0) (fun r1 z1 =>
  (if r1 = 0 then
  (some (Sum.inl "java/lang/IllegalArgumentException", z1))
  else
  (some (Sum.inr (), z1)))))
def f_X_pictureBeingMade (xn : Nat) (p1 : Int32) (z0 : x_St) : Option ((String ⊕ Nat) × x_St) :=
  (if p1 < 0 then
  (some (Sum.inl "java/lang/IndexOutOfBoundsException", z0))
  else
  (if (8 : Int32) ≤ p1 then
  (some (Sum.inl "java/lang/IndexOutOfBoundsException", z0))
  else
  (x_ck p1 8
  (if (z0.1 (6 + 2 * (p1).toNatClampNeg) 0) = 0 then
  (some (Sum.inl "java/lang/IndexOutOfBoundsException", z0))
  else
  (x_ck p1 8
  (some (Sum.inr (6 + 2 * (p1).toNatClampNeg), z0)))))))
def f_X_keptAt (xn : Nat) (p1 : Int32) (z0 : x_St) : Option ((String ⊕ Nat) × x_St) :=
  (if p1 < 0 then
  (some (Sum.inl "java/lang/IndexOutOfBoundsException", z0))
  else
  (if (16 : Int32) ≤ p1 then
  (some (Sum.inl "java/lang/IndexOutOfBoundsException", z0))
  else
  (x_ck p1 16
  (if (z0.1 (23 + 5 * (p1).toNatClampNeg) 0) = 0 then
  (some (Sum.inl "java/lang/IndexOutOfBoundsException", z0))
  else
  (x_ck p1 16
  (some (Sum.inr (23 + 5 * (p1).toNatClampNeg), z0)))))))
abbrev rm_X_refuseWhenCut : Room := { frames := 6, cells := 0, slots := 0, locals := 82 }
abbrev rx_X_refuseWhenCut : Room := { frames := 6, cells := 1, slots := 6, locals := 82 }
set_option maxHeartbeats 4000000 in
set_option maxRecDepth 100000 in
theorem c_X_refuseWhenCut (l : Launch) (G : x_G)  (z0 : x_St) (r : Unit) (zo : x_St) (hf : f_X_refuseWhenCut (x_n G)  z0 = some (Sum.inr r, zo)) : Met l (⟨"ContentLibrary", "refuseWhenCut", "()V"⟩ : MethodName) (x_ws (⟨"ContentLibrary", "refuseWhenCut", "()V"⟩ : MethodName) prog_1_method_18_code 1 none) rm_X_refuseWhenCut (va_Pc [.ref (x_ad G 0)] (x_PW G z0)) (va_Qv (fun u => r = () ∧ zo = u) (x_PW G) (x_A G)) 0 0 (x_A G) := by
  refine Met.ofW (cc := prog_1_method_18_code) (maxL := 1) (ret := none) (by decide) rfl ?_
  intro p e s m args below meth c s₁ B hml hv
  obtain ⟨rfl, hz, hP, hD, hK, hG⟩ := hv
  have C0 : x_Ctx G p s m _ meth c prog_1_method_18_code "ContentLibrary" 1 none := ⟨B.exec, B.bytes, B.returns, hml, findClass_of_methodNamed B.named, fun w h => atoms_spec (ws := (x_ws (⟨"ContentLibrary", "refuseWhenCut", "()V"⟩ : MethodName) prog_1_method_18_code 1 none)) B.pre w (List.mem_cons_of_mem _ h), B.notSynchronized, hz, hK, hG⟩
  obtain ⟨hx, hb, hr, hml, hown, hts, hlocks, hz, hK, hG⟩ := id C0
  have hS : va_S (x_A G) s.heap s.heap [] := va_S.rf
  have hl := lv_entry ([.ref (x_ad G 0)]) (n := 1) (Nat.le_of_ble_eq_true rfl)
  rw [lg_entry_eq]
  generalize (lg_sl ([.ref (x_ad G 0)]) ++ List.replicate (1 - (lg_sl ([.ref (x_ad G 0)])).length) Slot.unset).toArray = ls at hl ⊢
  have hl : lv_has ls 1 [(0, .ref (x_ad G 0))] := hl
  rw [f_X_refuseWhenCut] at hf
  refine lv_aload_n hx hb d_X_refuseWhenCut_0 rfl (lv_at hl 0 rfl) ?_
  refine va_get (D := x_D G) (ci := 0) (v := .ref (x_ad G 1)) (C := "ContentLibrary") (T := x_TX) (N := 9) hx hb hts x_inX hown hK hP 0 (x_lk_X G _) rfl 0 (by decide) (hts _ t_130) (fun _ h9 => h9) rfl d_X_refuseWhenCut_1 ?_
  refine va_get (D := x_D G) (ci := 1) (v := .int (z0.1 1 2)) (C := "ContentLibrary$Blocks") (T := x_TB) (N := 5) hx hb hts x_inB hown hK hP 1 (x_lk_B G _) rfl 2 (by decide) (hts _ t_44) (fun _ h9 => h9) rfl d_X_refuseWhenCut_4 ?_
  refine lv_if_eq (tgt := 20) hx hb d_X_refuseWhenCut_7 (by decide) (fun hc1 => ?_) (fun hc1 => ?_)
  · have hf := x_br_t hf hc1
    obtain ⟨rfl, rfl⟩ := x_retr hf
    exact W.vret hx hb hr (fun t ht hW => ⟨⟨_, rfl, ⟨rfl, rfl⟩, x_pw hP hD hK hG hS hz ht hW⟩, hS.F ht⟩) hS.2.2 d_X_refuseWhenCut_20
  · have hf := x_br_f hf hc1
    exact absurd hf x_no_r
set_option maxHeartbeats 4000000 in
set_option maxRecDepth 100000 in
theorem c_X_refuseWhenCut_x (l : Launch) (G : x_G) (hl9 : l.stackTraces = false)  (z0 : x_St) (E : String) (zo : x_St) (hf : f_X_refuseWhenCut (x_n G)  z0 = some (Sum.inl E, zo)) : e_Met l G (⟨"ContentLibrary", "refuseWhenCut", "()V"⟩ : MethodName) (x_ws (⟨"ContentLibrary", "refuseWhenCut", "()V"⟩ : MethodName) prog_1_method_18_code 1 none) rx_X_refuseWhenCut (va_Pc [.ref (x_ad G 0)] (x_PW G z0)) E zo 1 6 := by
  refine e_ofW (cc := prog_1_method_18_code) (maxL := 1) (ret := none) (by decide) rfl ?_
  intro p e s m args below meth c s₁ B hml hEx hv
  obtain ⟨rfl, hz, hP, hD, hK, hG⟩ := hv
  have C0 : x_Ctx G p s m _ meth c prog_1_method_18_code "ContentLibrary" 1 none := ⟨B.exec, B.bytes, B.returns, hml, findClass_of_methodNamed B.named, fun w h => atoms_spec (ws := (x_ws (⟨"ContentLibrary", "refuseWhenCut", "()V"⟩ : MethodName) prog_1_method_18_code 1 none)) B.pre w (List.mem_cons_of_mem _ h), B.notSynchronized, hz, hK, hG⟩
  obtain ⟨hx, hb, hr, hml, hown, hts, hlocks, hz, hK, hG⟩ := id C0
  have hS : va_S (x_A G) s.heap s.heap [] := va_S.rf
  have hl := lv_entry ([.ref (x_ad G 0)]) (n := 1) (Nat.le_of_ble_eq_true rfl)
  rw [lg_entry_eq]
  generalize (lg_sl ([.ref (x_ad G 0)]) ++ List.replicate (1 - (lg_sl ([.ref (x_ad G 0)])).length) Slot.unset).toArray = ls at hl ⊢
  have hl : lv_has ls 1 [(0, .ref (x_ad G 0))] := hl
  rw [f_X_refuseWhenCut] at hf
  refine lv_aload_n hx hb d_X_refuseWhenCut_0 rfl (lv_at hl 0 rfl) ?_
  refine va_get (D := x_D G) (ci := 0) (v := .ref (x_ad G 1)) (C := "ContentLibrary") (T := x_TX) (N := 9) hx hb hts x_inX hown hK hP 0 (x_lk_X G _) rfl 0 (by decide) (hts _ t_130) (fun _ h9 => h9) rfl d_X_refuseWhenCut_1 ?_
  refine va_get (D := x_D G) (ci := 1) (v := .int (z0.1 1 2)) (C := "ContentLibrary$Blocks") (T := x_TB) (N := 5) hx hb hts x_inB hown hK hP 1 (x_lk_B G _) rfl 2 (by decide) (hts _ t_44) (fun _ h9 => h9) rfl d_X_refuseWhenCut_4 ?_
  refine lv_if_eq (tgt := 20) hx hb d_X_refuseWhenCut_7 (by decide) (fun hc1 => ?_) (fun hc1 => ?_)
  · have hf := x_br_t hf hc1
    exact absurd hf x_no_x
  · have hf := x_br_f hf hc1
    obtain ⟨rfl, rfl⟩ := x_retx hf
    exact e_throw (text := "the library is cut") (is := 253) hx hb hl9 hown (by decide +kernel) (by decide) (by decide +kernel) hts t_339 t_11 at_255_IllegalStateException hG hS (hl.1.trans hml.symm) d_X_refuseWhenCut_10 d_X_refuseWhenCut_13 d_X_refuseWhenCut_14 d_X_refuseWhenCut_16 d_X_refuseWhenCut_19 hEx (Nat.le_of_ble_eq_true rfl) (Nat.le_of_ble_eq_true rfl) (Nat.le_of_ble_eq_true rfl) (Nat.le_of_ble_eq_true rfl) hlocks (fun t hW hsz hk => x_pwk hP hD hK hG hS hz hsz hk hW) (Nat.le_of_ble_eq_true rfl) (Nat.le_of_ble_eq_true rfl)
abbrev rm_X_refuseUnlessByte : Room := { frames := 6, cells := 0, slots := 0, locals := 82 }
abbrev rx_X_refuseUnlessByte : Room := { frames := 6, cells := 1, slots := 6, locals := 82 }
set_option maxHeartbeats 4000000 in
set_option maxRecDepth 100000 in
theorem c_X_refuseUnlessByte (l : Launch) (G : x_G) (p1 : Int32) (p2 : Int32) (z0 : x_St) (r : Unit) (zo : x_St) (hf : f_X_refuseUnlessByte (x_n G) p1 p2 z0 = some (Sum.inr r, zo)) : Met l (⟨"ContentLibrary", "refuseUnlessByte", "(II)V"⟩ : MethodName) (x_ws (⟨"ContentLibrary", "refuseUnlessByte", "(II)V"⟩ : MethodName) prog_1_method_19_code 3 none) rm_X_refuseUnlessByte (va_Pc [.ref (x_ad G 0), .int p1, .int p2] (x_PW G z0)) (va_Qv (fun u => r = () ∧ zo = u) (x_PW G) (x_A G)) 0 0 (x_A G) := by
  refine Met.ofW (cc := prog_1_method_19_code) (maxL := 3) (ret := none) (by decide) rfl ?_
  intro p e s m args below meth c s₁ B hml hv
  obtain ⟨rfl, hz, hP, hD, hK, hG⟩ := hv
  have C0 : x_Ctx G p s m _ meth c prog_1_method_19_code "ContentLibrary" 3 none := ⟨B.exec, B.bytes, B.returns, hml, findClass_of_methodNamed B.named, fun w h => atoms_spec (ws := (x_ws (⟨"ContentLibrary", "refuseUnlessByte", "(II)V"⟩ : MethodName) prog_1_method_19_code 3 none)) B.pre w (List.mem_cons_of_mem _ h), B.notSynchronized, hz, hK, hG⟩
  obtain ⟨hx, hb, hr, hml, hown, hts, hlocks, hz, hK, hG⟩ := id C0
  have hS : va_S (x_A G) s.heap s.heap [] := va_S.rf
  have hl := lv_entry ([.ref (x_ad G 0), .int p1, .int p2]) (n := 3) (Nat.le_of_ble_eq_true rfl)
  rw [lg_entry_eq]
  generalize (lg_sl ([.ref (x_ad G 0), .int p1, .int p2]) ++ List.replicate (3 - (lg_sl ([.ref (x_ad G 0), .int p1, .int p2])).length) Slot.unset).toArray = ls at hl ⊢
  have hl : lv_has ls 3 [(0, .ref (x_ad G 0)), (1, .int p1), (2, .int p2)] := hl
  rw [f_X_refuseUnlessByte] at hf
  refine lv_iload_n hx hb d_X_refuseUnlessByte_0 rfl (lv_at hl 1 rfl) ?_
  refine lv_if_lt (tgt := 25) hx hb d_X_refuseUnlessByte_1 (by decide) (fun hc1 => ?_) (fun hc1 => ?_)
  · have hf := x_br_t hf hc1
    exact absurd hf x_no_r
  · have hf := x_br_f hf hc1
    refine lv_iload_n hx hb d_X_refuseUnlessByte_4 rfl (lv_at hl 1 rfl) ?_
    refine lv_aload_n hx hb d_X_refuseUnlessByte_5 rfl (lv_at hl 0 rfl) ?_
    refine va_get (D := x_D G) (ci := 0) (v := .ref (x_ad G 1)) (C := "ContentLibrary") (T := x_TX) (N := 9) hx hb hts x_inX hown hK hP 0 (x_lk_X G _) rfl 0 (by decide) (hts _ t_130) (fun _ h9 => h9) rfl d_X_refuseUnlessByte_6 ?_
    refine va_get (D := x_D G) (ci := 1) (v := .int (z0.1 1 0)) (C := "ContentLibrary$Blocks") (T := x_TB) (N := 5) hx hb hts x_inB hown hK hP 1 (x_lk_B G _) rfl 0 (by decide) (hts _ t_40) (fun _ h9 => h9) rfl d_X_refuseUnlessByte_9 ?_
    refine lv_icmp_ge (tgt := 25) hx hb d_X_refuseUnlessByte_12 (by decide) (fun hc2 => ?_) (fun hc2 => ?_)
    · have hf := x_br_t hf hc2
      exact absurd hf x_no_r
    · have hf := x_br_f hf hc2
      refine lv_iload_n hx hb d_X_refuseUnlessByte_15 rfl (lv_at hl 2 rfl) ?_
      refine lv_if_lt (tgt := 25) hx hb d_X_refuseUnlessByte_16 (by decide) (fun hc3 => ?_) (fun hc3 => ?_)
      · have hf := x_br_t hf hc3
        exact absurd hf x_no_r
      · have hf := x_br_f hf hc3
        refine lv_iload_n hx hb d_X_refuseUnlessByte_19 rfl (lv_at hl 2 rfl) ?_
        refine lv_bipush (v := (64 : Int32)) hx hb d_X_refuseUnlessByte_20 (by decide) ?_
        refine lv_icmp_lt (tgt := 36) hx hb d_X_refuseUnlessByte_22 (by decide) (fun hc4 => ?_) (fun hc4 => ?_)
        · have hf := x_br_t hf hc4
          obtain ⟨rfl, rfl⟩ := x_retr hf
          exact W.vret hx hb hr (fun t ht hW => ⟨⟨_, rfl, ⟨rfl, rfl⟩, x_pw hP hD hK hG hS hz ht hW⟩, hS.F ht⟩) hS.2.2 d_X_refuseUnlessByte_36
        · have hf := x_br_f hf hc4
          exact absurd hf x_no_r
set_option maxHeartbeats 4000000 in
set_option maxRecDepth 100000 in
theorem c_X_refuseUnlessByte_x (l : Launch) (G : x_G) (hl9 : l.stackTraces = false) (p1 : Int32) (p2 : Int32) (z0 : x_St) (E : String) (zo : x_St) (hf : f_X_refuseUnlessByte (x_n G) p1 p2 z0 = some (Sum.inl E, zo)) : e_Met l G (⟨"ContentLibrary", "refuseUnlessByte", "(II)V"⟩ : MethodName) (x_ws (⟨"ContentLibrary", "refuseUnlessByte", "(II)V"⟩ : MethodName) prog_1_method_19_code 3 none) rx_X_refuseUnlessByte (va_Pc [.ref (x_ad G 0), .int p1, .int p2] (x_PW G z0)) E zo 1 6 := by
  refine e_ofW (cc := prog_1_method_19_code) (maxL := 3) (ret := none) (by decide) rfl ?_
  intro p e s m args below meth c s₁ B hml hEx hv
  obtain ⟨rfl, hz, hP, hD, hK, hG⟩ := hv
  have C0 : x_Ctx G p s m _ meth c prog_1_method_19_code "ContentLibrary" 3 none := ⟨B.exec, B.bytes, B.returns, hml, findClass_of_methodNamed B.named, fun w h => atoms_spec (ws := (x_ws (⟨"ContentLibrary", "refuseUnlessByte", "(II)V"⟩ : MethodName) prog_1_method_19_code 3 none)) B.pre w (List.mem_cons_of_mem _ h), B.notSynchronized, hz, hK, hG⟩
  obtain ⟨hx, hb, hr, hml, hown, hts, hlocks, hz, hK, hG⟩ := id C0
  have hS : va_S (x_A G) s.heap s.heap [] := va_S.rf
  have hl := lv_entry ([.ref (x_ad G 0), .int p1, .int p2]) (n := 3) (Nat.le_of_ble_eq_true rfl)
  rw [lg_entry_eq]
  generalize (lg_sl ([.ref (x_ad G 0), .int p1, .int p2]) ++ List.replicate (3 - (lg_sl ([.ref (x_ad G 0), .int p1, .int p2])).length) Slot.unset).toArray = ls at hl ⊢
  have hl : lv_has ls 3 [(0, .ref (x_ad G 0)), (1, .int p1), (2, .int p2)] := hl
  rw [f_X_refuseUnlessByte] at hf
  refine lv_iload_n hx hb d_X_refuseUnlessByte_0 rfl (lv_at hl 1 rfl) ?_
  refine lv_if_lt (tgt := 25) hx hb d_X_refuseUnlessByte_1 (by decide) (fun hc1 => ?_) (fun hc1 => ?_)
  · have hf := x_br_t hf hc1
    obtain ⟨rfl, rfl⟩ := x_retx hf
    exact e_throwW (text := "no such byte of a block") (is := 256) hx hb hl9 hown (by decide +kernel) (by decide) (by decide +kernel) hts t_457 t_14 at_149_IndexOutOfBoundsException hG hS (hl.1.trans hml.symm) d_X_refuseUnlessByte_25 d_X_refuseUnlessByte_28 d_X_refuseUnlessByte_29 d_X_refuseUnlessByte_32 d_X_refuseUnlessByte_35 hEx (Nat.le_of_ble_eq_true rfl) (Nat.le_of_ble_eq_true rfl) (Nat.le_of_ble_eq_true rfl) (Nat.le_of_ble_eq_true rfl) hlocks (fun t hW hsz hk => x_pwk hP hD hK hG hS hz hsz hk hW) (Nat.le_of_ble_eq_true rfl) (Nat.le_of_ble_eq_true rfl)
  · have hf := x_br_f hf hc1
    refine lv_iload_n hx hb d_X_refuseUnlessByte_4 rfl (lv_at hl 1 rfl) ?_
    refine lv_aload_n hx hb d_X_refuseUnlessByte_5 rfl (lv_at hl 0 rfl) ?_
    refine va_get (D := x_D G) (ci := 0) (v := .ref (x_ad G 1)) (C := "ContentLibrary") (T := x_TX) (N := 9) hx hb hts x_inX hown hK hP 0 (x_lk_X G _) rfl 0 (by decide) (hts _ t_130) (fun _ h9 => h9) rfl d_X_refuseUnlessByte_6 ?_
    refine va_get (D := x_D G) (ci := 1) (v := .int (z0.1 1 0)) (C := "ContentLibrary$Blocks") (T := x_TB) (N := 5) hx hb hts x_inB hown hK hP 1 (x_lk_B G _) rfl 0 (by decide) (hts _ t_40) (fun _ h9 => h9) rfl d_X_refuseUnlessByte_9 ?_
    refine lv_icmp_ge (tgt := 25) hx hb d_X_refuseUnlessByte_12 (by decide) (fun hc2 => ?_) (fun hc2 => ?_)
    · have hf := x_br_t hf hc2
      obtain ⟨rfl, rfl⟩ := x_retx hf
      exact e_throwW (text := "no such byte of a block") (is := 256) hx hb hl9 hown (by decide +kernel) (by decide) (by decide +kernel) hts t_457 t_14 at_149_IndexOutOfBoundsException hG hS (hl.1.trans hml.symm) d_X_refuseUnlessByte_25 d_X_refuseUnlessByte_28 d_X_refuseUnlessByte_29 d_X_refuseUnlessByte_32 d_X_refuseUnlessByte_35 hEx (Nat.le_of_ble_eq_true rfl) (Nat.le_of_ble_eq_true rfl) (Nat.le_of_ble_eq_true rfl) (Nat.le_of_ble_eq_true rfl) hlocks (fun t hW hsz hk => x_pwk hP hD hK hG hS hz hsz hk hW) (Nat.le_of_ble_eq_true rfl) (Nat.le_of_ble_eq_true rfl)
    · have hf := x_br_f hf hc2
      refine lv_iload_n hx hb d_X_refuseUnlessByte_15 rfl (lv_at hl 2 rfl) ?_
      refine lv_if_lt (tgt := 25) hx hb d_X_refuseUnlessByte_16 (by decide) (fun hc3 => ?_) (fun hc3 => ?_)
      · have hf := x_br_t hf hc3
        obtain ⟨rfl, rfl⟩ := x_retx hf
        exact e_throwW (text := "no such byte of a block") (is := 256) hx hb hl9 hown (by decide +kernel) (by decide) (by decide +kernel) hts t_457 t_14 at_149_IndexOutOfBoundsException hG hS (hl.1.trans hml.symm) d_X_refuseUnlessByte_25 d_X_refuseUnlessByte_28 d_X_refuseUnlessByte_29 d_X_refuseUnlessByte_32 d_X_refuseUnlessByte_35 hEx (Nat.le_of_ble_eq_true rfl) (Nat.le_of_ble_eq_true rfl) (Nat.le_of_ble_eq_true rfl) (Nat.le_of_ble_eq_true rfl) hlocks (fun t hW hsz hk => x_pwk hP hD hK hG hS hz hsz hk hW) (Nat.le_of_ble_eq_true rfl) (Nat.le_of_ble_eq_true rfl)
      · have hf := x_br_f hf hc3
        refine lv_iload_n hx hb d_X_refuseUnlessByte_19 rfl (lv_at hl 2 rfl) ?_
        refine lv_bipush (v := (64 : Int32)) hx hb d_X_refuseUnlessByte_20 (by decide) ?_
        refine lv_icmp_lt (tgt := 36) hx hb d_X_refuseUnlessByte_22 (by decide) (fun hc4 => ?_) (fun hc4 => ?_)
        · have hf := x_br_t hf hc4
          exact absurd hf x_no_x
        · have hf := x_br_f hf hc4
          obtain ⟨rfl, rfl⟩ := x_retx hf
          exact e_throwW (text := "no such byte of a block") (is := 256) hx hb hl9 hown (by decide +kernel) (by decide) (by decide +kernel) hts t_457 t_14 at_149_IndexOutOfBoundsException hG hS (hl.1.trans hml.symm) d_X_refuseUnlessByte_25 d_X_refuseUnlessByte_28 d_X_refuseUnlessByte_29 d_X_refuseUnlessByte_32 d_X_refuseUnlessByte_35 hEx (Nat.le_of_ble_eq_true rfl) (Nat.le_of_ble_eq_true rfl) (Nat.le_of_ble_eq_true rfl) (Nat.le_of_ble_eq_true rfl) hlocks (fun t hW hsz hk => x_pwk hP hD hK hG hS hz hsz hk hW) (Nat.le_of_ble_eq_true rfl) (Nat.le_of_ble_eq_true rfl)
abbrev rm_X_refuseUnlessWhole : Room := { frames := 6, cells := 0, slots := 0, locals := 82 }
abbrev rx_X_refuseUnlessWhole : Room := { frames := 6, cells := 1, slots := 6, locals := 82 }
set_option maxHeartbeats 4000000 in
set_option maxRecDepth 100000 in
theorem c_X_refuseUnlessWhole (l : Launch) (G : x_G) (k1 : Nat) (hk1 : x_isP k1 = true) (z0 : x_St) (r : Unit) (zo : x_St) (hf : f_X_refuseUnlessWhole (x_n G) k1 z0 = some (Sum.inr r, zo)) : Met l (⟨"ContentLibrary", "refuseUnlessWhole", "(LContentLibrary$Picture;)V"⟩ : MethodName) (x_ws (⟨"ContentLibrary", "refuseUnlessWhole", "(LContentLibrary$Picture;)V"⟩ : MethodName) prog_1_method_20_code 1 none) rm_X_refuseUnlessWhole (va_Pc [.ref (x_ad G k1)] (x_PW G z0)) (va_Qv (fun u => r = () ∧ zo = u) (x_PW G) (x_A G)) 0 0 (x_A G) := by
  refine Met.ofW (cc := prog_1_method_20_code) (maxL := 1) (ret := none) (by decide) rfl ?_
  intro p e s m args below meth c s₁ B hml hv
  obtain ⟨rfl, hz, hP, hD, hK, hG⟩ := hv
  have C0 : x_Ctx G p s m _ meth c prog_1_method_20_code "ContentLibrary" 1 none := ⟨B.exec, B.bytes, B.returns, hml, findClass_of_methodNamed B.named, fun w h => atoms_spec (ws := (x_ws (⟨"ContentLibrary", "refuseUnlessWhole", "(LContentLibrary$Picture;)V"⟩ : MethodName) prog_1_method_20_code 1 none)) B.pre w (List.mem_cons_of_mem _ h), B.notSynchronized, hz, hK, hG⟩
  obtain ⟨hx, hb, hr, hml, hown, hts, hlocks, hz, hK, hG⟩ := id C0
  have hS : va_S (x_A G) s.heap s.heap [] := va_S.rf
  have hl := lv_entry ([.ref (x_ad G k1)]) (n := 1) (Nat.le_of_ble_eq_true rfl)
  rw [lg_entry_eq]
  generalize (lg_sl ([.ref (x_ad G k1)]) ++ List.replicate (1 - (lg_sl ([.ref (x_ad G k1)])).length) Slot.unset).toArray = ls at hl ⊢
  have hl : lv_has ls 1 [(0, .ref (x_ad G k1))] := hl
  rw [f_X_refuseUnlessWhole] at hf
  refine lv_aload_n hx hb d_X_refuseUnlessWhole_0 rfl (lv_at hl 0 rfl) ?_
  obtain ⟨r1, z1, hq2, hf⟩ := x_cl_some hf
  refine va_calli (va_runV (As := []) (rest := []) ⟨hx, hb, hml, hown, hts⟩ (c_P_isWhole l G k1 hk1 z0 r1 z1 hq2) (cwV 0 hts (x_gV t_489 t_231 t_232 t_4 t_233) rfl rfl rfl (by decide +kernel) ⟨Nat.le_of_ble_eq_true rfl, Nat.le_of_ble_eq_true rfl⟩) ⟨x_blind _ _ _, va_recv hK hP (ci := 2) (q0 := k1) rfl (x_lk_P G _ hk1), fun U hU hW => ⟨rfl, x_pw hP hD hK hG hS hz hU hW⟩⟩ rfl rfl hl.1 rfl (lv_room (Nat.le_of_ble_eq_true rfl)) d_X_refuseUnlessWhole_1 ⟨Nat.le_of_ble_eq_true rfl, Nat.le_of_ble_eq_true rfl⟩) hS (fun q _ h => h) (fun q h => h) (fun ra u t H locs ht hvm hw hB _ _ hS => ?_)
  obtain ⟨rfl, rfl⟩ := hw
  obtain ⟨hP, hD⟩ := x_back hB ht
  refine lv_if_ne (tgt := 18) hx hb d_X_refuseUnlessWhole_4 (by decide) (fun hc3 => ?_) (fun hc3 => ?_)
  · have hf := x_br_f hf hc3
    obtain ⟨rfl, rfl⟩ := x_retr hf
    exact W.vret hx hb hr (fun t ht hW => ⟨⟨_, rfl, ⟨rfl, rfl⟩, x_pw hP hD hK hG hS hz ht hW⟩, hS.F ht⟩) hS.2.2 d_X_refuseUnlessWhole_18
  · have hf := x_br_t hf hc3
    exact absurd hf x_no_r
set_option maxHeartbeats 4000000 in
set_option maxRecDepth 100000 in
theorem c_X_refuseUnlessWhole_x (l : Launch) (G : x_G) (hl9 : l.stackTraces = false) (k1 : Nat) (hk1 : x_isP k1 = true) (z0 : x_St) (E : String) (zo : x_St) (hf : f_X_refuseUnlessWhole (x_n G) k1 z0 = some (Sum.inl E, zo)) : e_Met l G (⟨"ContentLibrary", "refuseUnlessWhole", "(LContentLibrary$Picture;)V"⟩ : MethodName) (x_ws (⟨"ContentLibrary", "refuseUnlessWhole", "(LContentLibrary$Picture;)V"⟩ : MethodName) prog_1_method_20_code 1 none) rx_X_refuseUnlessWhole (va_Pc [.ref (x_ad G k1)] (x_PW G z0)) E zo 1 6 := by
  refine e_ofW (cc := prog_1_method_20_code) (maxL := 1) (ret := none) (by decide) rfl ?_
  intro p e s m args below meth c s₁ B hml hEx hv
  obtain ⟨rfl, hz, hP, hD, hK, hG⟩ := hv
  have C0 : x_Ctx G p s m _ meth c prog_1_method_20_code "ContentLibrary" 1 none := ⟨B.exec, B.bytes, B.returns, hml, findClass_of_methodNamed B.named, fun w h => atoms_spec (ws := (x_ws (⟨"ContentLibrary", "refuseUnlessWhole", "(LContentLibrary$Picture;)V"⟩ : MethodName) prog_1_method_20_code 1 none)) B.pre w (List.mem_cons_of_mem _ h), B.notSynchronized, hz, hK, hG⟩
  obtain ⟨hx, hb, hr, hml, hown, hts, hlocks, hz, hK, hG⟩ := id C0
  have hS : va_S (x_A G) s.heap s.heap [] := va_S.rf
  have hl := lv_entry ([.ref (x_ad G k1)]) (n := 1) (Nat.le_of_ble_eq_true rfl)
  rw [lg_entry_eq]
  generalize (lg_sl ([.ref (x_ad G k1)]) ++ List.replicate (1 - (lg_sl ([.ref (x_ad G k1)])).length) Slot.unset).toArray = ls at hl ⊢
  have hl : lv_has ls 1 [(0, .ref (x_ad G k1))] := hl
  rw [f_X_refuseUnlessWhole] at hf
  refine lv_aload_n hx hb d_X_refuseUnlessWhole_0 rfl (lv_at hl 0 rfl) ?_
  obtain ⟨r1, z1, hq2, hf⟩ := x_cl_some hf
  refine va_calli (va_runV (As := []) (rest := []) ⟨hx, hb, hml, hown, hts⟩ (c_P_isWhole l G k1 hk1 z0 r1 z1 hq2) (cwV 0 hts (x_gV t_489 t_231 t_232 t_4 t_233) rfl rfl rfl (by decide +kernel) ⟨Nat.le_of_ble_eq_true rfl, Nat.le_of_ble_eq_true rfl⟩) ⟨x_blind _ _ _, va_recv hK hP (ci := 2) (q0 := k1) rfl (x_lk_P G _ hk1), fun U hU hW => ⟨rfl, x_pw hP hD hK hG hS hz hU hW⟩⟩ rfl rfl hl.1 rfl (lv_room (Nat.le_of_ble_eq_true rfl)) d_X_refuseUnlessWhole_1 ⟨Nat.le_of_ble_eq_true rfl, Nat.le_of_ble_eq_true rfl⟩) hS (fun q _ h => h) (fun q h => h) (fun ra u t H locs ht hvm hw hB _ _ hS => ?_)
  obtain ⟨rfl, rfl⟩ := hw
  obtain ⟨hP, hD⟩ := x_back hB ht
  refine lv_if_ne (tgt := 18) hx hb d_X_refuseUnlessWhole_4 (by decide) (fun hc3 => ?_) (fun hc3 => ?_)
  · have hf := x_br_f hf hc3
    exact absurd hf x_no_x
  · have hf := x_br_t hf hc3
    obtain ⟨rfl, rfl⟩ := x_retx hf
    exact e_throwW (text := "the picture is not whole") (is := 262) hx hb hl9 hown (by decide +kernel) (by decide) (by decide +kernel) hts t_409 t_12 at_77_IllegalArgumentException hG hS (hl.1.trans hml.symm) d_X_refuseUnlessWhole_7 d_X_refuseUnlessWhole_10 d_X_refuseUnlessWhole_11 d_X_refuseUnlessWhole_14 d_X_refuseUnlessWhole_17 hEx (Nat.le_of_ble_eq_true rfl) (Nat.le_of_ble_eq_true rfl) (Nat.le_of_ble_eq_true rfl) (Nat.le_of_ble_eq_true rfl) hlocks (fun t hW hsz hk => x_pwk hP hD hK hG hS hz hsz hk hW) (Nat.le_of_ble_eq_true rfl) (Nat.le_of_ble_eq_true rfl)
abbrev rm_X_pictureBeingMade : Room := { frames := 6, cells := 0, slots := 0, locals := 82 }
abbrev rx_X_pictureBeingMade : Room := { frames := 6, cells := 1, slots := 6, locals := 82 }
set_option maxHeartbeats 4000000 in
set_option maxRecDepth 100000 in
theorem c_X_pictureBeingMade (l : Launch) (G : x_G) (p1 : Int32) (z0 : x_St) (r : Nat) (zo : x_St) (hf : f_X_pictureBeingMade (x_n G) p1 z0 = some (Sum.inr r, zo)) : Met l (⟨"ContentLibrary", "pictureBeingMade", "(I)LContentLibrary$Picture;"⟩ : MethodName) (x_ws (⟨"ContentLibrary", "pictureBeingMade", "(I)LContentLibrary$Picture;"⟩ : MethodName) prog_1_method_21_code 2 (some (.object "ContentLibrary$Picture"))) rm_X_pictureBeingMade (va_Pc [.ref (x_ad G 0), .int p1] (x_PW G z0)) (va_Qr (fun u => zo = u) (fun u a t => ∃ k, r = k ∧ x_isP k = true ∧ a = x_ad G k ∧ x_PW G u t) (x_A G)) 0 0 (x_A G) := by
  refine Met.ofW (cc := prog_1_method_21_code) (maxL := 2) (ret := (some (.object "ContentLibrary$Picture"))) (by decide) rfl ?_
  intro p e s m args below meth c s₁ B hml hv
  obtain ⟨rfl, hz, hP, hD, hK, hG⟩ := hv
  have C0 : x_Ctx G p s m _ meth c prog_1_method_21_code "ContentLibrary" 2 (some (.object "ContentLibrary$Picture")) := ⟨B.exec, B.bytes, B.returns, hml, findClass_of_methodNamed B.named, fun w h => atoms_spec (ws := (x_ws (⟨"ContentLibrary", "pictureBeingMade", "(I)LContentLibrary$Picture;"⟩ : MethodName) prog_1_method_21_code 2 (some (.object "ContentLibrary$Picture")))) B.pre w (List.mem_cons_of_mem _ h), B.notSynchronized, hz, hK, hG⟩
  obtain ⟨hx, hb, hr, hml, hown, hts, hlocks, hz, hK, hG⟩ := id C0
  have hS : va_S (x_A G) s.heap s.heap [] := va_S.rf
  have hl := lv_entry ([.ref (x_ad G 0), .int p1]) (n := 2) (Nat.le_of_ble_eq_true rfl)
  rw [lg_entry_eq]
  generalize (lg_sl ([.ref (x_ad G 0), .int p1]) ++ List.replicate (2 - (lg_sl ([.ref (x_ad G 0), .int p1])).length) Slot.unset).toArray = ls at hl ⊢
  have hl : lv_has ls 2 [(0, .ref (x_ad G 0)), (1, .int p1)] := hl
  rw [f_X_pictureBeingMade] at hf
  refine lv_iload_n hx hb d_X_pictureBeingMade_0 rfl (lv_at hl 1 rfl) ?_
  refine lv_if_lt (tgt := 22) hx hb d_X_pictureBeingMade_1 (by decide) (fun hc1 => ?_) (fun hc1 => ?_)
  · have hf := x_br_t hf hc1
    exact absurd hf x_no_r
  · have hf := x_br_f hf hc1
    refine lv_iload_n hx hb d_X_pictureBeingMade_4 rfl (lv_at hl 1 rfl) ?_
    refine lv_bipush (v := (8 : Int32)) hx hb d_X_pictureBeingMade_5 (by decide) ?_
    refine lv_icmp_ge (tgt := 22) hx hb d_X_pictureBeingMade_7 (by decide) (fun hc2 => ?_) (fun hc2 => ?_)
    · have hf := x_br_t hf hc2
      exact absurd hf x_no_r
    · have hf := x_br_f hf hc2
      refine lv_aload_n hx hb d_X_pictureBeingMade_10 rfl (lv_at hl 0 rfl) ?_
      refine va_get (D := x_D G) (ci := 0) (v := .ref (x_ad G 5)) (C := "ContentLibrary") (T := x_TX) (N := 9) hx hb hts x_inX hown hK hP 0 (x_lk_X G _) rfl 2 (by decide) (hts _ t_132) (fun _ h9 => h9) rfl d_X_pictureBeingMade_11 ?_
      refine lv_iload_n hx hb d_X_pictureBeingMade_14 rfl (lv_at hl 1 rfl) ?_
      obtain ⟨hin3, hf⟩ := x_ck_some hf
      refine va_aldq hx hb hK hP 5 2 (x_lk_made G _) rfl hin3 d_X_pictureBeingMade_15 ?_
      refine W.eq (g2 := F0 m 16 ls [.ref (x_ad G (6 + 2 * (p1).toNatClampNeg))]) rfl ?_
      refine va_get (D := x_D G) (ci := 2) (v := .int (z0.1 (6 + 2 * (p1).toNatClampNeg) 0)) (C := "ContentLibrary$Picture") (T := x_TP) (N := 3) hx hb hts x_inP hown hK hP (6 + 2 * (p1).toNatClampNeg) (x_lk_P G _ (x_el_P hin3)) rfl 0 (by decide) (hts _ t_67) (fun _ h9 => h9) rfl d_X_pictureBeingMade_16 ?_
      refine lv_if_ne (tgt := 33) hx hb d_X_pictureBeingMade_19 (by decide) (fun hc4 => ?_) (fun hc4 => ?_)
      · have hf := x_br_f hf hc4
        refine lv_aload_n hx hb d_X_pictureBeingMade_33 rfl (lv_at hl 0 rfl) ?_
        refine va_get (D := x_D G) (ci := 0) (v := .ref (x_ad G 5)) (C := "ContentLibrary") (T := x_TX) (N := 9) hx hb hts x_inX hown hK hP 0 (x_lk_X G _) rfl 2 (by decide) (hts _ t_132) (fun _ h9 => h9) rfl d_X_pictureBeingMade_34 ?_
        refine lv_iload_n hx hb d_X_pictureBeingMade_37 rfl (lv_at hl 1 rfl) ?_
        obtain ⟨hin5, hf⟩ := x_ck_some hf
        refine va_aldq hx hb hK hP 5 2 (x_lk_made G _) rfl hin5 d_X_pictureBeingMade_38 ?_
        refine W.eq (g2 := F0 m 39 ls [.ref (x_ad G (6 + 2 * (p1).toNatClampNeg))]) rfl ?_
        obtain ⟨rfl, rfl⟩ := x_retr hf
        exact W.aret (v := .ref (x_ad G (6 + 2 * (p1).toNatClampNeg))) hx hb hr (Or.inl ⟨_, rfl⟩) (Or.inr ⟨_, rfl⟩) (fun t ht hW => ⟨⟨_, _, rfl, rfl, _, rfl, (x_el_P hin5), rfl, x_pw hP hD hK hG hS hz ht hW⟩, hS.F ht⟩) hS.2.2 d_X_pictureBeingMade_39
      · have hf := x_br_t hf hc4
        exact absurd hf x_no_r
set_option maxHeartbeats 4000000 in
set_option maxRecDepth 100000 in
theorem c_X_pictureBeingMade_x (l : Launch) (G : x_G) (hl9 : l.stackTraces = false) (p1 : Int32) (z0 : x_St) (E : String) (zo : x_St) (hf : f_X_pictureBeingMade (x_n G) p1 z0 = some (Sum.inl E, zo)) : e_Met l G (⟨"ContentLibrary", "pictureBeingMade", "(I)LContentLibrary$Picture;"⟩ : MethodName) (x_ws (⟨"ContentLibrary", "pictureBeingMade", "(I)LContentLibrary$Picture;"⟩ : MethodName) prog_1_method_21_code 2 (some (.object "ContentLibrary$Picture"))) rx_X_pictureBeingMade (va_Pc [.ref (x_ad G 0), .int p1] (x_PW G z0)) E zo 1 6 := by
  refine e_ofW (cc := prog_1_method_21_code) (maxL := 2) (ret := (some (.object "ContentLibrary$Picture"))) (by decide) rfl ?_
  intro p e s m args below meth c s₁ B hml hEx hv
  obtain ⟨rfl, hz, hP, hD, hK, hG⟩ := hv
  have C0 : x_Ctx G p s m _ meth c prog_1_method_21_code "ContentLibrary" 2 (some (.object "ContentLibrary$Picture")) := ⟨B.exec, B.bytes, B.returns, hml, findClass_of_methodNamed B.named, fun w h => atoms_spec (ws := (x_ws (⟨"ContentLibrary", "pictureBeingMade", "(I)LContentLibrary$Picture;"⟩ : MethodName) prog_1_method_21_code 2 (some (.object "ContentLibrary$Picture")))) B.pre w (List.mem_cons_of_mem _ h), B.notSynchronized, hz, hK, hG⟩
  obtain ⟨hx, hb, hr, hml, hown, hts, hlocks, hz, hK, hG⟩ := id C0
  have hS : va_S (x_A G) s.heap s.heap [] := va_S.rf
  have hl := lv_entry ([.ref (x_ad G 0), .int p1]) (n := 2) (Nat.le_of_ble_eq_true rfl)
  rw [lg_entry_eq]
  generalize (lg_sl ([.ref (x_ad G 0), .int p1]) ++ List.replicate (2 - (lg_sl ([.ref (x_ad G 0), .int p1])).length) Slot.unset).toArray = ls at hl ⊢
  have hl : lv_has ls 2 [(0, .ref (x_ad G 0)), (1, .int p1)] := hl
  rw [f_X_pictureBeingMade] at hf
  refine lv_iload_n hx hb d_X_pictureBeingMade_0 rfl (lv_at hl 1 rfl) ?_
  refine lv_if_lt (tgt := 22) hx hb d_X_pictureBeingMade_1 (by decide) (fun hc1 => ?_) (fun hc1 => ?_)
  · have hf := x_br_t hf hc1
    obtain ⟨rfl, rfl⟩ := x_retx hf
    exact e_throwW (text := "no such picture is being made") (is := 264) hx hb hl9 hown (by decide +kernel) (by decide) (by decide +kernel) hts t_457 t_14 at_149_IndexOutOfBoundsException hG hS (hl.1.trans hml.symm) d_X_pictureBeingMade_22 d_X_pictureBeingMade_25 d_X_pictureBeingMade_26 d_X_pictureBeingMade_29 d_X_pictureBeingMade_32 hEx (Nat.le_of_ble_eq_true rfl) (Nat.le_of_ble_eq_true rfl) (Nat.le_of_ble_eq_true rfl) (Nat.le_of_ble_eq_true rfl) hlocks (fun t hW hsz hk => x_pwk hP hD hK hG hS hz hsz hk hW) (Nat.le_of_ble_eq_true rfl) (Nat.le_of_ble_eq_true rfl)
  · have hf := x_br_f hf hc1
    refine lv_iload_n hx hb d_X_pictureBeingMade_4 rfl (lv_at hl 1 rfl) ?_
    refine lv_bipush (v := (8 : Int32)) hx hb d_X_pictureBeingMade_5 (by decide) ?_
    refine lv_icmp_ge (tgt := 22) hx hb d_X_pictureBeingMade_7 (by decide) (fun hc2 => ?_) (fun hc2 => ?_)
    · have hf := x_br_t hf hc2
      obtain ⟨rfl, rfl⟩ := x_retx hf
      exact e_throwW (text := "no such picture is being made") (is := 264) hx hb hl9 hown (by decide +kernel) (by decide) (by decide +kernel) hts t_457 t_14 at_149_IndexOutOfBoundsException hG hS (hl.1.trans hml.symm) d_X_pictureBeingMade_22 d_X_pictureBeingMade_25 d_X_pictureBeingMade_26 d_X_pictureBeingMade_29 d_X_pictureBeingMade_32 hEx (Nat.le_of_ble_eq_true rfl) (Nat.le_of_ble_eq_true rfl) (Nat.le_of_ble_eq_true rfl) (Nat.le_of_ble_eq_true rfl) hlocks (fun t hW hsz hk => x_pwk hP hD hK hG hS hz hsz hk hW) (Nat.le_of_ble_eq_true rfl) (Nat.le_of_ble_eq_true rfl)
    · have hf := x_br_f hf hc2
      refine lv_aload_n hx hb d_X_pictureBeingMade_10 rfl (lv_at hl 0 rfl) ?_
      refine va_get (D := x_D G) (ci := 0) (v := .ref (x_ad G 5)) (C := "ContentLibrary") (T := x_TX) (N := 9) hx hb hts x_inX hown hK hP 0 (x_lk_X G _) rfl 2 (by decide) (hts _ t_132) (fun _ h9 => h9) rfl d_X_pictureBeingMade_11 ?_
      refine lv_iload_n hx hb d_X_pictureBeingMade_14 rfl (lv_at hl 1 rfl) ?_
      obtain ⟨hin3, hf⟩ := x_ck_some hf
      refine va_aldq hx hb hK hP 5 2 (x_lk_made G _) rfl hin3 d_X_pictureBeingMade_15 ?_
      refine W.eq (g2 := F0 m 16 ls [.ref (x_ad G (6 + 2 * (p1).toNatClampNeg))]) rfl ?_
      refine va_get (D := x_D G) (ci := 2) (v := .int (z0.1 (6 + 2 * (p1).toNatClampNeg) 0)) (C := "ContentLibrary$Picture") (T := x_TP) (N := 3) hx hb hts x_inP hown hK hP (6 + 2 * (p1).toNatClampNeg) (x_lk_P G _ (x_el_P hin3)) rfl 0 (by decide) (hts _ t_67) (fun _ h9 => h9) rfl d_X_pictureBeingMade_16 ?_
      refine lv_if_ne (tgt := 33) hx hb d_X_pictureBeingMade_19 (by decide) (fun hc4 => ?_) (fun hc4 => ?_)
      · have hf := x_br_f hf hc4
        refine lv_aload_n hx hb d_X_pictureBeingMade_33 rfl (lv_at hl 0 rfl) ?_
        refine va_get (D := x_D G) (ci := 0) (v := .ref (x_ad G 5)) (C := "ContentLibrary") (T := x_TX) (N := 9) hx hb hts x_inX hown hK hP 0 (x_lk_X G _) rfl 2 (by decide) (hts _ t_132) (fun _ h9 => h9) rfl d_X_pictureBeingMade_34 ?_
        refine lv_iload_n hx hb d_X_pictureBeingMade_37 rfl (lv_at hl 1 rfl) ?_
        obtain ⟨hin5, hf⟩ := x_ck_some hf
        refine va_aldq hx hb hK hP 5 2 (x_lk_made G _) rfl hin5 d_X_pictureBeingMade_38 ?_
        refine W.eq (g2 := F0 m 39 ls [.ref (x_ad G (6 + 2 * (p1).toNatClampNeg))]) rfl ?_
        exact absurd hf x_no_x
      · have hf := x_br_t hf hc4
        obtain ⟨rfl, rfl⟩ := x_retx hf
        exact e_throwW (text := "no such picture is being made") (is := 264) hx hb hl9 hown (by decide +kernel) (by decide) (by decide +kernel) hts t_457 t_14 at_149_IndexOutOfBoundsException hG hS (hl.1.trans hml.symm) d_X_pictureBeingMade_22 d_X_pictureBeingMade_25 d_X_pictureBeingMade_26 d_X_pictureBeingMade_29 d_X_pictureBeingMade_32 hEx (Nat.le_of_ble_eq_true rfl) (Nat.le_of_ble_eq_true rfl) (Nat.le_of_ble_eq_true rfl) (Nat.le_of_ble_eq_true rfl) hlocks (fun t hW hsz hk => x_pwk hP hD hK hG hS hz hsz hk hW) (Nat.le_of_ble_eq_true rfl) (Nat.le_of_ble_eq_true rfl)
abbrev rm_X_keptAt : Room := { frames := 6, cells := 0, slots := 0, locals := 82 }
abbrev rx_X_keptAt : Room := { frames := 6, cells := 1, slots := 6, locals := 82 }
set_option maxHeartbeats 4000000 in
set_option maxRecDepth 100000 in
theorem c_X_keptAt (l : Launch) (G : x_G) (p1 : Int32) (z0 : x_St) (r : Nat) (zo : x_St) (hf : f_X_keptAt (x_n G) p1 z0 = some (Sum.inr r, zo)) : Met l (⟨"ContentLibrary", "keptAt", "(I)LContentLibrary$Kept;"⟩ : MethodName) (x_ws (⟨"ContentLibrary", "keptAt", "(I)LContentLibrary$Kept;"⟩ : MethodName) prog_1_method_22_code 2 (some (.object "ContentLibrary$Kept"))) rm_X_keptAt (va_Pc [.ref (x_ad G 0), .int p1] (x_PW G z0)) (va_Qr (fun u => zo = u) (fun u a t => ∃ k, r = k ∧ x_isK k = true ∧ a = x_ad G k ∧ x_PW G u t) (x_A G)) 0 0 (x_A G) := by
  refine Met.ofW (cc := prog_1_method_22_code) (maxL := 2) (ret := (some (.object "ContentLibrary$Kept"))) (by decide) rfl ?_
  intro p e s m args below meth c s₁ B hml hv
  obtain ⟨rfl, hz, hP, hD, hK, hG⟩ := hv
  have C0 : x_Ctx G p s m _ meth c prog_1_method_22_code "ContentLibrary" 2 (some (.object "ContentLibrary$Kept")) := ⟨B.exec, B.bytes, B.returns, hml, findClass_of_methodNamed B.named, fun w h => atoms_spec (ws := (x_ws (⟨"ContentLibrary", "keptAt", "(I)LContentLibrary$Kept;"⟩ : MethodName) prog_1_method_22_code 2 (some (.object "ContentLibrary$Kept")))) B.pre w (List.mem_cons_of_mem _ h), B.notSynchronized, hz, hK, hG⟩
  obtain ⟨hx, hb, hr, hml, hown, hts, hlocks, hz, hK, hG⟩ := id C0
  have hS : va_S (x_A G) s.heap s.heap [] := va_S.rf
  have hl := lv_entry ([.ref (x_ad G 0), .int p1]) (n := 2) (Nat.le_of_ble_eq_true rfl)
  rw [lg_entry_eq]
  generalize (lg_sl ([.ref (x_ad G 0), .int p1]) ++ List.replicate (2 - (lg_sl ([.ref (x_ad G 0), .int p1])).length) Slot.unset).toArray = ls at hl ⊢
  have hl : lv_has ls 2 [(0, .ref (x_ad G 0)), (1, .int p1)] := hl
  rw [f_X_keptAt] at hf
  refine lv_iload_n hx hb d_X_keptAt_0 rfl (lv_at hl 1 rfl) ?_
  refine lv_if_lt (tgt := 22) hx hb d_X_keptAt_1 (by decide) (fun hc1 => ?_) (fun hc1 => ?_)
  · have hf := x_br_t hf hc1
    exact absurd hf x_no_r
  · have hf := x_br_f hf hc1
    refine lv_iload_n hx hb d_X_keptAt_4 rfl (lv_at hl 1 rfl) ?_
    refine lv_bipush (v := (16 : Int32)) hx hb d_X_keptAt_5 (by decide) ?_
    refine lv_icmp_ge (tgt := 22) hx hb d_X_keptAt_7 (by decide) (fun hc2 => ?_) (fun hc2 => ?_)
    · have hf := x_br_t hf hc2
      exact absurd hf x_no_r
    · have hf := x_br_f hf hc2
      refine lv_aload_n hx hb d_X_keptAt_10 rfl (lv_at hl 0 rfl) ?_
      refine va_get (D := x_D G) (ci := 0) (v := .ref (x_ad G 22)) (C := "ContentLibrary") (T := x_TX) (N := 9) hx hb hts x_inX hown hK hP 0 (x_lk_X G _) rfl 3 (by decide) (hts _ t_133) (fun _ h9 => h9) rfl d_X_keptAt_11 ?_
      refine lv_iload_n hx hb d_X_keptAt_14 rfl (lv_at hl 1 rfl) ?_
      obtain ⟨hin3, hf⟩ := x_ck_some hf
      refine va_aldq hx hb hK hP 22 3 (x_lk_kept G _) rfl hin3 d_X_keptAt_15 ?_
      refine W.eq (g2 := F0 m 16 ls [.ref (x_ad G (23 + 5 * (p1).toNatClampNeg))]) rfl ?_
      refine va_get (D := x_D G) (ci := 3) (v := .int (z0.1 (23 + 5 * (p1).toNatClampNeg) 0)) (C := "ContentLibrary$Kept") (T := x_TK) (N := 6) hx hb hts x_inK hown hK hP (23 + 5 * (p1).toNatClampNeg) (x_lk_K G _ (x_el_K hin3)) rfl 0 (by decide) (hts _ t_90) (fun _ h9 => h9) rfl d_X_keptAt_16 ?_
      refine lv_if_ne (tgt := 33) hx hb d_X_keptAt_19 (by decide) (fun hc4 => ?_) (fun hc4 => ?_)
      · have hf := x_br_f hf hc4
        refine lv_aload_n hx hb d_X_keptAt_33 rfl (lv_at hl 0 rfl) ?_
        refine va_get (D := x_D G) (ci := 0) (v := .ref (x_ad G 22)) (C := "ContentLibrary") (T := x_TX) (N := 9) hx hb hts x_inX hown hK hP 0 (x_lk_X G _) rfl 3 (by decide) (hts _ t_133) (fun _ h9 => h9) rfl d_X_keptAt_34 ?_
        refine lv_iload_n hx hb d_X_keptAt_37 rfl (lv_at hl 1 rfl) ?_
        obtain ⟨hin5, hf⟩ := x_ck_some hf
        refine va_aldq hx hb hK hP 22 3 (x_lk_kept G _) rfl hin5 d_X_keptAt_38 ?_
        refine W.eq (g2 := F0 m 39 ls [.ref (x_ad G (23 + 5 * (p1).toNatClampNeg))]) rfl ?_
        obtain ⟨rfl, rfl⟩ := x_retr hf
        exact W.aret (v := .ref (x_ad G (23 + 5 * (p1).toNatClampNeg))) hx hb hr (Or.inl ⟨_, rfl⟩) (Or.inr ⟨_, rfl⟩) (fun t ht hW => ⟨⟨_, _, rfl, rfl, _, rfl, (x_el_K hin5), rfl, x_pw hP hD hK hG hS hz ht hW⟩, hS.F ht⟩) hS.2.2 d_X_keptAt_39
      · have hf := x_br_t hf hc4
        exact absurd hf x_no_r
set_option maxHeartbeats 4000000 in
set_option maxRecDepth 100000 in
theorem c_X_keptAt_x (l : Launch) (G : x_G) (hl9 : l.stackTraces = false) (p1 : Int32) (z0 : x_St) (E : String) (zo : x_St) (hf : f_X_keptAt (x_n G) p1 z0 = some (Sum.inl E, zo)) : e_Met l G (⟨"ContentLibrary", "keptAt", "(I)LContentLibrary$Kept;"⟩ : MethodName) (x_ws (⟨"ContentLibrary", "keptAt", "(I)LContentLibrary$Kept;"⟩ : MethodName) prog_1_method_22_code 2 (some (.object "ContentLibrary$Kept"))) rx_X_keptAt (va_Pc [.ref (x_ad G 0), .int p1] (x_PW G z0)) E zo 1 6 := by
  refine e_ofW (cc := prog_1_method_22_code) (maxL := 2) (ret := (some (.object "ContentLibrary$Kept"))) (by decide) rfl ?_
  intro p e s m args below meth c s₁ B hml hEx hv
  obtain ⟨rfl, hz, hP, hD, hK, hG⟩ := hv
  have C0 : x_Ctx G p s m _ meth c prog_1_method_22_code "ContentLibrary" 2 (some (.object "ContentLibrary$Kept")) := ⟨B.exec, B.bytes, B.returns, hml, findClass_of_methodNamed B.named, fun w h => atoms_spec (ws := (x_ws (⟨"ContentLibrary", "keptAt", "(I)LContentLibrary$Kept;"⟩ : MethodName) prog_1_method_22_code 2 (some (.object "ContentLibrary$Kept")))) B.pre w (List.mem_cons_of_mem _ h), B.notSynchronized, hz, hK, hG⟩
  obtain ⟨hx, hb, hr, hml, hown, hts, hlocks, hz, hK, hG⟩ := id C0
  have hS : va_S (x_A G) s.heap s.heap [] := va_S.rf
  have hl := lv_entry ([.ref (x_ad G 0), .int p1]) (n := 2) (Nat.le_of_ble_eq_true rfl)
  rw [lg_entry_eq]
  generalize (lg_sl ([.ref (x_ad G 0), .int p1]) ++ List.replicate (2 - (lg_sl ([.ref (x_ad G 0), .int p1])).length) Slot.unset).toArray = ls at hl ⊢
  have hl : lv_has ls 2 [(0, .ref (x_ad G 0)), (1, .int p1)] := hl
  rw [f_X_keptAt] at hf
  refine lv_iload_n hx hb d_X_keptAt_0 rfl (lv_at hl 1 rfl) ?_
  refine lv_if_lt (tgt := 22) hx hb d_X_keptAt_1 (by decide) (fun hc1 => ?_) (fun hc1 => ?_)
  · have hf := x_br_t hf hc1
    obtain ⟨rfl, rfl⟩ := x_retx hf
    exact e_throwW (text := "no such number is there") (is := 266) hx hb hl9 hown (by decide +kernel) (by decide) (by decide +kernel) hts t_457 t_14 at_149_IndexOutOfBoundsException hG hS (hl.1.trans hml.symm) d_X_keptAt_22 d_X_keptAt_25 d_X_keptAt_26 d_X_keptAt_29 d_X_keptAt_32 hEx (Nat.le_of_ble_eq_true rfl) (Nat.le_of_ble_eq_true rfl) (Nat.le_of_ble_eq_true rfl) (Nat.le_of_ble_eq_true rfl) hlocks (fun t hW hsz hk => x_pwk hP hD hK hG hS hz hsz hk hW) (Nat.le_of_ble_eq_true rfl) (Nat.le_of_ble_eq_true rfl)
  · have hf := x_br_f hf hc1
    refine lv_iload_n hx hb d_X_keptAt_4 rfl (lv_at hl 1 rfl) ?_
    refine lv_bipush (v := (16 : Int32)) hx hb d_X_keptAt_5 (by decide) ?_
    refine lv_icmp_ge (tgt := 22) hx hb d_X_keptAt_7 (by decide) (fun hc2 => ?_) (fun hc2 => ?_)
    · have hf := x_br_t hf hc2
      obtain ⟨rfl, rfl⟩ := x_retx hf
      exact e_throwW (text := "no such number is there") (is := 266) hx hb hl9 hown (by decide +kernel) (by decide) (by decide +kernel) hts t_457 t_14 at_149_IndexOutOfBoundsException hG hS (hl.1.trans hml.symm) d_X_keptAt_22 d_X_keptAt_25 d_X_keptAt_26 d_X_keptAt_29 d_X_keptAt_32 hEx (Nat.le_of_ble_eq_true rfl) (Nat.le_of_ble_eq_true rfl) (Nat.le_of_ble_eq_true rfl) (Nat.le_of_ble_eq_true rfl) hlocks (fun t hW hsz hk => x_pwk hP hD hK hG hS hz hsz hk hW) (Nat.le_of_ble_eq_true rfl) (Nat.le_of_ble_eq_true rfl)
    · have hf := x_br_f hf hc2
      refine lv_aload_n hx hb d_X_keptAt_10 rfl (lv_at hl 0 rfl) ?_
      refine va_get (D := x_D G) (ci := 0) (v := .ref (x_ad G 22)) (C := "ContentLibrary") (T := x_TX) (N := 9) hx hb hts x_inX hown hK hP 0 (x_lk_X G _) rfl 3 (by decide) (hts _ t_133) (fun _ h9 => h9) rfl d_X_keptAt_11 ?_
      refine lv_iload_n hx hb d_X_keptAt_14 rfl (lv_at hl 1 rfl) ?_
      obtain ⟨hin3, hf⟩ := x_ck_some hf
      refine va_aldq hx hb hK hP 22 3 (x_lk_kept G _) rfl hin3 d_X_keptAt_15 ?_
      refine W.eq (g2 := F0 m 16 ls [.ref (x_ad G (23 + 5 * (p1).toNatClampNeg))]) rfl ?_
      refine va_get (D := x_D G) (ci := 3) (v := .int (z0.1 (23 + 5 * (p1).toNatClampNeg) 0)) (C := "ContentLibrary$Kept") (T := x_TK) (N := 6) hx hb hts x_inK hown hK hP (23 + 5 * (p1).toNatClampNeg) (x_lk_K G _ (x_el_K hin3)) rfl 0 (by decide) (hts _ t_90) (fun _ h9 => h9) rfl d_X_keptAt_16 ?_
      refine lv_if_ne (tgt := 33) hx hb d_X_keptAt_19 (by decide) (fun hc4 => ?_) (fun hc4 => ?_)
      · have hf := x_br_f hf hc4
        refine lv_aload_n hx hb d_X_keptAt_33 rfl (lv_at hl 0 rfl) ?_
        refine va_get (D := x_D G) (ci := 0) (v := .ref (x_ad G 22)) (C := "ContentLibrary") (T := x_TX) (N := 9) hx hb hts x_inX hown hK hP 0 (x_lk_X G _) rfl 3 (by decide) (hts _ t_133) (fun _ h9 => h9) rfl d_X_keptAt_34 ?_
        refine lv_iload_n hx hb d_X_keptAt_37 rfl (lv_at hl 1 rfl) ?_
        obtain ⟨hin5, hf⟩ := x_ck_some hf
        refine va_aldq hx hb hK hP 22 3 (x_lk_kept G _) rfl hin5 d_X_keptAt_38 ?_
        refine W.eq (g2 := F0 m 39 ls [.ref (x_ad G (23 + 5 * (p1).toNatClampNeg))]) rfl ?_
        exact absurd hf x_no_x
      · have hf := x_br_t hf hc4
        obtain ⟨rfl, rfl⟩ := x_retx hf
        exact e_throwW (text := "no such number is there") (is := 266) hx hb hl9 hown (by decide +kernel) (by decide) (by decide +kernel) hts t_457 t_14 at_149_IndexOutOfBoundsException hG hS (hl.1.trans hml.symm) d_X_keptAt_22 d_X_keptAt_25 d_X_keptAt_26 d_X_keptAt_29 d_X_keptAt_32 hEx (Nat.le_of_ble_eq_true rfl) (Nat.le_of_ble_eq_true rfl) (Nat.le_of_ble_eq_true rfl) (Nat.le_of_ble_eq_true rfl) hlocks (fun t hW hsz hk => x_pwk hP hD hK hG hS hz hsz hk hW) (Nat.le_of_ble_eq_true rfl) (Nat.le_of_ble_eq_true rfl)
end
section
theorem t_13 : Cond.initialized "java/lang/UnsupportedOperationException" ∈ x_big := x_bt 13 (by decide +kernel) (by decide +kernel)
theorem t_18 : Cond.initialized "java/lang/Long" ∈ x_big := x_bt 18 (by decide +kernel) (by decide +kernel)
theorem t_94 : Cond.fieldLink "ContentLibrary" 150 "ContentLibrary$Kept" "digest" "[I" ∈ x_big := x_bt 94 (by decide +kernel) (by decide +kernel)
theorem t_335 : Cond.methodLink "ContentLibrary" 66 (⟨"ContentLibrary", "refuseWhenCut", "()V"⟩ : MethodName) ∈ x_big := x_bt 335 (by decide +kernel) (by decide +kernel)
theorem t_337 : Cond.instanceMethod (⟨"ContentLibrary", "refuseWhenCut", "()V"⟩ : MethodName) ∈ x_big := x_bt 337 (by decide +kernel) (by decide +kernel)
theorem t_338 : Cond.code (⟨"ContentLibrary", "refuseWhenCut", "()V"⟩ : MethodName) prog_1_method_18_code 1 none ∈ x_big := x_bt 338 (by decide +kernel) (by decide +kernel)
theorem t_408 : Cond.methodLink "ContentLibrary" 69 (⟨"ContentLibrary$Picture", "isSide", "(I)Z"⟩ : MethodName) ∈ x_big := x_bt 408 (by decide +kernel) (by decide +kernel)
theorem t_425 : Cond.methodLink "ContentLibrary" 84 (⟨"ContentLibrary$Picture", "begin", "(II)V"⟩ : MethodName) ∈ x_big := x_bt 425 (by decide +kernel) (by decide +kernel)
theorem t_426 : Cond.instanceMethod (⟨"ContentLibrary$Picture", "begin", "(II)V"⟩ : MethodName) ∈ x_big := x_bt 426 (by decide +kernel) (by decide +kernel)
theorem t_427 : Cond.selects "ContentLibrary$Picture" (⟨"ContentLibrary$Picture", "begin", "(II)V"⟩ : MethodName) (⟨"ContentLibrary$Picture", "begin", "(II)V"⟩ : MethodName) ∈ x_big := x_bt 427 (by decide +kernel) (by decide +kernel)
theorem t_428 : Cond.code (⟨"ContentLibrary$Picture", "begin", "(II)V"⟩ : MethodName) prog_5_method_3_code 3 none ∈ x_big := x_bt 428 (by decide +kernel) (by decide +kernel)
theorem t_429 : Cond.classLink "ContentLibrary" 88 "java/lang/UnsupportedOperationException" ∈ x_big := x_bt 429 (by decide +kernel) (by decide +kernel)
theorem t_453 : Cond.methodLink "ContentLibrary" 93 (⟨"ContentLibrary", "pictureBeingMade", "(I)LContentLibrary$Picture;"⟩ : MethodName) ∈ x_big := x_bt 453 (by decide +kernel) (by decide +kernel)
theorem t_455 : Cond.instanceMethod (⟨"ContentLibrary", "pictureBeingMade", "(I)LContentLibrary$Picture;"⟩ : MethodName) ∈ x_big := x_bt 455 (by decide +kernel) (by decide +kernel)
theorem t_456 : Cond.code (⟨"ContentLibrary", "pictureBeingMade", "(I)LContentLibrary$Picture;"⟩ : MethodName) prog_1_method_21_code 2 (some (.object "ContentLibrary$Picture")) ∈ x_big := x_bt 456 (by decide +kernel) (by decide +kernel)
theorem t_474 : Cond.methodLink "ContentLibrary" 99 (⟨"ContentLibrary$Picture", "take", "(III)I"⟩ : MethodName) ∈ x_big := x_bt 474 (by decide +kernel) (by decide +kernel)
theorem t_475 : Cond.instanceMethod (⟨"ContentLibrary$Picture", "take", "(III)I"⟩ : MethodName) ∈ x_big := x_bt 475 (by decide +kernel) (by decide +kernel)
theorem t_476 : Cond.selects "ContentLibrary$Picture" (⟨"ContentLibrary$Picture", "take", "(III)I"⟩ : MethodName) (⟨"ContentLibrary$Picture", "take", "(III)I"⟩ : MethodName) ∈ x_big := x_bt 476 (by decide +kernel) (by decide +kernel)
theorem t_477 : Cond.code (⟨"ContentLibrary$Picture", "take", "(III)I"⟩ : MethodName) prog_5_method_11_code 7 (some .int) ∈ x_big := x_bt 477 (by decide +kernel) (by decide +kernel)
theorem t_486 : Cond.methodLink "ContentLibrary" 103 (⟨"ContentLibrary", "refuseUnlessWhole", "(LContentLibrary$Picture;)V"⟩ : MethodName) ∈ x_big := x_bt 486 (by decide +kernel) (by decide +kernel)
theorem t_487 : Cond.static (⟨"ContentLibrary", "refuseUnlessWhole", "(LContentLibrary$Picture;)V"⟩ : MethodName) ∈ x_big := x_bt 487 (by decide +kernel) (by decide +kernel)
theorem t_488 : Cond.code (⟨"ContentLibrary", "refuseUnlessWhole", "(LContentLibrary$Picture;)V"⟩ : MethodName) prog_1_method_20_code 1 none ∈ x_big := x_bt 488 (by decide +kernel) (by decide +kernel)
theorem t_558 : Cond.methodLink "ContentLibrary" 141 (⟨"ContentLibrary", "keptAt", "(I)LContentLibrary$Kept;"⟩ : MethodName) ∈ x_big := x_bt 558 (by decide +kernel) (by decide +kernel)
theorem t_560 : Cond.instanceMethod (⟨"ContentLibrary", "keptAt", "(I)LContentLibrary$Kept;"⟩ : MethodName) ∈ x_big := x_bt 560 (by decide +kernel) (by decide +kernel)
theorem t_561 : Cond.code (⟨"ContentLibrary", "keptAt", "(I)LContentLibrary$Kept;"⟩ : MethodName) prog_1_method_22_code 2 (some (.object "ContentLibrary$Kept")) ∈ x_big := x_bt 561 (by decide +kernel) (by decide +kernel)
theorem t_578 : Cond.methodLink "ContentLibrary" 161 (⟨"ContentLibrary$Picture", "width", "()I"⟩ : MethodName) ∈ x_big := x_bt 578 (by decide +kernel) (by decide +kernel)
theorem t_579 : Cond.methodLink "ContentLibrary" 164 (⟨"ContentLibrary$Picture", "height", "()I"⟩ : MethodName) ∈ x_big := x_bt 579 (by decide +kernel) (by decide +kernel)
theorem t_581 : Cond.methodLink "ContentLibrary" 169 (⟨"ContentLibrary$Picture", "at", "(II)I"⟩ : MethodName) ∈ x_big := x_bt 581 (by decide +kernel) (by decide +kernel)
theorem t_590 : Cond.methodLink "ContentLibrary" 179 (⟨"java/lang/Long", "bitCount", "(J)I"⟩ : MethodName) ∈ x_big := x_bt 590 (by decide +kernel) (by decide +kernel)
theorem t_591 : Cond.static (⟨"java/lang/Long", "bitCount", "(J)I"⟩ : MethodName) ∈ x_big := x_bt 591 (by decide +kernel) (by decide +kernel)
theorem t_592 : Cond.code (⟨"java/lang/Long", "bitCount", "(J)I"⟩ : MethodName) prog_13_method_50_code 2 (some .int) ∈ x_big := x_bt 592 (by decide +kernel) (by decide +kernel)
theorem t_596 : Cond.methodLink "ContentLibrary" 185 (⟨"ContentLibrary", "enterFound", "(II)V"⟩ : MethodName) ∈ x_big := x_bt 596 (by decide +kernel) (by decide +kernel)
theorem t_598 : Cond.instanceMethod (⟨"ContentLibrary", "enterFound", "(II)V"⟩ : MethodName) ∈ x_big := x_bt 598 (by decide +kernel) (by decide +kernel)
theorem t_599 : Cond.code (⟨"ContentLibrary", "enterFound", "(II)V"⟩ : MethodName) prog_1_method_32_code 4 none ∈ x_big := x_bt 599 (by decide +kernel) (by decide +kernel)
theorem at_92_UnsupportedOperationException : ∀ w ∈ Jvm.Bundle.ownAtoms "ContentLibrary" 92 "java/lang/UnsupportedOperationException" ["java/lang/RuntimeException", "java/lang/Exception"], w ∈ x_big ∨ w ∈ e_rest "java/lang/UnsupportedOperationException" := by
  have h : ∀ w ∈ Jvm.Bundle.ownAtoms "ContentLibrary" 92 "java/lang/UnsupportedOperationException" ["java/lang/RuntimeException", "java/lang/Exception"], (goodWord w = true ∧ w ∈ lw_tbl) ∨ w ∈ e_rest "java/lang/UnsupportedOperationException" := by decide +kernel
  exact fun w hw => (h w hw).imp (fun q => List.mem_filter.mpr ⟨q.2, q.1⟩) id
theorem sel_ContentLibrary_enterFound : Cond.selects "ContentLibrary" (⟨"ContentLibrary", "enterFound", "(II)V"⟩ : MethodName) (⟨"ContentLibrary", "enterFound", "(II)V"⟩ : MethodName) ∈ x_big := x_bs 26 (by decide +kernel) (by decide +kernel)
theorem sel_ContentLibrary_keptAt : Cond.selects "ContentLibrary" (⟨"ContentLibrary", "keptAt", "(I)LContentLibrary$Kept;"⟩ : MethodName) (⟨"ContentLibrary", "keptAt", "(I)LContentLibrary$Kept;"⟩ : MethodName) ∈ x_big := x_bs 25 (by decide +kernel) (by decide +kernel)
theorem sel_ContentLibrary_pictureBeingMade : Cond.selects "ContentLibrary" (⟨"ContentLibrary", "pictureBeingMade", "(I)LContentLibrary$Picture;"⟩ : MethodName) (⟨"ContentLibrary", "pictureBeingMade", "(I)LContentLibrary$Picture;"⟩ : MethodName) ∈ x_big := x_bs 16 (by decide +kernel) (by decide +kernel)
theorem sel_ContentLibrary_refuseWhenCut : Cond.selects "ContentLibrary" (⟨"ContentLibrary", "refuseWhenCut", "()V"⟩ : MethodName) (⟨"ContentLibrary", "refuseWhenCut", "()V"⟩ : MethodName) ∈ x_big := x_bs 14 (by decide +kernel) (by decide +kernel)
theorem d_X_picture_0 : decode prog_1_method_2_code 0 = .ok (.aload_n 0, 1) := by decide +kernel
theorem d_X_picture_1 : decode prog_1_method_2_code 1 = .ok (.invokevirtual 66, 3) := by decide +kernel
theorem d_X_picture_4 : decode prog_1_method_2_code 4 = .ok (.iload_n 1, 1) := by decide +kernel
theorem d_X_picture_5 : decode prog_1_method_2_code 5 = .ok (.invokestatic 69, 3) := by decide +kernel
theorem d_X_picture_8 : decode prog_1_method_2_code 8 = .ok (.ifCond .eq 10, 3) := by decide +kernel
theorem d_X_picture_11 : decode prog_1_method_2_code 11 = .ok (.iload_n 2, 1) := by decide +kernel
theorem d_X_picture_12 : decode prog_1_method_2_code 12 = .ok (.invokestatic 69, 3) := by decide +kernel
theorem d_X_picture_15 : decode prog_1_method_2_code 15 = .ok (.ifCond .ne 13, 3) := by decide +kernel
theorem d_X_picture_18 : decode prog_1_method_2_code 18 = .ok (.new 73, 3) := by decide +kernel
theorem d_X_picture_21 : decode prog_1_method_2_code 21 = .ok (.dup, 1) := by decide +kernel
theorem d_X_picture_22 : decode prog_1_method_2_code 22 = .ok (.ldc 75, 2) := by decide +kernel
theorem d_X_picture_24 : decode prog_1_method_2_code 24 = .ok (.invokespecial 77, 3) := by decide +kernel
theorem d_X_picture_27 : decode prog_1_method_2_code 27 = .ok (.athrow, 1) := by decide +kernel
theorem d_X_picture_28 : decode prog_1_method_2_code 28 = .ok (.iconst 0, 1) := by decide +kernel
theorem d_X_picture_29 : decode prog_1_method_2_code 29 = .ok (.istore_n 3, 1) := by decide +kernel
theorem d_X_picture_30 : decode prog_1_method_2_code 30 = .ok (.iload_n 3, 1) := by decide +kernel
theorem d_X_picture_31 : decode prog_1_method_2_code 31 = .ok (.bipush 8, 2) := by decide +kernel
theorem d_X_picture_33 : decode prog_1_method_2_code 33 = .ok (.if_icmp .ge 34, 3) := by decide +kernel
theorem d_X_picture_36 : decode prog_1_method_2_code 36 = .ok (.aload_n 0, 1) := by decide +kernel
theorem d_X_picture_37 : decode prog_1_method_2_code 37 = .ok (.getfield 33, 3) := by decide +kernel
theorem d_X_picture_40 : decode prog_1_method_2_code 40 = .ok (.iload_n 3, 1) := by decide +kernel
theorem d_X_picture_41 : decode prog_1_method_2_code 41 = .ok (.aaload, 1) := by decide +kernel
theorem d_X_picture_42 : decode prog_1_method_2_code 42 = .ok (.getfield 80, 3) := by decide +kernel
theorem d_X_picture_45 : decode prog_1_method_2_code 45 = .ok (.ifCond .ne 16, 3) := by decide +kernel
theorem d_X_picture_48 : decode prog_1_method_2_code 48 = .ok (.aload_n 0, 1) := by decide +kernel
theorem d_X_picture_49 : decode prog_1_method_2_code 49 = .ok (.getfield 33, 3) := by decide +kernel
theorem d_X_picture_52 : decode prog_1_method_2_code 52 = .ok (.iload_n 3, 1) := by decide +kernel
theorem d_X_picture_53 : decode prog_1_method_2_code 53 = .ok (.aaload, 1) := by decide +kernel
theorem d_X_picture_54 : decode prog_1_method_2_code 54 = .ok (.iload_n 1, 1) := by decide +kernel
theorem d_X_picture_55 : decode prog_1_method_2_code 55 = .ok (.iload_n 2, 1) := by decide +kernel
theorem d_X_picture_56 : decode prog_1_method_2_code 56 = .ok (.invokevirtual 84, 3) := by decide +kernel
theorem d_X_picture_59 : decode prog_1_method_2_code 59 = .ok (.iload_n 3, 1) := by decide +kernel
theorem d_X_picture_60 : decode prog_1_method_2_code 60 = .ok (.ireturn, 1) := by decide +kernel
theorem d_X_picture_61 : decode prog_1_method_2_code 61 = .ok (.iinc 3 1, 3) := by decide +kernel
theorem d_X_picture_64 : decode prog_1_method_2_code 64 = .ok (.goto (-34), 3) := by decide +kernel
theorem d_X_picture_67 : decode prog_1_method_2_code 67 = .ok (.new 88, 3) := by decide +kernel
theorem d_X_picture_70 : decode prog_1_method_2_code 70 = .ok (.dup, 1) := by decide +kernel
theorem d_X_picture_71 : decode prog_1_method_2_code 71 = .ok (.ldc 90, 2) := by decide +kernel
theorem d_X_picture_73 : decode prog_1_method_2_code 73 = .ok (.invokespecial 92, 3) := by decide +kernel
theorem d_X_picture_76 : decode prog_1_method_2_code 76 = .ok (.athrow, 1) := by decide +kernel
theorem d_X_samples_0 : decode prog_1_method_3_code 0 = .ok (.aload_n 0, 1) := by decide +kernel
theorem d_X_samples_1 : decode prog_1_method_3_code 1 = .ok (.invokevirtual 66, 3) := by decide +kernel
theorem d_X_samples_4 : decode prog_1_method_3_code 4 = .ok (.aload_n 0, 1) := by decide +kernel
theorem d_X_samples_5 : decode prog_1_method_3_code 5 = .ok (.iload_n 1, 1) := by decide +kernel
theorem d_X_samples_6 : decode prog_1_method_3_code 6 = .ok (.invokevirtual 93, 3) := by decide +kernel
theorem d_X_samples_9 : decode prog_1_method_3_code 9 = .ok (.astore 5, 2) := by decide +kernel
theorem d_X_samples_11 : decode prog_1_method_3_code 11 = .ok (.iload_n 2, 1) := by decide +kernel
theorem d_X_samples_12 : decode prog_1_method_3_code 12 = .ok (.iconst 1, 1) := by decide +kernel
theorem d_X_samples_13 : decode prog_1_method_3_code 13 = .ok (.if_icmp .ge 13, 3) := by decide +kernel
theorem d_X_samples_16 : decode prog_1_method_3_code 16 = .ok (.new 73, 3) := by decide +kernel
theorem d_X_samples_19 : decode prog_1_method_3_code 19 = .ok (.dup, 1) := by decide +kernel
theorem d_X_samples_20 : decode prog_1_method_3_code 20 = .ok (.ldc 97, 2) := by decide +kernel
theorem d_X_samples_22 : decode prog_1_method_3_code 22 = .ok (.invokespecial 77, 3) := by decide +kernel
theorem d_X_samples_25 : decode prog_1_method_3_code 25 = .ok (.athrow, 1) := by decide +kernel
theorem d_X_samples_26 : decode prog_1_method_3_code 26 = .ok (.aload 5, 2) := by decide +kernel
theorem d_X_samples_28 : decode prog_1_method_3_code 28 = .ok (.iload_n 2, 1) := by decide +kernel
theorem d_X_samples_29 : decode prog_1_method_3_code 29 = .ok (.iload_n 3, 1) := by decide +kernel
theorem d_X_samples_30 : decode prog_1_method_3_code 30 = .ok (.iload 4, 2) := by decide +kernel
theorem d_X_samples_32 : decode prog_1_method_3_code 32 = .ok (.invokevirtual 99, 3) := by decide +kernel
theorem d_X_samples_35 : decode prog_1_method_3_code 35 = .ok (.ireturn, 1) := by decide +kernel
theorem d_X_keep_0 : decode prog_1_method_4_code 0 = .ok (.aload_n 0, 1) := by decide +kernel
theorem d_X_keep_1 : decode prog_1_method_4_code 1 = .ok (.invokevirtual 66, 3) := by decide +kernel
theorem d_X_keep_4 : decode prog_1_method_4_code 4 = .ok (.aload_n 0, 1) := by decide +kernel
theorem d_X_keep_5 : decode prog_1_method_4_code 5 = .ok (.iload_n 1, 1) := by decide +kernel
theorem d_X_keep_6 : decode prog_1_method_4_code 6 = .ok (.invokevirtual 93, 3) := by decide +kernel
theorem d_X_keep_9 : decode prog_1_method_4_code 9 = .ok (.astore_n 2, 1) := by decide +kernel
theorem d_X_keep_10 : decode prog_1_method_4_code 10 = .ok (.aload_n 2, 1) := by decide +kernel
theorem d_X_keep_11 : decode prog_1_method_4_code 11 = .ok (.invokestatic 103, 3) := by decide +kernel
theorem d_X_digest_0 : decode prog_1_method_5_code 0 = .ok (.aload_n 0, 1) := by decide +kernel
theorem d_X_digest_1 : decode prog_1_method_5_code 1 = .ok (.invokevirtual 66, 3) := by decide +kernel
theorem d_X_digest_4 : decode prog_1_method_5_code 4 = .ok (.aload_n 0, 1) := by decide +kernel
theorem d_X_digest_5 : decode prog_1_method_5_code 5 = .ok (.iload_n 1, 1) := by decide +kernel
theorem d_X_digest_6 : decode prog_1_method_5_code 6 = .ok (.invokevirtual 141, 3) := by decide +kernel
theorem d_X_digest_9 : decode prog_1_method_5_code 9 = .ok (.astore_n 3, 1) := by decide +kernel
theorem d_X_digest_10 : decode prog_1_method_5_code 10 = .ok (.iload_n 2, 1) := by decide +kernel
theorem d_X_digest_11 : decode prog_1_method_5_code 11 = .ok (.ifCond .lt 9, 3) := by decide +kernel
theorem d_X_digest_14 : decode prog_1_method_5_code 14 = .ok (.iload_n 2, 1) := by decide +kernel
theorem d_X_digest_15 : decode prog_1_method_5_code 15 = .ok (.bipush 8, 2) := by decide +kernel
theorem d_X_digest_17 : decode prog_1_method_5_code 17 = .ok (.if_icmp .lt 13, 3) := by decide +kernel
theorem d_X_digest_20 : decode prog_1_method_5_code 20 = .ok (.new 145, 3) := by decide +kernel
theorem d_X_digest_23 : decode prog_1_method_5_code 23 = .ok (.dup, 1) := by decide +kernel
theorem d_X_digest_24 : decode prog_1_method_5_code 24 = .ok (.ldc 147, 2) := by decide +kernel
theorem d_X_digest_26 : decode prog_1_method_5_code 26 = .ok (.invokespecial 149, 3) := by decide +kernel
theorem d_X_digest_29 : decode prog_1_method_5_code 29 = .ok (.athrow, 1) := by decide +kernel
theorem d_X_digest_30 : decode prog_1_method_5_code 30 = .ok (.aload_n 3, 1) := by decide +kernel
theorem d_X_digest_31 : decode prog_1_method_5_code 31 = .ok (.getfield 150, 3) := by decide +kernel
theorem d_X_digest_34 : decode prog_1_method_5_code 34 = .ok (.iload_n 2, 1) := by decide +kernel
theorem d_X_digest_35 : decode prog_1_method_5_code 35 = .ok (.iaload, 1) := by decide +kernel
theorem d_X_digest_36 : decode prog_1_method_5_code 36 = .ok (.ireturn, 1) := by decide +kernel
theorem d_X_print_0 : decode prog_1_method_6_code 0 = .ok (.aload_n 0, 1) := by decide +kernel
theorem d_X_print_1 : decode prog_1_method_6_code 1 = .ok (.invokevirtual 66, 3) := by decide +kernel
theorem d_X_print_4 : decode prog_1_method_6_code 4 = .ok (.aload_n 0, 1) := by decide +kernel
theorem d_X_print_5 : decode prog_1_method_6_code 5 = .ok (.iload_n 1, 1) := by decide +kernel
theorem d_X_print_6 : decode prog_1_method_6_code 6 = .ok (.invokevirtual 141, 3) := by decide +kernel
theorem d_X_print_9 : decode prog_1_method_6_code 9 = .ok (.getfield 153, 3) := by decide +kernel
theorem d_X_print_12 : decode prog_1_method_6_code 12 = .ok (.lreturn, 1) := by decide +kernel
theorem d_X_sample_0 : decode prog_1_method_7_code 0 = .ok (.aload_n 0, 1) := by decide +kernel
theorem d_X_sample_1 : decode prog_1_method_7_code 1 = .ok (.invokevirtual 66, 3) := by decide +kernel
theorem d_X_sample_4 : decode prog_1_method_7_code 4 = .ok (.aload_n 0, 1) := by decide +kernel
theorem d_X_sample_5 : decode prog_1_method_7_code 5 = .ok (.iload_n 1, 1) := by decide +kernel
theorem d_X_sample_6 : decode prog_1_method_7_code 6 = .ok (.invokevirtual 141, 3) := by decide +kernel
theorem d_X_sample_9 : decode prog_1_method_7_code 9 = .ok (.getfield 157, 3) := by decide +kernel
theorem d_X_sample_12 : decode prog_1_method_7_code 12 = .ok (.astore 4, 2) := by decide +kernel
theorem d_X_sample_14 : decode prog_1_method_7_code 14 = .ok (.iload_n 2, 1) := by decide +kernel
theorem d_X_sample_15 : decode prog_1_method_7_code 15 = .ok (.ifCond .lt 25, 3) := by decide +kernel
theorem d_X_sample_18 : decode prog_1_method_7_code 18 = .ok (.iload_n 2, 1) := by decide +kernel
theorem d_X_sample_19 : decode prog_1_method_7_code 19 = .ok (.aload 4, 2) := by decide +kernel
theorem d_X_sample_21 : decode prog_1_method_7_code 21 = .ok (.invokevirtual 161, 3) := by decide +kernel
theorem d_X_sample_24 : decode prog_1_method_7_code 24 = .ok (.if_icmp .ge 16, 3) := by decide +kernel
theorem d_X_sample_27 : decode prog_1_method_7_code 27 = .ok (.iload_n 3, 1) := by decide +kernel
theorem d_X_sample_28 : decode prog_1_method_7_code 28 = .ok (.ifCond .lt 12, 3) := by decide +kernel
theorem d_X_sample_31 : decode prog_1_method_7_code 31 = .ok (.iload_n 3, 1) := by decide +kernel
theorem d_X_sample_32 : decode prog_1_method_7_code 32 = .ok (.aload 4, 2) := by decide +kernel
theorem d_X_sample_34 : decode prog_1_method_7_code 34 = .ok (.invokevirtual 164, 3) := by decide +kernel
theorem d_X_sample_37 : decode prog_1_method_7_code 37 = .ok (.if_icmp .lt 13, 3) := by decide +kernel
theorem d_X_sample_40 : decode prog_1_method_7_code 40 = .ok (.new 145, 3) := by decide +kernel
theorem d_X_sample_43 : decode prog_1_method_7_code 43 = .ok (.dup, 1) := by decide +kernel
theorem d_X_sample_44 : decode prog_1_method_7_code 44 = .ok (.ldc 167, 2) := by decide +kernel
theorem d_X_sample_46 : decode prog_1_method_7_code 46 = .ok (.invokespecial 149, 3) := by decide +kernel
theorem d_X_sample_49 : decode prog_1_method_7_code 49 = .ok (.athrow, 1) := by decide +kernel
theorem d_X_sample_50 : decode prog_1_method_7_code 50 = .ok (.aload 4, 2) := by decide +kernel
theorem d_X_sample_52 : decode prog_1_method_7_code 52 = .ok (.iload_n 2, 1) := by decide +kernel
theorem d_X_sample_53 : decode prog_1_method_7_code 53 = .ok (.iload_n 3, 1) := by decide +kernel
theorem d_X_sample_54 : decode prog_1_method_7_code 54 = .ok (.invokevirtual 169, 3) := by decide +kernel
theorem d_X_sample_57 : decode prog_1_method_7_code 57 = .ok (.ireturn, 1) := by decide +kernel
theorem d_X_near_0 : decode prog_1_method_8_code 0 = .ok (.aload_n 0, 1) := by decide +kernel
theorem d_X_near_1 : decode prog_1_method_8_code 1 = .ok (.invokevirtual 66, 3) := by decide +kernel
theorem d_X_near_4 : decode prog_1_method_8_code 4 = .ok (.aload_n 0, 1) := by decide +kernel
theorem d_X_near_5 : decode prog_1_method_8_code 5 = .ok (.iload_n 1, 1) := by decide +kernel
theorem d_X_near_6 : decode prog_1_method_8_code 6 = .ok (.invokevirtual 93, 3) := by decide +kernel
theorem d_X_near_9 : decode prog_1_method_8_code 9 = .ok (.astore_n 3, 1) := by decide +kernel
theorem d_X_near_10 : decode prog_1_method_8_code 10 = .ok (.aload_n 3, 1) := by decide +kernel
theorem d_X_near_11 : decode prog_1_method_8_code 11 = .ok (.invokestatic 103, 3) := by decide +kernel
theorem d_X_near_14 : decode prog_1_method_8_code 14 = .ok (.iload_n 2, 1) := by decide +kernel
theorem d_X_near_15 : decode prog_1_method_8_code 15 = .ok (.ifCond .lt 9, 3) := by decide +kernel
theorem d_X_near_18 : decode prog_1_method_8_code 18 = .ok (.iload_n 2, 1) := by decide +kernel
theorem d_X_near_19 : decode prog_1_method_8_code 19 = .ok (.bipush 64, 2) := by decide +kernel
theorem d_X_near_21 : decode prog_1_method_8_code 21 = .ok (.if_icmp .le 13, 3) := by decide +kernel
theorem d_X_near_24 : decode prog_1_method_8_code 24 = .ok (.new 73, 3) := by decide +kernel
theorem d_X_near_27 : decode prog_1_method_8_code 27 = .ok (.dup, 1) := by decide +kernel
theorem d_X_near_28 : decode prog_1_method_8_code 28 = .ok (.ldc 172, 2) := by decide +kernel
theorem d_X_near_30 : decode prog_1_method_8_code 30 = .ok (.invokespecial 77, 3) := by decide +kernel
theorem d_X_near_33 : decode prog_1_method_8_code 33 = .ok (.athrow, 1) := by decide +kernel
theorem d_X_near_34 : decode prog_1_method_8_code 34 = .ok (.aload_n 3, 1) := by decide +kernel
theorem d_X_near_35 : decode prog_1_method_8_code 35 = .ok (.invokevirtual 174, 3) := by decide +kernel
theorem d_X_near_38 : decode prog_1_method_8_code 38 = .ok (.lstore 4, 2) := by decide +kernel
theorem d_X_near_40 : decode prog_1_method_8_code 40 = .ok (.aload_n 0, 1) := by decide +kernel
theorem d_X_near_41 : decode prog_1_method_8_code 41 = .ok (.iconst 0, 1) := by decide +kernel
theorem d_X_near_42 : decode prog_1_method_8_code 42 = .ok (.putfield 62, 3) := by decide +kernel
theorem d_X_near_45 : decode prog_1_method_8_code 45 = .ok (.iconst 0, 1) := by decide +kernel
theorem d_X_near_46 : decode prog_1_method_8_code 46 = .ok (.istore 6, 2) := by decide +kernel
theorem d_X_near_48 : decode prog_1_method_8_code 48 = .ok (.iload 6, 2) := by decide +kernel
theorem d_X_near_50 : decode prog_1_method_8_code 50 = .ok (.bipush 16, 2) := by decide +kernel
theorem d_X_near_52 : decode prog_1_method_8_code 52 = .ok (.if_icmp .ge 54, 3) := by decide +kernel
theorem d_X_near_55 : decode prog_1_method_8_code 55 = .ok (.aload_n 0, 1) := by decide +kernel
theorem d_X_near_56 : decode prog_1_method_8_code 56 = .ok (.getfield 40, 3) := by decide +kernel
theorem d_X_near_59 : decode prog_1_method_8_code 59 = .ok (.iload 6, 2) := by decide +kernel
theorem d_X_near_61 : decode prog_1_method_8_code 61 = .ok (.aaload, 1) := by decide +kernel
theorem d_X_near_62 : decode prog_1_method_8_code 62 = .ok (.getfield 178, 3) := by decide +kernel
theorem d_X_near_65 : decode prog_1_method_8_code 65 = .ok (.ifCond .eq 35, 3) := by decide +kernel
theorem d_X_near_68 : decode prog_1_method_8_code 68 = .ok (.lload 4, 2) := by decide +kernel
theorem d_X_near_70 : decode prog_1_method_8_code 70 = .ok (.aload_n 0, 1) := by decide +kernel
theorem d_X_near_71 : decode prog_1_method_8_code 71 = .ok (.getfield 40, 3) := by decide +kernel
theorem d_X_near_74 : decode prog_1_method_8_code 74 = .ok (.iload 6, 2) := by decide +kernel
theorem d_X_near_76 : decode prog_1_method_8_code 76 = .ok (.aaload, 1) := by decide +kernel
theorem d_X_near_77 : decode prog_1_method_8_code 77 = .ok (.getfield 153, 3) := by decide +kernel
theorem d_X_near_80 : decode prog_1_method_8_code 80 = .ok (.lxor, 1) := by decide +kernel
theorem d_X_near_81 : decode prog_1_method_8_code 81 = .ok (.invokestatic 179, 3) := by decide +kernel
theorem d_X_near_84 : decode prog_1_method_8_code 84 = .ok (.istore 7, 2) := by decide +kernel
theorem d_X_near_86 : decode prog_1_method_8_code 86 = .ok (.iload 7, 2) := by decide +kernel
theorem d_X_near_88 : decode prog_1_method_8_code 88 = .ok (.iload_n 2, 1) := by decide +kernel
theorem d_X_near_89 : decode prog_1_method_8_code 89 = .ok (.if_icmp .gt 11, 3) := by decide +kernel
theorem d_X_near_92 : decode prog_1_method_8_code 92 = .ok (.aload_n 0, 1) := by decide +kernel
theorem d_X_near_93 : decode prog_1_method_8_code 93 = .ok (.iload 6, 2) := by decide +kernel
theorem d_X_near_95 : decode prog_1_method_8_code 95 = .ok (.iload 7, 2) := by decide +kernel
theorem d_X_near_97 : decode prog_1_method_8_code 97 = .ok (.invokevirtual 185, 3) := by decide +kernel
theorem d_X_near_100 : decode prog_1_method_8_code 100 = .ok (.iinc 6 1, 3) := by decide +kernel
theorem d_X_near_103 : decode prog_1_method_8_code 103 = .ok (.goto (-55), 3) := by decide +kernel
theorem d_X_near_106 : decode prog_1_method_8_code 106 = .ok (.aload_n 0, 1) := by decide +kernel
theorem d_X_near_107 : decode prog_1_method_8_code 107 = .ok (.getfield 62, 3) := by decide +kernel
theorem d_X_near_110 : decode prog_1_method_8_code 110 = .ok (.ireturn, 1) := by decide +kernel
def f_X_picture_48 (xn : Nat) (a1 : Int32) (a2 : Int32) (a3 : Int32) (z0 : x_St) : Option ((String ⊕ Int32) × x_St) :=
  (x_ck a3 8
  (x_cl (f_P_begin xn (6 + 2 * (a3).toNatClampNeg) a1 a2 z0) (fun r2 z2 =>
  (some (Sum.inr a3, z2)))))
def f_X_picture_30 (xn : Nat) : Nat → Int32 → Int32 → Int32 → x_St → Option ((String ⊕ Int32) × x_St)
  | 0, _, _, _, _ => none
  | fu + 1, a1, a2, a3, z0 =>
    (if (8 : Int32) ≤ a3 then
    (some (Sum.inl "java/lang/UnsupportedOperationException", z0))
    else
    (x_ck a3 8
    (if (z0.1 (6 + 2 * (a3).toNatClampNeg) 0) = 0 then
    (f_X_picture_48 xn a1 a2 a3 z0)
    else
    (f_X_picture_30 xn fu a1 a2 (a3 + (1 : Int32)) z0))))
def f_X_picture (xn : Nat) (p1 : Int32) (p2 : Int32) (z0 : x_St) : Option ((String ⊕ Int32) × x_St) :=
  (x_clx (f_X_refuseWhenCut xn z0) (fun r7 z7 =>
  (x_cl (f_P_isSide xn p1 z7) (fun r9 z9 =>
  (if r9 = 0 then
  (some (Sum.inl "java/lang/IllegalArgumentException", z9))
  else
  (x_cl (f_P_isSide xn p2 z9) (fun r12 z12 =>
  (if r12 = 0 then
  (some (Sum.inl "java/lang/IllegalArgumentException", z12))
  else
  (f_X_picture_30 xn x_FU p1 p2 (0 : Int32) z12)))))))))
def f_X_samples (xn : Nat) (p1 : Int32) (p2 : Int32) (p3 : Int32) (p4 : Int32) (z0 : x_St) : Option ((String ⊕ Int32) × x_St) :=
  (x_clx (f_X_refuseWhenCut xn z0) (fun r1 z1 =>
  (x_clx (f_X_pictureBeingMade xn p1 z1) (fun r3 z3 =>
  (if (1 : Int32) ≤ p2 then
  (x_cl (f_P_take xn r3 p2 p3 p4 z3) (fun r6 z6 =>
  (some (Sum.inr r6, z6))))
  else
  (some (Sum.inl "java/lang/IllegalArgumentException", z3)))))))
def f_X_keep (xn : Nat) (p1 : Int32) (z0 : x_St) : Option ((String ⊕ Int32) × x_St) :=
  (x_clx (f_X_refuseWhenCut xn z0) (fun r1 z1 =>
  (x_clx (f_X_pictureBeingMade xn p1 z1) (fun r3 z3 =>
  (x_clx (f_X_refuseUnlessWhole xn r3 z3) (fun r5 z5 =>
  none))))))
def f_X_digest (xn : Nat) (p1 : Int32) (p2 : Int32) (z0 : x_St) : Option ((String ⊕ Int32) × x_St) :=
  (x_clx (f_X_refuseWhenCut xn z0) (fun r1 z1 =>
  (x_clx (f_X_keptAt xn p1 z1) (fun r3 z3 =>
  (if p2 < 0 then
  (some (Sum.inl "java/lang/IndexOutOfBoundsException", z3))
  else
  (if p2 < (8 : Int32) then
  (x_ck p2 (x_ln xn (r3 + 3))
  (some (Sum.inr (z3.1 (r3 + 3) (p2).toNatClampNeg), z3)))
  else
  (some (Sum.inl "java/lang/IndexOutOfBoundsException", z3))))))))
def f_X_print (xn : Nat) (p1 : Int32) (z0 : x_St) : Option ((String ⊕ Int64) × x_St) :=
  (x_clx (f_X_refuseWhenCut xn z0) (fun r1 z1 =>
  (x_clx (f_X_keptAt xn p1 z1) (fun r3 z3 =>
  (some (Sum.inr (z3.2 r3 3), z3))))))
def f_X_sample (xn : Nat) (p1 : Int32) (p2 : Int32) (p3 : Int32) (z0 : x_St) : Option ((String ⊕ Int32) × x_St) :=
  (x_clx (f_X_refuseWhenCut xn z0) (fun r1 z1 =>
  (x_clx (f_X_keptAt xn p1 z1) (fun r3 z3 =>
  (if p2 < 0 then
  (some (Sum.inl "java/lang/IndexOutOfBoundsException", z3))
  else
  (x_cl (f_P_width xn (r3 + 1) z3) (fun r6 z6 =>
  (if r6 ≤ p2 then
  (some (Sum.inl "java/lang/IndexOutOfBoundsException", z6))
  else
  (if p3 < 0 then
  (some (Sum.inl "java/lang/IndexOutOfBoundsException", z6))
  else
  (x_cl (f_P_height xn (r3 + 1) z6) (fun r10 z10 =>
  (if p3 < r10 then
  (x_cl (f_P_at xn (r3 + 1) p2 p3 z10) (fun r13 z13 =>
  (some (Sum.inr r13, z13))))
  else
  (some (Sum.inl "java/lang/IndexOutOfBoundsException", z10))))))))))))))
def f_X_near_106 (xn : Nat)  (z0 : x_St) : Option ((String ⊕ Int32) × x_St) :=
  (some (Sum.inr (z0.1 0 8), z0))
def f_X_near_48 (xn : Nat) : Nat → Int32 → Int64 → Int32 → x_St → Option ((String ⊕ Int32) × x_St)
  | 0, _, _, _, _ => none
  | fu + 1, a2, a4, a6, z0 =>
    (if (16 : Int32) ≤ a6 then
    (f_X_near_106 xn z0)
    else
    (x_ck a6 16
    (if (z0.1 (23 + 5 * (a6).toNatClampNeg) 0) = 0 then
    (f_X_near_48 xn fu a2 a4 (a6 + (1 : Int32)) z0)
    else
    (x_ck a6 16
    (x_cl (f_Long_bitCount xn (a4 ^^^ (z0.2 (23 + 5 * (a6).toNatClampNeg) 3)) z0) (fun r5 z5 =>
    (if a2 < r5 then
    (f_X_near_48 xn fu a2 a4 (a6 + (1 : Int32)) z5)
    else
    (x_cl (f_X_enterFound xn a6 r5 z5) (fun r8 z8 =>
    (f_X_near_48 xn fu a2 a4 (a6 + (1 : Int32)) z8))))))))))
def f_X_near (xn : Nat) (p1 : Int32) (p2 : Int32) (z0 : x_St) : Option ((String ⊕ Int32) × x_St) :=
  (x_clx (f_X_refuseWhenCut xn z0) (fun r10 z10 =>
  (x_clx (f_X_pictureBeingMade xn p1 z10) (fun r12 z12 =>
  (x_clx (f_X_refuseUnlessWhole xn r12 z12) (fun r14 z14 =>
  (if p2 < 0 then
  (some (Sum.inl "java/lang/IllegalArgumentException", z14))
  else
  (if p2 ≤ (64 : Int32) then
  (x_cl (f_P_printBits xn r12 z14) (fun r18 z18 =>
  (f_X_near_48 xn x_FU p2 r18 (0 : Int32) (x_put z18 0 8 (0 : Int32)))))
  else
  (some (Sum.inl "java/lang/IllegalArgumentException", z14))))))))))
abbrev rm_X_picture : Room := { frames := 7, cells := 0, slots := 0, locals := 102 }
abbrev rx_X_picture : Room := { frames := 7, cells := 1, slots := 6, locals := 102 }
set_option maxHeartbeats 4000000 in
set_option maxRecDepth 100000 in
theorem w_X_picture_48 (l : Launch) (G : x_G) {p : Program} {e : Env} {s : State} {m : MethodId} {args : Array Value} {below : List Frame} {meth : Method} {c : Code} (C0 : x_Ctx G p s m args meth c prog_1_method_2_code "ContentLibrary" 4 (some .int)) (r : Int32) (zo : x_St) : ∀ (a1 : Int32) (a2 : Int32) (a3 : Int32) (z0 : x_St), f_X_picture_48 (x_n G) a1 a2 a3 z0 = some (Sum.inr r, zo) → ∀ (H : Heap) (locs : List Loc) (ls : Array Slot), va_P (x_D G) vwCl (x_Wd G z0) H → va_D (x_A G) (x_Wd G z0) → va_S (x_A G) s.heap H locs → lv_has ls 4 [(0, .ref (x_ad G 0)), (1, .int a1), (2, .int a2), (3, .int a3)] → W p l e rm_X_picture s m args below meth c H locs 0 0 (MQ below (va_Qi (fun a u => r = a ∧ zo = u) (x_PW G) (x_A G)) args s 0 0 (x_A G)) (F0 m 48 ls []) := by
  obtain ⟨hx, hb, hr, hml, hown, hts, hlocks, hz, hK, hG⟩ := id C0
  intro a1 a2 a3 z0 hf H locs ls hP hD hS hl
  rw [f_X_picture_48] at hf
  refine lv_aload_n hx hb d_X_picture_48 rfl (lv_at hl 0 rfl) ?_
  refine va_get (D := x_D G) (ci := 0) (v := .ref (x_ad G 5)) (C := "ContentLibrary") (T := x_TX) (N := 9) hx hb hts x_inX hown hK hP 0 (x_lk_X G _) rfl 2 (by decide) (hts _ t_132) (fun _ h9 => h9) rfl d_X_picture_49 ?_
  refine lv_iload_n hx hb d_X_picture_52 rfl (lv_at hl 3 rfl) ?_
  obtain ⟨hin1, hf⟩ := x_ck_some hf
  refine va_aldq hx hb hK hP 5 2 (x_lk_made G _) rfl hin1 d_X_picture_53 ?_
  refine W.eq (g2 := F0 m 54 ls [.ref (x_ad G (6 + 2 * (a3).toNatClampNeg))]) rfl ?_
  refine lv_iload_n hx hb d_X_picture_54 rfl (lv_at hl 1 rfl) ?_
  refine lv_iload_n hx hb d_X_picture_55 rfl (lv_at hl 2 rfl) ?_
  obtain ⟨r2, z2, hq3, hf⟩ := x_cl_some hf
  refine va_callv (va_runV (As := [.int a1, .int a2]) (rest := []) ⟨hx, hb, hml, hown, hts⟩ (c_P_begin l G (6 + 2 * (a3).toNatClampNeg) (x_el_P hin1) a1 a2 z0 r2 z2 hq3) (cwV 2 hts (x_gV t_425 t_426 t_427 t_4 t_428) rfl rfl rfl (by decide +kernel) ⟨Nat.le_of_ble_eq_true rfl, Nat.le_of_ble_eq_true rfl⟩) ⟨x_blind _ _ _, va_recv hK hP (ci := 2) (q0 := (6 + 2 * (a3).toNatClampNeg)) rfl (x_lk_P G _ (x_el_P hin1)), fun U hU hW => ⟨rfl, x_pw hP hD hK hG hS hz hU hW⟩⟩ rfl rfl hl.1 rfl (lv_room (Nat.le_of_ble_eq_true rfl)) d_X_picture_56 ⟨Nat.le_of_ble_eq_true rfl, Nat.le_of_ble_eq_true rfl⟩) hS (fun q _ h => h) (fun q h => h) (fun u t H locs ht hvm hw hB _ _ hS => ?_)
  obtain ⟨rfl, rfl⟩ := hw
  obtain ⟨hP, hD⟩ := x_back hB ht
  refine lv_iload_n hx hb d_X_picture_59 rfl (lv_at hl 3 rfl) ?_
  obtain ⟨rfl, rfl⟩ := x_retr hf
  exact W.iret (v := a3) hx hb hr (fun t ht hW => ⟨⟨_, _, rfl, ⟨rfl, rfl⟩, x_pw hP hD hK hG hS hz ht hW⟩, hS.F ht⟩) hS.2.2 d_X_picture_60
set_option maxHeartbeats 4000000 in
set_option maxRecDepth 100000 in
theorem w_X_picture_30 (l : Launch) (G : x_G) {p : Program} {e : Env} {s : State} {m : MethodId} {args : Array Value} {below : List Frame} {meth : Method} {c : Code} (C0 : x_Ctx G p s m args meth c prog_1_method_2_code "ContentLibrary" 4 (some .int)) (r : Int32) (zo : x_St) : ∀ (fu : Nat), ∀ (a1 : Int32) (a2 : Int32) (a3 : Int32) (z0 : x_St), f_X_picture_30 (x_n G) fu a1 a2 a3 z0 = some (Sum.inr r, zo) → ∀ (H : Heap) (locs : List Loc) (ls : Array Slot), va_P (x_D G) vwCl (x_Wd G z0) H → va_D (x_A G) (x_Wd G z0) → va_S (x_A G) s.heap H locs → lv_has ls 4 [(0, .ref (x_ad G 0)), (1, .int a1), (2, .int a2), (3, .int a3)] → W p l e rm_X_picture s m args below meth c H locs 0 0 (MQ below (va_Qi (fun a u => r = a ∧ zo = u) (x_PW G) (x_A G)) args s 0 0 (x_A G)) (F0 m 30 ls []) := by
  obtain ⟨hx, hb, hr, hml, hown, hts, hlocks, hz, hK, hG⟩ := id C0
  intro fu
  induction fu with
  | zero =>
    intro a1 a2 a3 z0 hf
    rw [f_X_picture_30] at hf
    cases hf
  | succ fu ih =>
    intro a1 a2 a3 z0 hf H locs ls hP hD hS hl
    rw [f_X_picture_30] at hf
    refine lv_iload_n hx hb d_X_picture_30 rfl (lv_at hl 3 rfl) ?_
    refine lv_bipush (v := (8 : Int32)) hx hb d_X_picture_31 (by decide) ?_
    refine lv_icmp_ge (tgt := 67) hx hb d_X_picture_33 (by decide) (fun hc4 => ?_) (fun hc4 => ?_)
    · have hf := x_br_t hf hc4
      exact absurd hf x_no_r
    · have hf := x_br_f hf hc4
      refine lv_aload_n hx hb d_X_picture_36 rfl (lv_at hl 0 rfl) ?_
      refine va_get (D := x_D G) (ci := 0) (v := .ref (x_ad G 5)) (C := "ContentLibrary") (T := x_TX) (N := 9) hx hb hts x_inX hown hK hP 0 (x_lk_X G _) rfl 2 (by decide) (hts _ t_132) (fun _ h9 => h9) rfl d_X_picture_37 ?_
      refine lv_iload_n hx hb d_X_picture_40 rfl (lv_at hl 3 rfl) ?_
      obtain ⟨hin5, hf⟩ := x_ck_some hf
      refine va_aldq hx hb hK hP 5 2 (x_lk_made G _) rfl hin5 d_X_picture_41 ?_
      refine W.eq (g2 := F0 m 42 ls [.ref (x_ad G (6 + 2 * (a3).toNatClampNeg))]) rfl ?_
      refine va_get (D := x_D G) (ci := 2) (v := .int (z0.1 (6 + 2 * (a3).toNatClampNeg) 0)) (C := "ContentLibrary$Picture") (T := x_TP) (N := 3) hx hb hts x_inP hown hK hP (6 + 2 * (a3).toNatClampNeg) (x_lk_P G _ (x_el_P hin5)) rfl 0 (by decide) (hts _ t_67) (fun _ h9 => h9) rfl d_X_picture_42 ?_
      refine lv_if_ne (tgt := 61) hx hb d_X_picture_45 (by decide) (fun hc6 => ?_) (fun hc6 => ?_)
      · have hf := x_br_f hf hc6
        refine lv_iinc (v := (a3 + (1 : Int32))) (lv' := [(3, .int (a3 + (1 : Int32))), (0, .ref (x_ad G 0)), (1, .int a1), (2, .int a2)]) hx hb d_X_picture_61 hl (k := 3) rfl rfl (by decide) rfl (fun ls hl => ?_)
        refine lv_goto (tgt := 30) hx hb d_X_picture_64 (by decide) ?_
        exact ih a1 a2 (a3 + (1 : Int32)) z0 hf _ _ _ hP hD hS (lv_sub hl [1, 2, 3, 0] rfl)
      · have hf := x_br_t hf hc6
        exact w_X_picture_48 l G C0 r zo a1 a2 a3 z0 hf _ _ _ hP hD hS (lv_sub hl [0, 1, 2, 3] rfl)
set_option maxHeartbeats 4000000 in
set_option maxRecDepth 100000 in
theorem c_X_picture (l : Launch) (G : x_G) (p1 : Int32) (p2 : Int32) (z0 : x_St) (r : Int32) (zo : x_St) (hf : f_X_picture (x_n G) p1 p2 z0 = some (Sum.inr r, zo)) : Met l (⟨"ContentLibrary", "picture", "(II)I"⟩ : MethodName) (x_ws (⟨"ContentLibrary", "picture", "(II)I"⟩ : MethodName) prog_1_method_2_code 4 (some .int)) rm_X_picture (va_Pc [.ref (x_ad G 0), .int p1, .int p2] (x_PW G z0)) (va_Qi (fun a u => r = a ∧ zo = u) (x_PW G) (x_A G)) 0 0 (x_A G) := by
  refine Met.ofW (cc := prog_1_method_2_code) (maxL := 4) (ret := (some .int)) (by decide) rfl ?_
  intro p e s m args below meth c s₁ B hml hv
  obtain ⟨rfl, hz, hP, hD, hK, hG⟩ := hv
  have C0 : x_Ctx G p s m _ meth c prog_1_method_2_code "ContentLibrary" 4 (some .int) := ⟨B.exec, B.bytes, B.returns, hml, findClass_of_methodNamed B.named, fun w h => atoms_spec (ws := (x_ws (⟨"ContentLibrary", "picture", "(II)I"⟩ : MethodName) prog_1_method_2_code 4 (some .int))) B.pre w (List.mem_cons_of_mem _ h), B.notSynchronized, hz, hK, hG⟩
  obtain ⟨hx, hb, hr, hml, hown, hts, hlocks, hz, hK, hG⟩ := id C0
  have hS : va_S (x_A G) s.heap s.heap [] := va_S.rf
  have hl := lv_entry ([.ref (x_ad G 0), .int p1, .int p2]) (n := 4) (Nat.le_of_ble_eq_true rfl)
  rw [lg_entry_eq]
  generalize (lg_sl ([.ref (x_ad G 0), .int p1, .int p2]) ++ List.replicate (4 - (lg_sl ([.ref (x_ad G 0), .int p1, .int p2])).length) Slot.unset).toArray = ls at hl ⊢
  have hl : lv_has ls 4 [(0, .ref (x_ad G 0)), (1, .int p1), (2, .int p2)] := hl
  rw [f_X_picture] at hf
  refine lv_aload_n hx hb d_X_picture_0 rfl (lv_at hl 0 rfl) ?_
  obtain ⟨r7, z7, hq8, hf⟩ := x_clx_r hf
  refine va_callv (va_runV (As := []) (rest := []) ⟨hx, hb, hml, hown, hts⟩ (c_X_refuseWhenCut l G z0 r7 z7 hq8) (cwV 0 hts (x_gV t_335 t_337 sel_ContentLibrary_refuseWhenCut t_1 t_338) rfl rfl rfl (by decide +kernel) ⟨Nat.le_of_ble_eq_true rfl, Nat.le_of_ble_eq_true rfl⟩) ⟨x_blind _ _ _, va_recv hK hP (ci := 0) (q0 := 0) rfl (x_lk_X G _), fun U hU hW => ⟨rfl, x_pw hP hD hK hG hS hz hU hW⟩⟩ rfl rfl hl.1 rfl (lv_room (Nat.le_of_ble_eq_true rfl)) d_X_picture_1 ⟨Nat.le_of_ble_eq_true rfl, Nat.le_of_ble_eq_true rfl⟩) hS (fun q _ h => h) (fun q h => h) (fun u t H locs ht hvm hw hB _ _ hS => ?_)
  obtain ⟨rfl, rfl⟩ := hw
  obtain ⟨hP, hD⟩ := x_back hB ht
  refine lv_iload_n hx hb d_X_picture_4 rfl (lv_at hl 1 rfl) ?_
  obtain ⟨r9, z9, hq10, hf⟩ := x_cl_some hf
  refine va_calli (va_runS (As := [.int p1]) (rest := []) ⟨hx, hb, hml, hown, hts⟩ (c_P_isSide l G p1 z7 r9 z9 hq10) (va_cwS 1 hts (x_gS t_408 t_224 t_4 t_225) rfl rfl rfl (by decide +kernel) ⟨Nat.le_of_ble_eq_true rfl, Nat.le_of_ble_eq_true rfl⟩) ⟨x_blind _ _ _, fun U hU hW => ⟨rfl, x_pw hP hD hK hG hS hz hU hW⟩⟩ rfl rfl hl.1 rfl (lv_room (Nat.le_of_ble_eq_true rfl)) d_X_picture_5 ⟨Nat.le_of_ble_eq_true rfl, Nat.le_of_ble_eq_true rfl⟩) hS (fun q _ h => h) (fun q h => h) (fun ra u t H locs ht hvm hw hB _ _ hS => ?_)
  obtain ⟨rfl, rfl⟩ := hw
  obtain ⟨hP, hD⟩ := x_back hB ht
  refine lv_if_eq (tgt := 18) hx hb d_X_picture_8 (by decide) (fun hc11 => ?_) (fun hc11 => ?_)
  · have hf := x_br_t hf hc11
    exact absurd hf x_no_r
  · have hf := x_br_f hf hc11
    refine lv_iload_n hx hb d_X_picture_11 rfl (lv_at hl 2 rfl) ?_
    obtain ⟨r12, z12, hq13, hf⟩ := x_cl_some hf
    refine va_calli (va_runS (As := [.int p2]) (rest := []) ⟨hx, hb, hml, hown, hts⟩ (c_P_isSide l G p2 z9 r12 z12 hq13) (va_cwS 1 hts (x_gS t_408 t_224 t_4 t_225) rfl rfl rfl (by decide +kernel) ⟨Nat.le_of_ble_eq_true rfl, Nat.le_of_ble_eq_true rfl⟩) ⟨x_blind _ _ _, fun U hU hW => ⟨rfl, x_pw hP hD hK hG hS hz hU hW⟩⟩ rfl rfl hl.1 rfl (lv_room (Nat.le_of_ble_eq_true rfl)) d_X_picture_12 ⟨Nat.le_of_ble_eq_true rfl, Nat.le_of_ble_eq_true rfl⟩) hS (fun q _ h => h) (fun q h => h) (fun ra u t H locs ht hvm hw hB _ _ hS => ?_)
    obtain ⟨rfl, rfl⟩ := hw
    obtain ⟨hP, hD⟩ := x_back hB ht
    refine lv_if_ne (tgt := 28) hx hb d_X_picture_15 (by decide) (fun hc14 => ?_) (fun hc14 => ?_)
    · have hf := x_br_f hf hc14
      refine lv_iconst (v := (0 : Int32)) hx hb d_X_picture_28 (by decide) ?_
      refine lv_istore_n (lv' := [(3, .int (0 : Int32)), (0, .ref (x_ad G 0)), (1, .int p1), (2, .int p2)]) hx hb d_X_picture_29 rfl hl (by decide) rfl (fun ls hl => ?_)
      exact w_X_picture_30 l G C0 r zo x_FU p1 p2 (0 : Int32) z12 hf _ _ _ hP hD hS (lv_sub hl [1, 2, 3, 0] rfl)
    · have hf := x_br_t hf hc14
      exact absurd hf x_no_r
set_option maxHeartbeats 4000000 in
set_option maxRecDepth 100000 in
theorem w_X_picture_48_x (l : Launch) (G : x_G) {p : Program} {e : Env} {s : State} {m : MethodId} {args : Array Value} {below : List Frame} {meth : Method} {c : Code} (C0 : x_Ctx G p s m args meth c prog_1_method_2_code "ContentLibrary" 4 (some .int)) (hl9 : l.stackTraces = false) (hEx : ∀ x ∈ c.exceptionTable.toList, False) (E : String) (zo : x_St) : ∀ (a1 : Int32) (a2 : Int32) (a3 : Int32) (z0 : x_St), f_X_picture_48 (x_n G) a1 a2 a3 z0 = some (Sum.inl E, zo) → ∀ (H : Heap) (locs : List Loc) (ls : Array Slot), va_P (x_D G) vwCl (x_Wd G z0) H → va_D (x_A G) (x_Wd G z0) → va_S (x_A G) s.heap H locs → lv_has ls 4 [(0, .ref (x_ad G 0)), (1, .int a1), (2, .int a2), (3, .int a3)] → W p l e rx_X_picture s m args below meth c H locs 0 0 (e_MQ below G E zo s 1 6) (F0 m 48 ls []) := by
  obtain ⟨hx, hb, hr, hml, hown, hts, hlocks, hz, hK, hG⟩ := id C0
  intro a1 a2 a3 z0 hf H locs ls hP hD hS hl
  rw [f_X_picture_48] at hf
  refine lv_aload_n hx hb d_X_picture_48 rfl (lv_at hl 0 rfl) ?_
  refine va_get (D := x_D G) (ci := 0) (v := .ref (x_ad G 5)) (C := "ContentLibrary") (T := x_TX) (N := 9) hx hb hts x_inX hown hK hP 0 (x_lk_X G _) rfl 2 (by decide) (hts _ t_132) (fun _ h9 => h9) rfl d_X_picture_49 ?_
  refine lv_iload_n hx hb d_X_picture_52 rfl (lv_at hl 3 rfl) ?_
  obtain ⟨hin1, hf⟩ := x_ck_some hf
  refine va_aldq hx hb hK hP 5 2 (x_lk_made G _) rfl hin1 d_X_picture_53 ?_
  refine W.eq (g2 := F0 m 54 ls [.ref (x_ad G (6 + 2 * (a3).toNatClampNeg))]) rfl ?_
  refine lv_iload_n hx hb d_X_picture_54 rfl (lv_at hl 1 rfl) ?_
  refine lv_iload_n hx hb d_X_picture_55 rfl (lv_at hl 2 rfl) ?_
  obtain ⟨r2, z2, hq3, hf⟩ := x_cl_some hf
  refine va_callv (va_runV (As := [.int a1, .int a2]) (rest := []) ⟨hx, hb, hml, hown, hts⟩ (c_P_begin l G (6 + 2 * (a3).toNatClampNeg) (x_el_P hin1) a1 a2 z0 r2 z2 hq3) (cwV 2 hts (x_gV t_425 t_426 t_427 t_4 t_428) rfl rfl rfl (by decide +kernel) ⟨Nat.le_of_ble_eq_true rfl, Nat.le_of_ble_eq_true rfl⟩) ⟨x_blind _ _ _, va_recv hK hP (ci := 2) (q0 := (6 + 2 * (a3).toNatClampNeg)) rfl (x_lk_P G _ (x_el_P hin1)), fun U hU hW => ⟨rfl, x_pw hP hD hK hG hS hz hU hW⟩⟩ rfl rfl hl.1 rfl (lv_room (Nat.le_of_ble_eq_true rfl)) d_X_picture_56 ⟨Nat.le_of_ble_eq_true rfl, Nat.le_of_ble_eq_true rfl⟩) hS (fun q _ h => h) (fun q h => h) (fun u t H locs ht hvm hw hB _ _ hS => ?_)
  obtain ⟨rfl, rfl⟩ := hw
  obtain ⟨hP, hD⟩ := x_back hB ht
  refine lv_iload_n hx hb d_X_picture_59 rfl (lv_at hl 3 rfl) ?_
  exact absurd hf x_no_x
set_option maxHeartbeats 4000000 in
set_option maxRecDepth 100000 in
theorem w_X_picture_30_x (l : Launch) (G : x_G) {p : Program} {e : Env} {s : State} {m : MethodId} {args : Array Value} {below : List Frame} {meth : Method} {c : Code} (C0 : x_Ctx G p s m args meth c prog_1_method_2_code "ContentLibrary" 4 (some .int)) (hl9 : l.stackTraces = false) (hEx : ∀ x ∈ c.exceptionTable.toList, False) (E : String) (zo : x_St) : ∀ (fu : Nat), ∀ (a1 : Int32) (a2 : Int32) (a3 : Int32) (z0 : x_St), f_X_picture_30 (x_n G) fu a1 a2 a3 z0 = some (Sum.inl E, zo) → ∀ (H : Heap) (locs : List Loc) (ls : Array Slot), va_P (x_D G) vwCl (x_Wd G z0) H → va_D (x_A G) (x_Wd G z0) → va_S (x_A G) s.heap H locs → lv_has ls 4 [(0, .ref (x_ad G 0)), (1, .int a1), (2, .int a2), (3, .int a3)] → W p l e rx_X_picture s m args below meth c H locs 0 0 (e_MQ below G E zo s 1 6) (F0 m 30 ls []) := by
  obtain ⟨hx, hb, hr, hml, hown, hts, hlocks, hz, hK, hG⟩ := id C0
  intro fu
  induction fu with
  | zero =>
    intro a1 a2 a3 z0 hf
    rw [f_X_picture_30] at hf
    cases hf
  | succ fu ih =>
    intro a1 a2 a3 z0 hf H locs ls hP hD hS hl
    rw [f_X_picture_30] at hf
    refine lv_iload_n hx hb d_X_picture_30 rfl (lv_at hl 3 rfl) ?_
    refine lv_bipush (v := (8 : Int32)) hx hb d_X_picture_31 (by decide) ?_
    refine lv_icmp_ge (tgt := 67) hx hb d_X_picture_33 (by decide) (fun hc4 => ?_) (fun hc4 => ?_)
    · have hf := x_br_t hf hc4
      obtain ⟨rfl, rfl⟩ := x_retx hf
      exact e_throw (text := "eight pictures are being made") (is := 90) hx hb hl9 hown (by decide +kernel) (by decide) (by decide +kernel) hts t_429 t_13 at_92_UnsupportedOperationException hG hS (hl.1.trans hml.symm) d_X_picture_67 d_X_picture_70 d_X_picture_71 d_X_picture_73 d_X_picture_76 hEx (Nat.le_of_ble_eq_true rfl) (Nat.le_of_ble_eq_true rfl) (Nat.le_of_ble_eq_true rfl) (Nat.le_of_ble_eq_true rfl) hlocks (fun t hW hsz hk => x_pwk hP hD hK hG hS hz hsz hk hW) (Nat.le_of_ble_eq_true rfl) (Nat.le_of_ble_eq_true rfl)
    · have hf := x_br_f hf hc4
      refine lv_aload_n hx hb d_X_picture_36 rfl (lv_at hl 0 rfl) ?_
      refine va_get (D := x_D G) (ci := 0) (v := .ref (x_ad G 5)) (C := "ContentLibrary") (T := x_TX) (N := 9) hx hb hts x_inX hown hK hP 0 (x_lk_X G _) rfl 2 (by decide) (hts _ t_132) (fun _ h9 => h9) rfl d_X_picture_37 ?_
      refine lv_iload_n hx hb d_X_picture_40 rfl (lv_at hl 3 rfl) ?_
      obtain ⟨hin5, hf⟩ := x_ck_some hf
      refine va_aldq hx hb hK hP 5 2 (x_lk_made G _) rfl hin5 d_X_picture_41 ?_
      refine W.eq (g2 := F0 m 42 ls [.ref (x_ad G (6 + 2 * (a3).toNatClampNeg))]) rfl ?_
      refine va_get (D := x_D G) (ci := 2) (v := .int (z0.1 (6 + 2 * (a3).toNatClampNeg) 0)) (C := "ContentLibrary$Picture") (T := x_TP) (N := 3) hx hb hts x_inP hown hK hP (6 + 2 * (a3).toNatClampNeg) (x_lk_P G _ (x_el_P hin5)) rfl 0 (by decide) (hts _ t_67) (fun _ h9 => h9) rfl d_X_picture_42 ?_
      refine lv_if_ne (tgt := 61) hx hb d_X_picture_45 (by decide) (fun hc6 => ?_) (fun hc6 => ?_)
      · have hf := x_br_f hf hc6
        refine lv_iinc (v := (a3 + (1 : Int32))) (lv' := [(3, .int (a3 + (1 : Int32))), (0, .ref (x_ad G 0)), (1, .int a1), (2, .int a2)]) hx hb d_X_picture_61 hl (k := 3) rfl rfl (by decide) rfl (fun ls hl => ?_)
        refine lv_goto (tgt := 30) hx hb d_X_picture_64 (by decide) ?_
        exact ih a1 a2 (a3 + (1 : Int32)) z0 hf _ _ _ hP hD hS (lv_sub hl [1, 2, 3, 0] rfl)
      · have hf := x_br_t hf hc6
        exact w_X_picture_48_x l G C0 hl9 hEx E zo a1 a2 a3 z0 hf _ _ _ hP hD hS (lv_sub hl [0, 1, 2, 3] rfl)
set_option maxHeartbeats 4000000 in
set_option maxRecDepth 100000 in
theorem c_X_picture_x (l : Launch) (G : x_G) (hl9 : l.stackTraces = false) (p1 : Int32) (p2 : Int32) (z0 : x_St) (E : String) (zo : x_St) (hf : f_X_picture (x_n G) p1 p2 z0 = some (Sum.inl E, zo)) : e_Met l G (⟨"ContentLibrary", "picture", "(II)I"⟩ : MethodName) (x_ws (⟨"ContentLibrary", "picture", "(II)I"⟩ : MethodName) prog_1_method_2_code 4 (some .int)) rx_X_picture (va_Pc [.ref (x_ad G 0), .int p1, .int p2] (x_PW G z0)) E zo 1 6 := by
  refine e_ofW (cc := prog_1_method_2_code) (maxL := 4) (ret := (some .int)) (by decide) rfl ?_
  intro p e s m args below meth c s₁ B hml hEx hv
  obtain ⟨rfl, hz, hP, hD, hK, hG⟩ := hv
  have C0 : x_Ctx G p s m _ meth c prog_1_method_2_code "ContentLibrary" 4 (some .int) := ⟨B.exec, B.bytes, B.returns, hml, findClass_of_methodNamed B.named, fun w h => atoms_spec (ws := (x_ws (⟨"ContentLibrary", "picture", "(II)I"⟩ : MethodName) prog_1_method_2_code 4 (some .int))) B.pre w (List.mem_cons_of_mem _ h), B.notSynchronized, hz, hK, hG⟩
  obtain ⟨hx, hb, hr, hml, hown, hts, hlocks, hz, hK, hG⟩ := id C0
  have hS : va_S (x_A G) s.heap s.heap [] := va_S.rf
  have hl := lv_entry ([.ref (x_ad G 0), .int p1, .int p2]) (n := 4) (Nat.le_of_ble_eq_true rfl)
  rw [lg_entry_eq]
  generalize (lg_sl ([.ref (x_ad G 0), .int p1, .int p2]) ++ List.replicate (4 - (lg_sl ([.ref (x_ad G 0), .int p1, .int p2])).length) Slot.unset).toArray = ls at hl ⊢
  have hl : lv_has ls 4 [(0, .ref (x_ad G 0)), (1, .int p1), (2, .int p2)] := hl
  rw [f_X_picture] at hf
  refine lv_aload_n hx hb d_X_picture_0 rfl (lv_at hl 0 rfl) ?_
  rcases x_clx_x hf with hq8 | ⟨r7, z7, hq8, hf⟩
  · exact e_callV (As := []) (rest := []) ⟨hx, hb, hml, hown, hts⟩ (c_X_refuseWhenCut_x l G hl9 z0 E zo hq8) (cwV 0 hts (x_gV t_335 t_337 sel_ContentLibrary_refuseWhenCut t_1 t_338) rfl rfl rfl (by decide +kernel) ⟨Nat.le_of_ble_eq_true rfl, Nat.le_of_ble_eq_true rfl⟩) ⟨x_blind _ _ _, va_recv hK hP (ci := 0) (q0 := 0) rfl (x_lk_X G _), fun U hU hW => ⟨rfl, x_pw hP hD hK hG hS hz hU hW⟩⟩ rfl hl.1 rfl (lv_room (Nat.le_of_ble_eq_true rfl)) d_X_picture_1 ⟨Nat.le_of_ble_eq_true rfl, Nat.le_of_ble_eq_true rfl⟩ hz hS (fun q ce H locs hP hD hS hce hcv hcl => e_out (fun x hx => (hEx x hx).elim) hlocks hce hcv hcl hS (fun t ht hW => x_pw hP hD hK hG hS hz ht hW) (Nat.le_of_ble_eq_true rfl) (Nat.le_of_ble_eq_true rfl))
  refine va_callv (va_runV (As := []) (rest := []) ⟨hx, hb, hml, hown, hts⟩ (c_X_refuseWhenCut l G z0 r7 z7 hq8) (cwV 0 hts (x_gV t_335 t_337 sel_ContentLibrary_refuseWhenCut t_1 t_338) rfl rfl rfl (by decide +kernel) ⟨Nat.le_of_ble_eq_true rfl, Nat.le_of_ble_eq_true rfl⟩) ⟨x_blind _ _ _, va_recv hK hP (ci := 0) (q0 := 0) rfl (x_lk_X G _), fun U hU hW => ⟨rfl, x_pw hP hD hK hG hS hz hU hW⟩⟩ rfl rfl hl.1 rfl (lv_room (Nat.le_of_ble_eq_true rfl)) d_X_picture_1 ⟨Nat.le_of_ble_eq_true rfl, Nat.le_of_ble_eq_true rfl⟩) hS (fun q _ h => h) (fun q h => h) (fun u t H locs ht hvm hw hB _ _ hS => ?_)
  obtain ⟨rfl, rfl⟩ := hw
  obtain ⟨hP, hD⟩ := x_back hB ht
  refine lv_iload_n hx hb d_X_picture_4 rfl (lv_at hl 1 rfl) ?_
  obtain ⟨r9, z9, hq10, hf⟩ := x_cl_some hf
  refine va_calli (va_runS (As := [.int p1]) (rest := []) ⟨hx, hb, hml, hown, hts⟩ (c_P_isSide l G p1 z7 r9 z9 hq10) (va_cwS 1 hts (x_gS t_408 t_224 t_4 t_225) rfl rfl rfl (by decide +kernel) ⟨Nat.le_of_ble_eq_true rfl, Nat.le_of_ble_eq_true rfl⟩) ⟨x_blind _ _ _, fun U hU hW => ⟨rfl, x_pw hP hD hK hG hS hz hU hW⟩⟩ rfl rfl hl.1 rfl (lv_room (Nat.le_of_ble_eq_true rfl)) d_X_picture_5 ⟨Nat.le_of_ble_eq_true rfl, Nat.le_of_ble_eq_true rfl⟩) hS (fun q _ h => h) (fun q h => h) (fun ra u t H locs ht hvm hw hB _ _ hS => ?_)
  obtain ⟨rfl, rfl⟩ := hw
  obtain ⟨hP, hD⟩ := x_back hB ht
  refine lv_if_eq (tgt := 18) hx hb d_X_picture_8 (by decide) (fun hc11 => ?_) (fun hc11 => ?_)
  · have hf := x_br_t hf hc11
    obtain ⟨rfl, rfl⟩ := x_retx hf
    exact e_throw (text := "a width and a height are 1 .. 8") (is := 75) hx hb hl9 hown (by decide +kernel) (by decide) (by decide +kernel) hts t_409 t_12 at_77_IllegalArgumentException hG hS (hl.1.trans hml.symm) d_X_picture_18 d_X_picture_21 d_X_picture_22 d_X_picture_24 d_X_picture_27 hEx (Nat.le_of_ble_eq_true rfl) (Nat.le_of_ble_eq_true rfl) (Nat.le_of_ble_eq_true rfl) (Nat.le_of_ble_eq_true rfl) hlocks (fun t hW hsz hk => x_pwk hP hD hK hG hS hz hsz hk hW) (Nat.le_of_ble_eq_true rfl) (Nat.le_of_ble_eq_true rfl)
  · have hf := x_br_f hf hc11
    refine lv_iload_n hx hb d_X_picture_11 rfl (lv_at hl 2 rfl) ?_
    obtain ⟨r12, z12, hq13, hf⟩ := x_cl_some hf
    refine va_calli (va_runS (As := [.int p2]) (rest := []) ⟨hx, hb, hml, hown, hts⟩ (c_P_isSide l G p2 z9 r12 z12 hq13) (va_cwS 1 hts (x_gS t_408 t_224 t_4 t_225) rfl rfl rfl (by decide +kernel) ⟨Nat.le_of_ble_eq_true rfl, Nat.le_of_ble_eq_true rfl⟩) ⟨x_blind _ _ _, fun U hU hW => ⟨rfl, x_pw hP hD hK hG hS hz hU hW⟩⟩ rfl rfl hl.1 rfl (lv_room (Nat.le_of_ble_eq_true rfl)) d_X_picture_12 ⟨Nat.le_of_ble_eq_true rfl, Nat.le_of_ble_eq_true rfl⟩) hS (fun q _ h => h) (fun q h => h) (fun ra u t H locs ht hvm hw hB _ _ hS => ?_)
    obtain ⟨rfl, rfl⟩ := hw
    obtain ⟨hP, hD⟩ := x_back hB ht
    refine lv_if_ne (tgt := 28) hx hb d_X_picture_15 (by decide) (fun hc14 => ?_) (fun hc14 => ?_)
    · have hf := x_br_f hf hc14
      refine lv_iconst (v := (0 : Int32)) hx hb d_X_picture_28 (by decide) ?_
      refine lv_istore_n (lv' := [(3, .int (0 : Int32)), (0, .ref (x_ad G 0)), (1, .int p1), (2, .int p2)]) hx hb d_X_picture_29 rfl hl (by decide) rfl (fun ls hl => ?_)
      exact w_X_picture_30_x l G C0 hl9 hEx E zo x_FU p1 p2 (0 : Int32) z12 hf _ _ _ hP hD hS (lv_sub hl [1, 2, 3, 0] rfl)
    · have hf := x_br_t hf hc14
      obtain ⟨rfl, rfl⟩ := x_retx hf
      exact e_throw (text := "a width and a height are 1 .. 8") (is := 75) hx hb hl9 hown (by decide +kernel) (by decide) (by decide +kernel) hts t_409 t_12 at_77_IllegalArgumentException hG hS (hl.1.trans hml.symm) d_X_picture_18 d_X_picture_21 d_X_picture_22 d_X_picture_24 d_X_picture_27 hEx (Nat.le_of_ble_eq_true rfl) (Nat.le_of_ble_eq_true rfl) (Nat.le_of_ble_eq_true rfl) (Nat.le_of_ble_eq_true rfl) hlocks (fun t hW hsz hk => x_pwk hP hD hK hG hS hz hsz hk hW) (Nat.le_of_ble_eq_true rfl) (Nat.le_of_ble_eq_true rfl)
abbrev rm_X_samples : Room := { frames := 7, cells := 0, slots := 0, locals := 103 }
abbrev rx_X_samples : Room := { frames := 7, cells := 1, slots := 6, locals := 103 }
set_option maxHeartbeats 4000000 in
set_option maxRecDepth 100000 in
theorem c_X_samples (l : Launch) (G : x_G) (p1 : Int32) (p2 : Int32) (p3 : Int32) (p4 : Int32) (z0 : x_St) (r : Int32) (zo : x_St) (hf : f_X_samples (x_n G) p1 p2 p3 p4 z0 = some (Sum.inr r, zo)) : Met l (⟨"ContentLibrary", "samples", "(IIII)I"⟩ : MethodName) (x_ws (⟨"ContentLibrary", "samples", "(IIII)I"⟩ : MethodName) prog_1_method_3_code 6 (some .int)) rm_X_samples (va_Pc [.ref (x_ad G 0), .int p1, .int p2, .int p3, .int p4] (x_PW G z0)) (va_Qi (fun a u => r = a ∧ zo = u) (x_PW G) (x_A G)) 0 0 (x_A G) := by
  refine Met.ofW (cc := prog_1_method_3_code) (maxL := 6) (ret := (some .int)) (by decide) rfl ?_
  intro p e s m args below meth c s₁ B hml hv
  obtain ⟨rfl, hz, hP, hD, hK, hG⟩ := hv
  have C0 : x_Ctx G p s m _ meth c prog_1_method_3_code "ContentLibrary" 6 (some .int) := ⟨B.exec, B.bytes, B.returns, hml, findClass_of_methodNamed B.named, fun w h => atoms_spec (ws := (x_ws (⟨"ContentLibrary", "samples", "(IIII)I"⟩ : MethodName) prog_1_method_3_code 6 (some .int))) B.pre w (List.mem_cons_of_mem _ h), B.notSynchronized, hz, hK, hG⟩
  obtain ⟨hx, hb, hr, hml, hown, hts, hlocks, hz, hK, hG⟩ := id C0
  have hS : va_S (x_A G) s.heap s.heap [] := va_S.rf
  have hl := lv_entry ([.ref (x_ad G 0), .int p1, .int p2, .int p3, .int p4]) (n := 6) (Nat.le_of_ble_eq_true rfl)
  rw [lg_entry_eq]
  generalize (lg_sl ([.ref (x_ad G 0), .int p1, .int p2, .int p3, .int p4]) ++ List.replicate (6 - (lg_sl ([.ref (x_ad G 0), .int p1, .int p2, .int p3, .int p4])).length) Slot.unset).toArray = ls at hl ⊢
  have hl : lv_has ls 6 [(0, .ref (x_ad G 0)), (1, .int p1), (2, .int p2), (3, .int p3), (4, .int p4)] := hl
  rw [f_X_samples] at hf
  refine lv_aload_n hx hb d_X_samples_0 rfl (lv_at hl 0 rfl) ?_
  obtain ⟨r1, z1, hq2, hf⟩ := x_clx_r hf
  refine va_callv (va_runV (As := []) (rest := []) ⟨hx, hb, hml, hown, hts⟩ (c_X_refuseWhenCut l G z0 r1 z1 hq2) (cwV 0 hts (x_gV t_335 t_337 sel_ContentLibrary_refuseWhenCut t_1 t_338) rfl rfl rfl (by decide +kernel) ⟨Nat.le_of_ble_eq_true rfl, Nat.le_of_ble_eq_true rfl⟩) ⟨x_blind _ _ _, va_recv hK hP (ci := 0) (q0 := 0) rfl (x_lk_X G _), fun U hU hW => ⟨rfl, x_pw hP hD hK hG hS hz hU hW⟩⟩ rfl rfl hl.1 rfl (lv_room (Nat.le_of_ble_eq_true rfl)) d_X_samples_1 ⟨Nat.le_of_ble_eq_true rfl, Nat.le_of_ble_eq_true rfl⟩) hS (fun q _ h => h) (fun q h => h) (fun u t H locs ht hvm hw hB _ _ hS => ?_)
  obtain ⟨rfl, rfl⟩ := hw
  obtain ⟨hP, hD⟩ := x_back hB ht
  refine lv_aload_n hx hb d_X_samples_4 rfl (lv_at hl 0 rfl) ?_
  refine lv_iload_n hx hb d_X_samples_5 rfl (lv_at hl 1 rfl) ?_
  obtain ⟨r3, z3, hq4, hf⟩ := x_clx_r hf
  refine va_callr (va_runV (As := [.int p1]) (rest := []) ⟨hx, hb, hml, hown, hts⟩ (c_X_pictureBeingMade l G p1 z1 r3 z3 hq4) (cwV 1 hts (x_gV t_453 t_455 sel_ContentLibrary_pictureBeingMade t_1 t_456) rfl rfl rfl (by decide +kernel) ⟨Nat.le_of_ble_eq_true rfl, Nat.le_of_ble_eq_true rfl⟩) ⟨x_blind _ _ _, va_recv hK hP (ci := 0) (q0 := 0) rfl (x_lk_X G _), fun U hU hW => ⟨rfl, x_pw hP hD hK hG hS hz hU hW⟩⟩ rfl rfl hl.1 rfl (lv_room (Nat.le_of_ble_eq_true rfl)) d_X_samples_6 ⟨Nat.le_of_ble_eq_true rfl, Nat.le_of_ble_eq_true rfl⟩) hS (fun q _ h => h) (fun q h => h) (fun u ra t H locs ht hvm hw hB _ _ hS => ?_)
  obtain rfl := hw
  obtain ⟨_, rfl, hr3, rfl, hB⟩ := hB
  obtain ⟨hP, hD⟩ := x_back hB ht
  refine lv_astore (lv' := [(5, .ref (x_ad G r3)), (0, .ref (x_ad G 0)), (1, .int p1), (2, .int p2), (3, .int p3), (4, .int p4)]) hx hb d_X_samples_9 hl (by decide) rfl (fun ls hl => ?_)
  refine lv_iload_n hx hb d_X_samples_11 rfl (lv_at hl 3 rfl) ?_
  refine lv_iconst (v := (1 : Int32)) hx hb d_X_samples_12 (by decide) ?_
  refine lv_icmp_ge (tgt := 26) hx hb d_X_samples_13 (by decide) (fun hc5 => ?_) (fun hc5 => ?_)
  · have hf := x_br_t hf hc5
    refine lv_aload hx hb d_X_samples_26 (lv_at hl 0 rfl) ?_
    refine lv_iload_n hx hb d_X_samples_28 rfl (lv_at hl 3 rfl) ?_
    refine lv_iload_n hx hb d_X_samples_29 rfl (lv_at hl 4 rfl) ?_
    refine lv_iload hx hb d_X_samples_30 (lv_at hl 5 rfl) ?_
    obtain ⟨r6, z6, hq7, hf⟩ := x_cl_some hf
    refine va_calli (va_runV (As := [.int p2, .int p3, .int p4]) (rest := []) ⟨hx, hb, hml, hown, hts⟩ (c_P_take l G r3 hr3 p2 p3 p4 z3 r6 z6 hq7) (cwV 3 hts (x_gV t_474 t_475 t_476 t_4 t_477) rfl rfl rfl (by decide +kernel) ⟨Nat.le_of_ble_eq_true rfl, Nat.le_of_ble_eq_true rfl⟩) ⟨x_blind _ _ _, va_recv hK hP (ci := 2) (q0 := r3) rfl (x_lk_P G _ hr3), fun U hU hW => ⟨rfl, x_pw hP hD hK hG hS hz hU hW⟩⟩ rfl rfl hl.1 rfl (lv_room (Nat.le_of_ble_eq_true rfl)) d_X_samples_32 ⟨Nat.le_of_ble_eq_true rfl, Nat.le_of_ble_eq_true rfl⟩) hS (fun q _ h => h) (fun q h => h) (fun ra u t H locs ht hvm hw hB _ _ hS => ?_)
    obtain ⟨rfl, rfl⟩ := hw
    obtain ⟨hP, hD⟩ := x_back hB ht
    obtain ⟨rfl, rfl⟩ := x_retr hf
    exact W.iret (v := r6) hx hb hr (fun t ht hW => ⟨⟨_, _, rfl, ⟨rfl, rfl⟩, x_pw hP hD hK hG hS hz ht hW⟩, hS.F ht⟩) hS.2.2 d_X_samples_35
  · have hf := x_br_f hf hc5
    exact absurd hf x_no_r
set_option maxHeartbeats 4000000 in
set_option maxRecDepth 100000 in
theorem c_X_samples_x (l : Launch) (G : x_G) (hl9 : l.stackTraces = false) (p1 : Int32) (p2 : Int32) (p3 : Int32) (p4 : Int32) (z0 : x_St) (E : String) (zo : x_St) (hf : f_X_samples (x_n G) p1 p2 p3 p4 z0 = some (Sum.inl E, zo)) : e_Met l G (⟨"ContentLibrary", "samples", "(IIII)I"⟩ : MethodName) (x_ws (⟨"ContentLibrary", "samples", "(IIII)I"⟩ : MethodName) prog_1_method_3_code 6 (some .int)) rx_X_samples (va_Pc [.ref (x_ad G 0), .int p1, .int p2, .int p3, .int p4] (x_PW G z0)) E zo 1 6 := by
  refine e_ofW (cc := prog_1_method_3_code) (maxL := 6) (ret := (some .int)) (by decide) rfl ?_
  intro p e s m args below meth c s₁ B hml hEx hv
  obtain ⟨rfl, hz, hP, hD, hK, hG⟩ := hv
  have C0 : x_Ctx G p s m _ meth c prog_1_method_3_code "ContentLibrary" 6 (some .int) := ⟨B.exec, B.bytes, B.returns, hml, findClass_of_methodNamed B.named, fun w h => atoms_spec (ws := (x_ws (⟨"ContentLibrary", "samples", "(IIII)I"⟩ : MethodName) prog_1_method_3_code 6 (some .int))) B.pre w (List.mem_cons_of_mem _ h), B.notSynchronized, hz, hK, hG⟩
  obtain ⟨hx, hb, hr, hml, hown, hts, hlocks, hz, hK, hG⟩ := id C0
  have hS : va_S (x_A G) s.heap s.heap [] := va_S.rf
  have hl := lv_entry ([.ref (x_ad G 0), .int p1, .int p2, .int p3, .int p4]) (n := 6) (Nat.le_of_ble_eq_true rfl)
  rw [lg_entry_eq]
  generalize (lg_sl ([.ref (x_ad G 0), .int p1, .int p2, .int p3, .int p4]) ++ List.replicate (6 - (lg_sl ([.ref (x_ad G 0), .int p1, .int p2, .int p3, .int p4])).length) Slot.unset).toArray = ls at hl ⊢
  have hl : lv_has ls 6 [(0, .ref (x_ad G 0)), (1, .int p1), (2, .int p2), (3, .int p3), (4, .int p4)] := hl
  rw [f_X_samples] at hf
  refine lv_aload_n hx hb d_X_samples_0 rfl (lv_at hl 0 rfl) ?_
  rcases x_clx_x hf with hq2 | ⟨r1, z1, hq2, hf⟩
  · exact e_callV (As := []) (rest := []) ⟨hx, hb, hml, hown, hts⟩ (c_X_refuseWhenCut_x l G hl9 z0 E zo hq2) (cwV 0 hts (x_gV t_335 t_337 sel_ContentLibrary_refuseWhenCut t_1 t_338) rfl rfl rfl (by decide +kernel) ⟨Nat.le_of_ble_eq_true rfl, Nat.le_of_ble_eq_true rfl⟩) ⟨x_blind _ _ _, va_recv hK hP (ci := 0) (q0 := 0) rfl (x_lk_X G _), fun U hU hW => ⟨rfl, x_pw hP hD hK hG hS hz hU hW⟩⟩ rfl hl.1 rfl (lv_room (Nat.le_of_ble_eq_true rfl)) d_X_samples_1 ⟨Nat.le_of_ble_eq_true rfl, Nat.le_of_ble_eq_true rfl⟩ hz hS (fun q ce H locs hP hD hS hce hcv hcl => e_out (fun x hx => (hEx x hx).elim) hlocks hce hcv hcl hS (fun t ht hW => x_pw hP hD hK hG hS hz ht hW) (Nat.le_of_ble_eq_true rfl) (Nat.le_of_ble_eq_true rfl))
  refine va_callv (va_runV (As := []) (rest := []) ⟨hx, hb, hml, hown, hts⟩ (c_X_refuseWhenCut l G z0 r1 z1 hq2) (cwV 0 hts (x_gV t_335 t_337 sel_ContentLibrary_refuseWhenCut t_1 t_338) rfl rfl rfl (by decide +kernel) ⟨Nat.le_of_ble_eq_true rfl, Nat.le_of_ble_eq_true rfl⟩) ⟨x_blind _ _ _, va_recv hK hP (ci := 0) (q0 := 0) rfl (x_lk_X G _), fun U hU hW => ⟨rfl, x_pw hP hD hK hG hS hz hU hW⟩⟩ rfl rfl hl.1 rfl (lv_room (Nat.le_of_ble_eq_true rfl)) d_X_samples_1 ⟨Nat.le_of_ble_eq_true rfl, Nat.le_of_ble_eq_true rfl⟩) hS (fun q _ h => h) (fun q h => h) (fun u t H locs ht hvm hw hB _ _ hS => ?_)
  obtain ⟨rfl, rfl⟩ := hw
  obtain ⟨hP, hD⟩ := x_back hB ht
  refine lv_aload_n hx hb d_X_samples_4 rfl (lv_at hl 0 rfl) ?_
  refine lv_iload_n hx hb d_X_samples_5 rfl (lv_at hl 1 rfl) ?_
  rcases x_clx_x hf with hq4 | ⟨r3, z3, hq4, hf⟩
  · exact e_callV (As := [.int p1]) (rest := []) ⟨hx, hb, hml, hown, hts⟩ (c_X_pictureBeingMade_x l G hl9 p1 z1 E zo hq4) (cwV 1 hts (x_gV t_453 t_455 sel_ContentLibrary_pictureBeingMade t_1 t_456) rfl rfl rfl (by decide +kernel) ⟨Nat.le_of_ble_eq_true rfl, Nat.le_of_ble_eq_true rfl⟩) ⟨x_blind _ _ _, va_recv hK hP (ci := 0) (q0 := 0) rfl (x_lk_X G _), fun U hU hW => ⟨rfl, x_pw hP hD hK hG hS hz hU hW⟩⟩ rfl hl.1 rfl (lv_room (Nat.le_of_ble_eq_true rfl)) d_X_samples_6 ⟨Nat.le_of_ble_eq_true rfl, Nat.le_of_ble_eq_true rfl⟩ hz hS (fun q ce H locs hP hD hS hce hcv hcl => e_out (fun x hx => (hEx x hx).elim) hlocks hce hcv hcl hS (fun t ht hW => x_pw hP hD hK hG hS hz ht hW) (Nat.le_of_ble_eq_true rfl) (Nat.le_of_ble_eq_true rfl))
  refine va_callr (va_runV (As := [.int p1]) (rest := []) ⟨hx, hb, hml, hown, hts⟩ (c_X_pictureBeingMade l G p1 z1 r3 z3 hq4) (cwV 1 hts (x_gV t_453 t_455 sel_ContentLibrary_pictureBeingMade t_1 t_456) rfl rfl rfl (by decide +kernel) ⟨Nat.le_of_ble_eq_true rfl, Nat.le_of_ble_eq_true rfl⟩) ⟨x_blind _ _ _, va_recv hK hP (ci := 0) (q0 := 0) rfl (x_lk_X G _), fun U hU hW => ⟨rfl, x_pw hP hD hK hG hS hz hU hW⟩⟩ rfl rfl hl.1 rfl (lv_room (Nat.le_of_ble_eq_true rfl)) d_X_samples_6 ⟨Nat.le_of_ble_eq_true rfl, Nat.le_of_ble_eq_true rfl⟩) hS (fun q _ h => h) (fun q h => h) (fun u ra t H locs ht hvm hw hB _ _ hS => ?_)
  obtain rfl := hw
  obtain ⟨_, rfl, hr3, rfl, hB⟩ := hB
  obtain ⟨hP, hD⟩ := x_back hB ht
  refine lv_astore (lv' := [(5, .ref (x_ad G r3)), (0, .ref (x_ad G 0)), (1, .int p1), (2, .int p2), (3, .int p3), (4, .int p4)]) hx hb d_X_samples_9 hl (by decide) rfl (fun ls hl => ?_)
  refine lv_iload_n hx hb d_X_samples_11 rfl (lv_at hl 3 rfl) ?_
  refine lv_iconst (v := (1 : Int32)) hx hb d_X_samples_12 (by decide) ?_
  refine lv_icmp_ge (tgt := 26) hx hb d_X_samples_13 (by decide) (fun hc5 => ?_) (fun hc5 => ?_)
  · have hf := x_br_t hf hc5
    refine lv_aload hx hb d_X_samples_26 (lv_at hl 0 rfl) ?_
    refine lv_iload_n hx hb d_X_samples_28 rfl (lv_at hl 3 rfl) ?_
    refine lv_iload_n hx hb d_X_samples_29 rfl (lv_at hl 4 rfl) ?_
    refine lv_iload hx hb d_X_samples_30 (lv_at hl 5 rfl) ?_
    obtain ⟨r6, z6, hq7, hf⟩ := x_cl_some hf
    refine va_calli (va_runV (As := [.int p2, .int p3, .int p4]) (rest := []) ⟨hx, hb, hml, hown, hts⟩ (c_P_take l G r3 hr3 p2 p3 p4 z3 r6 z6 hq7) (cwV 3 hts (x_gV t_474 t_475 t_476 t_4 t_477) rfl rfl rfl (by decide +kernel) ⟨Nat.le_of_ble_eq_true rfl, Nat.le_of_ble_eq_true rfl⟩) ⟨x_blind _ _ _, va_recv hK hP (ci := 2) (q0 := r3) rfl (x_lk_P G _ hr3), fun U hU hW => ⟨rfl, x_pw hP hD hK hG hS hz hU hW⟩⟩ rfl rfl hl.1 rfl (lv_room (Nat.le_of_ble_eq_true rfl)) d_X_samples_32 ⟨Nat.le_of_ble_eq_true rfl, Nat.le_of_ble_eq_true rfl⟩) hS (fun q _ h => h) (fun q h => h) (fun ra u t H locs ht hvm hw hB _ _ hS => ?_)
    obtain ⟨rfl, rfl⟩ := hw
    obtain ⟨hP, hD⟩ := x_back hB ht
    exact absurd hf x_no_x
  · have hf := x_br_f hf hc5
    obtain ⟨rfl, rfl⟩ := x_retx hf
    exact e_throw (text := "samples come by one or more") (is := 97) hx hb hl9 hown (by decide +kernel) (by decide) (by decide +kernel) hts t_409 t_12 at_77_IllegalArgumentException hG hS (hl.1.trans hml.symm) d_X_samples_16 d_X_samples_19 d_X_samples_20 d_X_samples_22 d_X_samples_25 hEx (Nat.le_of_ble_eq_true rfl) (Nat.le_of_ble_eq_true rfl) (Nat.le_of_ble_eq_true rfl) (Nat.le_of_ble_eq_true rfl) hlocks (fun t hW hsz hk => x_pwk hP hD hK hG hS hz hsz hk hW) (Nat.le_of_ble_eq_true rfl) (Nat.le_of_ble_eq_true rfl)
abbrev rm_X_keep : Room := { frames := 7, cells := 0, slots := 0, locals := 103 }
abbrev rx_X_keep : Room := { frames := 7, cells := 1, slots := 6, locals := 103 }
set_option maxHeartbeats 4000000 in
set_option maxRecDepth 100000 in
theorem c_X_keep (l : Launch) (G : x_G) (p1 : Int32) (z0 : x_St) (r : Int32) (zo : x_St) (hf : f_X_keep (x_n G) p1 z0 = some (Sum.inr r, zo)) : Met l (⟨"ContentLibrary", "keep", "(I)I"⟩ : MethodName) (x_ws (⟨"ContentLibrary", "keep", "(I)I"⟩ : MethodName) prog_1_method_4_code 4 (some .int)) rm_X_keep (va_Pc [.ref (x_ad G 0), .int p1] (x_PW G z0)) (va_Qi (fun a u => r = a ∧ zo = u) (x_PW G) (x_A G)) 0 0 (x_A G) := by
  refine Met.ofW (cc := prog_1_method_4_code) (maxL := 4) (ret := (some .int)) (by decide) rfl ?_
  intro p e s m args below meth c s₁ B hml hv
  obtain ⟨rfl, hz, hP, hD, hK, hG⟩ := hv
  have C0 : x_Ctx G p s m _ meth c prog_1_method_4_code "ContentLibrary" 4 (some .int) := ⟨B.exec, B.bytes, B.returns, hml, findClass_of_methodNamed B.named, fun w h => atoms_spec (ws := (x_ws (⟨"ContentLibrary", "keep", "(I)I"⟩ : MethodName) prog_1_method_4_code 4 (some .int))) B.pre w (List.mem_cons_of_mem _ h), B.notSynchronized, hz, hK, hG⟩
  obtain ⟨hx, hb, hr, hml, hown, hts, hlocks, hz, hK, hG⟩ := id C0
  have hS : va_S (x_A G) s.heap s.heap [] := va_S.rf
  have hl := lv_entry ([.ref (x_ad G 0), .int p1]) (n := 4) (Nat.le_of_ble_eq_true rfl)
  rw [lg_entry_eq]
  generalize (lg_sl ([.ref (x_ad G 0), .int p1]) ++ List.replicate (4 - (lg_sl ([.ref (x_ad G 0), .int p1])).length) Slot.unset).toArray = ls at hl ⊢
  have hl : lv_has ls 4 [(0, .ref (x_ad G 0)), (1, .int p1)] := hl
  rw [f_X_keep] at hf
  refine lv_aload_n hx hb d_X_keep_0 rfl (lv_at hl 0 rfl) ?_
  obtain ⟨r1, z1, hq2, hf⟩ := x_clx_r hf
  refine va_callv (va_runV (As := []) (rest := []) ⟨hx, hb, hml, hown, hts⟩ (c_X_refuseWhenCut l G z0 r1 z1 hq2) (cwV 0 hts (x_gV t_335 t_337 sel_ContentLibrary_refuseWhenCut t_1 t_338) rfl rfl rfl (by decide +kernel) ⟨Nat.le_of_ble_eq_true rfl, Nat.le_of_ble_eq_true rfl⟩) ⟨x_blind _ _ _, va_recv hK hP (ci := 0) (q0 := 0) rfl (x_lk_X G _), fun U hU hW => ⟨rfl, x_pw hP hD hK hG hS hz hU hW⟩⟩ rfl rfl hl.1 rfl (lv_room (Nat.le_of_ble_eq_true rfl)) d_X_keep_1 ⟨Nat.le_of_ble_eq_true rfl, Nat.le_of_ble_eq_true rfl⟩) hS (fun q _ h => h) (fun q h => h) (fun u t H locs ht hvm hw hB _ _ hS => ?_)
  obtain ⟨rfl, rfl⟩ := hw
  obtain ⟨hP, hD⟩ := x_back hB ht
  refine lv_aload_n hx hb d_X_keep_4 rfl (lv_at hl 0 rfl) ?_
  refine lv_iload_n hx hb d_X_keep_5 rfl (lv_at hl 1 rfl) ?_
  obtain ⟨r3, z3, hq4, hf⟩ := x_clx_r hf
  refine va_callr (va_runV (As := [.int p1]) (rest := []) ⟨hx, hb, hml, hown, hts⟩ (c_X_pictureBeingMade l G p1 z1 r3 z3 hq4) (cwV 1 hts (x_gV t_453 t_455 sel_ContentLibrary_pictureBeingMade t_1 t_456) rfl rfl rfl (by decide +kernel) ⟨Nat.le_of_ble_eq_true rfl, Nat.le_of_ble_eq_true rfl⟩) ⟨x_blind _ _ _, va_recv hK hP (ci := 0) (q0 := 0) rfl (x_lk_X G _), fun U hU hW => ⟨rfl, x_pw hP hD hK hG hS hz hU hW⟩⟩ rfl rfl hl.1 rfl (lv_room (Nat.le_of_ble_eq_true rfl)) d_X_keep_6 ⟨Nat.le_of_ble_eq_true rfl, Nat.le_of_ble_eq_true rfl⟩) hS (fun q _ h => h) (fun q h => h) (fun u ra t H locs ht hvm hw hB _ _ hS => ?_)
  obtain rfl := hw
  obtain ⟨_, rfl, hr3, rfl, hB⟩ := hB
  obtain ⟨hP, hD⟩ := x_back hB ht
  refine lv_astore_n (lv' := [(2, .ref (x_ad G r3)), (0, .ref (x_ad G 0)), (1, .int p1)]) hx hb d_X_keep_9 rfl hl (by decide) rfl (fun ls hl => ?_)
  refine lv_aload_n hx hb d_X_keep_10 rfl (lv_at hl 0 rfl) ?_
  obtain ⟨r5, z5, hq6, hf⟩ := x_clx_r hf
  refine va_callv (va_runS (As := [.ref (x_ad G r3)]) (rest := []) ⟨hx, hb, hml, hown, hts⟩ (c_X_refuseUnlessWhole l G r3 hr3 z3 r5 z5 hq6) (va_cwS 1 hts (x_gS t_486 t_487 t_1 t_488) rfl rfl rfl (by decide +kernel) ⟨Nat.le_of_ble_eq_true rfl, Nat.le_of_ble_eq_true rfl⟩) ⟨x_blind _ _ _, fun U hU hW => ⟨rfl, x_pw hP hD hK hG hS hz hU hW⟩⟩ rfl rfl hl.1 rfl (lv_room (Nat.le_of_ble_eq_true rfl)) d_X_keep_11 ⟨Nat.le_of_ble_eq_true rfl, Nat.le_of_ble_eq_true rfl⟩) hS (fun q _ h => h) (fun q h => h) (fun u t H locs ht hvm hw hB _ _ hS => ?_)
  obtain ⟨rfl, rfl⟩ := hw
  obtain ⟨hP, hD⟩ := x_back hB ht
  cases hf
set_option maxHeartbeats 4000000 in
set_option maxRecDepth 100000 in
theorem c_X_keep_x (l : Launch) (G : x_G) (hl9 : l.stackTraces = false) (p1 : Int32) (z0 : x_St) (E : String) (zo : x_St) (hf : f_X_keep (x_n G) p1 z0 = some (Sum.inl E, zo)) : e_Met l G (⟨"ContentLibrary", "keep", "(I)I"⟩ : MethodName) (x_ws (⟨"ContentLibrary", "keep", "(I)I"⟩ : MethodName) prog_1_method_4_code 4 (some .int)) rx_X_keep (va_Pc [.ref (x_ad G 0), .int p1] (x_PW G z0)) E zo 1 6 := by
  refine e_ofW (cc := prog_1_method_4_code) (maxL := 4) (ret := (some .int)) (by decide) rfl ?_
  intro p e s m args below meth c s₁ B hml hEx hv
  obtain ⟨rfl, hz, hP, hD, hK, hG⟩ := hv
  have C0 : x_Ctx G p s m _ meth c prog_1_method_4_code "ContentLibrary" 4 (some .int) := ⟨B.exec, B.bytes, B.returns, hml, findClass_of_methodNamed B.named, fun w h => atoms_spec (ws := (x_ws (⟨"ContentLibrary", "keep", "(I)I"⟩ : MethodName) prog_1_method_4_code 4 (some .int))) B.pre w (List.mem_cons_of_mem _ h), B.notSynchronized, hz, hK, hG⟩
  obtain ⟨hx, hb, hr, hml, hown, hts, hlocks, hz, hK, hG⟩ := id C0
  have hS : va_S (x_A G) s.heap s.heap [] := va_S.rf
  have hl := lv_entry ([.ref (x_ad G 0), .int p1]) (n := 4) (Nat.le_of_ble_eq_true rfl)
  rw [lg_entry_eq]
  generalize (lg_sl ([.ref (x_ad G 0), .int p1]) ++ List.replicate (4 - (lg_sl ([.ref (x_ad G 0), .int p1])).length) Slot.unset).toArray = ls at hl ⊢
  have hl : lv_has ls 4 [(0, .ref (x_ad G 0)), (1, .int p1)] := hl
  rw [f_X_keep] at hf
  refine lv_aload_n hx hb d_X_keep_0 rfl (lv_at hl 0 rfl) ?_
  rcases x_clx_x hf with hq2 | ⟨r1, z1, hq2, hf⟩
  · exact e_callV (As := []) (rest := []) ⟨hx, hb, hml, hown, hts⟩ (c_X_refuseWhenCut_x l G hl9 z0 E zo hq2) (cwV 0 hts (x_gV t_335 t_337 sel_ContentLibrary_refuseWhenCut t_1 t_338) rfl rfl rfl (by decide +kernel) ⟨Nat.le_of_ble_eq_true rfl, Nat.le_of_ble_eq_true rfl⟩) ⟨x_blind _ _ _, va_recv hK hP (ci := 0) (q0 := 0) rfl (x_lk_X G _), fun U hU hW => ⟨rfl, x_pw hP hD hK hG hS hz hU hW⟩⟩ rfl hl.1 rfl (lv_room (Nat.le_of_ble_eq_true rfl)) d_X_keep_1 ⟨Nat.le_of_ble_eq_true rfl, Nat.le_of_ble_eq_true rfl⟩ hz hS (fun q ce H locs hP hD hS hce hcv hcl => e_out (fun x hx => (hEx x hx).elim) hlocks hce hcv hcl hS (fun t ht hW => x_pw hP hD hK hG hS hz ht hW) (Nat.le_of_ble_eq_true rfl) (Nat.le_of_ble_eq_true rfl))
  refine va_callv (va_runV (As := []) (rest := []) ⟨hx, hb, hml, hown, hts⟩ (c_X_refuseWhenCut l G z0 r1 z1 hq2) (cwV 0 hts (x_gV t_335 t_337 sel_ContentLibrary_refuseWhenCut t_1 t_338) rfl rfl rfl (by decide +kernel) ⟨Nat.le_of_ble_eq_true rfl, Nat.le_of_ble_eq_true rfl⟩) ⟨x_blind _ _ _, va_recv hK hP (ci := 0) (q0 := 0) rfl (x_lk_X G _), fun U hU hW => ⟨rfl, x_pw hP hD hK hG hS hz hU hW⟩⟩ rfl rfl hl.1 rfl (lv_room (Nat.le_of_ble_eq_true rfl)) d_X_keep_1 ⟨Nat.le_of_ble_eq_true rfl, Nat.le_of_ble_eq_true rfl⟩) hS (fun q _ h => h) (fun q h => h) (fun u t H locs ht hvm hw hB _ _ hS => ?_)
  obtain ⟨rfl, rfl⟩ := hw
  obtain ⟨hP, hD⟩ := x_back hB ht
  refine lv_aload_n hx hb d_X_keep_4 rfl (lv_at hl 0 rfl) ?_
  refine lv_iload_n hx hb d_X_keep_5 rfl (lv_at hl 1 rfl) ?_
  rcases x_clx_x hf with hq4 | ⟨r3, z3, hq4, hf⟩
  · exact e_callV (As := [.int p1]) (rest := []) ⟨hx, hb, hml, hown, hts⟩ (c_X_pictureBeingMade_x l G hl9 p1 z1 E zo hq4) (cwV 1 hts (x_gV t_453 t_455 sel_ContentLibrary_pictureBeingMade t_1 t_456) rfl rfl rfl (by decide +kernel) ⟨Nat.le_of_ble_eq_true rfl, Nat.le_of_ble_eq_true rfl⟩) ⟨x_blind _ _ _, va_recv hK hP (ci := 0) (q0 := 0) rfl (x_lk_X G _), fun U hU hW => ⟨rfl, x_pw hP hD hK hG hS hz hU hW⟩⟩ rfl hl.1 rfl (lv_room (Nat.le_of_ble_eq_true rfl)) d_X_keep_6 ⟨Nat.le_of_ble_eq_true rfl, Nat.le_of_ble_eq_true rfl⟩ hz hS (fun q ce H locs hP hD hS hce hcv hcl => e_out (fun x hx => (hEx x hx).elim) hlocks hce hcv hcl hS (fun t ht hW => x_pw hP hD hK hG hS hz ht hW) (Nat.le_of_ble_eq_true rfl) (Nat.le_of_ble_eq_true rfl))
  refine va_callr (va_runV (As := [.int p1]) (rest := []) ⟨hx, hb, hml, hown, hts⟩ (c_X_pictureBeingMade l G p1 z1 r3 z3 hq4) (cwV 1 hts (x_gV t_453 t_455 sel_ContentLibrary_pictureBeingMade t_1 t_456) rfl rfl rfl (by decide +kernel) ⟨Nat.le_of_ble_eq_true rfl, Nat.le_of_ble_eq_true rfl⟩) ⟨x_blind _ _ _, va_recv hK hP (ci := 0) (q0 := 0) rfl (x_lk_X G _), fun U hU hW => ⟨rfl, x_pw hP hD hK hG hS hz hU hW⟩⟩ rfl rfl hl.1 rfl (lv_room (Nat.le_of_ble_eq_true rfl)) d_X_keep_6 ⟨Nat.le_of_ble_eq_true rfl, Nat.le_of_ble_eq_true rfl⟩) hS (fun q _ h => h) (fun q h => h) (fun u ra t H locs ht hvm hw hB _ _ hS => ?_)
  obtain rfl := hw
  obtain ⟨_, rfl, hr3, rfl, hB⟩ := hB
  obtain ⟨hP, hD⟩ := x_back hB ht
  refine lv_astore_n (lv' := [(2, .ref (x_ad G r3)), (0, .ref (x_ad G 0)), (1, .int p1)]) hx hb d_X_keep_9 rfl hl (by decide) rfl (fun ls hl => ?_)
  refine lv_aload_n hx hb d_X_keep_10 rfl (lv_at hl 0 rfl) ?_
  rcases x_clx_x hf with hq6 | ⟨r5, z5, hq6, hf⟩
  · exact e_callS (As := [.ref (x_ad G r3)]) (rest := []) ⟨hx, hb, hml, hown, hts⟩ (c_X_refuseUnlessWhole_x l G hl9 r3 hr3 z3 E zo hq6) (va_cwS 1 hts (x_gS t_486 t_487 t_1 t_488) rfl rfl rfl (by decide +kernel) ⟨Nat.le_of_ble_eq_true rfl, Nat.le_of_ble_eq_true rfl⟩) ⟨x_blind _ _ _, fun U hU hW => ⟨rfl, x_pw hP hD hK hG hS hz hU hW⟩⟩ rfl hl.1 rfl (lv_room (Nat.le_of_ble_eq_true rfl)) d_X_keep_11 ⟨Nat.le_of_ble_eq_true rfl, Nat.le_of_ble_eq_true rfl⟩ hz hS (fun q ce H locs hP hD hS hce hcv hcl => e_out (fun x hx => (hEx x hx).elim) hlocks hce hcv hcl hS (fun t ht hW => x_pw hP hD hK hG hS hz ht hW) (Nat.le_of_ble_eq_true rfl) (Nat.le_of_ble_eq_true rfl))
  refine va_callv (va_runS (As := [.ref (x_ad G r3)]) (rest := []) ⟨hx, hb, hml, hown, hts⟩ (c_X_refuseUnlessWhole l G r3 hr3 z3 r5 z5 hq6) (va_cwS 1 hts (x_gS t_486 t_487 t_1 t_488) rfl rfl rfl (by decide +kernel) ⟨Nat.le_of_ble_eq_true rfl, Nat.le_of_ble_eq_true rfl⟩) ⟨x_blind _ _ _, fun U hU hW => ⟨rfl, x_pw hP hD hK hG hS hz hU hW⟩⟩ rfl rfl hl.1 rfl (lv_room (Nat.le_of_ble_eq_true rfl)) d_X_keep_11 ⟨Nat.le_of_ble_eq_true rfl, Nat.le_of_ble_eq_true rfl⟩) hS (fun q _ h => h) (fun q h => h) (fun u t H locs ht hvm hw hB _ _ hS => ?_)
  obtain ⟨rfl, rfl⟩ := hw
  obtain ⟨hP, hD⟩ := x_back hB ht
  cases hf
abbrev rm_X_digest : Room := { frames := 7, cells := 0, slots := 0, locals := 103 }
abbrev rx_X_digest : Room := { frames := 7, cells := 1, slots := 6, locals := 103 }
set_option maxHeartbeats 4000000 in
set_option maxRecDepth 100000 in
theorem c_X_digest (l : Launch) (G : x_G) (p1 : Int32) (p2 : Int32) (z0 : x_St) (r : Int32) (zo : x_St) (hf : f_X_digest (x_n G) p1 p2 z0 = some (Sum.inr r, zo)) : Met l (⟨"ContentLibrary", "digest", "(II)I"⟩ : MethodName) (x_ws (⟨"ContentLibrary", "digest", "(II)I"⟩ : MethodName) prog_1_method_5_code 4 (some .int)) rm_X_digest (va_Pc [.ref (x_ad G 0), .int p1, .int p2] (x_PW G z0)) (va_Qi (fun a u => r = a ∧ zo = u) (x_PW G) (x_A G)) 0 0 (x_A G) := by
  refine Met.ofW (cc := prog_1_method_5_code) (maxL := 4) (ret := (some .int)) (by decide) rfl ?_
  intro p e s m args below meth c s₁ B hml hv
  obtain ⟨rfl, hz, hP, hD, hK, hG⟩ := hv
  have C0 : x_Ctx G p s m _ meth c prog_1_method_5_code "ContentLibrary" 4 (some .int) := ⟨B.exec, B.bytes, B.returns, hml, findClass_of_methodNamed B.named, fun w h => atoms_spec (ws := (x_ws (⟨"ContentLibrary", "digest", "(II)I"⟩ : MethodName) prog_1_method_5_code 4 (some .int))) B.pre w (List.mem_cons_of_mem _ h), B.notSynchronized, hz, hK, hG⟩
  obtain ⟨hx, hb, hr, hml, hown, hts, hlocks, hz, hK, hG⟩ := id C0
  have hS : va_S (x_A G) s.heap s.heap [] := va_S.rf
  have hl := lv_entry ([.ref (x_ad G 0), .int p1, .int p2]) (n := 4) (Nat.le_of_ble_eq_true rfl)
  rw [lg_entry_eq]
  generalize (lg_sl ([.ref (x_ad G 0), .int p1, .int p2]) ++ List.replicate (4 - (lg_sl ([.ref (x_ad G 0), .int p1, .int p2])).length) Slot.unset).toArray = ls at hl ⊢
  have hl : lv_has ls 4 [(0, .ref (x_ad G 0)), (1, .int p1), (2, .int p2)] := hl
  rw [f_X_digest] at hf
  refine lv_aload_n hx hb d_X_digest_0 rfl (lv_at hl 0 rfl) ?_
  obtain ⟨r1, z1, hq2, hf⟩ := x_clx_r hf
  refine va_callv (va_runV (As := []) (rest := []) ⟨hx, hb, hml, hown, hts⟩ (c_X_refuseWhenCut l G z0 r1 z1 hq2) (cwV 0 hts (x_gV t_335 t_337 sel_ContentLibrary_refuseWhenCut t_1 t_338) rfl rfl rfl (by decide +kernel) ⟨Nat.le_of_ble_eq_true rfl, Nat.le_of_ble_eq_true rfl⟩) ⟨x_blind _ _ _, va_recv hK hP (ci := 0) (q0 := 0) rfl (x_lk_X G _), fun U hU hW => ⟨rfl, x_pw hP hD hK hG hS hz hU hW⟩⟩ rfl rfl hl.1 rfl (lv_room (Nat.le_of_ble_eq_true rfl)) d_X_digest_1 ⟨Nat.le_of_ble_eq_true rfl, Nat.le_of_ble_eq_true rfl⟩) hS (fun q _ h => h) (fun q h => h) (fun u t H locs ht hvm hw hB _ _ hS => ?_)
  obtain ⟨rfl, rfl⟩ := hw
  obtain ⟨hP, hD⟩ := x_back hB ht
  refine lv_aload_n hx hb d_X_digest_4 rfl (lv_at hl 0 rfl) ?_
  refine lv_iload_n hx hb d_X_digest_5 rfl (lv_at hl 1 rfl) ?_
  obtain ⟨r3, z3, hq4, hf⟩ := x_clx_r hf
  refine va_callr (va_runV (As := [.int p1]) (rest := []) ⟨hx, hb, hml, hown, hts⟩ (c_X_keptAt l G p1 z1 r3 z3 hq4) (cwV 1 hts (x_gV t_558 t_560 sel_ContentLibrary_keptAt t_1 t_561) rfl rfl rfl (by decide +kernel) ⟨Nat.le_of_ble_eq_true rfl, Nat.le_of_ble_eq_true rfl⟩) ⟨x_blind _ _ _, va_recv hK hP (ci := 0) (q0 := 0) rfl (x_lk_X G _), fun U hU hW => ⟨rfl, x_pw hP hD hK hG hS hz hU hW⟩⟩ rfl rfl hl.1 rfl (lv_room (Nat.le_of_ble_eq_true rfl)) d_X_digest_6 ⟨Nat.le_of_ble_eq_true rfl, Nat.le_of_ble_eq_true rfl⟩) hS (fun q _ h => h) (fun q h => h) (fun u ra t H locs ht hvm hw hB _ _ hS => ?_)
  obtain rfl := hw
  obtain ⟨_, rfl, hr3, rfl, hB⟩ := hB
  obtain ⟨hP, hD⟩ := x_back hB ht
  refine lv_astore_n (lv' := [(3, .ref (x_ad G r3)), (0, .ref (x_ad G 0)), (1, .int p1), (2, .int p2)]) hx hb d_X_digest_9 rfl hl (by decide) rfl (fun ls hl => ?_)
  refine lv_iload_n hx hb d_X_digest_10 rfl (lv_at hl 3 rfl) ?_
  refine lv_if_lt (tgt := 20) hx hb d_X_digest_11 (by decide) (fun hc5 => ?_) (fun hc5 => ?_)
  · have hf := x_br_t hf hc5
    exact absurd hf x_no_r
  · have hf := x_br_f hf hc5
    refine lv_iload_n hx hb d_X_digest_14 rfl (lv_at hl 3 rfl) ?_
    refine lv_bipush (v := (8 : Int32)) hx hb d_X_digest_15 (by decide) ?_
    refine lv_icmp_lt (tgt := 30) hx hb d_X_digest_17 (by decide) (fun hc6 => ?_) (fun hc6 => ?_)
    · have hf := x_br_t hf hc6
      refine lv_aload_n hx hb d_X_digest_30 rfl (lv_at hl 0 rfl) ?_
      refine va_get (D := x_D G) (ci := 3) (v := .ref (x_ad G (r3 + 3))) (C := "ContentLibrary$Kept") (T := x_TK) (N := 6) hx hb hts x_inK hown hK hP r3 (x_lk_K G _ hr3) rfl 2 (by decide) (hts _ t_94) (fun _ h9 => h9) rfl d_X_digest_31 ?_
      refine lv_iload_n hx hb d_X_digest_34 rfl (lv_at hl 3 rfl) ?_
      obtain ⟨hin7, hf⟩ := x_ck_some hf
      refine va_iald hx hb hK hP (r3 + 3) 0 (x_lk_A G _ (x_K_A3 hr3)) rfl hin7 d_X_digest_35 ?_
      obtain ⟨rfl, rfl⟩ := x_retr hf
      exact W.iret (v := (z3.1 (r3 + 3) (p2).toNatClampNeg)) hx hb hr (fun t ht hW => ⟨⟨_, _, rfl, ⟨rfl, rfl⟩, x_pw hP hD hK hG hS hz ht hW⟩, hS.F ht⟩) hS.2.2 d_X_digest_36
    · have hf := x_br_f hf hc6
      exact absurd hf x_no_r
set_option maxHeartbeats 4000000 in
set_option maxRecDepth 100000 in
theorem c_X_digest_x (l : Launch) (G : x_G) (hl9 : l.stackTraces = false) (p1 : Int32) (p2 : Int32) (z0 : x_St) (E : String) (zo : x_St) (hf : f_X_digest (x_n G) p1 p2 z0 = some (Sum.inl E, zo)) : e_Met l G (⟨"ContentLibrary", "digest", "(II)I"⟩ : MethodName) (x_ws (⟨"ContentLibrary", "digest", "(II)I"⟩ : MethodName) prog_1_method_5_code 4 (some .int)) rx_X_digest (va_Pc [.ref (x_ad G 0), .int p1, .int p2] (x_PW G z0)) E zo 1 6 := by
  refine e_ofW (cc := prog_1_method_5_code) (maxL := 4) (ret := (some .int)) (by decide) rfl ?_
  intro p e s m args below meth c s₁ B hml hEx hv
  obtain ⟨rfl, hz, hP, hD, hK, hG⟩ := hv
  have C0 : x_Ctx G p s m _ meth c prog_1_method_5_code "ContentLibrary" 4 (some .int) := ⟨B.exec, B.bytes, B.returns, hml, findClass_of_methodNamed B.named, fun w h => atoms_spec (ws := (x_ws (⟨"ContentLibrary", "digest", "(II)I"⟩ : MethodName) prog_1_method_5_code 4 (some .int))) B.pre w (List.mem_cons_of_mem _ h), B.notSynchronized, hz, hK, hG⟩
  obtain ⟨hx, hb, hr, hml, hown, hts, hlocks, hz, hK, hG⟩ := id C0
  have hS : va_S (x_A G) s.heap s.heap [] := va_S.rf
  have hl := lv_entry ([.ref (x_ad G 0), .int p1, .int p2]) (n := 4) (Nat.le_of_ble_eq_true rfl)
  rw [lg_entry_eq]
  generalize (lg_sl ([.ref (x_ad G 0), .int p1, .int p2]) ++ List.replicate (4 - (lg_sl ([.ref (x_ad G 0), .int p1, .int p2])).length) Slot.unset).toArray = ls at hl ⊢
  have hl : lv_has ls 4 [(0, .ref (x_ad G 0)), (1, .int p1), (2, .int p2)] := hl
  rw [f_X_digest] at hf
  refine lv_aload_n hx hb d_X_digest_0 rfl (lv_at hl 0 rfl) ?_
  rcases x_clx_x hf with hq2 | ⟨r1, z1, hq2, hf⟩
  · exact e_callV (As := []) (rest := []) ⟨hx, hb, hml, hown, hts⟩ (c_X_refuseWhenCut_x l G hl9 z0 E zo hq2) (cwV 0 hts (x_gV t_335 t_337 sel_ContentLibrary_refuseWhenCut t_1 t_338) rfl rfl rfl (by decide +kernel) ⟨Nat.le_of_ble_eq_true rfl, Nat.le_of_ble_eq_true rfl⟩) ⟨x_blind _ _ _, va_recv hK hP (ci := 0) (q0 := 0) rfl (x_lk_X G _), fun U hU hW => ⟨rfl, x_pw hP hD hK hG hS hz hU hW⟩⟩ rfl hl.1 rfl (lv_room (Nat.le_of_ble_eq_true rfl)) d_X_digest_1 ⟨Nat.le_of_ble_eq_true rfl, Nat.le_of_ble_eq_true rfl⟩ hz hS (fun q ce H locs hP hD hS hce hcv hcl => e_out (fun x hx => (hEx x hx).elim) hlocks hce hcv hcl hS (fun t ht hW => x_pw hP hD hK hG hS hz ht hW) (Nat.le_of_ble_eq_true rfl) (Nat.le_of_ble_eq_true rfl))
  refine va_callv (va_runV (As := []) (rest := []) ⟨hx, hb, hml, hown, hts⟩ (c_X_refuseWhenCut l G z0 r1 z1 hq2) (cwV 0 hts (x_gV t_335 t_337 sel_ContentLibrary_refuseWhenCut t_1 t_338) rfl rfl rfl (by decide +kernel) ⟨Nat.le_of_ble_eq_true rfl, Nat.le_of_ble_eq_true rfl⟩) ⟨x_blind _ _ _, va_recv hK hP (ci := 0) (q0 := 0) rfl (x_lk_X G _), fun U hU hW => ⟨rfl, x_pw hP hD hK hG hS hz hU hW⟩⟩ rfl rfl hl.1 rfl (lv_room (Nat.le_of_ble_eq_true rfl)) d_X_digest_1 ⟨Nat.le_of_ble_eq_true rfl, Nat.le_of_ble_eq_true rfl⟩) hS (fun q _ h => h) (fun q h => h) (fun u t H locs ht hvm hw hB _ _ hS => ?_)
  obtain ⟨rfl, rfl⟩ := hw
  obtain ⟨hP, hD⟩ := x_back hB ht
  refine lv_aload_n hx hb d_X_digest_4 rfl (lv_at hl 0 rfl) ?_
  refine lv_iload_n hx hb d_X_digest_5 rfl (lv_at hl 1 rfl) ?_
  rcases x_clx_x hf with hq4 | ⟨r3, z3, hq4, hf⟩
  · exact e_callV (As := [.int p1]) (rest := []) ⟨hx, hb, hml, hown, hts⟩ (c_X_keptAt_x l G hl9 p1 z1 E zo hq4) (cwV 1 hts (x_gV t_558 t_560 sel_ContentLibrary_keptAt t_1 t_561) rfl rfl rfl (by decide +kernel) ⟨Nat.le_of_ble_eq_true rfl, Nat.le_of_ble_eq_true rfl⟩) ⟨x_blind _ _ _, va_recv hK hP (ci := 0) (q0 := 0) rfl (x_lk_X G _), fun U hU hW => ⟨rfl, x_pw hP hD hK hG hS hz hU hW⟩⟩ rfl hl.1 rfl (lv_room (Nat.le_of_ble_eq_true rfl)) d_X_digest_6 ⟨Nat.le_of_ble_eq_true rfl, Nat.le_of_ble_eq_true rfl⟩ hz hS (fun q ce H locs hP hD hS hce hcv hcl => e_out (fun x hx => (hEx x hx).elim) hlocks hce hcv hcl hS (fun t ht hW => x_pw hP hD hK hG hS hz ht hW) (Nat.le_of_ble_eq_true rfl) (Nat.le_of_ble_eq_true rfl))
  refine va_callr (va_runV (As := [.int p1]) (rest := []) ⟨hx, hb, hml, hown, hts⟩ (c_X_keptAt l G p1 z1 r3 z3 hq4) (cwV 1 hts (x_gV t_558 t_560 sel_ContentLibrary_keptAt t_1 t_561) rfl rfl rfl (by decide +kernel) ⟨Nat.le_of_ble_eq_true rfl, Nat.le_of_ble_eq_true rfl⟩) ⟨x_blind _ _ _, va_recv hK hP (ci := 0) (q0 := 0) rfl (x_lk_X G _), fun U hU hW => ⟨rfl, x_pw hP hD hK hG hS hz hU hW⟩⟩ rfl rfl hl.1 rfl (lv_room (Nat.le_of_ble_eq_true rfl)) d_X_digest_6 ⟨Nat.le_of_ble_eq_true rfl, Nat.le_of_ble_eq_true rfl⟩) hS (fun q _ h => h) (fun q h => h) (fun u ra t H locs ht hvm hw hB _ _ hS => ?_)
  obtain rfl := hw
  obtain ⟨_, rfl, hr3, rfl, hB⟩ := hB
  obtain ⟨hP, hD⟩ := x_back hB ht
  refine lv_astore_n (lv' := [(3, .ref (x_ad G r3)), (0, .ref (x_ad G 0)), (1, .int p1), (2, .int p2)]) hx hb d_X_digest_9 rfl hl (by decide) rfl (fun ls hl => ?_)
  refine lv_iload_n hx hb d_X_digest_10 rfl (lv_at hl 3 rfl) ?_
  refine lv_if_lt (tgt := 20) hx hb d_X_digest_11 (by decide) (fun hc5 => ?_) (fun hc5 => ?_)
  · have hf := x_br_t hf hc5
    obtain ⟨rfl, rfl⟩ := x_retx hf
    exact e_throw (text := "a digest has the words 0 .. 7") (is := 147) hx hb hl9 hown (by decide +kernel) (by decide) (by decide +kernel) hts t_457 t_14 at_149_IndexOutOfBoundsException hG hS (hl.1.trans hml.symm) d_X_digest_20 d_X_digest_23 d_X_digest_24 d_X_digest_26 d_X_digest_29 hEx (Nat.le_of_ble_eq_true rfl) (Nat.le_of_ble_eq_true rfl) (Nat.le_of_ble_eq_true rfl) (Nat.le_of_ble_eq_true rfl) hlocks (fun t hW hsz hk => x_pwk hP hD hK hG hS hz hsz hk hW) (Nat.le_of_ble_eq_true rfl) (Nat.le_of_ble_eq_true rfl)
  · have hf := x_br_f hf hc5
    refine lv_iload_n hx hb d_X_digest_14 rfl (lv_at hl 3 rfl) ?_
    refine lv_bipush (v := (8 : Int32)) hx hb d_X_digest_15 (by decide) ?_
    refine lv_icmp_lt (tgt := 30) hx hb d_X_digest_17 (by decide) (fun hc6 => ?_) (fun hc6 => ?_)
    · have hf := x_br_t hf hc6
      refine lv_aload_n hx hb d_X_digest_30 rfl (lv_at hl 0 rfl) ?_
      refine va_get (D := x_D G) (ci := 3) (v := .ref (x_ad G (r3 + 3))) (C := "ContentLibrary$Kept") (T := x_TK) (N := 6) hx hb hts x_inK hown hK hP r3 (x_lk_K G _ hr3) rfl 2 (by decide) (hts _ t_94) (fun _ h9 => h9) rfl d_X_digest_31 ?_
      refine lv_iload_n hx hb d_X_digest_34 rfl (lv_at hl 3 rfl) ?_
      obtain ⟨hin7, hf⟩ := x_ck_some hf
      refine va_iald hx hb hK hP (r3 + 3) 0 (x_lk_A G _ (x_K_A3 hr3)) rfl hin7 d_X_digest_35 ?_
      exact absurd hf x_no_x
    · have hf := x_br_f hf hc6
      obtain ⟨rfl, rfl⟩ := x_retx hf
      exact e_throw (text := "a digest has the words 0 .. 7") (is := 147) hx hb hl9 hown (by decide +kernel) (by decide) (by decide +kernel) hts t_457 t_14 at_149_IndexOutOfBoundsException hG hS (hl.1.trans hml.symm) d_X_digest_20 d_X_digest_23 d_X_digest_24 d_X_digest_26 d_X_digest_29 hEx (Nat.le_of_ble_eq_true rfl) (Nat.le_of_ble_eq_true rfl) (Nat.le_of_ble_eq_true rfl) (Nat.le_of_ble_eq_true rfl) hlocks (fun t hW hsz hk => x_pwk hP hD hK hG hS hz hsz hk hW) (Nat.le_of_ble_eq_true rfl) (Nat.le_of_ble_eq_true rfl)
abbrev rm_X_print : Room := { frames := 7, cells := 0, slots := 0, locals := 103 }
abbrev rx_X_print : Room := { frames := 7, cells := 1, slots := 6, locals := 103 }
set_option maxHeartbeats 4000000 in
set_option maxRecDepth 100000 in
theorem c_X_print (l : Launch) (G : x_G) (p1 : Int32) (z0 : x_St) (r : Int64) (zo : x_St) (hf : f_X_print (x_n G) p1 z0 = some (Sum.inr r, zo)) : Met l (⟨"ContentLibrary", "print", "(I)J"⟩ : MethodName) (x_ws (⟨"ContentLibrary", "print", "(I)J"⟩ : MethodName) prog_1_method_6_code 2 (some .long)) rm_X_print (va_Pc [.ref (x_ad G 0), .int p1] (x_PW G z0)) (va_Ql (fun a u => r = a ∧ zo = u) (x_PW G) (x_A G)) 0 0 (x_A G) := by
  refine Met.ofW (cc := prog_1_method_6_code) (maxL := 2) (ret := (some .long)) (by decide) rfl ?_
  intro p e s m args below meth c s₁ B hml hv
  obtain ⟨rfl, hz, hP, hD, hK, hG⟩ := hv
  have C0 : x_Ctx G p s m _ meth c prog_1_method_6_code "ContentLibrary" 2 (some .long) := ⟨B.exec, B.bytes, B.returns, hml, findClass_of_methodNamed B.named, fun w h => atoms_spec (ws := (x_ws (⟨"ContentLibrary", "print", "(I)J"⟩ : MethodName) prog_1_method_6_code 2 (some .long))) B.pre w (List.mem_cons_of_mem _ h), B.notSynchronized, hz, hK, hG⟩
  obtain ⟨hx, hb, hr, hml, hown, hts, hlocks, hz, hK, hG⟩ := id C0
  have hS : va_S (x_A G) s.heap s.heap [] := va_S.rf
  have hl := lv_entry ([.ref (x_ad G 0), .int p1]) (n := 2) (Nat.le_of_ble_eq_true rfl)
  rw [lg_entry_eq]
  generalize (lg_sl ([.ref (x_ad G 0), .int p1]) ++ List.replicate (2 - (lg_sl ([.ref (x_ad G 0), .int p1])).length) Slot.unset).toArray = ls at hl ⊢
  have hl : lv_has ls 2 [(0, .ref (x_ad G 0)), (1, .int p1)] := hl
  rw [f_X_print] at hf
  refine lv_aload_n hx hb d_X_print_0 rfl (lv_at hl 0 rfl) ?_
  obtain ⟨r1, z1, hq2, hf⟩ := x_clx_r hf
  refine va_callv (va_runV (As := []) (rest := []) ⟨hx, hb, hml, hown, hts⟩ (c_X_refuseWhenCut l G z0 r1 z1 hq2) (cwV 0 hts (x_gV t_335 t_337 sel_ContentLibrary_refuseWhenCut t_1 t_338) rfl rfl rfl (by decide +kernel) ⟨Nat.le_of_ble_eq_true rfl, Nat.le_of_ble_eq_true rfl⟩) ⟨x_blind _ _ _, va_recv hK hP (ci := 0) (q0 := 0) rfl (x_lk_X G _), fun U hU hW => ⟨rfl, x_pw hP hD hK hG hS hz hU hW⟩⟩ rfl rfl hl.1 rfl (lv_room (Nat.le_of_ble_eq_true rfl)) d_X_print_1 ⟨Nat.le_of_ble_eq_true rfl, Nat.le_of_ble_eq_true rfl⟩) hS (fun q _ h => h) (fun q h => h) (fun u t H locs ht hvm hw hB _ _ hS => ?_)
  obtain ⟨rfl, rfl⟩ := hw
  obtain ⟨hP, hD⟩ := x_back hB ht
  refine lv_aload_n hx hb d_X_print_4 rfl (lv_at hl 0 rfl) ?_
  refine lv_iload_n hx hb d_X_print_5 rfl (lv_at hl 1 rfl) ?_
  obtain ⟨r3, z3, hq4, hf⟩ := x_clx_r hf
  refine va_callr (va_runV (As := [.int p1]) (rest := []) ⟨hx, hb, hml, hown, hts⟩ (c_X_keptAt l G p1 z1 r3 z3 hq4) (cwV 1 hts (x_gV t_558 t_560 sel_ContentLibrary_keptAt t_1 t_561) rfl rfl rfl (by decide +kernel) ⟨Nat.le_of_ble_eq_true rfl, Nat.le_of_ble_eq_true rfl⟩) ⟨x_blind _ _ _, va_recv hK hP (ci := 0) (q0 := 0) rfl (x_lk_X G _), fun U hU hW => ⟨rfl, x_pw hP hD hK hG hS hz hU hW⟩⟩ rfl rfl hl.1 rfl (lv_room (Nat.le_of_ble_eq_true rfl)) d_X_print_6 ⟨Nat.le_of_ble_eq_true rfl, Nat.le_of_ble_eq_true rfl⟩) hS (fun q _ h => h) (fun q h => h) (fun u ra t H locs ht hvm hw hB _ _ hS => ?_)
  obtain rfl := hw
  obtain ⟨_, rfl, hr3, rfl, hB⟩ := hB
  obtain ⟨hP, hD⟩ := x_back hB ht
  refine va_get (D := x_D G) (ci := 3) (v := .long (z3.2 r3 3)) (C := "ContentLibrary$Kept") (T := x_TK) (N := 6) hx hb hts x_inK hown hK hP r3 (x_lk_K G _ hr3) rfl 3 (by decide) (hts _ t_96) (fun _ h9 => h9) rfl d_X_print_9 ?_
  obtain ⟨rfl, rfl⟩ := x_retr hf
  exact W.lret (v := (z3.2 r3 3)) hx hb hr (fun t ht hW => ⟨⟨_, _, rfl, ⟨rfl, rfl⟩, x_pw hP hD hK hG hS hz ht hW⟩, hS.F ht⟩) hS.2.2 d_X_print_12
set_option maxHeartbeats 4000000 in
set_option maxRecDepth 100000 in
theorem c_X_print_x (l : Launch) (G : x_G) (hl9 : l.stackTraces = false) (p1 : Int32) (z0 : x_St) (E : String) (zo : x_St) (hf : f_X_print (x_n G) p1 z0 = some (Sum.inl E, zo)) : e_Met l G (⟨"ContentLibrary", "print", "(I)J"⟩ : MethodName) (x_ws (⟨"ContentLibrary", "print", "(I)J"⟩ : MethodName) prog_1_method_6_code 2 (some .long)) rx_X_print (va_Pc [.ref (x_ad G 0), .int p1] (x_PW G z0)) E zo 1 6 := by
  refine e_ofW (cc := prog_1_method_6_code) (maxL := 2) (ret := (some .long)) (by decide) rfl ?_
  intro p e s m args below meth c s₁ B hml hEx hv
  obtain ⟨rfl, hz, hP, hD, hK, hG⟩ := hv
  have C0 : x_Ctx G p s m _ meth c prog_1_method_6_code "ContentLibrary" 2 (some .long) := ⟨B.exec, B.bytes, B.returns, hml, findClass_of_methodNamed B.named, fun w h => atoms_spec (ws := (x_ws (⟨"ContentLibrary", "print", "(I)J"⟩ : MethodName) prog_1_method_6_code 2 (some .long))) B.pre w (List.mem_cons_of_mem _ h), B.notSynchronized, hz, hK, hG⟩
  obtain ⟨hx, hb, hr, hml, hown, hts, hlocks, hz, hK, hG⟩ := id C0
  have hS : va_S (x_A G) s.heap s.heap [] := va_S.rf
  have hl := lv_entry ([.ref (x_ad G 0), .int p1]) (n := 2) (Nat.le_of_ble_eq_true rfl)
  rw [lg_entry_eq]
  generalize (lg_sl ([.ref (x_ad G 0), .int p1]) ++ List.replicate (2 - (lg_sl ([.ref (x_ad G 0), .int p1])).length) Slot.unset).toArray = ls at hl ⊢
  have hl : lv_has ls 2 [(0, .ref (x_ad G 0)), (1, .int p1)] := hl
  rw [f_X_print] at hf
  refine lv_aload_n hx hb d_X_print_0 rfl (lv_at hl 0 rfl) ?_
  rcases x_clx_x hf with hq2 | ⟨r1, z1, hq2, hf⟩
  · exact e_callV (As := []) (rest := []) ⟨hx, hb, hml, hown, hts⟩ (c_X_refuseWhenCut_x l G hl9 z0 E zo hq2) (cwV 0 hts (x_gV t_335 t_337 sel_ContentLibrary_refuseWhenCut t_1 t_338) rfl rfl rfl (by decide +kernel) ⟨Nat.le_of_ble_eq_true rfl, Nat.le_of_ble_eq_true rfl⟩) ⟨x_blind _ _ _, va_recv hK hP (ci := 0) (q0 := 0) rfl (x_lk_X G _), fun U hU hW => ⟨rfl, x_pw hP hD hK hG hS hz hU hW⟩⟩ rfl hl.1 rfl (lv_room (Nat.le_of_ble_eq_true rfl)) d_X_print_1 ⟨Nat.le_of_ble_eq_true rfl, Nat.le_of_ble_eq_true rfl⟩ hz hS (fun q ce H locs hP hD hS hce hcv hcl => e_out (fun x hx => (hEx x hx).elim) hlocks hce hcv hcl hS (fun t ht hW => x_pw hP hD hK hG hS hz ht hW) (Nat.le_of_ble_eq_true rfl) (Nat.le_of_ble_eq_true rfl))
  refine va_callv (va_runV (As := []) (rest := []) ⟨hx, hb, hml, hown, hts⟩ (c_X_refuseWhenCut l G z0 r1 z1 hq2) (cwV 0 hts (x_gV t_335 t_337 sel_ContentLibrary_refuseWhenCut t_1 t_338) rfl rfl rfl (by decide +kernel) ⟨Nat.le_of_ble_eq_true rfl, Nat.le_of_ble_eq_true rfl⟩) ⟨x_blind _ _ _, va_recv hK hP (ci := 0) (q0 := 0) rfl (x_lk_X G _), fun U hU hW => ⟨rfl, x_pw hP hD hK hG hS hz hU hW⟩⟩ rfl rfl hl.1 rfl (lv_room (Nat.le_of_ble_eq_true rfl)) d_X_print_1 ⟨Nat.le_of_ble_eq_true rfl, Nat.le_of_ble_eq_true rfl⟩) hS (fun q _ h => h) (fun q h => h) (fun u t H locs ht hvm hw hB _ _ hS => ?_)
  obtain ⟨rfl, rfl⟩ := hw
  obtain ⟨hP, hD⟩ := x_back hB ht
  refine lv_aload_n hx hb d_X_print_4 rfl (lv_at hl 0 rfl) ?_
  refine lv_iload_n hx hb d_X_print_5 rfl (lv_at hl 1 rfl) ?_
  rcases x_clx_x hf with hq4 | ⟨r3, z3, hq4, hf⟩
  · exact e_callV (As := [.int p1]) (rest := []) ⟨hx, hb, hml, hown, hts⟩ (c_X_keptAt_x l G hl9 p1 z1 E zo hq4) (cwV 1 hts (x_gV t_558 t_560 sel_ContentLibrary_keptAt t_1 t_561) rfl rfl rfl (by decide +kernel) ⟨Nat.le_of_ble_eq_true rfl, Nat.le_of_ble_eq_true rfl⟩) ⟨x_blind _ _ _, va_recv hK hP (ci := 0) (q0 := 0) rfl (x_lk_X G _), fun U hU hW => ⟨rfl, x_pw hP hD hK hG hS hz hU hW⟩⟩ rfl hl.1 rfl (lv_room (Nat.le_of_ble_eq_true rfl)) d_X_print_6 ⟨Nat.le_of_ble_eq_true rfl, Nat.le_of_ble_eq_true rfl⟩ hz hS (fun q ce H locs hP hD hS hce hcv hcl => e_out (fun x hx => (hEx x hx).elim) hlocks hce hcv hcl hS (fun t ht hW => x_pw hP hD hK hG hS hz ht hW) (Nat.le_of_ble_eq_true rfl) (Nat.le_of_ble_eq_true rfl))
  refine va_callr (va_runV (As := [.int p1]) (rest := []) ⟨hx, hb, hml, hown, hts⟩ (c_X_keptAt l G p1 z1 r3 z3 hq4) (cwV 1 hts (x_gV t_558 t_560 sel_ContentLibrary_keptAt t_1 t_561) rfl rfl rfl (by decide +kernel) ⟨Nat.le_of_ble_eq_true rfl, Nat.le_of_ble_eq_true rfl⟩) ⟨x_blind _ _ _, va_recv hK hP (ci := 0) (q0 := 0) rfl (x_lk_X G _), fun U hU hW => ⟨rfl, x_pw hP hD hK hG hS hz hU hW⟩⟩ rfl rfl hl.1 rfl (lv_room (Nat.le_of_ble_eq_true rfl)) d_X_print_6 ⟨Nat.le_of_ble_eq_true rfl, Nat.le_of_ble_eq_true rfl⟩) hS (fun q _ h => h) (fun q h => h) (fun u ra t H locs ht hvm hw hB _ _ hS => ?_)
  obtain rfl := hw
  obtain ⟨_, rfl, hr3, rfl, hB⟩ := hB
  obtain ⟨hP, hD⟩ := x_back hB ht
  refine va_get (D := x_D G) (ci := 3) (v := .long (z3.2 r3 3)) (C := "ContentLibrary$Kept") (T := x_TK) (N := 6) hx hb hts x_inK hown hK hP r3 (x_lk_K G _ hr3) rfl 3 (by decide) (hts _ t_96) (fun _ h9 => h9) rfl d_X_print_9 ?_
  exact absurd hf x_no_x
abbrev rm_X_sample : Room := { frames := 7, cells := 0, slots := 0, locals := 103 }
abbrev rx_X_sample : Room := { frames := 7, cells := 1, slots := 6, locals := 103 }
set_option maxHeartbeats 4000000 in
set_option maxRecDepth 100000 in
theorem c_X_sample (l : Launch) (G : x_G) (p1 : Int32) (p2 : Int32) (p3 : Int32) (z0 : x_St) (r : Int32) (zo : x_St) (hf : f_X_sample (x_n G) p1 p2 p3 z0 = some (Sum.inr r, zo)) : Met l (⟨"ContentLibrary", "sample", "(III)I"⟩ : MethodName) (x_ws (⟨"ContentLibrary", "sample", "(III)I"⟩ : MethodName) prog_1_method_7_code 5 (some .int)) rm_X_sample (va_Pc [.ref (x_ad G 0), .int p1, .int p2, .int p3] (x_PW G z0)) (va_Qi (fun a u => r = a ∧ zo = u) (x_PW G) (x_A G)) 0 0 (x_A G) := by
  refine Met.ofW (cc := prog_1_method_7_code) (maxL := 5) (ret := (some .int)) (by decide) rfl ?_
  intro p e s m args below meth c s₁ B hml hv
  obtain ⟨rfl, hz, hP, hD, hK, hG⟩ := hv
  have C0 : x_Ctx G p s m _ meth c prog_1_method_7_code "ContentLibrary" 5 (some .int) := ⟨B.exec, B.bytes, B.returns, hml, findClass_of_methodNamed B.named, fun w h => atoms_spec (ws := (x_ws (⟨"ContentLibrary", "sample", "(III)I"⟩ : MethodName) prog_1_method_7_code 5 (some .int))) B.pre w (List.mem_cons_of_mem _ h), B.notSynchronized, hz, hK, hG⟩
  obtain ⟨hx, hb, hr, hml, hown, hts, hlocks, hz, hK, hG⟩ := id C0
  have hS : va_S (x_A G) s.heap s.heap [] := va_S.rf
  have hl := lv_entry ([.ref (x_ad G 0), .int p1, .int p2, .int p3]) (n := 5) (Nat.le_of_ble_eq_true rfl)
  rw [lg_entry_eq]
  generalize (lg_sl ([.ref (x_ad G 0), .int p1, .int p2, .int p3]) ++ List.replicate (5 - (lg_sl ([.ref (x_ad G 0), .int p1, .int p2, .int p3])).length) Slot.unset).toArray = ls at hl ⊢
  have hl : lv_has ls 5 [(0, .ref (x_ad G 0)), (1, .int p1), (2, .int p2), (3, .int p3)] := hl
  rw [f_X_sample] at hf
  refine lv_aload_n hx hb d_X_sample_0 rfl (lv_at hl 0 rfl) ?_
  obtain ⟨r1, z1, hq2, hf⟩ := x_clx_r hf
  refine va_callv (va_runV (As := []) (rest := []) ⟨hx, hb, hml, hown, hts⟩ (c_X_refuseWhenCut l G z0 r1 z1 hq2) (cwV 0 hts (x_gV t_335 t_337 sel_ContentLibrary_refuseWhenCut t_1 t_338) rfl rfl rfl (by decide +kernel) ⟨Nat.le_of_ble_eq_true rfl, Nat.le_of_ble_eq_true rfl⟩) ⟨x_blind _ _ _, va_recv hK hP (ci := 0) (q0 := 0) rfl (x_lk_X G _), fun U hU hW => ⟨rfl, x_pw hP hD hK hG hS hz hU hW⟩⟩ rfl rfl hl.1 rfl (lv_room (Nat.le_of_ble_eq_true rfl)) d_X_sample_1 ⟨Nat.le_of_ble_eq_true rfl, Nat.le_of_ble_eq_true rfl⟩) hS (fun q _ h => h) (fun q h => h) (fun u t H locs ht hvm hw hB _ _ hS => ?_)
  obtain ⟨rfl, rfl⟩ := hw
  obtain ⟨hP, hD⟩ := x_back hB ht
  refine lv_aload_n hx hb d_X_sample_4 rfl (lv_at hl 0 rfl) ?_
  refine lv_iload_n hx hb d_X_sample_5 rfl (lv_at hl 1 rfl) ?_
  obtain ⟨r3, z3, hq4, hf⟩ := x_clx_r hf
  refine va_callr (va_runV (As := [.int p1]) (rest := []) ⟨hx, hb, hml, hown, hts⟩ (c_X_keptAt l G p1 z1 r3 z3 hq4) (cwV 1 hts (x_gV t_558 t_560 sel_ContentLibrary_keptAt t_1 t_561) rfl rfl rfl (by decide +kernel) ⟨Nat.le_of_ble_eq_true rfl, Nat.le_of_ble_eq_true rfl⟩) ⟨x_blind _ _ _, va_recv hK hP (ci := 0) (q0 := 0) rfl (x_lk_X G _), fun U hU hW => ⟨rfl, x_pw hP hD hK hG hS hz hU hW⟩⟩ rfl rfl hl.1 rfl (lv_room (Nat.le_of_ble_eq_true rfl)) d_X_sample_6 ⟨Nat.le_of_ble_eq_true rfl, Nat.le_of_ble_eq_true rfl⟩) hS (fun q _ h => h) (fun q h => h) (fun u ra t H locs ht hvm hw hB _ _ hS => ?_)
  obtain rfl := hw
  obtain ⟨_, rfl, hr3, rfl, hB⟩ := hB
  obtain ⟨hP, hD⟩ := x_back hB ht
  refine va_get (D := x_D G) (ci := 3) (v := .ref (x_ad G (r3 + 1))) (C := "ContentLibrary$Kept") (T := x_TK) (N := 6) hx hb hts x_inK hown hK hP r3 (x_lk_K G _ hr3) rfl 1 (by decide) (hts _ t_92) (fun _ h9 => h9) rfl d_X_sample_9 ?_
  refine lv_astore (lv' := [(4, .ref (x_ad G (r3 + 1))), (0, .ref (x_ad G 0)), (1, .int p1), (2, .int p2), (3, .int p3)]) hx hb d_X_sample_12 hl (by decide) rfl (fun ls hl => ?_)
  refine lv_iload_n hx hb d_X_sample_14 rfl (lv_at hl 3 rfl) ?_
  refine lv_if_lt (tgt := 40) hx hb d_X_sample_15 (by decide) (fun hc5 => ?_) (fun hc5 => ?_)
  · have hf := x_br_t hf hc5
    exact absurd hf x_no_r
  · have hf := x_br_f hf hc5
    refine lv_iload_n hx hb d_X_sample_18 rfl (lv_at hl 3 rfl) ?_
    refine lv_aload hx hb d_X_sample_19 (lv_at hl 0 rfl) ?_
    obtain ⟨r6, z6, hq7, hf⟩ := x_cl_some hf
    refine va_calli (va_runV (As := []) (rest := [.int p2]) ⟨hx, hb, hml, hown, hts⟩ (c_P_width l G (r3 + 1) (x_K_P hr3) z3 r6 z6 hq7) (cwV 0 hts (x_gV t_578 t_220 t_221 t_4 t_222) rfl rfl rfl (by decide +kernel) ⟨Nat.le_of_ble_eq_true rfl, Nat.le_of_ble_eq_true rfl⟩) ⟨x_blind _ _ _, va_recv hK hP (ci := 2) (q0 := (r3 + 1)) rfl (x_lk_P G _ (x_K_P hr3)), fun U hU hW => ⟨rfl, x_pw hP hD hK hG hS hz hU hW⟩⟩ rfl rfl hl.1 rfl (lv_room (Nat.le_of_ble_eq_true rfl)) d_X_sample_21 ⟨Nat.le_of_ble_eq_true rfl, Nat.le_of_ble_eq_true rfl⟩) hS (fun q _ h => h) (fun q h => h) (fun ra u t H locs ht hvm hw hB _ _ hS => ?_)
    obtain ⟨rfl, rfl⟩ := hw
    obtain ⟨hP, hD⟩ := x_back hB ht
    refine lv_icmp_ge (tgt := 40) hx hb d_X_sample_24 (by decide) (fun hc8 => ?_) (fun hc8 => ?_)
    · have hf := x_br_t hf hc8
      exact absurd hf x_no_r
    · have hf := x_br_f hf hc8
      refine lv_iload_n hx hb d_X_sample_27 rfl (lv_at hl 4 rfl) ?_
      refine lv_if_lt (tgt := 40) hx hb d_X_sample_28 (by decide) (fun hc9 => ?_) (fun hc9 => ?_)
      · have hf := x_br_t hf hc9
        exact absurd hf x_no_r
      · have hf := x_br_f hf hc9
        refine lv_iload_n hx hb d_X_sample_31 rfl (lv_at hl 4 rfl) ?_
        refine lv_aload hx hb d_X_sample_32 (lv_at hl 0 rfl) ?_
        obtain ⟨r10, z10, hq11, hf⟩ := x_cl_some hf
        refine va_calli (va_runV (As := []) (rest := [.int p3]) ⟨hx, hb, hml, hown, hts⟩ (c_P_height l G (r3 + 1) (x_K_P hr3) z6 r10 z10 hq11) (cwV 0 hts (x_gV t_579 t_227 t_228 t_4 t_229) rfl rfl rfl (by decide +kernel) ⟨Nat.le_of_ble_eq_true rfl, Nat.le_of_ble_eq_true rfl⟩) ⟨x_blind _ _ _, va_recv hK hP (ci := 2) (q0 := (r3 + 1)) rfl (x_lk_P G _ (x_K_P hr3)), fun U hU hW => ⟨rfl, x_pw hP hD hK hG hS hz hU hW⟩⟩ rfl rfl hl.1 rfl (lv_room (Nat.le_of_ble_eq_true rfl)) d_X_sample_34 ⟨Nat.le_of_ble_eq_true rfl, Nat.le_of_ble_eq_true rfl⟩) hS (fun q _ h => h) (fun q h => h) (fun ra u t H locs ht hvm hw hB _ _ hS => ?_)
        obtain ⟨rfl, rfl⟩ := hw
        obtain ⟨hP, hD⟩ := x_back hB ht
        refine lv_icmp_lt (tgt := 50) hx hb d_X_sample_37 (by decide) (fun hc12 => ?_) (fun hc12 => ?_)
        · have hf := x_br_t hf hc12
          refine lv_aload hx hb d_X_sample_50 (lv_at hl 0 rfl) ?_
          refine lv_iload_n hx hb d_X_sample_52 rfl (lv_at hl 3 rfl) ?_
          refine lv_iload_n hx hb d_X_sample_53 rfl (lv_at hl 4 rfl) ?_
          obtain ⟨r13, z13, hq14, hf⟩ := x_cl_some hf
          refine va_calli (va_runV (As := [.int p2, .int p3]) (rest := []) ⟨hx, hb, hml, hown, hts⟩ (c_P_at l G (r3 + 1) (x_K_P hr3) p2 p3 z10 r13 z13 hq14) (cwV 2 hts (x_gV t_581 t_290 t_291 t_4 t_292) rfl rfl rfl (by decide +kernel) ⟨Nat.le_of_ble_eq_true rfl, Nat.le_of_ble_eq_true rfl⟩) ⟨x_blind _ _ _, va_recv hK hP (ci := 2) (q0 := (r3 + 1)) rfl (x_lk_P G _ (x_K_P hr3)), fun U hU hW => ⟨rfl, x_pw hP hD hK hG hS hz hU hW⟩⟩ rfl rfl hl.1 rfl (lv_room (Nat.le_of_ble_eq_true rfl)) d_X_sample_54 ⟨Nat.le_of_ble_eq_true rfl, Nat.le_of_ble_eq_true rfl⟩) hS (fun q _ h => h) (fun q h => h) (fun ra u t H locs ht hvm hw hB _ _ hS => ?_)
          obtain ⟨rfl, rfl⟩ := hw
          obtain ⟨hP, hD⟩ := x_back hB ht
          obtain ⟨rfl, rfl⟩ := x_retr hf
          exact W.iret (v := r13) hx hb hr (fun t ht hW => ⟨⟨_, _, rfl, ⟨rfl, rfl⟩, x_pw hP hD hK hG hS hz ht hW⟩, hS.F ht⟩) hS.2.2 d_X_sample_57
        · have hf := x_br_f hf hc12
          exact absurd hf x_no_r
set_option maxHeartbeats 4000000 in
set_option maxRecDepth 100000 in
theorem c_X_sample_x (l : Launch) (G : x_G) (hl9 : l.stackTraces = false) (p1 : Int32) (p2 : Int32) (p3 : Int32) (z0 : x_St) (E : String) (zo : x_St) (hf : f_X_sample (x_n G) p1 p2 p3 z0 = some (Sum.inl E, zo)) : e_Met l G (⟨"ContentLibrary", "sample", "(III)I"⟩ : MethodName) (x_ws (⟨"ContentLibrary", "sample", "(III)I"⟩ : MethodName) prog_1_method_7_code 5 (some .int)) rx_X_sample (va_Pc [.ref (x_ad G 0), .int p1, .int p2, .int p3] (x_PW G z0)) E zo 1 6 := by
  refine e_ofW (cc := prog_1_method_7_code) (maxL := 5) (ret := (some .int)) (by decide) rfl ?_
  intro p e s m args below meth c s₁ B hml hEx hv
  obtain ⟨rfl, hz, hP, hD, hK, hG⟩ := hv
  have C0 : x_Ctx G p s m _ meth c prog_1_method_7_code "ContentLibrary" 5 (some .int) := ⟨B.exec, B.bytes, B.returns, hml, findClass_of_methodNamed B.named, fun w h => atoms_spec (ws := (x_ws (⟨"ContentLibrary", "sample", "(III)I"⟩ : MethodName) prog_1_method_7_code 5 (some .int))) B.pre w (List.mem_cons_of_mem _ h), B.notSynchronized, hz, hK, hG⟩
  obtain ⟨hx, hb, hr, hml, hown, hts, hlocks, hz, hK, hG⟩ := id C0
  have hS : va_S (x_A G) s.heap s.heap [] := va_S.rf
  have hl := lv_entry ([.ref (x_ad G 0), .int p1, .int p2, .int p3]) (n := 5) (Nat.le_of_ble_eq_true rfl)
  rw [lg_entry_eq]
  generalize (lg_sl ([.ref (x_ad G 0), .int p1, .int p2, .int p3]) ++ List.replicate (5 - (lg_sl ([.ref (x_ad G 0), .int p1, .int p2, .int p3])).length) Slot.unset).toArray = ls at hl ⊢
  have hl : lv_has ls 5 [(0, .ref (x_ad G 0)), (1, .int p1), (2, .int p2), (3, .int p3)] := hl
  rw [f_X_sample] at hf
  refine lv_aload_n hx hb d_X_sample_0 rfl (lv_at hl 0 rfl) ?_
  rcases x_clx_x hf with hq2 | ⟨r1, z1, hq2, hf⟩
  · exact e_callV (As := []) (rest := []) ⟨hx, hb, hml, hown, hts⟩ (c_X_refuseWhenCut_x l G hl9 z0 E zo hq2) (cwV 0 hts (x_gV t_335 t_337 sel_ContentLibrary_refuseWhenCut t_1 t_338) rfl rfl rfl (by decide +kernel) ⟨Nat.le_of_ble_eq_true rfl, Nat.le_of_ble_eq_true rfl⟩) ⟨x_blind _ _ _, va_recv hK hP (ci := 0) (q0 := 0) rfl (x_lk_X G _), fun U hU hW => ⟨rfl, x_pw hP hD hK hG hS hz hU hW⟩⟩ rfl hl.1 rfl (lv_room (Nat.le_of_ble_eq_true rfl)) d_X_sample_1 ⟨Nat.le_of_ble_eq_true rfl, Nat.le_of_ble_eq_true rfl⟩ hz hS (fun q ce H locs hP hD hS hce hcv hcl => e_out (fun x hx => (hEx x hx).elim) hlocks hce hcv hcl hS (fun t ht hW => x_pw hP hD hK hG hS hz ht hW) (Nat.le_of_ble_eq_true rfl) (Nat.le_of_ble_eq_true rfl))
  refine va_callv (va_runV (As := []) (rest := []) ⟨hx, hb, hml, hown, hts⟩ (c_X_refuseWhenCut l G z0 r1 z1 hq2) (cwV 0 hts (x_gV t_335 t_337 sel_ContentLibrary_refuseWhenCut t_1 t_338) rfl rfl rfl (by decide +kernel) ⟨Nat.le_of_ble_eq_true rfl, Nat.le_of_ble_eq_true rfl⟩) ⟨x_blind _ _ _, va_recv hK hP (ci := 0) (q0 := 0) rfl (x_lk_X G _), fun U hU hW => ⟨rfl, x_pw hP hD hK hG hS hz hU hW⟩⟩ rfl rfl hl.1 rfl (lv_room (Nat.le_of_ble_eq_true rfl)) d_X_sample_1 ⟨Nat.le_of_ble_eq_true rfl, Nat.le_of_ble_eq_true rfl⟩) hS (fun q _ h => h) (fun q h => h) (fun u t H locs ht hvm hw hB _ _ hS => ?_)
  obtain ⟨rfl, rfl⟩ := hw
  obtain ⟨hP, hD⟩ := x_back hB ht
  refine lv_aload_n hx hb d_X_sample_4 rfl (lv_at hl 0 rfl) ?_
  refine lv_iload_n hx hb d_X_sample_5 rfl (lv_at hl 1 rfl) ?_
  rcases x_clx_x hf with hq4 | ⟨r3, z3, hq4, hf⟩
  · exact e_callV (As := [.int p1]) (rest := []) ⟨hx, hb, hml, hown, hts⟩ (c_X_keptAt_x l G hl9 p1 z1 E zo hq4) (cwV 1 hts (x_gV t_558 t_560 sel_ContentLibrary_keptAt t_1 t_561) rfl rfl rfl (by decide +kernel) ⟨Nat.le_of_ble_eq_true rfl, Nat.le_of_ble_eq_true rfl⟩) ⟨x_blind _ _ _, va_recv hK hP (ci := 0) (q0 := 0) rfl (x_lk_X G _), fun U hU hW => ⟨rfl, x_pw hP hD hK hG hS hz hU hW⟩⟩ rfl hl.1 rfl (lv_room (Nat.le_of_ble_eq_true rfl)) d_X_sample_6 ⟨Nat.le_of_ble_eq_true rfl, Nat.le_of_ble_eq_true rfl⟩ hz hS (fun q ce H locs hP hD hS hce hcv hcl => e_out (fun x hx => (hEx x hx).elim) hlocks hce hcv hcl hS (fun t ht hW => x_pw hP hD hK hG hS hz ht hW) (Nat.le_of_ble_eq_true rfl) (Nat.le_of_ble_eq_true rfl))
  refine va_callr (va_runV (As := [.int p1]) (rest := []) ⟨hx, hb, hml, hown, hts⟩ (c_X_keptAt l G p1 z1 r3 z3 hq4) (cwV 1 hts (x_gV t_558 t_560 sel_ContentLibrary_keptAt t_1 t_561) rfl rfl rfl (by decide +kernel) ⟨Nat.le_of_ble_eq_true rfl, Nat.le_of_ble_eq_true rfl⟩) ⟨x_blind _ _ _, va_recv hK hP (ci := 0) (q0 := 0) rfl (x_lk_X G _), fun U hU hW => ⟨rfl, x_pw hP hD hK hG hS hz hU hW⟩⟩ rfl rfl hl.1 rfl (lv_room (Nat.le_of_ble_eq_true rfl)) d_X_sample_6 ⟨Nat.le_of_ble_eq_true rfl, Nat.le_of_ble_eq_true rfl⟩) hS (fun q _ h => h) (fun q h => h) (fun u ra t H locs ht hvm hw hB _ _ hS => ?_)
  obtain rfl := hw
  obtain ⟨_, rfl, hr3, rfl, hB⟩ := hB
  obtain ⟨hP, hD⟩ := x_back hB ht
  refine va_get (D := x_D G) (ci := 3) (v := .ref (x_ad G (r3 + 1))) (C := "ContentLibrary$Kept") (T := x_TK) (N := 6) hx hb hts x_inK hown hK hP r3 (x_lk_K G _ hr3) rfl 1 (by decide) (hts _ t_92) (fun _ h9 => h9) rfl d_X_sample_9 ?_
  refine lv_astore (lv' := [(4, .ref (x_ad G (r3 + 1))), (0, .ref (x_ad G 0)), (1, .int p1), (2, .int p2), (3, .int p3)]) hx hb d_X_sample_12 hl (by decide) rfl (fun ls hl => ?_)
  refine lv_iload_n hx hb d_X_sample_14 rfl (lv_at hl 3 rfl) ?_
  refine lv_if_lt (tgt := 40) hx hb d_X_sample_15 (by decide) (fun hc5 => ?_) (fun hc5 => ?_)
  · have hf := x_br_t hf hc5
    obtain ⟨rfl, rfl⟩ := x_retx hf
    exact e_throw (text := "no such sample") (is := 167) hx hb hl9 hown (by decide +kernel) (by decide) (by decide +kernel) hts t_457 t_14 at_149_IndexOutOfBoundsException hG hS (hl.1.trans hml.symm) d_X_sample_40 d_X_sample_43 d_X_sample_44 d_X_sample_46 d_X_sample_49 hEx (Nat.le_of_ble_eq_true rfl) (Nat.le_of_ble_eq_true rfl) (Nat.le_of_ble_eq_true rfl) (Nat.le_of_ble_eq_true rfl) hlocks (fun t hW hsz hk => x_pwk hP hD hK hG hS hz hsz hk hW) (Nat.le_of_ble_eq_true rfl) (Nat.le_of_ble_eq_true rfl)
  · have hf := x_br_f hf hc5
    refine lv_iload_n hx hb d_X_sample_18 rfl (lv_at hl 3 rfl) ?_
    refine lv_aload hx hb d_X_sample_19 (lv_at hl 0 rfl) ?_
    obtain ⟨r6, z6, hq7, hf⟩ := x_cl_some hf
    refine va_calli (va_runV (As := []) (rest := [.int p2]) ⟨hx, hb, hml, hown, hts⟩ (c_P_width l G (r3 + 1) (x_K_P hr3) z3 r6 z6 hq7) (cwV 0 hts (x_gV t_578 t_220 t_221 t_4 t_222) rfl rfl rfl (by decide +kernel) ⟨Nat.le_of_ble_eq_true rfl, Nat.le_of_ble_eq_true rfl⟩) ⟨x_blind _ _ _, va_recv hK hP (ci := 2) (q0 := (r3 + 1)) rfl (x_lk_P G _ (x_K_P hr3)), fun U hU hW => ⟨rfl, x_pw hP hD hK hG hS hz hU hW⟩⟩ rfl rfl hl.1 rfl (lv_room (Nat.le_of_ble_eq_true rfl)) d_X_sample_21 ⟨Nat.le_of_ble_eq_true rfl, Nat.le_of_ble_eq_true rfl⟩) hS (fun q _ h => h) (fun q h => h) (fun ra u t H locs ht hvm hw hB _ _ hS => ?_)
    obtain ⟨rfl, rfl⟩ := hw
    obtain ⟨hP, hD⟩ := x_back hB ht
    refine lv_icmp_ge (tgt := 40) hx hb d_X_sample_24 (by decide) (fun hc8 => ?_) (fun hc8 => ?_)
    · have hf := x_br_t hf hc8
      obtain ⟨rfl, rfl⟩ := x_retx hf
      exact e_throw (text := "no such sample") (is := 167) hx hb hl9 hown (by decide +kernel) (by decide) (by decide +kernel) hts t_457 t_14 at_149_IndexOutOfBoundsException hG hS (hl.1.trans hml.symm) d_X_sample_40 d_X_sample_43 d_X_sample_44 d_X_sample_46 d_X_sample_49 hEx (Nat.le_of_ble_eq_true rfl) (Nat.le_of_ble_eq_true rfl) (Nat.le_of_ble_eq_true rfl) (Nat.le_of_ble_eq_true rfl) hlocks (fun t hW hsz hk => x_pwk hP hD hK hG hS hz hsz hk hW) (Nat.le_of_ble_eq_true rfl) (Nat.le_of_ble_eq_true rfl)
    · have hf := x_br_f hf hc8
      refine lv_iload_n hx hb d_X_sample_27 rfl (lv_at hl 4 rfl) ?_
      refine lv_if_lt (tgt := 40) hx hb d_X_sample_28 (by decide) (fun hc9 => ?_) (fun hc9 => ?_)
      · have hf := x_br_t hf hc9
        obtain ⟨rfl, rfl⟩ := x_retx hf
        exact e_throw (text := "no such sample") (is := 167) hx hb hl9 hown (by decide +kernel) (by decide) (by decide +kernel) hts t_457 t_14 at_149_IndexOutOfBoundsException hG hS (hl.1.trans hml.symm) d_X_sample_40 d_X_sample_43 d_X_sample_44 d_X_sample_46 d_X_sample_49 hEx (Nat.le_of_ble_eq_true rfl) (Nat.le_of_ble_eq_true rfl) (Nat.le_of_ble_eq_true rfl) (Nat.le_of_ble_eq_true rfl) hlocks (fun t hW hsz hk => x_pwk hP hD hK hG hS hz hsz hk hW) (Nat.le_of_ble_eq_true rfl) (Nat.le_of_ble_eq_true rfl)
      · have hf := x_br_f hf hc9
        refine lv_iload_n hx hb d_X_sample_31 rfl (lv_at hl 4 rfl) ?_
        refine lv_aload hx hb d_X_sample_32 (lv_at hl 0 rfl) ?_
        obtain ⟨r10, z10, hq11, hf⟩ := x_cl_some hf
        refine va_calli (va_runV (As := []) (rest := [.int p3]) ⟨hx, hb, hml, hown, hts⟩ (c_P_height l G (r3 + 1) (x_K_P hr3) z6 r10 z10 hq11) (cwV 0 hts (x_gV t_579 t_227 t_228 t_4 t_229) rfl rfl rfl (by decide +kernel) ⟨Nat.le_of_ble_eq_true rfl, Nat.le_of_ble_eq_true rfl⟩) ⟨x_blind _ _ _, va_recv hK hP (ci := 2) (q0 := (r3 + 1)) rfl (x_lk_P G _ (x_K_P hr3)), fun U hU hW => ⟨rfl, x_pw hP hD hK hG hS hz hU hW⟩⟩ rfl rfl hl.1 rfl (lv_room (Nat.le_of_ble_eq_true rfl)) d_X_sample_34 ⟨Nat.le_of_ble_eq_true rfl, Nat.le_of_ble_eq_true rfl⟩) hS (fun q _ h => h) (fun q h => h) (fun ra u t H locs ht hvm hw hB _ _ hS => ?_)
        obtain ⟨rfl, rfl⟩ := hw
        obtain ⟨hP, hD⟩ := x_back hB ht
        refine lv_icmp_lt (tgt := 50) hx hb d_X_sample_37 (by decide) (fun hc12 => ?_) (fun hc12 => ?_)
        · have hf := x_br_t hf hc12
          refine lv_aload hx hb d_X_sample_50 (lv_at hl 0 rfl) ?_
          refine lv_iload_n hx hb d_X_sample_52 rfl (lv_at hl 3 rfl) ?_
          refine lv_iload_n hx hb d_X_sample_53 rfl (lv_at hl 4 rfl) ?_
          obtain ⟨r13, z13, hq14, hf⟩ := x_cl_some hf
          refine va_calli (va_runV (As := [.int p2, .int p3]) (rest := []) ⟨hx, hb, hml, hown, hts⟩ (c_P_at l G (r3 + 1) (x_K_P hr3) p2 p3 z10 r13 z13 hq14) (cwV 2 hts (x_gV t_581 t_290 t_291 t_4 t_292) rfl rfl rfl (by decide +kernel) ⟨Nat.le_of_ble_eq_true rfl, Nat.le_of_ble_eq_true rfl⟩) ⟨x_blind _ _ _, va_recv hK hP (ci := 2) (q0 := (r3 + 1)) rfl (x_lk_P G _ (x_K_P hr3)), fun U hU hW => ⟨rfl, x_pw hP hD hK hG hS hz hU hW⟩⟩ rfl rfl hl.1 rfl (lv_room (Nat.le_of_ble_eq_true rfl)) d_X_sample_54 ⟨Nat.le_of_ble_eq_true rfl, Nat.le_of_ble_eq_true rfl⟩) hS (fun q _ h => h) (fun q h => h) (fun ra u t H locs ht hvm hw hB _ _ hS => ?_)
          obtain ⟨rfl, rfl⟩ := hw
          obtain ⟨hP, hD⟩ := x_back hB ht
          exact absurd hf x_no_x
        · have hf := x_br_f hf hc12
          obtain ⟨rfl, rfl⟩ := x_retx hf
          exact e_throw (text := "no such sample") (is := 167) hx hb hl9 hown (by decide +kernel) (by decide) (by decide +kernel) hts t_457 t_14 at_149_IndexOutOfBoundsException hG hS (hl.1.trans hml.symm) d_X_sample_40 d_X_sample_43 d_X_sample_44 d_X_sample_46 d_X_sample_49 hEx (Nat.le_of_ble_eq_true rfl) (Nat.le_of_ble_eq_true rfl) (Nat.le_of_ble_eq_true rfl) (Nat.le_of_ble_eq_true rfl) hlocks (fun t hW hsz hk => x_pwk hP hD hK hG hS hz hsz hk hW) (Nat.le_of_ble_eq_true rfl) (Nat.le_of_ble_eq_true rfl)
abbrev rm_X_near : Room := { frames := 7, cells := 0, slots := 0, locals := 103 }
abbrev rx_X_near : Room := { frames := 7, cells := 1, slots := 6, locals := 103 }
set_option maxHeartbeats 4000000 in
set_option maxRecDepth 100000 in
theorem w_X_near_106 (l : Launch) (G : x_G) {p : Program} {e : Env} {s : State} {m : MethodId} {args : Array Value} {below : List Frame} {meth : Method} {c : Code} (C0 : x_Ctx G p s m args meth c prog_1_method_8_code "ContentLibrary" 8 (some .int)) (r : Int32) (zo : x_St) : ∀ (z0 : x_St), f_X_near_106 (x_n G)  z0 = some (Sum.inr r, zo) → ∀ (H : Heap) (locs : List Loc) (ls : Array Slot), va_P (x_D G) vwCl (x_Wd G z0) H → va_D (x_A G) (x_Wd G z0) → va_S (x_A G) s.heap H locs → lv_has ls 8 [(0, .ref (x_ad G 0))] → W p l e rm_X_near s m args below meth c H locs 0 0 (MQ below (va_Qi (fun a u => r = a ∧ zo = u) (x_PW G) (x_A G)) args s 0 0 (x_A G)) (F0 m 106 ls []) := by
  obtain ⟨hx, hb, hr, hml, hown, hts, hlocks, hz, hK, hG⟩ := id C0
  intro  z0 hf H locs ls hP hD hS hl
  rw [f_X_near_106] at hf
  refine lv_aload_n hx hb d_X_near_106 rfl (lv_at hl 0 rfl) ?_
  refine va_get (D := x_D G) (ci := 0) (v := .int (z0.1 0 8)) (C := "ContentLibrary") (T := x_TX) (N := 9) hx hb hts x_inX hown hK hP 0 (x_lk_X G _) rfl 8 (by decide) (hts _ t_138) (fun _ h9 => h9) rfl d_X_near_107 ?_
  obtain ⟨rfl, rfl⟩ := x_retr hf
  exact W.iret (v := (z0.1 0 8)) hx hb hr (fun t ht hW => ⟨⟨_, _, rfl, ⟨rfl, rfl⟩, x_pw hP hD hK hG hS hz ht hW⟩, hS.F ht⟩) hS.2.2 d_X_near_110
set_option maxHeartbeats 4000000 in
set_option maxRecDepth 100000 in
theorem w_X_near_48 (l : Launch) (G : x_G) {p : Program} {e : Env} {s : State} {m : MethodId} {args : Array Value} {below : List Frame} {meth : Method} {c : Code} (C0 : x_Ctx G p s m args meth c prog_1_method_8_code "ContentLibrary" 8 (some .int)) (r : Int32) (zo : x_St) : ∀ (fu : Nat), ∀ (a2 : Int32) (a4 : Int64) (a6 : Int32) (z0 : x_St), f_X_near_48 (x_n G) fu a2 a4 a6 z0 = some (Sum.inr r, zo) → ∀ (H : Heap) (locs : List Loc) (ls : Array Slot), va_P (x_D G) vwCl (x_Wd G z0) H → va_D (x_A G) (x_Wd G z0) → va_S (x_A G) s.heap H locs → lv_has ls 8 [(0, .ref (x_ad G 0)), (2, .int a2), (4, .long a4), (6, .int a6)] → W p l e rm_X_near s m args below meth c H locs 0 0 (MQ below (va_Qi (fun a u => r = a ∧ zo = u) (x_PW G) (x_A G)) args s 0 0 (x_A G)) (F0 m 48 ls []) := by
  obtain ⟨hx, hb, hr, hml, hown, hts, hlocks, hz, hK, hG⟩ := id C0
  intro fu
  induction fu with
  | zero =>
    intro a2 a4 a6 z0 hf
    rw [f_X_near_48] at hf
    cases hf
  | succ fu ih =>
    intro a2 a4 a6 z0 hf H locs ls hP hD hS hl
    rw [f_X_near_48] at hf
    refine lv_iload hx hb d_X_near_48 (lv_at hl 3 rfl) ?_
    refine lv_bipush (v := (16 : Int32)) hx hb d_X_near_50 (by decide) ?_
    refine lv_icmp_ge (tgt := 106) hx hb d_X_near_52 (by decide) (fun hc1 => ?_) (fun hc1 => ?_)
    · have hf := x_br_t hf hc1
      exact w_X_near_106 l G C0 r zo z0 hf _ _ _ hP hD hS (lv_sub hl [0] rfl)
    · have hf := x_br_f hf hc1
      refine lv_aload_n hx hb d_X_near_55 rfl (lv_at hl 0 rfl) ?_
      refine va_get (D := x_D G) (ci := 0) (v := .ref (x_ad G 22)) (C := "ContentLibrary") (T := x_TX) (N := 9) hx hb hts x_inX hown hK hP 0 (x_lk_X G _) rfl 3 (by decide) (hts _ t_133) (fun _ h9 => h9) rfl d_X_near_56 ?_
      refine lv_iload hx hb d_X_near_59 (lv_at hl 3 rfl) ?_
      obtain ⟨hin2, hf⟩ := x_ck_some hf
      refine va_aldq hx hb hK hP 22 3 (x_lk_kept G _) rfl hin2 d_X_near_61 ?_
      refine W.eq (g2 := F0 m 62 ls [.ref (x_ad G (23 + 5 * (a6).toNatClampNeg))]) rfl ?_
      refine va_get (D := x_D G) (ci := 3) (v := .int (z0.1 (23 + 5 * (a6).toNatClampNeg) 0)) (C := "ContentLibrary$Kept") (T := x_TK) (N := 6) hx hb hts x_inK hown hK hP (23 + 5 * (a6).toNatClampNeg) (x_lk_K G _ (x_el_K hin2)) rfl 0 (by decide) (hts _ t_90) (fun _ h9 => h9) rfl d_X_near_62 ?_
      refine lv_if_eq (tgt := 100) hx hb d_X_near_65 (by decide) (fun hc3 => ?_) (fun hc3 => ?_)
      · have hf := x_br_t hf hc3
        refine lv_iinc (v := (a6 + (1 : Int32))) (lv' := [(6, .int (a6 + (1 : Int32))), (0, .ref (x_ad G 0)), (2, .int a2), (4, .long a4)]) hx hb d_X_near_100 hl (k := 3) rfl rfl (by decide) rfl (fun ls hl => ?_)
        refine lv_goto (tgt := 48) hx hb d_X_near_103 (by decide) ?_
        exact ih a2 a4 (a6 + (1 : Int32)) z0 hf _ _ _ hP hD hS (lv_sub hl [1, 2, 3, 0] rfl)
      · have hf := x_br_f hf hc3
        refine lv_lload hx hb d_X_near_68 (lv_at hl 2 rfl) ?_
        refine lv_aload_n hx hb d_X_near_70 rfl (lv_at hl 0 rfl) ?_
        refine va_get (D := x_D G) (ci := 0) (v := .ref (x_ad G 22)) (C := "ContentLibrary") (T := x_TX) (N := 9) hx hb hts x_inX hown hK hP 0 (x_lk_X G _) rfl 3 (by decide) (hts _ t_133) (fun _ h9 => h9) rfl d_X_near_71 ?_
        refine lv_iload hx hb d_X_near_74 (lv_at hl 3 rfl) ?_
        obtain ⟨hin4, hf⟩ := x_ck_some hf
        refine va_aldq hx hb hK hP 22 3 (x_lk_kept G _) rfl hin4 d_X_near_76 ?_
        refine W.eq (g2 := F0 m 77 ls [.ref (x_ad G (23 + 5 * (a6).toNatClampNeg)), .long a4]) rfl ?_
        refine va_get (D := x_D G) (ci := 3) (v := .long (z0.2 (23 + 5 * (a6).toNatClampNeg) 3)) (C := "ContentLibrary$Kept") (T := x_TK) (N := 6) hx hb hts x_inK hown hK hP (23 + 5 * (a6).toNatClampNeg) (x_lk_K G _ (x_el_K hin4)) rfl 3 (by decide) (hts _ t_96) (fun _ h9 => h9) rfl d_X_near_77 ?_
        refine lv_lxor hx hb d_X_near_80 ?_
        obtain ⟨r5, z5, hq6, hf⟩ := x_cl_some hf
        refine va_calli (va_runS (As := [.long (a4 ^^^ (z0.2 (23 + 5 * (a6).toNatClampNeg) 3))]) (rest := []) ⟨hx, hb, hml, hown, hts⟩ (c_Long_bitCount l G (a4 ^^^ (z0.2 (23 + 5 * (a6).toNatClampNeg) 3)) z0 r5 z5 hq6) (va_cwS 1 hts (x_gS t_590 t_591 t_18 t_592) rfl rfl rfl (by decide +kernel) ⟨Nat.le_of_ble_eq_true rfl, Nat.le_of_ble_eq_true rfl⟩) ⟨x_blind _ _ _, fun U hU hW => ⟨rfl, x_pw hP hD hK hG hS hz hU hW⟩⟩ rfl rfl hl.1 rfl (lv_room (Nat.le_of_ble_eq_true rfl)) d_X_near_81 ⟨Nat.le_of_ble_eq_true rfl, Nat.le_of_ble_eq_true rfl⟩) hS (fun q _ h => h) (fun q h => h) (fun ra u t H locs ht hvm hw hB _ _ hS => ?_)
        obtain ⟨rfl, rfl⟩ := hw
        obtain ⟨hP, hD⟩ := x_back hB ht
        refine lv_istore (lv' := [(7, .int r5), (0, .ref (x_ad G 0)), (2, .int a2), (4, .long a4), (6, .int a6)]) hx hb d_X_near_84 hl (by decide) rfl (fun ls hl => ?_)
        refine lv_iload hx hb d_X_near_86 (lv_at hl 0 rfl) ?_
        refine lv_iload_n hx hb d_X_near_88 rfl (lv_at hl 2 rfl) ?_
        refine lv_icmp_gt (tgt := 100) hx hb d_X_near_89 (by decide) (fun hc7 => ?_) (fun hc7 => ?_)
        · have hf := x_br_t hf hc7
          refine lv_iinc (v := (a6 + (1 : Int32))) (lv' := [(6, .int (a6 + (1 : Int32))), (7, .int r5), (0, .ref (x_ad G 0)), (2, .int a2), (4, .long a4)]) hx hb d_X_near_100 hl (k := 4) rfl rfl (by decide) rfl (fun ls hl => ?_)
          refine lv_goto (tgt := 48) hx hb d_X_near_103 (by decide) ?_
          exact ih a2 a4 (a6 + (1 : Int32)) z5 hf _ _ _ hP hD hS (lv_sub hl [2, 3, 4, 0] rfl)
        · have hf := x_br_f hf hc7
          refine lv_aload_n hx hb d_X_near_92 rfl (lv_at hl 1 rfl) ?_
          refine lv_iload hx hb d_X_near_93 (lv_at hl 4 rfl) ?_
          refine lv_iload hx hb d_X_near_95 (lv_at hl 0 rfl) ?_
          obtain ⟨r8, z8, hq9, hf⟩ := x_cl_some hf
          refine va_callv (va_runV (As := [.int a6, .int r5]) (rest := []) ⟨hx, hb, hml, hown, hts⟩ (c_X_enterFound l G a6 r5 z5 r8 z8 hq9) (cwV 2 hts (x_gV t_596 t_598 sel_ContentLibrary_enterFound t_1 t_599) rfl rfl rfl (by decide +kernel) ⟨Nat.le_of_ble_eq_true rfl, Nat.le_of_ble_eq_true rfl⟩) ⟨x_blind _ _ _, va_recv hK hP (ci := 0) (q0 := 0) rfl (x_lk_X G _), fun U hU hW => ⟨rfl, x_pw hP hD hK hG hS hz hU hW⟩⟩ rfl rfl hl.1 rfl (lv_room (Nat.le_of_ble_eq_true rfl)) d_X_near_97 ⟨Nat.le_of_ble_eq_true rfl, Nat.le_of_ble_eq_true rfl⟩) hS (fun q _ h => h) (fun q h => h) (fun u t H locs ht hvm hw hB _ _ hS => ?_)
          obtain ⟨rfl, rfl⟩ := hw
          obtain ⟨hP, hD⟩ := x_back hB ht
          refine lv_iinc (v := (a6 + (1 : Int32))) (lv' := [(6, .int (a6 + (1 : Int32))), (7, .int r5), (0, .ref (x_ad G 0)), (2, .int a2), (4, .long a4)]) hx hb d_X_near_100 hl (k := 4) rfl rfl (by decide) rfl (fun ls hl => ?_)
          refine lv_goto (tgt := 48) hx hb d_X_near_103 (by decide) ?_
          exact ih a2 a4 (a6 + (1 : Int32)) z8 hf _ _ _ hP hD hS (lv_sub hl [2, 3, 4, 0] rfl)
set_option maxHeartbeats 4000000 in
set_option maxRecDepth 100000 in
theorem c_X_near (l : Launch) (G : x_G) (p1 : Int32) (p2 : Int32) (z0 : x_St) (r : Int32) (zo : x_St) (hf : f_X_near (x_n G) p1 p2 z0 = some (Sum.inr r, zo)) : Met l (⟨"ContentLibrary", "near", "(II)I"⟩ : MethodName) (x_ws (⟨"ContentLibrary", "near", "(II)I"⟩ : MethodName) prog_1_method_8_code 8 (some .int)) rm_X_near (va_Pc [.ref (x_ad G 0), .int p1, .int p2] (x_PW G z0)) (va_Qi (fun a u => r = a ∧ zo = u) (x_PW G) (x_A G)) 0 0 (x_A G) := by
  refine Met.ofW (cc := prog_1_method_8_code) (maxL := 8) (ret := (some .int)) (by decide) rfl ?_
  intro p e s m args below meth c s₁ B hml hv
  obtain ⟨rfl, hz, hP, hD, hK, hG⟩ := hv
  have C0 : x_Ctx G p s m _ meth c prog_1_method_8_code "ContentLibrary" 8 (some .int) := ⟨B.exec, B.bytes, B.returns, hml, findClass_of_methodNamed B.named, fun w h => atoms_spec (ws := (x_ws (⟨"ContentLibrary", "near", "(II)I"⟩ : MethodName) prog_1_method_8_code 8 (some .int))) B.pre w (List.mem_cons_of_mem _ h), B.notSynchronized, hz, hK, hG⟩
  obtain ⟨hx, hb, hr, hml, hown, hts, hlocks, hz, hK, hG⟩ := id C0
  have hS : va_S (x_A G) s.heap s.heap [] := va_S.rf
  have hl := lv_entry ([.ref (x_ad G 0), .int p1, .int p2]) (n := 8) (Nat.le_of_ble_eq_true rfl)
  rw [lg_entry_eq]
  generalize (lg_sl ([.ref (x_ad G 0), .int p1, .int p2]) ++ List.replicate (8 - (lg_sl ([.ref (x_ad G 0), .int p1, .int p2])).length) Slot.unset).toArray = ls at hl ⊢
  have hl : lv_has ls 8 [(0, .ref (x_ad G 0)), (1, .int p1), (2, .int p2)] := hl
  rw [f_X_near] at hf
  refine lv_aload_n hx hb d_X_near_0 rfl (lv_at hl 0 rfl) ?_
  obtain ⟨r10, z10, hq11, hf⟩ := x_clx_r hf
  refine va_callv (va_runV (As := []) (rest := []) ⟨hx, hb, hml, hown, hts⟩ (c_X_refuseWhenCut l G z0 r10 z10 hq11) (cwV 0 hts (x_gV t_335 t_337 sel_ContentLibrary_refuseWhenCut t_1 t_338) rfl rfl rfl (by decide +kernel) ⟨Nat.le_of_ble_eq_true rfl, Nat.le_of_ble_eq_true rfl⟩) ⟨x_blind _ _ _, va_recv hK hP (ci := 0) (q0 := 0) rfl (x_lk_X G _), fun U hU hW => ⟨rfl, x_pw hP hD hK hG hS hz hU hW⟩⟩ rfl rfl hl.1 rfl (lv_room (Nat.le_of_ble_eq_true rfl)) d_X_near_1 ⟨Nat.le_of_ble_eq_true rfl, Nat.le_of_ble_eq_true rfl⟩) hS (fun q _ h => h) (fun q h => h) (fun u t H locs ht hvm hw hB _ _ hS => ?_)
  obtain ⟨rfl, rfl⟩ := hw
  obtain ⟨hP, hD⟩ := x_back hB ht
  refine lv_aload_n hx hb d_X_near_4 rfl (lv_at hl 0 rfl) ?_
  refine lv_iload_n hx hb d_X_near_5 rfl (lv_at hl 1 rfl) ?_
  obtain ⟨r12, z12, hq13, hf⟩ := x_clx_r hf
  refine va_callr (va_runV (As := [.int p1]) (rest := []) ⟨hx, hb, hml, hown, hts⟩ (c_X_pictureBeingMade l G p1 z10 r12 z12 hq13) (cwV 1 hts (x_gV t_453 t_455 sel_ContentLibrary_pictureBeingMade t_1 t_456) rfl rfl rfl (by decide +kernel) ⟨Nat.le_of_ble_eq_true rfl, Nat.le_of_ble_eq_true rfl⟩) ⟨x_blind _ _ _, va_recv hK hP (ci := 0) (q0 := 0) rfl (x_lk_X G _), fun U hU hW => ⟨rfl, x_pw hP hD hK hG hS hz hU hW⟩⟩ rfl rfl hl.1 rfl (lv_room (Nat.le_of_ble_eq_true rfl)) d_X_near_6 ⟨Nat.le_of_ble_eq_true rfl, Nat.le_of_ble_eq_true rfl⟩) hS (fun q _ h => h) (fun q h => h) (fun u ra t H locs ht hvm hw hB _ _ hS => ?_)
  obtain rfl := hw
  obtain ⟨_, rfl, hr12, rfl, hB⟩ := hB
  obtain ⟨hP, hD⟩ := x_back hB ht
  refine lv_astore_n (lv' := [(3, .ref (x_ad G r12)), (0, .ref (x_ad G 0)), (1, .int p1), (2, .int p2)]) hx hb d_X_near_9 rfl hl (by decide) rfl (fun ls hl => ?_)
  refine lv_aload_n hx hb d_X_near_10 rfl (lv_at hl 0 rfl) ?_
  obtain ⟨r14, z14, hq15, hf⟩ := x_clx_r hf
  refine va_callv (va_runS (As := [.ref (x_ad G r12)]) (rest := []) ⟨hx, hb, hml, hown, hts⟩ (c_X_refuseUnlessWhole l G r12 hr12 z12 r14 z14 hq15) (va_cwS 1 hts (x_gS t_486 t_487 t_1 t_488) rfl rfl rfl (by decide +kernel) ⟨Nat.le_of_ble_eq_true rfl, Nat.le_of_ble_eq_true rfl⟩) ⟨x_blind _ _ _, fun U hU hW => ⟨rfl, x_pw hP hD hK hG hS hz hU hW⟩⟩ rfl rfl hl.1 rfl (lv_room (Nat.le_of_ble_eq_true rfl)) d_X_near_11 ⟨Nat.le_of_ble_eq_true rfl, Nat.le_of_ble_eq_true rfl⟩) hS (fun q _ h => h) (fun q h => h) (fun u t H locs ht hvm hw hB _ _ hS => ?_)
  obtain ⟨rfl, rfl⟩ := hw
  obtain ⟨hP, hD⟩ := x_back hB ht
  refine lv_iload_n hx hb d_X_near_14 rfl (lv_at hl 3 rfl) ?_
  refine lv_if_lt (tgt := 24) hx hb d_X_near_15 (by decide) (fun hc16 => ?_) (fun hc16 => ?_)
  · have hf := x_br_t hf hc16
    exact absurd hf x_no_r
  · have hf := x_br_f hf hc16
    refine lv_iload_n hx hb d_X_near_18 rfl (lv_at hl 3 rfl) ?_
    refine lv_bipush (v := (64 : Int32)) hx hb d_X_near_19 (by decide) ?_
    refine lv_icmp_le (tgt := 34) hx hb d_X_near_21 (by decide) (fun hc17 => ?_) (fun hc17 => ?_)
    · have hf := x_br_t hf hc17
      refine lv_aload_n hx hb d_X_near_34 rfl (lv_at hl 0 rfl) ?_
      obtain ⟨r18, z18, hq19, hf⟩ := x_cl_some hf
      refine va_calll (va_runV (As := []) (rest := []) ⟨hx, hb, hml, hown, hts⟩ (c_P_printBits l G r12 hr12 z14 r18 z18 hq19) (cwV 0 hts (x_gV t_285 t_286 t_287 t_4 t_288) rfl rfl rfl (by decide +kernel) ⟨Nat.le_of_ble_eq_true rfl, Nat.le_of_ble_eq_true rfl⟩) ⟨x_blind _ _ _, va_recv hK hP (ci := 2) (q0 := r12) rfl (x_lk_P G _ hr12), fun U hU hW => ⟨rfl, x_pw hP hD hK hG hS hz hU hW⟩⟩ rfl rfl hl.1 rfl (lv_room (Nat.le_of_ble_eq_true rfl)) d_X_near_35 ⟨Nat.le_of_ble_eq_true rfl, Nat.le_of_ble_eq_true rfl⟩) hS (fun q _ h => h) (fun q h => h) (fun ra u t H locs ht hvm hw hB _ _ hS => ?_)
      obtain ⟨rfl, rfl⟩ := hw
      obtain ⟨hP, hD⟩ := x_back hB ht
      refine lv_lstore (lv' := [(4, .long r18), (3, .ref (x_ad G r12)), (0, .ref (x_ad G 0)), (1, .int p1), (2, .int p2)]) hx hb d_X_near_38 hl (by decide) rfl (fun ls hl => ?_)
      refine lv_aload_n hx hb d_X_near_40 rfl (lv_at hl 2 rfl) ?_
      refine lv_iconst (v := (0 : Int32)) hx hb d_X_near_41 (by decide) ?_
      refine va_put (D := x_D G) (ci := 0) (v := .int (0 : Int32)) (ty := .int) (C := "ContentLibrary") (T := x_TX) (N := 9) hx hb hts x_inX x_tyX x_tyX_ok x_nmX hown hK hP hD hS 0 (x_lk_X G _) rfl 8 (by decide) (hts _ t_138) (fun _ h9 => h9) rfl (by decide +kernel) rfl rfl (Nat.le_of_ble_eq_true rfl) d_X_near_42 (fun H locs hP hD hS => ?_)
      rw [x_st_X8 G _] at hP hD
      refine lv_iconst (v := (0 : Int32)) hx hb d_X_near_45 (by decide) ?_
      refine lv_istore (lv' := [(6, .int (0 : Int32)), (4, .long r18), (3, .ref (x_ad G r12)), (0, .ref (x_ad G 0)), (1, .int p1), (2, .int p2)]) hx hb d_X_near_46 hl (by decide) rfl (fun ls hl => ?_)
      exact w_X_near_48 l G C0 r zo x_FU p2 r18 (0 : Int32) (x_put z18 0 8 (0 : Int32)) hf _ _ _ hP hD hS (lv_sub hl [3, 5, 1, 0] rfl)
    · have hf := x_br_f hf hc17
      exact absurd hf x_no_r
set_option maxHeartbeats 4000000 in
set_option maxRecDepth 100000 in
theorem w_X_near_106_x (l : Launch) (G : x_G) {p : Program} {e : Env} {s : State} {m : MethodId} {args : Array Value} {below : List Frame} {meth : Method} {c : Code} (C0 : x_Ctx G p s m args meth c prog_1_method_8_code "ContentLibrary" 8 (some .int)) (hl9 : l.stackTraces = false) (hEx : ∀ x ∈ c.exceptionTable.toList, False) (E : String) (zo : x_St) : ∀ (z0 : x_St), f_X_near_106 (x_n G)  z0 = some (Sum.inl E, zo) → ∀ (H : Heap) (locs : List Loc) (ls : Array Slot), va_P (x_D G) vwCl (x_Wd G z0) H → va_D (x_A G) (x_Wd G z0) → va_S (x_A G) s.heap H locs → lv_has ls 8 [(0, .ref (x_ad G 0))] → W p l e rx_X_near s m args below meth c H locs 0 0 (e_MQ below G E zo s 1 6) (F0 m 106 ls []) := by
  obtain ⟨hx, hb, hr, hml, hown, hts, hlocks, hz, hK, hG⟩ := id C0
  intro  z0 hf H locs ls hP hD hS hl
  rw [f_X_near_106] at hf
  refine lv_aload_n hx hb d_X_near_106 rfl (lv_at hl 0 rfl) ?_
  refine va_get (D := x_D G) (ci := 0) (v := .int (z0.1 0 8)) (C := "ContentLibrary") (T := x_TX) (N := 9) hx hb hts x_inX hown hK hP 0 (x_lk_X G _) rfl 8 (by decide) (hts _ t_138) (fun _ h9 => h9) rfl d_X_near_107 ?_
  exact absurd hf x_no_x
set_option maxHeartbeats 4000000 in
set_option maxRecDepth 100000 in
theorem w_X_near_48_x (l : Launch) (G : x_G) {p : Program} {e : Env} {s : State} {m : MethodId} {args : Array Value} {below : List Frame} {meth : Method} {c : Code} (C0 : x_Ctx G p s m args meth c prog_1_method_8_code "ContentLibrary" 8 (some .int)) (hl9 : l.stackTraces = false) (hEx : ∀ x ∈ c.exceptionTable.toList, False) (E : String) (zo : x_St) : ∀ (fu : Nat), ∀ (a2 : Int32) (a4 : Int64) (a6 : Int32) (z0 : x_St), f_X_near_48 (x_n G) fu a2 a4 a6 z0 = some (Sum.inl E, zo) → ∀ (H : Heap) (locs : List Loc) (ls : Array Slot), va_P (x_D G) vwCl (x_Wd G z0) H → va_D (x_A G) (x_Wd G z0) → va_S (x_A G) s.heap H locs → lv_has ls 8 [(0, .ref (x_ad G 0)), (2, .int a2), (4, .long a4), (6, .int a6)] → W p l e rx_X_near s m args below meth c H locs 0 0 (e_MQ below G E zo s 1 6) (F0 m 48 ls []) := by
  obtain ⟨hx, hb, hr, hml, hown, hts, hlocks, hz, hK, hG⟩ := id C0
  intro fu
  induction fu with
  | zero =>
    intro a2 a4 a6 z0 hf
    rw [f_X_near_48] at hf
    cases hf
  | succ fu ih =>
    intro a2 a4 a6 z0 hf H locs ls hP hD hS hl
    rw [f_X_near_48] at hf
    refine lv_iload hx hb d_X_near_48 (lv_at hl 3 rfl) ?_
    refine lv_bipush (v := (16 : Int32)) hx hb d_X_near_50 (by decide) ?_
    refine lv_icmp_ge (tgt := 106) hx hb d_X_near_52 (by decide) (fun hc1 => ?_) (fun hc1 => ?_)
    · have hf := x_br_t hf hc1
      exact w_X_near_106_x l G C0 hl9 hEx E zo z0 hf _ _ _ hP hD hS (lv_sub hl [0] rfl)
    · have hf := x_br_f hf hc1
      refine lv_aload_n hx hb d_X_near_55 rfl (lv_at hl 0 rfl) ?_
      refine va_get (D := x_D G) (ci := 0) (v := .ref (x_ad G 22)) (C := "ContentLibrary") (T := x_TX) (N := 9) hx hb hts x_inX hown hK hP 0 (x_lk_X G _) rfl 3 (by decide) (hts _ t_133) (fun _ h9 => h9) rfl d_X_near_56 ?_
      refine lv_iload hx hb d_X_near_59 (lv_at hl 3 rfl) ?_
      obtain ⟨hin2, hf⟩ := x_ck_some hf
      refine va_aldq hx hb hK hP 22 3 (x_lk_kept G _) rfl hin2 d_X_near_61 ?_
      refine W.eq (g2 := F0 m 62 ls [.ref (x_ad G (23 + 5 * (a6).toNatClampNeg))]) rfl ?_
      refine va_get (D := x_D G) (ci := 3) (v := .int (z0.1 (23 + 5 * (a6).toNatClampNeg) 0)) (C := "ContentLibrary$Kept") (T := x_TK) (N := 6) hx hb hts x_inK hown hK hP (23 + 5 * (a6).toNatClampNeg) (x_lk_K G _ (x_el_K hin2)) rfl 0 (by decide) (hts _ t_90) (fun _ h9 => h9) rfl d_X_near_62 ?_
      refine lv_if_eq (tgt := 100) hx hb d_X_near_65 (by decide) (fun hc3 => ?_) (fun hc3 => ?_)
      · have hf := x_br_t hf hc3
        refine lv_iinc (v := (a6 + (1 : Int32))) (lv' := [(6, .int (a6 + (1 : Int32))), (0, .ref (x_ad G 0)), (2, .int a2), (4, .long a4)]) hx hb d_X_near_100 hl (k := 3) rfl rfl (by decide) rfl (fun ls hl => ?_)
        refine lv_goto (tgt := 48) hx hb d_X_near_103 (by decide) ?_
        exact ih a2 a4 (a6 + (1 : Int32)) z0 hf _ _ _ hP hD hS (lv_sub hl [1, 2, 3, 0] rfl)
      · have hf := x_br_f hf hc3
        refine lv_lload hx hb d_X_near_68 (lv_at hl 2 rfl) ?_
        refine lv_aload_n hx hb d_X_near_70 rfl (lv_at hl 0 rfl) ?_
        refine va_get (D := x_D G) (ci := 0) (v := .ref (x_ad G 22)) (C := "ContentLibrary") (T := x_TX) (N := 9) hx hb hts x_inX hown hK hP 0 (x_lk_X G _) rfl 3 (by decide) (hts _ t_133) (fun _ h9 => h9) rfl d_X_near_71 ?_
        refine lv_iload hx hb d_X_near_74 (lv_at hl 3 rfl) ?_
        obtain ⟨hin4, hf⟩ := x_ck_some hf
        refine va_aldq hx hb hK hP 22 3 (x_lk_kept G _) rfl hin4 d_X_near_76 ?_
        refine W.eq (g2 := F0 m 77 ls [.ref (x_ad G (23 + 5 * (a6).toNatClampNeg)), .long a4]) rfl ?_
        refine va_get (D := x_D G) (ci := 3) (v := .long (z0.2 (23 + 5 * (a6).toNatClampNeg) 3)) (C := "ContentLibrary$Kept") (T := x_TK) (N := 6) hx hb hts x_inK hown hK hP (23 + 5 * (a6).toNatClampNeg) (x_lk_K G _ (x_el_K hin4)) rfl 3 (by decide) (hts _ t_96) (fun _ h9 => h9) rfl d_X_near_77 ?_
        refine lv_lxor hx hb d_X_near_80 ?_
        obtain ⟨r5, z5, hq6, hf⟩ := x_cl_some hf
        refine va_calli (va_runS (As := [.long (a4 ^^^ (z0.2 (23 + 5 * (a6).toNatClampNeg) 3))]) (rest := []) ⟨hx, hb, hml, hown, hts⟩ (c_Long_bitCount l G (a4 ^^^ (z0.2 (23 + 5 * (a6).toNatClampNeg) 3)) z0 r5 z5 hq6) (va_cwS 1 hts (x_gS t_590 t_591 t_18 t_592) rfl rfl rfl (by decide +kernel) ⟨Nat.le_of_ble_eq_true rfl, Nat.le_of_ble_eq_true rfl⟩) ⟨x_blind _ _ _, fun U hU hW => ⟨rfl, x_pw hP hD hK hG hS hz hU hW⟩⟩ rfl rfl hl.1 rfl (lv_room (Nat.le_of_ble_eq_true rfl)) d_X_near_81 ⟨Nat.le_of_ble_eq_true rfl, Nat.le_of_ble_eq_true rfl⟩) hS (fun q _ h => h) (fun q h => h) (fun ra u t H locs ht hvm hw hB _ _ hS => ?_)
        obtain ⟨rfl, rfl⟩ := hw
        obtain ⟨hP, hD⟩ := x_back hB ht
        refine lv_istore (lv' := [(7, .int r5), (0, .ref (x_ad G 0)), (2, .int a2), (4, .long a4), (6, .int a6)]) hx hb d_X_near_84 hl (by decide) rfl (fun ls hl => ?_)
        refine lv_iload hx hb d_X_near_86 (lv_at hl 0 rfl) ?_
        refine lv_iload_n hx hb d_X_near_88 rfl (lv_at hl 2 rfl) ?_
        refine lv_icmp_gt (tgt := 100) hx hb d_X_near_89 (by decide) (fun hc7 => ?_) (fun hc7 => ?_)
        · have hf := x_br_t hf hc7
          refine lv_iinc (v := (a6 + (1 : Int32))) (lv' := [(6, .int (a6 + (1 : Int32))), (7, .int r5), (0, .ref (x_ad G 0)), (2, .int a2), (4, .long a4)]) hx hb d_X_near_100 hl (k := 4) rfl rfl (by decide) rfl (fun ls hl => ?_)
          refine lv_goto (tgt := 48) hx hb d_X_near_103 (by decide) ?_
          exact ih a2 a4 (a6 + (1 : Int32)) z5 hf _ _ _ hP hD hS (lv_sub hl [2, 3, 4, 0] rfl)
        · have hf := x_br_f hf hc7
          refine lv_aload_n hx hb d_X_near_92 rfl (lv_at hl 1 rfl) ?_
          refine lv_iload hx hb d_X_near_93 (lv_at hl 4 rfl) ?_
          refine lv_iload hx hb d_X_near_95 (lv_at hl 0 rfl) ?_
          obtain ⟨r8, z8, hq9, hf⟩ := x_cl_some hf
          refine va_callv (va_runV (As := [.int a6, .int r5]) (rest := []) ⟨hx, hb, hml, hown, hts⟩ (c_X_enterFound l G a6 r5 z5 r8 z8 hq9) (cwV 2 hts (x_gV t_596 t_598 sel_ContentLibrary_enterFound t_1 t_599) rfl rfl rfl (by decide +kernel) ⟨Nat.le_of_ble_eq_true rfl, Nat.le_of_ble_eq_true rfl⟩) ⟨x_blind _ _ _, va_recv hK hP (ci := 0) (q0 := 0) rfl (x_lk_X G _), fun U hU hW => ⟨rfl, x_pw hP hD hK hG hS hz hU hW⟩⟩ rfl rfl hl.1 rfl (lv_room (Nat.le_of_ble_eq_true rfl)) d_X_near_97 ⟨Nat.le_of_ble_eq_true rfl, Nat.le_of_ble_eq_true rfl⟩) hS (fun q _ h => h) (fun q h => h) (fun u t H locs ht hvm hw hB _ _ hS => ?_)
          obtain ⟨rfl, rfl⟩ := hw
          obtain ⟨hP, hD⟩ := x_back hB ht
          refine lv_iinc (v := (a6 + (1 : Int32))) (lv' := [(6, .int (a6 + (1 : Int32))), (7, .int r5), (0, .ref (x_ad G 0)), (2, .int a2), (4, .long a4)]) hx hb d_X_near_100 hl (k := 4) rfl rfl (by decide) rfl (fun ls hl => ?_)
          refine lv_goto (tgt := 48) hx hb d_X_near_103 (by decide) ?_
          exact ih a2 a4 (a6 + (1 : Int32)) z8 hf _ _ _ hP hD hS (lv_sub hl [2, 3, 4, 0] rfl)
set_option maxHeartbeats 4000000 in
set_option maxRecDepth 100000 in
theorem c_X_near_x (l : Launch) (G : x_G) (hl9 : l.stackTraces = false) (p1 : Int32) (p2 : Int32) (z0 : x_St) (E : String) (zo : x_St) (hf : f_X_near (x_n G) p1 p2 z0 = some (Sum.inl E, zo)) : e_Met l G (⟨"ContentLibrary", "near", "(II)I"⟩ : MethodName) (x_ws (⟨"ContentLibrary", "near", "(II)I"⟩ : MethodName) prog_1_method_8_code 8 (some .int)) rx_X_near (va_Pc [.ref (x_ad G 0), .int p1, .int p2] (x_PW G z0)) E zo 1 6 := by
  refine e_ofW (cc := prog_1_method_8_code) (maxL := 8) (ret := (some .int)) (by decide) rfl ?_
  intro p e s m args below meth c s₁ B hml hEx hv
  obtain ⟨rfl, hz, hP, hD, hK, hG⟩ := hv
  have C0 : x_Ctx G p s m _ meth c prog_1_method_8_code "ContentLibrary" 8 (some .int) := ⟨B.exec, B.bytes, B.returns, hml, findClass_of_methodNamed B.named, fun w h => atoms_spec (ws := (x_ws (⟨"ContentLibrary", "near", "(II)I"⟩ : MethodName) prog_1_method_8_code 8 (some .int))) B.pre w (List.mem_cons_of_mem _ h), B.notSynchronized, hz, hK, hG⟩
  obtain ⟨hx, hb, hr, hml, hown, hts, hlocks, hz, hK, hG⟩ := id C0
  have hS : va_S (x_A G) s.heap s.heap [] := va_S.rf
  have hl := lv_entry ([.ref (x_ad G 0), .int p1, .int p2]) (n := 8) (Nat.le_of_ble_eq_true rfl)
  rw [lg_entry_eq]
  generalize (lg_sl ([.ref (x_ad G 0), .int p1, .int p2]) ++ List.replicate (8 - (lg_sl ([.ref (x_ad G 0), .int p1, .int p2])).length) Slot.unset).toArray = ls at hl ⊢
  have hl : lv_has ls 8 [(0, .ref (x_ad G 0)), (1, .int p1), (2, .int p2)] := hl
  rw [f_X_near] at hf
  refine lv_aload_n hx hb d_X_near_0 rfl (lv_at hl 0 rfl) ?_
  rcases x_clx_x hf with hq11 | ⟨r10, z10, hq11, hf⟩
  · exact e_callV (As := []) (rest := []) ⟨hx, hb, hml, hown, hts⟩ (c_X_refuseWhenCut_x l G hl9 z0 E zo hq11) (cwV 0 hts (x_gV t_335 t_337 sel_ContentLibrary_refuseWhenCut t_1 t_338) rfl rfl rfl (by decide +kernel) ⟨Nat.le_of_ble_eq_true rfl, Nat.le_of_ble_eq_true rfl⟩) ⟨x_blind _ _ _, va_recv hK hP (ci := 0) (q0 := 0) rfl (x_lk_X G _), fun U hU hW => ⟨rfl, x_pw hP hD hK hG hS hz hU hW⟩⟩ rfl hl.1 rfl (lv_room (Nat.le_of_ble_eq_true rfl)) d_X_near_1 ⟨Nat.le_of_ble_eq_true rfl, Nat.le_of_ble_eq_true rfl⟩ hz hS (fun q ce H locs hP hD hS hce hcv hcl => e_out (fun x hx => (hEx x hx).elim) hlocks hce hcv hcl hS (fun t ht hW => x_pw hP hD hK hG hS hz ht hW) (Nat.le_of_ble_eq_true rfl) (Nat.le_of_ble_eq_true rfl))
  refine va_callv (va_runV (As := []) (rest := []) ⟨hx, hb, hml, hown, hts⟩ (c_X_refuseWhenCut l G z0 r10 z10 hq11) (cwV 0 hts (x_gV t_335 t_337 sel_ContentLibrary_refuseWhenCut t_1 t_338) rfl rfl rfl (by decide +kernel) ⟨Nat.le_of_ble_eq_true rfl, Nat.le_of_ble_eq_true rfl⟩) ⟨x_blind _ _ _, va_recv hK hP (ci := 0) (q0 := 0) rfl (x_lk_X G _), fun U hU hW => ⟨rfl, x_pw hP hD hK hG hS hz hU hW⟩⟩ rfl rfl hl.1 rfl (lv_room (Nat.le_of_ble_eq_true rfl)) d_X_near_1 ⟨Nat.le_of_ble_eq_true rfl, Nat.le_of_ble_eq_true rfl⟩) hS (fun q _ h => h) (fun q h => h) (fun u t H locs ht hvm hw hB _ _ hS => ?_)
  obtain ⟨rfl, rfl⟩ := hw
  obtain ⟨hP, hD⟩ := x_back hB ht
  refine lv_aload_n hx hb d_X_near_4 rfl (lv_at hl 0 rfl) ?_
  refine lv_iload_n hx hb d_X_near_5 rfl (lv_at hl 1 rfl) ?_
  rcases x_clx_x hf with hq13 | ⟨r12, z12, hq13, hf⟩
  · exact e_callV (As := [.int p1]) (rest := []) ⟨hx, hb, hml, hown, hts⟩ (c_X_pictureBeingMade_x l G hl9 p1 z10 E zo hq13) (cwV 1 hts (x_gV t_453 t_455 sel_ContentLibrary_pictureBeingMade t_1 t_456) rfl rfl rfl (by decide +kernel) ⟨Nat.le_of_ble_eq_true rfl, Nat.le_of_ble_eq_true rfl⟩) ⟨x_blind _ _ _, va_recv hK hP (ci := 0) (q0 := 0) rfl (x_lk_X G _), fun U hU hW => ⟨rfl, x_pw hP hD hK hG hS hz hU hW⟩⟩ rfl hl.1 rfl (lv_room (Nat.le_of_ble_eq_true rfl)) d_X_near_6 ⟨Nat.le_of_ble_eq_true rfl, Nat.le_of_ble_eq_true rfl⟩ hz hS (fun q ce H locs hP hD hS hce hcv hcl => e_out (fun x hx => (hEx x hx).elim) hlocks hce hcv hcl hS (fun t ht hW => x_pw hP hD hK hG hS hz ht hW) (Nat.le_of_ble_eq_true rfl) (Nat.le_of_ble_eq_true rfl))
  refine va_callr (va_runV (As := [.int p1]) (rest := []) ⟨hx, hb, hml, hown, hts⟩ (c_X_pictureBeingMade l G p1 z10 r12 z12 hq13) (cwV 1 hts (x_gV t_453 t_455 sel_ContentLibrary_pictureBeingMade t_1 t_456) rfl rfl rfl (by decide +kernel) ⟨Nat.le_of_ble_eq_true rfl, Nat.le_of_ble_eq_true rfl⟩) ⟨x_blind _ _ _, va_recv hK hP (ci := 0) (q0 := 0) rfl (x_lk_X G _), fun U hU hW => ⟨rfl, x_pw hP hD hK hG hS hz hU hW⟩⟩ rfl rfl hl.1 rfl (lv_room (Nat.le_of_ble_eq_true rfl)) d_X_near_6 ⟨Nat.le_of_ble_eq_true rfl, Nat.le_of_ble_eq_true rfl⟩) hS (fun q _ h => h) (fun q h => h) (fun u ra t H locs ht hvm hw hB _ _ hS => ?_)
  obtain rfl := hw
  obtain ⟨_, rfl, hr12, rfl, hB⟩ := hB
  obtain ⟨hP, hD⟩ := x_back hB ht
  refine lv_astore_n (lv' := [(3, .ref (x_ad G r12)), (0, .ref (x_ad G 0)), (1, .int p1), (2, .int p2)]) hx hb d_X_near_9 rfl hl (by decide) rfl (fun ls hl => ?_)
  refine lv_aload_n hx hb d_X_near_10 rfl (lv_at hl 0 rfl) ?_
  rcases x_clx_x hf with hq15 | ⟨r14, z14, hq15, hf⟩
  · exact e_callS (As := [.ref (x_ad G r12)]) (rest := []) ⟨hx, hb, hml, hown, hts⟩ (c_X_refuseUnlessWhole_x l G hl9 r12 hr12 z12 E zo hq15) (va_cwS 1 hts (x_gS t_486 t_487 t_1 t_488) rfl rfl rfl (by decide +kernel) ⟨Nat.le_of_ble_eq_true rfl, Nat.le_of_ble_eq_true rfl⟩) ⟨x_blind _ _ _, fun U hU hW => ⟨rfl, x_pw hP hD hK hG hS hz hU hW⟩⟩ rfl hl.1 rfl (lv_room (Nat.le_of_ble_eq_true rfl)) d_X_near_11 ⟨Nat.le_of_ble_eq_true rfl, Nat.le_of_ble_eq_true rfl⟩ hz hS (fun q ce H locs hP hD hS hce hcv hcl => e_out (fun x hx => (hEx x hx).elim) hlocks hce hcv hcl hS (fun t ht hW => x_pw hP hD hK hG hS hz ht hW) (Nat.le_of_ble_eq_true rfl) (Nat.le_of_ble_eq_true rfl))
  refine va_callv (va_runS (As := [.ref (x_ad G r12)]) (rest := []) ⟨hx, hb, hml, hown, hts⟩ (c_X_refuseUnlessWhole l G r12 hr12 z12 r14 z14 hq15) (va_cwS 1 hts (x_gS t_486 t_487 t_1 t_488) rfl rfl rfl (by decide +kernel) ⟨Nat.le_of_ble_eq_true rfl, Nat.le_of_ble_eq_true rfl⟩) ⟨x_blind _ _ _, fun U hU hW => ⟨rfl, x_pw hP hD hK hG hS hz hU hW⟩⟩ rfl rfl hl.1 rfl (lv_room (Nat.le_of_ble_eq_true rfl)) d_X_near_11 ⟨Nat.le_of_ble_eq_true rfl, Nat.le_of_ble_eq_true rfl⟩) hS (fun q _ h => h) (fun q h => h) (fun u t H locs ht hvm hw hB _ _ hS => ?_)
  obtain ⟨rfl, rfl⟩ := hw
  obtain ⟨hP, hD⟩ := x_back hB ht
  refine lv_iload_n hx hb d_X_near_14 rfl (lv_at hl 3 rfl) ?_
  refine lv_if_lt (tgt := 24) hx hb d_X_near_15 (by decide) (fun hc16 => ?_) (fun hc16 => ?_)
  · have hf := x_br_t hf hc16
    obtain ⟨rfl, rfl⟩ := x_retx hf
    exact e_throw (text := "a bound is 0 .. 64") (is := 172) hx hb hl9 hown (by decide +kernel) (by decide) (by decide +kernel) hts t_409 t_12 at_77_IllegalArgumentException hG hS (hl.1.trans hml.symm) d_X_near_24 d_X_near_27 d_X_near_28 d_X_near_30 d_X_near_33 hEx (Nat.le_of_ble_eq_true rfl) (Nat.le_of_ble_eq_true rfl) (Nat.le_of_ble_eq_true rfl) (Nat.le_of_ble_eq_true rfl) hlocks (fun t hW hsz hk => x_pwk hP hD hK hG hS hz hsz hk hW) (Nat.le_of_ble_eq_true rfl) (Nat.le_of_ble_eq_true rfl)
  · have hf := x_br_f hf hc16
    refine lv_iload_n hx hb d_X_near_18 rfl (lv_at hl 3 rfl) ?_
    refine lv_bipush (v := (64 : Int32)) hx hb d_X_near_19 (by decide) ?_
    refine lv_icmp_le (tgt := 34) hx hb d_X_near_21 (by decide) (fun hc17 => ?_) (fun hc17 => ?_)
    · have hf := x_br_t hf hc17
      refine lv_aload_n hx hb d_X_near_34 rfl (lv_at hl 0 rfl) ?_
      obtain ⟨r18, z18, hq19, hf⟩ := x_cl_some hf
      refine va_calll (va_runV (As := []) (rest := []) ⟨hx, hb, hml, hown, hts⟩ (c_P_printBits l G r12 hr12 z14 r18 z18 hq19) (cwV 0 hts (x_gV t_285 t_286 t_287 t_4 t_288) rfl rfl rfl (by decide +kernel) ⟨Nat.le_of_ble_eq_true rfl, Nat.le_of_ble_eq_true rfl⟩) ⟨x_blind _ _ _, va_recv hK hP (ci := 2) (q0 := r12) rfl (x_lk_P G _ hr12), fun U hU hW => ⟨rfl, x_pw hP hD hK hG hS hz hU hW⟩⟩ rfl rfl hl.1 rfl (lv_room (Nat.le_of_ble_eq_true rfl)) d_X_near_35 ⟨Nat.le_of_ble_eq_true rfl, Nat.le_of_ble_eq_true rfl⟩) hS (fun q _ h => h) (fun q h => h) (fun ra u t H locs ht hvm hw hB _ _ hS => ?_)
      obtain ⟨rfl, rfl⟩ := hw
      obtain ⟨hP, hD⟩ := x_back hB ht
      refine lv_lstore (lv' := [(4, .long r18), (3, .ref (x_ad G r12)), (0, .ref (x_ad G 0)), (1, .int p1), (2, .int p2)]) hx hb d_X_near_38 hl (by decide) rfl (fun ls hl => ?_)
      refine lv_aload_n hx hb d_X_near_40 rfl (lv_at hl 2 rfl) ?_
      refine lv_iconst (v := (0 : Int32)) hx hb d_X_near_41 (by decide) ?_
      refine va_put (D := x_D G) (ci := 0) (v := .int (0 : Int32)) (ty := .int) (C := "ContentLibrary") (T := x_TX) (N := 9) hx hb hts x_inX x_tyX x_tyX_ok x_nmX hown hK hP hD hS 0 (x_lk_X G _) rfl 8 (by decide) (hts _ t_138) (fun _ h9 => h9) rfl (by decide +kernel) rfl rfl (Nat.le_of_ble_eq_true rfl) d_X_near_42 (fun H locs hP hD hS => ?_)
      rw [x_st_X8 G _] at hP hD
      refine lv_iconst (v := (0 : Int32)) hx hb d_X_near_45 (by decide) ?_
      refine lv_istore (lv' := [(6, .int (0 : Int32)), (4, .long r18), (3, .ref (x_ad G r12)), (0, .ref (x_ad G 0)), (1, .int p1), (2, .int p2)]) hx hb d_X_near_46 hl (by decide) rfl (fun ls hl => ?_)
      exact w_X_near_48_x l G C0 hl9 hEx E zo x_FU p2 r18 (0 : Int32) (x_put z18 0 8 (0 : Int32)) hf _ _ _ hP hD hS (lv_sub hl [3, 5, 1, 0] rfl)
    · have hf := x_br_f hf hc17
      obtain ⟨rfl, rfl⟩ := x_retx hf
      exact e_throw (text := "a bound is 0 .. 64") (is := 172) hx hb hl9 hown (by decide +kernel) (by decide) (by decide +kernel) hts t_409 t_12 at_77_IllegalArgumentException hG hS (hl.1.trans hml.symm) d_X_near_24 d_X_near_27 d_X_near_28 d_X_near_30 d_X_near_33 hEx (Nat.le_of_ble_eq_true rfl) (Nat.le_of_ble_eq_true rfl) (Nat.le_of_ble_eq_true rfl) (Nat.le_of_ble_eq_true rfl) hlocks (fun t hW hsz hk => x_pwk hP hD hK hG hS hz hsz hk hW) (Nat.le_of_ble_eq_true rfl) (Nat.le_of_ble_eq_true rfl)
end
section
theorem t_509 : Cond.methodLink "ContentLibrary" 204 (⟨"ContentLibrary", "wipeFreeBlocks", "(I)I"⟩ : MethodName) ∈ x_big := x_bt 509 (by decide +kernel) (by decide +kernel)
theorem t_511 : Cond.instanceMethod (⟨"ContentLibrary", "wipeFreeBlocks", "(I)I"⟩ : MethodName) ∈ x_big := x_bt 511 (by decide +kernel) (by decide +kernel)
theorem t_512 : Cond.code (⟨"ContentLibrary", "wipeFreeBlocks", "(I)I"⟩ : MethodName) prog_1_method_29_code 5 (some .int) ∈ x_big := x_bt 512 (by decide +kernel) (by decide +kernel)
theorem t_547 : Cond.methodLink "ContentLibrary" 138 (⟨"ContentLibrary", "afterCut", "()I"⟩ : MethodName) ∈ x_big := x_bt 547 (by decide +kernel) (by decide +kernel)
theorem t_549 : Cond.instanceMethod (⟨"ContentLibrary", "afterCut", "()I"⟩ : MethodName) ∈ x_big := x_bt 549 (by decide +kernel) (by decide +kernel)
theorem t_550 : Cond.code (⟨"ContentLibrary", "afterCut", "()I"⟩ : MethodName) prog_1_method_33_code 1 (some .int) ∈ x_big := x_bt 550 (by decide +kernel) (by decide +kernel)
theorem t_638 : Cond.methodLink "ContentLibrary" 225 (⟨"ContentLibrary", "refuseUnlessByte", "(II)V"⟩ : MethodName) ∈ x_big := x_bt 638 (by decide +kernel) (by decide +kernel)
theorem t_640 : Cond.instanceMethod (⟨"ContentLibrary", "refuseUnlessByte", "(II)V"⟩ : MethodName) ∈ x_big := x_bt 640 (by decide +kernel) (by decide +kernel)
theorem t_641 : Cond.code (⟨"ContentLibrary", "refuseUnlessByte", "(II)V"⟩ : MethodName) prog_1_method_19_code 3 none ∈ x_big := x_bt 641 (by decide +kernel) (by decide +kernel)
theorem t_644 : Cond.methodLink "ContentLibrary" 230 (⟨"ContentLibrary$Blocks", "turn", "(III)I"⟩ : MethodName) ∈ x_big := x_bt 644 (by decide +kernel) (by decide +kernel)
theorem t_645 : Cond.instanceMethod (⟨"ContentLibrary$Blocks", "turn", "(III)I"⟩ : MethodName) ∈ x_big := x_bt 645 (by decide +kernel) (by decide +kernel)
theorem t_646 : Cond.selects "ContentLibrary$Blocks" (⟨"ContentLibrary$Blocks", "turn", "(III)I"⟩ : MethodName) (⟨"ContentLibrary$Blocks", "turn", "(III)I"⟩ : MethodName) ∈ x_big := x_bt 646 (by decide +kernel) (by decide +kernel)
theorem t_647 : Cond.code (⟨"ContentLibrary$Blocks", "turn", "(III)I"⟩ : MethodName) prog_2_method_4_code 4 (some .int) ∈ x_big := x_bt 647 (by decide +kernel) (by decide +kernel)
theorem sel_ContentLibrary_afterCut : Cond.selects "ContentLibrary" (⟨"ContentLibrary", "afterCut", "()I"⟩ : MethodName) (⟨"ContentLibrary", "afterCut", "()I"⟩ : MethodName) ∈ x_big := x_bs 24 (by decide +kernel) (by decide +kernel)
theorem sel_ContentLibrary_refuseUnlessByte : Cond.selects "ContentLibrary" (⟨"ContentLibrary", "refuseUnlessByte", "(II)V"⟩ : MethodName) (⟨"ContentLibrary", "refuseUnlessByte", "(II)V"⟩ : MethodName) ∈ x_big := x_bs 27 (by decide +kernel) (by decide +kernel)
theorem sel_ContentLibrary_wipeFreeBlocks : Cond.selects "ContentLibrary" (⟨"ContentLibrary", "wipeFreeBlocks", "(I)I"⟩ : MethodName) (⟨"ContentLibrary", "wipeFreeBlocks", "(I)I"⟩ : MethodName) ∈ x_big := x_bs 20 (by decide +kernel) (by decide +kernel)
theorem d_X_found_0 : decode prog_1_method_9_code 0 = .ok (.aload_n 0, 1) := by decide +kernel
theorem d_X_found_1 : decode prog_1_method_9_code 1 = .ok (.invokevirtual 66, 3) := by decide +kernel
theorem d_X_found_4 : decode prog_1_method_9_code 4 = .ok (.iload_n 1, 1) := by decide +kernel
theorem d_X_found_5 : decode prog_1_method_9_code 5 = .ok (.ifCond .lt 11, 3) := by decide +kernel
theorem d_X_found_8 : decode prog_1_method_9_code 8 = .ok (.iload_n 1, 1) := by decide +kernel
theorem d_X_found_9 : decode prog_1_method_9_code 9 = .ok (.aload_n 0, 1) := by decide +kernel
theorem d_X_found_10 : decode prog_1_method_9_code 10 = .ok (.getfield 62, 3) := by decide +kernel
theorem d_X_found_13 : decode prog_1_method_9_code 13 = .ok (.if_icmp .lt 13, 3) := by decide +kernel
theorem d_X_found_16 : decode prog_1_method_9_code 16 = .ok (.new 145, 3) := by decide +kernel
theorem d_X_found_19 : decode prog_1_method_9_code 19 = .ok (.dup, 1) := by decide +kernel
theorem d_X_found_20 : decode prog_1_method_9_code 20 = .ok (.ldc 188, 2) := by decide +kernel
theorem d_X_found_22 : decode prog_1_method_9_code 22 = .ok (.invokespecial 149, 3) := by decide +kernel
theorem d_X_found_25 : decode prog_1_method_9_code 25 = .ok (.athrow, 1) := by decide +kernel
theorem d_X_found_26 : decode prog_1_method_9_code 26 = .ok (.iload_n 2, 1) := by decide +kernel
theorem d_X_found_27 : decode prog_1_method_9_code 27 = .ok (.ifCond .eq 18, 3) := by decide +kernel
theorem d_X_found_30 : decode prog_1_method_9_code 30 = .ok (.iload_n 2, 1) := by decide +kernel
theorem d_X_found_31 : decode prog_1_method_9_code 31 = .ok (.iconst 1, 1) := by decide +kernel
theorem d_X_found_32 : decode prog_1_method_9_code 32 = .ok (.if_icmp .eq 13, 3) := by decide +kernel
theorem d_X_found_35 : decode prog_1_method_9_code 35 = .ok (.new 73, 3) := by decide +kernel
theorem d_X_found_38 : decode prog_1_method_9_code 38 = .ok (.dup, 1) := by decide +kernel
theorem d_X_found_39 : decode prog_1_method_9_code 39 = .ok (.ldc 190, 2) := by decide +kernel
theorem d_X_found_41 : decode prog_1_method_9_code 41 = .ok (.invokespecial 77, 3) := by decide +kernel
theorem d_X_found_44 : decode prog_1_method_9_code 44 = .ok (.athrow, 1) := by decide +kernel
theorem d_X_found_45 : decode prog_1_method_9_code 45 = .ok (.iload_n 2, 1) := by decide +kernel
theorem d_X_found_46 : decode prog_1_method_9_code 46 = .ok (.ifCond .ne 12, 3) := by decide +kernel
theorem d_X_found_49 : decode prog_1_method_9_code 49 = .ok (.aload_n 0, 1) := by decide +kernel
theorem d_X_found_50 : decode prog_1_method_9_code 50 = .ok (.getfield 56, 3) := by decide +kernel
theorem d_X_found_53 : decode prog_1_method_9_code 53 = .ok (.iload_n 1, 1) := by decide +kernel
theorem d_X_found_54 : decode prog_1_method_9_code 54 = .ok (.iaload, 1) := by decide +kernel
theorem d_X_found_55 : decode prog_1_method_9_code 55 = .ok (.goto 9, 3) := by decide +kernel
theorem d_X_found_64 : decode prog_1_method_9_code 64 = .ok (.ireturn, 1) := by decide +kernel
theorem d_X_found_58 : decode prog_1_method_9_code 58 = .ok (.aload_n 0, 1) := by decide +kernel
theorem d_X_found_59 : decode prog_1_method_9_code 59 = .ok (.getfield 59, 3) := by decide +kernel
theorem d_X_found_62 : decode prog_1_method_9_code 62 = .ok (.iload_n 1, 1) := by decide +kernel
theorem d_X_found_63 : decode prog_1_method_9_code 63 = .ok (.iaload, 1) := by decide +kernel
theorem d_X_drop_0 : decode prog_1_method_10_code 0 = .ok (.aload_n 0, 1) := by decide +kernel
theorem d_X_drop_1 : decode prog_1_method_10_code 1 = .ok (.invokevirtual 66, 3) := by decide +kernel
theorem d_X_drop_4 : decode prog_1_method_10_code 4 = .ok (.aload_n 0, 1) := by decide +kernel
theorem d_X_drop_5 : decode prog_1_method_10_code 5 = .ok (.iload_n 1, 1) := by decide +kernel
theorem d_X_drop_6 : decode prog_1_method_10_code 6 = .ok (.invokevirtual 141, 3) := by decide +kernel
theorem d_X_drop_9 : decode prog_1_method_10_code 9 = .ok (.astore_n 2, 1) := by decide +kernel
theorem d_X_drop_10 : decode prog_1_method_10_code 10 = .ok (.aload_n 0, 1) := by decide +kernel
theorem d_X_drop_11 : decode prog_1_method_10_code 11 = .ok (.getfield 23, 3) := by decide +kernel
theorem d_X_drop_14 : decode prog_1_method_10_code 14 = .ok (.aload_n 2, 1) := by decide +kernel
theorem d_X_drop_15 : decode prog_1_method_10_code 15 = .ok (.getfield 192, 3) := by decide +kernel
theorem d_X_drop_18 : decode prog_1_method_10_code 18 = .ok (.aload_n 2, 1) := by decide +kernel
theorem d_X_drop_19 : decode prog_1_method_10_code 19 = .ok (.getfield 195, 3) := by decide +kernel
theorem d_X_drop_22 : decode prog_1_method_10_code 22 = .ok (.iaload, 1) := by decide +kernel
theorem d_X_drop_23 : decode prog_1_method_10_code 23 = .ok (.invokevirtual 197, 3) := by decide +kernel
theorem d_X_drop_26 : decode prog_1_method_10_code 26 = .ok (.istore_n 3, 1) := by decide +kernel
theorem d_X_drop_27 : decode prog_1_method_10_code 27 = .ok (.iconst 0, 1) := by decide +kernel
theorem d_X_drop_28 : decode prog_1_method_10_code 28 = .ok (.istore 4, 2) := by decide +kernel
theorem d_X_drop_30 : decode prog_1_method_10_code 30 = .ok (.iload 4, 2) := by decide +kernel
theorem d_X_drop_32 : decode prog_1_method_10_code 32 = .ok (.aload_n 2, 1) := by decide +kernel
theorem d_X_drop_33 : decode prog_1_method_10_code 33 = .ok (.getfield 195, 3) := by decide +kernel
theorem d_X_drop_36 : decode prog_1_method_10_code 36 = .ok (.if_icmp .ge 28, 3) := by decide +kernel
theorem d_X_drop_39 : decode prog_1_method_10_code 39 = .ok (.iload_n 3, 1) := by decide +kernel
theorem d_X_drop_40 : decode prog_1_method_10_code 40 = .ok (.ifCond .eq 24, 3) := by decide +kernel
theorem d_X_drop_43 : decode prog_1_method_10_code 43 = .ok (.aload_n 0, 1) := by decide +kernel
theorem d_X_drop_44 : decode prog_1_method_10_code 44 = .ok (.getfield 23, 3) := by decide +kernel
theorem d_X_drop_47 : decode prog_1_method_10_code 47 = .ok (.aload_n 2, 1) := by decide +kernel
theorem d_X_drop_48 : decode prog_1_method_10_code 48 = .ok (.getfield 192, 3) := by decide +kernel
theorem d_X_drop_51 : decode prog_1_method_10_code 51 = .ok (.iload 4, 2) := by decide +kernel
theorem d_X_drop_53 : decode prog_1_method_10_code 53 = .ok (.iaload, 1) := by decide +kernel
theorem d_X_drop_54 : decode prog_1_method_10_code 54 = .ok (.invokevirtual 197, 3) := by decide +kernel
theorem d_X_drop_57 : decode prog_1_method_10_code 57 = .ok (.istore_n 3, 1) := by decide +kernel
theorem d_X_drop_58 : decode prog_1_method_10_code 58 = .ok (.iinc 4 1, 3) := by decide +kernel
theorem d_X_drop_61 : decode prog_1_method_10_code 61 = .ok (.goto (-31), 3) := by decide +kernel
theorem d_X_drop_64 : decode prog_1_method_10_code 64 = .ok (.iload_n 3, 1) := by decide +kernel
theorem d_X_drop_65 : decode prog_1_method_10_code 65 = .ok (.ifCond .ne 8, 3) := by decide +kernel
theorem d_X_drop_68 : decode prog_1_method_10_code 68 = .ok (.aload_n 0, 1) := by decide +kernel
theorem d_X_drop_69 : decode prog_1_method_10_code 69 = .ok (.invokevirtual 138, 3) := by decide +kernel
theorem d_X_drop_72 : decode prog_1_method_10_code 72 = .ok (.ireturn, 1) := by decide +kernel
theorem d_X_drop_73 : decode prog_1_method_10_code 73 = .ok (.aload_n 2, 1) := by decide +kernel
theorem d_X_drop_74 : decode prog_1_method_10_code 74 = .ok (.iconst 0, 1) := by decide +kernel
theorem d_X_drop_75 : decode prog_1_method_10_code 75 = .ok (.putfield 178, 3) := by decide +kernel
theorem d_X_drop_78 : decode prog_1_method_10_code 78 = .ok (.aload_n 0, 1) := by decide +kernel
theorem d_X_drop_79 : decode prog_1_method_10_code 79 = .ok (.aload_n 2, 1) := by decide +kernel
theorem d_X_drop_80 : decode prog_1_method_10_code 80 = .ok (.iconst 0, 1) := by decide +kernel
theorem d_X_drop_81 : decode prog_1_method_10_code 81 = .ok (.invokevirtual 200, 3) := by decide +kernel
theorem d_X_drop_84 : decode prog_1_method_10_code 84 = .ok (.aload_n 2, 1) := by decide +kernel
theorem d_X_drop_85 : decode prog_1_method_10_code 85 = .ok (.getfield 195, 3) := by decide +kernel
theorem d_X_drop_88 : decode prog_1_method_10_code 88 = .ok (.iconst 1, 1) := by decide +kernel
theorem d_X_drop_89 : decode prog_1_method_10_code 89 = .ok (.iadd, 1) := by decide +kernel
theorem d_X_drop_90 : decode prog_1_method_10_code 90 = .ok (.ireturn, 1) := by decide +kernel
theorem d_X_sweep_0 : decode prog_1_method_11_code 0 = .ok (.aload_n 0, 1) := by decide +kernel
theorem d_X_sweep_1 : decode prog_1_method_11_code 1 = .ok (.invokevirtual 66, 3) := by decide +kernel
theorem d_X_sweep_4 : decode prog_1_method_11_code 4 = .ok (.aload_n 0, 1) := by decide +kernel
theorem d_X_sweep_5 : decode prog_1_method_11_code 5 = .ok (.iconst (-1), 1) := by decide +kernel
theorem d_X_sweep_6 : decode prog_1_method_11_code 6 = .ok (.invokevirtual 204, 3) := by decide +kernel
theorem d_X_sweep_9 : decode prog_1_method_11_code 9 = .ok (.istore_n 1, 1) := by decide +kernel
theorem d_X_sweep_10 : decode prog_1_method_11_code 10 = .ok (.iload_n 1, 1) := by decide +kernel
theorem d_X_sweep_11 : decode prog_1_method_11_code 11 = .ok (.bipush (-2), 2) := by decide +kernel
theorem d_X_sweep_13 : decode prog_1_method_11_code 13 = .ok (.if_icmp .ne 10, 3) := by decide +kernel
theorem d_X_sweep_16 : decode prog_1_method_11_code 16 = .ok (.aload_n 0, 1) := by decide +kernel
theorem d_X_sweep_17 : decode prog_1_method_11_code 17 = .ok (.invokevirtual 138, 3) := by decide +kernel
theorem d_X_sweep_20 : decode prog_1_method_11_code 20 = .ok (.goto 4, 3) := by decide +kernel
theorem d_X_sweep_24 : decode prog_1_method_11_code 24 = .ok (.ireturn, 1) := by decide +kernel
theorem d_X_sweep_23 : decode prog_1_method_11_code 23 = .ok (.iload_n 1, 1) := by decide +kernel
theorem d_X_fuse_0 : decode prog_1_method_12_code 0 = .ok (.aload_n 0, 1) := by decide +kernel
theorem d_X_fuse_1 : decode prog_1_method_12_code 1 = .ok (.invokevirtual 66, 3) := by decide +kernel
theorem d_X_fuse_4 : decode prog_1_method_12_code 4 = .ok (.iload_n 1, 1) := by decide +kernel
theorem d_X_fuse_5 : decode prog_1_method_12_code 5 = .ok (.iconst (-1), 1) := by decide +kernel
theorem d_X_fuse_6 : decode prog_1_method_12_code 6 = .ok (.if_icmp .ge 13, 3) := by decide +kernel
theorem d_X_fuse_9 : decode prog_1_method_12_code 9 = .ok (.new 73, 3) := by decide +kernel
theorem d_X_fuse_12 : decode prog_1_method_12_code 12 = .ok (.dup, 1) := by decide +kernel
theorem d_X_fuse_13 : decode prog_1_method_12_code 13 = .ok (.ldc 208, 2) := by decide +kernel
theorem d_X_fuse_15 : decode prog_1_method_12_code 15 = .ok (.invokespecial 77, 3) := by decide +kernel
theorem d_X_fuse_18 : decode prog_1_method_12_code 18 = .ok (.athrow, 1) := by decide +kernel
theorem d_X_fuse_19 : decode prog_1_method_12_code 19 = .ok (.aload_n 0, 1) := by decide +kernel
theorem d_X_fuse_20 : decode prog_1_method_12_code 20 = .ok (.getfield 23, 3) := by decide +kernel
theorem d_X_fuse_23 : decode prog_1_method_12_code 23 = .ok (.getfield 210, 3) := by decide +kernel
theorem d_X_fuse_26 : decode prog_1_method_12_code 26 = .ok (.istore_n 2, 1) := by decide +kernel
theorem d_X_fuse_27 : decode prog_1_method_12_code 27 = .ok (.aload_n 0, 1) := by decide +kernel
theorem d_X_fuse_28 : decode prog_1_method_12_code 28 = .ok (.getfield 23, 3) := by decide +kernel
theorem d_X_fuse_31 : decode prog_1_method_12_code 31 = .ok (.iload_n 1, 1) := by decide +kernel
theorem d_X_fuse_32 : decode prog_1_method_12_code 32 = .ok (.putfield 210, 3) := by decide +kernel
theorem d_X_fuse_35 : decode prog_1_method_12_code 35 = .ok (.iload_n 2, 1) := by decide +kernel
theorem d_X_fuse_36 : decode prog_1_method_12_code 36 = .ok (.ireturn, 1) := by decide +kernel
theorem d_X_poke_0 : decode prog_1_method_14_code 0 = .ok (.aload_n 0, 1) := by decide +kernel
theorem d_X_poke_1 : decode prog_1_method_14_code 1 = .ok (.iload_n 1, 1) := by decide +kernel
theorem d_X_poke_2 : decode prog_1_method_14_code 2 = .ok (.iload_n 2, 1) := by decide +kernel
theorem d_X_poke_3 : decode prog_1_method_14_code 3 = .ok (.invokevirtual 225, 3) := by decide +kernel
theorem d_X_poke_6 : decode prog_1_method_14_code 6 = .ok (.iload_n 3, 1) := by decide +kernel
theorem d_X_poke_7 : decode prog_1_method_14_code 7 = .ok (.ifCond .lt 10, 3) := by decide +kernel
theorem d_X_poke_10 : decode prog_1_method_14_code 10 = .ok (.iload_n 3, 1) := by decide +kernel
theorem d_X_poke_11 : decode prog_1_method_14_code 11 = .ok (.sipush 255, 3) := by decide +kernel
theorem d_X_poke_14 : decode prog_1_method_14_code 14 = .ok (.if_icmp .le 13, 3) := by decide +kernel
theorem d_X_poke_17 : decode prog_1_method_14_code 17 = .ok (.new 73, 3) := by decide +kernel
theorem d_X_poke_20 : decode prog_1_method_14_code 20 = .ok (.dup, 1) := by decide +kernel
theorem d_X_poke_21 : decode prog_1_method_14_code 21 = .ok (.ldc 228, 2) := by decide +kernel
theorem d_X_poke_23 : decode prog_1_method_14_code 23 = .ok (.invokespecial 77, 3) := by decide +kernel
theorem d_X_poke_26 : decode prog_1_method_14_code 26 = .ok (.athrow, 1) := by decide +kernel
theorem d_X_poke_27 : decode prog_1_method_14_code 27 = .ok (.aload_n 0, 1) := by decide +kernel
theorem d_X_poke_28 : decode prog_1_method_14_code 28 = .ok (.getfield 23, 3) := by decide +kernel
theorem d_X_poke_31 : decode prog_1_method_14_code 31 = .ok (.iload_n 1, 1) := by decide +kernel
theorem d_X_poke_32 : decode prog_1_method_14_code 32 = .ok (.iload_n 2, 1) := by decide +kernel
theorem d_X_poke_33 : decode prog_1_method_14_code 33 = .ok (.iload_n 3, 1) := by decide +kernel
theorem d_X_poke_34 : decode prog_1_method_14_code 34 = .ok (.invokevirtual 230, 3) := by decide +kernel
theorem d_X_poke_37 : decode prog_1_method_14_code 37 = .ok (.ireturn, 1) := by decide +kernel
theorem d_X_byteAt_0 : decode prog_1_method_16_code 0 = .ok (.aload_n 0, 1) := by decide +kernel
theorem d_X_byteAt_1 : decode prog_1_method_16_code 1 = .ok (.iload_n 1, 1) := by decide +kernel
theorem d_X_byteAt_2 : decode prog_1_method_16_code 2 = .ok (.iload_n 2, 1) := by decide +kernel
theorem d_X_byteAt_3 : decode prog_1_method_16_code 3 = .ok (.invokevirtual 225, 3) := by decide +kernel
theorem d_X_byteAt_6 : decode prog_1_method_16_code 6 = .ok (.aload_n 0, 1) := by decide +kernel
theorem d_X_byteAt_7 : decode prog_1_method_16_code 7 = .ok (.getfield 23, 3) := by decide +kernel
theorem d_X_byteAt_10 : decode prog_1_method_16_code 10 = .ok (.iload_n 1, 1) := by decide +kernel
theorem d_X_byteAt_11 : decode prog_1_method_16_code 11 = .ok (.iload_n 2, 1) := by decide +kernel
theorem d_X_byteAt_12 : decode prog_1_method_16_code 12 = .ok (.invokevirtual 242, 3) := by decide +kernel
theorem d_X_byteAt_15 : decode prog_1_method_16_code 15 = .ok (.ireturn, 1) := by decide +kernel
def f_X_found_45 (xn : Nat) (a1 : Int32) (a2 : Int32) (z0 : x_St) : Option ((String ⊕ Int32) × x_St) :=
  (if a2 = 0 then
  (x_ck a1 (x_ln xn 108)
  (some (Sum.inr (z0.1 108 (a1).toNatClampNeg), z0)))
  else
  (x_ck a1 (x_ln xn 109)
  (some (Sum.inr (z0.1 109 (a1).toNatClampNeg), z0))))
def f_X_found (xn : Nat) (p1 : Int32) (p2 : Int32) (z0 : x_St) : Option ((String ⊕ Int32) × x_St) :=
  (x_clx (f_X_refuseWhenCut xn z0) (fun r4 z4 =>
  (if p1 < 0 then
  (some (Sum.inl "java/lang/IndexOutOfBoundsException", z4))
  else
  (if p1 < (z4.1 0 8) then
  (if p2 = 0 then
  (f_X_found_45 xn p1 p2 z4)
  else
  (if p2 = (1 : Int32) then
  (f_X_found_45 xn p1 p2 z4)
  else
  (some (Sum.inl "java/lang/IllegalArgumentException", z4))))
  else
  (some (Sum.inl "java/lang/IndexOutOfBoundsException", z4))))))
def f_X_drop_64 (xn : Nat) (a2 : Nat) (a3 : Int32) (z0 : x_St) : Option ((String ⊕ Int32) × x_St) :=
  (if a3 = 0 then
  (x_cl (f_X_afterCut xn z0) (fun r4 z4 =>
  (some (Sum.inr r4, z4))))
  else
  (x_cl (f_X_setUsed xn a2 (0 : Int32) (x_put z0 a2 0 (0 : Int32))) (fun r2 z2 =>
  (some (Sum.inr ((z2.1 a2 4) + (1 : Int32)), z2)))))
def f_X_drop_30 (xn : Nat) : Nat → Nat → Int32 → Int32 → x_St → Option ((String ⊕ Int32) × x_St)
  | 0, _, _, _, _ => none
  | fu + 1, a2, a3, a4, z0 =>
    (if (z0.1 a2 4) ≤ a4 then
    (f_X_drop_64 xn a2 a3 z0)
    else
    (if a3 = 0 then
    (f_X_drop_64 xn a2 a3 z0)
    else
    (x_ck a4 (x_ln xn (a2 + 4))
    (x_cl (f_B_wipe xn (z0.1 (a2 + 4) (a4).toNatClampNeg) z0) (fun r9 z9 =>
    (f_X_drop_30 xn fu a2 r9 (a4 + (1 : Int32)) z9))))))
def f_X_drop (xn : Nat) (p1 : Int32) (z0 : x_St) : Option ((String ⊕ Int32) × x_St) :=
  (x_clx (f_X_refuseWhenCut xn z0) (fun r11 z11 =>
  (x_clx (f_X_keptAt xn p1 z11) (fun r13 z13 =>
  (x_ck (z13.1 r13 4) (x_ln xn (r13 + 4))
  (x_cl (f_B_wipe xn (z13.1 (r13 + 4) ((z13.1 r13 4)).toNatClampNeg) z13) (fun r16 z16 =>
  (f_X_drop_30 xn x_FU r13 r16 (0 : Int32) z16))))))))
def f_X_sweep (xn : Nat)  (z0 : x_St) : Option ((String ⊕ Int32) × x_St) :=
  (x_clx (f_X_refuseWhenCut xn z0) (fun r1 z1 =>
  (x_cl (f_X_wipeFreeBlocks xn (-1 : Int32) z1) (fun r3 z3 =>
  (if r3 = (-2 : Int32) then
  (x_cl (f_X_afterCut xn z3) (fun r6 z6 =>
  (some (Sum.inr r6, z6))))
  else
  (some (Sum.inr r3, z3)))))))
def f_X_fuse (xn : Nat) (p1 : Int32) (z0 : x_St) : Option ((String ⊕ Int32) × x_St) :=
  (x_clx (f_X_refuseWhenCut xn z0) (fun r1 z1 =>
  (if (-1 : Int32) ≤ p1 then
  (some (Sum.inr (z1.1 1 1), (x_put z1 1 1 p1)))
  else
  (some (Sum.inl "java/lang/IllegalArgumentException", z1)))))
def f_X_poke (xn : Nat) (p1 : Int32) (p2 : Int32) (p3 : Int32) (z0 : x_St) : Option ((String ⊕ Int32) × x_St) :=
  (x_clx (f_X_refuseUnlessByte xn p1 p2 z0) (fun r1 z1 =>
  (if p3 < 0 then
  (some (Sum.inl "java/lang/IllegalArgumentException", z1))
  else
  (if p3 ≤ (255 : Int32) then
  (x_cl (f_B_turn xn p1 p2 p3 z1) (fun r5 z5 =>
  (some (Sum.inr r5, z5))))
  else
  (some (Sum.inl "java/lang/IllegalArgumentException", z1))))))
def f_X_byteAt (xn : Nat) (p1 : Int32) (p2 : Int32) (z0 : x_St) : Option ((String ⊕ Int32) × x_St) :=
  (x_clx (f_X_refuseUnlessByte xn p1 p2 z0) (fun r1 z1 =>
  (x_cl (f_B_get xn p1 p2 z1) (fun r3 z3 =>
  (some (Sum.inr r3, z3))))))
abbrev rm_X_found : Room := { frames := 7, cells := 0, slots := 0, locals := 102 }
abbrev rx_X_found : Room := { frames := 7, cells := 1, slots := 6, locals := 102 }
set_option maxHeartbeats 4000000 in
set_option maxRecDepth 100000 in
theorem w_X_found_45 (l : Launch) (G : x_G) {p : Program} {e : Env} {s : State} {m : MethodId} {args : Array Value} {below : List Frame} {meth : Method} {c : Code} (C0 : x_Ctx G p s m args meth c prog_1_method_9_code "ContentLibrary" 3 (some .int)) (r : Int32) (zo : x_St) : ∀ (a1 : Int32) (a2 : Int32) (z0 : x_St), f_X_found_45 (x_n G) a1 a2 z0 = some (Sum.inr r, zo) → ∀ (H : Heap) (locs : List Loc) (ls : Array Slot), va_P (x_D G) vwCl (x_Wd G z0) H → va_D (x_A G) (x_Wd G z0) → va_S (x_A G) s.heap H locs → lv_has ls 3 [(0, .ref (x_ad G 0)), (1, .int a1), (2, .int a2)] → W p l e rm_X_found s m args below meth c H locs 0 0 (MQ below (va_Qi (fun a u => r = a ∧ zo = u) (x_PW G) (x_A G)) args s 0 0 (x_A G)) (F0 m 45 ls []) := by
  obtain ⟨hx, hb, hr, hml, hown, hts, hlocks, hz, hK, hG⟩ := id C0
  intro a1 a2 z0 hf H locs ls hP hD hS hl
  rw [f_X_found_45] at hf
  refine lv_iload_n hx hb d_X_found_45 rfl (lv_at hl 2 rfl) ?_
  refine lv_if_ne (tgt := 58) hx hb d_X_found_46 (by decide) (fun hc1 => ?_) (fun hc1 => ?_)
  · have hf := x_br_f hf hc1
    refine lv_aload_n hx hb d_X_found_58 rfl (lv_at hl 0 rfl) ?_
    refine va_get (D := x_D G) (ci := 0) (v := .ref (x_ad G 109)) (C := "ContentLibrary") (T := x_TX) (N := 9) hx hb hts x_inX hown hK hP 0 (x_lk_X G _) rfl 7 (by decide) (hts _ t_137) (fun _ h9 => h9) rfl d_X_found_59 ?_
    refine lv_iload_n hx hb d_X_found_62 rfl (lv_at hl 1 rfl) ?_
    obtain ⟨hin2, hf⟩ := x_ck_some hf
    refine va_iald hx hb hK hP 109 0 (x_lk_A G _ rfl) rfl hin2 d_X_found_63 ?_
    obtain ⟨rfl, rfl⟩ := x_retr hf
    exact W.iret (v := (z0.1 109 (a1).toNatClampNeg)) hx hb hr (fun t ht hW => ⟨⟨_, _, rfl, ⟨rfl, rfl⟩, x_pw hP hD hK hG hS hz ht hW⟩, hS.F ht⟩) hS.2.2 d_X_found_64
  · have hf := x_br_t hf hc1
    refine lv_aload_n hx hb d_X_found_49 rfl (lv_at hl 0 rfl) ?_
    refine va_get (D := x_D G) (ci := 0) (v := .ref (x_ad G 108)) (C := "ContentLibrary") (T := x_TX) (N := 9) hx hb hts x_inX hown hK hP 0 (x_lk_X G _) rfl 6 (by decide) (hts _ t_136) (fun _ h9 => h9) rfl d_X_found_50 ?_
    refine lv_iload_n hx hb d_X_found_53 rfl (lv_at hl 1 rfl) ?_
    obtain ⟨hin3, hf⟩ := x_ck_some hf
    refine va_iald hx hb hK hP 108 0 (x_lk_A G _ rfl) rfl hin3 d_X_found_54 ?_
    refine lv_goto (tgt := 64) hx hb d_X_found_55 (by decide) ?_
    obtain ⟨rfl, rfl⟩ := x_retr hf
    exact W.iret (v := (z0.1 108 (a1).toNatClampNeg)) hx hb hr (fun t ht hW => ⟨⟨_, _, rfl, ⟨rfl, rfl⟩, x_pw hP hD hK hG hS hz ht hW⟩, hS.F ht⟩) hS.2.2 d_X_found_64
set_option maxHeartbeats 4000000 in
set_option maxRecDepth 100000 in
theorem c_X_found (l : Launch) (G : x_G) (p1 : Int32) (p2 : Int32) (z0 : x_St) (r : Int32) (zo : x_St) (hf : f_X_found (x_n G) p1 p2 z0 = some (Sum.inr r, zo)) : Met l (⟨"ContentLibrary", "found", "(II)I"⟩ : MethodName) (x_ws (⟨"ContentLibrary", "found", "(II)I"⟩ : MethodName) prog_1_method_9_code 3 (some .int)) rm_X_found (va_Pc [.ref (x_ad G 0), .int p1, .int p2] (x_PW G z0)) (va_Qi (fun a u => r = a ∧ zo = u) (x_PW G) (x_A G)) 0 0 (x_A G) := by
  refine Met.ofW (cc := prog_1_method_9_code) (maxL := 3) (ret := (some .int)) (by decide) rfl ?_
  intro p e s m args below meth c s₁ B hml hv
  obtain ⟨rfl, hz, hP, hD, hK, hG⟩ := hv
  have C0 : x_Ctx G p s m _ meth c prog_1_method_9_code "ContentLibrary" 3 (some .int) := ⟨B.exec, B.bytes, B.returns, hml, findClass_of_methodNamed B.named, fun w h => atoms_spec (ws := (x_ws (⟨"ContentLibrary", "found", "(II)I"⟩ : MethodName) prog_1_method_9_code 3 (some .int))) B.pre w (List.mem_cons_of_mem _ h), B.notSynchronized, hz, hK, hG⟩
  obtain ⟨hx, hb, hr, hml, hown, hts, hlocks, hz, hK, hG⟩ := id C0
  have hS : va_S (x_A G) s.heap s.heap [] := va_S.rf
  have hl := lv_entry ([.ref (x_ad G 0), .int p1, .int p2]) (n := 3) (Nat.le_of_ble_eq_true rfl)
  rw [lg_entry_eq]
  generalize (lg_sl ([.ref (x_ad G 0), .int p1, .int p2]) ++ List.replicate (3 - (lg_sl ([.ref (x_ad G 0), .int p1, .int p2])).length) Slot.unset).toArray = ls at hl ⊢
  have hl : lv_has ls 3 [(0, .ref (x_ad G 0)), (1, .int p1), (2, .int p2)] := hl
  rw [f_X_found] at hf
  refine lv_aload_n hx hb d_X_found_0 rfl (lv_at hl 0 rfl) ?_
  obtain ⟨r4, z4, hq5, hf⟩ := x_clx_r hf
  refine va_callv (va_runV (As := []) (rest := []) ⟨hx, hb, hml, hown, hts⟩ (c_X_refuseWhenCut l G z0 r4 z4 hq5) (cwV 0 hts (x_gV t_335 t_337 sel_ContentLibrary_refuseWhenCut t_1 t_338) rfl rfl rfl (by decide +kernel) ⟨Nat.le_of_ble_eq_true rfl, Nat.le_of_ble_eq_true rfl⟩) ⟨x_blind _ _ _, va_recv hK hP (ci := 0) (q0 := 0) rfl (x_lk_X G _), fun U hU hW => ⟨rfl, x_pw hP hD hK hG hS hz hU hW⟩⟩ rfl rfl hl.1 rfl (lv_room (Nat.le_of_ble_eq_true rfl)) d_X_found_1 ⟨Nat.le_of_ble_eq_true rfl, Nat.le_of_ble_eq_true rfl⟩) hS (fun q _ h => h) (fun q h => h) (fun u t H locs ht hvm hw hB _ _ hS => ?_)
  obtain ⟨rfl, rfl⟩ := hw
  obtain ⟨hP, hD⟩ := x_back hB ht
  refine lv_iload_n hx hb d_X_found_4 rfl (lv_at hl 1 rfl) ?_
  refine lv_if_lt (tgt := 16) hx hb d_X_found_5 (by decide) (fun hc6 => ?_) (fun hc6 => ?_)
  · have hf := x_br_t hf hc6
    exact absurd hf x_no_r
  · have hf := x_br_f hf hc6
    refine lv_iload_n hx hb d_X_found_8 rfl (lv_at hl 1 rfl) ?_
    refine lv_aload_n hx hb d_X_found_9 rfl (lv_at hl 0 rfl) ?_
    refine va_get (D := x_D G) (ci := 0) (v := .int (z4.1 0 8)) (C := "ContentLibrary") (T := x_TX) (N := 9) hx hb hts x_inX hown hK hP 0 (x_lk_X G _) rfl 8 (by decide) (hts _ t_138) (fun _ h9 => h9) rfl d_X_found_10 ?_
    refine lv_icmp_lt (tgt := 26) hx hb d_X_found_13 (by decide) (fun hc7 => ?_) (fun hc7 => ?_)
    · have hf := x_br_t hf hc7
      refine lv_iload_n hx hb d_X_found_26 rfl (lv_at hl 2 rfl) ?_
      refine lv_if_eq (tgt := 45) hx hb d_X_found_27 (by decide) (fun hc8 => ?_) (fun hc8 => ?_)
      · have hf := x_br_t hf hc8
        exact w_X_found_45 l G C0 r zo p1 p2 z4 hf _ _ _ hP hD hS (lv_sub hl [0, 1, 2] rfl)
      · have hf := x_br_f hf hc8
        refine lv_iload_n hx hb d_X_found_30 rfl (lv_at hl 2 rfl) ?_
        refine lv_iconst (v := (1 : Int32)) hx hb d_X_found_31 (by decide) ?_
        refine lv_icmp_eq (tgt := 45) hx hb d_X_found_32 (by decide) (fun hc9 => ?_) (fun hc9 => ?_)
        · have hf := x_br_t hf hc9
          exact w_X_found_45 l G C0 r zo p1 p2 z4 hf _ _ _ hP hD hS (lv_sub hl [0, 1, 2] rfl)
        · have hf := x_br_f hf hc9
          exact absurd hf x_no_r
    · have hf := x_br_f hf hc7
      exact absurd hf x_no_r
set_option maxHeartbeats 4000000 in
set_option maxRecDepth 100000 in
theorem w_X_found_45_x (l : Launch) (G : x_G) {p : Program} {e : Env} {s : State} {m : MethodId} {args : Array Value} {below : List Frame} {meth : Method} {c : Code} (C0 : x_Ctx G p s m args meth c prog_1_method_9_code "ContentLibrary" 3 (some .int)) (hl9 : l.stackTraces = false) (hEx : ∀ x ∈ c.exceptionTable.toList, False) (E : String) (zo : x_St) : ∀ (a1 : Int32) (a2 : Int32) (z0 : x_St), f_X_found_45 (x_n G) a1 a2 z0 = some (Sum.inl E, zo) → ∀ (H : Heap) (locs : List Loc) (ls : Array Slot), va_P (x_D G) vwCl (x_Wd G z0) H → va_D (x_A G) (x_Wd G z0) → va_S (x_A G) s.heap H locs → lv_has ls 3 [(0, .ref (x_ad G 0)), (1, .int a1), (2, .int a2)] → W p l e rx_X_found s m args below meth c H locs 0 0 (e_MQ below G E zo s 1 6) (F0 m 45 ls []) := by
  obtain ⟨hx, hb, hr, hml, hown, hts, hlocks, hz, hK, hG⟩ := id C0
  intro a1 a2 z0 hf H locs ls hP hD hS hl
  rw [f_X_found_45] at hf
  refine lv_iload_n hx hb d_X_found_45 rfl (lv_at hl 2 rfl) ?_
  refine lv_if_ne (tgt := 58) hx hb d_X_found_46 (by decide) (fun hc1 => ?_) (fun hc1 => ?_)
  · have hf := x_br_f hf hc1
    refine lv_aload_n hx hb d_X_found_58 rfl (lv_at hl 0 rfl) ?_
    refine va_get (D := x_D G) (ci := 0) (v := .ref (x_ad G 109)) (C := "ContentLibrary") (T := x_TX) (N := 9) hx hb hts x_inX hown hK hP 0 (x_lk_X G _) rfl 7 (by decide) (hts _ t_137) (fun _ h9 => h9) rfl d_X_found_59 ?_
    refine lv_iload_n hx hb d_X_found_62 rfl (lv_at hl 1 rfl) ?_
    obtain ⟨hin2, hf⟩ := x_ck_some hf
    refine va_iald hx hb hK hP 109 0 (x_lk_A G _ rfl) rfl hin2 d_X_found_63 ?_
    exact absurd hf x_no_x
  · have hf := x_br_t hf hc1
    refine lv_aload_n hx hb d_X_found_49 rfl (lv_at hl 0 rfl) ?_
    refine va_get (D := x_D G) (ci := 0) (v := .ref (x_ad G 108)) (C := "ContentLibrary") (T := x_TX) (N := 9) hx hb hts x_inX hown hK hP 0 (x_lk_X G _) rfl 6 (by decide) (hts _ t_136) (fun _ h9 => h9) rfl d_X_found_50 ?_
    refine lv_iload_n hx hb d_X_found_53 rfl (lv_at hl 1 rfl) ?_
    obtain ⟨hin3, hf⟩ := x_ck_some hf
    refine va_iald hx hb hK hP 108 0 (x_lk_A G _ rfl) rfl hin3 d_X_found_54 ?_
    refine lv_goto (tgt := 64) hx hb d_X_found_55 (by decide) ?_
    exact absurd hf x_no_x
set_option maxHeartbeats 4000000 in
set_option maxRecDepth 100000 in
theorem c_X_found_x (l : Launch) (G : x_G) (hl9 : l.stackTraces = false) (p1 : Int32) (p2 : Int32) (z0 : x_St) (E : String) (zo : x_St) (hf : f_X_found (x_n G) p1 p2 z0 = some (Sum.inl E, zo)) : e_Met l G (⟨"ContentLibrary", "found", "(II)I"⟩ : MethodName) (x_ws (⟨"ContentLibrary", "found", "(II)I"⟩ : MethodName) prog_1_method_9_code 3 (some .int)) rx_X_found (va_Pc [.ref (x_ad G 0), .int p1, .int p2] (x_PW G z0)) E zo 1 6 := by
  refine e_ofW (cc := prog_1_method_9_code) (maxL := 3) (ret := (some .int)) (by decide) rfl ?_
  intro p e s m args below meth c s₁ B hml hEx hv
  obtain ⟨rfl, hz, hP, hD, hK, hG⟩ := hv
  have C0 : x_Ctx G p s m _ meth c prog_1_method_9_code "ContentLibrary" 3 (some .int) := ⟨B.exec, B.bytes, B.returns, hml, findClass_of_methodNamed B.named, fun w h => atoms_spec (ws := (x_ws (⟨"ContentLibrary", "found", "(II)I"⟩ : MethodName) prog_1_method_9_code 3 (some .int))) B.pre w (List.mem_cons_of_mem _ h), B.notSynchronized, hz, hK, hG⟩
  obtain ⟨hx, hb, hr, hml, hown, hts, hlocks, hz, hK, hG⟩ := id C0
  have hS : va_S (x_A G) s.heap s.heap [] := va_S.rf
  have hl := lv_entry ([.ref (x_ad G 0), .int p1, .int p2]) (n := 3) (Nat.le_of_ble_eq_true rfl)
  rw [lg_entry_eq]
  generalize (lg_sl ([.ref (x_ad G 0), .int p1, .int p2]) ++ List.replicate (3 - (lg_sl ([.ref (x_ad G 0), .int p1, .int p2])).length) Slot.unset).toArray = ls at hl ⊢
  have hl : lv_has ls 3 [(0, .ref (x_ad G 0)), (1, .int p1), (2, .int p2)] := hl
  rw [f_X_found] at hf
  refine lv_aload_n hx hb d_X_found_0 rfl (lv_at hl 0 rfl) ?_
  rcases x_clx_x hf with hq5 | ⟨r4, z4, hq5, hf⟩
  · exact e_callV (As := []) (rest := []) ⟨hx, hb, hml, hown, hts⟩ (c_X_refuseWhenCut_x l G hl9 z0 E zo hq5) (cwV 0 hts (x_gV t_335 t_337 sel_ContentLibrary_refuseWhenCut t_1 t_338) rfl rfl rfl (by decide +kernel) ⟨Nat.le_of_ble_eq_true rfl, Nat.le_of_ble_eq_true rfl⟩) ⟨x_blind _ _ _, va_recv hK hP (ci := 0) (q0 := 0) rfl (x_lk_X G _), fun U hU hW => ⟨rfl, x_pw hP hD hK hG hS hz hU hW⟩⟩ rfl hl.1 rfl (lv_room (Nat.le_of_ble_eq_true rfl)) d_X_found_1 ⟨Nat.le_of_ble_eq_true rfl, Nat.le_of_ble_eq_true rfl⟩ hz hS (fun q ce H locs hP hD hS hce hcv hcl => e_out (fun x hx => (hEx x hx).elim) hlocks hce hcv hcl hS (fun t ht hW => x_pw hP hD hK hG hS hz ht hW) (Nat.le_of_ble_eq_true rfl) (Nat.le_of_ble_eq_true rfl))
  refine va_callv (va_runV (As := []) (rest := []) ⟨hx, hb, hml, hown, hts⟩ (c_X_refuseWhenCut l G z0 r4 z4 hq5) (cwV 0 hts (x_gV t_335 t_337 sel_ContentLibrary_refuseWhenCut t_1 t_338) rfl rfl rfl (by decide +kernel) ⟨Nat.le_of_ble_eq_true rfl, Nat.le_of_ble_eq_true rfl⟩) ⟨x_blind _ _ _, va_recv hK hP (ci := 0) (q0 := 0) rfl (x_lk_X G _), fun U hU hW => ⟨rfl, x_pw hP hD hK hG hS hz hU hW⟩⟩ rfl rfl hl.1 rfl (lv_room (Nat.le_of_ble_eq_true rfl)) d_X_found_1 ⟨Nat.le_of_ble_eq_true rfl, Nat.le_of_ble_eq_true rfl⟩) hS (fun q _ h => h) (fun q h => h) (fun u t H locs ht hvm hw hB _ _ hS => ?_)
  obtain ⟨rfl, rfl⟩ := hw
  obtain ⟨hP, hD⟩ := x_back hB ht
  refine lv_iload_n hx hb d_X_found_4 rfl (lv_at hl 1 rfl) ?_
  refine lv_if_lt (tgt := 16) hx hb d_X_found_5 (by decide) (fun hc6 => ?_) (fun hc6 => ?_)
  · have hf := x_br_t hf hc6
    obtain ⟨rfl, rfl⟩ := x_retx hf
    exact e_throw (text := "nothing was found at that place") (is := 188) hx hb hl9 hown (by decide +kernel) (by decide) (by decide +kernel) hts t_457 t_14 at_149_IndexOutOfBoundsException hG hS (hl.1.trans hml.symm) d_X_found_16 d_X_found_19 d_X_found_20 d_X_found_22 d_X_found_25 hEx (Nat.le_of_ble_eq_true rfl) (Nat.le_of_ble_eq_true rfl) (Nat.le_of_ble_eq_true rfl) (Nat.le_of_ble_eq_true rfl) hlocks (fun t hW hsz hk => x_pwk hP hD hK hG hS hz hsz hk hW) (Nat.le_of_ble_eq_true rfl) (Nat.le_of_ble_eq_true rfl)
  · have hf := x_br_f hf hc6
    refine lv_iload_n hx hb d_X_found_8 rfl (lv_at hl 1 rfl) ?_
    refine lv_aload_n hx hb d_X_found_9 rfl (lv_at hl 0 rfl) ?_
    refine va_get (D := x_D G) (ci := 0) (v := .int (z4.1 0 8)) (C := "ContentLibrary") (T := x_TX) (N := 9) hx hb hts x_inX hown hK hP 0 (x_lk_X G _) rfl 8 (by decide) (hts _ t_138) (fun _ h9 => h9) rfl d_X_found_10 ?_
    refine lv_icmp_lt (tgt := 26) hx hb d_X_found_13 (by decide) (fun hc7 => ?_) (fun hc7 => ?_)
    · have hf := x_br_t hf hc7
      refine lv_iload_n hx hb d_X_found_26 rfl (lv_at hl 2 rfl) ?_
      refine lv_if_eq (tgt := 45) hx hb d_X_found_27 (by decide) (fun hc8 => ?_) (fun hc8 => ?_)
      · have hf := x_br_t hf hc8
        exact w_X_found_45_x l G C0 hl9 hEx E zo p1 p2 z4 hf _ _ _ hP hD hS (lv_sub hl [0, 1, 2] rfl)
      · have hf := x_br_f hf hc8
        refine lv_iload_n hx hb d_X_found_30 rfl (lv_at hl 2 rfl) ?_
        refine lv_iconst (v := (1 : Int32)) hx hb d_X_found_31 (by decide) ?_
        refine lv_icmp_eq (tgt := 45) hx hb d_X_found_32 (by decide) (fun hc9 => ?_) (fun hc9 => ?_)
        · have hf := x_br_t hf hc9
          exact w_X_found_45_x l G C0 hl9 hEx E zo p1 p2 z4 hf _ _ _ hP hD hS (lv_sub hl [0, 1, 2] rfl)
        · have hf := x_br_f hf hc9
          obtain ⟨rfl, rfl⟩ := x_retx hf
          exact e_throw (text := "of what was found, 0 and 1 are told") (is := 190) hx hb hl9 hown (by decide +kernel) (by decide) (by decide +kernel) hts t_409 t_12 at_77_IllegalArgumentException hG hS (hl.1.trans hml.symm) d_X_found_35 d_X_found_38 d_X_found_39 d_X_found_41 d_X_found_44 hEx (Nat.le_of_ble_eq_true rfl) (Nat.le_of_ble_eq_true rfl) (Nat.le_of_ble_eq_true rfl) (Nat.le_of_ble_eq_true rfl) hlocks (fun t hW hsz hk => x_pwk hP hD hK hG hS hz hsz hk hW) (Nat.le_of_ble_eq_true rfl) (Nat.le_of_ble_eq_true rfl)
    · have hf := x_br_f hf hc7
      obtain ⟨rfl, rfl⟩ := x_retx hf
      exact e_throw (text := "nothing was found at that place") (is := 188) hx hb hl9 hown (by decide +kernel) (by decide) (by decide +kernel) hts t_457 t_14 at_149_IndexOutOfBoundsException hG hS (hl.1.trans hml.symm) d_X_found_16 d_X_found_19 d_X_found_20 d_X_found_22 d_X_found_25 hEx (Nat.le_of_ble_eq_true rfl) (Nat.le_of_ble_eq_true rfl) (Nat.le_of_ble_eq_true rfl) (Nat.le_of_ble_eq_true rfl) hlocks (fun t hW hsz hk => x_pwk hP hD hK hG hS hz hsz hk hW) (Nat.le_of_ble_eq_true rfl) (Nat.le_of_ble_eq_true rfl)
abbrev rm_X_drop : Room := { frames := 7, cells := 0, slots := 0, locals := 103 }
abbrev rx_X_drop : Room := { frames := 7, cells := 1, slots := 6, locals := 103 }
set_option maxHeartbeats 4000000 in
set_option maxRecDepth 100000 in
theorem w_X_drop_64 (l : Launch) (G : x_G) {p : Program} {e : Env} {s : State} {m : MethodId} {args : Array Value} {below : List Frame} {meth : Method} {c : Code} (C0 : x_Ctx G p s m args meth c prog_1_method_10_code "ContentLibrary" 5 (some .int)) (r : Int32) (zo : x_St) : ∀ (a2 : Nat) (ha2 : x_isK a2 = true) (a3 : Int32) (z0 : x_St), f_X_drop_64 (x_n G) a2 a3 z0 = some (Sum.inr r, zo) → ∀ (H : Heap) (locs : List Loc) (ls : Array Slot), va_P (x_D G) vwCl (x_Wd G z0) H → va_D (x_A G) (x_Wd G z0) → va_S (x_A G) s.heap H locs → lv_has ls 5 [(0, .ref (x_ad G 0)), (2, .ref (x_ad G a2)), (3, .int a3)] → W p l e rm_X_drop s m args below meth c H locs 0 0 (MQ below (va_Qi (fun a u => r = a ∧ zo = u) (x_PW G) (x_A G)) args s 0 0 (x_A G)) (F0 m 64 ls []) := by
  obtain ⟨hx, hb, hr, hml, hown, hts, hlocks, hz, hK, hG⟩ := id C0
  intro a2 ha2 a3 z0 hf H locs ls hP hD hS hl
  rw [f_X_drop_64] at hf
  refine lv_iload_n hx hb d_X_drop_64 rfl (lv_at hl 2 rfl) ?_
  refine lv_if_ne (tgt := 73) hx hb d_X_drop_65 (by decide) (fun hc1 => ?_) (fun hc1 => ?_)
  · have hf := x_br_f hf hc1
    refine lv_aload_n hx hb d_X_drop_73 rfl (lv_at hl 1 rfl) ?_
    refine lv_iconst (v := (0 : Int32)) hx hb d_X_drop_74 (by decide) ?_
    refine va_put (D := x_D G) (ci := 3) (v := .int (0 : Int32)) (ty := .boolean) (C := "ContentLibrary$Kept") (T := x_TK) (N := 6) hx hb hts x_inK x_tyK x_tyK_ok x_nmK hown hK hP hD hS a2 (x_lk_K G _ ha2) rfl 0 (by decide) (hts _ t_90) (fun _ h9 => h9) rfl (by decide +kernel) rfl rfl (Nat.le_of_ble_eq_true rfl) d_X_drop_75 (fun H locs hP hD hS => ?_)
    rw [x_st_K0 G _ ha2] at hP hD
    refine lv_aload_n hx hb d_X_drop_78 rfl (lv_at hl 0 rfl) ?_
    refine lv_aload_n hx hb d_X_drop_79 rfl (lv_at hl 1 rfl) ?_
    refine lv_iconst (v := (0 : Int32)) hx hb d_X_drop_80 (by decide) ?_
    obtain ⟨r2, z2, hq3, hf⟩ := x_cl_some hf
    refine va_callv (va_runV (As := [.ref (x_ad G a2), .int (0 : Int32)]) (rest := []) ⟨hx, hb, hml, hown, hts⟩ (c_X_setUsed l G a2 ha2 (0 : Int32) (x_put z0 a2 0 (0 : Int32)) r2 z2 hq3) (cwV 2 hts (x_gV t_293 t_295 sel_ContentLibrary_setUsed t_1 t_296) rfl rfl rfl (by decide +kernel) ⟨Nat.le_of_ble_eq_true rfl, Nat.le_of_ble_eq_true rfl⟩) ⟨x_blind _ _ _, va_recv hK hP (ci := 0) (q0 := 0) rfl (x_lk_X G _), fun U hU hW => ⟨rfl, x_pw hP hD hK hG hS hz hU hW⟩⟩ rfl rfl hl.1 rfl (lv_room (Nat.le_of_ble_eq_true rfl)) d_X_drop_81 ⟨Nat.le_of_ble_eq_true rfl, Nat.le_of_ble_eq_true rfl⟩) hS (fun q _ h => h) (fun q h => h) (fun u t H locs ht hvm hw hB _ _ hS => ?_)
    obtain ⟨rfl, rfl⟩ := hw
    obtain ⟨hP, hD⟩ := x_back hB ht
    refine lv_aload_n hx hb d_X_drop_84 rfl (lv_at hl 1 rfl) ?_
    refine va_get (D := x_D G) (ci := 3) (v := .int (z2.1 a2 4)) (C := "ContentLibrary$Kept") (T := x_TK) (N := 6) hx hb hts x_inK hown hK hP a2 (x_lk_K G _ ha2) rfl 4 (by decide) (hts _ t_98) (fun _ h9 => h9) rfl d_X_drop_85 ?_
    refine lv_iconst (v := (1 : Int32)) hx hb d_X_drop_88 (by decide) ?_
    refine lv_iadd hx hb d_X_drop_89 ?_
    obtain ⟨rfl, rfl⟩ := x_retr hf
    exact W.iret (v := ((z2.1 a2 4) + (1 : Int32))) hx hb hr (fun t ht hW => ⟨⟨_, _, rfl, ⟨rfl, rfl⟩, x_pw hP hD hK hG hS hz ht hW⟩, hS.F ht⟩) hS.2.2 d_X_drop_90
  · have hf := x_br_t hf hc1
    refine lv_aload_n hx hb d_X_drop_68 rfl (lv_at hl 0 rfl) ?_
    obtain ⟨r4, z4, hq5, hf⟩ := x_cl_some hf
    refine va_calli (va_runV (As := []) (rest := []) ⟨hx, hb, hml, hown, hts⟩ (c_X_afterCut l G z0 r4 z4 hq5) (cwV 0 hts (x_gV t_547 t_549 sel_ContentLibrary_afterCut t_1 t_550) rfl rfl rfl (by decide +kernel) ⟨Nat.le_of_ble_eq_true rfl, Nat.le_of_ble_eq_true rfl⟩) ⟨x_blind _ _ _, va_recv hK hP (ci := 0) (q0 := 0) rfl (x_lk_X G _), fun U hU hW => ⟨rfl, x_pw hP hD hK hG hS hz hU hW⟩⟩ rfl rfl hl.1 rfl (lv_room (Nat.le_of_ble_eq_true rfl)) d_X_drop_69 ⟨Nat.le_of_ble_eq_true rfl, Nat.le_of_ble_eq_true rfl⟩) hS (fun q _ h => h) (fun q h => h) (fun ra u t H locs ht hvm hw hB _ _ hS => ?_)
    obtain ⟨rfl, rfl⟩ := hw
    obtain ⟨hP, hD⟩ := x_back hB ht
    obtain ⟨rfl, rfl⟩ := x_retr hf
    exact W.iret (v := r4) hx hb hr (fun t ht hW => ⟨⟨_, _, rfl, ⟨rfl, rfl⟩, x_pw hP hD hK hG hS hz ht hW⟩, hS.F ht⟩) hS.2.2 d_X_drop_72
set_option maxHeartbeats 4000000 in
set_option maxRecDepth 100000 in
theorem w_X_drop_30 (l : Launch) (G : x_G) {p : Program} {e : Env} {s : State} {m : MethodId} {args : Array Value} {below : List Frame} {meth : Method} {c : Code} (C0 : x_Ctx G p s m args meth c prog_1_method_10_code "ContentLibrary" 5 (some .int)) (r : Int32) (zo : x_St) : ∀ (fu : Nat), ∀ (a2 : Nat) (ha2 : x_isK a2 = true) (a3 : Int32) (a4 : Int32) (z0 : x_St), f_X_drop_30 (x_n G) fu a2 a3 a4 z0 = some (Sum.inr r, zo) → ∀ (H : Heap) (locs : List Loc) (ls : Array Slot), va_P (x_D G) vwCl (x_Wd G z0) H → va_D (x_A G) (x_Wd G z0) → va_S (x_A G) s.heap H locs → lv_has ls 5 [(0, .ref (x_ad G 0)), (2, .ref (x_ad G a2)), (3, .int a3), (4, .int a4)] → W p l e rm_X_drop s m args below meth c H locs 0 0 (MQ below (va_Qi (fun a u => r = a ∧ zo = u) (x_PW G) (x_A G)) args s 0 0 (x_A G)) (F0 m 30 ls []) := by
  obtain ⟨hx, hb, hr, hml, hown, hts, hlocks, hz, hK, hG⟩ := id C0
  intro fu
  induction fu with
  | zero =>
    intro a2 ha2 a3 a4 z0 hf
    rw [f_X_drop_30] at hf
    cases hf
  | succ fu ih =>
    intro a2 ha2 a3 a4 z0 hf H locs ls hP hD hS hl
    rw [f_X_drop_30] at hf
    refine lv_iload hx hb d_X_drop_30 (lv_at hl 3 rfl) ?_
    refine lv_aload_n hx hb d_X_drop_32 rfl (lv_at hl 1 rfl) ?_
    refine va_get (D := x_D G) (ci := 3) (v := .int (z0.1 a2 4)) (C := "ContentLibrary$Kept") (T := x_TK) (N := 6) hx hb hts x_inK hown hK hP a2 (x_lk_K G _ ha2) rfl 4 (by decide) (hts _ t_98) (fun _ h9 => h9) rfl d_X_drop_33 ?_
    refine lv_icmp_ge (tgt := 64) hx hb d_X_drop_36 (by decide) (fun hc6 => ?_) (fun hc6 => ?_)
    · have hf := x_br_t hf hc6
      exact w_X_drop_64 l G C0 r zo a2 ha2 a3 z0 hf _ _ _ hP hD hS (lv_sub hl [0, 1, 2] rfl)
    · have hf := x_br_f hf hc6
      refine lv_iload_n hx hb d_X_drop_39 rfl (lv_at hl 2 rfl) ?_
      refine lv_if_eq (tgt := 64) hx hb d_X_drop_40 (by decide) (fun hc7 => ?_) (fun hc7 => ?_)
      · have hf := x_br_t hf hc7
        exact w_X_drop_64 l G C0 r zo a2 ha2 a3 z0 hf _ _ _ hP hD hS (lv_sub hl [0, 1, 2] rfl)
      · have hf := x_br_f hf hc7
        refine lv_aload_n hx hb d_X_drop_43 rfl (lv_at hl 0 rfl) ?_
        refine va_get (D := x_D G) (ci := 0) (v := .ref (x_ad G 1)) (C := "ContentLibrary") (T := x_TX) (N := 9) hx hb hts x_inX hown hK hP 0 (x_lk_X G _) rfl 0 (by decide) (hts _ t_130) (fun _ h9 => h9) rfl d_X_drop_44 ?_
        refine lv_aload_n hx hb d_X_drop_47 rfl (lv_at hl 1 rfl) ?_
        refine va_get (D := x_D G) (ci := 3) (v := .ref (x_ad G (a2 + 4))) (C := "ContentLibrary$Kept") (T := x_TK) (N := 6) hx hb hts x_inK hown hK hP a2 (x_lk_K G _ ha2) rfl 5 (by decide) (hts _ t_100) (fun _ h9 => h9) rfl d_X_drop_48 ?_
        refine lv_iload hx hb d_X_drop_51 (lv_at hl 3 rfl) ?_
        obtain ⟨hin8, hf⟩ := x_ck_some hf
        refine va_iald hx hb hK hP (a2 + 4) 0 (x_lk_A G _ (x_K_A4 ha2)) rfl hin8 d_X_drop_53 ?_
        obtain ⟨r9, z9, hq10, hf⟩ := x_cl_some hf
        refine va_calli (va_runV (As := [.int (z0.1 (a2 + 4) (a4).toNatClampNeg)]) (rest := []) ⟨hx, hb, hml, hown, hts⟩ (c_B_wipe l G (z0.1 (a2 + 4) (a4).toNatClampNeg) z0 r9 z9 hq10) (cwV 1 hts (x_gV t_513 t_514 t_515 t_3 t_516) rfl rfl rfl (by decide +kernel) ⟨Nat.le_of_ble_eq_true rfl, Nat.le_of_ble_eq_true rfl⟩) ⟨x_blind _ _ _, va_recv hK hP (ci := 1) (q0 := 1) rfl (x_lk_B G _), fun U hU hW => ⟨rfl, x_pw hP hD hK hG hS hz hU hW⟩⟩ rfl rfl hl.1 rfl (lv_room (Nat.le_of_ble_eq_true rfl)) d_X_drop_54 ⟨Nat.le_of_ble_eq_true rfl, Nat.le_of_ble_eq_true rfl⟩) hS (fun q _ h => h) (fun q h => h) (fun ra u t H locs ht hvm hw hB _ _ hS => ?_)
        obtain ⟨rfl, rfl⟩ := hw
        obtain ⟨hP, hD⟩ := x_back hB ht
        refine lv_istore_n (lv' := [(3, .int r9), (0, .ref (x_ad G 0)), (2, .ref (x_ad G a2)), (4, .int a4)]) hx hb d_X_drop_57 rfl hl (by decide) rfl (fun ls hl => ?_)
        refine lv_iinc (v := (a4 + (1 : Int32))) (lv' := [(4, .int (a4 + (1 : Int32))), (3, .int r9), (0, .ref (x_ad G 0)), (2, .ref (x_ad G a2))]) hx hb d_X_drop_58 hl (k := 3) rfl rfl (by decide) rfl (fun ls hl => ?_)
        refine lv_goto (tgt := 30) hx hb d_X_drop_61 (by decide) ?_
        exact ih a2 ha2 r9 (a4 + (1 : Int32)) z9 hf _ _ _ hP hD hS (lv_sub hl [2, 3, 1, 0] rfl)
set_option maxHeartbeats 4000000 in
set_option maxRecDepth 100000 in
theorem c_X_drop (l : Launch) (G : x_G) (p1 : Int32) (z0 : x_St) (r : Int32) (zo : x_St) (hf : f_X_drop (x_n G) p1 z0 = some (Sum.inr r, zo)) : Met l (⟨"ContentLibrary", "drop", "(I)I"⟩ : MethodName) (x_ws (⟨"ContentLibrary", "drop", "(I)I"⟩ : MethodName) prog_1_method_10_code 5 (some .int)) rm_X_drop (va_Pc [.ref (x_ad G 0), .int p1] (x_PW G z0)) (va_Qi (fun a u => r = a ∧ zo = u) (x_PW G) (x_A G)) 0 0 (x_A G) := by
  refine Met.ofW (cc := prog_1_method_10_code) (maxL := 5) (ret := (some .int)) (by decide) rfl ?_
  intro p e s m args below meth c s₁ B hml hv
  obtain ⟨rfl, hz, hP, hD, hK, hG⟩ := hv
  have C0 : x_Ctx G p s m _ meth c prog_1_method_10_code "ContentLibrary" 5 (some .int) := ⟨B.exec, B.bytes, B.returns, hml, findClass_of_methodNamed B.named, fun w h => atoms_spec (ws := (x_ws (⟨"ContentLibrary", "drop", "(I)I"⟩ : MethodName) prog_1_method_10_code 5 (some .int))) B.pre w (List.mem_cons_of_mem _ h), B.notSynchronized, hz, hK, hG⟩
  obtain ⟨hx, hb, hr, hml, hown, hts, hlocks, hz, hK, hG⟩ := id C0
  have hS : va_S (x_A G) s.heap s.heap [] := va_S.rf
  have hl := lv_entry ([.ref (x_ad G 0), .int p1]) (n := 5) (Nat.le_of_ble_eq_true rfl)
  rw [lg_entry_eq]
  generalize (lg_sl ([.ref (x_ad G 0), .int p1]) ++ List.replicate (5 - (lg_sl ([.ref (x_ad G 0), .int p1])).length) Slot.unset).toArray = ls at hl ⊢
  have hl : lv_has ls 5 [(0, .ref (x_ad G 0)), (1, .int p1)] := hl
  rw [f_X_drop] at hf
  refine lv_aload_n hx hb d_X_drop_0 rfl (lv_at hl 0 rfl) ?_
  obtain ⟨r11, z11, hq12, hf⟩ := x_clx_r hf
  refine va_callv (va_runV (As := []) (rest := []) ⟨hx, hb, hml, hown, hts⟩ (c_X_refuseWhenCut l G z0 r11 z11 hq12) (cwV 0 hts (x_gV t_335 t_337 sel_ContentLibrary_refuseWhenCut t_1 t_338) rfl rfl rfl (by decide +kernel) ⟨Nat.le_of_ble_eq_true rfl, Nat.le_of_ble_eq_true rfl⟩) ⟨x_blind _ _ _, va_recv hK hP (ci := 0) (q0 := 0) rfl (x_lk_X G _), fun U hU hW => ⟨rfl, x_pw hP hD hK hG hS hz hU hW⟩⟩ rfl rfl hl.1 rfl (lv_room (Nat.le_of_ble_eq_true rfl)) d_X_drop_1 ⟨Nat.le_of_ble_eq_true rfl, Nat.le_of_ble_eq_true rfl⟩) hS (fun q _ h => h) (fun q h => h) (fun u t H locs ht hvm hw hB _ _ hS => ?_)
  obtain ⟨rfl, rfl⟩ := hw
  obtain ⟨hP, hD⟩ := x_back hB ht
  refine lv_aload_n hx hb d_X_drop_4 rfl (lv_at hl 0 rfl) ?_
  refine lv_iload_n hx hb d_X_drop_5 rfl (lv_at hl 1 rfl) ?_
  obtain ⟨r13, z13, hq14, hf⟩ := x_clx_r hf
  refine va_callr (va_runV (As := [.int p1]) (rest := []) ⟨hx, hb, hml, hown, hts⟩ (c_X_keptAt l G p1 z11 r13 z13 hq14) (cwV 1 hts (x_gV t_558 t_560 sel_ContentLibrary_keptAt t_1 t_561) rfl rfl rfl (by decide +kernel) ⟨Nat.le_of_ble_eq_true rfl, Nat.le_of_ble_eq_true rfl⟩) ⟨x_blind _ _ _, va_recv hK hP (ci := 0) (q0 := 0) rfl (x_lk_X G _), fun U hU hW => ⟨rfl, x_pw hP hD hK hG hS hz hU hW⟩⟩ rfl rfl hl.1 rfl (lv_room (Nat.le_of_ble_eq_true rfl)) d_X_drop_6 ⟨Nat.le_of_ble_eq_true rfl, Nat.le_of_ble_eq_true rfl⟩) hS (fun q _ h => h) (fun q h => h) (fun u ra t H locs ht hvm hw hB _ _ hS => ?_)
  obtain rfl := hw
  obtain ⟨_, rfl, hr13, rfl, hB⟩ := hB
  obtain ⟨hP, hD⟩ := x_back hB ht
  refine lv_astore_n (lv' := [(2, .ref (x_ad G r13)), (0, .ref (x_ad G 0)), (1, .int p1)]) hx hb d_X_drop_9 rfl hl (by decide) rfl (fun ls hl => ?_)
  refine lv_aload_n hx hb d_X_drop_10 rfl (lv_at hl 1 rfl) ?_
  refine va_get (D := x_D G) (ci := 0) (v := .ref (x_ad G 1)) (C := "ContentLibrary") (T := x_TX) (N := 9) hx hb hts x_inX hown hK hP 0 (x_lk_X G _) rfl 0 (by decide) (hts _ t_130) (fun _ h9 => h9) rfl d_X_drop_11 ?_
  refine lv_aload_n hx hb d_X_drop_14 rfl (lv_at hl 0 rfl) ?_
  refine va_get (D := x_D G) (ci := 3) (v := .ref (x_ad G (r13 + 4))) (C := "ContentLibrary$Kept") (T := x_TK) (N := 6) hx hb hts x_inK hown hK hP r13 (x_lk_K G _ hr13) rfl 5 (by decide) (hts _ t_100) (fun _ h9 => h9) rfl d_X_drop_15 ?_
  refine lv_aload_n hx hb d_X_drop_18 rfl (lv_at hl 0 rfl) ?_
  refine va_get (D := x_D G) (ci := 3) (v := .int (z13.1 r13 4)) (C := "ContentLibrary$Kept") (T := x_TK) (N := 6) hx hb hts x_inK hown hK hP r13 (x_lk_K G _ hr13) rfl 4 (by decide) (hts _ t_98) (fun _ h9 => h9) rfl d_X_drop_19 ?_
  obtain ⟨hin15, hf⟩ := x_ck_some hf
  refine va_iald hx hb hK hP (r13 + 4) 0 (x_lk_A G _ (x_K_A4 hr13)) rfl hin15 d_X_drop_22 ?_
  obtain ⟨r16, z16, hq17, hf⟩ := x_cl_some hf
  refine va_calli (va_runV (As := [.int (z13.1 (r13 + 4) ((z13.1 r13 4)).toNatClampNeg)]) (rest := []) ⟨hx, hb, hml, hown, hts⟩ (c_B_wipe l G (z13.1 (r13 + 4) ((z13.1 r13 4)).toNatClampNeg) z13 r16 z16 hq17) (cwV 1 hts (x_gV t_513 t_514 t_515 t_3 t_516) rfl rfl rfl (by decide +kernel) ⟨Nat.le_of_ble_eq_true rfl, Nat.le_of_ble_eq_true rfl⟩) ⟨x_blind _ _ _, va_recv hK hP (ci := 1) (q0 := 1) rfl (x_lk_B G _), fun U hU hW => ⟨rfl, x_pw hP hD hK hG hS hz hU hW⟩⟩ rfl rfl hl.1 rfl (lv_room (Nat.le_of_ble_eq_true rfl)) d_X_drop_23 ⟨Nat.le_of_ble_eq_true rfl, Nat.le_of_ble_eq_true rfl⟩) hS (fun q _ h => h) (fun q h => h) (fun ra u t H locs ht hvm hw hB _ _ hS => ?_)
  obtain ⟨rfl, rfl⟩ := hw
  obtain ⟨hP, hD⟩ := x_back hB ht
  refine lv_istore_n (lv' := [(3, .int r16), (2, .ref (x_ad G r13)), (0, .ref (x_ad G 0)), (1, .int p1)]) hx hb d_X_drop_26 rfl hl (by decide) rfl (fun ls hl => ?_)
  refine lv_iconst (v := (0 : Int32)) hx hb d_X_drop_27 (by decide) ?_
  refine lv_istore (lv' := [(4, .int (0 : Int32)), (3, .int r16), (2, .ref (x_ad G r13)), (0, .ref (x_ad G 0)), (1, .int p1)]) hx hb d_X_drop_28 hl (by decide) rfl (fun ls hl => ?_)
  exact w_X_drop_30 l G C0 r zo x_FU r13 hr13 r16 (0 : Int32) z16 hf _ _ _ hP hD hS (lv_sub hl [3, 2, 1, 0] rfl)
set_option maxHeartbeats 4000000 in
set_option maxRecDepth 100000 in
theorem w_X_drop_64_x (l : Launch) (G : x_G) {p : Program} {e : Env} {s : State} {m : MethodId} {args : Array Value} {below : List Frame} {meth : Method} {c : Code} (C0 : x_Ctx G p s m args meth c prog_1_method_10_code "ContentLibrary" 5 (some .int)) (hl9 : l.stackTraces = false) (hEx : ∀ x ∈ c.exceptionTable.toList, False) (E : String) (zo : x_St) : ∀ (a2 : Nat) (ha2 : x_isK a2 = true) (a3 : Int32) (z0 : x_St), f_X_drop_64 (x_n G) a2 a3 z0 = some (Sum.inl E, zo) → ∀ (H : Heap) (locs : List Loc) (ls : Array Slot), va_P (x_D G) vwCl (x_Wd G z0) H → va_D (x_A G) (x_Wd G z0) → va_S (x_A G) s.heap H locs → lv_has ls 5 [(0, .ref (x_ad G 0)), (2, .ref (x_ad G a2)), (3, .int a3)] → W p l e rx_X_drop s m args below meth c H locs 0 0 (e_MQ below G E zo s 1 6) (F0 m 64 ls []) := by
  obtain ⟨hx, hb, hr, hml, hown, hts, hlocks, hz, hK, hG⟩ := id C0
  intro a2 ha2 a3 z0 hf H locs ls hP hD hS hl
  rw [f_X_drop_64] at hf
  refine lv_iload_n hx hb d_X_drop_64 rfl (lv_at hl 2 rfl) ?_
  refine lv_if_ne (tgt := 73) hx hb d_X_drop_65 (by decide) (fun hc1 => ?_) (fun hc1 => ?_)
  · have hf := x_br_f hf hc1
    refine lv_aload_n hx hb d_X_drop_73 rfl (lv_at hl 1 rfl) ?_
    refine lv_iconst (v := (0 : Int32)) hx hb d_X_drop_74 (by decide) ?_
    refine va_put (D := x_D G) (ci := 3) (v := .int (0 : Int32)) (ty := .boolean) (C := "ContentLibrary$Kept") (T := x_TK) (N := 6) hx hb hts x_inK x_tyK x_tyK_ok x_nmK hown hK hP hD hS a2 (x_lk_K G _ ha2) rfl 0 (by decide) (hts _ t_90) (fun _ h9 => h9) rfl (by decide +kernel) rfl rfl (Nat.le_of_ble_eq_true rfl) d_X_drop_75 (fun H locs hP hD hS => ?_)
    rw [x_st_K0 G _ ha2] at hP hD
    refine lv_aload_n hx hb d_X_drop_78 rfl (lv_at hl 0 rfl) ?_
    refine lv_aload_n hx hb d_X_drop_79 rfl (lv_at hl 1 rfl) ?_
    refine lv_iconst (v := (0 : Int32)) hx hb d_X_drop_80 (by decide) ?_
    obtain ⟨r2, z2, hq3, hf⟩ := x_cl_some hf
    refine va_callv (va_runV (As := [.ref (x_ad G a2), .int (0 : Int32)]) (rest := []) ⟨hx, hb, hml, hown, hts⟩ (c_X_setUsed l G a2 ha2 (0 : Int32) (x_put z0 a2 0 (0 : Int32)) r2 z2 hq3) (cwV 2 hts (x_gV t_293 t_295 sel_ContentLibrary_setUsed t_1 t_296) rfl rfl rfl (by decide +kernel) ⟨Nat.le_of_ble_eq_true rfl, Nat.le_of_ble_eq_true rfl⟩) ⟨x_blind _ _ _, va_recv hK hP (ci := 0) (q0 := 0) rfl (x_lk_X G _), fun U hU hW => ⟨rfl, x_pw hP hD hK hG hS hz hU hW⟩⟩ rfl rfl hl.1 rfl (lv_room (Nat.le_of_ble_eq_true rfl)) d_X_drop_81 ⟨Nat.le_of_ble_eq_true rfl, Nat.le_of_ble_eq_true rfl⟩) hS (fun q _ h => h) (fun q h => h) (fun u t H locs ht hvm hw hB _ _ hS => ?_)
    obtain ⟨rfl, rfl⟩ := hw
    obtain ⟨hP, hD⟩ := x_back hB ht
    refine lv_aload_n hx hb d_X_drop_84 rfl (lv_at hl 1 rfl) ?_
    refine va_get (D := x_D G) (ci := 3) (v := .int (z2.1 a2 4)) (C := "ContentLibrary$Kept") (T := x_TK) (N := 6) hx hb hts x_inK hown hK hP a2 (x_lk_K G _ ha2) rfl 4 (by decide) (hts _ t_98) (fun _ h9 => h9) rfl d_X_drop_85 ?_
    refine lv_iconst (v := (1 : Int32)) hx hb d_X_drop_88 (by decide) ?_
    refine lv_iadd hx hb d_X_drop_89 ?_
    exact absurd hf x_no_x
  · have hf := x_br_t hf hc1
    refine lv_aload_n hx hb d_X_drop_68 rfl (lv_at hl 0 rfl) ?_
    obtain ⟨r4, z4, hq5, hf⟩ := x_cl_some hf
    refine va_calli (va_runV (As := []) (rest := []) ⟨hx, hb, hml, hown, hts⟩ (c_X_afterCut l G z0 r4 z4 hq5) (cwV 0 hts (x_gV t_547 t_549 sel_ContentLibrary_afterCut t_1 t_550) rfl rfl rfl (by decide +kernel) ⟨Nat.le_of_ble_eq_true rfl, Nat.le_of_ble_eq_true rfl⟩) ⟨x_blind _ _ _, va_recv hK hP (ci := 0) (q0 := 0) rfl (x_lk_X G _), fun U hU hW => ⟨rfl, x_pw hP hD hK hG hS hz hU hW⟩⟩ rfl rfl hl.1 rfl (lv_room (Nat.le_of_ble_eq_true rfl)) d_X_drop_69 ⟨Nat.le_of_ble_eq_true rfl, Nat.le_of_ble_eq_true rfl⟩) hS (fun q _ h => h) (fun q h => h) (fun ra u t H locs ht hvm hw hB _ _ hS => ?_)
    obtain ⟨rfl, rfl⟩ := hw
    obtain ⟨hP, hD⟩ := x_back hB ht
    exact absurd hf x_no_x
set_option maxHeartbeats 4000000 in
set_option maxRecDepth 100000 in
theorem w_X_drop_30_x (l : Launch) (G : x_G) {p : Program} {e : Env} {s : State} {m : MethodId} {args : Array Value} {below : List Frame} {meth : Method} {c : Code} (C0 : x_Ctx G p s m args meth c prog_1_method_10_code "ContentLibrary" 5 (some .int)) (hl9 : l.stackTraces = false) (hEx : ∀ x ∈ c.exceptionTable.toList, False) (E : String) (zo : x_St) : ∀ (fu : Nat), ∀ (a2 : Nat) (ha2 : x_isK a2 = true) (a3 : Int32) (a4 : Int32) (z0 : x_St), f_X_drop_30 (x_n G) fu a2 a3 a4 z0 = some (Sum.inl E, zo) → ∀ (H : Heap) (locs : List Loc) (ls : Array Slot), va_P (x_D G) vwCl (x_Wd G z0) H → va_D (x_A G) (x_Wd G z0) → va_S (x_A G) s.heap H locs → lv_has ls 5 [(0, .ref (x_ad G 0)), (2, .ref (x_ad G a2)), (3, .int a3), (4, .int a4)] → W p l e rx_X_drop s m args below meth c H locs 0 0 (e_MQ below G E zo s 1 6) (F0 m 30 ls []) := by
  obtain ⟨hx, hb, hr, hml, hown, hts, hlocks, hz, hK, hG⟩ := id C0
  intro fu
  induction fu with
  | zero =>
    intro a2 ha2 a3 a4 z0 hf
    rw [f_X_drop_30] at hf
    cases hf
  | succ fu ih =>
    intro a2 ha2 a3 a4 z0 hf H locs ls hP hD hS hl
    rw [f_X_drop_30] at hf
    refine lv_iload hx hb d_X_drop_30 (lv_at hl 3 rfl) ?_
    refine lv_aload_n hx hb d_X_drop_32 rfl (lv_at hl 1 rfl) ?_
    refine va_get (D := x_D G) (ci := 3) (v := .int (z0.1 a2 4)) (C := "ContentLibrary$Kept") (T := x_TK) (N := 6) hx hb hts x_inK hown hK hP a2 (x_lk_K G _ ha2) rfl 4 (by decide) (hts _ t_98) (fun _ h9 => h9) rfl d_X_drop_33 ?_
    refine lv_icmp_ge (tgt := 64) hx hb d_X_drop_36 (by decide) (fun hc6 => ?_) (fun hc6 => ?_)
    · have hf := x_br_t hf hc6
      exact w_X_drop_64_x l G C0 hl9 hEx E zo a2 ha2 a3 z0 hf _ _ _ hP hD hS (lv_sub hl [0, 1, 2] rfl)
    · have hf := x_br_f hf hc6
      refine lv_iload_n hx hb d_X_drop_39 rfl (lv_at hl 2 rfl) ?_
      refine lv_if_eq (tgt := 64) hx hb d_X_drop_40 (by decide) (fun hc7 => ?_) (fun hc7 => ?_)
      · have hf := x_br_t hf hc7
        exact w_X_drop_64_x l G C0 hl9 hEx E zo a2 ha2 a3 z0 hf _ _ _ hP hD hS (lv_sub hl [0, 1, 2] rfl)
      · have hf := x_br_f hf hc7
        refine lv_aload_n hx hb d_X_drop_43 rfl (lv_at hl 0 rfl) ?_
        refine va_get (D := x_D G) (ci := 0) (v := .ref (x_ad G 1)) (C := "ContentLibrary") (T := x_TX) (N := 9) hx hb hts x_inX hown hK hP 0 (x_lk_X G _) rfl 0 (by decide) (hts _ t_130) (fun _ h9 => h9) rfl d_X_drop_44 ?_
        refine lv_aload_n hx hb d_X_drop_47 rfl (lv_at hl 1 rfl) ?_
        refine va_get (D := x_D G) (ci := 3) (v := .ref (x_ad G (a2 + 4))) (C := "ContentLibrary$Kept") (T := x_TK) (N := 6) hx hb hts x_inK hown hK hP a2 (x_lk_K G _ ha2) rfl 5 (by decide) (hts _ t_100) (fun _ h9 => h9) rfl d_X_drop_48 ?_
        refine lv_iload hx hb d_X_drop_51 (lv_at hl 3 rfl) ?_
        obtain ⟨hin8, hf⟩ := x_ck_some hf
        refine va_iald hx hb hK hP (a2 + 4) 0 (x_lk_A G _ (x_K_A4 ha2)) rfl hin8 d_X_drop_53 ?_
        obtain ⟨r9, z9, hq10, hf⟩ := x_cl_some hf
        refine va_calli (va_runV (As := [.int (z0.1 (a2 + 4) (a4).toNatClampNeg)]) (rest := []) ⟨hx, hb, hml, hown, hts⟩ (c_B_wipe l G (z0.1 (a2 + 4) (a4).toNatClampNeg) z0 r9 z9 hq10) (cwV 1 hts (x_gV t_513 t_514 t_515 t_3 t_516) rfl rfl rfl (by decide +kernel) ⟨Nat.le_of_ble_eq_true rfl, Nat.le_of_ble_eq_true rfl⟩) ⟨x_blind _ _ _, va_recv hK hP (ci := 1) (q0 := 1) rfl (x_lk_B G _), fun U hU hW => ⟨rfl, x_pw hP hD hK hG hS hz hU hW⟩⟩ rfl rfl hl.1 rfl (lv_room (Nat.le_of_ble_eq_true rfl)) d_X_drop_54 ⟨Nat.le_of_ble_eq_true rfl, Nat.le_of_ble_eq_true rfl⟩) hS (fun q _ h => h) (fun q h => h) (fun ra u t H locs ht hvm hw hB _ _ hS => ?_)
        obtain ⟨rfl, rfl⟩ := hw
        obtain ⟨hP, hD⟩ := x_back hB ht
        refine lv_istore_n (lv' := [(3, .int r9), (0, .ref (x_ad G 0)), (2, .ref (x_ad G a2)), (4, .int a4)]) hx hb d_X_drop_57 rfl hl (by decide) rfl (fun ls hl => ?_)
        refine lv_iinc (v := (a4 + (1 : Int32))) (lv' := [(4, .int (a4 + (1 : Int32))), (3, .int r9), (0, .ref (x_ad G 0)), (2, .ref (x_ad G a2))]) hx hb d_X_drop_58 hl (k := 3) rfl rfl (by decide) rfl (fun ls hl => ?_)
        refine lv_goto (tgt := 30) hx hb d_X_drop_61 (by decide) ?_
        exact ih a2 ha2 r9 (a4 + (1 : Int32)) z9 hf _ _ _ hP hD hS (lv_sub hl [2, 3, 1, 0] rfl)
set_option maxHeartbeats 4000000 in
set_option maxRecDepth 100000 in
theorem c_X_drop_x (l : Launch) (G : x_G) (hl9 : l.stackTraces = false) (p1 : Int32) (z0 : x_St) (E : String) (zo : x_St) (hf : f_X_drop (x_n G) p1 z0 = some (Sum.inl E, zo)) : e_Met l G (⟨"ContentLibrary", "drop", "(I)I"⟩ : MethodName) (x_ws (⟨"ContentLibrary", "drop", "(I)I"⟩ : MethodName) prog_1_method_10_code 5 (some .int)) rx_X_drop (va_Pc [.ref (x_ad G 0), .int p1] (x_PW G z0)) E zo 1 6 := by
  refine e_ofW (cc := prog_1_method_10_code) (maxL := 5) (ret := (some .int)) (by decide) rfl ?_
  intro p e s m args below meth c s₁ B hml hEx hv
  obtain ⟨rfl, hz, hP, hD, hK, hG⟩ := hv
  have C0 : x_Ctx G p s m _ meth c prog_1_method_10_code "ContentLibrary" 5 (some .int) := ⟨B.exec, B.bytes, B.returns, hml, findClass_of_methodNamed B.named, fun w h => atoms_spec (ws := (x_ws (⟨"ContentLibrary", "drop", "(I)I"⟩ : MethodName) prog_1_method_10_code 5 (some .int))) B.pre w (List.mem_cons_of_mem _ h), B.notSynchronized, hz, hK, hG⟩
  obtain ⟨hx, hb, hr, hml, hown, hts, hlocks, hz, hK, hG⟩ := id C0
  have hS : va_S (x_A G) s.heap s.heap [] := va_S.rf
  have hl := lv_entry ([.ref (x_ad G 0), .int p1]) (n := 5) (Nat.le_of_ble_eq_true rfl)
  rw [lg_entry_eq]
  generalize (lg_sl ([.ref (x_ad G 0), .int p1]) ++ List.replicate (5 - (lg_sl ([.ref (x_ad G 0), .int p1])).length) Slot.unset).toArray = ls at hl ⊢
  have hl : lv_has ls 5 [(0, .ref (x_ad G 0)), (1, .int p1)] := hl
  rw [f_X_drop] at hf
  refine lv_aload_n hx hb d_X_drop_0 rfl (lv_at hl 0 rfl) ?_
  rcases x_clx_x hf with hq12 | ⟨r11, z11, hq12, hf⟩
  · exact e_callV (As := []) (rest := []) ⟨hx, hb, hml, hown, hts⟩ (c_X_refuseWhenCut_x l G hl9 z0 E zo hq12) (cwV 0 hts (x_gV t_335 t_337 sel_ContentLibrary_refuseWhenCut t_1 t_338) rfl rfl rfl (by decide +kernel) ⟨Nat.le_of_ble_eq_true rfl, Nat.le_of_ble_eq_true rfl⟩) ⟨x_blind _ _ _, va_recv hK hP (ci := 0) (q0 := 0) rfl (x_lk_X G _), fun U hU hW => ⟨rfl, x_pw hP hD hK hG hS hz hU hW⟩⟩ rfl hl.1 rfl (lv_room (Nat.le_of_ble_eq_true rfl)) d_X_drop_1 ⟨Nat.le_of_ble_eq_true rfl, Nat.le_of_ble_eq_true rfl⟩ hz hS (fun q ce H locs hP hD hS hce hcv hcl => e_out (fun x hx => (hEx x hx).elim) hlocks hce hcv hcl hS (fun t ht hW => x_pw hP hD hK hG hS hz ht hW) (Nat.le_of_ble_eq_true rfl) (Nat.le_of_ble_eq_true rfl))
  refine va_callv (va_runV (As := []) (rest := []) ⟨hx, hb, hml, hown, hts⟩ (c_X_refuseWhenCut l G z0 r11 z11 hq12) (cwV 0 hts (x_gV t_335 t_337 sel_ContentLibrary_refuseWhenCut t_1 t_338) rfl rfl rfl (by decide +kernel) ⟨Nat.le_of_ble_eq_true rfl, Nat.le_of_ble_eq_true rfl⟩) ⟨x_blind _ _ _, va_recv hK hP (ci := 0) (q0 := 0) rfl (x_lk_X G _), fun U hU hW => ⟨rfl, x_pw hP hD hK hG hS hz hU hW⟩⟩ rfl rfl hl.1 rfl (lv_room (Nat.le_of_ble_eq_true rfl)) d_X_drop_1 ⟨Nat.le_of_ble_eq_true rfl, Nat.le_of_ble_eq_true rfl⟩) hS (fun q _ h => h) (fun q h => h) (fun u t H locs ht hvm hw hB _ _ hS => ?_)
  obtain ⟨rfl, rfl⟩ := hw
  obtain ⟨hP, hD⟩ := x_back hB ht
  refine lv_aload_n hx hb d_X_drop_4 rfl (lv_at hl 0 rfl) ?_
  refine lv_iload_n hx hb d_X_drop_5 rfl (lv_at hl 1 rfl) ?_
  rcases x_clx_x hf with hq14 | ⟨r13, z13, hq14, hf⟩
  · exact e_callV (As := [.int p1]) (rest := []) ⟨hx, hb, hml, hown, hts⟩ (c_X_keptAt_x l G hl9 p1 z11 E zo hq14) (cwV 1 hts (x_gV t_558 t_560 sel_ContentLibrary_keptAt t_1 t_561) rfl rfl rfl (by decide +kernel) ⟨Nat.le_of_ble_eq_true rfl, Nat.le_of_ble_eq_true rfl⟩) ⟨x_blind _ _ _, va_recv hK hP (ci := 0) (q0 := 0) rfl (x_lk_X G _), fun U hU hW => ⟨rfl, x_pw hP hD hK hG hS hz hU hW⟩⟩ rfl hl.1 rfl (lv_room (Nat.le_of_ble_eq_true rfl)) d_X_drop_6 ⟨Nat.le_of_ble_eq_true rfl, Nat.le_of_ble_eq_true rfl⟩ hz hS (fun q ce H locs hP hD hS hce hcv hcl => e_out (fun x hx => (hEx x hx).elim) hlocks hce hcv hcl hS (fun t ht hW => x_pw hP hD hK hG hS hz ht hW) (Nat.le_of_ble_eq_true rfl) (Nat.le_of_ble_eq_true rfl))
  refine va_callr (va_runV (As := [.int p1]) (rest := []) ⟨hx, hb, hml, hown, hts⟩ (c_X_keptAt l G p1 z11 r13 z13 hq14) (cwV 1 hts (x_gV t_558 t_560 sel_ContentLibrary_keptAt t_1 t_561) rfl rfl rfl (by decide +kernel) ⟨Nat.le_of_ble_eq_true rfl, Nat.le_of_ble_eq_true rfl⟩) ⟨x_blind _ _ _, va_recv hK hP (ci := 0) (q0 := 0) rfl (x_lk_X G _), fun U hU hW => ⟨rfl, x_pw hP hD hK hG hS hz hU hW⟩⟩ rfl rfl hl.1 rfl (lv_room (Nat.le_of_ble_eq_true rfl)) d_X_drop_6 ⟨Nat.le_of_ble_eq_true rfl, Nat.le_of_ble_eq_true rfl⟩) hS (fun q _ h => h) (fun q h => h) (fun u ra t H locs ht hvm hw hB _ _ hS => ?_)
  obtain rfl := hw
  obtain ⟨_, rfl, hr13, rfl, hB⟩ := hB
  obtain ⟨hP, hD⟩ := x_back hB ht
  refine lv_astore_n (lv' := [(2, .ref (x_ad G r13)), (0, .ref (x_ad G 0)), (1, .int p1)]) hx hb d_X_drop_9 rfl hl (by decide) rfl (fun ls hl => ?_)
  refine lv_aload_n hx hb d_X_drop_10 rfl (lv_at hl 1 rfl) ?_
  refine va_get (D := x_D G) (ci := 0) (v := .ref (x_ad G 1)) (C := "ContentLibrary") (T := x_TX) (N := 9) hx hb hts x_inX hown hK hP 0 (x_lk_X G _) rfl 0 (by decide) (hts _ t_130) (fun _ h9 => h9) rfl d_X_drop_11 ?_
  refine lv_aload_n hx hb d_X_drop_14 rfl (lv_at hl 0 rfl) ?_
  refine va_get (D := x_D G) (ci := 3) (v := .ref (x_ad G (r13 + 4))) (C := "ContentLibrary$Kept") (T := x_TK) (N := 6) hx hb hts x_inK hown hK hP r13 (x_lk_K G _ hr13) rfl 5 (by decide) (hts _ t_100) (fun _ h9 => h9) rfl d_X_drop_15 ?_
  refine lv_aload_n hx hb d_X_drop_18 rfl (lv_at hl 0 rfl) ?_
  refine va_get (D := x_D G) (ci := 3) (v := .int (z13.1 r13 4)) (C := "ContentLibrary$Kept") (T := x_TK) (N := 6) hx hb hts x_inK hown hK hP r13 (x_lk_K G _ hr13) rfl 4 (by decide) (hts _ t_98) (fun _ h9 => h9) rfl d_X_drop_19 ?_
  obtain ⟨hin15, hf⟩ := x_ck_some hf
  refine va_iald hx hb hK hP (r13 + 4) 0 (x_lk_A G _ (x_K_A4 hr13)) rfl hin15 d_X_drop_22 ?_
  obtain ⟨r16, z16, hq17, hf⟩ := x_cl_some hf
  refine va_calli (va_runV (As := [.int (z13.1 (r13 + 4) ((z13.1 r13 4)).toNatClampNeg)]) (rest := []) ⟨hx, hb, hml, hown, hts⟩ (c_B_wipe l G (z13.1 (r13 + 4) ((z13.1 r13 4)).toNatClampNeg) z13 r16 z16 hq17) (cwV 1 hts (x_gV t_513 t_514 t_515 t_3 t_516) rfl rfl rfl (by decide +kernel) ⟨Nat.le_of_ble_eq_true rfl, Nat.le_of_ble_eq_true rfl⟩) ⟨x_blind _ _ _, va_recv hK hP (ci := 1) (q0 := 1) rfl (x_lk_B G _), fun U hU hW => ⟨rfl, x_pw hP hD hK hG hS hz hU hW⟩⟩ rfl rfl hl.1 rfl (lv_room (Nat.le_of_ble_eq_true rfl)) d_X_drop_23 ⟨Nat.le_of_ble_eq_true rfl, Nat.le_of_ble_eq_true rfl⟩) hS (fun q _ h => h) (fun q h => h) (fun ra u t H locs ht hvm hw hB _ _ hS => ?_)
  obtain ⟨rfl, rfl⟩ := hw
  obtain ⟨hP, hD⟩ := x_back hB ht
  refine lv_istore_n (lv' := [(3, .int r16), (2, .ref (x_ad G r13)), (0, .ref (x_ad G 0)), (1, .int p1)]) hx hb d_X_drop_26 rfl hl (by decide) rfl (fun ls hl => ?_)
  refine lv_iconst (v := (0 : Int32)) hx hb d_X_drop_27 (by decide) ?_
  refine lv_istore (lv' := [(4, .int (0 : Int32)), (3, .int r16), (2, .ref (x_ad G r13)), (0, .ref (x_ad G 0)), (1, .int p1)]) hx hb d_X_drop_28 hl (by decide) rfl (fun ls hl => ?_)
  exact w_X_drop_30_x l G C0 hl9 hEx E zo x_FU r13 hr13 r16 (0 : Int32) z16 hf _ _ _ hP hD hS (lv_sub hl [3, 2, 1, 0] rfl)
abbrev rm_X_sweep : Room := { frames := 7, cells := 0, slots := 0, locals := 102 }
abbrev rx_X_sweep : Room := { frames := 7, cells := 1, slots := 6, locals := 102 }
set_option maxHeartbeats 4000000 in
set_option maxRecDepth 100000 in
theorem c_X_sweep (l : Launch) (G : x_G)  (z0 : x_St) (r : Int32) (zo : x_St) (hf : f_X_sweep (x_n G)  z0 = some (Sum.inr r, zo)) : Met l (⟨"ContentLibrary", "sweep", "()I"⟩ : MethodName) (x_ws (⟨"ContentLibrary", "sweep", "()I"⟩ : MethodName) prog_1_method_11_code 2 (some .int)) rm_X_sweep (va_Pc [.ref (x_ad G 0)] (x_PW G z0)) (va_Qi (fun a u => r = a ∧ zo = u) (x_PW G) (x_A G)) 0 0 (x_A G) := by
  refine Met.ofW (cc := prog_1_method_11_code) (maxL := 2) (ret := (some .int)) (by decide) rfl ?_
  intro p e s m args below meth c s₁ B hml hv
  obtain ⟨rfl, hz, hP, hD, hK, hG⟩ := hv
  have C0 : x_Ctx G p s m _ meth c prog_1_method_11_code "ContentLibrary" 2 (some .int) := ⟨B.exec, B.bytes, B.returns, hml, findClass_of_methodNamed B.named, fun w h => atoms_spec (ws := (x_ws (⟨"ContentLibrary", "sweep", "()I"⟩ : MethodName) prog_1_method_11_code 2 (some .int))) B.pre w (List.mem_cons_of_mem _ h), B.notSynchronized, hz, hK, hG⟩
  obtain ⟨hx, hb, hr, hml, hown, hts, hlocks, hz, hK, hG⟩ := id C0
  have hS : va_S (x_A G) s.heap s.heap [] := va_S.rf
  have hl := lv_entry ([.ref (x_ad G 0)]) (n := 2) (Nat.le_of_ble_eq_true rfl)
  rw [lg_entry_eq]
  generalize (lg_sl ([.ref (x_ad G 0)]) ++ List.replicate (2 - (lg_sl ([.ref (x_ad G 0)])).length) Slot.unset).toArray = ls at hl ⊢
  have hl : lv_has ls 2 [(0, .ref (x_ad G 0))] := hl
  rw [f_X_sweep] at hf
  refine lv_aload_n hx hb d_X_sweep_0 rfl (lv_at hl 0 rfl) ?_
  obtain ⟨r1, z1, hq2, hf⟩ := x_clx_r hf
  refine va_callv (va_runV (As := []) (rest := []) ⟨hx, hb, hml, hown, hts⟩ (c_X_refuseWhenCut l G z0 r1 z1 hq2) (cwV 0 hts (x_gV t_335 t_337 sel_ContentLibrary_refuseWhenCut t_1 t_338) rfl rfl rfl (by decide +kernel) ⟨Nat.le_of_ble_eq_true rfl, Nat.le_of_ble_eq_true rfl⟩) ⟨x_blind _ _ _, va_recv hK hP (ci := 0) (q0 := 0) rfl (x_lk_X G _), fun U hU hW => ⟨rfl, x_pw hP hD hK hG hS hz hU hW⟩⟩ rfl rfl hl.1 rfl (lv_room (Nat.le_of_ble_eq_true rfl)) d_X_sweep_1 ⟨Nat.le_of_ble_eq_true rfl, Nat.le_of_ble_eq_true rfl⟩) hS (fun q _ h => h) (fun q h => h) (fun u t H locs ht hvm hw hB _ _ hS => ?_)
  obtain ⟨rfl, rfl⟩ := hw
  obtain ⟨hP, hD⟩ := x_back hB ht
  refine lv_aload_n hx hb d_X_sweep_4 rfl (lv_at hl 0 rfl) ?_
  refine lv_iconst (v := (-1 : Int32)) hx hb d_X_sweep_5 (by decide) ?_
  obtain ⟨r3, z3, hq4, hf⟩ := x_cl_some hf
  refine va_calli (va_runV (As := [.int (-1 : Int32)]) (rest := []) ⟨hx, hb, hml, hown, hts⟩ (c_X_wipeFreeBlocks l G (-1 : Int32) z1 r3 z3 hq4) (cwV 1 hts (x_gV t_509 t_511 sel_ContentLibrary_wipeFreeBlocks t_1 t_512) rfl rfl rfl (by decide +kernel) ⟨Nat.le_of_ble_eq_true rfl, Nat.le_of_ble_eq_true rfl⟩) ⟨x_blind _ _ _, va_recv hK hP (ci := 0) (q0 := 0) rfl (x_lk_X G _), fun U hU hW => ⟨rfl, x_pw hP hD hK hG hS hz hU hW⟩⟩ rfl rfl hl.1 rfl (lv_room (Nat.le_of_ble_eq_true rfl)) d_X_sweep_6 ⟨Nat.le_of_ble_eq_true rfl, Nat.le_of_ble_eq_true rfl⟩) hS (fun q _ h => h) (fun q h => h) (fun ra u t H locs ht hvm hw hB _ _ hS => ?_)
  obtain ⟨rfl, rfl⟩ := hw
  obtain ⟨hP, hD⟩ := x_back hB ht
  refine lv_istore_n (lv' := [(1, .int r3), (0, .ref (x_ad G 0))]) hx hb d_X_sweep_9 rfl hl (by decide) rfl (fun ls hl => ?_)
  refine lv_iload_n hx hb d_X_sweep_10 rfl (lv_at hl 0 rfl) ?_
  refine lv_bipush (v := (-2 : Int32)) hx hb d_X_sweep_11 (by decide) ?_
  refine lv_icmp_ne (tgt := 23) hx hb d_X_sweep_13 (by decide) (fun hc5 => ?_) (fun hc5 => ?_)
  · have hf := x_br_f hf hc5
    refine lv_iload_n hx hb d_X_sweep_23 rfl (lv_at hl 0 rfl) ?_
    obtain ⟨rfl, rfl⟩ := x_retr hf
    exact W.iret (v := r3) hx hb hr (fun t ht hW => ⟨⟨_, _, rfl, ⟨rfl, rfl⟩, x_pw hP hD hK hG hS hz ht hW⟩, hS.F ht⟩) hS.2.2 d_X_sweep_24
  · have hf := x_br_t hf hc5
    refine lv_aload_n hx hb d_X_sweep_16 rfl (lv_at hl 1 rfl) ?_
    obtain ⟨r6, z6, hq7, hf⟩ := x_cl_some hf
    refine va_calli (va_runV (As := []) (rest := []) ⟨hx, hb, hml, hown, hts⟩ (c_X_afterCut l G z3 r6 z6 hq7) (cwV 0 hts (x_gV t_547 t_549 sel_ContentLibrary_afterCut t_1 t_550) rfl rfl rfl (by decide +kernel) ⟨Nat.le_of_ble_eq_true rfl, Nat.le_of_ble_eq_true rfl⟩) ⟨x_blind _ _ _, va_recv hK hP (ci := 0) (q0 := 0) rfl (x_lk_X G _), fun U hU hW => ⟨rfl, x_pw hP hD hK hG hS hz hU hW⟩⟩ rfl rfl hl.1 rfl (lv_room (Nat.le_of_ble_eq_true rfl)) d_X_sweep_17 ⟨Nat.le_of_ble_eq_true rfl, Nat.le_of_ble_eq_true rfl⟩) hS (fun q _ h => h) (fun q h => h) (fun ra u t H locs ht hvm hw hB _ _ hS => ?_)
    obtain ⟨rfl, rfl⟩ := hw
    obtain ⟨hP, hD⟩ := x_back hB ht
    refine lv_goto (tgt := 24) hx hb d_X_sweep_20 (by decide) ?_
    obtain ⟨rfl, rfl⟩ := x_retr hf
    exact W.iret (v := r6) hx hb hr (fun t ht hW => ⟨⟨_, _, rfl, ⟨rfl, rfl⟩, x_pw hP hD hK hG hS hz ht hW⟩, hS.F ht⟩) hS.2.2 d_X_sweep_24
set_option maxHeartbeats 4000000 in
set_option maxRecDepth 100000 in
theorem c_X_sweep_x (l : Launch) (G : x_G) (hl9 : l.stackTraces = false)  (z0 : x_St) (E : String) (zo : x_St) (hf : f_X_sweep (x_n G)  z0 = some (Sum.inl E, zo)) : e_Met l G (⟨"ContentLibrary", "sweep", "()I"⟩ : MethodName) (x_ws (⟨"ContentLibrary", "sweep", "()I"⟩ : MethodName) prog_1_method_11_code 2 (some .int)) rx_X_sweep (va_Pc [.ref (x_ad G 0)] (x_PW G z0)) E zo 1 6 := by
  refine e_ofW (cc := prog_1_method_11_code) (maxL := 2) (ret := (some .int)) (by decide) rfl ?_
  intro p e s m args below meth c s₁ B hml hEx hv
  obtain ⟨rfl, hz, hP, hD, hK, hG⟩ := hv
  have C0 : x_Ctx G p s m _ meth c prog_1_method_11_code "ContentLibrary" 2 (some .int) := ⟨B.exec, B.bytes, B.returns, hml, findClass_of_methodNamed B.named, fun w h => atoms_spec (ws := (x_ws (⟨"ContentLibrary", "sweep", "()I"⟩ : MethodName) prog_1_method_11_code 2 (some .int))) B.pre w (List.mem_cons_of_mem _ h), B.notSynchronized, hz, hK, hG⟩
  obtain ⟨hx, hb, hr, hml, hown, hts, hlocks, hz, hK, hG⟩ := id C0
  have hS : va_S (x_A G) s.heap s.heap [] := va_S.rf
  have hl := lv_entry ([.ref (x_ad G 0)]) (n := 2) (Nat.le_of_ble_eq_true rfl)
  rw [lg_entry_eq]
  generalize (lg_sl ([.ref (x_ad G 0)]) ++ List.replicate (2 - (lg_sl ([.ref (x_ad G 0)])).length) Slot.unset).toArray = ls at hl ⊢
  have hl : lv_has ls 2 [(0, .ref (x_ad G 0))] := hl
  rw [f_X_sweep] at hf
  refine lv_aload_n hx hb d_X_sweep_0 rfl (lv_at hl 0 rfl) ?_
  rcases x_clx_x hf with hq2 | ⟨r1, z1, hq2, hf⟩
  · exact e_callV (As := []) (rest := []) ⟨hx, hb, hml, hown, hts⟩ (c_X_refuseWhenCut_x l G hl9 z0 E zo hq2) (cwV 0 hts (x_gV t_335 t_337 sel_ContentLibrary_refuseWhenCut t_1 t_338) rfl rfl rfl (by decide +kernel) ⟨Nat.le_of_ble_eq_true rfl, Nat.le_of_ble_eq_true rfl⟩) ⟨x_blind _ _ _, va_recv hK hP (ci := 0) (q0 := 0) rfl (x_lk_X G _), fun U hU hW => ⟨rfl, x_pw hP hD hK hG hS hz hU hW⟩⟩ rfl hl.1 rfl (lv_room (Nat.le_of_ble_eq_true rfl)) d_X_sweep_1 ⟨Nat.le_of_ble_eq_true rfl, Nat.le_of_ble_eq_true rfl⟩ hz hS (fun q ce H locs hP hD hS hce hcv hcl => e_out (fun x hx => (hEx x hx).elim) hlocks hce hcv hcl hS (fun t ht hW => x_pw hP hD hK hG hS hz ht hW) (Nat.le_of_ble_eq_true rfl) (Nat.le_of_ble_eq_true rfl))
  refine va_callv (va_runV (As := []) (rest := []) ⟨hx, hb, hml, hown, hts⟩ (c_X_refuseWhenCut l G z0 r1 z1 hq2) (cwV 0 hts (x_gV t_335 t_337 sel_ContentLibrary_refuseWhenCut t_1 t_338) rfl rfl rfl (by decide +kernel) ⟨Nat.le_of_ble_eq_true rfl, Nat.le_of_ble_eq_true rfl⟩) ⟨x_blind _ _ _, va_recv hK hP (ci := 0) (q0 := 0) rfl (x_lk_X G _), fun U hU hW => ⟨rfl, x_pw hP hD hK hG hS hz hU hW⟩⟩ rfl rfl hl.1 rfl (lv_room (Nat.le_of_ble_eq_true rfl)) d_X_sweep_1 ⟨Nat.le_of_ble_eq_true rfl, Nat.le_of_ble_eq_true rfl⟩) hS (fun q _ h => h) (fun q h => h) (fun u t H locs ht hvm hw hB _ _ hS => ?_)
  obtain ⟨rfl, rfl⟩ := hw
  obtain ⟨hP, hD⟩ := x_back hB ht
  refine lv_aload_n hx hb d_X_sweep_4 rfl (lv_at hl 0 rfl) ?_
  refine lv_iconst (v := (-1 : Int32)) hx hb d_X_sweep_5 (by decide) ?_
  obtain ⟨r3, z3, hq4, hf⟩ := x_cl_some hf
  refine va_calli (va_runV (As := [.int (-1 : Int32)]) (rest := []) ⟨hx, hb, hml, hown, hts⟩ (c_X_wipeFreeBlocks l G (-1 : Int32) z1 r3 z3 hq4) (cwV 1 hts (x_gV t_509 t_511 sel_ContentLibrary_wipeFreeBlocks t_1 t_512) rfl rfl rfl (by decide +kernel) ⟨Nat.le_of_ble_eq_true rfl, Nat.le_of_ble_eq_true rfl⟩) ⟨x_blind _ _ _, va_recv hK hP (ci := 0) (q0 := 0) rfl (x_lk_X G _), fun U hU hW => ⟨rfl, x_pw hP hD hK hG hS hz hU hW⟩⟩ rfl rfl hl.1 rfl (lv_room (Nat.le_of_ble_eq_true rfl)) d_X_sweep_6 ⟨Nat.le_of_ble_eq_true rfl, Nat.le_of_ble_eq_true rfl⟩) hS (fun q _ h => h) (fun q h => h) (fun ra u t H locs ht hvm hw hB _ _ hS => ?_)
  obtain ⟨rfl, rfl⟩ := hw
  obtain ⟨hP, hD⟩ := x_back hB ht
  refine lv_istore_n (lv' := [(1, .int r3), (0, .ref (x_ad G 0))]) hx hb d_X_sweep_9 rfl hl (by decide) rfl (fun ls hl => ?_)
  refine lv_iload_n hx hb d_X_sweep_10 rfl (lv_at hl 0 rfl) ?_
  refine lv_bipush (v := (-2 : Int32)) hx hb d_X_sweep_11 (by decide) ?_
  refine lv_icmp_ne (tgt := 23) hx hb d_X_sweep_13 (by decide) (fun hc5 => ?_) (fun hc5 => ?_)
  · have hf := x_br_f hf hc5
    refine lv_iload_n hx hb d_X_sweep_23 rfl (lv_at hl 0 rfl) ?_
    exact absurd hf x_no_x
  · have hf := x_br_t hf hc5
    refine lv_aload_n hx hb d_X_sweep_16 rfl (lv_at hl 1 rfl) ?_
    obtain ⟨r6, z6, hq7, hf⟩ := x_cl_some hf
    refine va_calli (va_runV (As := []) (rest := []) ⟨hx, hb, hml, hown, hts⟩ (c_X_afterCut l G z3 r6 z6 hq7) (cwV 0 hts (x_gV t_547 t_549 sel_ContentLibrary_afterCut t_1 t_550) rfl rfl rfl (by decide +kernel) ⟨Nat.le_of_ble_eq_true rfl, Nat.le_of_ble_eq_true rfl⟩) ⟨x_blind _ _ _, va_recv hK hP (ci := 0) (q0 := 0) rfl (x_lk_X G _), fun U hU hW => ⟨rfl, x_pw hP hD hK hG hS hz hU hW⟩⟩ rfl rfl hl.1 rfl (lv_room (Nat.le_of_ble_eq_true rfl)) d_X_sweep_17 ⟨Nat.le_of_ble_eq_true rfl, Nat.le_of_ble_eq_true rfl⟩) hS (fun q _ h => h) (fun q h => h) (fun ra u t H locs ht hvm hw hB _ _ hS => ?_)
    obtain ⟨rfl, rfl⟩ := hw
    obtain ⟨hP, hD⟩ := x_back hB ht
    refine lv_goto (tgt := 24) hx hb d_X_sweep_20 (by decide) ?_
    exact absurd hf x_no_x
abbrev rm_X_fuse : Room := { frames := 7, cells := 0, slots := 0, locals := 102 }
abbrev rx_X_fuse : Room := { frames := 7, cells := 1, slots := 6, locals := 102 }
set_option maxHeartbeats 4000000 in
set_option maxRecDepth 100000 in
theorem c_X_fuse (l : Launch) (G : x_G) (p1 : Int32) (z0 : x_St) (r : Int32) (zo : x_St) (hf : f_X_fuse (x_n G) p1 z0 = some (Sum.inr r, zo)) : Met l (⟨"ContentLibrary", "fuse", "(I)I"⟩ : MethodName) (x_ws (⟨"ContentLibrary", "fuse", "(I)I"⟩ : MethodName) prog_1_method_12_code 3 (some .int)) rm_X_fuse (va_Pc [.ref (x_ad G 0), .int p1] (x_PW G z0)) (va_Qi (fun a u => r = a ∧ zo = u) (x_PW G) (x_A G)) 0 0 (x_A G) := by
  refine Met.ofW (cc := prog_1_method_12_code) (maxL := 3) (ret := (some .int)) (by decide) rfl ?_
  intro p e s m args below meth c s₁ B hml hv
  obtain ⟨rfl, hz, hP, hD, hK, hG⟩ := hv
  have C0 : x_Ctx G p s m _ meth c prog_1_method_12_code "ContentLibrary" 3 (some .int) := ⟨B.exec, B.bytes, B.returns, hml, findClass_of_methodNamed B.named, fun w h => atoms_spec (ws := (x_ws (⟨"ContentLibrary", "fuse", "(I)I"⟩ : MethodName) prog_1_method_12_code 3 (some .int))) B.pre w (List.mem_cons_of_mem _ h), B.notSynchronized, hz, hK, hG⟩
  obtain ⟨hx, hb, hr, hml, hown, hts, hlocks, hz, hK, hG⟩ := id C0
  have hS : va_S (x_A G) s.heap s.heap [] := va_S.rf
  have hl := lv_entry ([.ref (x_ad G 0), .int p1]) (n := 3) (Nat.le_of_ble_eq_true rfl)
  rw [lg_entry_eq]
  generalize (lg_sl ([.ref (x_ad G 0), .int p1]) ++ List.replicate (3 - (lg_sl ([.ref (x_ad G 0), .int p1])).length) Slot.unset).toArray = ls at hl ⊢
  have hl : lv_has ls 3 [(0, .ref (x_ad G 0)), (1, .int p1)] := hl
  rw [f_X_fuse] at hf
  refine lv_aload_n hx hb d_X_fuse_0 rfl (lv_at hl 0 rfl) ?_
  obtain ⟨r1, z1, hq2, hf⟩ := x_clx_r hf
  refine va_callv (va_runV (As := []) (rest := []) ⟨hx, hb, hml, hown, hts⟩ (c_X_refuseWhenCut l G z0 r1 z1 hq2) (cwV 0 hts (x_gV t_335 t_337 sel_ContentLibrary_refuseWhenCut t_1 t_338) rfl rfl rfl (by decide +kernel) ⟨Nat.le_of_ble_eq_true rfl, Nat.le_of_ble_eq_true rfl⟩) ⟨x_blind _ _ _, va_recv hK hP (ci := 0) (q0 := 0) rfl (x_lk_X G _), fun U hU hW => ⟨rfl, x_pw hP hD hK hG hS hz hU hW⟩⟩ rfl rfl hl.1 rfl (lv_room (Nat.le_of_ble_eq_true rfl)) d_X_fuse_1 ⟨Nat.le_of_ble_eq_true rfl, Nat.le_of_ble_eq_true rfl⟩) hS (fun q _ h => h) (fun q h => h) (fun u t H locs ht hvm hw hB _ _ hS => ?_)
  obtain ⟨rfl, rfl⟩ := hw
  obtain ⟨hP, hD⟩ := x_back hB ht
  refine lv_iload_n hx hb d_X_fuse_4 rfl (lv_at hl 1 rfl) ?_
  refine lv_iconst (v := (-1 : Int32)) hx hb d_X_fuse_5 (by decide) ?_
  refine lv_icmp_ge (tgt := 19) hx hb d_X_fuse_6 (by decide) (fun hc3 => ?_) (fun hc3 => ?_)
  · have hf := x_br_t hf hc3
    refine lv_aload_n hx hb d_X_fuse_19 rfl (lv_at hl 0 rfl) ?_
    refine va_get (D := x_D G) (ci := 0) (v := .ref (x_ad G 1)) (C := "ContentLibrary") (T := x_TX) (N := 9) hx hb hts x_inX hown hK hP 0 (x_lk_X G _) rfl 0 (by decide) (hts _ t_130) (fun _ h9 => h9) rfl d_X_fuse_20 ?_
    refine va_get (D := x_D G) (ci := 1) (v := .int (z1.1 1 1)) (C := "ContentLibrary$Blocks") (T := x_TB) (N := 5) hx hb hts x_inB hown hK hP 1 (x_lk_B G _) rfl 1 (by decide) (hts _ t_42) (fun _ h9 => h9) rfl d_X_fuse_23 ?_
    refine lv_istore_n (lv' := [(2, .int (z1.1 1 1)), (0, .ref (x_ad G 0)), (1, .int p1)]) hx hb d_X_fuse_26 rfl hl (by decide) rfl (fun ls hl => ?_)
    refine lv_aload_n hx hb d_X_fuse_27 rfl (lv_at hl 1 rfl) ?_
    refine va_get (D := x_D G) (ci := 0) (v := .ref (x_ad G 1)) (C := "ContentLibrary") (T := x_TX) (N := 9) hx hb hts x_inX hown hK hP 0 (x_lk_X G _) rfl 0 (by decide) (hts _ t_130) (fun _ h9 => h9) rfl d_X_fuse_28 ?_
    refine lv_iload_n hx hb d_X_fuse_31 rfl (lv_at hl 2 rfl) ?_
    refine va_put (D := x_D G) (ci := 1) (v := .int p1) (ty := .int) (C := "ContentLibrary$Blocks") (T := x_TB) (N := 5) hx hb hts x_inB x_tyB x_tyB_ok x_nmB hown hK hP hD hS 1 (x_lk_B G _) rfl 1 (by decide) (hts _ t_42) (fun _ h9 => h9) rfl (by decide +kernel) rfl rfl (Nat.le_of_ble_eq_true rfl) d_X_fuse_32 (fun H locs hP hD hS => ?_)
    rw [x_st_B1 G _] at hP hD
    refine lv_iload_n hx hb d_X_fuse_35 rfl (lv_at hl 0 rfl) ?_
    obtain ⟨rfl, rfl⟩ := x_retr hf
    exact W.iret (v := (z1.1 1 1)) hx hb hr (fun t ht hW => ⟨⟨_, _, rfl, ⟨rfl, rfl⟩, x_pw hP hD hK hG hS hz ht hW⟩, hS.F ht⟩) hS.2.2 d_X_fuse_36
  · have hf := x_br_f hf hc3
    exact absurd hf x_no_r
set_option maxHeartbeats 4000000 in
set_option maxRecDepth 100000 in
theorem c_X_fuse_x (l : Launch) (G : x_G) (hl9 : l.stackTraces = false) (p1 : Int32) (z0 : x_St) (E : String) (zo : x_St) (hf : f_X_fuse (x_n G) p1 z0 = some (Sum.inl E, zo)) : e_Met l G (⟨"ContentLibrary", "fuse", "(I)I"⟩ : MethodName) (x_ws (⟨"ContentLibrary", "fuse", "(I)I"⟩ : MethodName) prog_1_method_12_code 3 (some .int)) rx_X_fuse (va_Pc [.ref (x_ad G 0), .int p1] (x_PW G z0)) E zo 1 6 := by
  refine e_ofW (cc := prog_1_method_12_code) (maxL := 3) (ret := (some .int)) (by decide) rfl ?_
  intro p e s m args below meth c s₁ B hml hEx hv
  obtain ⟨rfl, hz, hP, hD, hK, hG⟩ := hv
  have C0 : x_Ctx G p s m _ meth c prog_1_method_12_code "ContentLibrary" 3 (some .int) := ⟨B.exec, B.bytes, B.returns, hml, findClass_of_methodNamed B.named, fun w h => atoms_spec (ws := (x_ws (⟨"ContentLibrary", "fuse", "(I)I"⟩ : MethodName) prog_1_method_12_code 3 (some .int))) B.pre w (List.mem_cons_of_mem _ h), B.notSynchronized, hz, hK, hG⟩
  obtain ⟨hx, hb, hr, hml, hown, hts, hlocks, hz, hK, hG⟩ := id C0
  have hS : va_S (x_A G) s.heap s.heap [] := va_S.rf
  have hl := lv_entry ([.ref (x_ad G 0), .int p1]) (n := 3) (Nat.le_of_ble_eq_true rfl)
  rw [lg_entry_eq]
  generalize (lg_sl ([.ref (x_ad G 0), .int p1]) ++ List.replicate (3 - (lg_sl ([.ref (x_ad G 0), .int p1])).length) Slot.unset).toArray = ls at hl ⊢
  have hl : lv_has ls 3 [(0, .ref (x_ad G 0)), (1, .int p1)] := hl
  rw [f_X_fuse] at hf
  refine lv_aload_n hx hb d_X_fuse_0 rfl (lv_at hl 0 rfl) ?_
  rcases x_clx_x hf with hq2 | ⟨r1, z1, hq2, hf⟩
  · exact e_callV (As := []) (rest := []) ⟨hx, hb, hml, hown, hts⟩ (c_X_refuseWhenCut_x l G hl9 z0 E zo hq2) (cwV 0 hts (x_gV t_335 t_337 sel_ContentLibrary_refuseWhenCut t_1 t_338) rfl rfl rfl (by decide +kernel) ⟨Nat.le_of_ble_eq_true rfl, Nat.le_of_ble_eq_true rfl⟩) ⟨x_blind _ _ _, va_recv hK hP (ci := 0) (q0 := 0) rfl (x_lk_X G _), fun U hU hW => ⟨rfl, x_pw hP hD hK hG hS hz hU hW⟩⟩ rfl hl.1 rfl (lv_room (Nat.le_of_ble_eq_true rfl)) d_X_fuse_1 ⟨Nat.le_of_ble_eq_true rfl, Nat.le_of_ble_eq_true rfl⟩ hz hS (fun q ce H locs hP hD hS hce hcv hcl => e_out (fun x hx => (hEx x hx).elim) hlocks hce hcv hcl hS (fun t ht hW => x_pw hP hD hK hG hS hz ht hW) (Nat.le_of_ble_eq_true rfl) (Nat.le_of_ble_eq_true rfl))
  refine va_callv (va_runV (As := []) (rest := []) ⟨hx, hb, hml, hown, hts⟩ (c_X_refuseWhenCut l G z0 r1 z1 hq2) (cwV 0 hts (x_gV t_335 t_337 sel_ContentLibrary_refuseWhenCut t_1 t_338) rfl rfl rfl (by decide +kernel) ⟨Nat.le_of_ble_eq_true rfl, Nat.le_of_ble_eq_true rfl⟩) ⟨x_blind _ _ _, va_recv hK hP (ci := 0) (q0 := 0) rfl (x_lk_X G _), fun U hU hW => ⟨rfl, x_pw hP hD hK hG hS hz hU hW⟩⟩ rfl rfl hl.1 rfl (lv_room (Nat.le_of_ble_eq_true rfl)) d_X_fuse_1 ⟨Nat.le_of_ble_eq_true rfl, Nat.le_of_ble_eq_true rfl⟩) hS (fun q _ h => h) (fun q h => h) (fun u t H locs ht hvm hw hB _ _ hS => ?_)
  obtain ⟨rfl, rfl⟩ := hw
  obtain ⟨hP, hD⟩ := x_back hB ht
  refine lv_iload_n hx hb d_X_fuse_4 rfl (lv_at hl 1 rfl) ?_
  refine lv_iconst (v := (-1 : Int32)) hx hb d_X_fuse_5 (by decide) ?_
  refine lv_icmp_ge (tgt := 19) hx hb d_X_fuse_6 (by decide) (fun hc3 => ?_) (fun hc3 => ?_)
  · have hf := x_br_t hf hc3
    refine lv_aload_n hx hb d_X_fuse_19 rfl (lv_at hl 0 rfl) ?_
    refine va_get (D := x_D G) (ci := 0) (v := .ref (x_ad G 1)) (C := "ContentLibrary") (T := x_TX) (N := 9) hx hb hts x_inX hown hK hP 0 (x_lk_X G _) rfl 0 (by decide) (hts _ t_130) (fun _ h9 => h9) rfl d_X_fuse_20 ?_
    refine va_get (D := x_D G) (ci := 1) (v := .int (z1.1 1 1)) (C := "ContentLibrary$Blocks") (T := x_TB) (N := 5) hx hb hts x_inB hown hK hP 1 (x_lk_B G _) rfl 1 (by decide) (hts _ t_42) (fun _ h9 => h9) rfl d_X_fuse_23 ?_
    refine lv_istore_n (lv' := [(2, .int (z1.1 1 1)), (0, .ref (x_ad G 0)), (1, .int p1)]) hx hb d_X_fuse_26 rfl hl (by decide) rfl (fun ls hl => ?_)
    refine lv_aload_n hx hb d_X_fuse_27 rfl (lv_at hl 1 rfl) ?_
    refine va_get (D := x_D G) (ci := 0) (v := .ref (x_ad G 1)) (C := "ContentLibrary") (T := x_TX) (N := 9) hx hb hts x_inX hown hK hP 0 (x_lk_X G _) rfl 0 (by decide) (hts _ t_130) (fun _ h9 => h9) rfl d_X_fuse_28 ?_
    refine lv_iload_n hx hb d_X_fuse_31 rfl (lv_at hl 2 rfl) ?_
    refine va_put (D := x_D G) (ci := 1) (v := .int p1) (ty := .int) (C := "ContentLibrary$Blocks") (T := x_TB) (N := 5) hx hb hts x_inB x_tyB x_tyB_ok x_nmB hown hK hP hD hS 1 (x_lk_B G _) rfl 1 (by decide) (hts _ t_42) (fun _ h9 => h9) rfl (by decide +kernel) rfl rfl (Nat.le_of_ble_eq_true rfl) d_X_fuse_32 (fun H locs hP hD hS => ?_)
    rw [x_st_B1 G _] at hP hD
    refine lv_iload_n hx hb d_X_fuse_35 rfl (lv_at hl 0 rfl) ?_
    exact absurd hf x_no_x
  · have hf := x_br_f hf hc3
    obtain ⟨rfl, rfl⟩ := x_retx hf
    exact e_throw (text := "a fuse is of 0 bytes or more, or NONE") (is := 208) hx hb hl9 hown (by decide +kernel) (by decide) (by decide +kernel) hts t_409 t_12 at_77_IllegalArgumentException hG hS (hl.1.trans hml.symm) d_X_fuse_9 d_X_fuse_12 d_X_fuse_13 d_X_fuse_15 d_X_fuse_18 hEx (Nat.le_of_ble_eq_true rfl) (Nat.le_of_ble_eq_true rfl) (Nat.le_of_ble_eq_true rfl) (Nat.le_of_ble_eq_true rfl) hlocks (fun t hW hsz hk => x_pwk hP hD hK hG hS hz hsz hk hW) (Nat.le_of_ble_eq_true rfl) (Nat.le_of_ble_eq_true rfl)
abbrev rm_X_poke : Room := { frames := 7, cells := 0, slots := 0, locals := 104 }
abbrev rx_X_poke : Room := { frames := 7, cells := 1, slots := 6, locals := 104 }
set_option maxHeartbeats 4000000 in
set_option maxRecDepth 100000 in
theorem c_X_poke (l : Launch) (G : x_G) (p1 : Int32) (p2 : Int32) (p3 : Int32) (z0 : x_St) (r : Int32) (zo : x_St) (hf : f_X_poke (x_n G) p1 p2 p3 z0 = some (Sum.inr r, zo)) : Met l (⟨"ContentLibrary", "poke", "(III)I"⟩ : MethodName) (x_ws (⟨"ContentLibrary", "poke", "(III)I"⟩ : MethodName) prog_1_method_14_code 4 (some .int)) rm_X_poke (va_Pc [.ref (x_ad G 0), .int p1, .int p2, .int p3] (x_PW G z0)) (va_Qi (fun a u => r = a ∧ zo = u) (x_PW G) (x_A G)) 0 0 (x_A G) := by
  refine Met.ofW (cc := prog_1_method_14_code) (maxL := 4) (ret := (some .int)) (by decide) rfl ?_
  intro p e s m args below meth c s₁ B hml hv
  obtain ⟨rfl, hz, hP, hD, hK, hG⟩ := hv
  have C0 : x_Ctx G p s m _ meth c prog_1_method_14_code "ContentLibrary" 4 (some .int) := ⟨B.exec, B.bytes, B.returns, hml, findClass_of_methodNamed B.named, fun w h => atoms_spec (ws := (x_ws (⟨"ContentLibrary", "poke", "(III)I"⟩ : MethodName) prog_1_method_14_code 4 (some .int))) B.pre w (List.mem_cons_of_mem _ h), B.notSynchronized, hz, hK, hG⟩
  obtain ⟨hx, hb, hr, hml, hown, hts, hlocks, hz, hK, hG⟩ := id C0
  have hS : va_S (x_A G) s.heap s.heap [] := va_S.rf
  have hl := lv_entry ([.ref (x_ad G 0), .int p1, .int p2, .int p3]) (n := 4) (Nat.le_of_ble_eq_true rfl)
  rw [lg_entry_eq]
  generalize (lg_sl ([.ref (x_ad G 0), .int p1, .int p2, .int p3]) ++ List.replicate (4 - (lg_sl ([.ref (x_ad G 0), .int p1, .int p2, .int p3])).length) Slot.unset).toArray = ls at hl ⊢
  have hl : lv_has ls 4 [(0, .ref (x_ad G 0)), (1, .int p1), (2, .int p2), (3, .int p3)] := hl
  rw [f_X_poke] at hf
  refine lv_aload_n hx hb d_X_poke_0 rfl (lv_at hl 0 rfl) ?_
  refine lv_iload_n hx hb d_X_poke_1 rfl (lv_at hl 1 rfl) ?_
  refine lv_iload_n hx hb d_X_poke_2 rfl (lv_at hl 2 rfl) ?_
  obtain ⟨r1, z1, hq2, hf⟩ := x_clx_r hf
  refine va_callv (va_runV (As := [.int p1, .int p2]) (rest := []) ⟨hx, hb, hml, hown, hts⟩ (c_X_refuseUnlessByte l G p1 p2 z0 r1 z1 hq2) (cwV 2 hts (x_gV t_638 t_640 sel_ContentLibrary_refuseUnlessByte t_1 t_641) rfl rfl rfl (by decide +kernel) ⟨Nat.le_of_ble_eq_true rfl, Nat.le_of_ble_eq_true rfl⟩) ⟨x_blind _ _ _, va_recv hK hP (ci := 0) (q0 := 0) rfl (x_lk_X G _), fun U hU hW => ⟨rfl, x_pw hP hD hK hG hS hz hU hW⟩⟩ rfl rfl hl.1 rfl (lv_room (Nat.le_of_ble_eq_true rfl)) d_X_poke_3 ⟨Nat.le_of_ble_eq_true rfl, Nat.le_of_ble_eq_true rfl⟩) hS (fun q _ h => h) (fun q h => h) (fun u t H locs ht hvm hw hB _ _ hS => ?_)
  obtain ⟨rfl, rfl⟩ := hw
  obtain ⟨hP, hD⟩ := x_back hB ht
  refine lv_iload_n hx hb d_X_poke_6 rfl (lv_at hl 3 rfl) ?_
  refine lv_if_lt (tgt := 17) hx hb d_X_poke_7 (by decide) (fun hc3 => ?_) (fun hc3 => ?_)
  · have hf := x_br_t hf hc3
    exact absurd hf x_no_r
  · have hf := x_br_f hf hc3
    refine lv_iload_n hx hb d_X_poke_10 rfl (lv_at hl 3 rfl) ?_
    refine lv_sipush (v := (255 : Int32)) hx hb d_X_poke_11 (by decide) ?_
    refine lv_icmp_le (tgt := 27) hx hb d_X_poke_14 (by decide) (fun hc4 => ?_) (fun hc4 => ?_)
    · have hf := x_br_t hf hc4
      refine lv_aload_n hx hb d_X_poke_27 rfl (lv_at hl 0 rfl) ?_
      refine va_get (D := x_D G) (ci := 0) (v := .ref (x_ad G 1)) (C := "ContentLibrary") (T := x_TX) (N := 9) hx hb hts x_inX hown hK hP 0 (x_lk_X G _) rfl 0 (by decide) (hts _ t_130) (fun _ h9 => h9) rfl d_X_poke_28 ?_
      refine lv_iload_n hx hb d_X_poke_31 rfl (lv_at hl 1 rfl) ?_
      refine lv_iload_n hx hb d_X_poke_32 rfl (lv_at hl 2 rfl) ?_
      refine lv_iload_n hx hb d_X_poke_33 rfl (lv_at hl 3 rfl) ?_
      obtain ⟨r5, z5, hq6, hf⟩ := x_cl_some hf
      refine va_calli (va_runV (As := [.int p1, .int p2, .int p3]) (rest := []) ⟨hx, hb, hml, hown, hts⟩ (c_B_turn l G p1 p2 p3 z1 r5 z5 hq6) (cwV 3 hts (x_gV t_644 t_645 t_646 t_3 t_647) rfl rfl rfl (by decide +kernel) ⟨Nat.le_of_ble_eq_true rfl, Nat.le_of_ble_eq_true rfl⟩) ⟨x_blind _ _ _, va_recv hK hP (ci := 1) (q0 := 1) rfl (x_lk_B G _), fun U hU hW => ⟨rfl, x_pw hP hD hK hG hS hz hU hW⟩⟩ rfl rfl hl.1 rfl (lv_room (Nat.le_of_ble_eq_true rfl)) d_X_poke_34 ⟨Nat.le_of_ble_eq_true rfl, Nat.le_of_ble_eq_true rfl⟩) hS (fun q _ h => h) (fun q h => h) (fun ra u t H locs ht hvm hw hB _ _ hS => ?_)
      obtain ⟨rfl, rfl⟩ := hw
      obtain ⟨hP, hD⟩ := x_back hB ht
      obtain ⟨rfl, rfl⟩ := x_retr hf
      exact W.iret (v := r5) hx hb hr (fun t ht hW => ⟨⟨_, _, rfl, ⟨rfl, rfl⟩, x_pw hP hD hK hG hS hz ht hW⟩, hS.F ht⟩) hS.2.2 d_X_poke_37
    · have hf := x_br_f hf hc4
      exact absurd hf x_no_r
set_option maxHeartbeats 4000000 in
set_option maxRecDepth 100000 in
theorem c_X_poke_x (l : Launch) (G : x_G) (hl9 : l.stackTraces = false) (p1 : Int32) (p2 : Int32) (p3 : Int32) (z0 : x_St) (E : String) (zo : x_St) (hf : f_X_poke (x_n G) p1 p2 p3 z0 = some (Sum.inl E, zo)) : e_Met l G (⟨"ContentLibrary", "poke", "(III)I"⟩ : MethodName) (x_ws (⟨"ContentLibrary", "poke", "(III)I"⟩ : MethodName) prog_1_method_14_code 4 (some .int)) rx_X_poke (va_Pc [.ref (x_ad G 0), .int p1, .int p2, .int p3] (x_PW G z0)) E zo 1 6 := by
  refine e_ofW (cc := prog_1_method_14_code) (maxL := 4) (ret := (some .int)) (by decide) rfl ?_
  intro p e s m args below meth c s₁ B hml hEx hv
  obtain ⟨rfl, hz, hP, hD, hK, hG⟩ := hv
  have C0 : x_Ctx G p s m _ meth c prog_1_method_14_code "ContentLibrary" 4 (some .int) := ⟨B.exec, B.bytes, B.returns, hml, findClass_of_methodNamed B.named, fun w h => atoms_spec (ws := (x_ws (⟨"ContentLibrary", "poke", "(III)I"⟩ : MethodName) prog_1_method_14_code 4 (some .int))) B.pre w (List.mem_cons_of_mem _ h), B.notSynchronized, hz, hK, hG⟩
  obtain ⟨hx, hb, hr, hml, hown, hts, hlocks, hz, hK, hG⟩ := id C0
  have hS : va_S (x_A G) s.heap s.heap [] := va_S.rf
  have hl := lv_entry ([.ref (x_ad G 0), .int p1, .int p2, .int p3]) (n := 4) (Nat.le_of_ble_eq_true rfl)
  rw [lg_entry_eq]
  generalize (lg_sl ([.ref (x_ad G 0), .int p1, .int p2, .int p3]) ++ List.replicate (4 - (lg_sl ([.ref (x_ad G 0), .int p1, .int p2, .int p3])).length) Slot.unset).toArray = ls at hl ⊢
  have hl : lv_has ls 4 [(0, .ref (x_ad G 0)), (1, .int p1), (2, .int p2), (3, .int p3)] := hl
  rw [f_X_poke] at hf
  refine lv_aload_n hx hb d_X_poke_0 rfl (lv_at hl 0 rfl) ?_
  refine lv_iload_n hx hb d_X_poke_1 rfl (lv_at hl 1 rfl) ?_
  refine lv_iload_n hx hb d_X_poke_2 rfl (lv_at hl 2 rfl) ?_
  rcases x_clx_x hf with hq2 | ⟨r1, z1, hq2, hf⟩
  · exact e_callV (As := [.int p1, .int p2]) (rest := []) ⟨hx, hb, hml, hown, hts⟩ (c_X_refuseUnlessByte_x l G hl9 p1 p2 z0 E zo hq2) (cwV 2 hts (x_gV t_638 t_640 sel_ContentLibrary_refuseUnlessByte t_1 t_641) rfl rfl rfl (by decide +kernel) ⟨Nat.le_of_ble_eq_true rfl, Nat.le_of_ble_eq_true rfl⟩) ⟨x_blind _ _ _, va_recv hK hP (ci := 0) (q0 := 0) rfl (x_lk_X G _), fun U hU hW => ⟨rfl, x_pw hP hD hK hG hS hz hU hW⟩⟩ rfl hl.1 rfl (lv_room (Nat.le_of_ble_eq_true rfl)) d_X_poke_3 ⟨Nat.le_of_ble_eq_true rfl, Nat.le_of_ble_eq_true rfl⟩ hz hS (fun q ce H locs hP hD hS hce hcv hcl => e_out (fun x hx => (hEx x hx).elim) hlocks hce hcv hcl hS (fun t ht hW => x_pw hP hD hK hG hS hz ht hW) (Nat.le_of_ble_eq_true rfl) (Nat.le_of_ble_eq_true rfl))
  refine va_callv (va_runV (As := [.int p1, .int p2]) (rest := []) ⟨hx, hb, hml, hown, hts⟩ (c_X_refuseUnlessByte l G p1 p2 z0 r1 z1 hq2) (cwV 2 hts (x_gV t_638 t_640 sel_ContentLibrary_refuseUnlessByte t_1 t_641) rfl rfl rfl (by decide +kernel) ⟨Nat.le_of_ble_eq_true rfl, Nat.le_of_ble_eq_true rfl⟩) ⟨x_blind _ _ _, va_recv hK hP (ci := 0) (q0 := 0) rfl (x_lk_X G _), fun U hU hW => ⟨rfl, x_pw hP hD hK hG hS hz hU hW⟩⟩ rfl rfl hl.1 rfl (lv_room (Nat.le_of_ble_eq_true rfl)) d_X_poke_3 ⟨Nat.le_of_ble_eq_true rfl, Nat.le_of_ble_eq_true rfl⟩) hS (fun q _ h => h) (fun q h => h) (fun u t H locs ht hvm hw hB _ _ hS => ?_)
  obtain ⟨rfl, rfl⟩ := hw
  obtain ⟨hP, hD⟩ := x_back hB ht
  refine lv_iload_n hx hb d_X_poke_6 rfl (lv_at hl 3 rfl) ?_
  refine lv_if_lt (tgt := 17) hx hb d_X_poke_7 (by decide) (fun hc3 => ?_) (fun hc3 => ?_)
  · have hf := x_br_t hf hc3
    obtain ⟨rfl, rfl⟩ := x_retx hf
    exact e_throw (text := "a mask is 0 .. 255") (is := 228) hx hb hl9 hown (by decide +kernel) (by decide) (by decide +kernel) hts t_409 t_12 at_77_IllegalArgumentException hG hS (hl.1.trans hml.symm) d_X_poke_17 d_X_poke_20 d_X_poke_21 d_X_poke_23 d_X_poke_26 hEx (Nat.le_of_ble_eq_true rfl) (Nat.le_of_ble_eq_true rfl) (Nat.le_of_ble_eq_true rfl) (Nat.le_of_ble_eq_true rfl) hlocks (fun t hW hsz hk => x_pwk hP hD hK hG hS hz hsz hk hW) (Nat.le_of_ble_eq_true rfl) (Nat.le_of_ble_eq_true rfl)
  · have hf := x_br_f hf hc3
    refine lv_iload_n hx hb d_X_poke_10 rfl (lv_at hl 3 rfl) ?_
    refine lv_sipush (v := (255 : Int32)) hx hb d_X_poke_11 (by decide) ?_
    refine lv_icmp_le (tgt := 27) hx hb d_X_poke_14 (by decide) (fun hc4 => ?_) (fun hc4 => ?_)
    · have hf := x_br_t hf hc4
      refine lv_aload_n hx hb d_X_poke_27 rfl (lv_at hl 0 rfl) ?_
      refine va_get (D := x_D G) (ci := 0) (v := .ref (x_ad G 1)) (C := "ContentLibrary") (T := x_TX) (N := 9) hx hb hts x_inX hown hK hP 0 (x_lk_X G _) rfl 0 (by decide) (hts _ t_130) (fun _ h9 => h9) rfl d_X_poke_28 ?_
      refine lv_iload_n hx hb d_X_poke_31 rfl (lv_at hl 1 rfl) ?_
      refine lv_iload_n hx hb d_X_poke_32 rfl (lv_at hl 2 rfl) ?_
      refine lv_iload_n hx hb d_X_poke_33 rfl (lv_at hl 3 rfl) ?_
      obtain ⟨r5, z5, hq6, hf⟩ := x_cl_some hf
      refine va_calli (va_runV (As := [.int p1, .int p2, .int p3]) (rest := []) ⟨hx, hb, hml, hown, hts⟩ (c_B_turn l G p1 p2 p3 z1 r5 z5 hq6) (cwV 3 hts (x_gV t_644 t_645 t_646 t_3 t_647) rfl rfl rfl (by decide +kernel) ⟨Nat.le_of_ble_eq_true rfl, Nat.le_of_ble_eq_true rfl⟩) ⟨x_blind _ _ _, va_recv hK hP (ci := 1) (q0 := 1) rfl (x_lk_B G _), fun U hU hW => ⟨rfl, x_pw hP hD hK hG hS hz hU hW⟩⟩ rfl rfl hl.1 rfl (lv_room (Nat.le_of_ble_eq_true rfl)) d_X_poke_34 ⟨Nat.le_of_ble_eq_true rfl, Nat.le_of_ble_eq_true rfl⟩) hS (fun q _ h => h) (fun q h => h) (fun ra u t H locs ht hvm hw hB _ _ hS => ?_)
      obtain ⟨rfl, rfl⟩ := hw
      obtain ⟨hP, hD⟩ := x_back hB ht
      exact absurd hf x_no_x
    · have hf := x_br_f hf hc4
      obtain ⟨rfl, rfl⟩ := x_retx hf
      exact e_throw (text := "a mask is 0 .. 255") (is := 228) hx hb hl9 hown (by decide +kernel) (by decide) (by decide +kernel) hts t_409 t_12 at_77_IllegalArgumentException hG hS (hl.1.trans hml.symm) d_X_poke_17 d_X_poke_20 d_X_poke_21 d_X_poke_23 d_X_poke_26 hEx (Nat.le_of_ble_eq_true rfl) (Nat.le_of_ble_eq_true rfl) (Nat.le_of_ble_eq_true rfl) (Nat.le_of_ble_eq_true rfl) hlocks (fun t hW hsz hk => x_pwk hP hD hK hG hS hz hsz hk hW) (Nat.le_of_ble_eq_true rfl) (Nat.le_of_ble_eq_true rfl)
abbrev rm_X_byteAt : Room := { frames := 7, cells := 0, slots := 0, locals := 104 }
abbrev rx_X_byteAt : Room := { frames := 7, cells := 1, slots := 6, locals := 104 }
set_option maxHeartbeats 4000000 in
set_option maxRecDepth 100000 in
theorem c_X_byteAt (l : Launch) (G : x_G) (p1 : Int32) (p2 : Int32) (z0 : x_St) (r : Int32) (zo : x_St) (hf : f_X_byteAt (x_n G) p1 p2 z0 = some (Sum.inr r, zo)) : Met l (⟨"ContentLibrary", "byteAt", "(II)I"⟩ : MethodName) (x_ws (⟨"ContentLibrary", "byteAt", "(II)I"⟩ : MethodName) prog_1_method_16_code 3 (some .int)) rm_X_byteAt (va_Pc [.ref (x_ad G 0), .int p1, .int p2] (x_PW G z0)) (va_Qi (fun a u => r = a ∧ zo = u) (x_PW G) (x_A G)) 0 0 (x_A G) := by
  refine Met.ofW (cc := prog_1_method_16_code) (maxL := 3) (ret := (some .int)) (by decide) rfl ?_
  intro p e s m args below meth c s₁ B hml hv
  obtain ⟨rfl, hz, hP, hD, hK, hG⟩ := hv
  have C0 : x_Ctx G p s m _ meth c prog_1_method_16_code "ContentLibrary" 3 (some .int) := ⟨B.exec, B.bytes, B.returns, hml, findClass_of_methodNamed B.named, fun w h => atoms_spec (ws := (x_ws (⟨"ContentLibrary", "byteAt", "(II)I"⟩ : MethodName) prog_1_method_16_code 3 (some .int))) B.pre w (List.mem_cons_of_mem _ h), B.notSynchronized, hz, hK, hG⟩
  obtain ⟨hx, hb, hr, hml, hown, hts, hlocks, hz, hK, hG⟩ := id C0
  have hS : va_S (x_A G) s.heap s.heap [] := va_S.rf
  have hl := lv_entry ([.ref (x_ad G 0), .int p1, .int p2]) (n := 3) (Nat.le_of_ble_eq_true rfl)
  rw [lg_entry_eq]
  generalize (lg_sl ([.ref (x_ad G 0), .int p1, .int p2]) ++ List.replicate (3 - (lg_sl ([.ref (x_ad G 0), .int p1, .int p2])).length) Slot.unset).toArray = ls at hl ⊢
  have hl : lv_has ls 3 [(0, .ref (x_ad G 0)), (1, .int p1), (2, .int p2)] := hl
  rw [f_X_byteAt] at hf
  refine lv_aload_n hx hb d_X_byteAt_0 rfl (lv_at hl 0 rfl) ?_
  refine lv_iload_n hx hb d_X_byteAt_1 rfl (lv_at hl 1 rfl) ?_
  refine lv_iload_n hx hb d_X_byteAt_2 rfl (lv_at hl 2 rfl) ?_
  obtain ⟨r1, z1, hq2, hf⟩ := x_clx_r hf
  refine va_callv (va_runV (As := [.int p1, .int p2]) (rest := []) ⟨hx, hb, hml, hown, hts⟩ (c_X_refuseUnlessByte l G p1 p2 z0 r1 z1 hq2) (cwV 2 hts (x_gV t_638 t_640 sel_ContentLibrary_refuseUnlessByte t_1 t_641) rfl rfl rfl (by decide +kernel) ⟨Nat.le_of_ble_eq_true rfl, Nat.le_of_ble_eq_true rfl⟩) ⟨x_blind _ _ _, va_recv hK hP (ci := 0) (q0 := 0) rfl (x_lk_X G _), fun U hU hW => ⟨rfl, x_pw hP hD hK hG hS hz hU hW⟩⟩ rfl rfl hl.1 rfl (lv_room (Nat.le_of_ble_eq_true rfl)) d_X_byteAt_3 ⟨Nat.le_of_ble_eq_true rfl, Nat.le_of_ble_eq_true rfl⟩) hS (fun q _ h => h) (fun q h => h) (fun u t H locs ht hvm hw hB _ _ hS => ?_)
  obtain ⟨rfl, rfl⟩ := hw
  obtain ⟨hP, hD⟩ := x_back hB ht
  refine lv_aload_n hx hb d_X_byteAt_6 rfl (lv_at hl 0 rfl) ?_
  refine va_get (D := x_D G) (ci := 0) (v := .ref (x_ad G 1)) (C := "ContentLibrary") (T := x_TX) (N := 9) hx hb hts x_inX hown hK hP 0 (x_lk_X G _) rfl 0 (by decide) (hts _ t_130) (fun _ h9 => h9) rfl d_X_byteAt_7 ?_
  refine lv_iload_n hx hb d_X_byteAt_10 rfl (lv_at hl 1 rfl) ?_
  refine lv_iload_n hx hb d_X_byteAt_11 rfl (lv_at hl 2 rfl) ?_
  obtain ⟨r3, z3, hq4, hf⟩ := x_cl_some hf
  refine va_calli (va_runV (As := [.int p1, .int p2]) (rest := []) ⟨hx, hb, hml, hown, hts⟩ (c_B_get l G p1 p2 z1 r3 z3 hq4) (cwV 2 hts (x_gV t_200 t_175 t_176 t_3 t_177) rfl rfl rfl (by decide +kernel) ⟨Nat.le_of_ble_eq_true rfl, Nat.le_of_ble_eq_true rfl⟩) ⟨x_blind _ _ _, va_recv hK hP (ci := 1) (q0 := 1) rfl (x_lk_B G _), fun U hU hW => ⟨rfl, x_pw hP hD hK hG hS hz hU hW⟩⟩ rfl rfl hl.1 rfl (lv_room (Nat.le_of_ble_eq_true rfl)) d_X_byteAt_12 ⟨Nat.le_of_ble_eq_true rfl, Nat.le_of_ble_eq_true rfl⟩) hS (fun q _ h => h) (fun q h => h) (fun ra u t H locs ht hvm hw hB _ _ hS => ?_)
  obtain ⟨rfl, rfl⟩ := hw
  obtain ⟨hP, hD⟩ := x_back hB ht
  obtain ⟨rfl, rfl⟩ := x_retr hf
  exact W.iret (v := r3) hx hb hr (fun t ht hW => ⟨⟨_, _, rfl, ⟨rfl, rfl⟩, x_pw hP hD hK hG hS hz ht hW⟩, hS.F ht⟩) hS.2.2 d_X_byteAt_15
set_option maxHeartbeats 4000000 in
set_option maxRecDepth 100000 in
theorem c_X_byteAt_x (l : Launch) (G : x_G) (hl9 : l.stackTraces = false) (p1 : Int32) (p2 : Int32) (z0 : x_St) (E : String) (zo : x_St) (hf : f_X_byteAt (x_n G) p1 p2 z0 = some (Sum.inl E, zo)) : e_Met l G (⟨"ContentLibrary", "byteAt", "(II)I"⟩ : MethodName) (x_ws (⟨"ContentLibrary", "byteAt", "(II)I"⟩ : MethodName) prog_1_method_16_code 3 (some .int)) rx_X_byteAt (va_Pc [.ref (x_ad G 0), .int p1, .int p2] (x_PW G z0)) E zo 1 6 := by
  refine e_ofW (cc := prog_1_method_16_code) (maxL := 3) (ret := (some .int)) (by decide) rfl ?_
  intro p e s m args below meth c s₁ B hml hEx hv
  obtain ⟨rfl, hz, hP, hD, hK, hG⟩ := hv
  have C0 : x_Ctx G p s m _ meth c prog_1_method_16_code "ContentLibrary" 3 (some .int) := ⟨B.exec, B.bytes, B.returns, hml, findClass_of_methodNamed B.named, fun w h => atoms_spec (ws := (x_ws (⟨"ContentLibrary", "byteAt", "(II)I"⟩ : MethodName) prog_1_method_16_code 3 (some .int))) B.pre w (List.mem_cons_of_mem _ h), B.notSynchronized, hz, hK, hG⟩
  obtain ⟨hx, hb, hr, hml, hown, hts, hlocks, hz, hK, hG⟩ := id C0
  have hS : va_S (x_A G) s.heap s.heap [] := va_S.rf
  have hl := lv_entry ([.ref (x_ad G 0), .int p1, .int p2]) (n := 3) (Nat.le_of_ble_eq_true rfl)
  rw [lg_entry_eq]
  generalize (lg_sl ([.ref (x_ad G 0), .int p1, .int p2]) ++ List.replicate (3 - (lg_sl ([.ref (x_ad G 0), .int p1, .int p2])).length) Slot.unset).toArray = ls at hl ⊢
  have hl : lv_has ls 3 [(0, .ref (x_ad G 0)), (1, .int p1), (2, .int p2)] := hl
  rw [f_X_byteAt] at hf
  refine lv_aload_n hx hb d_X_byteAt_0 rfl (lv_at hl 0 rfl) ?_
  refine lv_iload_n hx hb d_X_byteAt_1 rfl (lv_at hl 1 rfl) ?_
  refine lv_iload_n hx hb d_X_byteAt_2 rfl (lv_at hl 2 rfl) ?_
  rcases x_clx_x hf with hq2 | ⟨r1, z1, hq2, hf⟩
  · exact e_callV (As := [.int p1, .int p2]) (rest := []) ⟨hx, hb, hml, hown, hts⟩ (c_X_refuseUnlessByte_x l G hl9 p1 p2 z0 E zo hq2) (cwV 2 hts (x_gV t_638 t_640 sel_ContentLibrary_refuseUnlessByte t_1 t_641) rfl rfl rfl (by decide +kernel) ⟨Nat.le_of_ble_eq_true rfl, Nat.le_of_ble_eq_true rfl⟩) ⟨x_blind _ _ _, va_recv hK hP (ci := 0) (q0 := 0) rfl (x_lk_X G _), fun U hU hW => ⟨rfl, x_pw hP hD hK hG hS hz hU hW⟩⟩ rfl hl.1 rfl (lv_room (Nat.le_of_ble_eq_true rfl)) d_X_byteAt_3 ⟨Nat.le_of_ble_eq_true rfl, Nat.le_of_ble_eq_true rfl⟩ hz hS (fun q ce H locs hP hD hS hce hcv hcl => e_out (fun x hx => (hEx x hx).elim) hlocks hce hcv hcl hS (fun t ht hW => x_pw hP hD hK hG hS hz ht hW) (Nat.le_of_ble_eq_true rfl) (Nat.le_of_ble_eq_true rfl))
  refine va_callv (va_runV (As := [.int p1, .int p2]) (rest := []) ⟨hx, hb, hml, hown, hts⟩ (c_X_refuseUnlessByte l G p1 p2 z0 r1 z1 hq2) (cwV 2 hts (x_gV t_638 t_640 sel_ContentLibrary_refuseUnlessByte t_1 t_641) rfl rfl rfl (by decide +kernel) ⟨Nat.le_of_ble_eq_true rfl, Nat.le_of_ble_eq_true rfl⟩) ⟨x_blind _ _ _, va_recv hK hP (ci := 0) (q0 := 0) rfl (x_lk_X G _), fun U hU hW => ⟨rfl, x_pw hP hD hK hG hS hz hU hW⟩⟩ rfl rfl hl.1 rfl (lv_room (Nat.le_of_ble_eq_true rfl)) d_X_byteAt_3 ⟨Nat.le_of_ble_eq_true rfl, Nat.le_of_ble_eq_true rfl⟩) hS (fun q _ h => h) (fun q h => h) (fun u t H locs ht hvm hw hB _ _ hS => ?_)
  obtain ⟨rfl, rfl⟩ := hw
  obtain ⟨hP, hD⟩ := x_back hB ht
  refine lv_aload_n hx hb d_X_byteAt_6 rfl (lv_at hl 0 rfl) ?_
  refine va_get (D := x_D G) (ci := 0) (v := .ref (x_ad G 1)) (C := "ContentLibrary") (T := x_TX) (N := 9) hx hb hts x_inX hown hK hP 0 (x_lk_X G _) rfl 0 (by decide) (hts _ t_130) (fun _ h9 => h9) rfl d_X_byteAt_7 ?_
  refine lv_iload_n hx hb d_X_byteAt_10 rfl (lv_at hl 1 rfl) ?_
  refine lv_iload_n hx hb d_X_byteAt_11 rfl (lv_at hl 2 rfl) ?_
  obtain ⟨r3, z3, hq4, hf⟩ := x_cl_some hf
  refine va_calli (va_runV (As := [.int p1, .int p2]) (rest := []) ⟨hx, hb, hml, hown, hts⟩ (c_B_get l G p1 p2 z1 r3 z3 hq4) (cwV 2 hts (x_gV t_200 t_175 t_176 t_3 t_177) rfl rfl rfl (by decide +kernel) ⟨Nat.le_of_ble_eq_true rfl, Nat.le_of_ble_eq_true rfl⟩) ⟨x_blind _ _ _, va_recv hK hP (ci := 1) (q0 := 1) rfl (x_lk_B G _), fun U hU hW => ⟨rfl, x_pw hP hD hK hG hS hz hU hW⟩⟩ rfl rfl hl.1 rfl (lv_room (Nat.le_of_ble_eq_true rfl)) d_X_byteAt_12 ⟨Nat.le_of_ble_eq_true rfl, Nat.le_of_ble_eq_true rfl⟩) hS (fun q _ h => h) (fun q h => h) (fun ra u t H locs ht hvm hw hB _ _ hS => ?_)
  obtain ⟨rfl, rfl⟩ := hw
  obtain ⟨hP, hD⟩ := x_back hB ht
  exact absurd hf x_no_x
end
