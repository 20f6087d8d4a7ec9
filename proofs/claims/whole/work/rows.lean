section
-- ===== PART A: goes FIRST, ahead of the names: the tables' words, and 'selects' of the private methods out of them =====
/-- a private method of a class that the tables say can be made, by its rows of tables_1 -/
def lw_okq (q : MethodName × Nat) : Prop := (q.1.cls ≠ "java/lang/invoke/MethodHandle" ∧ q.1.cls ≠ "java/lang/invoke/VarHandle") ∧ Cond.instantiable q.1.cls q.2 ∈ tables_1 ∧ Cond.privateMethod q.1 ∈ tables_1 ∧ Cond.instanceMethod q.1 ∈ tables_1
theorem lw_p0 : lw_okq (⟨"FoldDye$Bundle", "countSizes", "()V"⟩, 7) := ⟨⟨by decide +kernel, by decide +kernel⟩, List.mem_of_getElem? (i := 90) (by decide +kernel), List.mem_of_getElem? (i := 198) (by decide +kernel), List.mem_of_getElem? (i := 199) (by decide +kernel)⟩
theorem lw_p1 : lw_okq (⟨"FoldDye", "clothOf", "(I)LFoldDye$Cloth;"⟩, 7) := ⟨⟨by decide +kernel, by decide +kernel⟩, List.mem_of_getElem? (i := 14) (by decide +kernel), List.mem_of_getElem? (i := 257) (by decide +kernel), List.mem_of_getElem? (i := 258) (by decide +kernel)⟩
theorem lw_p2 : lw_okq (⟨"FoldDye$Bundle", "matesOf", "(IIII)I"⟩, 7) := ⟨⟨by decide +kernel, by decide +kernel⟩, List.mem_of_getElem? (i := 90) (by decide +kernel), List.mem_of_getElem? (i := 277) (by decide +kernel), List.mem_of_getElem? (i := 278) (by decide +kernel)⟩
theorem lw_p3 : lw_okq (⟨"FoldDye$Bundle", "trim", "()V"⟩, 7) := ⟨⟨by decide +kernel, by decide +kernel⟩, List.mem_of_getElem? (i := 90) (by decide +kernel), List.mem_of_getElem? (i := 297) (by decide +kernel), List.mem_of_getElem? (i := 298) (by decide +kernel)⟩
theorem lw_p4 : lw_okq (⟨"FoldDye$Seep", "begin", "(LFoldDye$Bundle;[Z)V"⟩, 4) := ⟨⟨by decide +kernel, by decide +kernel⟩, List.mem_of_getElem? (i := 24) (by decide +kernel), List.mem_of_getElem? (i := 372) (by decide +kernel), List.mem_of_getElem? (i := 373) (by decide +kernel)⟩
theorem lw_p5 : lw_okq (⟨"FoldDye$Seep", "goOn", "(LFoldDye$Bundle;[Z)Z"⟩, 4) := ⟨⟨by decide +kernel, by decide +kernel⟩, List.mem_of_getElem? (i := 24) (by decide +kernel), List.mem_of_getElem? (i := 386) (by decide +kernel), List.mem_of_getElem? (i := 387) (by decide +kernel)⟩
theorem lw_p6 : lw_okq (⟨"FoldDye$Seep", "shorten", "(LFoldDye$Bundle;III)Z"⟩, 4) := ⟨⟨by decide +kernel, by decide +kernel⟩, List.mem_of_getElem? (i := 24) (by decide +kernel), List.mem_of_getElem? (i := 390) (by decide +kernel), List.mem_of_getElem? (i := 391) (by decide +kernel)⟩
theorem lw_p7 : lw_okq (⟨"FoldDye", "reachOf", "(LFoldDye$Cloth;I)I"⟩, 7) := ⟨⟨by decide +kernel, by decide +kernel⟩, List.mem_of_getElem? (i := 14) (by decide +kernel), List.mem_of_getElem? (i := 401) (by decide +kernel), List.mem_of_getElem? (i := 402) (by decide +kernel)⟩
theorem lw_p8 : lw_okq (⟨"FoldDye", "dip", "(IIIZ)I"⟩, 7) := ⟨⟨by decide +kernel, by decide +kernel⟩, List.mem_of_getElem? (i := 14) (by decide +kernel), List.mem_of_getElem? (i := 411) (by decide +kernel), List.mem_of_getElem? (i := 412) (by decide +kernel)⟩
theorem lw_p9 : lw_okq (⟨"FoldDye", "dyeAfter", "(III)I"⟩, 7) := ⟨⟨by decide +kernel, by decide +kernel⟩, List.mem_of_getElem? (i := 14) (by decide +kernel), List.mem_of_getElem? (i := 418) (by decide +kernel), List.mem_of_getElem? (i := 419) (by decide +kernel)⟩
theorem lw_p10 : lw_okq (⟨"FoldDye$Cloth", "turnedIndex", "(III)I"⟩, 10) := ⟨⟨by decide +kernel, by decide +kernel⟩, List.mem_of_getElem? (i := 186) (by decide +kernel), List.mem_of_getElem? (i := 444) (by decide +kernel), List.mem_of_getElem? (i := 445) (by decide +kernel)⟩
theorem lw_p11 : lw_okq (⟨"FoldDye$Search", "differingUnder", "(I)I"⟩, 9) := ⟨⟨by decide +kernel, by decide +kernel⟩, List.mem_of_getElem? (i := 66) (by decide +kernel), List.mem_of_getElem? (i := 488) (by decide +kernel), List.mem_of_getElem? (i := 489) (by decide +kernel)⟩
theorem lw_p12 : lw_okq (⟨"FoldDye$Search", "tryBoards", "(LFoldDye$Bundle;)V"⟩, 9) := ⟨⟨by decide +kernel, by decide +kernel⟩, List.mem_of_getElem? (i := 66) (by decide +kernel), List.mem_of_getElem? (i := 498) (by decide +kernel), List.mem_of_getElem? (i := 499) (by decide +kernel)⟩
theorem lw_p13 : lw_okq (⟨"FoldDye$Search", "gatherCells", "(LFoldDye$Bundle;)V"⟩, 9) := ⟨⟨by decide +kernel, by decide +kernel⟩, List.mem_of_getElem? (i := 66) (by decide +kernel), List.mem_of_getElem? (i := 502) (by decide +kernel), List.mem_of_getElem? (i := 503) (by decide +kernel)⟩
theorem lw_p14 : lw_okq (⟨"FoldDye$Search", "tryColumns", "(III)V"⟩, 9) := ⟨⟨by decide +kernel, by decide +kernel⟩, List.mem_of_getElem? (i := 66) (by decide +kernel), List.mem_of_getElem? (i := 507) (by decide +kernel), List.mem_of_getElem? (i := 508) (by decide +kernel)⟩
theorem lw_p15 : lw_okq (⟨"FoldDye$Search", "tryFolds", "(I)V"⟩, 9) := ⟨⟨by decide +kernel, by decide +kernel⟩, List.mem_of_getElem? (i := 66) (by decide +kernel), List.mem_of_getElem? (i := 516) (by decide +kernel), List.mem_of_getElem? (i := 517) (by decide +kernel)⟩
def lw_privs_1 : List (MethodName × Nat) := [(⟨"FoldDye$Bundle", "countSizes", "()V"⟩, 7), (⟨"FoldDye", "clothOf", "(I)LFoldDye$Cloth;"⟩, 7), (⟨"FoldDye$Bundle", "matesOf", "(IIII)I"⟩, 7), (⟨"FoldDye$Bundle", "trim", "()V"⟩, 7), (⟨"FoldDye$Seep", "begin", "(LFoldDye$Bundle;[Z)V"⟩, 4), (⟨"FoldDye$Seep", "goOn", "(LFoldDye$Bundle;[Z)Z"⟩, 4), (⟨"FoldDye$Seep", "shorten", "(LFoldDye$Bundle;III)Z"⟩, 4), (⟨"FoldDye", "reachOf", "(LFoldDye$Cloth;I)I"⟩, 7), (⟨"FoldDye", "dip", "(IIIZ)I"⟩, 7), (⟨"FoldDye", "dyeAfter", "(III)I"⟩, 7), (⟨"FoldDye$Cloth", "turnedIndex", "(III)I"⟩, 10), (⟨"FoldDye$Search", "differingUnder", "(I)I"⟩, 9), (⟨"FoldDye$Search", "tryBoards", "(LFoldDye$Bundle;)V"⟩, 9), (⟨"FoldDye$Search", "gatherCells", "(LFoldDye$Bundle;)V"⟩, 9), (⟨"FoldDye$Search", "tryColumns", "(III)V"⟩, 9), (⟨"FoldDye$Search", "tryFolds", "(I)V"⟩, 9)]
theorem lw_r1 : ∀ q ∈ lw_privs_1, lw_okq q := List.forall_mem_cons.mpr ⟨lw_p0, List.forall_mem_cons.mpr ⟨lw_p1, List.forall_mem_cons.mpr ⟨lw_p2, List.forall_mem_cons.mpr ⟨lw_p3, List.forall_mem_cons.mpr ⟨lw_p4, List.forall_mem_cons.mpr ⟨lw_p5, List.forall_mem_cons.mpr ⟨lw_p6, List.forall_mem_cons.mpr ⟨lw_p7, List.forall_mem_cons.mpr ⟨lw_p8, List.forall_mem_cons.mpr ⟨lw_p9, List.forall_mem_cons.mpr ⟨lw_p10, List.forall_mem_cons.mpr ⟨lw_p11, List.forall_mem_cons.mpr ⟨lw_p12, List.forall_mem_cons.mpr ⟨lw_p13, List.forall_mem_cons.mpr ⟨lw_p14, List.forall_mem_cons.mpr ⟨lw_p15, fun _ h => absurd h List.not_mem_nil⟩⟩⟩⟩⟩⟩⟩⟩⟩⟩⟩⟩⟩⟩⟩⟩
theorem lw_p16 : lw_okq (⟨"FoldDye$Search", "foldInto", "(LFoldDye$Bundle;LFoldDye$Bundle;II)Z"⟩, 9) := ⟨⟨by decide +kernel, by decide +kernel⟩, List.mem_of_getElem? (i := 66) (by decide +kernel), List.mem_of_getElem? (i := 520) (by decide +kernel), List.mem_of_getElem? (i := 521) (by decide +kernel)⟩
theorem lw_p17 : lw_okq (⟨"FoldDye$Cloth", "depthInAll", "()I"⟩, 10) := ⟨⟨by decide +kernel, by decide +kernel⟩, List.mem_of_getElem? (i := 186) (by decide +kernel), List.mem_of_getElem? (i := 560) (by decide +kernel), List.mem_of_getElem? (i := 561) (by decide +kernel)⟩
theorem lw_p18 : lw_okq (⟨"FoldDyeModel", "unfold", "(I)V"⟩, 40) := ⟨⟨by decide +kernel, by decide +kernel⟩, List.mem_of_getElem? (i := 564) (by decide +kernel), List.mem_of_getElem? (i := 698) (by decide +kernel), List.mem_of_getElem? (i := 699) (by decide +kernel)⟩
theorem lw_p19 : lw_okq (⟨"FoldDyeModel", "isCloth", "(I)Z"⟩, 40) := ⟨⟨by decide +kernel, by decide +kernel⟩, List.mem_of_getElem? (i := 564) (by decide +kernel), List.mem_of_getElem? (i := 710) (by decide +kernel), List.mem_of_getElem? (i := 711) (by decide +kernel)⟩
theorem lw_p20 : lw_okq (⟨"FoldDyeModel", "isFold", "(IIII)I"⟩, 40) := ⟨⟨by decide +kernel, by decide +kernel⟩, List.mem_of_getElem? (i := 564) (by decide +kernel), List.mem_of_getElem? (i := 714) (by decide +kernel), List.mem_of_getElem? (i := 715) (by decide +kernel)⟩
theorem lw_p21 : lw_okq (⟨"FoldDyeModel", "tryFold", "(IIII)I"⟩, 40) := ⟨⟨by decide +kernel, by decide +kernel⟩, List.mem_of_getElem? (i := 564) (by decide +kernel), List.mem_of_getElem? (i := 718) (by decide +kernel), List.mem_of_getElem? (i := 719) (by decide +kernel)⟩
theorem lw_p22 : lw_okq (⟨"FoldDyeModel", "cellEnd", "(I)I"⟩, 40) := ⟨⟨by decide +kernel, by decide +kernel⟩, List.mem_of_getElem? (i := 564) (by decide +kernel), List.mem_of_getElem? (i := 722) (by decide +kernel), List.mem_of_getElem? (i := 723) (by decide +kernel)⟩
theorem lw_p23 : lw_okq (⟨"FoldDyeModel", "isCell", "(II)Z"⟩, 40) := ⟨⟨by decide +kernel, by decide +kernel⟩, List.mem_of_getElem? (i := 564) (by decide +kernel), List.mem_of_getElem? (i := 726) (by decide +kernel), List.mem_of_getElem? (i := 727) (by decide +kernel)⟩
theorem lw_p24 : lw_okq (⟨"FoldDyeModel", "target", "(IIIII)V"⟩, 40) := ⟨⟨by decide +kernel, by decide +kernel⟩, List.mem_of_getElem? (i := 564) (by decide +kernel), List.mem_of_getElem? (i := 730) (by decide +kernel), List.mem_of_getElem? (i := 731) (by decide +kernel)⟩
theorem lw_p25 : lw_okq (⟨"FoldDyeModel", "moves", "(IIII)Z"⟩, 40) := ⟨⟨by decide +kernel, by decide +kernel⟩, List.mem_of_getElem? (i := 564) (by decide +kernel), List.mem_of_getElem? (i := 734) (by decide +kernel), List.mem_of_getElem? (i := 735) (by decide +kernel)⟩
theorem lw_p26 : lw_okq (⟨"FoldDyeModel", "countNew", "(IIIIIZ)I"⟩, 40) := ⟨⟨by decide +kernel, by decide +kernel⟩, List.mem_of_getElem? (i := 564) (by decide +kernel), List.mem_of_getElem? (i := 738) (by decide +kernel), List.mem_of_getElem? (i := 739) (by decide +kernel)⟩
theorem lw_p27 : lw_okq (⟨"FoldDyeModel", "keepFold", "(I)V"⟩, 40) := ⟨⟨by decide +kernel, by decide +kernel⟩, List.mem_of_getElem? (i := 564) (by decide +kernel), List.mem_of_getElem? (i := 742) (by decide +kernel), List.mem_of_getElem? (i := 743) (by decide +kernel)⟩
theorem lw_p28 : lw_okq (⟨"FoldDyeModel", "findStacks", "(I)V"⟩, 40) := ⟨⟨by decide +kernel, by decide +kernel⟩, List.mem_of_getElem? (i := 564) (by decide +kernel), List.mem_of_getElem? (i := 756) (by decide +kernel), List.mem_of_getElem? (i := 757) (by decide +kernel)⟩
theorem lw_p29 : lw_okq (⟨"FoldDyeModel", "addBoard", "(IIIII)V"⟩, 40) := ⟨⟨by decide +kernel, by decide +kernel⟩, List.mem_of_getElem? (i := 564) (by decide +kernel), List.mem_of_getElem? (i := 776) (by decide +kernel), List.mem_of_getElem? (i := 777) (by decide +kernel)⟩
theorem lw_p30 : lw_okq (⟨"FoldDyeModel", "findReach", "(I)V"⟩, 40) := ⟨⟨by decide +kernel, by decide +kernel⟩, List.mem_of_getElem? (i := 564) (by decide +kernel), List.mem_of_getElem? (i := 788) (by decide +kernel), List.mem_of_getElem? (i := 789) (by decide +kernel)⟩
theorem lw_p31 : lw_okq (⟨"FoldDyeModel", "stackAt", "(III)I"⟩, 40) := ⟨⟨by decide +kernel, by decide +kernel⟩, List.mem_of_getElem? (i := 564) (by decide +kernel), List.mem_of_getElem? (i := 792) (by decide +kernel), List.mem_of_getElem? (i := 793) (by decide +kernel)⟩
def lw_privs_2 : List (MethodName × Nat) := [(⟨"FoldDye$Search", "foldInto", "(LFoldDye$Bundle;LFoldDye$Bundle;II)Z"⟩, 9), (⟨"FoldDye$Cloth", "depthInAll", "()I"⟩, 10), (⟨"FoldDyeModel", "unfold", "(I)V"⟩, 40), (⟨"FoldDyeModel", "isCloth", "(I)Z"⟩, 40), (⟨"FoldDyeModel", "isFold", "(IIII)I"⟩, 40), (⟨"FoldDyeModel", "tryFold", "(IIII)I"⟩, 40), (⟨"FoldDyeModel", "cellEnd", "(I)I"⟩, 40), (⟨"FoldDyeModel", "isCell", "(II)Z"⟩, 40), (⟨"FoldDyeModel", "target", "(IIIII)V"⟩, 40), (⟨"FoldDyeModel", "moves", "(IIII)Z"⟩, 40), (⟨"FoldDyeModel", "countNew", "(IIIIIZ)I"⟩, 40), (⟨"FoldDyeModel", "keepFold", "(I)V"⟩, 40), (⟨"FoldDyeModel", "findStacks", "(I)V"⟩, 40), (⟨"FoldDyeModel", "addBoard", "(IIIII)V"⟩, 40), (⟨"FoldDyeModel", "findReach", "(I)V"⟩, 40), (⟨"FoldDyeModel", "stackAt", "(III)I"⟩, 40)]
theorem lw_r2 : ∀ q ∈ lw_privs_2, lw_okq q := List.forall_mem_cons.mpr ⟨lw_p16, List.forall_mem_cons.mpr ⟨lw_p17, List.forall_mem_cons.mpr ⟨lw_p18, List.forall_mem_cons.mpr ⟨lw_p19, List.forall_mem_cons.mpr ⟨lw_p20, List.forall_mem_cons.mpr ⟨lw_p21, List.forall_mem_cons.mpr ⟨lw_p22, List.forall_mem_cons.mpr ⟨lw_p23, List.forall_mem_cons.mpr ⟨lw_p24, List.forall_mem_cons.mpr ⟨lw_p25, List.forall_mem_cons.mpr ⟨lw_p26, List.forall_mem_cons.mpr ⟨lw_p27, List.forall_mem_cons.mpr ⟨lw_p28, List.forall_mem_cons.mpr ⟨lw_p29, List.forall_mem_cons.mpr ⟨lw_p30, List.forall_mem_cons.mpr ⟨lw_p31, fun _ h => absurd h List.not_mem_nil⟩⟩⟩⟩⟩⟩⟩⟩⟩⟩⟩⟩⟩⟩⟩⟩
theorem lw_p32 : lw_okq (⟨"FoldDyeModel", "isShut", "(III)Z"⟩, 40) := ⟨⟨by decide +kernel, by decide +kernel⟩, List.mem_of_getElem? (i := 564) (by decide +kernel), List.mem_of_getElem? (i := 796) (by decide +kernel), List.mem_of_getElem? (i := 797) (by decide +kernel)⟩
theorem lw_p33 : lw_okq (⟨"FoldDyeModel", "hasBareSide", "(III)Z"⟩, 40) := ⟨⟨by decide +kernel, by decide +kernel⟩, List.mem_of_getElem? (i := 564) (by decide +kernel), List.mem_of_getElem? (i := 800) (by decide +kernel), List.mem_of_getElem? (i := 801) (by decide +kernel)⟩
theorem lw_p34 : lw_okq (⟨"FoldDyeModel", "comes", "(IIIIII)Z"⟩, 40) := ⟨⟨by decide +kernel, by decide +kernel⟩, List.mem_of_getElem? (i := 564) (by decide +kernel), List.mem_of_getElem? (i := 804) (by decide +kernel), List.mem_of_getElem? (i := 805) (by decide +kernel)⟩
theorem lw_p35 : lw_okq (⟨"FoldDyeModel", "dip", "(IIII)I"⟩, 40) := ⟨⟨by decide +kernel, by decide +kernel⟩, List.mem_of_getElem? (i := 564) (by decide +kernel), List.mem_of_getElem? (i := 812) (by decide +kernel), List.mem_of_getElem? (i := 813) (by decide +kernel)⟩
theorem lw_p36 : lw_okq (⟨"FoldDyeModel", "dyed", "(III)I"⟩, 40) := ⟨⟨by decide +kernel, by decide +kernel⟩, List.mem_of_getElem? (i := 564) (by decide +kernel), List.mem_of_getElem? (i := 816) (by decide +kernel), List.mem_of_getElem? (i := 817) (by decide +kernel)⟩
theorem lw_p37 : lw_okq (⟨"FoldDyeModel", "at", "(III)I"⟩, 40) := ⟨⟨by decide +kernel, by decide +kernel⟩, List.mem_of_getElem? (i := 564) (by decide +kernel), List.mem_of_getElem? (i := 836) (by decide +kernel), List.mem_of_getElem? (i := 837) (by decide +kernel)⟩
theorem lw_p38 : lw_okq (⟨"FoldDyeModel", "goesOn", "(III)Z"⟩, 40) := ⟨⟨by decide +kernel, by decide +kernel⟩, List.mem_of_getElem? (i := 564) (by decide +kernel), List.mem_of_getElem? (i := 844) (by decide +kernel), List.mem_of_getElem? (i := 845) (by decide +kernel)⟩
theorem lw_p39 : lw_okq (⟨"FoldDyeModel", "isWished", "(I)Z"⟩, 40) := ⟨⟨by decide +kernel, by decide +kernel⟩, List.mem_of_getElem? (i := 564) (by decide +kernel), List.mem_of_getElem? (i := 864) (by decide +kernel), List.mem_of_getElem? (i := 865) (by decide +kernel)⟩
theorem lw_p40 : lw_okq (⟨"FoldDyeModel", "isBath", "(II)Z"⟩, 40) := ⟨⟨by decide +kernel, by decide +kernel⟩, List.mem_of_getElem? (i := 564) (by decide +kernel), List.mem_of_getElem? (i := 872) (by decide +kernel), List.mem_of_getElem? (i := 873) (by decide +kernel)⟩
theorem lw_p41 : lw_okq (⟨"FoldDyeModel", "findWay", "(Z)I"⟩, 40) := ⟨⟨by decide +kernel, by decide +kernel⟩, List.mem_of_getElem? (i := 564) (by decide +kernel), List.mem_of_getElem? (i := 876) (by decide +kernel), List.mem_of_getElem? (i := 877) (by decide +kernel)⟩
theorem lw_p42 : lw_okq (⟨"FoldDyeModel", "goFolds", "(IIZ)Z"⟩, 40) := ⟨⟨by decide +kernel, by decide +kernel⟩, List.mem_of_getElem? (i := 564) (by decide +kernel), List.mem_of_getElem? (i := 880) (by decide +kernel), List.mem_of_getElem? (i := 881) (by decide +kernel)⟩
theorem lw_p43 : lw_okq (⟨"FoldDyeModel", "tryFolds", "(IZ)Z"⟩, 40) := ⟨⟨by decide +kernel, by decide +kernel⟩, List.mem_of_getElem? (i := 564) (by decide +kernel), List.mem_of_getElem? (i := 884) (by decide +kernel), List.mem_of_getElem? (i := 885) (by decide +kernel)⟩
theorem lw_p44 : lw_okq (⟨"FoldDyeModel", "foldTried", "(I)Z"⟩, 40) := ⟨⟨by decide +kernel, by decide +kernel⟩, List.mem_of_getElem? (i := 564) (by decide +kernel), List.mem_of_getElem? (i := 888) (by decide +kernel), List.mem_of_getElem? (i := 889) (by decide +kernel)⟩
theorem lw_p45 : lw_okq (⟨"FoldDyeModel", "meets", "()Z"⟩, 40) := ⟨⟨by decide +kernel, by decide +kernel⟩, List.mem_of_getElem? (i := 564) (by decide +kernel), List.mem_of_getElem? (i := 892) (by decide +kernel), List.mem_of_getElem? (i := 893) (by decide +kernel)⟩
theorem lw_p46 : lw_okq (⟨"FoldDyeModel", "differs", "()I"⟩, 40) := ⟨⟨by decide +kernel, by decide +kernel⟩, List.mem_of_getElem? (i := 564) (by decide +kernel), List.mem_of_getElem? (i := 896) (by decide +kernel), List.mem_of_getElem? (i := 897) (by decide +kernel)⟩
theorem lw_p47 : lw_okq (⟨"FoldDyeModel", "keepWay", "(IZ)V"⟩, 40) := ⟨⟨by decide +kernel, by decide +kernel⟩, List.mem_of_getElem? (i := 564) (by decide +kernel), List.mem_of_getElem? (i := 900) (by decide +kernel), List.mem_of_getElem? (i := 901) (by decide +kernel)⟩
def lw_privs_3 : List (MethodName × Nat) := [(⟨"FoldDyeModel", "isShut", "(III)Z"⟩, 40), (⟨"FoldDyeModel", "hasBareSide", "(III)Z"⟩, 40), (⟨"FoldDyeModel", "comes", "(IIIIII)Z"⟩, 40), (⟨"FoldDyeModel", "dip", "(IIII)I"⟩, 40), (⟨"FoldDyeModel", "dyed", "(III)I"⟩, 40), (⟨"FoldDyeModel", "at", "(III)I"⟩, 40), (⟨"FoldDyeModel", "goesOn", "(III)Z"⟩, 40), (⟨"FoldDyeModel", "isWished", "(I)Z"⟩, 40), (⟨"FoldDyeModel", "isBath", "(II)Z"⟩, 40), (⟨"FoldDyeModel", "findWay", "(Z)I"⟩, 40), (⟨"FoldDyeModel", "goFolds", "(IIZ)Z"⟩, 40), (⟨"FoldDyeModel", "tryFolds", "(IZ)Z"⟩, 40), (⟨"FoldDyeModel", "foldTried", "(I)Z"⟩, 40), (⟨"FoldDyeModel", "meets", "()Z"⟩, 40), (⟨"FoldDyeModel", "differs", "()I"⟩, 40), (⟨"FoldDyeModel", "keepWay", "(IZ)V"⟩, 40)]
theorem lw_r3 : ∀ q ∈ lw_privs_3, lw_okq q := List.forall_mem_cons.mpr ⟨lw_p32, List.forall_mem_cons.mpr ⟨lw_p33, List.forall_mem_cons.mpr ⟨lw_p34, List.forall_mem_cons.mpr ⟨lw_p35, List.forall_mem_cons.mpr ⟨lw_p36, List.forall_mem_cons.mpr ⟨lw_p37, List.forall_mem_cons.mpr ⟨lw_p38, List.forall_mem_cons.mpr ⟨lw_p39, List.forall_mem_cons.mpr ⟨lw_p40, List.forall_mem_cons.mpr ⟨lw_p41, List.forall_mem_cons.mpr ⟨lw_p42, List.forall_mem_cons.mpr ⟨lw_p43, List.forall_mem_cons.mpr ⟨lw_p44, List.forall_mem_cons.mpr ⟨lw_p45, List.forall_mem_cons.mpr ⟨lw_p46, List.forall_mem_cons.mpr ⟨lw_p47, fun _ h => absurd h List.not_mem_nil⟩⟩⟩⟩⟩⟩⟩⟩⟩⟩⟩⟩⟩⟩⟩⟩
def lw_privs : List (MethodName × Nat) := lw_privs_1 ++ (lw_privs_2 ++ (lw_privs_3))
def lw_tbl : List Cond := k2_sels lw_privs ++ tables_1
theorem lw_privs_ok : ∀ q ∈ lw_privs, lw_okq q := by
  show ∀ q ∈ lw_privs_1 ++ (lw_privs_2 ++ (lw_privs_3)), lw_okq q
  exact List.forall_mem_append.mpr ⟨lw_r1, List.forall_mem_append.mpr ⟨lw_r2, lw_r3⟩⟩
-- ===== end of PART A; then your names; then what follows =====
end
section
/-! names and tables of the shadow machine: written by wip/gen/tables.py out of the printed names -/
def RX0 : String := "FoldDye$Bundle"
def TX0 : u_T := fun k => match k with
  | 0 => ("FoldDye$Bundle", "row", "[I", true)
  | 1 => ("FoldDye$Bundle", "column", "[I", true)
  | 2 => ("FoldDye$Bundle", "height", "[I", true)
  | 3 => ("FoldDye$Bundle", "sizes", "[I", true)
  | 4 => ("FoldDye$Bundle", "cells", "I", false)
  | 5 => ("FoldDye$Bundle", "rows", "I", false)
  | _ => ("FoldDye$Bundle", "columns", "I", false)
def tyX0 : Nat → FieldType := fun k => match k with
  | 0 => .array .int
  | 1 => .array .int
  | 2 => .array .int
  | 3 => .array .int
  | 4 => .int
  | 5 => .int
  | _ => .int
theorem nmX0 : ∀ a, a < 7 → ∀ b, b < 7 → a ≠ b → (TX0 a).2.1 ≠ (TX0 b).2.1 := by decide +kernel
theorem tyX0_ok : ∀ k, k < 7 → parseFieldDescriptor (TX0 k).2.2.1 = some (tyX0 k) := by decide +kernel
def RX1 : String := "FoldDye$Cloth"
def TX1 : u_T := fun k => match k with
  | 0 => ("FoldDye$Cloth", "rows", "I", true)
  | 1 => ("FoldDye$Cloth", "columns", "I", true)
  | 2 => ("FoldDye$Cloth", "cells", "I", true)
  | 3 => ("FoldDye$Cloth", "depths", "[I", true)
  | 4 => ("FoldDye$Cloth", "shut", "[Z", true)
  | 5 => ("FoldDye$Cloth", "bundle", "LFoldDye$Bundle;", true)
  | 6 => ("FoldDye$Cloth", "folds", "I", false)
  | 7 => ("FoldDye$Cloth", "boards", "I", false)
  | 8 => ("FoldDye$Cloth", "torn", "I", false)
  | _ => ("FoldDye$Cloth", "soaked", "Z", false)
def tyX1 : Nat → FieldType := fun k => match k with
  | 0 => .int
  | 1 => .int
  | 2 => .int
  | 3 => .array .int
  | 4 => .array .boolean
  | 5 => .object "FoldDye$Bundle"
  | 6 => .int
  | 7 => .int
  | 8 => .int
  | _ => .boolean
theorem nmX1 : ∀ a, a < 10 → ∀ b, b < 10 → a ≠ b → (TX1 a).2.1 ≠ (TX1 b).2.1 := by decide +kernel
theorem tyX1_ok : ∀ k, k < 10 → parseFieldDescriptor (TX1 k).2.2.1 = some (tyX1 k) := by decide +kernel
def RX2 : String := "FoldDye$Search"
def TX2 : u_T := fun k => match k with
  | 0 => ("FoldDye$Search", "tried", "LFoldDye$Way;", true)
  | 1 => ("FoldDye$Search", "flat", "LFoldDye$Bundle;", true)
  | 2 => ("FoldDye$Search", "once", "LFoldDye$Bundle;", true)
  | 3 => ("FoldDye$Search", "twice", "LFoldDye$Bundle;", true)
  | 4 => ("FoldDye$Search", "cellsAt", "[I", true)
  | 5 => ("FoldDye$Search", "cellsOfColumn", "[I", true)
  | 6 => ("FoldDye$Search", "allCells", "I", false)
  | 7 => ("FoldDye$Search", "darkCells", "I", false)
  | _ => ("FoldDye$Search", "least", "I", false)
def tyX2 : Nat → FieldType := fun k => match k with
  | 0 => .object "FoldDye$Way"
  | 1 => .object "FoldDye$Bundle"
  | 2 => .object "FoldDye$Bundle"
  | 3 => .object "FoldDye$Bundle"
  | 4 => .array .int
  | 5 => .array .int
  | 6 => .int
  | 7 => .int
  | _ => .int
theorem nmX2 : ∀ a, a < 9 → ∀ b, b < 9 → a ≠ b → (TX2 a).2.1 ≠ (TX2 b).2.1 := by decide +kernel
theorem tyX2_ok : ∀ k, k < 9 → parseFieldDescriptor (TX2 k).2.2.1 = some (tyX2 k) := by decide +kernel
def RX3 : String := "FoldDye$Seep"
def TX3 : u_T := fun k => match k with
  | 0 => ("FoldDye$Seep", "starts", "[I", true)
  | 1 => ("FoldDye$Seep", "minutes", "[I", true)
  | 2 => ("FoldDye$Seep", "layer", "I", false)
  | _ => ("FoldDye$Seep", "side", "I", false)
def tyX3 : Nat → FieldType := fun k => match k with
  | 0 => .array .int
  | 1 => .array .int
  | 2 => .int
  | _ => .int
theorem nmX3 : ∀ a, a < 4 → ∀ b, b < 4 → a ≠ b → (TX3 a).2.1 ≠ (TX3 b).2.1 := by decide +kernel
theorem tyX3_ok : ∀ k, k < 4 → parseFieldDescriptor (TX3 k).2.2.1 = some (tyX3 k) := by decide +kernel
def RX4 : String := "FoldDye$Way"
def TX4 : u_T := fun k => match k with
  | 0 => ("FoldDye$Way", "facts", "[I", true)
  | _ => ("FoldDye$Way", "folds", "I", false)
def tyX4 : Nat → FieldType := fun k => match k with
  | 0 => .array .int
  | _ => .int
theorem nmX4 : ∀ a, a < 2 → ∀ b, b < 2 → a ≠ b → (TX4 a).2.1 ≠ (TX4 b).2.1 := by decide +kernel
theorem tyX4_ok : ∀ k, k < 2 → parseFieldDescriptor (TX4 k).2.2.1 = some (tyX4 k) := by decide +kernel
def RX5 : String := "FoldDye$Wish"
def TX5 : u_T := fun k => match k with
  | 0 => ("FoldDye$Wish", "rows", "I", false)
  | 1 => ("FoldDye$Wish", "columns", "I", false)
  | _ => ("FoldDye$Wish", "darkCells", "I", false)
def tyX5 : Nat → FieldType := fun k => match k with
  | 0 => .int
  | 1 => .int
  | _ => .int
theorem nmX5 : ∀ a, a < 3 → ∀ b, b < 3 → a ≠ b → (TX5 a).2.1 ≠ (TX5 b).2.1 := by decide +kernel
theorem tyX5_ok : ∀ k, k < 3 → parseFieldDescriptor (TX5 k).2.2.1 = some (tyX5 k) := by decide +kernel
def RX6 : String := "FoldDye"
def TX6 : u_T := fun k => match k with
  | 0 => ("FoldDye", "rules", "[I", true)
  | 1 => ("FoldDye", "cloths", "[LFoldDye$Cloth;", true)
  | 2 => ("FoldDye", "woven", "I", false)
  | 3 => ("FoldDye", "seep", "LFoldDye$Seep;", true)
  | 4 => ("FoldDye", "wanted", "LFoldDye$Wish;", true)
  | 5 => ("FoldDye", "search", "LFoldDye$Search;", true)
  | _ => ("FoldDye", "latest", "LFoldDye$Way;", true)
def tyX6 : Nat → FieldType := fun k => match k with
  | 0 => .array .int
  | 1 => .array (.object "FoldDye$Cloth")
  | 2 => .int
  | 3 => .object "FoldDye$Seep"
  | 4 => .object "FoldDye$Wish"
  | 5 => .object "FoldDye$Search"
  | _ => .object "FoldDye$Way"
theorem nmX6 : ∀ a, a < 7 → ∀ b, b < 7 → a ≠ b → (TX6 a).2.1 ≠ (TX6 b).2.1 := by decide +kernel
theorem tyX6_ok : ∀ k, k < 7 → parseFieldDescriptor (TX6 k).2.2.1 = some (tyX6 k) := by decide +kernel
def RX7 : String := "FoldDyeModel"
def TX7 : u_T := fun k => match k with
  | 0 => ("FoldDyeModel", "clothRows", "[I", true)
  | 1 => ("FoldDyeModel", "clothColumns", "[I", true)
  | 2 => ("FoldDyeModel", "cloths", "I", false)
  | 3 => ("FoldDyeModel", "depth", "[I", true)
  | 4 => ("FoldDyeModel", "row", "[I", true)
  | 5 => ("FoldDyeModel", "column", "[I", true)
  | 6 => ("FoldDyeModel", "high", "[I", true)
  | 7 => ("FoldDyeModel", "bundleRows", "[I", true)
  | 8 => ("FoldDyeModel", "bundleColumns", "[I", true)
  | 9 => ("FoldDyeModel", "folds", "[I", true)
  | 10 => ("FoldDyeModel", "isSoaked", "[Z", true)
  | 11 => ("FoldDyeModel", "torn", "[I", true)
  | 12 => ("FoldDyeModel", "boards", "[I", true)
  | 13 => ("FoldDyeModel", "boardFirstRow", "[I", true)
  | 14 => ("FoldDyeModel", "boardLastRow", "[I", true)
  | 15 => ("FoldDyeModel", "boardFirstColumn", "[I", true)
  | 16 => ("FoldDyeModel", "boardLastColumn", "[I", true)
  | 17 => ("FoldDyeModel", "layer", "I", false)
  | 18 => ("FoldDyeModel", "side", "I", false)
  | 19 => ("FoldDyeModel", "fade", "I", false)
  | 20 => ("FoldDyeModel", "lies", "[I", true)
  | 21 => ("FoldDyeModel", "stack", "[I", true)
  | 22 => ("FoldDyeModel", "reach", "[I", true)
  | 23 => ("FoldDyeModel", "newRow", "[I", true)
  | 24 => ("FoldDyeModel", "newColumn", "[I", true)
  | 25 => ("FoldDyeModel", "newHigh", "[I", true)
  | 26 => ("FoldDyeModel", "wishRows", "I", false)
  | 27 => ("FoldDyeModel", "wishColumns", "I", false)
  | 28 => ("FoldDyeModel", "isDark", "[Z", true)
  | 29 => ("FoldDyeModel", "tryKind", "[I", true)
  | 30 => ("FoldDyeModel", "tryLine", "[I", true)
  | 31 => ("FoldDyeModel", "tryHow", "[I", true)
  | 32 => ("FoldDyeModel", "toldFold", "[I", true)
  | 33 => ("FoldDyeModel", "toldFolds", "I", false)
  | 34 => ("FoldDyeModel", "toldBoard", "[I", true)
  | 35 => ("FoldDyeModel", "hasBoard", "Z", false)
  | 36 => ("FoldDyeModel", "hasWay", "Z", false)
  | 37 => ("FoldDyeModel", "bathMinutes", "I", false)
  | 38 => ("FoldDyeModel", "bathStrength", "I", false)
  | _ => ("FoldDyeModel", "least", "I", false)
def tyX7 : Nat → FieldType := fun k => match k with
  | 0 => .array .int
  | 1 => .array .int
  | 2 => .int
  | 3 => .array .int
  | 4 => .array .int
  | 5 => .array .int
  | 6 => .array .int
  | 7 => .array .int
  | 8 => .array .int
  | 9 => .array .int
  | 10 => .array .boolean
  | 11 => .array .int
  | 12 => .array .int
  | 13 => .array .int
  | 14 => .array .int
  | 15 => .array .int
  | 16 => .array .int
  | 17 => .int
  | 18 => .int
  | 19 => .int
  | 20 => .array .int
  | 21 => .array .int
  | 22 => .array .int
  | 23 => .array .int
  | 24 => .array .int
  | 25 => .array .int
  | 26 => .int
  | 27 => .int
  | 28 => .array .boolean
  | 29 => .array .int
  | 30 => .array .int
  | 31 => .array .int
  | 32 => .array .int
  | 33 => .int
  | 34 => .array .int
  | 35 => .boolean
  | 36 => .boolean
  | 37 => .int
  | 38 => .int
  | _ => .int
theorem nmX7 : ∀ a, a < 40 → ∀ b, b < 40 → a ≠ b → (TX7 a).2.1 ≠ (TX7 b).2.1 := by decide +kernel
theorem tyX7_ok : ∀ k, k < 40 → parseFieldDescriptor (TX7 k).2.2.1 = some (tyX7 k) := by decide +kernel
/-- the words that a call keeps -/
def fx_tb : List Cond := lw_tbl.filter goodWord
theorem fx_sub {ws : List Cond} (ps : List Nat) (h : ws = ps.filterMap (fun i => lw_tbl[i]?)) (hg : ws.all goodWord = true) : ∀ w ∈ ws, w ∈ fx_tb := by
  intro w hw
  have h1 := List.all_eq_true.mp hg w hw
  rw [h] at hw
  obtain ⟨i, -, hi⟩ := List.mem_filterMap.mp hw
  exact List.mem_filter.mpr ⟨List.mem_of_getElem? hi, h1⟩
theorem fx_tb_in : ∀ w ∈ fx_tb, w ∈ lw_tbl := fun w h => (List.mem_filter.mp h).1
theorem fx_tb_good : ∀ w ∈ fx_tb, goodWord w = true := fun w h => (List.mem_filter.mp h).2
theorem inX0 : ∀ w ∈ u_ws RX0 TX0 7, w ∈ fx_tb := fx_sub [162, 164, 166, 168, 170, 172, 174] (by decide +kernel) (by decide +kernel)
theorem inX1 : ∀ w ∈ u_ws RX1 TX1 10, w ∈ fx_tb := fx_sub [272, 274, 276, 278, 280, 282, 284, 286, 288, 290] (by decide +kernel) (by decide +kernel)
theorem inX2 : ∀ w ∈ u_ws RX2 TX2 9, w ∈ fx_tb := fx_sub [187, 189, 191, 193, 195, 197, 199, 201, 203] (by decide +kernel) (by decide +kernel)
theorem inX3 : ∀ w ∈ u_ws RX3 TX3 4, w ∈ fx_tb := fx_sub [81, 83, 85, 87] (by decide +kernel) (by decide +kernel)
theorem inX4 : ∀ w ∈ u_ws RX4 TX4 2, w ∈ fx_tb := fx_sub [132, 134] (by decide +kernel) (by decide +kernel)
theorem inX5 : ∀ w ∈ u_ws RX5 TX5 3, w ∈ fx_tb := fx_sub [106, 108, 110] (by decide +kernel) (by decide +kernel)
theorem inX6 : ∀ w ∈ u_ws RX6 TX6 7, w ∈ fx_tb := fx_sub [215, 217, 219, 221, 223, 225, 227] (by decide +kernel) (by decide +kernel)
theorem inX7 : ∀ w ∈ u_ws RX7 TX7 40, w ∈ fx_tb := fx_sub [657, 659, 661, 663, 665, 667, 669, 671, 673, 675, 677, 679, 681, 683, 685, 687, 689, 691, 693, 695, 697, 699, 701, 703, 705, 707, 709, 711, 713, 715, 717, 719, 721, 723, 725, 727, 729, 731, 733, 735] (by decide +kernel) (by decide +kernel)
abbrev fx_cl : List vw_C := [(RX0, TX0, 7), (RX1, TX1, 10), (RX2, TX2, 9), (RX3, TX3, 4), (RX4, TX4, 2), (RX5, TX5, 3), (RX6, TX6, 7), (RX7, TX7, 40)]
def fx_cs (n : Nat) : String := ["FoldDye$Bundle", "FoldDye$Cloth", "FoldDye$Search", "FoldDye$Seep", "FoldDye$Way", "FoldDye$Wish", "FoldDye", "FoldDyeModel", "java/lang/Integer", "java/lang/Math", "java/util/Arrays"].getD n ""
/-- a method: its class, name, code, locals, answer, level -/
def fx_mt : List (Nat × MethodName × ByteArray × Nat × Option FieldType × Nat) := [
  (0, ⟨"FoldDye$Bundle", "spread", "(II)V"⟩, prog_2_method_2_code, 5, none, 3),
  (0, ⟨"FoldDye$Bundle", "become", "(LFoldDye$Bundle;)V"⟩, prog_2_method_3_code, 2, none, 1),
  (0, ⟨"FoldDye$Bundle", "isAt", "(IIII)Z"⟩, prog_2_method_4_code, 5, (some .boolean), 1),
  (0, ⟨"FoldDye$Bundle", "sizeAt", "(II)I"⟩, prog_2_method_5_code, 3, (some .int), 1),
  (0, ⟨"FoldDye$Bundle", "hasBareSide", "(II)Z"⟩, prog_2_method_6_code, 4, (some .boolean), 2),
  (0, ⟨"FoldDye$Bundle", "thickness", "()I"⟩, prog_2_method_7_code, 3, (some .int), 1),
  (0, ⟨"FoldDye$Bundle", "placesWithCells", "()I"⟩, prog_2_method_8_code, 3, (some .int), 1),
  (0, ⟨"FoldDye$Bundle", "hasLine", "(II)Z"⟩, prog_2_method_9_code, 3, (some .boolean), 1),
  (0, ⟨"FoldDye$Bundle", "canSlant", "()Z"⟩, prog_2_method_10_code, 1, (some .boolean), 1),
  (0, ⟨"FoldDye$Bundle", "thicknessAfter", "(II)I"⟩, prog_2_method_11_code, 6, (some .int), 3),
  (0, ⟨"FoldDye$Bundle", "crease", "(III)V"⟩, prog_2_method_12_code, 9, none, 3),
  (0, ⟨"FoldDye$Bundle", "matesOf", "(IIII)I"⟩, prog_2_method_13_code, 6, (some .int), 2),
  (0, ⟨"FoldDye$Bundle", "comes", "(IIII)Z"⟩, prog_2_method_14_code, 4, (some .boolean), 1),
  (0, ⟨"FoldDye$Bundle", "rowAcross", "(IIII)I"⟩, prog_2_method_15_code, 4, (some .int), 1),
  (0, ⟨"FoldDye$Bundle", "columnAcross", "(IIII)I"⟩, prog_2_method_16_code, 4, (some .int), 1),
  (0, ⟨"FoldDye$Bundle", "trim", "()V"⟩, prog_2_method_17_code, 6, none, 1),
  (0, ⟨"FoldDye$Bundle", "countSizes", "()V"⟩, prog_2_method_18_code, 2, none, 2),
  (1, ⟨"FoldDye$Cloth", "takeBoardsOff", "()V"⟩, prog_3_method_2_code, 2, none, 1),
  (1, ⟨"FoldDye$Cloth", "cellAt", "(III)I"⟩, prog_3_method_3_code, 6, (some .int), 2),
  (1, ⟨"FoldDye$Cloth", "shareOf", "(I)I"⟩, prog_3_method_4_code, 2, (some .int), 2),
  (1, ⟨"FoldDye$Cloth", "depthInAll", "()I"⟩, prog_3_method_5_code, 3, (some .int), 1),
  (1, ⟨"FoldDye$Cloth", "isSameTurned", "(I)Z"⟩, prog_3_method_6_code, 4, (some .boolean), 2),
  (1, ⟨"FoldDye$Cloth", "turnedIndex", "(III)I"⟩, prog_3_method_7_code, 4, (some .int), 1),
  (1, ⟨"FoldDye$Cloth", "repeats", "(II)Z"⟩, prog_3_method_8_code, 7, (some .boolean), 1),
  (2, ⟨"FoldDye$Search", "leastDiffering", "(LFoldDye$Wish;)I"⟩, prog_4_method_2_code, 2, (some .int), 6),
  (2, ⟨"FoldDye$Search", "tryFolds", "(I)V"⟩, prog_4_method_3_code, 4, none, 5),
  (2, ⟨"FoldDye$Search", "foldInto", "(LFoldDye$Bundle;LFoldDye$Bundle;II)Z"⟩, prog_4_method_4_code, 7, (some .boolean), 4),
  (2, ⟨"FoldDye$Search", "tryBoards", "(LFoldDye$Bundle;)V"⟩, prog_4_method_5_code, 5, none, 4),
  (2, ⟨"FoldDye$Search", "gatherCells", "(LFoldDye$Bundle;)V"⟩, prog_4_method_6_code, 3, none, 2),
  (2, ⟨"FoldDye$Search", "tryColumns", "(III)V"⟩, prog_4_method_7_code, 7, none, 3),
  (2, ⟨"FoldDye$Search", "differingUnder", "(I)I"⟩, prog_4_method_8_code, 2, (some .int), 2),
  (3, ⟨"FoldDye$Seep", "into", "(LFoldDye$Cloth;II)V"⟩, prog_5_method_2_code, 6, none, 5),
  (3, ⟨"FoldDye$Seep", "minutesAt", "(LFoldDye$Bundle;III)I"⟩, prog_5_method_3_code, 5, (some .int), 2),
  (3, ⟨"FoldDye$Seep", "begin", "(LFoldDye$Bundle;[Z)V"⟩, prog_5_method_4_code, 11, none, 3),
  (3, ⟨"FoldDye$Seep", "goOn", "(LFoldDye$Bundle;[Z)Z"⟩, prog_5_method_5_code, 8, (some .boolean), 4),
  (3, ⟨"FoldDye$Seep", "shorten", "(LFoldDye$Bundle;III)Z"⟩, prog_5_method_6_code, 9, (some .boolean), 3),
  (4, ⟨"FoldDye$Way", "clear", "()V"⟩, prog_6_method_2_code, 1, none, 2),
  (4, ⟨"FoldDye$Way", "become", "(LFoldDye$Way;)V"⟩, prog_6_method_3_code, 2, none, 1),
  (4, ⟨"FoldDye$Way", "setFold", "(IIII)V"⟩, prog_6_method_4_code, 5, none, 1),
  (4, ⟨"FoldDye$Way", "setBoard", "(IIII)V"⟩, prog_6_method_5_code, 5, none, 1),
  (6, ⟨"FoldDye", "rule", "(II)I"⟩, prog_1_method_3_code, 4, (some .int), 1),
  (6, ⟨"FoldDye", "fold", "(IIII)I"⟩, prog_1_method_4_code, 7, (some .int), 4),
  (6, ⟨"FoldDye", "open", "(I)I"⟩, prog_1_method_5_code, 4, (some .int), 4),
  (6, ⟨"FoldDye", "about", "(II)I"⟩, prog_1_method_6_code, 4, (some .int), 2),
  (6, ⟨"FoldDye", "stack", "(III)I"⟩, prog_1_method_7_code, 7, (some .int), 3),
  (6, ⟨"FoldDye", "place", "(II)I"⟩, prog_1_method_8_code, 5, (some .int), 3),
  (6, ⟨"FoldDye", "high", "(II)I"⟩, prog_1_method_9_code, 5, (some .int), 3),
  (6, ⟨"FoldDye", "board", "(III)I"⟩, prog_1_method_10_code, 7, (some .int), 2),
  (6, ⟨"FoldDye", "off", "(I)I"⟩, prog_1_method_11_code, 4, (some .int), 2),
  (6, ⟨"FoldDye", "reach", "(II)I"⟩, prog_1_method_12_code, 5, (some .int), 6),
  (6, ⟨"FoldDye", "bath", "(III)I"⟩, prog_1_method_13_code, 4, (some .int), 7),
  (6, ⟨"FoldDye", "discharge", "(III)I"⟩, prog_1_method_14_code, 4, (some .int), 7),
  (6, ⟨"FoldDye", "dry", "(I)I"⟩, prog_1_method_15_code, 4, (some .int), 2),
  (6, ⟨"FoldDye", "depth", "(II)I"⟩, prog_1_method_16_code, 5, (some .int), 3),
  (6, ⟨"FoldDye", "mirrored", "(II)I"⟩, prog_1_method_17_code, 4, (some .int), 3),
  (6, ⟨"FoldDye", "period", "(II)I"⟩, prog_1_method_18_code, 6, (some .int), 2),
  (6, ⟨"FoldDye", "steps", "(II)I"⟩, prog_1_method_19_code, 7, (some .int), 2),
  (6, ⟨"FoldDye", "alike", "(III)I"⟩, prog_1_method_20_code, 7, (some .int), 6),
  (6, ⟨"FoldDye", "wish", "(II)I"⟩, prog_1_method_21_code, 3, (some .int), 1),
  (6, ⟨"FoldDye", "dark", "(II)I"⟩, prog_1_method_22_code, 5, (some .int), 2),
  (6, ⟨"FoldDye", "way", "(II)I"⟩, prog_1_method_23_code, 3, (some .int), 7),
  (6, ⟨"FoldDye", "nearly", "(II)I"⟩, prog_1_method_24_code, 3, (some .int), 7),
  (6, ⟨"FoldDye", "told", "(II)I"⟩, prog_1_method_25_code, 3, (some .int), 1),
  (6, ⟨"FoldDye", "count", "(I)I"⟩, prog_1_method_26_code, 5, (some .int), 3),
  (6, ⟨"FoldDye", "clothOf", "(I)LFoldDye$Cloth;"⟩, prog_1_method_27_code, 2, (some (.object "FoldDye$Cloth")), 1),
  (6, ⟨"FoldDye", "indexIn", "(LFoldDye$Cloth;I)I"⟩, prog_1_method_28_code, 2, (some .int), 2),
  (6, ⟨"FoldDye", "indexOf", "(III)I"⟩, prog_1_method_29_code, 5, (some .int), 1),
  (6, ⟨"FoldDye", "isSpan", "(II)Z"⟩, prog_1_method_30_code, 2, (some .boolean), 1),
  (6, ⟨"FoldDye", "isBath", "(II)Z"⟩, prog_1_method_31_code, 2, (some .boolean), 1),
  (6, ⟨"FoldDye", "dip", "(IIIZ)I"⟩, prog_1_method_32_code, 11, (some .int), 6),
  (6, ⟨"FoldDye", "dyeAfter", "(III)I"⟩, prog_1_method_33_code, 4, (some .int), 1),
  (6, ⟨"FoldDye", "reachOf", "(LFoldDye$Cloth;I)I"⟩, prog_1_method_34_code, 5, (some .int), 3),
  (7, ⟨"FoldDyeModel", "within", "(III)Z"⟩, prog_9_method_2_code, 3, (some .boolean), 1),
  (7, ⟨"FoldDyeModel", "isCloth", "(I)Z"⟩, prog_9_method_3_code, 2, (some .boolean), 1),
  (7, ⟨"FoldDyeModel", "isCell", "(II)Z"⟩, prog_9_method_4_code, 3, (some .boolean), 1),
  (7, ⟨"FoldDyeModel", "cellEnd", "(I)I"⟩, prog_9_method_5_code, 2, (some .int), 1),
  (7, ⟨"FoldDyeModel", "unfold", "(I)V"⟩, prog_9_method_6_code, 3, none, 1),
  (7, ⟨"FoldDyeModel", "cloth", "(II)I"⟩, prog_9_method_7_code, 3, (some .int), 2),
  (7, ⟨"FoldDyeModel", "rule", "(II)I"⟩, prog_9_method_8_code, 4, (some .int), 2),
  (7, ⟨"FoldDyeModel", "findStacks", "(I)V"⟩, prog_9_method_9_code, 4, none, 2),
  (7, ⟨"FoldDyeModel", "moves", "(IIII)Z"⟩, prog_9_method_10_code, 5, (some .boolean), 1),
  (7, ⟨"FoldDyeModel", "target", "(IIIII)V"⟩, prog_9_method_11_code, 7, none, 2),
  (7, ⟨"FoldDyeModel", "countNew", "(IIIIIZ)I"⟩, prog_9_method_12_code, 9, (some .int), 2),
  (7, ⟨"FoldDyeModel", "tryFold", "(IIII)I"⟩, prog_9_method_13_code, 10, (some .int), 3),
  (7, ⟨"FoldDyeModel", "keepFold", "(I)V"⟩, prog_9_method_14_code, 7, none, 2),
  (7, ⟨"FoldDyeModel", "isFold", "(IIII)I"⟩, prog_9_method_15_code, 5, (some .int), 2),
  (7, ⟨"FoldDyeModel", "fold", "(IIII)I"⟩, prog_9_method_16_code, 7, (some .int), 4),
  (7, ⟨"FoldDyeModel", "open", "(I)I"⟩, prog_9_method_17_code, 3, (some .int), 2),
  (7, ⟨"FoldDyeModel", "about", "(II)I"⟩, prog_9_method_18_code, 6, (some .int), 3),
  (7, ⟨"FoldDyeModel", "stack", "(III)I"⟩, prog_9_method_19_code, 5, (some .int), 3),
  (7, ⟨"FoldDyeModel", "place", "(II)I"⟩, prog_9_method_20_code, 3, (some .int), 2),
  (7, ⟨"FoldDyeModel", "high", "(II)I"⟩, prog_9_method_21_code, 3, (some .int), 2),
  (7, ⟨"FoldDyeModel", "addBoard", "(IIIII)V"⟩, prog_9_method_22_code, 7, none, 1),
  (7, ⟨"FoldDyeModel", "board", "(III)I"⟩, prog_9_method_23_code, 4, (some .int), 2),
  (7, ⟨"FoldDyeModel", "off", "(I)I"⟩, prog_9_method_24_code, 3, (some .int), 2),
  (7, ⟨"FoldDyeModel", "isShut", "(III)Z"⟩, prog_9_method_25_code, 6, (some .boolean), 2),
  (7, ⟨"FoldDyeModel", "stackAt", "(III)I"⟩, prog_9_method_26_code, 4, (some .int), 1),
  (7, ⟨"FoldDyeModel", "hasBareSide", "(III)Z"⟩, prog_9_method_27_code, 4, (some .boolean), 2),
  (7, ⟨"FoldDyeModel", "comes", "(IIIIII)Z"⟩, prog_9_method_28_code, 8, (some .boolean), 3),
  (7, ⟨"FoldDyeModel", "findReach", "(I)V"⟩, prog_9_method_29_code, 7, none, 4),
  (7, ⟨"FoldDyeModel", "reach", "(II)I"⟩, prog_9_method_30_code, 3, (some .int), 5),
  (7, ⟨"FoldDyeModel", "dyed", "(III)I"⟩, prog_9_method_31_code, 5, (some .int), 1),
  (7, ⟨"FoldDyeModel", "dip", "(IIII)I"⟩, prog_9_method_32_code, 9, (some .int), 5),
  (7, ⟨"FoldDyeModel", "bath", "(III)I"⟩, prog_9_method_33_code, 4, (some .int), 6),
  (7, ⟨"FoldDyeModel", "discharge", "(III)I"⟩, prog_9_method_34_code, 4, (some .int), 6),
  (7, ⟨"FoldDyeModel", "dry", "(I)I"⟩, prog_9_method_35_code, 3, (some .int), 2),
  (7, ⟨"FoldDyeModel", "depth", "(II)I"⟩, prog_9_method_36_code, 3, (some .int), 2),
  (7, ⟨"FoldDyeModel", "at", "(III)I"⟩, prog_9_method_37_code, 4, (some .int), 1),
  (7, ⟨"FoldDyeModel", "mirrored", "(II)I"⟩, prog_9_method_38_code, 9, (some .int), 2),
  (7, ⟨"FoldDyeModel", "goesOn", "(III)Z"⟩, prog_9_method_39_code, 8, (some .boolean), 2),
  (7, ⟨"FoldDyeModel", "period", "(II)I"⟩, prog_9_method_40_code, 4, (some .int), 3),
  (7, ⟨"FoldDyeModel", "steps", "(II)I"⟩, prog_9_method_41_code, 7, (some .int), 2),
  (7, ⟨"FoldDyeModel", "alike", "(III)I"⟩, prog_9_method_42_code, 4, (some .int), 5),
  (7, ⟨"FoldDyeModel", "wish", "(II)I"⟩, prog_9_method_43_code, 4, (some .int), 2),
  (7, ⟨"FoldDyeModel", "isWished", "(I)Z"⟩, prog_9_method_44_code, 2, (some .boolean), 1),
  (7, ⟨"FoldDyeModel", "dark", "(II)I"⟩, prog_9_method_45_code, 4, (some .int), 2),
  (7, ⟨"FoldDyeModel", "differs", "()I"⟩, prog_9_method_46_code, 3, (some .int), 5),
  (7, ⟨"FoldDyeModel", "foldTried", "(I)Z"⟩, prog_9_method_47_code, 4, (some .boolean), 4),
  (7, ⟨"FoldDyeModel", "keepWay", "(IZ)V"⟩, prog_9_method_48_code, 4, none, 1),
  (7, ⟨"FoldDyeModel", "meets", "()Z"⟩, prog_9_method_49_code, 2, (some .boolean), 6),
  (7, ⟨"FoldDyeModel", "tryFolds", "(IZ)Z"⟩, prog_9_method_50_code, 7, (some .boolean), 7),
  (7, ⟨"FoldDyeModel", "goFolds", "(IIZ)Z"⟩, prog_9_method_51_code, 7, (some .boolean), 10),
  (7, ⟨"FoldDyeModel", "goFolds", "(IIZ)Z"⟩, prog_9_method_51_code, 7, (some .boolean), 9),
  (7, ⟨"FoldDyeModel", "goFolds", "(IIZ)Z"⟩, prog_9_method_51_code, 7, (some .boolean), 8),
  (7, ⟨"FoldDyeModel", "findWay", "(Z)I"⟩, prog_9_method_52_code, 4, (some .int), 11),
  (7, ⟨"FoldDyeModel", "isBath", "(II)Z"⟩, prog_9_method_53_code, 3, (some .boolean), 2),
  (7, ⟨"FoldDyeModel", "way", "(II)I"⟩, prog_9_method_54_code, 3, (some .int), 12),
  (7, ⟨"FoldDyeModel", "nearly", "(II)I"⟩, prog_9_method_55_code, 3, (some .int), 12),
  (7, ⟨"FoldDyeModel", "told", "(II)I"⟩, prog_9_method_56_code, 3, (some .int), 2),
  (7, ⟨"FoldDyeModel", "count", "(I)I"⟩, prog_9_method_57_code, 7, (some .int), 1),
  (8, ⟨"java/lang/Integer", "bitCount", "(I)I"⟩, prog_10_method_49_code, 1, (some .int), 1),
  (10, ⟨"java/util/Arrays", "fill", "([II)V"⟩, prog_13_method_103_code, 4, none, 1)]
def fx_md : Nat × MethodName × ByteArray × Nat × Option FieldType × Nat := (0, ⟨"", "", ""⟩, ⟨#[]⟩, 0, none, 0)
def fx_own (y : Nat) : Nat := (fx_mt.getD y fx_md).1
def fx_nm (y : Nat) : MethodName := (fx_mt.getD y fx_md).2.1
def fx_by (y : Nat) : ByteArray := (fx_mt.getD y fx_md).2.2.1
def fx_mL (y : Nat) : Nat := (fx_mt.getD y fx_md).2.2.2.1
def fx_rt (y : Nat) : Option FieldType := (fx_mt.getD y fx_md).2.2.2.2.1
def fx_lv (y : Nat) : Nat := (fx_mt.getD y fx_md).2.2.2.2.2
abbrev fx_nM : Nat := 132
/-- calls: (method, pool entry), (callee, its parameters, 0 of an object or 1 static) -/
def fx_cT : List ((Nat × Nat) × (Nat × Nat × Nat)) := [((0, 34), (16, 0, 0)), ((4, 49), (3, 2, 0)), ((9, 49), (3, 2, 0)), ((9, 58), (11, 4, 0)), ((10, 34), (16, 0, 0)), ((10, 49), (3, 2, 0)), ((10, 58), (11, 4, 0)), ((10, 62), (12, 4, 1)), ((10, 66), (13, 4, 1)), ((10, 69), (14, 4, 1)), ((10, 72), (15, 0, 0)), ((11, 49), (3, 2, 0)), ((11, 66), (13, 4, 1)), ((11, 69), (14, 4, 1)), ((16, 80), (131, 2, 1)), ((18, 54), (2, 4, 0)), ((19, 58), (20, 0, 0)), ((21, 62), (22, 3, 0)), ((24, 58), (0, 2, 0)), ((24, 65), (36, 0, 0)), ((24, 68), (30, 1, 0)), ((24, 72), (27, 1, 0)), ((24, 76), (25, 1, 0)), ((25, 72), (27, 1, 0)), ((25, 80), (26, 4, 0)), ((26, 84), (7, 2, 0)), ((26, 88), (8, 0, 0)), ((26, 92), (1, 1, 0)), ((26, 95), (10, 3, 0)), ((26, 99), (38, 4, 0)), ((27, 103), (28, 1, 0)), ((27, 107), (131, 2, 1)), ((27, 114), (29, 3, 0)), ((28, 107), (131, 2, 1)), ((29, 68), (30, 1, 0)), ((29, 129), (39, 4, 0)), ((30, 132), (130, 1, 1)), ((31, 35), (33, 2, 0)), ((31, 39), (34, 2, 0)), ((32, 43), (3, 2, 0)), ((33, 43), (3, 2, 0)), ((33, 56), (4, 2, 0)), ((34, 43), (3, 2, 0)), ((34, 60), (35, 4, 0)), ((35, 64), (32, 4, 0)), ((36, 19), (131, 2, 1)), ((41, 57), (64, 1, 0)), ((41, 65), (7, 2, 0)), ((41, 71), (8, 0, 0)), ((41, 81), (9, 2, 0)), ((41, 92), (10, 3, 0)), ((42, 57), (64, 1, 0)), ((42, 96), (17, 0, 0)), ((42, 105), (0, 2, 0)), ((43, 57), (64, 1, 0)), ((43, 110), (5, 0, 0)), ((43, 114), (6, 0, 0)), ((44, 57), (64, 1, 0)), ((44, 117), (18, 3, 0)), ((45, 57), (64, 1, 0)), ((45, 121), (65, 2, 1)), ((46, 57), (64, 1, 0)), ((46, 121), (65, 2, 1)), ((47, 57), (64, 1, 0)), ((47, 134), (67, 2, 1)), ((48, 57), (64, 1, 0)), ((48, 96), (17, 0, 0)), ((49, 57), (64, 1, 0)), ((49, 121), (65, 2, 1)), ((49, 141), (31, 3, 0)), ((49, 145), (71, 2, 0)), ((50, 148), (69, 4, 0)), ((51, 148), (69, 4, 0)), ((52, 57), (64, 1, 0)), ((53, 57), (64, 1, 0)), ((53, 121), (65, 2, 1)), ((54, 57), (64, 1, 0)), ((54, 155), (21, 1, 0)), ((55, 57), (64, 1, 0)), ((55, 159), (23, 2, 0)), ((56, 57), (64, 1, 0)), ((57, 57), (64, 1, 0)), ((57, 121), (65, 2, 1)), ((57, 141), (31, 3, 0)), ((57, 145), (71, 2, 0)), ((59, 176), (66, 3, 1)), ((60, 179), (68, 2, 1)), ((60, 182), (24, 1, 0)), ((60, 189), (37, 1, 0)), ((61, 179), (68, 2, 1)), ((61, 182), (24, 1, 0)), ((63, 57), (64, 1, 0)), ((63, 197), (130, 1, 1)), ((63, 202), (19, 1, 0)), ((65, 176), (66, 3, 1)), ((69, 57), (64, 1, 0)), ((69, 141), (31, 3, 0)), ((69, 145), (71, 2, 0)), ((69, 179), (68, 2, 1)), ((69, 205), (70, 3, 0)), ((71, 214), (32, 4, 0)), ((77, 108), (72, 3, 1)), ((77, 112), (76, 1, 0)), ((78, 108), (72, 3, 1)), ((79, 116), (75, 1, 0)), ((79, 120), (74, 2, 0)), ((81, 124), (80, 4, 0)), ((82, 120), (74, 2, 0)), ((82, 124), (80, 4, 0)), ((83, 116), (75, 1, 0)), ((83, 120), (74, 2, 0)), ((83, 124), (80, 4, 0)), ((83, 128), (81, 5, 0)), ((83, 132), (82, 6, 0)), ((84, 116), (75, 1, 0)), ((84, 120), (74, 2, 0)), ((85, 108), (72, 3, 1)), ((86, 138), (73, 1, 0)), ((86, 142), (85, 4, 0)), ((86, 146), (83, 4, 0)), ((86, 149), (84, 1, 0)), ((87, 112), (76, 1, 0)), ((87, 138), (73, 1, 0)), ((88, 138), (73, 1, 0)), ((88, 152), (79, 1, 0)), ((89, 138), (73, 1, 0)), ((89, 152), (79, 1, 0)), ((90, 120), (74, 2, 0)), ((90, 138), (73, 1, 0)), ((91, 120), (74, 2, 0)), ((91, 138), (73, 1, 0)), ((93, 138), (73, 1, 0)), ((93, 155), (92, 5, 0)), ((94, 138), (73, 1, 0)), ((95, 108), (72, 3, 1)), ((97, 158), (96, 3, 0)), ((98, 158), (96, 3, 0)), ((98, 162), (95, 3, 0)), ((99, 116), (75, 1, 0)), ((99, 120), (74, 2, 0)), ((99, 152), (79, 1, 0)), ((99, 158), (96, 3, 0)), ((99, 162), (95, 3, 0)), ((99, 165), (97, 3, 0)), ((99, 168), (98, 6, 0)), ((100, 120), (74, 2, 0)), ((100, 138), (73, 1, 0)), ((100, 172), (99, 1, 0)), ((102, 108), (72, 3, 1)), ((102, 116), (75, 1, 0)), ((102, 120), (74, 2, 0)), ((102, 138), (73, 1, 0)), ((102, 172), (99, 1, 0)), ((102, 175), (101, 3, 0)), ((103, 178), (102, 4, 0)), ((104, 178), (102, 4, 0)), ((105, 138), (73, 1, 0)), ((106, 120), (74, 2, 0)), ((106, 138), (73, 1, 0)), ((108, 108), (72, 3, 1)), ((108, 138), (73, 1, 0)), ((108, 181), (107, 3, 0)), ((109, 181), (107, 3, 0)), ((110, 108), (72, 3, 1)), ((110, 138), (73, 1, 0)), ((110, 184), (109, 3, 0)), ((111, 138), (73, 1, 0)), ((111, 181), (107, 3, 0)), ((112, 120), (74, 2, 0)), ((112, 138), (73, 1, 0)), ((112, 172), (99, 1, 0)), ((113, 108), (72, 3, 1)), ((115, 108), (72, 3, 1)), ((115, 193), (114, 1, 0)), ((116, 172), (99, 1, 0)), ((116, 175), (101, 3, 0)), ((116, 193), (114, 1, 0)), ((117, 112), (76, 1, 0)), ((117, 142), (85, 4, 0)), ((117, 146), (83, 4, 0)), ((117, 149), (84, 1, 0)), ((119, 212), (116, 0, 0)), ((120, 155), (92, 5, 0)), ((120, 219), (117, 1, 0)), ((120, 222), (119, 0, 0)), ((121, 226), (120, 2, 0)), ((121, 230), (122, 3, 0)), ((122, 226), (120, 2, 0)), ((122, 230), (123, 3, 0)), ((123, 226), (120, 2, 0)), ((124, 230), (121, 3, 0)), ((124, 234), (118, 2, 0)), ((125, 108), (72, 3, 1)), ((126, 238), (125, 2, 0)), ((126, 241), (124, 1, 0)), ((127, 238), (125, 2, 0)), ((127, 241), (124, 1, 0)), ((128, 108), (72, 3, 1))]
def fx_ca (y i : Nat) : Option (Nat × Nat × Nat) := (fx_cT.find? (fun e => e.1.1 == y && e.1.2 == i)).map (fun e => e.2)
/-- arraycopy: (method, pool entry) -/
def fx_aT : List (Nat × Nat) := [(1, 37), (37, 25)]
/-- max, min, abs: (method, pool entry), which -/
def fx_pT : List ((Nat × Nat) × Nat) := [((5, 53), 0), ((9, 53), 0), ((15, 53), 0), ((15, 77), 1), ((29, 123), 1), ((35, 68), 1), ((56, 165), 2), ((69, 208), 1), ((69, 211), 0), ((70, 211), 0)]
def fx_pd (y i : Nat) : Option Nat := (fx_pT.find? (fun e => e.1.1 == y && e.1.2 == i)).map (fun e => e.2)
/-- fields: (class, pool entry), (class of the object, place of the field) -/
def fx_fT : List ((Nat × Nat) × (Nat × Nat)) := [((0, 9), (0, 4)), ((0, 15), (0, 5)), ((0, 18), (0, 6)), ((0, 21), (0, 0)), ((0, 25), (0, 1)), ((0, 28), (0, 2)), ((0, 31), (0, 3)), ((1, 9), (1, 6)), ((1, 15), (1, 7)), ((1, 18), (1, 8)), ((1, 21), (1, 9)), ((1, 25), (1, 0)), ((1, 28), (1, 1)), ((1, 31), (1, 2)), ((1, 34), (1, 3)), ((1, 38), (1, 4)), ((1, 47), (1, 5)), ((2, 14), (2, 0)), ((2, 23), (2, 1)), ((2, 27), (2, 2)), ((2, 30), (2, 3)), ((2, 33), (2, 4)), ((2, 37), (2, 5)), ((2, 40), (2, 6)), ((2, 44), (2, 7)), ((2, 47), (2, 8)), ((2, 50), (5, 0)), ((2, 55), (5, 1)), ((2, 61), (0, 4)), ((2, 64), (5, 2)), ((2, 106), (0, 5)), ((2, 113), (0, 6)), ((2, 117), (0, 0)), ((2, 120), (0, 1)), ((3, 9), (3, 0)), ((3, 15), (3, 1)), ((3, 18), (3, 2)), ((3, 22), (3, 3)), ((3, 25), (1, 5)), ((3, 31), (1, 4)), ((3, 50), (0, 5)), ((3, 53), (0, 6)), ((4, 11), (4, 0)), ((4, 15), (4, 1)), ((5, 7), (5, 0)), ((5, 13), (5, 1)), ((5, 16), (5, 2)), ((6, 9), (6, 0)), ((6, 15), (6, 1)), ((6, 19), (6, 2)), ((6, 26), (6, 3)), ((6, 33), (6, 4)), ((6, 40), (6, 5)), ((6, 47), (6, 6)), ((6, 61), (1, 5)), ((6, 75), (1, 6)), ((6, 78), (1, 7)), ((6, 85), (1, 9)), ((6, 89), (1, 8)), ((6, 99), (1, 0)), ((6, 102), (1, 1)), ((6, 108), (0, 5)), ((6, 109), (0, 6)), ((6, 125), (0, 0)), ((6, 128), (0, 1)), ((6, 131), (0, 2)), ((6, 137), (1, 4)), ((6, 152), (1, 3)), ((6, 162), (1, 2)), ((6, 171), (5, 0)), ((6, 172), (5, 1)), ((6, 173), (5, 2)), ((6, 186), (2, 0)), ((6, 193), (4, 1)), ((6, 194), (4, 0)), ((7, 9), (7, 0)), ((7, 13), (7, 1)), ((7, 16), (7, 3)), ((7, 19), (7, 4)), ((7, 22), (7, 5)), ((7, 25), (7, 6)), ((7, 28), (7, 7)), ((7, 31), (7, 8)), ((7, 34), (7, 9)), ((7, 37), (7, 10)), ((7, 41), (7, 11)), ((7, 44), (7, 12)), ((7, 47), (7, 13)), ((7, 50), (7, 14)), ((7, 53), (7, 15)), ((7, 56), (7, 16)), ((7, 59), (7, 17)), ((7, 63), (7, 18)), ((7, 66), (7, 19)), ((7, 69), (7, 20)), ((7, 72), (7, 21)), ((7, 75), (7, 22)), ((7, 78), (7, 23)), ((7, 81), (7, 24)), ((7, 84), (7, 25)), ((7, 87), (7, 28)), ((7, 90), (7, 29)), ((7, 93), (7, 30)), ((7, 96), (7, 31)), ((7, 99), (7, 32)), ((7, 102), (7, 34)), ((7, 105), (7, 2)), ((7, 187), (7, 26)), ((7, 190), (7, 27)), ((7, 196), (7, 37)), ((7, 199), (7, 38)), ((7, 202), (7, 33)), ((7, 205), (7, 35)), ((7, 209), (7, 36)), ((7, 216), (7, 39))]
def fx_fd (o i : Nat) : Option (Nat × Nat) := (fx_fT.find? (fun e => e.1.1 == o && e.1.2 == i)).map (fun e => e.2)
def fx_sT : List ((Nat × Nat) × (Nat × String)) := [((6, 54), (90, "GREATEST_RULE"))]
def fx_sd (o i : Nat) : Option (Nat × String) := (fx_sT.find? (fun e => e.1.1 == o && e.1.2 == i)).map (fun e => e.2)
/-- static fields of the outermost: (class, pool entry), (kind, name) -/
def fx_nT : List ((Nat × Nat) × (Nat × String)) := [((0, 43), (91, "SIDE_ROWS")), ((0, 46), (92, "SIDE_COLUMNS")), ((3, 73), (91, "SIDE_ROWS")), ((3, 76), (92, "SIDE_COLUMNS"))]
def fx_nd (o i : Nat) : Option (Nat × String) := (fx_nT.find? (fun e => e.1.1 == o && e.1.2 == i)).map (fun e => e.2)
theorem fx_w14 : ∀ e ∈ fx_nT, Cond.fieldLinkNest (fx_cs e.1.1) e.1.2 "FoldDye" e.2.2 "[I" "FoldDye" ∈ lw_tbl := by
  have h : fx_nT.map (fun e => Cond.fieldLinkNest (fx_cs e.1.1) e.1.2 "FoldDye" e.2.2 "[I" "FoldDye") = [428, 430, 446, 447].filterMap (fun i => lw_tbl[i]?) := by decide +kernel
  intro e he
  have h1 : Cond.fieldLinkNest (fx_cs e.1.1) e.1.2 "FoldDye" e.2.2 "[I" "FoldDye" ∈ fx_nT.map (fun e => Cond.fieldLinkNest (fx_cs e.1.1) e.1.2 "FoldDye" e.2.2 "[I" "FoldDye") := List.mem_map.mpr ⟨e, he, rfl⟩
  rw [h] at h1
  obtain ⟨i, -, hi⟩ := List.mem_filterMap.mp h1
  exact List.mem_of_getElem? hi
def fx_kT : List ((Nat × Nat) × Int) := [((0, 75), 1000000), ((0, 76), -1000000), ((3, 49), 1000000), ((6, 218), 1000000), ((7, 136), 1000000), ((7, 137), -1000000), ((8, 265), 1431655765), ((8, 266), 858993459), ((8, 267), 252645135)]
def fx_kd (o i : Nat) : Option Int := (fx_kT.find? (fun e => e.1.1 == o && e.1.2 == i)).map (fun e => e.2)
set_option maxRecDepth 100000 in
theorem fx_w1_0 : ∀ w ∈ ([0, 1, 2, 3, 4, 5, 6, 7, 8, 9, 10, 11, 12, 13, 14] : List Nat).map (fun z => Cond.code (fx_nm z) (fx_by z) (fx_mL z) (fx_rt z)), w ∈ fx_tb := fx_sub [244, 576, 385, 323, 427, 369, 373, 311, 315, 319, 340, 327, 343, 330, 333] rfl rfl
set_option maxRecDepth 100000 in
theorem fx_w1_1 : ∀ w ∈ ([15, 16, 17, 18, 19, 20, 21, 22, 23, 24, 25, 26, 27, 28, 29] : List Nat).map (fun z => Cond.code (fx_nm z) (fx_by z) (fx_mL z) (fx_rt z)), w ∈ fx_tb := fx_sub [347, 248, 360, 381, 606, 610, 490, 494, 502, 529, 566, 570, 548, 552, 557] rfl rfl
set_option maxRecDepth 100000 in
theorem fx_w1_2 : ∀ w ∈ ([30, 31, 32, 33, 34, 35, 36, 37, 38, 39, 40, 41, 42, 43, 44] : List Nat).map (fun z => Cond.code (fx_nm z) (fx_by z) (fx_mL z) (fx_rt z)), w ∈ fx_tb := fx_sub [538, 418, 444, 422, 436, 440, 534, 588, 584, 562, 297, 303, 356, 365, 377] rfl rfl
set_option maxRecDepth 100000 in
theorem fx_w1_3 : ∀ w ∈ ([45, 46, 47, 48, 49, 50, 51, 52, 53, 54, 55, 56, 57, 58, 59] : List Nat).map (fun z => Cond.code (fx_nm z) (fx_by z) (fx_mL z) (fx_rt z)), w ∈ fx_tb := fx_sub [389, 399, 403, 410, 414, 457, 474, 478, 482, 486, 498, 506, 513, 517, 521] rfl rfl
set_option maxRecDepth 100000 in
theorem fx_w1_4 : ∀ w ∈ ([60, 61, 62, 63, 64, 65, 66, 67, 68, 69, 70, 71, 72, 73, 74] : List Nat).map (fun z => Cond.code (fx_nm z) (fx_by z) (fx_mL z) (fx_rt z)), w ∈ fx_tb := fx_sub [525, 593, 597, 601, 307, 392, 395, 406, 464, 461, 468, 451, 744, 760, 776] rfl rfl
set_option maxRecDepth 100000 in
theorem fx_w1_5 : ∀ w ∈ ([75, 76, 77, 78, 79, 80, 81, 82, 83, 84, 85, 86, 87, 88, 89] : List Nat).map (fun z => Cond.code (fx_nm z) (fx_by z) (fx_mL z) (fx_rt z)), w ∈ fx_tb := fx_sub [772, 748, 741, 752, 806, 784, 780, 788, 768, 792, 764, 756, 798, 802, 810] rfl rfl
set_option maxRecDepth 100000 in
theorem fx_w1_6 : ∀ w ∈ ([90, 91, 92, 93, 94, 95, 96, 97, 98, 99, 100, 101, 102, 103, 104] : List Nat).map (fun z => Cond.code (fx_nm z) (fx_by z) (fx_mL z) (fx_rt z)), w ∈ fx_tb := fx_sub [814, 818, 826, 822, 830, 846, 842, 850, 854, 838, 834, 866, 862, 858, 870] rfl rfl
set_option maxRecDepth 100000 in
theorem fx_w1_7 : ∀ w ∈ ([105, 106, 107, 108, 109, 110, 111, 112, 113, 114, 115, 116, 117, 118, 119] : List Nat).map (fun z => Cond.code (fx_nm z) (fx_by z) (fx_mL z) (fx_rt z)), w ∈ fx_tb := fx_sub [874, 878, 886, 882, 894, 890, 898, 902, 906, 914, 910, 946, 938, 950, 942] rfl rfl
set_option maxRecDepth 100000 in
theorem fx_w1_8 : ∀ w ∈ ([120, 121, 122, 123, 124, 125, 126, 127, 128, 129, 130, 131] : List Nat).map (fun z => Cond.code (fx_nm z) (fx_by z) (fx_mL z) (fx_rt z)), w ∈ fx_tb := fx_sub [934, 930, 930, 930, 926, 922, 918, 954, 958, 962, 541, 127] rfl rfl
theorem fx_w1 {z : Nat} (hz : z < fx_nM) : Cond.code (fx_nm z) (fx_by z) (fx_mL z) (fx_rt z) ∈ fx_tb := by
  have key : ∀ (l : List Nat), z ∈ l → (∀ w ∈ l.map (fun z => Cond.code (fx_nm z) (fx_by z) (fx_mL z) (fx_rt z)), w ∈ fx_tb) → Cond.code (fx_nm z) (fx_by z) (fx_mL z) (fx_rt z) ∈ fx_tb := fun l hl h => h _ (List.mem_map.mpr ⟨z, hl, rfl⟩)
  have hc : z ∈ ([0, 1, 2, 3, 4, 5, 6, 7, 8, 9, 10, 11, 12, 13, 14] : List Nat) ∨ z ∈ ([15, 16, 17, 18, 19, 20, 21, 22, 23, 24, 25, 26, 27, 28, 29] : List Nat) ∨ z ∈ ([30, 31, 32, 33, 34, 35, 36, 37, 38, 39, 40, 41, 42, 43, 44] : List Nat) ∨ z ∈ ([45, 46, 47, 48, 49, 50, 51, 52, 53, 54, 55, 56, 57, 58, 59] : List Nat) ∨ z ∈ ([60, 61, 62, 63, 64, 65, 66, 67, 68, 69, 70, 71, 72, 73, 74] : List Nat) ∨ z ∈ ([75, 76, 77, 78, 79, 80, 81, 82, 83, 84, 85, 86, 87, 88, 89] : List Nat) ∨ z ∈ ([90, 91, 92, 93, 94, 95, 96, 97, 98, 99, 100, 101, 102, 103, 104] : List Nat) ∨ z ∈ ([105, 106, 107, 108, 109, 110, 111, 112, 113, 114, 115, 116, 117, 118, 119] : List Nat) ∨ z ∈ ([120, 121, 122, 123, 124, 125, 126, 127, 128, 129, 130, 131] : List Nat) := by
    simp only [List.mem_cons, List.not_mem_nil, or_false]
    have : z < 132 := hz
    omega
  rcases hc with h | h | h | h | h | h | h | h | h
  · exact key _ h fx_w1_0
  · exact key _ h fx_w1_1
  · exact key _ h fx_w1_2
  · exact key _ h fx_w1_3
  · exact key _ h fx_w1_4
  · exact key _ h fx_w1_5
  · exact key _ h fx_w1_6
  · exact key _ h fx_w1_7
  · exact key _ h fx_w1_8
theorem fx_w2 : ∀ w ∈ (List.range fx_nM).map (fun z => Cond.initialized (fx_nm z).cls), w ∈ fx_tb := fx_sub [55, 55, 55, 55, 55, 55, 55, 55, 55, 55, 55, 55, 55, 55, 55, 55, 55, 57, 57, 57, 57, 57, 57, 57, 52, 52, 52, 52, 52, 52, 52, 50, 50, 50, 50, 50, 53, 53, 53, 53, 49, 49, 49, 49, 49, 49, 49, 49, 49, 49, 49, 49, 49, 49, 49, 49, 49, 49, 49, 49, 49, 49, 49, 49, 49, 49, 49, 49, 49, 49, 49, 49, 56, 56, 56, 56, 56, 56, 56, 56, 56, 56, 56, 56, 56, 56, 56, 56, 56, 56, 56, 56, 56, 56, 56, 56, 56, 56, 56, 56, 56, 56, 56, 56, 56, 56, 56, 56, 56, 56, 56, 56, 56, 56, 56, 56, 56, 56, 56, 56, 56, 56, 56, 56, 56, 56, 56, 56, 56, 56, 59, 54] (by decide +kernel) (by decide +kernel)
def fx_iM : List Nat := [0, 1, 2, 3, 4, 5, 6, 7, 8, 9, 10, 11, 15, 16, 17, 18, 19, 20, 21, 22, 23, 24, 25, 26, 27, 28, 29, 30, 31, 32, 33, 34, 35, 36, 37, 38, 39, 40, 41, 42, 43, 44, 45, 46, 47, 48, 49, 50, 51, 52, 53, 54, 55, 56, 57, 58, 59, 60, 61, 62, 63, 64, 69, 70, 71, 73, 74, 75, 76, 77, 78, 79, 80, 81, 82, 83, 84, 85, 86, 87, 88, 89, 90, 91, 92, 93, 94, 95, 96, 97, 98, 99, 100, 101, 102, 103, 104, 105, 106, 107, 108, 109, 110, 111, 112, 113, 114, 115, 116, 117, 118, 119, 120, 121, 122, 123, 124, 125, 126, 127, 128, 129]
def fx_tM : List Nat := [12, 13, 14, 65, 66, 67, 68, 72, 130, 131]
theorem fx_w3 : ∀ w ∈ fx_iM.map (fun z => Cond.instanceMethod (fx_nm z)), w ∈ fx_tb := fx_sub [242, 574, 383, 321, 425, 367, 371, 309, 313, 317, 338, 326, 346, 247, 358, 379, 604, 609, 488, 493, 500, 527, 565, 569, 547, 551, 556, 537, 416, 442, 421, 435, 439, 532, 586, 582, 560, 295, 301, 354, 363, 375, 387, 397, 401, 408, 412, 455, 472, 476, 480, 484, 496, 504, 511, 515, 519, 523, 591, 595, 599, 306, 460, 467, 450, 759, 775, 771, 747, 739, 750, 805, 783, 779, 787, 767, 791, 763, 754, 796, 800, 808, 812, 816, 825, 820, 828, 845, 841, 849, 853, 837, 832, 865, 861, 856, 868, 872, 876, 885, 880, 893, 888, 896, 900, 904, 913, 908, 945, 937, 949, 941, 933, 929, 929, 929, 925, 921, 916, 952, 956, 960] (by decide +kernel) (by decide +kernel)
theorem fx_w4 : ∀ w ∈ fx_iM.map (fun z => Cond.selects (fx_nm z).cls (fx_nm z) (fx_nm z)), w ∈ fx_tb := fx_sub [243, 575, 384, 322, 426, 368, 372, 310, 314, 318, 339, 2, 3, 0, 359, 380, 605, 17, 489, 10, 501, 528, 15, 16, 12, 13, 14, 11, 417, 443, 4, 5, 6, 533, 587, 583, 561, 296, 302, 355, 364, 376, 388, 398, 402, 409, 413, 456, 473, 477, 481, 485, 497, 505, 512, 516, 520, 524, 592, 596, 600, 1, 8, 9, 7, 19, 23, 22, 18, 740, 751, 28, 25, 24, 26, 21, 27, 20, 755, 797, 801, 809, 813, 817, 29, 821, 829, 32, 31, 33, 34, 30, 833, 36, 35, 857, 869, 873, 877, 37, 881, 38, 889, 897, 901, 905, 39, 909, 46, 44, 47, 45, 43, 42, 42, 42, 41, 40, 917, 953, 957, 961] (by decide +kernel) (by decide +kernel)
theorem fx_w5 : ∀ w ∈ fx_tM.map (fun z => Cond.static (fx_nm z)), w ∈ fx_tb := fx_sub [342, 329, 332, 391, 394, 405, 463, 743, 540, 126] (by decide +kernel) (by decide +kernel)
theorem fx_w6 : ∀ w ∈ fx_cT.map (fun e => Cond.methodLink (fx_cs (fx_own e.1.1)) e.1.2 (fx_nm e.2.1)), w ∈ fx_tb := fx_sub [245, 320, 320, 324, 245, 320, 324, 341, 328, 331, 344, 320, 328, 331, 249, 382, 607, 491, 530, 531, 535, 545, 563, 545, 567, 571, 572, 573, 580, 581, 549, 553, 554, 553, 535, 559, 539, 419, 433, 423, 423, 424, 423, 437, 441, 125, 304, 308, 312, 316, 337, 304, 357, 361, 304, 366, 370, 304, 378, 304, 390, 304, 390, 304, 404, 304, 357, 304, 390, 415, 448, 458, 458, 304, 304, 390, 304, 487, 304, 499, 304, 304, 390, 415, 448, 393, 462, 526, 585, 462, 526, 304, 602, 603, 393, 304, 415, 448, 462, 465, 452, 742, 745, 742, 769, 773, 781, 773, 781, 769, 773, 781, 777, 785, 769, 773, 742, 757, 761, 765, 789, 745, 757, 757, 803, 757, 803, 773, 757, 773, 757, 757, 823, 757, 742, 839, 839, 843, 769, 773, 803, 839, 843, 847, 851, 773, 757, 835, 742, 769, 773, 757, 835, 863, 859, 859, 757, 773, 757, 742, 757, 883, 883, 742, 757, 891, 757, 883, 773, 757, 835, 742, 742, 911, 835, 863, 911, 745, 761, 765, 789, 943, 823, 935, 939, 931, 927, 931, 927, 931, 927, 947, 742, 919, 923, 919, 923, 742] (by decide +kernel) (by decide +kernel)
theorem fx_w7 : ∀ w ∈ fx_fT.map (fun e => Cond.fieldLink (fx_cs e.1.1) e.1.2 (((fx_cl.getD e.2.1 (RX0, TX0, 7)).2.1 e.2.2).1) (((fx_cl.getD e.2.1 (RX0, TX0, 7)).2.1 e.2.2).2.1) (((fx_cl.getD e.2.1 (RX0, TX0, 7)).2.1 e.2.2).2.2.1)), w ∈ fx_tb := fx_sub [152, 154, 158, 143, 146, 149, 151, 264, 266, 268, 270, 250, 252, 254, 256, 258, 261, 177, 179, 180, 181, 182, 183, 184, 185, 186, 98, 101, 153, 104, 156, 160, 144, 147, 77, 78, 79, 80, 262, 259, 155, 159, 128, 130, 97, 100, 103, 208, 209, 210, 211, 212, 213, 214, 263, 265, 267, 271, 269, 251, 253, 157, 161, 145, 148, 150, 260, 257, 255, 99, 102, 105, 178, 131, 129, 617, 618, 620, 621, 622, 623, 624, 625, 626, 627, 628, 629, 630, 631, 632, 633, 634, 635, 636, 637, 638, 639, 640, 641, 642, 645, 646, 647, 648, 649, 651, 619, 643, 644, 654, 655, 650, 652, 653, 656] (by decide +kernel) (by decide +kernel)
theorem fx_w8 : ∀ w ∈ fx_sT.map (fun e => Cond.fieldLink (fx_cs e.1.1) e.1.2 "FoldDye" e.2.2 "[I"), w ∈ fx_tb := fx_sub [298] (by decide +kernel) (by decide +kernel)
theorem fx_w9 : ∀ w ∈ fx_kT.map (fun e => Cond.constant (fx_cs e.1.1) e.1.2 (Int32.ofInt e.2)), w ∈ fx_tb := fx_sub [348, 349, 432, 453, 793, 794, 542, 543, 544] (by decide +kernel) (by decide +kernel)
theorem fx_w10 : ∀ w ∈ fx_aT.map (fun e => Cond.methodLink (fx_cs (fx_own e.1)) e.2 arraycopyName), w ∈ fx_tb := fx_sub [577, 589] (by decide +kernel) (by decide +kernel)
def fx_mn (k : Nat) : MethodName := if k = 0 then Lib.Math.max.name else if k = 1 then Lib.Math.min.name else Lib.Math.abs.name
theorem fx_w16 : ∀ w ∈ fx_pT.map (fun e => Cond.methodLink (fx_cs (fx_own e.1.1)) e.1.2 (fx_mn e.2)), w ∈ fx_tb := fx_sub [334, 334, 334, 350, 558, 445, 507, 470, 469, 469] (by decide +kernel) (by decide +kernel)
theorem fx_w17 : ∀ w ∈ [Cond.static Lib.Math.max.name, Cond.static Lib.Math.min.name, Cond.static Lib.Math.abs.name, Cond.initialized "java/lang/Math"], w ∈ fx_tb := fx_sub [335, 351, 508, 58] (by decide +kernel) (by decide +kernel)
theorem fx_w18 : ∀ w ∈ [Cond.code Lib.Math.max.name Lib.Math.max.code 2 (some .int), Cond.code Lib.Math.min.name Lib.Math.min.code 2 (some .int), Cond.code Lib.Math.abs.name Lib.Math.abs.code 1 (some .int)], w ∈ fx_tb := fx_sub [336, 352, 509] (by decide +kernel) (by decide +kernel)
theorem fx_w19 : ∀ e ∈ fx_pT, e.2 < 3 := by decide +kernel
theorem fx_w11 : ∀ w ∈ [Cond.native arraycopyName, Cond.static arraycopyName, Cond.initialized "java/lang/System", Cond.initialized "FoldDye"], w ∈ fx_tb := fx_sub [579, 578, 60, 49] (by decide +kernel) (by decide +kernel)
theorem fx_w15 : Cond.laysStatic "FoldDye" "GREATEST_RULE" "[I" ∈ lw_tbl ∧ Cond.laysStatic "FoldDye" "SIDE_ROWS" "[I" ∈ lw_tbl ∧ Cond.laysStatic "FoldDye" "SIDE_COLUMNS" "[I" ∈ lw_tbl := ⟨List.mem_of_getElem? (i := 299) (by decide +kernel), List.mem_of_getElem? (i := 429) (by decide +kernel), List.mem_of_getElem? (i := 431) (by decide +kernel)⟩
theorem fx_w12 : ∀ e ∈ fx_cT, fx_lv e.2.1 < fx_lv e.1.1 ∧ fx_mL e.2.1 ≤ 20 ∧ Jvm.plainName (fx_nm e.2.1).cls = true ∧ (parseMethodDescriptor (fx_nm e.2.1).desc).map (fun d => d.parameters.length) = some e.2.2.1 ∧ (fx_nm e.2.1).cls ≠ "java/lang/invoke/MethodHandle" ∧ (fx_nm e.2.1).cls ≠ "java/lang/invoke/VarHandle" ∧ e.2.1 < fx_nM ∧ e.2.1 ∈ (if e.2.2.2 = 0 then fx_iM else fx_tM) ∧ e.2.2.2 < 2 := by decide +kernel
theorem fx_w13 : ∀ y, y < fx_nM → (fx_nm y).cls = fx_cs (fx_own y) ∧ Jvm.plainName (fx_nm y).cls = true ∧ fx_mL y ≤ 20 := by decide +kernel
end
section
/-! the shadow machine: the methods' bytecode over a memory of whole numbers, cells named by a kind and a group -/
abbrev fx_V : Type := Int ⊕ Option (Nat × Nat)
abbrev fx_M : Type := Nat → Nat → Nat → Int
abbrev fx_L : Type := List (Option fx_V)
abbrev fx_Z : Type := Nat × Nat × fx_L × List fx_V × fx_M
abbrev fx_R : Type := Option fx_V × fx_M
abbrev fx_Sh : Type := (Nat → Nat → Nat) × Nat
abbrev fx_O : Type := fx_Z ⊕ fx_R ⊕ (fx_Z × (fx_R → fx_Z)) ⊕ Unit
def fx_up (σ : fx_M) (o g i : Nat) (v : Int) : fx_M := fun o' g' i' => if o' = o ∧ g' = g ∧ i' = i then v else σ o' g' i'
abbrev fx_in (x : Int) : Prop := -2147483648 ≤ x ∧ x ≤ 2147483647
/-- objects: the number of the class, and of each field none (a number) or the cell that it holds -/
def fx_ob (o : Nat) : Option (Nat × List (Option (Nat → Nat × Nat))) :=
  if o = 0 then some (6, [some (fun _ => (1, 0)), some (fun _ => (2, 0)), none, some (fun _ => (3, 0)), some (fun _ => (6, 0)), some (fun _ => (7, 0)), some (fun _ => (10, 1))])
  else if o = 3 then some (3, [some (fun _ => (4, 0)), some (fun _ => (5, 0)), none, none])
  else if o = 6 then some (5, [none, none, none])
  else if o = 7 then some (2, [some (fun _ => (10, 0)), some (fun _ => (15, 6)), some (fun _ => (15, 7)), some (fun _ => (15, 8)), some (fun _ => (8, 0)), some (fun _ => (9, 0)), none, none, none])
  else if o = 10 then some (4, [some (fun g => (11, g)), none])
  else if o = 12 then some (1, [none, none, none, some (fun g => (13, g)), some (fun g => (14, g)), some (fun g => (15, g)), none, none, none, none])
  else if o = 15 then some (0, [some (fun g => (16, g)), some (fun g => (17, g)), some (fun g => (18, g)), some (fun g => (19, g)), none, none, none])
  else if o = 20 then some (7, [some (fun _ => (30, 0)), some (fun _ => (31, 0)), none, some (fun _ => (33, 0)), some (fun _ => (34, 0)), some (fun _ => (35, 0)), some (fun _ => (36, 0)), some (fun _ => (37, 0)), some (fun _ => (38, 0)), some (fun _ => (39, 0)), some (fun _ => (40, 0)), some (fun _ => (41, 0)), some (fun _ => (42, 0)), some (fun _ => (43, 0)), some (fun _ => (44, 0)), some (fun _ => (45, 0)), some (fun _ => (46, 0)), none, none, none, some (fun _ => (50, 0)), some (fun _ => (51, 0)), some (fun _ => (52, 0)), some (fun _ => (53, 0)), some (fun _ => (54, 0)), some (fun _ => (55, 0)), none, none, some (fun _ => (58, 0)), some (fun _ => (59, 0)), some (fun _ => (60, 0)), some (fun _ => (61, 0)), some (fun _ => (62, 0)), none, some (fun _ => (64, 0)), none, none, none, none, none])
  else none
/-- arrays: 0 no array, 1 of int, 2 of boolean, 3 of references, 4 a static one -/
def fx_ak (o : Nat) : Nat :=
  if o = 0 ∨ o = 3 ∨ o = 6 ∨ o = 7 ∨ o = 10 ∨ o = 12 ∨ o = 15 ∨ o = 20 then 0
  else if o = 14 ∨ o = 40 ∨ o = 58 then 2
  else if o = 2 then 3
  else if o = 90 ∨ o = 91 ∨ o = 92 then 4
  else 1
def fx_sv (o : Nat) : List Int := if o = 90 then [9, 9, 20] else if o = 91 then [-1, 1, 0, 0] else [0, 0, -1, 1]
def fx_nx (y pc : Nat) (ls : fx_L) (st : List fx_V) (σ : fx_M) : fx_O := .inl (y, pc, ls, st, σ)
def fx_no : fx_O := .inr (.inr (.inr ()))
def fx_rt1 (r : fx_R) : fx_O := .inr (.inl r)
def fx_cl1 (z : fx_Z) (k : fx_R → fx_Z) : fx_O := .inr (.inr (.inl (z, k)))
def fx_jp (y pc : Nat) (off : Int) (ls : fx_L) (st : List fx_V) (σ : fx_M) : fx_O := if 0 ≤ (pc : Int) + off then .inl (y, ((pc : Int) + off).toNat, ls, st, σ) else fx_no
def fx_cm (c : ClassFile.Cond) (a b : Int) : Bool := match c with
  | .eq => decide (a = b)
  | .ne => decide (a ≠ b)
  | .lt => decide (a < b)
  | .ge => decide (b ≤ a)
  | .gt => decide (b < a)
  | .le => decide (a ≤ b)
def fx_pu (n m : Nat) (len y pc : Nat) (ls : fx_L) (st : List fx_V) (σ : fx_M) (v : Int) : fx_O := if len = m then fx_nx y (pc + n) ls (.inl v :: st) σ else fx_no
def fx_ldi (n k len y pc : Nat) (ls : fx_L) (st : List fx_V) (σ : fx_M) : fx_O := match ls[k]? with
  | some (some (.inl x)) => if len = n then fx_nx y (pc + n) ls (.inl x :: st) σ else fx_no
  | _ => fx_no
def fx_lda (n k len y pc : Nat) (ls : fx_L) (st : List fx_V) (σ : fx_M) : fx_O := match ls[k]? with
  | some (some (.inr x)) => if len = n then fx_nx y (pc + n) ls (.inr x :: st) σ else fx_no
  | _ => fx_no
def fx_sti (n k len y pc : Nat) (ls : fx_L) (st : List fx_V) (σ : fx_M) : fx_O := match st with
  | .inl x :: st => if len = n ∧ k < ls.length then fx_nx y (pc + n) (ls.set k (some (.inl x))) st σ else fx_no
  | _ => fx_no
def fx_sta (n k len y pc : Nat) (ls : fx_L) (st : List fx_V) (σ : fx_M) : fx_O := match st with
  | .inr x :: st => if len = n ∧ k < ls.length then fx_nx y (pc + n) (ls.set k (some (.inr x))) st σ else fx_no
  | _ => fx_no
def fx_inc (k : Nat) (n : Int) (len y pc : Nat) (ls : fx_L) (st : List fx_V) (σ : fx_M) : fx_O := match ls[k]? with
  | some (some (.inl x)) => if len = 3 then fx_nx y (pc + 3) (ls.set k (some (.inl (x + n)))) st σ else fx_no
  | _ => fx_no
def fx_bin (f : Int → Int → Int) (ok : Int → Int → Bool) (len y pc : Nat) (ls : fx_L) (st : List fx_V) (σ : fx_M) : fx_O := match st with
  | .inl b :: .inl a :: st => if len = 1 ∧ ok a b = true then fx_nx y (pc + 1) ls (.inl (f a b) :: st) σ else fx_no
  | _ => fx_no
def fx_neg (len y pc : Nat) (ls : fx_L) (st : List fx_V) (σ : fx_M) : fx_O := match st with
  | .inl a :: st => if len = 1 then fx_nx y (pc + 1) ls (.inl (-a) :: st) σ else fx_no
  | _ => fx_no
def fx_dup (len y pc : Nat) (ls : fx_L) (st : List fx_V) (σ : fx_M) : fx_O := match st with
  | v :: st => if len = 1 then fx_nx y (pc + 1) ls (v :: v :: st) σ else fx_no
  | _ => fx_no
def fx_dup2 (len y pc : Nat) (ls : fx_L) (st : List fx_V) (σ : fx_M) : fx_O := match st with
  | v :: w :: st => if len = 1 then fx_nx y (pc + 1) ls (v :: w :: v :: w :: st) σ else fx_no
  | _ => fx_no
def fx_if1 (c : ClassFile.Cond) (off : Int) (len y pc : Nat) (ls : fx_L) (st : List fx_V) (σ : fx_M) : fx_O := match st with
  | .inl a :: st => if len = 3 ∧ fx_in a ∧ 0 ≤ (pc : Int) + off then (if fx_cm c a 0 = true then fx_nx y ((pc : Int) + off).toNat ls st σ else fx_nx y (pc + 3) ls st σ) else fx_no
  | _ => fx_no
def fx_if2 (c : ClassFile.Cond) (off : Int) (len y pc : Nat) (ls : fx_L) (st : List fx_V) (σ : fx_M) : fx_O := match st with
  | .inl b :: .inl a :: st => if len = 3 ∧ fx_in a ∧ fx_in b ∧ 0 ≤ (pc : Int) + off then (if fx_cm c a b = true then fx_nx y ((pc : Int) + off).toNat ls st σ else fx_nx y (pc + 3) ls st σ) else fx_no
  | _ => fx_no
def fx_ifn (pos : Bool) (off : Int) (len y pc : Nat) (ls : fx_L) (st : List fx_V) (σ : fx_M) : fx_O := match st with
  | .inr q :: st => if len = 3 then (if q.isNone = pos then fx_jp y pc off ls st σ else fx_nx y (pc + 3) ls st σ) else fx_no
  | _ => fx_no
def fx_tsw (d lo hi : Int) (offs : Array Int) (y pc : Nat) (ls : fx_L) (st : List fx_V) (σ : fx_M) : fx_O := match st with
  | .inl x :: st => if fx_in x then (if x < lo ∨ hi < x then fx_jp y pc d ls st σ else match offs[(x - lo).toNat]? with
    | some off => fx_jp y pc off ls st σ
    | none => fx_no) else fx_no
  | _ => fx_no
def fx_gf (i len y pc : Nat) (ls : fx_L) (st : List fx_V) (σ : fx_M) : fx_O := match st with
  | .inr (some (o, g)) :: st => (match fx_fd (fx_own y) i, fx_ob o with
    | some (ci, k), some (cj, fl) => if len = 3 ∧ ci = cj then (match fl[k]? with
      | some none => fx_nx y (pc + 3) ls (.inl (σ o g k) :: st) σ
      | some (some f) => fx_nx y (pc + 3) ls (.inr (some (f g)) :: st) σ
      | none => fx_no) else fx_no
    | _, _ => fx_no)
  | _ => fx_no
/-- may a number be put there: no final field; a boolean is 0 or 1 -/
def fx_okf (ci k : Nat) (v : Int) : Bool := !((fx_cl.getD ci (RX0, TX0, 7)).2.1 k).2.2.2 && (((fx_cl.getD ci (RX0, TX0, 7)).2.1 k).2.2.1 == "I" || (((fx_cl.getD ci (RX0, TX0, 7)).2.1 k).2.2.1 == "Z" && (v == 0 || v == 1)))
def fx_pf (i len y pc : Nat) (ls : fx_L) (st : List fx_V) (σ : fx_M) : fx_O := match st with
  | .inl v :: .inr (some (o, g)) :: st => (match fx_fd (fx_own y) i, fx_ob o with
    | some (ci, k), some (cj, fl) => if len = 3 ∧ ci = cj ∧ fl[k]?.isSome = true ∧ (fl[k]?.getD none).isNone = true ∧ fx_okf ci k v = true then fx_nx y (pc + 3) ls st (fx_up σ o g k v) else fx_no
    | _, _ => fx_no)
  | _ => fx_no
def fx_gs (i len y pc : Nat) (ls : fx_L) (st : List fx_V) (σ : fx_M) : fx_O := match fx_sd (fx_own y) i with
  | some (o, _) => if len = 3 then fx_nx y (pc + 3) ls (.inr (some (o, 0)) :: st) σ else fx_no
  | none => match fx_nd (fx_own y) i with
    | some (o, _) => if len = 3 then fx_nx y (pc + 3) ls (.inr (some (o, 0)) :: st) σ else fx_no
    | none => fx_no
def fx_ld (S : fx_Sh) (ks : Nat) (len y pc : Nat) (ls : fx_L) (st : List fx_V) (σ : fx_M) : fx_O := match st with
  | .inl i :: .inr (some (o, g)) :: st => if len = 1 ∧ 0 ≤ i then (
      if fx_ak o = ks ∧ i < S.1 o g then fx_nx y (pc + 1) ls (.inl (σ o g i.toNat) :: st) σ
      else if ks = 1 ∧ fx_ak o = 4 ∧ i < (fx_sv o).length then fx_nx y (pc + 1) ls (.inl ((fx_sv o).getD i.toNat 0) :: st) σ
      else fx_no) else fx_no
  | _ => fx_no
def fx_ast (S : fx_Sh) (ks : Nat) (len y pc : Nat) (ls : fx_L) (st : List fx_V) (σ : fx_M) : fx_O := match st with
  | .inl v :: .inl i :: .inr (some (o, g)) :: st => if len = 1 ∧ 0 ≤ i ∧ fx_ak o = ks ∧ i < S.1 o g ∧ (ks = 1 ∨ v = 0 ∨ v = 1) then fx_nx y (pc + 1) ls st (fx_up σ o g i.toNat v) else fx_no
  | _ => fx_no
def fx_lda2 (S : fx_Sh) (len y pc : Nat) (ls : fx_L) (st : List fx_V) (σ : fx_M) : fx_O := match st with
  | .inl i :: .inr (some (o, g)) :: st => if len = 1 ∧ 0 ≤ i ∧ o = 2 ∧ g = 0 ∧ i < S.1 2 0 then fx_nx y (pc + 1) ls (.inr (if i.toNat < S.2 then some (12, i.toNat) else none) :: st) σ else fx_no
  | _ => fx_no
def fx_len (S : fx_Sh) (len y pc : Nat) (ls : fx_L) (st : List fx_V) (σ : fx_M) : fx_O := match st with
  | .inr (some (o, g)) :: st => if len = 1 then (if fx_ak o = 1 ∨ fx_ak o = 2 then fx_nx y (pc + 1) ls (.inl (S.1 o g) :: st) σ else if fx_ak o = 4 then fx_nx y (pc + 1) ls (.inl (fx_sv o).length :: st) σ else fx_no) else fx_no
  | _ => fx_no
def fx_ent (z : Nat) (as : List fx_V) : fx_L := as.map some ++ List.replicate (fx_mL z - as.length) none
def fx_iv (i len y pc : Nat) (ls : fx_L) (st : List fx_V) (σ : fx_M) : fx_O := match fx_ca y i with
  | some (z, n, 0) => (match st.drop n with
    | .inr (some (o, g)) :: rest => if len = 3 ∧ (fx_ob o).map (fun q => q.1) = some (fx_own z) ∧ (st.take n).length = n ∧ rest.length ≤ 8 ∧ n + 1 ≤ fx_mL z then fx_cl1 (z, 0, fx_ent z (.inr (some (o, g)) :: (st.take n).reverse), [], σ) (fun r => (y, pc + 3, ls, r.1.toList ++ rest, r.2)) else fx_no
    | _ => fx_no)
  | _ => fx_no
def fx_is (S : fx_Sh) (i len y pc : Nat) (ls : fx_L) (st : List fx_V) (σ : fx_M) : fx_O := match fx_ca y i with
  | some (z, n, 1) => if len = 3 ∧ (st.take n).length = n ∧ (st.drop n).length ≤ 8 ∧ n ≤ fx_mL z then fx_cl1 (z, 0, fx_ent z (st.take n).reverse, [], σ) (fun r => (y, pc + 3, ls, r.1.toList ++ st.drop n, r.2)) else fx_no
  | _ => match fx_pd y i, st with
    | some 0, .inl b :: .inl a :: st => if len = 3 ∧ fx_in a ∧ fx_in b ∧ st.length ≤ 8 then fx_nx y (pc + 3) ls (.inl (if a < b then b else a) :: st) σ else fx_no
    | some 1, .inl b :: .inl a :: st => if len = 3 ∧ fx_in a ∧ fx_in b ∧ st.length ≤ 8 then fx_nx y (pc + 3) ls (.inl (if b < a then b else a) :: st) σ else fx_no
    | some 2, .inl a :: st => if len = 3 ∧ fx_in a ∧ st.length ≤ 8 then fx_nx y (pc + 3) ls (.inl (if 0 ≤ a then a else -a) :: st) σ else fx_no
    | none, .inl n :: .inl dp :: .inr (some (o1, g1)) :: .inl sp :: .inr (some (o0, g0)) :: st => if (y, i) ∈ fx_aT ∧ len = 3 ∧ fx_ak o0 = 1 ∧ fx_ak o1 = 1 ∧ 0 ≤ n ∧ 0 ≤ dp ∧ 0 ≤ sp ∧ sp + n ≤ S.1 o0 g0 ∧ dp + n ≤ S.1 o1 g1 ∧ st.length ≤ 8 then
        fx_nx y (pc + 3) ls st (fun o g k => if o = o1 ∧ g = g1 ∧ dp.toNat ≤ k ∧ k < dp.toNat + n.toNat then σ o0 g0 (sp.toNat + (k - dp.toNat)) else σ o g k) else fx_no
    | _, _ => fx_no
def fx_ret (len y : Nat) (st : List fx_V) (σ : fx_M) : fx_O := match st with
  | [.inl v] => if len = 1 ∧ (fx_rt y = some .int ∨ (fx_rt y = some .boolean ∧ (v = 0 ∨ v = 1))) then fx_rt1 (some (.inl v), σ) else fx_no
  | _ => fx_no
def fx_rea (len y : Nat) (st : List fx_V) (σ : fx_M) : fx_O := match st with
  | [.inr v] => if len = 1 ∧ fx_rt y = some (.object "FoldDye$Cloth") then fx_rt1 (some (.inr v), σ) else fx_no
  | _ => fx_no
def fx_rev (len y : Nat) (st : List fx_V) (σ : fx_M) : fx_O := match st with
  | [] => if len = 1 ∧ fx_rt y = none then fx_rt1 (none, σ) else fx_no
  | _ => fx_no
def fx_ex (S : fx_Sh) (y pc : Nat) (ls : fx_L) (st : List fx_V) (σ : fx_M) (i : Instr) (len : Nat) : fx_O := match i with
  | .iconst n => fx_pu 1 1 len y pc ls st σ n
  | .bipush n => if (Int8.ofInt n).toInt32 = Int32.ofInt n then fx_pu 2 2 len y pc ls st σ n else fx_no
  | .sipush n => if (Int16.ofInt n).toInt32 = Int32.ofInt n then fx_pu 3 3 len y pc ls st σ n else fx_no
  | .ldc k => (match fx_kd (fx_own y) k with
    | some n => fx_pu 2 2 len y pc ls st σ n
    | none => fx_no)
  | .ldc_w k => (match fx_kd (fx_own y) k with
    | some n => fx_pu 3 3 len y pc ls st σ n
    | none => fx_no)
  | .aconst_null => if len = 1 then fx_nx y (pc + 1) ls (.inr none :: st) σ else fx_no
  | .iload_n k => fx_ldi 1 k.val len y pc ls st σ
  | .iload k => fx_ldi 2 k len y pc ls st σ
  | .aload_n k => fx_lda 1 k.val len y pc ls st σ
  | .aload k => fx_lda 2 k len y pc ls st σ
  | .istore_n k => fx_sti 1 k.val len y pc ls st σ
  | .istore k => fx_sti 2 k len y pc ls st σ
  | .astore_n k => fx_sta 1 k.val len y pc ls st σ
  | .astore k => fx_sta 2 k len y pc ls st σ
  | .iinc k n => fx_inc k n len y pc ls st σ
  | .iadd => fx_bin (fun a b => a + b) (fun _ _ => true) len y pc ls st σ
  | .isub => fx_bin (fun a b => a - b) (fun _ _ => true) len y pc ls st σ
  | .imul => fx_bin (fun a b => a * b) (fun _ _ => true) len y pc ls st σ
  | .idiv => fx_bin (fun a b => a.tdiv b) (fun a b => decide (fx_in a ∧ 0 < b ∧ b ≤ 2147483647)) len y pc ls st σ
  | .irem => fx_bin (fun a b => a.tmod b) (fun a b => decide (fx_in a ∧ 0 < b ∧ b ≤ 2147483647)) len y pc ls st σ
  | .iand => fx_bin (fun a b => (Int32.ofInt a &&& Int32.ofInt b).toInt) (fun _ _ => true) len y pc ls st σ
  | .ior => fx_bin (fun a b => (Int32.ofInt a ||| Int32.ofInt b).toInt) (fun _ _ => true) len y pc ls st σ
  | .ixor => fx_bin (fun a b => (Int32.ofInt a ^^^ Int32.ofInt b).toInt) (fun _ _ => true) len y pc ls st σ
  | .ishl => fx_bin (fun a b => (Int32.ofInt a <<< (Int32.ofInt b &&& 31)).toInt) (fun _ _ => true) len y pc ls st σ
  | .ishr => fx_bin (fun a b => (Int32.ofInt a >>> (Int32.ofInt b &&& 31)).toInt) (fun _ _ => true) len y pc ls st σ
  | .iushr => fx_bin (fun a b => ((Int32.ofInt a).toUInt32 >>> ((Int32.ofInt b).toUInt32 &&& Int32.toUInt32 31)).toInt32.toInt) (fun _ _ => true) len y pc ls st σ
  | .ineg => fx_neg len y pc ls st σ
  | .dup => fx_dup len y pc ls st σ
  | .dup2 => fx_dup2 len y pc ls st σ
  | .ifCond c off => fx_if1 c off len y pc ls st σ
  | .if_icmp c off => fx_if2 c off len y pc ls st σ
  | .goto off => if len = 3 then fx_jp y pc off ls st σ else fx_no
  | .ifnull off => fx_ifn true off len y pc ls st σ
  | .ifnonnull off => fx_ifn false off len y pc ls st σ
  | .tableswitch d lo hi offs => fx_tsw d lo hi offs y pc ls st σ
  | .getfield k => fx_gf k len y pc ls st σ
  | .putfield k => fx_pf k len y pc ls st σ
  | .getstatic k => fx_gs k len y pc ls st σ
  | .iaload => fx_ld S 1 len y pc ls st σ
  | .baload => fx_ld S 2 len y pc ls st σ
  | .iastore => fx_ast S 1 len y pc ls st σ
  | .bastore => fx_ast S 2 len y pc ls st σ
  | .aaload => fx_lda2 S len y pc ls st σ
  | .arraylength => fx_len S len y pc ls st σ
  | .invokevirtual k => fx_iv k len y pc ls st σ
  | .invokestatic k => fx_is S k len y pc ls st σ
  | .ireturn => fx_ret len y st σ
  | .areturn => fx_rea len y st σ
  | .return_ => fx_rev len y st σ
  | _ => fx_no
def fx_st (S : fx_Sh) (s : fx_Z) : fx_O := match decode (fx_by s.1) s.2.1 with
  | .ok (i, len) => fx_ex S s.1 s.2.1 s.2.2.1 s.2.2.2.1 s.2.2.2.2 i len
  | .error _ => fx_no
/-- what an outcome gives, by 'f' -/
def fx_go (f : fx_Z → Option fx_R) (q : fx_O) : Option fx_R := match q with
  | .inl s => f s
  | .inr (.inl r) => some r
  | .inr (.inr (.inl (s, k))) => (f s).bind (fun r => f (k r))
  | .inr (.inr (.inr _)) => none
def fx_run (S : fx_Sh) : Nat → fx_Z → Option fx_R
  | 0, _ => none
  | n + 1, s => fx_go (fx_run S n) (fx_st S s)
theorem fx_go_mono {f g : fx_Z → Option fx_R} (h : ∀ s r, f s = some r → g s = some r) (q : fx_O) (r : fx_R) (hq : fx_go f q = some r) : fx_go g q = some r := by
  rcases q with s | r' | ⟨s, k⟩ | u
  · exact h s r hq
  · exact hq
  · simp only [fx_go] at hq ⊢
    cases hf : f s with
    | none => rw [hf] at hq; simp at hq
    | some r1 =>
      rw [hf] at hq
      rw [h s r1 hf]
      exact h _ _ hq
  · simp [fx_go] at hq
theorem fx_run_mono1 (S : fx_Sh) (n : Nat) : ∀ s r, fx_run S n s = some r → fx_run S (n + 1) s = some r := by
  induction n with
  | zero => intro s r h; simp [fx_run] at h
  | succ n ih => intro s r h; exact fx_go_mono ih _ _ h
theorem fx_run_mono (S : fx_Sh) {n m : Nat} (h : n ≤ m) (s : fx_Z) (r : fx_R) (hr : fx_run S n s = some r) : fx_run S m s = some r := by
  induction h with
  | refl => exact hr
  | step _ ih => exact fx_run_mono1 S _ s r ih
theorem fx_run_det (S : fx_Sh) {n m : Nat} {s : fx_Z} {r r' : fx_R} (h : fx_run S n s = some r) (h' : fx_run S m s = some r') : r = r' := by
  rcases Nat.le_total n m with q | q
  · exact Option.some.inj ((fx_run_mono S q s r h).symm.trans h')
  · exact Option.some.inj (h.symm.trans (fx_run_mono S q s r' h'))
noncomputable def fx_Ev (S : fx_Sh) (s : fx_Z) : Option fx_R := by
  classical exact if h : ∃ r n, fx_run S n s = some r then some (Classical.choose h) else none
theorem fx_Ev_iff {S : fx_Sh} {s : fx_Z} {r : fx_R} : fx_Ev S s = some r ↔ ∃ n, fx_run S n s = some r := by
  unfold fx_Ev
  constructor
  · intro h
    split at h
    · next hh => cases h; exact Classical.choose_spec hh
    · cases h
  · rintro ⟨n, hn⟩
    have hh : ∃ r n, fx_run S n s = some r := ⟨r, n, hn⟩
    rw [dif_pos hh]
    obtain ⟨k, hk⟩ := Classical.choose_spec hh
    rw [fx_run_det S hk hn]
theorem fx_Ev_eq (S : fx_Sh) (s : fx_Z) : fx_Ev S s = fx_go (fx_Ev S) (fx_st S s) := by
  have h1 : ∀ r, fx_Ev S s = some r → fx_go (fx_Ev S) (fx_st S s) = some r := by
    intro r h
    obtain ⟨n, hn⟩ := fx_Ev_iff.mp h
    cases n with
    | zero => simp [fx_run] at hn
    | succ n => exact fx_go_mono (fun s r h => fx_Ev_iff.mpr ⟨n, h⟩) _ _ hn
  have h2 : ∀ r, fx_go (fx_Ev S) (fx_st S s) = some r → fx_Ev S s = some r := by
    intro r h
    refine fx_Ev_iff.mpr ?_
    rcases hq : fx_st S s with s' | r' | ⟨s', k⟩ | u
    · rw [hq] at h
      obtain ⟨n, hn⟩ := fx_Ev_iff.mp h
      exact ⟨n + 1, by show fx_go (fx_run S n) (fx_st S s) = some r; rw [hq]; exact hn⟩
    · rw [hq] at h
      exact ⟨1, by show fx_go (fx_run S 0) (fx_st S s) = some r; rw [hq]; exact h⟩
    · rw [hq] at h
      simp only [fx_go] at h
      cases hf : fx_Ev S s' with
      | none => rw [hf] at h; simp at h
      | some r1 =>
        rw [hf] at h
        obtain ⟨n, hn⟩ := fx_Ev_iff.mp hf
        obtain ⟨m, hm⟩ := fx_Ev_iff.mp (show fx_Ev S (k r1) = some r from h)
        refine ⟨max n m + 1, ?_⟩
        show fx_go (fx_run S (max n m)) (fx_st S s) = some r
        rw [hq]
        simp only [fx_go]
        rw [fx_run_mono S (Nat.le_max_left n m) _ _ hn]
        exact fx_run_mono S (Nat.le_max_right n m) _ _ hm
    · rw [hq] at h
      simp [fx_go] at h
  cases ha : fx_Ev S s with
  | some r => exact (h1 r ha).symm
  | none =>
    cases hb : fx_go (fx_Ev S) (fx_st S s) with
    | none => rfl
    | some r => rw [h2 r hb] at ha; cases ha
end
section
/-! numbers: a shadow number stands for its Int32 -/
abbrev fx_I (x : Int) : Int32 := Int32.ofInt x
theorem fx_toInt {x : Int} (h : fx_in x) : (fx_I x).toInt = x := Int32.toInt_ofInt_of_le (by have := h.1; omega) (by have := h.2; omega)
theorem fx_inj {x y : Int} (hx : fx_in x) (hy : fx_in y) : fx_I x = fx_I y ↔ x = y := by
  rw [← Int32.toInt_inj, fx_toInt hx, fx_toInt hy]
theorem fx_lt {x y : Int} (hx : fx_in x) (hy : fx_in y) : fx_I x < fx_I y ↔ x < y := by
  rw [Int32.lt_iff_toInt_lt, fx_toInt hx, fx_toInt hy]
theorem fx_le {x y : Int} (hx : fx_in x) (hy : fx_in y) : fx_I x ≤ fx_I y ↔ x ≤ y := by
  rw [Int32.le_iff_toInt_le, fx_toInt hx, fx_toInt hy]
theorem fx_in0 : fx_in 0 := ⟨by decide, by decide⟩
theorem fx_I0 : fx_I 0 = 0 := rfl
theorem fx_clamp {x : Int} (h0 : 0 ≤ x) (h1 : x < 2147483648) : (fx_I x).toNatClampNeg = x.toNat := Int32.toNatClampNeg_ofInt_of_le (by omega) (by omega)
theorem fx_vin {x : Int} {n : Nat} (h0 : 0 ≤ x) (h1 : x < n) (hn : n < 2147483648) : vp_in (fx_I x) n := by
  rw [vp_in_iff, fx_toInt ⟨by omega, by omega⟩]
  exact ⟨h0, h1⟩
theorem fx_div {x y : Int} (hx : fx_in x) (h0 : 0 < y) (hy : y ≤ 2147483647) : fx_I x / fx_I y = fx_I (x.tdiv y) := by
  have hyn : fx_in y := ⟨by omega, by omega⟩
  have h1 : fx_I y ≠ -1 := by
    intro h
    have h2 := congrArg Int32.toInt h
    rw [fx_toInt hyn] at h2
    have h3 : (-1 : Int32).toInt = -1 := by decide
    omega
  apply Int32.toInt_inj.mp
  rw [Int32.toInt_div_of_ne_right _ _ h1, fx_toInt hx, fx_toInt hyn, fx_toInt]
  constructor
  · have h2 : -(x.natAbs : Int) ≤ x.tdiv y := by
      have h3 := Int.natAbs_tdiv_le_natAbs x y
      omega
    by_cases hx0 : 0 ≤ x
    · have := Int.tdiv_nonneg hx0 (by omega : 0 ≤ y); omega
    · have := hx.1; omega
  · have h2 : x.tdiv y ≤ (x.natAbs : Int) := by
      have h3 := Int.natAbs_tdiv_le_natAbs x y
      omega
    by_cases hx0 : 0 ≤ x
    · have := hx.2; omega
    · have h4 : 0 ≤ (-x).tdiv y := Int.tdiv_nonneg (by omega) (by omega)
      rw [Int.neg_tdiv] at h4
      omega
theorem fx_rem {x y : Int} (hx : fx_in x) (h0 : 0 < y) (hy : y ≤ 2147483647) : fx_I x - fx_I x / fx_I y * fx_I y = fx_I (x.tmod y) := by
  rw [fx_div hx h0 hy, ← Int32.ofInt_mul, ← Int32.ofInt_sub, Int.tmod_def, Int.mul_comm]
theorem fx_ne0 {y : Int} (h0 : 0 < y) (hy : y ≤ 2147483647) : ¬ fx_I y = 0 := by
  intro h
  have h2 := (fx_inj (x := y) (y := 0) ⟨by omega, by omega⟩ fx_in0).mp h
  omega
theorem fx_ofNat (n : Nat) : Int32.ofNat n = fx_I n := Int32.ofInt_eq_ofNat.symm
/-! the world that a memory stands for -/
abbrev fx_G : Type := fx_Sh × List (Nat × Nat) × (Nat → Nat → Nat) × va_G × (ClassId × ClassId × ClassId) × List (ClassId × FieldType) × (Nat → Prop)
abbrev fx_gS (G : fx_G) : fx_Sh := G.1
abbrev fx_gl (G : fx_G) : List (Nat × Nat) := G.2.1
abbrev fx_ga (G : fx_G) : Nat → Nat → Nat := G.2.2.1
abbrev fx_gD (G : fx_G) : va_G := G.2.2.2.1
abbrev fx_gI (G : fx_G) : ClassId := G.2.2.2.2.1.1
abbrev fx_gZ (G : fx_G) : ClassId := G.2.2.2.2.1.2.1
abbrev fx_gQ (G : fx_G) : ClassId := G.2.2.2.2.1.2.2
abbrev fx_gt (G : fx_G) : List (ClassId × FieldType) := G.2.2.2.2.2.1
abbrev fx_A (G : fx_G) : Nat → Prop := G.2.2.2.2.2.2
def fx_re (ad : Nat → Nat → Nat) (v : fx_V) : Value := match v with
  | .inl x => .int (fx_I x)
  | .inr none => .null
  | .inr (some q) => .ref (ad q.1 q.2)
def fx_fl (ad : Nat → Nat → Nat) (σ : fx_M) (o g : Nat) : Nat → List (Option (Nat → Nat × Nat)) → List Value
  | _, [] => []
  | k, none :: l => .int (fx_I (σ o g k)) :: fx_fl ad σ o g (k + 1) l
  | k, some f :: l => .ref (ad (f g).1 (f g).2) :: fx_fl ad σ o g (k + 1) l
def fx_ce (G : fx_G) (σ : fx_M) (o g : Nat) : va_E := match fx_ob o with
  | some (ci, fl) => .inr (ci, fx_fl (fx_ga G) σ o g 0 fl)
  | none => if o = 2 then .inl (fx_gQ G, (fx_gS G).1 2 0, .inr (.inr (.inr (.inr (fun j => if j < (fx_gS G).2 then some (fx_ga G 12 j) else none)))))
    else .inl (if fx_ak o = 2 then fx_gZ G else fx_gI G, (fx_gS G).1 o g, .inl (fun i => fx_I (σ o g i)))
def fx_ws (G : fx_G) (σ : fx_M) : va_W := (fx_gl G).map (fun q => (fx_ga G q.1 q.2, fx_ce G σ q.1 q.2))
def fx_Ok (G : fx_G) : Prop := (fx_gl G).Nodup ∧ (∀ o g, (fx_gS G).1 o g < 2147483648) ∧ (fx_gt G)[0]? = some (fx_gI G, .int) ∧ ((∃ q ∈ fx_gl G, fx_ak q.1 = 2) → (fx_gt G)[1]? = some (fx_gZ G, .boolean)) ∧ ((2, 0) ∈ fx_gl G → (fx_gt G)[2]? = some (fx_gQ G, .object "FoldDye$Cloth")) ∧
  (∀ q ∈ fx_gl G, ∀ ci fl, fx_ob q.1 = some (ci, fl) → ∀ (k : Nat) f, fl[k]? = some (some f) → f q.2 ∈ fx_gl G) ∧ ((2, 0) ∈ fx_gl G → ∀ j, j < (fx_gS G).2 → (12, j) ∈ fx_gl G) ∧ (∀ q ∈ fx_gl G, fx_ak q.1 ≠ 4)
def fx_al (G : fx_G) (v : fx_V) : Prop := match v with
  | .inr (some q) => q ∈ fx_gl G ∨ ((q.1 = 90 ∨ q.1 = 91 ∨ q.1 = 92) ∧ q.2 = 0)
  | _ => True
def fx_Sa (ad : Nat → Nat → Nat) (A : Nat → Prop) (U : State) (H : Heap) : Prop :=
  (∀ e ∈ [(90, "GREATEST_RULE"), (91, "SIDE_ROWS"), (92, "SIDE_COLUMNS")], va_Z "FoldDye" e.2 "[I" (.ref (ad e.1 0)) A U H ∧ va_T .int (ad e.1 0) (fx_sv e.1).length (fun j => .int (fx_I ((fx_sv e.1).getD j 0))) A U H) ∧
  ∀ e ∈ fx_nT, va_Nw (.fieldLinkNest (fx_cs e.1.1) e.1.2 "FoldDye" e.2.2 "[I" "FoldDye") U
theorem fx_Sa.moved {ad : Nat → Nat → Nat} {A : Nat → Prop} {u U : State} {H : Heap} (hW : u.WarmedH U.vm) (h : fx_Sa ad A u H) : fx_Sa ad A U H :=
  ⟨fun e he => ⟨(h.1 e he).1.moved hW.alike, (h.1 e he).2.moved hW.alike⟩, fun e he => va_Nw.warmF hW (h.2 e he)⟩
theorem fx_Sa.same {ad : Nat → Nat → Nat} {A : Nat → Prop} {u U : State} {H : Heap} (hv : u.vm = U.vm) (h : fx_Sa ad A u H) : fx_Sa ad A U H :=
  ⟨fun e he => ⟨(h.1 e he).1.moved (hv ▸ Vm.Alike.refl u.vm), (h.1 e he).2.moved (hv ▸ Vm.Alike.refl u.vm)⟩, fun e he => va_Nw.same rfl hv (h.2 e he)⟩
theorem fx_Sa.kept {ad : Nat → Nat → Nat} {A : Nat → Prop} {U : State} {H H1 : Heap} (h : fx_Sa ad A U H) (hq : ∀ a : Nat, a < H.size → ¬ A a → H1[a]? = H[a]?) : fx_Sa ad A U H1 :=
  ⟨fun e he => ⟨(h.1 e he).1.kept hq, (h.1 e he).2.kept hq⟩, h.2⟩
theorem fx_fl_len (ad : Nat → Nat → Nat) (σ : fx_M) (o g : Nat) : ∀ (fl : List (Option (Nat → Nat × Nat))) (k : Nat), (fx_fl ad σ o g k fl).length = fl.length
  | [], k => rfl
  | none :: l, k => by simp [fx_fl, fx_fl_len ad σ o g l (k + 1)]
  | some f :: l, k => by simp [fx_fl, fx_fl_len ad σ o g l (k + 1)]
theorem fx_fl_int (ad : Nat → Nat → Nat) (σ : fx_M) (o g : Nat) : ∀ (fl : List (Option (Nat → Nat × Nat))) (k j : Nat), fl[j]? = some none → (fx_fl ad σ o g k fl)[j]? = some (.int (fx_I (σ o g (k + j))))
  | [], k, j, h => by simp at h
  | none :: l, k, 0, h => by simp [fx_fl]
  | none :: l, k, j + 1, h => by
    rw [List.getElem?_cons_succ] at h
    simp only [fx_fl, List.getElem?_cons_succ]
    rw [fx_fl_int ad σ o g l (k + 1) j h, Nat.add_right_comm, Nat.add_assoc]
  | some f :: l, k, 0, h => by simp at h
  | some f :: l, k, j + 1, h => by
    rw [List.getElem?_cons_succ] at h
    simp only [fx_fl, List.getElem?_cons_succ]
    rw [fx_fl_int ad σ o g l (k + 1) j h, Nat.add_right_comm, Nat.add_assoc]
theorem fx_fl_ref (ad : Nat → Nat → Nat) (σ : fx_M) (o g : Nat) : ∀ (fl : List (Option (Nat → Nat × Nat))) (k j : Nat) (f : Nat → Nat × Nat), fl[j]? = some (some f) → (fx_fl ad σ o g k fl)[j]? = some (.ref (ad (f g).1 (f g).2))
  | [], k, j, f, h => by simp at h
  | none :: l, k, 0, f, h => by simp at h
  | none :: l, k, j + 1, f, h => by
    rw [List.getElem?_cons_succ] at h
    simp only [fx_fl, List.getElem?_cons_succ]
    exact fx_fl_ref ad σ o g l (k + 1) j f h
  | some f' :: l, k, 0, f, h => by
    simp only [List.getElem?_cons_zero, Option.some.injEq] at h
    subst h
    simp [fx_fl]
  | some f' :: l, k, j + 1, f, h => by
    rw [List.getElem?_cons_succ] at h
    simp only [fx_fl, List.getElem?_cons_succ]
    exact fx_fl_ref ad σ o g l (k + 1) j f h
theorem fx_fl_ext (ad : Nat → Nat → Nat) {σ σ' : fx_M} {o g : Nat} (h : ∀ i, σ o g i = σ' o g i) : ∀ (fl : List (Option (Nat → Nat × Nat))) (k : Nat), fx_fl ad σ o g k fl = fx_fl ad σ' o g k fl
  | [], k => rfl
  | none :: l, k => by simp only [fx_fl, h k, fx_fl_ext ad h l (k + 1)]
  | some f :: l, k => by simp only [fx_fl, fx_fl_ext ad h l (k + 1)]
theorem fx_fl_lo (ad : Nat → Nat → Nat) {σ : fx_M} {o g i : Nat} {v : Int} : ∀ (fl : List (Option (Nat → Nat × Nat))) (k : Nat), i < k → fx_fl ad (fx_up σ o g i v) o g k fl = fx_fl ad σ o g k fl
  | [], k, h => rfl
  | none :: l, k, h => by
    have h1 : fx_up σ o g i v o g k = σ o g k := by
      unfold fx_up
      rw [if_neg]
      omega
    simp only [fx_fl, h1]; rw [fx_fl_lo ad l (k + 1) (show i < k + 1 by omega)]
  | some f :: l, k, h => by simp only [fx_fl]; rw [fx_fl_lo ad l (k + 1) (show i < k + 1 by omega)]
theorem fx_fl_set (ad : Nat → Nat → Nat) (σ : fx_M) (o g : Nat) (v : Int) : ∀ (fl : List (Option (Nat → Nat × Nat))) (k j : Nat), fl[j]? = some none → (fx_fl ad σ o g k fl).set j (.int (fx_I v)) = fx_fl ad (fx_up σ o g (k + j) v) o g k fl
  | [], k, j, h => by simp at h
  | none :: l, k, 0, h => by
    have h1 : fx_up σ o g (k + 0) v o g k = v := by simp [fx_up]
    simp only [fx_fl, List.set_cons_zero, h1]
    rw [fx_fl_lo ad l (k + 1) (by omega)]
  | none :: l, k, j + 1, h => by
    rw [List.getElem?_cons_succ] at h
    have h1 : fx_up σ o g (k + (j + 1)) v o g k = σ o g k := by
      unfold fx_up
      rw [if_neg]
      omega
    simp only [fx_fl, List.set_cons_succ, h1]
    rw [fx_fl_set ad σ o g v l (k + 1) j h, Nat.add_right_comm, Nat.add_assoc]
  | some f :: l, k, 0, h => by simp at h
  | some f :: l, k, j + 1, h => by
    rw [List.getElem?_cons_succ] at h
    simp only [fx_fl, List.set_cons_succ]
    rw [fx_fl_set ad σ o g v l (k + 1) j h, Nat.add_right_comm, Nat.add_assoc]
theorem fx_ce_ext (G : fx_G) {σ σ' : fx_M} {o g : Nat} (h : ∀ i, σ o g i = σ' o g i) : fx_ce G σ o g = fx_ce G σ' o g := by
  unfold fx_ce
  split
  · rw [fx_fl_ext _ h]
  · simp only [h]
theorem fx_up_ne {σ : fx_M} {o g i : Nat} {v : Int} {o' g' : Nat} (h : (o', g') ≠ (o, g)) (k : Nat) : fx_up σ o g i v o' g' k = σ o' g' k := by
  unfold fx_up
  rw [if_neg]
  rintro ⟨h1, h2, -⟩
  exact h (by rw [h1, h2])
theorem fx_ws_at (G : fx_G) (σ : fx_M) {k o g : Nat} (h : (fx_gl G)[k]? = some (o, g)) : (fx_ws G σ)[k]? = some (fx_ga G o g, fx_ce G σ o g) := by
  unfold fx_ws
  rw [List.getElem?_map, h]
  rfl
theorem fx_ws_set (G : fx_G) {σ σ' : fx_M} {k o g : Nat} {e : va_E} (hn : (fx_gl G).Nodup) (h : (fx_gl G)[k]? = some (o, g)) (he : fx_ce G σ' o g = e) (hs : ∀ o' g', (o', g') ≠ (o, g) → ∀ i, σ' o' g' i = σ o' g' i) : (fx_ws G σ).set k (fx_ga G o g, e) = fx_ws G σ' := by
  subst he
  have hk : k < (fx_gl G).length := (List.getElem?_eq_some_iff.mp h).1
  apply List.ext_getElem?
  intro j
  by_cases hj : j = k
  · subst hj
    rw [List.getElem?_set_self (by unfold fx_ws; rw [List.length_map]; exact hk), fx_ws_at G σ' h]
  · rw [List.getElem?_set_ne (Ne.symm hj)]
    unfold fx_ws
    rw [List.getElem?_map, List.getElem?_map]
    cases hq : (fx_gl G)[j]? with
    | none => rfl
    | some q =>
      have hne : (q.1, q.2) ≠ (o, g) := by
        intro hqe
        have h2 : (fx_gl G)[j]? = some (o, g) := by rw [hq]; exact congrArg some hqe
        have hjl : j < (fx_gl G).length := (List.getElem?_eq_some_iff.mp hq).1
        have e1 := (List.getElem?_eq_some_iff.mp h2).2
        have e2 := (List.getElem?_eq_some_iff.mp h).2
        exact hj ((List.getElem_inj hn).mp (e1.trans e2.symm))
      simp only [Option.map_some]
      rw [fx_ce_ext G (σ := σ) (σ' := σ') (fun i => (hs q.1 q.2 hne i).symm)]
theorem fx_ws_D (G : fx_G) {A : Nat → Prop} {σ σ' : fx_M} (h : va_D A (fx_ws G σ)) : va_D A (fx_ws G σ') := by
  have key : ∀ (k : Nat) (q : Nat × va_E), (fx_ws G σ')[k]? = some q → ∃ e, (fx_ws G σ)[k]? = some (q.1, e) := by
    intro k q hq
    unfold fx_ws at hq ⊢
    rw [List.getElem?_map] at hq ⊢
    cases hg : (fx_gl G)[k]? with
    | none => rw [hg] at hq; cases hq
    | some r => rw [hg] at hq; cases hq; exact ⟨_, rfl⟩
  refine ⟨fun i j p q hp hq hpq => ?_, fun k q hq => ?_⟩
  · obtain ⟨e1, h1⟩ := key i p hp
    obtain ⟨e2, h2⟩ := key j q hq
    exact h.1 i j _ _ h1 h2 hpq
  · obtain ⟨e1, h1⟩ := key k q hq
    exact h.2 k (q.1, e1) h1
theorem fx_mem_at {l : List (Nat × Nat)} {o g : Nat} (h : (o, g) ∈ l) : ∃ k : Nat, l[k]? = some (o, g) := List.getElem?_of_mem h
/-! locals -/
def fx_Lo (ad : Nat → Nat → Nat) (jl : Array Slot) (ls : fx_L) : Prop := jl.size = ls.length ∧ lv_wf jl ∧ ∀ (k : Nat) (v : fx_V), ls[k]? = some (some v) → jl[k]? = some (.val (fx_re ad v))
def fx_kn (ad : Nat → Nat → Nat) (ls : fx_L) : List (Nat × Value) := (List.range ls.length).filterMap (fun k => (ls[k]?.getD none).map (fun v => (k, fx_re ad v)))
theorem fx_kn_iff {ad : Nat → Nat → Nat} {ls : fx_L} {q : Nat × Value} : q ∈ fx_kn ad ls ↔ ∃ v, ls[q.1]? = some (some v) ∧ q.2 = fx_re ad v := by
  unfold fx_kn
  rw [List.mem_filterMap]
  constructor
  · rintro ⟨k, hk, h⟩
    rw [List.mem_range] at hk
    rw [List.getElem?_eq_getElem hk] at h
    simp only [Option.getD_some] at h
    cases hv : ls[k] with
    | none => rw [hv] at h; simp at h
    | some v =>
      rw [hv] at h
      simp only [Option.map_some, Option.some.injEq] at h
      subst h
      exact ⟨v, by rw [List.getElem?_eq_getElem hk, hv], rfl⟩
  · rintro ⟨v, h1, h2⟩
    refine ⟨q.1, List.mem_range.mpr (List.getElem?_eq_some_iff.mp h1).1, ?_⟩
    rw [h1]
    simp only [Option.getD_some, Option.map_some, ← h2]
theorem fx_Lo.has {ad : Nat → Nat → Nat} {jl : Array Slot} {ls : fx_L} (h : fx_Lo ad jl ls) : lv_has jl ls.length (fx_kn ad ls) := by
  refine ⟨h.1, h.2.1, fun q hq => ?_⟩
  obtain ⟨v, h1, h2⟩ := fx_kn_iff.mp hq
  rw [h2]
  exact h.2.2 q.1 v h1
theorem fx_re_cat (ad : Nat → Nat → Nat) (v : fx_V) : (fx_re ad v).category = 1 := by
  rcases v with x | (_ | q) <;> rfl
theorem fx_Lo.set {ad : Nat → Nat → Nat} {ls : fx_L} {k : Nat} {v : fx_V} {jl : Array Slot} (h : lv_has jl ls.length ((k, fx_re ad v) :: (fx_kn ad ls).filter (fun q => !(q.1 == k) && !(q.1 + 1 == k && q.2.category == 2)))) : fx_Lo ad jl (ls.set k (some v)) := by
  refine ⟨by rw [List.length_set]; exact h.1, h.2.1, fun j w hw => ?_⟩
  by_cases hj : j = k
  · subst hj
    have hl : j < ls.length := by
      have := (List.getElem?_eq_some_iff.mp hw).1
      rwa [List.length_set] at this
    rw [List.getElem?_set_self hl] at hw
    cases hw
    exact h.2.2 _ List.mem_cons_self
  · rw [List.getElem?_set_ne (Ne.symm hj)] at hw
    refine h.2.2 (j, fx_re ad w) (List.mem_cons_of_mem _ (List.mem_filter.mpr ⟨fx_kn_iff.mpr ⟨w, hw, rfl⟩, ?_⟩))
    simp [hj, fx_re_cat]
theorem fx_kn_at {ad : Nat → Nat → Nat} {ls : fx_L} {k : Nat} {v : fx_V} (h : ls[k]? = some (some v)) : ∃ j : Nat, (fx_kn ad ls)[j]? = some (k, fx_re ad v) := List.getElem?_of_mem (fx_kn_iff.mpr ⟨v, h, rfl⟩)
end
section
/-! the machine's rows over a shadow state -/
def fx_Cx (p : Program) (s : State) (m : MethodId) (meth : Method) (c : Code) (args : Array Value) (R : Room) (cells slots y : Nat) : Prop :=
  p.tables.exec = Jvm.exec ∧ c.code = fx_by y ∧ c.maxLocals = fx_mL y ∧ meth.sig.returnType = fx_rt y ∧ s.vm.findClass (fx_cs (fx_own y)) = some m.cls ∧ (∀ w ∈ fx_tb, w.before args s = true) ∧ meth.locks = false ∧ fx_lv y + 1 ≤ R.frames ∧ 40 * (fx_lv y + 1) ≤ R.locals ∧ cells ≤ R.cells ∧ slots ≤ R.slots
def fx_Wd (G : fx_G) (s : State) (σ : fx_M) (H : Heap) (locs : List Loc) : Prop := va_K (fx_gD G) fx_cl (fx_gt G) s ∧ va_P (fx_gD G) fx_cl (fx_ws G σ) H ∧ va_D (fx_A G) (fx_ws G σ) ∧ va_S (fx_A G) s.heap H locs ∧ fx_Sa (fx_ga G) (fx_A G) s s.heap
def fx_WW (p : Program) (l : Launch) (e : Env) (R : Room) (s : State) (m : MethodId) (args : Array Value) (below : List Frame) (meth : Method) (c : Code) (cells slots : Nat) (Q : State → Prop) (G : fx_G) (pc : Nat) (ls : fx_L) (st : List fx_V) (σ : fx_M) : Prop :=
  ∀ (H : Heap) (locs : List Loc) (jl : Array Slot), fx_Wd G s σ H locs → fx_Lo (fx_ga G) jl ls → W p l e R s m args below meth c H locs cells slots Q (F0 m pc jl (st.map (fx_re (fx_ga G))))
section FXR
variable {p : Program} {l : Launch} {e : Env} {R : Room} {s : State} {m : MethodId} {args : Array Value} {below : List Frame} {meth : Method} {c : Code} {cells slots : Nat} {Q : State → Prop} {G : fx_G} {y pc : Nat} {ls : fx_L} {st : List fx_V} {σ : fx_M}
theorem fxw_iconst (C : fx_Cx p s m meth c args R cells slots y) {n : Int} (hd : decode (fx_by y) pc = .ok (.iconst n, 1)) (k : fx_WW p l e R s m args below meth c cells slots Q G (pc + 1) ls (.inl n :: st) σ) : fx_WW p l e R s m args below meth c cells slots Q G pc ls st σ :=
  fun H locs jl hW hL => lv_iconst C.1 C.2.1 hd rfl (k H locs jl hW hL)
theorem fxw_bipush (C : fx_Cx p s m meth c args R cells slots y) {n : Int} (hd : decode (fx_by y) pc = .ok (.bipush n, 2)) (hn : (Int8.ofInt n).toInt32 = Int32.ofInt n) (k : fx_WW p l e R s m args below meth c cells slots Q G (pc + 2) ls (.inl n :: st) σ) : fx_WW p l e R s m args below meth c cells slots Q G pc ls st σ :=
  fun H locs jl hW hL => lv_bipush C.1 C.2.1 hd hn (k H locs jl hW hL)
theorem fxw_sipush (C : fx_Cx p s m meth c args R cells slots y) {n : Int} (hd : decode (fx_by y) pc = .ok (.sipush n, 3)) (hn : (Int16.ofInt n).toInt32 = Int32.ofInt n) (k : fx_WW p l e R s m args below meth c cells slots Q G (pc + 3) ls (.inl n :: st) σ) : fx_WW p l e R s m args below meth c cells slots Q G pc ls st σ :=
  fun H locs jl hW hL => lv_sipush C.1 C.2.1 hd hn (k H locs jl hW hL)
theorem fx_kd_in {o i : Nat} {n : Int} (h : fx_kd o i = some n) : Cond.constant (fx_cs o) i (fx_I n) ∈ fx_tb := by
  unfold fx_kd at h
  rw [Option.map_eq_some_iff] at h
  obtain ⟨e, he, h2⟩ := h
  have h3 := List.find?_some he
  simp only [Bool.and_eq_true, beq_iff_eq] at h3
  have h4 := fx_w9 _ (List.mem_map.mpr ⟨e, List.mem_of_find?_eq_some he, rfl⟩)
  rw [h3.1, h3.2, h2] at h4
  exact h4
theorem fxw_ldc (C : fx_Cx p s m meth c args R cells slots y) {i : Nat} {n : Int} (hn : fx_kd (fx_own y) i = some n) (hd : decode (fx_by y) pc = .ok (.ldc i, 2)) (k : fx_WW p l e R s m args below meth c cells slots Q G (pc + 2) ls (.inl n :: st) σ) : fx_WW p l e R s m args below meth c cells slots Q G pc ls st σ :=
  fun H locs jl hW hL => lv_ldc C.1 C.2.1 C.2.2.2.2.1 (C.2.2.2.2.2.1 _ (fx_kd_in hn)) hd (k H locs jl hW hL)
theorem fxw_ldcw (C : fx_Cx p s m meth c args R cells slots y) {i : Nat} {n : Int} (hn : fx_kd (fx_own y) i = some n) (hd : decode (fx_by y) pc = .ok (.ldc_w i, 3)) (k : fx_WW p l e R s m args below meth c cells slots Q G (pc + 3) ls (.inl n :: st) σ) : fx_WW p l e R s m args below meth c cells slots Q G pc ls st σ :=
  fun H locs jl hW hL => lv_ldcw C.1 C.2.1 C.2.2.2.2.1 (C.2.2.2.2.2.1 _ (fx_kd_in hn)) hd (k H locs jl hW hL)
theorem fxw_null (C : fx_Cx p s m meth c args R cells slots y) (hd : decode (fx_by y) pc = .ok (.aconst_null, 1)) (k : fx_WW p l e R s m args below meth c cells slots Q G (pc + 1) ls (.inr none :: st) σ) : fx_WW p l e R s m args below meth c cells slots Q G pc ls st σ :=
  fun H locs jl hW hL => lv_null C.1 C.2.1 hd (k H locs jl hW hL)
theorem fxw_iload_n (C : fx_Cx p s m meth c args R cells slots y) {k : Fin 4} {x : Int} (hd : decode (fx_by y) pc = .ok (.iload_n k, 1)) (hl : ls[k.val]? = some (some (.inl x))) (kk : fx_WW p l e R s m args below meth c cells slots Q G (pc + 1) ls (.inl x :: st) σ) : fx_WW p l e R s m args below meth c cells slots Q G pc ls st σ :=
  fun H locs jl hW hL => lv_iload_n C.1 C.2.1 hd rfl (hL.2.2 _ _ hl) (kk H locs jl hW hL)
theorem fxw_iload (C : fx_Cx p s m meth c args R cells slots y) {k : Nat} {x : Int} (hd : decode (fx_by y) pc = .ok (.iload k, 2)) (hl : ls[k]? = some (some (.inl x))) (kk : fx_WW p l e R s m args below meth c cells slots Q G (pc + 2) ls (.inl x :: st) σ) : fx_WW p l e R s m args below meth c cells slots Q G pc ls st σ :=
  fun H locs jl hW hL => lv_iload C.1 C.2.1 hd (hL.2.2 _ _ hl) (kk H locs jl hW hL)
theorem fxw_aload_n (C : fx_Cx p s m meth c args R cells slots y) {k : Fin 4} {x : Option (Nat × Nat)} (hd : decode (fx_by y) pc = .ok (.aload_n k, 1)) (hl : ls[k.val]? = some (some (.inr x))) (kk : fx_WW p l e R s m args below meth c cells slots Q G (pc + 1) ls (.inr x :: st) σ) : fx_WW p l e R s m args below meth c cells slots Q G pc ls st σ := by
  intro H locs jl hW hL
  cases x with
  | none => exact lv_aload_nN C.1 C.2.1 hd rfl (hL.2.2 _ _ hl) (kk H locs jl hW hL)
  | some q => exact lv_aload_n C.1 C.2.1 hd rfl (hL.2.2 _ _ hl) (kk H locs jl hW hL)
theorem fxw_aload (C : fx_Cx p s m meth c args R cells slots y) {k : Nat} {x : Option (Nat × Nat)} (hd : decode (fx_by y) pc = .ok (.aload k, 2)) (hl : ls[k]? = some (some (.inr x))) (kk : fx_WW p l e R s m args below meth c cells slots Q G (pc + 2) ls (.inr x :: st) σ) : fx_WW p l e R s m args below meth c cells slots Q G pc ls st σ := by
  intro H locs jl hW hL
  cases x with
  | none => exact lv_aloadN C.1 C.2.1 hd (hL.2.2 _ _ hl) (kk H locs jl hW hL)
  | some q => exact lv_aload C.1 C.2.1 hd (hL.2.2 _ _ hl) (kk H locs jl hW hL)
theorem fxw_istore_n (C : fx_Cx p s m meth c args R cells slots y) {k : Fin 4} {x : Int} (hd : decode (fx_by y) pc = .ok (.istore_n k, 1)) (hk : k.val < ls.length) (kk : fx_WW p l e R s m args below meth c cells slots Q G (pc + 1) (ls.set k.val (some (.inl x))) st σ) : fx_WW p l e R s m args below meth c cells slots Q G pc ls (.inl x :: st) σ :=
  fun H locs jl hW hL => lv_istore_n C.1 C.2.1 hd rfl hL.has hk rfl (fun jl' h => kk H locs jl' hW (fx_Lo.set h))
theorem fxw_istore (C : fx_Cx p s m meth c args R cells slots y) {k : Nat} {x : Int} (hd : decode (fx_by y) pc = .ok (.istore k, 2)) (hk : k < ls.length) (kk : fx_WW p l e R s m args below meth c cells slots Q G (pc + 2) (ls.set k (some (.inl x))) st σ) : fx_WW p l e R s m args below meth c cells slots Q G pc ls (.inl x :: st) σ :=
  fun H locs jl hW hL => lv_istore C.1 C.2.1 hd hL.has hk rfl (fun jl' h => kk H locs jl' hW (fx_Lo.set h))
theorem fxw_astore_n (C : fx_Cx p s m meth c args R cells slots y) {k : Fin 4} {x : Option (Nat × Nat)} (hd : decode (fx_by y) pc = .ok (.astore_n k, 1)) (hk : k.val < ls.length) (kk : fx_WW p l e R s m args below meth c cells slots Q G (pc + 1) (ls.set k.val (some (.inr x))) st σ) : fx_WW p l e R s m args below meth c cells slots Q G pc ls (.inr x :: st) σ := by
  intro H locs jl hW hL
  cases x with
  | none => exact lv_astore_nN C.1 C.2.1 hd rfl hL.has hk rfl (fun jl' h => kk H locs jl' hW (fx_Lo.set h))
  | some q => exact lv_astore_n C.1 C.2.1 hd rfl hL.has hk rfl (fun jl' h => kk H locs jl' hW (fx_Lo.set h))
theorem fxw_astore (C : fx_Cx p s m meth c args R cells slots y) {k : Nat} {x : Option (Nat × Nat)} (hd : decode (fx_by y) pc = .ok (.astore k, 2)) (hk : k < ls.length) (kk : fx_WW p l e R s m args below meth c cells slots Q G (pc + 2) (ls.set k (some (.inr x))) st σ) : fx_WW p l e R s m args below meth c cells slots Q G pc ls (.inr x :: st) σ := by
  intro H locs jl hW hL
  cases x with
  | none => exact lv_astoreN C.1 C.2.1 hd hL.has hk rfl (fun jl' h => kk H locs jl' hW (fx_Lo.set h))
  | some q => exact lv_astore C.1 C.2.1 hd hL.has hk rfl (fun jl' h => kk H locs jl' hW (fx_Lo.set h))
theorem fxw_iinc (C : fx_Cx p s m meth c args R cells slots y) {k : Nat} {n x : Int} (hd : decode (fx_by y) pc = .ok (.iinc k n, 3)) (hl : ls[k]? = some (some (.inl x))) (kk : fx_WW p l e R s m args below meth c cells slots Q G (pc + 3) (ls.set k (some (.inl (x + n)))) st σ) : fx_WW p l e R s m args below meth c cells slots Q G pc ls st σ := by
  intro H locs jl hW hL
  obtain ⟨j, hj⟩ := fx_kn_at (ad := fx_ga G) hl
  exact lv_iinc (v := fx_I (x + n)) C.1 C.2.1 hd hL.has hj (Int32.ofInt_add x n).symm (List.getElem?_eq_some_iff.mp hl).1 rfl (fun jl' h => kk H locs jl' hW (fx_Lo.set h))
theorem fxw_iadd (C : fx_Cx p s m meth c args R cells slots y) {a b : Int} (hd : decode (fx_by y) pc = .ok (.iadd, 1)) (kk : fx_WW p l e R s m args below meth c cells slots Q G (pc + 1) ls (.inl (a + b) :: st) σ) : fx_WW p l e R s m args below meth c cells slots Q G pc ls (.inl b :: .inl a :: st) σ := by
  intro H locs jl hW hL
  have h := kk H locs jl hW hL
  simp only [List.map_cons, fx_re, fx_I, Int32.ofInt_add] at h
  exact lv_iadd C.1 C.2.1 hd h
theorem fxw_isub (C : fx_Cx p s m meth c args R cells slots y) {a b : Int} (hd : decode (fx_by y) pc = .ok (.isub, 1)) (kk : fx_WW p l e R s m args below meth c cells slots Q G (pc + 1) ls (.inl (a - b) :: st) σ) : fx_WW p l e R s m args below meth c cells slots Q G pc ls (.inl b :: .inl a :: st) σ := by
  intro H locs jl hW hL
  have h := kk H locs jl hW hL
  simp only [List.map_cons, fx_re, fx_I, Int32.ofInt_sub] at h
  exact lv_isub C.1 C.2.1 hd h
theorem fxw_imul (C : fx_Cx p s m meth c args R cells slots y) {a b : Int} (hd : decode (fx_by y) pc = .ok (.imul, 1)) (kk : fx_WW p l e R s m args below meth c cells slots Q G (pc + 1) ls (.inl (a * b) :: st) σ) : fx_WW p l e R s m args below meth c cells slots Q G pc ls (.inl b :: .inl a :: st) σ := by
  intro H locs jl hW hL
  have h := kk H locs jl hW hL
  simp only [List.map_cons, fx_re, fx_I, Int32.ofInt_mul] at h
  exact lv_imul C.1 C.2.1 hd h
theorem fxw_idiv (C : fx_Cx p s m meth c args R cells slots y) {a b : Int} (ha : fx_in a) (h0 : 0 < b) (hb : b ≤ 2147483647) (hd : decode (fx_by y) pc = .ok (.idiv, 1)) (kk : fx_WW p l e R s m args below meth c cells slots Q G (pc + 1) ls (.inl (a.tdiv b) :: st) σ) : fx_WW p l e R s m args below meth c cells slots Q G pc ls (.inl b :: .inl a :: st) σ := by
  intro H locs jl hW hL
  have h := kk H locs jl hW hL
  simp only [List.map_cons, fx_re, ← fx_div ha h0 hb] at h
  exact lv_idiv C.1 C.2.1 hd (fx_ne0 h0 hb) h
theorem fxw_irem (C : fx_Cx p s m meth c args R cells slots y) {a b : Int} (ha : fx_in a) (h0 : 0 < b) (hb : b ≤ 2147483647) (hd : decode (fx_by y) pc = .ok (.irem, 1)) (kk : fx_WW p l e R s m args below meth c cells slots Q G (pc + 1) ls (.inl (a.tmod b) :: st) σ) : fx_WW p l e R s m args below meth c cells slots Q G pc ls (.inl b :: .inl a :: st) σ := by
  intro H locs jl hW hL
  have h := kk H locs jl hW hL
  simp only [List.map_cons, fx_re, ← fx_rem ha h0 hb] at h
  exact lv_irem C.1 C.2.1 hd (fx_ne0 h0 hb) h
theorem fxw_iand (C : fx_Cx p s m meth c args R cells slots y) {a b : Int} (hd : decode (fx_by y) pc = .ok (.iand, 1)) (kk : fx_WW p l e R s m args below meth c cells slots Q G (pc + 1) ls (.inl ((fx_I a &&& fx_I b).toInt) :: st) σ) : fx_WW p l e R s m args below meth c cells slots Q G pc ls (.inl b :: .inl a :: st) σ := by
  intro H locs jl hW hL
  have h := kk H locs jl hW hL
  simp only [List.map_cons, fx_re, fx_I, Int32.ofInt_toInt] at h
  exact lv_iand C.1 C.2.1 hd h
theorem fxw_ior (C : fx_Cx p s m meth c args R cells slots y) {a b : Int} (hd : decode (fx_by y) pc = .ok (.ior, 1)) (kk : fx_WW p l e R s m args below meth c cells slots Q G (pc + 1) ls (.inl ((fx_I a ||| fx_I b).toInt) :: st) σ) : fx_WW p l e R s m args below meth c cells slots Q G pc ls (.inl b :: .inl a :: st) σ := by
  intro H locs jl hW hL
  have h := kk H locs jl hW hL
  simp only [List.map_cons, fx_re, fx_I, Int32.ofInt_toInt] at h
  exact lv_ior C.1 C.2.1 hd h
theorem fxw_ixor (C : fx_Cx p s m meth c args R cells slots y) {a b : Int} (hd : decode (fx_by y) pc = .ok (.ixor, 1)) (kk : fx_WW p l e R s m args below meth c cells slots Q G (pc + 1) ls (.inl ((fx_I a ^^^ fx_I b).toInt) :: st) σ) : fx_WW p l e R s m args below meth c cells slots Q G pc ls (.inl b :: .inl a :: st) σ := by
  intro H locs jl hW hL
  have h := kk H locs jl hW hL
  simp only [List.map_cons, fx_re, fx_I, Int32.ofInt_toInt] at h
  exact lv_ixor C.1 C.2.1 hd h
theorem fxw_ishl (C : fx_Cx p s m meth c args R cells slots y) {a b : Int} (hd : decode (fx_by y) pc = .ok (.ishl, 1)) (kk : fx_WW p l e R s m args below meth c cells slots Q G (pc + 1) ls (.inl ((fx_I a <<< (fx_I b &&& 31)).toInt) :: st) σ) : fx_WW p l e R s m args below meth c cells slots Q G pc ls (.inl b :: .inl a :: st) σ := by
  intro H locs jl hW hL
  have h := kk H locs jl hW hL
  simp only [List.map_cons, fx_re, fx_I, Int32.ofInt_toInt] at h
  exact lv_ishl C.1 C.2.1 hd h
theorem fxw_ishr (C : fx_Cx p s m meth c args R cells slots y) {a b : Int} (hd : decode (fx_by y) pc = .ok (.ishr, 1)) (kk : fx_WW p l e R s m args below meth c cells slots Q G (pc + 1) ls (.inl ((fx_I a >>> (fx_I b &&& 31)).toInt) :: st) σ) : fx_WW p l e R s m args below meth c cells slots Q G pc ls (.inl b :: .inl a :: st) σ := by
  intro H locs jl hW hL
  have h := kk H locs jl hW hL
  simp only [List.map_cons, fx_re, fx_I, Int32.ofInt_toInt] at h
  exact lv_ishr C.1 C.2.1 hd h
theorem fxw_iushr (C : fx_Cx p s m meth c args R cells slots y) {a b : Int} (hd : decode (fx_by y) pc = .ok (.iushr, 1)) (kk : fx_WW p l e R s m args below meth c cells slots Q G (pc + 1) ls (.inl (((fx_I a).toUInt32 >>> ((fx_I b).toUInt32 &&& Int32.toUInt32 31)).toInt32.toInt) :: st) σ) : fx_WW p l e R s m args below meth c cells slots Q G pc ls (.inl b :: .inl a :: st) σ := by
  intro H locs jl hW hL
  have h := kk H locs jl hW hL
  simp only [List.map_cons, fx_re, fx_I, Int32.ofInt_toInt] at h
  exact lv_iushr C.1 C.2.1 hd rfl h
theorem fxw_ineg (C : fx_Cx p s m meth c args R cells slots y) {a : Int} (hd : decode (fx_by y) pc = .ok (.ineg, 1)) (kk : fx_WW p l e R s m args below meth c cells slots Q G (pc + 1) ls (.inl (-a) :: st) σ) : fx_WW p l e R s m args below meth c cells slots Q G pc ls (.inl a :: st) σ := by
  intro H locs jl hW hL
  have h := kk H locs jl hW hL
  simp only [List.map_cons, fx_re, fx_I, Int32.ofInt_neg] at h
  exact lv_ineg C.1 C.2.1 hd h
theorem fxw_dup (C : fx_Cx p s m meth c args R cells slots y) {v : fx_V} (hd : decode (fx_by y) pc = .ok (.dup, 1)) (kk : fx_WW p l e R s m args below meth c cells slots Q G (pc + 1) ls (v :: v :: st) σ) : fx_WW p l e R s m args below meth c cells slots Q G pc ls (v :: st) σ :=
  fun H locs jl hW hL => lv_dup C.1 C.2.1 hd (fx_re_cat _ v) (kk H locs jl hW hL)
theorem fxw_dup2 (C : fx_Cx p s m meth c args R cells slots y) {v w : fx_V} (hd : decode (fx_by y) pc = .ok (.dup2, 1)) (kk : fx_WW p l e R s m args below meth c cells slots Q G (pc + 1) ls (v :: w :: v :: w :: st) σ) : fx_WW p l e R s m args below meth c cells slots Q G pc ls (v :: w :: st) σ :=
  fun H locs jl hW hL => lv_dup2_11 C.1 C.2.1 hd (fx_re_cat _ v) (fx_re_cat _ w) (kk H locs jl hW hL)
theorem fxw_if1 (C : fx_Cx p s m meth c args R cells slots y) {cc : ClassFile.Cond} {a off : Int} {tgt : Nat} (ha : fx_in a) (hd : decode (fx_by y) pc = .ok (.ifCond cc off, 3)) (ht : (pc : Int) + off = (tgt : Int)) (kt : fx_cm cc a 0 = true → fx_WW p l e R s m args below meth c cells slots Q G tgt ls st σ) (kf : fx_cm cc a 0 = false → fx_WW p l e R s m args below meth c cells slots Q G (pc + 3) ls st σ) : fx_WW p l e R s m args below meth c cells slots Q G pc ls (.inl a :: st) σ := by
  intro H locs jl hW hL
  have e1 := fx_inj ha fx_in0
  have e2 := fx_lt ha fx_in0
  have e3 := fx_le ha fx_in0
  have e4 := fx_lt fx_in0 ha
  have e5 := fx_le fx_in0 ha
  rw [fx_I0] at e1 e2 e3 e4 e5
  by_cases hc : fx_cm cc a 0 = true
  · have k2 := kt hc H locs jl hW hL
    cases cc <;> simp only [fx_cm, decide_eq_true_eq] at hc
    · exact lv_if_eq (tgt := tgt) C.1 C.2.1 hd ht (fun _ => k2) (fun h => absurd (e1.mpr hc) h)
    · exact lv_if_ne (tgt := tgt) C.1 C.2.1 hd ht (fun _ => k2) (fun h => absurd (e1.mp h) hc)
    · exact lv_if_lt (tgt := tgt) C.1 C.2.1 hd ht (fun _ => k2) (fun h => absurd (e2.mpr hc) h)
    · exact lv_if_ge (tgt := tgt) C.1 C.2.1 hd ht (fun _ => k2) (fun h => absurd (e5.mpr hc) h)
    · exact lv_if_gt (tgt := tgt) C.1 C.2.1 hd ht (fun _ => k2) (fun h => absurd (e4.mpr hc) h)
    · exact lv_if_le (tgt := tgt) C.1 C.2.1 hd ht (fun _ => k2) (fun h => absurd (e3.mpr hc) h)
  · have k2 := kf (by simpa using hc) H locs jl hW hL
    cases cc <;> simp only [fx_cm, decide_eq_true_eq] at hc
    · exact lv_if_eq (tgt := tgt) C.1 C.2.1 hd ht (fun h => absurd (e1.mp h) hc) (fun _ => k2)
    · exact lv_if_ne (tgt := tgt) C.1 C.2.1 hd ht (fun h => absurd (fun q => h (e1.mpr q)) hc) (fun _ => k2)
    · exact lv_if_lt (tgt := tgt) C.1 C.2.1 hd ht (fun h => absurd (e2.mp h) hc) (fun _ => k2)
    · exact lv_if_ge (tgt := tgt) C.1 C.2.1 hd ht (fun h => absurd (e5.mp h) hc) (fun _ => k2)
    · exact lv_if_gt (tgt := tgt) C.1 C.2.1 hd ht (fun h => absurd (e4.mp h) hc) (fun _ => k2)
    · exact lv_if_le (tgt := tgt) C.1 C.2.1 hd ht (fun h => absurd (e3.mp h) hc) (fun _ => k2)
theorem fxw_if2 (C : fx_Cx p s m meth c args R cells slots y) {cc : ClassFile.Cond} {a b off : Int} {tgt : Nat} (ha : fx_in a) (hb : fx_in b) (hd : decode (fx_by y) pc = .ok (.if_icmp cc off, 3)) (ht : (pc : Int) + off = (tgt : Int)) (kt : fx_cm cc a b = true → fx_WW p l e R s m args below meth c cells slots Q G tgt ls st σ) (kf : fx_cm cc a b = false → fx_WW p l e R s m args below meth c cells slots Q G (pc + 3) ls st σ) : fx_WW p l e R s m args below meth c cells slots Q G pc ls (.inl b :: .inl a :: st) σ := by
  intro H locs jl hW hL
  have e1 := fx_inj ha hb
  have e2 := fx_lt ha hb
  have e3 := fx_le ha hb
  have e4 := fx_lt hb ha
  have e5 := fx_le hb ha
  by_cases hc : fx_cm cc a b = true
  · have k2 := kt hc H locs jl hW hL
    cases cc <;> simp only [fx_cm, decide_eq_true_eq] at hc
    · exact lv_icmp_eq (tgt := tgt) C.1 C.2.1 hd ht (fun _ => k2) (fun h => absurd (e1.mpr hc) h)
    · exact lv_icmp_ne (tgt := tgt) C.1 C.2.1 hd ht (fun _ => k2) (fun h => absurd (e1.mp h) hc)
    · exact lv_icmp_lt (tgt := tgt) C.1 C.2.1 hd ht (fun _ => k2) (fun h => absurd (e2.mpr hc) h)
    · exact lv_icmp_ge (tgt := tgt) C.1 C.2.1 hd ht (fun _ => k2) (fun h => absurd (e5.mpr hc) h)
    · exact lv_icmp_gt (tgt := tgt) C.1 C.2.1 hd ht (fun _ => k2) (fun h => absurd (e4.mpr hc) h)
    · exact lv_icmp_le (tgt := tgt) C.1 C.2.1 hd ht (fun _ => k2) (fun h => absurd (e3.mpr hc) h)
  · have k2 := kf (by simpa using hc) H locs jl hW hL
    cases cc <;> simp only [fx_cm, decide_eq_true_eq] at hc
    · exact lv_icmp_eq (tgt := tgt) C.1 C.2.1 hd ht (fun h => absurd (e1.mp h) hc) (fun _ => k2)
    · exact lv_icmp_ne (tgt := tgt) C.1 C.2.1 hd ht (fun h => absurd (fun q => h (e1.mpr q)) hc) (fun _ => k2)
    · exact lv_icmp_lt (tgt := tgt) C.1 C.2.1 hd ht (fun h => absurd (e2.mp h) hc) (fun _ => k2)
    · exact lv_icmp_ge (tgt := tgt) C.1 C.2.1 hd ht (fun h => absurd (e5.mp h) hc) (fun _ => k2)
    · exact lv_icmp_gt (tgt := tgt) C.1 C.2.1 hd ht (fun h => absurd (e4.mp h) hc) (fun _ => k2)
    · exact lv_icmp_le (tgt := tgt) C.1 C.2.1 hd ht (fun h => absurd (e3.mp h) hc) (fun _ => k2)
theorem fxw_goto (C : fx_Cx p s m meth c args R cells slots y) {off : Int} {tgt : Nat} (hd : decode (fx_by y) pc = .ok (.goto off, 3)) (ht : (pc : Int) + off = (tgt : Int)) (kk : fx_WW p l e R s m args below meth c cells slots Q G tgt ls st σ) : fx_WW p l e R s m args below meth c cells slots Q G pc ls st σ :=
  fun H locs jl hW hL => lv_goto C.1 C.2.1 hd ht (kk H locs jl hW hL)
theorem fxw_ifnullN (C : fx_Cx p s m meth c args R cells slots y) {off : Int} {tgt : Nat} (hd : decode (fx_by y) pc = .ok (.ifnull off, 3)) (ht : (pc : Int) + off = (tgt : Int)) (kk : fx_WW p l e R s m args below meth c cells slots Q G tgt ls st σ) : fx_WW p l e R s m args below meth c cells slots Q G pc ls (.inr none :: st) σ :=
  fun H locs jl hW hL => lv_ifnullN C.1 C.2.1 hd ht (kk H locs jl hW hL)
theorem fxw_ifnull (C : fx_Cx p s m meth c args R cells slots y) {off : Int} {q : Nat × Nat} (hd : decode (fx_by y) pc = .ok (.ifnull off, 3)) (kk : fx_WW p l e R s m args below meth c cells slots Q G (pc + 3) ls st σ) : fx_WW p l e R s m args below meth c cells slots Q G pc ls (.inr (some q) :: st) σ :=
  fun H locs jl hW hL => lv_ifnull C.1 C.2.1 hd (kk H locs jl hW hL)
theorem fxw_ifnonnullN (C : fx_Cx p s m meth c args R cells slots y) {off : Int} (hd : decode (fx_by y) pc = .ok (.ifnonnull off, 3)) (kk : fx_WW p l e R s m args below meth c cells slots Q G (pc + 3) ls st σ) : fx_WW p l e R s m args below meth c cells slots Q G pc ls (.inr none :: st) σ :=
  fun H locs jl hW hL => lv_ifnonnullN C.1 C.2.1 hd (kk H locs jl hW hL)
theorem fxw_ifnonnull (C : fx_Cx p s m meth c args R cells slots y) {off : Int} {tgt : Nat} {q : Nat × Nat} (hd : decode (fx_by y) pc = .ok (.ifnonnull off, 3)) (ht : (pc : Int) + off = (tgt : Int)) (kk : fx_WW p l e R s m args below meth c cells slots Q G tgt ls st σ) : fx_WW p l e R s m args below meth c cells slots Q G pc ls (.inr (some q) :: st) σ :=
  fun H locs jl hW hL => lv_ifnonnull C.1 C.2.1 hd ht (kk H locs jl hW hL)
theorem fxw_tswO (C : fx_Cx p s m meth c args R cells slots y) {d lo hi : Int} {offs : Array Int} {len : Nat} {x : Int} {tgt : Nat} (hx : fx_in x) (hd : decode (fx_by y) pc = .ok (.tableswitch d lo hi offs, len)) (h : x < lo ∨ hi < x) (ht : (pc : Int) + d = (tgt : Int)) (kk : fx_WW p l e R s m args below meth c cells slots Q G tgt ls st σ) : fx_WW p l e R s m args below meth c cells slots Q G pc ls (.inl x :: st) σ :=
  fun H locs jl hW hL => lv_tableOut C.1 C.2.1 hd (by rw [fx_toInt hx]; exact h) ht (kk H locs jl hW hL)
theorem fxw_tswI (C : fx_Cx p s m meth c args R cells slots y) {d lo hi : Int} {offs : Array Int} {len : Nat} {x off : Int} {tgt : Nat} (hx : fx_in x) (hd : decode (fx_by y) pc = .ok (.tableswitch d lo hi offs, len)) (h1 : ¬ x < lo) (h2 : ¬ hi < x) (ho : offs[(x - lo).toNat]? = some off) (ht : (pc : Int) + off = (tgt : Int)) (kk : fx_WW p l e R s m args below meth c cells slots Q G tgt ls st σ) : fx_WW p l e R s m args below meth c cells slots Q G pc ls (.inl x :: st) σ :=
  fun H locs jl hW hL => lv_tableIn C.1 C.2.1 hd (by rw [fx_toInt hx]; exact h1) (by rw [fx_toInt hx]; exact h2) (by rw [fx_toInt hx]; exact ho) ht (kk H locs jl hW hL)
theorem fx_cl_in {ci : Nat} {r : vw_C} (h : fx_cl[ci]? = some r) : ∀ w ∈ u_ws r.1 r.2.1 r.2.2, w ∈ fx_tb := by
  match ci, h with
  | 0, h => cases h; exact inX0
  | 1, h => cases h; exact inX1
  | 2, h => cases h; exact inX2
  | 3, h => cases h; exact inX3
  | 4, h => cases h; exact inX4
  | 5, h => cases h; exact inX5
  | 6, h => cases h; exact inX6
  | 7, h => cases h; exact inX7
  | n + 8, h => simp at h
theorem fx_fT_lt : ∀ e ∈ fx_fT, e.2.1 < 8 ∧ e.2.2 < (fx_cl.getD e.2.1 (RX0, TX0, 7)).2.2 := by decide +kernel
theorem fx_fd_in {o i ci k : Nat} (h : fx_fd o i = some (ci, k)) : ∃ r : vw_C, fx_cl[ci]? = some r ∧ k < r.2.2 ∧ r = fx_cl.getD ci (RX0, TX0, 7) ∧ Cond.fieldLink (fx_cs o) i (r.2.1 k).1 (r.2.1 k).2.1 (r.2.1 k).2.2.1 ∈ fx_tb := by
  unfold fx_fd at h
  rw [Option.map_eq_some_iff] at h
  obtain ⟨e, he, h2⟩ := h
  have h3 := List.find?_some he
  simp only [Bool.and_eq_true, beq_iff_eq] at h3
  have hm := List.mem_of_find?_eq_some he
  have h4 := fx_w7 _ (List.mem_map.mpr ⟨e, hm, rfl⟩)
  have h5 := fx_fT_lt e hm
  rw [h3.1, h3.2, h2] at h4
  rw [h2] at h5
  refine ⟨fx_cl.getD ci (RX0, TX0, 7), ?_, h5.2, rfl, h4⟩
  rw [List.getD_eq_getElem?_getD]
  have h6 : ci < fx_cl.length := h5.1
  rw [List.getElem?_eq_getElem h6]
  rfl
theorem fx_mem_gl {G : fx_G} (hG : fx_Ok G) {o g : Nat} (ha : fx_al G (.inr (some (o, g)))) (h : fx_ak o ≠ 4) : (o, g) ∈ fx_gl G := by
  rcases ha with ha | ⟨h1, -⟩
  · exact ha
  · exfalso
    have h1 : o = 90 ∨ o = 91 ∨ o = 92 := h1
    rcases h1 with rfl | rfl | rfl <;> exact h rfl
theorem fx_ob_ak {o ci : Nat} {fl : List (Option (Nat → Nat × Nat))} (h : fx_ob o = some (ci, fl)) : fx_ak o = 0 := by
  unfold fx_ob at h
  unfold fx_ak
  repeat' (split at h)
  all_goals first | (cases h; done) | simp_all
theorem fxw_getf (C : fx_Cx p s m meth c args R cells slots y) {i ci k o g : Nat} {fl : List (Option (Nat → Nat × Nat))} {v : fx_V} (hm : (o, g) ∈ fx_gl G) (hf : fx_fd (fx_own y) i = some (ci, k)) (ho : fx_ob o = some (ci, fl)) (hv : (fx_fl (fx_ga G) σ o g 0 fl)[k]? = some (fx_re (fx_ga G) v)) (hd : decode (fx_by y) pc = .ok (.getfield i, 3)) (kk : fx_WW p l e R s m args below meth c cells slots Q G (pc + 3) ls (v :: st) σ) : fx_WW p l e R s m args below meth c cells slots Q G pc ls (.inr (some (o, g)) :: st) σ := by
  intro H locs jl hW hL
  obtain ⟨q, hq⟩ := fx_mem_at hm
  obtain ⟨r, h1, h2, -, h3⟩ := fx_fd_in hf
  have hc : fx_ce G σ o g = .inr (ci, fx_fl (fx_ga G) σ o g 0 fl) := by unfold fx_ce; rw [ho]
  have hw := fx_ws_at G σ hq
  rw [hc] at hw
  exact va_get C.1 C.2.1 C.2.2.2.2.2.1 (fx_cl_in h1) C.2.2.2.2.1 hW.1 hW.2.1 q hw h1 k h2 (C.2.2.2.2.2.1 _ h3) (fun _ h => h) hv hd (kk H locs jl hW hL)
end FXR
end
section
/-! the machine's rows over a shadow state: stores, arrays, statics, library -/
section FXR2
variable {p : Program} {l : Launch} {e : Env} {R : Room} {s : State} {m : MethodId} {args : Array Value} {below : List Frame} {meth : Method} {c : Code} {cells slots : Nat} {Q : State → Prop} {G : fx_G} {y pc : Nat} {ls : fx_L} {st : List fx_V} {σ : fx_M}
theorem fx_cl_ty {ci : Nat} {r : vw_C} (h : fx_cl[ci]? = some r) : ∃ ty0 : Nat → FieldType, (∀ k, k < r.2.2 → parseFieldDescriptor (r.2.1 k).2.2.1 = some (ty0 k)) ∧ ∀ a, a < r.2.2 → ∀ b, b < r.2.2 → a ≠ b → (r.2.1 a).2.1 ≠ (r.2.1 b).2.1 := by
  match ci, h with
  | 0, h => cases h; exact ⟨tyX0, tyX0_ok, nmX0⟩
  | 1, h => cases h; exact ⟨tyX1, tyX1_ok, nmX1⟩
  | 2, h => cases h; exact ⟨tyX2, tyX2_ok, nmX2⟩
  | 3, h => cases h; exact ⟨tyX3, tyX3_ok, nmX3⟩
  | 4, h => cases h; exact ⟨tyX4, tyX4_ok, nmX4⟩
  | 5, h => cases h; exact ⟨tyX5, tyX5_ok, nmX5⟩
  | 6, h => cases h; exact ⟨tyX6, tyX6_ok, nmX6⟩
  | 7, h => cases h; exact ⟨tyX7, tyX7_ok, nmX7⟩
  | n + 8, h => simp at h
theorem fx_Wd.put {k o g i : Nat} {v : Int} {H H1 : Heap} {locs locs1 : List Loc} {e0 : va_E} (hG : fx_Ok G) (hW : fx_Wd G s σ H locs) (hq : (fx_gl G)[k]? = some (o, g)) (he : fx_ce G (fx_up σ o g i v) o g = e0) (hP : va_P (fx_gD G) fx_cl ((fx_ws G σ).set k (fx_ga G o g, e0)) H1) (hS : va_S (fx_A G) s.heap H1 locs1) : fx_Wd G s (fx_up σ o g i v) H1 locs1 := by
  rw [fx_ws_set G hG.1 hq he (fun o' g' h j => fx_up_ne h j)] at hP
  exact ⟨hW.1, hP, fx_ws_D G hW.2.2.1, hS, hW.2.2.2.2⟩
theorem fxw_putf (C : fx_Cx p s m meth c args R cells slots y) {i ci k o g : Nat} {fl : List (Option (Nat → Nat × Nat))} {v : Int} (hG : fx_Ok G) (hm : (o, g) ∈ fx_gl G) (hf : fx_fd (fx_own y) i = some (ci, k)) (ho : fx_ob o = some (ci, fl)) (hv : fl[k]? = some none) (hok : fx_okf ci k v = true) (hd : decode (fx_by y) pc = .ok (.putfield i, 3)) (kk : fx_WW p l e R s m args below meth c cells slots Q G (pc + 3) ls st (fx_up σ o g k v)) : fx_WW p l e R s m args below meth c cells slots Q G pc ls (.inl v :: .inr (some (o, g)) :: st) σ := by
  intro H locs jl hW hL
  obtain ⟨q, hq⟩ := fx_mem_at hm
  obtain ⟨r, h1, h2, h2e, h3⟩ := fx_fd_in hf
  obtain ⟨ty0, hty, hnm⟩ := fx_cl_ty h1
  have hc : ∀ σ : fx_M, fx_ce G σ o g = .inr (ci, fx_fl (fx_ga G) σ o g 0 fl) := fun σ => by unfold fx_ce; rw [ho]
  have hw := fx_ws_at G σ hq
  rw [hc] at hw
  unfold fx_okf at hok
  rw [← h2e] at hok
  simp only [Bool.and_eq_true, Bool.or_eq_true, beq_iff_eq, Bool.not_eq_true'] at hok
  have hl : k < (fx_fl (fx_ga G) σ o g 0 fl).length := by rw [fx_fl_len]; exact (List.getElem?_eq_some_iff.mp hv).1
  have hset := fx_fl_set (fx_ga G) σ o g v fl 0 k hv
  rw [Nat.zero_add] at hset
  have key : ∃ ty, parseFieldDescriptor (r.2.1 k).2.2.1 = some ty ∧ narrow ty (.int (fx_I v)) = .int (fx_I v) ∧ fits ty (.int (fx_I v)) = true := by
    rcases hok.2 with h | ⟨h, h4⟩
    · exact ⟨.int, by rw [h]; decide +kernel, vp_nar_int _, rfl⟩
    · refine ⟨.boolean, by rw [h]; decide +kernel, ?_⟩
      rcases h4 with rfl | rfl
      · exact ⟨rfl, rfl⟩
      · exact ⟨rfl, rfl⟩
  obtain ⟨ty, e1, e2, e3⟩ := key
  refine va_put C.1 C.2.1 C.2.2.2.2.2.1 (fx_cl_in h1) ty0 hty hnm C.2.2.2.2.1 hW.1 hW.2.1 hW.2.2.1 hW.2.2.2.1 q hw h1 k h2 (C.2.2.2.2.2.1 _ h3) (fun _ h => h) hok.1 e1 e2 e3 hl hd ?_
  intro H1 locs1 hP1 hD1 hS1
  rw [show fx_re (fx_ga G) (Sum.inl v) = Value.int (fx_I v) from rfl, hset] at hP1
  exact kk H1 locs1 jl (hW.put hG hq (hc _) hP1 hS1) hL
theorem fx_sT_ok : ∀ e ∈ fx_sT, (e.2.1, e.2.2) ∈ [(90, "GREATEST_RULE"), (91, "SIDE_ROWS"), (92, "SIDE_COLUMNS")] := by decide +kernel
theorem fx_nT_ok : ∀ e ∈ fx_nT, (e.2.1, e.2.2) ∈ [(90, "GREATEST_RULE"), (91, "SIDE_ROWS"), (92, "SIDE_COLUMNS")] := by decide +kernel
theorem fxw_gets (C : fx_Cx p s m meth c args R cells slots y) {i o : Nat} {n : String} (hf : fx_sd (fx_own y) i = some (o, n)) (hd : decode (fx_by y) pc = .ok (.getstatic i, 3)) (kk : fx_WW p l e R s m args below meth c cells slots Q G (pc + 3) ls (.inr (some (o, 0)) :: st) σ) : fx_WW p l e R s m args below meth c cells slots Q G pc ls st σ := by
  intro H locs jl hW hL
  unfold fx_sd at hf
  rw [Option.map_eq_some_iff] at hf
  obtain ⟨e, he, h2⟩ := hf
  have h3 := List.find?_some he
  simp only [Bool.and_eq_true, beq_iff_eq] at h3
  have hm := List.mem_of_find?_eq_some he
  have h4 := fx_w8 _ (List.mem_map.mpr ⟨e, hm, rfl⟩)
  have h5 := fx_sT_ok e hm
  rw [h3.1, h3.2, h2] at h4
  have h5 : (o, n) ∈ [(90, "GREATEST_RULE"), (91, "SIDE_ROWS"), (92, "SIDE_COLUMNS")] := by rw [h2] at h5; exact h5
  exact va_gets C.1 C.2.1 (hW.2.2.2.2.1 (o, n) h5).1 hW.2.2.2.1 C.2.2.2.2.1 (C.2.2.2.2.2.1 _ h4) (fun _ h => h) hd (kk H locs jl hW hL)
theorem fxw_getsN (C : fx_Cx p s m meth c args R cells slots y) {i o : Nat} {n : String} (hf : fx_nd (fx_own y) i = some (o, n)) (hd : decode (fx_by y) pc = .ok (.getstatic i, 3)) (kk : fx_WW p l e R s m args below meth c cells slots Q G (pc + 3) ls (.inr (some (o, 0)) :: st) σ) : fx_WW p l e R s m args below meth c cells slots Q G pc ls st σ := by
  intro H locs jl hW hL
  unfold fx_nd at hf
  rw [Option.map_eq_some_iff] at hf
  obtain ⟨e, he, h2⟩ := hf
  have h3 := List.find?_some he
  simp only [Bool.and_eq_true, beq_iff_eq] at h3
  have hm := List.mem_of_find?_eq_some he
  have h4 := hW.2.2.2.2.2 e hm
  have h5 := fx_nT_ok e hm
  rw [h3.1, h3.2, h2] at h4
  have h5 : (o, n) ∈ [(90, "GREATEST_RULE"), (91, "SIDE_ROWS"), (92, "SIDE_COLUMNS")] := by rw [h2] at h5; exact h5
  exact va_getsN C.1 C.2.1 (hW.2.2.2.2.1 (o, n) h5).1 hW.2.2.2.1 C.2.2.2.2.1 (va_Nw.use rfl h4) (fun _ h => h) hd (kk H locs jl hW hL)
theorem fx_ak_ob {o : Nat} (h : fx_ak o ≠ 0) : fx_ob o = none := by
  cases ho : fx_ob o with
  | none => rfl
  | some q => exact absurd (fx_ob_ak (ci := q.1) (fl := q.2) ho) h
theorem fx_ce_int {o g : Nat} (h : fx_ak o = 1) : fx_ce G σ o g = .inl (fx_gI G, (fx_gS G).1 o g, .inl (fun i => fx_I (σ o g i))) := by
  unfold fx_ce
  rw [fx_ak_ob (by rw [h]; decide)]
  have h2 : ¬ o = 2 := by rintro rfl; revert h; decide
  simp only [h2, if_false, h]
  simp
theorem fx_ce_bool {o g : Nat} (h : fx_ak o = 2) : fx_ce G σ o g = .inl (fx_gZ G, (fx_gS G).1 o g, .inl (fun i => fx_I (σ o g i))) := by
  unfold fx_ce
  rw [fx_ak_ob (by rw [h]; decide)]
  have h2 : ¬ o = 2 := by rintro rfl; revert h; decide
  simp only [h2, if_false, h]
  simp
theorem fxw_iald (C : fx_Cx p s m meth c args R cells slots y) {o g : Nat} {i : Int} (hG : fx_Ok G) (hm : (o, g) ∈ fx_gl G) (ho : fx_ak o = 1) (h0 : 0 ≤ i) (h1 : i < (fx_gS G).1 o g) (hd : decode (fx_by y) pc = .ok (.iaload, 1)) (kk : fx_WW p l e R s m args below meth c cells slots Q G (pc + 1) ls (.inl (σ o g i.toNat) :: st) σ) : fx_WW p l e R s m args below meth c cells slots Q G pc ls (.inl i :: .inr (some (o, g)) :: st) σ := by
  intro H locs jl hW hL
  obtain ⟨q, hq⟩ := fx_mem_at hm
  have hw := fx_ws_at G σ hq
  rw [fx_ce_int ho] at hw
  have hn := hG.2.1 o g
  have k2 := kk H locs jl hW hL
  refine va_iald C.1 C.2.1 hW.1 hW.2.1 q 0 hw hG.2.2.1 (fx_vin h0 h1 hn) hd ?_
  rw [fx_clamp h0 (by omega)]
  exact k2
theorem fxw_zald (C : fx_Cx p s m meth c args R cells slots y) {o g : Nat} {i : Int} (hG : fx_Ok G) (hm : (o, g) ∈ fx_gl G) (ho : fx_ak o = 2) (h0 : 0 ≤ i) (h1 : i < (fx_gS G).1 o g) (hd : decode (fx_by y) pc = .ok (.baload, 1)) (kk : fx_WW p l e R s m args below meth c cells slots Q G (pc + 1) ls (.inl (σ o g i.toNat) :: st) σ) : fx_WW p l e R s m args below meth c cells slots Q G pc ls (.inl i :: .inr (some (o, g)) :: st) σ := by
  intro H locs jl hW hL
  obtain ⟨q, hq⟩ := fx_mem_at hm
  have hw := fx_ws_at G σ hq
  rw [fx_ce_bool ho] at hw
  have hn := hG.2.1 o g
  have k2 := kk H locs jl hW hL
  refine va_zald C.1 C.2.1 hW.1 hW.2.1 q 1 hw (hG.2.2.2.1 ⟨_, hm, ho⟩) (fx_vin h0 h1 hn) hd ?_
  rw [fx_clamp h0 (by omega)]
  exact k2
theorem fxw_tald (C : fx_Cx p s m meth c args R cells slots y) {o : Nat} {i : Int} (hm : o = 90 ∨ o = 91 ∨ o = 92) (h0 : 0 ≤ i) (h1 : i < (fx_sv o).length) (hd : decode (fx_by y) pc = .ok (.iaload, 1)) (kk : fx_WW p l e R s m args below meth c cells slots Q G (pc + 1) ls (.inl ((fx_sv o).getD i.toNat 0) :: st) σ) : fx_WW p l e R s m args below meth c cells slots Q G pc ls (.inl i :: .inr (some (o, 0)) :: st) σ := by
  intro H locs jl hW hL
  have hT : va_T .int (fx_ga G o 0) (fx_sv o).length (fun j => .int (fx_I ((fx_sv o).getD j 0))) (fx_A G) s s.heap := by
    rcases hm with rfl | rfl | rfl
    · exact (hW.2.2.2.2.1 (90, "GREATEST_RULE") (by simp)).2
    · exact (hW.2.2.2.2.1 (91, "SIDE_ROWS") (by simp)).2
    · exact (hW.2.2.2.2.1 (92, "SIDE_COLUMNS") (by simp)).2
  have hn : (fx_sv o).length < 2147483648 := by rcases hm with rfl | rfl | rfl <;> decide
  have k2 := kk H locs jl hW hL
  exact va_ti C.1 C.2.1 hT hW.2.2.2.1 (fx_vin h0 h1 hn) (by rw [fx_clamp h0 (by omega)]; rfl) hd k2
theorem fxw_tlen (C : fx_Cx p s m meth c args R cells slots y) {o : Nat} (hm : o = 90 ∨ o = 91 ∨ o = 92) (hd : decode (fx_by y) pc = .ok (.arraylength, 1)) (kk : fx_WW p l e R s m args below meth c cells slots Q G (pc + 1) ls (.inl (fx_sv o).length :: st) σ) : fx_WW p l e R s m args below meth c cells slots Q G pc ls (.inr (some (o, 0)) :: st) σ := by
  intro H locs jl hW hL
  have hT : va_T .int (fx_ga G o 0) (fx_sv o).length (fun j => .int (fx_I ((fx_sv o).getD j 0))) (fx_A G) s s.heap := by
    rcases hm with rfl | rfl | rfl
    · exact (hW.2.2.2.2.1 (90, "GREATEST_RULE") (by simp)).2
    · exact (hW.2.2.2.2.1 (91, "SIDE_ROWS") (by simp)).2
    · exact (hW.2.2.2.2.1 (92, "SIDE_COLUMNS") (by simp)).2
  exact va_tlen C.1 C.2.1 hT hW.2.2.2.1 (fx_ofNat _) hd (kk H locs jl hW hL)
theorem fxw_alen (C : fx_Cx p s m meth c args R cells slots y) {o g : Nat} (hG : fx_Ok G) (hm : (o, g) ∈ fx_gl G) (ho : fx_ak o = 1 ∨ fx_ak o = 2) (hd : decode (fx_by y) pc = .ok (.arraylength, 1)) (kk : fx_WW p l e R s m args below meth c cells slots Q G (pc + 1) ls (.inl ((fx_gS G).1 o g) :: st) σ) : fx_WW p l e R s m args below meth c cells slots Q G pc ls (.inr (some (o, g)) :: st) σ := by
  intro H locs jl hW hL
  obtain ⟨q, hq⟩ := fx_mem_at hm
  have hw := fx_ws_at G σ hq
  rcases ho with ho | ho
  · rw [fx_ce_int ho] at hw
    exact va_alen C.1 C.2.1 hW.1 hW.2.1 q 0 hw hG.2.2.1 (fx_ofNat _) hd (kk H locs jl hW hL)
  · rw [fx_ce_bool ho] at hw
    exact va_alen C.1 C.2.1 hW.1 hW.2.1 q 1 hw (hG.2.2.2.1 ⟨_, hm, ho⟩) (fx_ofNat _) hd (kk H locs jl hW hL)
theorem fx_upd_I {o g i : Nat} {v : Int} : upd (fun j => fx_I (σ o g j)) i (fx_I v) = fun j => fx_I (fx_up σ o g i v o g j) := by
  funext j
  unfold upd fx_up
  by_cases h : j = i <;> simp [h]
theorem fxw_iast (C : fx_Cx p s m meth c args R cells slots y) {o g : Nat} {i v : Int} (hG : fx_Ok G) (hm : (o, g) ∈ fx_gl G) (ho : fx_ak o = 1) (h0 : 0 ≤ i) (h1 : i < (fx_gS G).1 o g) (hd : decode (fx_by y) pc = .ok (.iastore, 1)) (kk : fx_WW p l e R s m args below meth c cells slots Q G (pc + 1) ls st (fx_up σ o g i.toNat v)) : fx_WW p l e R s m args below meth c cells slots Q G pc ls (.inl v :: .inl i :: .inr (some (o, g)) :: st) σ := by
  intro H locs jl hW hL
  obtain ⟨q, hq⟩ := fx_mem_at hm
  have hw := fx_ws_at G σ hq
  rw [fx_ce_int ho] at hw
  have hn := hG.2.1 o g
  refine va_iast C.1 C.2.1 hW.1 hW.2.1 hW.2.2.1 hW.2.2.2.1 q 0 hw hG.2.2.1 (fx_vin h0 h1 hn) hd ?_
  intro H1 locs1 hP1 hD1 hS1
  rw [fx_clamp h0 (by omega), fx_upd_I] at hP1
  exact kk H1 locs1 jl (hW.put hG hq (fx_ce_int ho) hP1 hS1) hL
theorem fxw_zast (C : fx_Cx p s m meth c args R cells slots y) {o g : Nat} {i v : Int} (hG : fx_Ok G) (hm : (o, g) ∈ fx_gl G) (ho : fx_ak o = 2) (h0 : 0 ≤ i) (h1 : i < (fx_gS G).1 o g) (hv : v = 0 ∨ v = 1) (hd : decode (fx_by y) pc = .ok (.bastore, 1)) (kk : fx_WW p l e R s m args below meth c cells slots Q G (pc + 1) ls st (fx_up σ o g i.toNat v)) : fx_WW p l e R s m args below meth c cells slots Q G pc ls (.inl v :: .inl i :: .inr (some (o, g)) :: st) σ := by
  intro H locs jl hW hL
  obtain ⟨q, hq⟩ := fx_mem_at hm
  have hw := fx_ws_at G σ hq
  rw [fx_ce_bool ho] at hw
  have hn := hG.2.1 o g
  have hv2 : vp_nar .boolean (fx_I v) = fx_I v := by rcases hv with rfl | rfl <;> rfl
  refine va_zast C.1 C.2.1 hW.1 hW.2.1 hW.2.2.1 hW.2.2.2.1 q 1 hw (hG.2.2.2.1 ⟨_, hm, ho⟩) (fx_vin h0 h1 hn) hd ?_
  intro H1 locs1 hP1 hD1 hS1
  rw [fx_clamp h0 (by omega), hv2, fx_upd_I] at hP1
  exact kk H1 locs1 jl (hW.put hG hq (fx_ce_bool ho) hP1 hS1) hL
theorem fxw_aald (C : fx_Cx p s m meth c args R cells slots y) {i : Int} (hG : fx_Ok G) (hm : (2, 0) ∈ fx_gl G) (h0 : 0 ≤ i) (h1 : i < (fx_gS G).1 2 0) (hd : decode (fx_by y) pc = .ok (.aaload, 1)) (kk : fx_WW p l e R s m args below meth c cells slots Q G (pc + 1) ls (.inr (if i.toNat < (fx_gS G).2 then some (12, i.toNat) else none) :: st) σ) : fx_WW p l e R s m args below meth c cells slots Q G pc ls (.inl i :: .inr (some (2, 0)) :: st) σ := by
  intro H locs jl hW hL
  obtain ⟨q, hq⟩ := fx_mem_at hm
  have hw := fx_ws_at G σ hq
  have hc : fx_ce G σ 2 0 = .inl (fx_gQ G, (fx_gS G).1 2 0, .inr (.inr (.inr (.inr (fun j => if j < (fx_gS G).2 then some (fx_ga G 12 j) else none))))) := by
    unfold fx_ce
    rw [fx_ak_ob (by decide)]
    rfl
  rw [hc] at hw
  have hn := hG.2.1 2 0
  have k2 := kk H locs jl hW hL
  refine va_aldq C.1 C.2.1 hW.1 hW.2.1 q 2 hw (hG.2.2.2.2.1 hm) (fx_vin h0 h1 hn) hd ?_
  rw [fx_clamp h0 (by omega)]
  by_cases hj : i.toNat < (fx_gS G).2
  · simp only [hj, if_true] at k2 ⊢
    exact k2
  · simp only [hj, if_false] at k2 ⊢
    exact k2
theorem fx_pd_in {i k : Nat} (h : fx_pd y i = some k) : Cond.methodLink (fx_cs (fx_own y)) i (fx_mn k) ∈ fx_tb := by
  unfold fx_pd at h
  rw [Option.map_eq_some_iff] at h
  obtain ⟨e, he, h2⟩ := h
  have h3 := List.find?_some he
  simp only [Bool.and_eq_true, beq_iff_eq] at h3
  have h4 := fx_w16 _ (List.mem_map.mpr ⟨e, List.mem_of_find?_eq_some he, rfl⟩)
  rw [h3.1, h3.2, h2] at h4
  exact h4
theorem fx_cat_sum (ad : Nat → Nat → Nat) (st : List fx_V) : ((st.map (fx_re ad)).map (fun v => v.category)).sum = st.length := by
  induction st with
  | nil => rfl
  | cons v t ih => simp only [List.map_cons, List.sum_cons, List.length_cons, ih, fx_re_cat]; omega
theorem fx_room (C : fx_Cx p s m meth c args R cells slots y) (h : st.length ≤ 8) : ((st.map (fx_re (fx_ga G))).map (fun v => v.category)).sum + 13 ≤ R.locals := by
  rw [fx_cat_sum]
  have := C.2.2.2.2.2.2.2.2.1
  omega
theorem fxw_max (C : fx_Cx p s m meth c args R cells slots y) {i : Nat} {a b : Int} (hf : fx_pd y i = some 0) (ha : fx_in a) (hb : fx_in b) (hst : st.length ≤ 8) (hls : ls.length = fx_mL y) (hd : decode (fx_by y) pc = .ok (.invokestatic i, 3)) (kk : fx_WW p l e R s m args below meth c cells slots Q G (pc + 3) ls (.inl (if a < b then b else a) :: st) σ) : fx_WW p l e R s m args below meth c cells slots Q G pc ls (.inl b :: .inl a :: st) σ := by
  intro H locs jl hW hL
  have k2 := kk H locs jl hW hL
  refine va_mmax C.1 C.2.1 (by rw [hL.1, hls]; exact C.2.2.1) C.2.2.2.2.1 (C.2.2.2.2.2.1 _ (fx_pd_in hf)) (C.2.2.2.2.2.1 _ (fx_w17 _ (by simp))) (C.2.2.2.2.2.1 _ (fx_w17 _ (by simp))) (C.2.2.2.2.2.1 _ (fx_w18 _ (by simp))) (by have := C.2.2.2.2.2.2.2.1; omega) (fx_room C hst) C.2.2.2.2.2.2.2.2.2.1 C.2.2.2.2.2.2.2.2.2.2 hd ?_
  by_cases h : a < b
  · rw [if_pos ((fx_lt ha hb).mpr h)]; rw [if_pos h] at k2; exact k2
  · rw [if_neg (fun q => h ((fx_lt ha hb).mp q))]; rw [if_neg h] at k2; exact k2
theorem fxw_min (C : fx_Cx p s m meth c args R cells slots y) {i : Nat} {a b : Int} (hf : fx_pd y i = some 1) (ha : fx_in a) (hb : fx_in b) (hst : st.length ≤ 8) (hls : ls.length = fx_mL y) (hd : decode (fx_by y) pc = .ok (.invokestatic i, 3)) (kk : fx_WW p l e R s m args below meth c cells slots Q G (pc + 3) ls (.inl (if b < a then b else a) :: st) σ) : fx_WW p l e R s m args below meth c cells slots Q G pc ls (.inl b :: .inl a :: st) σ := by
  intro H locs jl hW hL
  have k2 := kk H locs jl hW hL
  refine va_mmin C.1 C.2.1 (by rw [hL.1, hls]; exact C.2.2.1) C.2.2.2.2.1 (C.2.2.2.2.2.1 _ (fx_pd_in hf)) (C.2.2.2.2.2.1 _ (fx_w17 _ (by simp))) (C.2.2.2.2.2.1 _ (fx_w17 _ (by simp))) (C.2.2.2.2.2.1 _ (fx_w18 _ (by simp))) (by have := C.2.2.2.2.2.2.2.1; omega) (fx_room C hst) C.2.2.2.2.2.2.2.2.2.1 C.2.2.2.2.2.2.2.2.2.2 hd ?_
  by_cases h : b < a
  · rw [if_pos ((fx_lt hb ha).mpr h)]; rw [if_pos h] at k2; exact k2
  · rw [if_neg (fun q => h ((fx_lt hb ha).mp q))]; rw [if_neg h] at k2; exact k2
theorem fxw_abs (C : fx_Cx p s m meth c args R cells slots y) {i : Nat} {a : Int} (hf : fx_pd y i = some 2) (ha : fx_in a) (hst : st.length ≤ 8) (hls : ls.length = fx_mL y) (hd : decode (fx_by y) pc = .ok (.invokestatic i, 3)) (kk : fx_WW p l e R s m args below meth c cells slots Q G (pc + 3) ls (.inl (if 0 ≤ a then a else -a) :: st) σ) : fx_WW p l e R s m args below meth c cells slots Q G pc ls (.inl a :: st) σ := by
  intro H locs jl hW hL
  have k2 := kk H locs jl hW hL
  refine va_mabs C.1 C.2.1 (by rw [hL.1, hls]; exact C.2.2.1) C.2.2.2.2.1 (C.2.2.2.2.2.1 _ (fx_pd_in hf)) (C.2.2.2.2.2.1 _ (fx_w17 _ (by simp))) (C.2.2.2.2.2.1 _ (fx_w17 _ (by simp))) (C.2.2.2.2.2.1 _ (fx_w18 _ (by simp))) (by have := C.2.2.2.2.2.2.2.1; omega) (fx_room C hst) C.2.2.2.2.2.2.2.2.2.1 C.2.2.2.2.2.2.2.2.2.2 hd ?_
  rw [← fx_I0]
  by_cases h : 0 ≤ a
  · rw [if_pos ((fx_le fx_in0 ha).mpr h)]; rw [if_pos h] at k2; exact k2
  · rw [if_neg (fun q => h ((fx_le fx_in0 ha).mp q))]; rw [if_neg h] at k2
    simp only [List.map_cons, fx_re, fx_I, Int32.ofInt_neg] at k2
    rw [fx_I0, Int32.zero_sub]
    exact k2
theorem fxw_copy (C : fx_Cx p s m meth c args R cells slots y) {i o0 g0 o1 g1 : Nat} {n dp sp : Int} (hG : fx_Ok G) (hm0 : (o0, g0) ∈ fx_gl G) (hm1 : (o1, g1) ∈ fx_gl G) (hf : (y, i) ∈ fx_aT) (h0 : fx_ak o0 = 1) (h1 : fx_ak o1 = 1) (hn : 0 ≤ n) (hdp : 0 ≤ dp) (hsp : 0 ≤ sp) (hs : sp + n ≤ (fx_gS G).1 o0 g0) (hdd : dp + n ≤ (fx_gS G).1 o1 g1) (hst : st.length ≤ 8) (hls : ls.length = fx_mL y) (hd : decode (fx_by y) pc = .ok (.invokestatic i, 3))
    (kk : fx_WW p l e R s m args below meth c cells slots Q G (pc + 3) ls st (fun o g k => if o = o1 ∧ g = g1 ∧ dp.toNat ≤ k ∧ k < dp.toNat + n.toNat then σ o0 g0 (sp.toNat + (k - dp.toNat)) else σ o g k)) : fx_WW p l e R s m args below meth c cells slots Q G pc ls (.inl n :: .inl dp :: .inr (some (o1, g1)) :: .inl sp :: .inr (some (o0, g0)) :: st) σ := by
  intro H locs jl hW hL
  obtain ⟨q0, hq0⟩ := fx_mem_at hm0
  obtain ⟨q1, hq1⟩ := fx_mem_at hm1
  have hw0 := fx_ws_at G σ hq0
  have hw1 := fx_ws_at G σ hq1
  rw [fx_ce_int h0] at hw0
  rw [fx_ce_int h1] at hw1
  have b0 := hG.2.1 o0 g0
  have b1 := hG.2.1 o1 g1
  have en : (fx_I n).toNatClampNeg = n.toNat := fx_clamp hn (by omega)
  have ed : (fx_I dp).toNatClampNeg = dp.toNat := fx_clamp hdp (by omega)
  have es : (fx_I sp).toNatClampNeg = sp.toNat := fx_clamp hsp (by omega)
  have hlink := fx_w10 _ (List.mem_map.mpr ⟨(y, i), hf, rfl⟩)
  have pos : ∀ x : Int, 0 ≤ x → x < 2147483648 → ¬ fx_I x < 0 := fun x hx hx2 q => by
    have := (fx_lt (x := x) (y := 0) ⟨by omega, by omega⟩ fx_in0).mp q
    omega
  refine va_copyi C.1 C.2.1 (by rw [hL.1, hls]; exact C.2.2.1) C.2.2.2.2.1 (C.2.2.2.2.2.1 _ hlink) (C.2.2.2.2.2.1 _ (fx_w11 _ (by simp))) (C.2.2.2.2.2.1 _ (fx_w11 _ (by simp))) (C.2.2.2.2.2.1 _ (fx_w11 _ (by simp))) hW.1 hW.2.1 hW.2.2.1 hW.2.2.2.1 q0 q1 0 0 hw0 hw1 hG.2.2.1 hG.2.2.1 rfl (pos sp hsp (by omega)) (pos dp hdp (by omega)) (pos n hn (by omega)) (by rw [en, es]; omega) (by rw [en, ed]; omega) (fun _ _ => rfl) (by have := C.2.2.2.2.2.2.2.1; omega) ?_ hd ?_
  · rw [fx_cat_sum]
    have h3 : nativeFrameWords "java/lang/System" "arraycopy" 5 + 11 ≤ 30 := by decide +kernel
    have := C.2.2.2.2.2.2.2.2.1
    omega
  · intro H1 locs1 hP1 hD1 hS1
    refine kk H1 locs1 jl ⟨hW.1, ?_, fx_ws_D G hW.2.2.1, hS1, hW.2.2.2.2⟩ hL
    rw [fx_ws_set G (σ' := fun o g k => if o = o1 ∧ g = g1 ∧ dp.toNat ≤ k ∧ k < dp.toNat + n.toNat then σ o0 g0 (sp.toNat + (k - dp.toNat)) else σ o g k) hG.1 hq1 ?_ ?_] at hP1
    · exact hP1
    · rw [fx_ce_int h1, en, ed, es]
      congr 4
      funext k
      unfold va_cpy
      by_cases hk : dp.toNat ≤ k ∧ k < dp.toNat + n.toNat
      · simp [hk]
      · simp only [hk, and_false, if_false]
    · intro o' g' hne j
      rw [if_neg]
      rintro ⟨a1, a2, -⟩
      exact hne (by rw [a1, a2])
end FXR2
end
section
/-! calls, answers, and the simulation: what the shadow machine answers, the machine answers -/
def fx_WS (z : Nat) : List Cond := Cond.code (fx_nm z) (fx_by z) (fx_mL z) (fx_rt z) :: fx_tb
def fx_RM (z : Nat) : Room := { frames := fx_lv z + 1, cells := 0, slots := 0, locals := 40 * (fx_lv z + 1) }
def fx_Pc (G : fx_G) (as : List fx_V) (σ : fx_M) : Array Value → State → Prop := va_Pc (as.map (fx_re (fx_ga G))) (fun U => va_K (fx_gD G) fx_cl (fx_gt G) U ∧ va_P (fx_gD G) fx_cl (fx_ws G σ) U.heap ∧ va_D (fx_A G) (fx_ws G σ) ∧ fx_Sa (fx_ga G) (fx_A G) U U.heap)
def fx_Qc (G : fx_G) (r : fx_R) : Array Value → State → Outcome → State → Prop := fun _ st oc t => oc = .returned (r.1.map (fx_re (fx_ga G))) ∧ va_P (fx_gD G) fx_cl (fx_ws G r.2) t.heap ∧ va_F (fx_A G) st t
abbrev fx_Met (l : Launch) (G : fx_G) (z : Nat) (as : List fx_V) (σ : fx_M) (r : fx_R) : Prop := Met l (fx_nm z) (fx_WS z) (fx_RM z) (fx_Pc G as σ) (fx_Qc G r) 0 0 (fx_A G)
theorem fx_blind {as : List fx_V} {G : fx_G} {σ : fx_M} : FrameBlind (fx_Pc G as σ) := by
  rintro a U g mk ⟨h1, h2, h3, h4, h5⟩
  exact ⟨h1, va_K.moved (u := U) (U := U.calling g mk a) (Vm.Alike.refl U.vm) h2, h3, h4, fx_Sa.same (u := U) (U := U.calling g mk a) rfl h5⟩
theorem fx_good_tb : GoodIn fx_tb fx_tb := fun w h => ⟨h, good_of_word (fx_tb_good w h)⟩
theorem fx_good1 {w : Cond} {ws : List Cond} (h : w ∈ fx_tb) (hr : GoodIn fx_tb ws) : GoodIn fx_tb (w :: ws) := fun v hv => (List.mem_cons.mp hv).elim (fun e => e ▸ ⟨h, good_of_word (fx_tb_good w h)⟩) (hr v)
theorem fx_w2m {z : Nat} (hz : z < fx_nM) : Cond.initialized (fx_nm z).cls ∈ fx_tb := fx_w2 _ (List.mem_map.mpr ⟨z, List.mem_range.mpr hz, rfl⟩)
theorem fx_ca_in {y i z n k : Nat} (h : fx_ca y i = some (z, n, k)) : Cond.methodLink (fx_cs (fx_own y)) i (fx_nm z) ∈ fx_tb ∧ (fx_lv z < fx_lv y ∧ fx_mL z ≤ 20 ∧ Jvm.plainName (fx_nm z).cls = true ∧ (parseMethodDescriptor (fx_nm z).desc).map (fun d => d.parameters.length) = some n ∧ (fx_nm z).cls ≠ "java/lang/invoke/MethodHandle" ∧ (fx_nm z).cls ≠ "java/lang/invoke/VarHandle" ∧ z < fx_nM ∧ z ∈ (if k = 0 then fx_iM else fx_tM) ∧ k < 2) := by
  unfold fx_ca at h
  rw [Option.map_eq_some_iff] at h
  obtain ⟨e, he, h2⟩ := h
  have h3 := List.find?_some he
  simp only [Bool.and_eq_true, beq_iff_eq] at h3
  have hm := List.mem_of_find?_eq_some he
  have h4 := fx_w6 _ (List.mem_map.mpr ⟨e, hm, rfl⟩)
  have h5 := fx_w12 e hm
  rw [h3.1, h2] at h5
  rw [h3.1, h3.2, h2] at h4
  exact ⟨h4, h5⟩
theorem fx_ob_cl {o ci : Nat} {fl : List (Option (Nat → Nat × Nat))} (h : fx_ob o = some (ci, fl)) : ∃ r : vw_C, fx_cl[ci]? = some r ∧ r.1 = fx_cs ci := by
  have h8 : ci = 0 ∨ ci = 1 ∨ ci = 2 ∨ ci = 3 ∨ ci = 4 ∨ ci = 5 ∨ ci = 6 ∨ ci = 7 := by
    unfold fx_ob at h
    repeat' (split at h)
    all_goals first | (cases h; done) | (cases h; simp)
  rcases h8 with rfl | rfl | rfl | rfl | rfl | rfl | rfl | rfl <;> exact ⟨_, rfl, rfl⟩
section FXS
variable {p : Program} {l : Launch} {e : Env} {R : Room} {s : State} {m : MethodId} {args : Array Value} {below : List Frame} {meth : Method} {c : Code} {cells slots : Nat} {Q : State → Prop} {G : fx_G} {y pc : Nat} {ls : fx_L} {st : List fx_V} {σ : fx_M}
theorem fx_after {H : Heap} {locs : List Loc} {jl : Array Slot} {st0 rest : List Value} {r : fx_R} {A : Array Value} (hW : fx_Wd G s σ H locs) (hr : va_Run p l e R s m args below meth c H locs cells slots 0 0 (F0 m pc jl st0) rest (fx_Qc G r A) (fx_A G))
    (kk : ∀ (H1 : Heap) (locs1 : List Loc), fx_Wd G s r.2 H1 locs1 → W p l e R s m args below meth c H1 locs1 cells slots Q (F0 m (pc + 3) jl ((r.1.map (fx_re (fx_ga G))).toList ++ rest))) : W p l e R s m args below meth c H locs cells slots Q (F0 m pc jl st0) := by
  intro T hT X
  obtain ⟨v, st₀, t, T', L, h0, X', hL, e1, e2, ⟨hv, hP, hz, hk⟩, st⟩ := hr T hT X
  cases hv
  rw [h0] at hz hk
  have hS := hW.2.2.2.1
  have hS1 : va_S (fx_A G) s.heap T'.heap (locs ++ L) := ⟨Nat.le_trans hS.1 (by rw [e1]; exact hz), fun q h1 h2 => by rw [e1, hk q (Nat.lt_of_lt_of_le h1 hS.1) h2]; exact hS.2.1 q h1 h2, fun q hq => by
      rcases List.mem_append.mp hq with h | h
      · exact hS.2.2 q h
      · exact hL q h⟩
  obtain ⟨t2, a1, b1⟩ := kk T'.heap (locs ++ L) ⟨hW.1, by rw [e1]; exact hP, fx_ws_D G hW.2.2.1, hS1, hW.2.2.2.2⟩ T' rfl X'
  exact ⟨t2, st t2 a1, b1⟩
theorem fx_toList (ad : Nat → Nat → Nat) (v : Option fx_V) (rest : List fx_V) : (v.map (fx_re ad)).toList ++ rest.map (fx_re ad) = (v.toList ++ rest).map (fx_re ad) := by
  cases v <;> simp
theorem fxw_callV (C : fx_Cx p s m meth c args R cells slots y) {i z n o g : Nat} {as rest : List fx_V} {r : fx_R} (hca : fx_ca y i = some (z, n, 0)) (hm : (o, g) ∈ fx_gl G) (hob : (fx_ob o).map (fun q => q.1) = some (fx_own z)) (hn : as.length = n) (hrest : rest.length ≤ 8) (hls : ls.length = fx_mL y) (M : fx_Met l G z (.inr (some (o, g)) :: as) σ r) (hd : decode (fx_by y) pc = .ok (.invokevirtual i, 3)) (kk : fx_WW p l e R s m args below meth c cells slots Q G (pc + 3) ls (r.1.toList ++ rest) r.2) : fx_WW p l e R s m args below meth c cells slots Q G pc ls (as.reverse ++ .inr (some (o, g)) :: rest) σ := by
  intro H locs jl hW hL
  obtain ⟨hlink, hlev, hmL, hplain, hdesc, hc1, hc2, hz, hzi, -⟩ := fx_ca_in hca
  rw [if_pos rfl] at hzi
  rw [Option.map_eq_some_iff] at hob
  obtain ⟨⟨ci, fl⟩, ho, hci⟩ := hob
  dsimp only at hci
  obtain ⟨rr, hcl, hcs⟩ := fx_ob_cl ho
  obtain ⟨q, hq⟩ := fx_mem_at hm
  have hw := fx_ws_at G σ hq
  have hce : fx_ce G σ o g = .inr (ci, fx_fl (fx_ga G) σ o g 0 fl) := by unfold fx_ce; rw [ho]
  rw [hce] at hw
  have hcls : (fx_nm z).cls = rr.1 := by rw [hcs, hci]; exact (fx_w13 z hz).1
  have hrecv := va_recv hW.1 hW.2.1 hcl hw
  rw [← hcls] at hrecv
  have hin := fx_w3 _ (List.mem_map.mpr ⟨z, hzi, rfl⟩)
  have hse := fx_w4 _ (List.mem_map.mpr ⟨z, hzi, rfl⟩)
  have hT : GoodIn fx_tb (wsV (fx_cs (fx_own y)) i (fx_nm z).cls (fx_nm z) (fx_WS z)) := fx_good1 hlink (fx_good1 hin (fx_good1 hse (fx_good1 (fx_w2m hz) (fx_good1 (fx_w1 hz) fx_good_tb))))
  have hroom : (fx_RM z).frames + 1 ≤ R.frames ∧ 8 + (fx_mL z + 11) + (fx_RM z).locals ≤ R.locals := by
    have h1 := C.2.2.2.2.2.2.2.1
    have h2 := C.2.2.2.2.2.2.2.2.1
    show fx_lv z + 1 + 1 ≤ R.frames ∧ 8 + (fx_mL z + 11) + 40 * (fx_lv z + 1) ≤ R.locals
    omega
  have cw := cwV (R := R) (s := s) (args := args) (rm := fx_RM z) (mc := 0) (ms := 0) n C.2.2.2.2.2.1 hT rfl rfl rfl ⟨rfl, hc1, hc2, hdesc⟩ hroom
  have run := va_runV (l := l) (e := e) (below := below) (meth := meth) (locs := locs) (cells := cells) (slots := slots) (As := as.map (fx_re (fx_ga G))) (rest := rest.map (fx_re (fx_ga G))) (g := F0 m pc jl ((as.reverse ++ .inr (some (o, g)) :: rest).map (fx_re (fx_ga G)))) ⟨C.1, C.2.1, C.2.2.1, C.2.2.2.2.1, C.2.2.2.2.2.1⟩ M cw ⟨fx_blind, hrecv, fun U hU hWm => ⟨rfl, va_K.moved hWm.alike hW.1, by rw [hU]; exact hW.2.1, hW.2.2.1, by rw [hU]; exact fx_Sa.kept (fx_Sa.moved hWm hW.2.2.2.2) (fun a h1 h2 => hW.2.2.2.1.2.1 a h1 h2)⟩⟩ rfl (by rw [List.length_map]; exact hn) (hL.1.trans hls) (by simp [fx_re]) (lv_room (by rw [fx_cat_sum]; exact hrest)) hd ⟨C.2.2.2.2.2.2.2.2.2.1, C.2.2.2.2.2.2.2.2.2.2⟩
  refine fx_after hW run (fun H1 locs1 hW1 => ?_)
  rw [fx_toList]
  exact kk H1 locs1 jl hW1 hL
theorem fxw_callS (C : fx_Cx p s m meth c args R cells slots y) {i z n : Nat} {as rest : List fx_V} {r : fx_R} (hca : fx_ca y i = some (z, n, 1)) (hn : as.length = n) (hrest : rest.length ≤ 8) (hls : ls.length = fx_mL y) (M : fx_Met l G z as σ r) (hd : decode (fx_by y) pc = .ok (.invokestatic i, 3)) (kk : fx_WW p l e R s m args below meth c cells slots Q G (pc + 3) ls (r.1.toList ++ rest) r.2) : fx_WW p l e R s m args below meth c cells slots Q G pc ls (as.reverse ++ rest) σ := by
  intro H locs jl hW hL
  obtain ⟨hlink, hlev, hmL, hplain, hdesc, hc1, hc2, hz, hzi, -⟩ := fx_ca_in hca
  rw [if_neg (by decide)] at hzi
  have hst := fx_w5 _ (List.mem_map.mpr ⟨z, hzi, rfl⟩)
  have hT : GoodIn fx_tb (va_wsS (fx_cs (fx_own y)) i (fx_nm z) (fx_WS z)) := fx_good1 hlink (fx_good1 hst (fx_good1 (fx_w2m hz) (fx_good1 (fx_w1 hz) fx_good_tb)))
  have hroom : (fx_RM z).frames + 1 ≤ R.frames ∧ 8 + (fx_mL z + 11) + (fx_RM z).locals ≤ R.locals := by
    have h1 := C.2.2.2.2.2.2.2.1
    have h2 := C.2.2.2.2.2.2.2.2.1
    show fx_lv z + 1 + 1 ≤ R.frames ∧ 8 + (fx_mL z + 11) + 40 * (fx_lv z + 1) ≤ R.locals
    omega
  have cw := va_cwS (R := R) (s := s) (args := args) (rm := fx_RM z) (mc := 0) (ms := 0) n C.2.2.2.2.2.1 hT rfl rfl rfl ⟨hc1, hc2, hdesc⟩ hroom
  have run := va_runS (l := l) (e := e) (below := below) (meth := meth) (H := H) (locs := locs) (cells := cells) (slots := slots) (As := as.map (fx_re (fx_ga G))) (rest := rest.map (fx_re (fx_ga G))) (g := F0 m pc jl ((as.reverse ++ rest).map (fx_re (fx_ga G)))) ⟨C.1, C.2.1, C.2.2.1, C.2.2.2.2.1, C.2.2.2.2.2.1⟩ M cw ⟨fx_blind, fun U hU hWm => ⟨rfl, va_K.moved hWm.alike hW.1, by rw [hU]; exact hW.2.1, hW.2.2.1, by rw [hU]; exact fx_Sa.kept (fx_Sa.moved hWm hW.2.2.2.2) (fun a h1 h2 => hW.2.2.2.1.2.1 a h1 h2)⟩⟩ rfl (by rw [List.length_map]; exact hn) (hL.1.trans hls) (by simp [fx_re]) (lv_room (by rw [fx_cat_sum]; exact hrest)) hd ⟨C.2.2.2.2.2.2.2.2.2.1, C.2.2.2.2.2.2.2.2.2.2⟩
  refine fx_after hW run (fun H1 locs1 hW1 => ?_)
  rw [fx_toList]
  exact kk H1 locs1 jl hW1 hL
end FXS
theorem fx_args_mem {ad : Nat → Nat → Nat} : ∀ (as : List fx_V) (i k : Nat) (v : fx_V), as[k]? = some v → (i + k, fx_re ad v) ∈ lv_args i (as.map (fx_re ad))
  | [], i, k, v, h => by simp at h
  | a :: as, i, 0, v, h => by
    simp only [List.getElem?_cons_zero, Option.some.injEq] at h
    subst h
    exact List.mem_cons_self
  | a :: as, i, k + 1, v, h => by
    rw [List.getElem?_cons_succ] at h
    have h2 := fx_args_mem (ad := ad) as (i + 1) k v h
    rw [Nat.add_right_comm, Nat.add_assoc] at h2
    simp only [List.map_cons, lv_args]
    rw [if_neg (by rw [fx_re_cat]; decide)]
    exact List.mem_cons_of_mem _ h2
theorem fx_sl_len {ad : Nat → Nat → Nat} (as : List fx_V) : (lg_sl (as.map (fx_re ad))).length = as.length := by
  induction as with
  | nil => rfl
  | cons a t ih =>
    simp only [lg_sl, List.map_cons, List.flatMap_cons, List.length_append] at ih ⊢
    rw [if_neg (by rw [fx_re_cat]; decide), ih]
    simp only [List.length_cons, List.length_nil]
    omega
theorem fx_ent_Lo {ad : Nat → Nat → Nat} {z : Nat} {as : List fx_V} (h : as.length ≤ fx_mL z) : fx_Lo ad ((lg_sl (as.map (fx_re ad)) ++ List.replicate (fx_mL z - (lg_sl (as.map (fx_re ad))).length) Slot.unset).toArray) (fx_ent z as) := by
  have hl := lv_entry (as.map (fx_re ad)) (n := fx_mL z) (by rw [fx_sl_len]; exact h)
  refine ⟨?_, hl.2.1, ?_⟩
  · rw [hl.1]
    unfold fx_ent
    rw [List.length_append, List.length_map, List.length_replicate]
    omega
  · intro k v hk
    unfold fx_ent at hk
    by_cases hka : k < as.length
    · rw [List.getElem?_append_left (by rw [List.length_map]; exact hka), List.getElem?_map] at hk
      cases hv : as[k]? with
      | none => rw [hv] at hk; cases hk
      | some w =>
        rw [hv] at hk
        simp only [Option.map_some, Option.some.injEq] at hk
        subst hk
        have h2 := fx_args_mem (ad := ad) as 0 k w hv
        rw [Nat.zero_add] at h2
        exact hl.2.2 _ h2
    · rw [List.getElem?_append_right (by rw [List.length_map]; omega)] at hk
      have h3 := List.mem_of_getElem? hk
      rw [List.mem_replicate] at h3
      cases h3.2
end
section
/-! the simulation -/
theorem fx_go_ite {q : Prop} [Decidable q] {f : fx_Z → Option fx_R} {a : fx_O} {r : fx_R} (h : fx_go f (if q then a else fx_no) = some r) : q ∧ fx_go f a = some r := by
  by_cases hq : q
  · rw [if_pos hq] at h; exact ⟨hq, h⟩
  · rw [if_neg hq] at h; cases h
theorem fx_go_jp {f : fx_Z → Option fx_R} {y pc : Nat} {off : Int} {ls : fx_L} {st : List fx_V} {σ : fx_M} {r : fx_R} (h : fx_go f (fx_jp y pc off ls st σ) = some r) : ∃ tgt : Nat, (pc : Int) + off = (tgt : Int) ∧ f (y, tgt, ls, st, σ) = some r := by
  unfold fx_jp at h
  obtain ⟨h1, h2⟩ := fx_go_ite h
  exact ⟨((pc : Int) + off).toNat, by omega, h2⟩
theorem fx_go_br {f : fx_Z → Option fx_R} {b : Bool} {x y : fx_Z} {r : fx_R} (h : fx_go f (if b = true then .inl x else .inl y) = some r) : (b = true → f x = some r) ∧ (b = false → f y = some r) := by
  cases b with
  | true => exact ⟨fun _ => h, (fun q => by cases q)⟩
  | false => exact ⟨(fun q => by cases q), fun _ => h⟩
theorem fx_sd_o {o i q : Nat} {n : String} (h : fx_sd o i = some (q, n)) : q = 90 ∨ q = 91 ∨ q = 92 := by
  unfold fx_sd at h
  rw [Option.map_eq_some_iff] at h
  obtain ⟨e, he, h2⟩ := h
  have h5 := fx_sT_ok e (List.mem_of_find?_eq_some he)
  rw [h2] at h5
  simp only [List.mem_cons, Prod.mk.injEq, List.not_mem_nil, or_false] at h5
  rcases h5 with h | h | h
  · exact Or.inl h.1
  · exact Or.inr (Or.inl h.1)
  · exact Or.inr (Or.inr h.1)
theorem fx_nd_o {o i q : Nat} {n : String} (h : fx_nd o i = some (q, n)) : q = 90 ∨ q = 91 ∨ q = 92 := by
  unfold fx_nd at h
  rw [Option.map_eq_some_iff] at h
  obtain ⟨e, he, h2⟩ := h
  have h5 := fx_nT_ok e (List.mem_of_find?_eq_some he)
  rw [h2] at h5
  simp only [List.mem_cons, Prod.mk.injEq, List.not_mem_nil, or_false] at h5
  rcases h5 with h | h | h
  · exact Or.inl h.1
  · exact Or.inr (Or.inl h.1)
  · exact Or.inr (Or.inr h.1)
theorem fx_st4 {G : fx_G} (hG : fx_Ok G) {o g : Nat} (ha : fx_al G (.inr (some (o, g)))) (h : fx_ak o = 4) : (o = 90 ∨ o = 91 ∨ o = 92) ∧ g = 0 := by
  rcases ha with ha | ha
  · exact absurd h (hG.2.2.2.2.2.2.2 _ ha)
  · exact ha
def fx_Sim (l : Launch) (G : fx_G) (n : Nat) : Prop := ∀ (y pc : Nat) (ls : fx_L) (st : List fx_V) (σ : fx_M) (r : fx_R), fx_run (fx_gS G) n (y, pc, ls, st, σ) = some r → y < fx_nM → ls.length = fx_mL y → (∀ v ∈ st, fx_al G v) → (∀ v, some v ∈ ls → fx_al G v) →
  (∀ v, r.1 = some v → fx_al G v) ∧ ∀ (p : Program) (e : Env) (R : Room) (s : State) (m : MethodId) (args : Array Value) (below : List Frame) (meth : Method) (c : Code) (cells slots : Nat), fx_Cx p s m meth c args R cells slots y → fx_WW p l e R s m args below meth c cells slots (MQ below (fx_Qc G r) args s cells slots (fx_A G)) G pc ls st σ
theorem fx_ent_al {G : fx_G} {z : Nat} {as : List fx_V} (h : ∀ v ∈ as, fx_al G v) : ∀ v, some v ∈ fx_ent z as → fx_al G v := by
  intro v hv
  unfold fx_ent at hv
  rcases List.mem_append.mp hv with h1 | h1
  · obtain ⟨w, hw, e⟩ := List.mem_map.mp h1
    cases e
    exact h _ hw
  · rw [List.mem_replicate] at h1
    cases h1.2
theorem fx_ent_len {z : Nat} {as : List fx_V} (h : as.length ≤ fx_mL z) : (fx_ent z as).length = fx_mL z := by
  unfold fx_ent
  rw [List.length_append, List.length_map, List.length_replicate]
  omega
theorem fx_met_of {l : Launch} {G : fx_G} {n z : Nat} {as : List fx_V} {σ : fx_M} {r : fx_R} (ih : fx_Sim l G n) (hz : z < fx_nM) (hl : as.length ≤ fx_mL z) (ha : ∀ v ∈ as, fx_al G v) (h : fx_run (fx_gS G) n (z, 0, fx_ent z as, [], σ) = some r) : fx_Met l G z as σ r := by
  have I := ih z 0 (fx_ent z as) [] σ r h hz (fx_ent_len hl) (fun v hv => by cases hv) (fx_ent_al ha)
  refine Met.ofW (cc := fx_by z) (maxL := fx_mL z) (ret := fx_rt z) (fx_w13 z hz).2.1 rfl ?_
  intro p e s m args below meth c s₁ B hml hv
  obtain ⟨rfl, hK, hP, hD, hSa⟩ := hv
  have hts := atoms_spec (ws := fx_WS z) B.pre
  have hown : s.vm.findClass (fx_nm z).cls = some m.cls := findClass_of_methodNamed B.named
  rw [(fx_w13 z hz).1] at hown
  rw [lg_entry_eq]
  exact I.2 p e (headSpec (fx_WS z) (fx_RM z)).room s m _ below meth c 0 0 ⟨B.exec, B.bytes, hml, B.returns, hown, fun w hw => hts w (List.mem_cons_of_mem _ hw), B.notSynchronized, Nat.le_refl _, Nat.le_refl _, Nat.zero_le _, Nat.zero_le _⟩ s.heap [] _ ⟨hK, hP, hD, va_S.rf, hSa⟩ (fx_ent_Lo hl)
theorem fx_set_al {G : fx_G} {ls : fx_L} {k : Nat} {v : fx_V} (h : ∀ v, some v ∈ ls → fx_al G v) (hv : fx_al G v) : ∀ w, some w ∈ ls.set k (some v) → fx_al G w := by
  intro w hw
  rcases List.mem_or_eq_of_mem_set hw with h1 | h1
  · exact h w h1
  · cases h1; exact hv
theorem fx_at_al {G : fx_G} {ls : fx_L} {k : Nat} {v : fx_V} (h : ∀ v, some v ∈ ls → fx_al G v) (hk : ls[k]? = some (some v)) : fx_al G v := h v (List.mem_of_getElem? hk)
set_option maxHeartbeats 4000000 in
theorem fx_sim_step (l : Launch) (G : fx_G) (hG : fx_Ok G) (n : Nat) (ih : fx_Sim l G n) : fx_Sim l G (n + 1) := by
  intro y pc ls st σ r h hy hls hst hll
  replace h : fx_go (fx_run (fx_gS G) n) (fx_st (fx_gS G) (y, pc, ls, st, σ)) = some r := h
  unfold fx_st at h
  cases hd : decode (fx_by (y, pc, ls, st, σ).1) (y, pc, ls, st, σ).2.1 with
  | error e => rw [hd] at h; cases h
  | ok il =>
  obtain ⟨i, len⟩ := il
  rw [hd] at h
  replace hd : decode (fx_by y) pc = .ok (i, len) := hd
  replace h : fx_go (fx_run (fx_gS G) n) (fx_ex (fx_gS G) y pc ls st σ i len) = some r := h
  cases i with
  | iconst v =>
    obtain ⟨h1, h2⟩ := fx_go_ite (show fx_go _ (if len = _ then _ else fx_no) = some r from h)
    subst h1
    have I := ih _ _ _ _ _ _ h2 hy hls (List.forall_mem_cons.mpr ⟨trivial, hst⟩) hll
    refine ⟨I.1, fun p e R s m args below meth c cells slots C => fxw_iconst C hd (I.2 p e R s m args below meth c cells slots C)⟩
  | bipush v =>
    obtain ⟨hn, h⟩ := fx_go_ite (show fx_go _ (if _ then _ else fx_no) = some r from h)
    obtain ⟨h1, h2⟩ := fx_go_ite (show fx_go _ (if len = _ then _ else fx_no) = some r from h)
    subst h1
    have I := ih _ _ _ _ _ _ h2 hy hls (List.forall_mem_cons.mpr ⟨trivial, hst⟩) hll
    refine ⟨I.1, fun p e R s m args below meth c cells slots C => fxw_bipush C hd hn (I.2 p e R s m args below meth c cells slots C)⟩
  | sipush v =>
    obtain ⟨hn, h⟩ := fx_go_ite (show fx_go _ (if _ then _ else fx_no) = some r from h)
    obtain ⟨h1, h2⟩ := fx_go_ite (show fx_go _ (if len = _ then _ else fx_no) = some r from h)
    subst h1
    have I := ih _ _ _ _ _ _ h2 hy hls (List.forall_mem_cons.mpr ⟨trivial, hst⟩) hll
    refine ⟨I.1, fun p e R s m args below meth c cells slots C => fxw_sipush C hd hn (I.2 p e R s m args below meth c cells slots C)⟩
  | ldc k =>
    simp only [fx_ex] at h
    cases hk : fx_kd (fx_own y) k with
    | none => rw [hk] at h; cases h
    | some v =>
    rw [hk] at h
    obtain ⟨h1, h2⟩ := fx_go_ite (show fx_go _ (if len = _ then _ else fx_no) = some r from h)
    subst h1
    have I := ih _ _ _ _ _ _ h2 hy hls (List.forall_mem_cons.mpr ⟨trivial, hst⟩) hll
    refine ⟨I.1, fun p e R s m args below meth c cells slots C => fxw_ldc C hk hd (I.2 p e R s m args below meth c cells slots C)⟩
  | ldc_w k =>
    simp only [fx_ex] at h
    cases hk : fx_kd (fx_own y) k with
    | none => rw [hk] at h; cases h
    | some v =>
    rw [hk] at h
    obtain ⟨h1, h2⟩ := fx_go_ite (show fx_go _ (if len = _ then _ else fx_no) = some r from h)
    subst h1
    have I := ih _ _ _ _ _ _ h2 hy hls (List.forall_mem_cons.mpr ⟨trivial, hst⟩) hll
    refine ⟨I.1, fun p e R s m args below meth c cells slots C => fxw_ldcw C hk hd (I.2 p e R s m args below meth c cells slots C)⟩
  | aconst_null =>
    obtain ⟨h1, h2⟩ := fx_go_ite (show fx_go _ (if len = _ then _ else fx_no) = some r from h)
    subst h1
    have I := ih _ _ _ _ _ _ h2 hy hls (List.forall_mem_cons.mpr ⟨trivial, hst⟩) hll
    refine ⟨I.1, fun p e R s m args below meth c cells slots C => fxw_null C hd (I.2 p e R s m args below meth c cells slots C)⟩
  | iload_n k =>
    simp only [fx_ex, fx_ldi] at h
    split at h
    · next x hk =>
      obtain ⟨h1, h2⟩ := fx_go_ite h
      subst h1
      have I := ih _ _ _ _ _ _ h2 hy hls (List.forall_mem_cons.mpr ⟨fx_at_al hll hk, hst⟩) hll
      refine ⟨I.1, fun p e R s m args below meth c cells slots C => fxw_iload_n C hd hk (I.2 p e R s m args below meth c cells slots C)⟩
    · cases h
  | iload k =>
    simp only [fx_ex, fx_ldi] at h
    split at h
    · next x hk =>
      obtain ⟨h1, h2⟩ := fx_go_ite h
      subst h1
      have I := ih _ _ _ _ _ _ h2 hy hls (List.forall_mem_cons.mpr ⟨fx_at_al hll hk, hst⟩) hll
      refine ⟨I.1, fun p e R s m args below meth c cells slots C => fxw_iload C hd hk (I.2 p e R s m args below meth c cells slots C)⟩
    · cases h
  | aload_n k =>
    simp only [fx_ex, fx_lda] at h
    split at h
    · next x hk =>
      obtain ⟨h1, h2⟩ := fx_go_ite h
      subst h1
      have I := ih _ _ _ _ _ _ h2 hy hls (List.forall_mem_cons.mpr ⟨fx_at_al hll hk, hst⟩) hll
      refine ⟨I.1, fun p e R s m args below meth c cells slots C => fxw_aload_n C hd hk (I.2 p e R s m args below meth c cells slots C)⟩
    · cases h
  | aload k =>
    simp only [fx_ex, fx_lda] at h
    split at h
    · next x hk =>
      obtain ⟨h1, h2⟩ := fx_go_ite h
      subst h1
      have I := ih _ _ _ _ _ _ h2 hy hls (List.forall_mem_cons.mpr ⟨fx_at_al hll hk, hst⟩) hll
      refine ⟨I.1, fun p e R s m args below meth c cells slots C => fxw_aload C hd hk (I.2 p e R s m args below meth c cells slots C)⟩
    · cases h
  | istore_n k =>
    simp only [fx_ex, fx_sti] at h
    split at h
    · next x st' =>
      obtain ⟨⟨h1, hk⟩, h2⟩ := fx_go_ite h
      subst h1
      have I := ih _ _ _ _ _ _ h2 hy (by rw [List.length_set]; exact hls) (List.forall_mem_cons.mp hst).2 (fx_set_al hll (List.forall_mem_cons.mp hst).1)
      refine ⟨I.1, fun p e R s m args below meth c cells slots C => fxw_istore_n C hd hk (I.2 p e R s m args below meth c cells slots C)⟩
    · cases h
  | istore k =>
    simp only [fx_ex, fx_sti] at h
    split at h
    · next x st' =>
      obtain ⟨⟨h1, hk⟩, h2⟩ := fx_go_ite h
      subst h1
      have I := ih _ _ _ _ _ _ h2 hy (by rw [List.length_set]; exact hls) (List.forall_mem_cons.mp hst).2 (fx_set_al hll (List.forall_mem_cons.mp hst).1)
      refine ⟨I.1, fun p e R s m args below meth c cells slots C => fxw_istore C hd hk (I.2 p e R s m args below meth c cells slots C)⟩
    · cases h
  | astore_n k =>
    simp only [fx_ex, fx_sta] at h
    split at h
    · next x st' =>
      obtain ⟨⟨h1, hk⟩, h2⟩ := fx_go_ite h
      subst h1
      have I := ih _ _ _ _ _ _ h2 hy (by rw [List.length_set]; exact hls) (List.forall_mem_cons.mp hst).2 (fx_set_al hll (List.forall_mem_cons.mp hst).1)
      refine ⟨I.1, fun p e R s m args below meth c cells slots C => fxw_astore_n C hd hk (I.2 p e R s m args below meth c cells slots C)⟩
    · cases h
  | astore k =>
    simp only [fx_ex, fx_sta] at h
    split at h
    · next x st' =>
      obtain ⟨⟨h1, hk⟩, h2⟩ := fx_go_ite h
      subst h1
      have I := ih _ _ _ _ _ _ h2 hy (by rw [List.length_set]; exact hls) (List.forall_mem_cons.mp hst).2 (fx_set_al hll (List.forall_mem_cons.mp hst).1)
      refine ⟨I.1, fun p e R s m args below meth c cells slots C => fxw_astore C hd hk (I.2 p e R s m args below meth c cells slots C)⟩
    · cases h
  | iinc k v =>
    simp only [fx_ex, fx_inc] at h
    split at h
    · next x hk =>
      obtain ⟨h1, h2⟩ := fx_go_ite h
      subst h1
      have I := ih _ _ _ _ _ _ h2 hy (by rw [List.length_set]; exact hls) hst (fx_set_al hll trivial)
      refine ⟨I.1, fun p e R s m args below meth c cells slots C => fxw_iinc C hd hk (I.2 p e R s m args below meth c cells slots C)⟩
    · cases h
  | iadd =>
    simp only [fx_ex, fx_bin] at h
    split at h
    · next b a st' =>
      obtain ⟨⟨h1, -⟩, h2⟩ := fx_go_ite h
      subst h1
      have I := ih _ _ _ _ _ _ h2 hy hls (List.forall_mem_cons.mpr ⟨trivial, (List.forall_mem_cons.mp (List.forall_mem_cons.mp hst).2).2⟩) hll
      refine ⟨I.1, fun p e R s m args below meth c cells slots C => fxw_iadd C hd (I.2 p e R s m args below meth c cells slots C)⟩
    · cases h
  | isub =>
    simp only [fx_ex, fx_bin] at h
    split at h
    · next b a st' =>
      obtain ⟨⟨h1, -⟩, h2⟩ := fx_go_ite h
      subst h1
      have I := ih _ _ _ _ _ _ h2 hy hls (List.forall_mem_cons.mpr ⟨trivial, (List.forall_mem_cons.mp (List.forall_mem_cons.mp hst).2).2⟩) hll
      refine ⟨I.1, fun p e R s m args below meth c cells slots C => fxw_isub C hd (I.2 p e R s m args below meth c cells slots C)⟩
    · cases h
  | imul =>
    simp only [fx_ex, fx_bin] at h
    split at h
    · next b a st' =>
      obtain ⟨⟨h1, -⟩, h2⟩ := fx_go_ite h
      subst h1
      have I := ih _ _ _ _ _ _ h2 hy hls (List.forall_mem_cons.mpr ⟨trivial, (List.forall_mem_cons.mp (List.forall_mem_cons.mp hst).2).2⟩) hll
      refine ⟨I.1, fun p e R s m args below meth c cells slots C => fxw_imul C hd (I.2 p e R s m args below meth c cells slots C)⟩
    · cases h
  | iand =>
    simp only [fx_ex, fx_bin] at h
    split at h
    · next b a st' =>
      obtain ⟨⟨h1, -⟩, h2⟩ := fx_go_ite h
      subst h1
      have I := ih _ _ _ _ _ _ h2 hy hls (List.forall_mem_cons.mpr ⟨trivial, (List.forall_mem_cons.mp (List.forall_mem_cons.mp hst).2).2⟩) hll
      refine ⟨I.1, fun p e R s m args below meth c cells slots C => fxw_iand C hd (I.2 p e R s m args below meth c cells slots C)⟩
    · cases h
  | ior =>
    simp only [fx_ex, fx_bin] at h
    split at h
    · next b a st' =>
      obtain ⟨⟨h1, -⟩, h2⟩ := fx_go_ite h
      subst h1
      have I := ih _ _ _ _ _ _ h2 hy hls (List.forall_mem_cons.mpr ⟨trivial, (List.forall_mem_cons.mp (List.forall_mem_cons.mp hst).2).2⟩) hll
      refine ⟨I.1, fun p e R s m args below meth c cells slots C => fxw_ior C hd (I.2 p e R s m args below meth c cells slots C)⟩
    · cases h
  | ixor =>
    simp only [fx_ex, fx_bin] at h
    split at h
    · next b a st' =>
      obtain ⟨⟨h1, -⟩, h2⟩ := fx_go_ite h
      subst h1
      have I := ih _ _ _ _ _ _ h2 hy hls (List.forall_mem_cons.mpr ⟨trivial, (List.forall_mem_cons.mp (List.forall_mem_cons.mp hst).2).2⟩) hll
      refine ⟨I.1, fun p e R s m args below meth c cells slots C => fxw_ixor C hd (I.2 p e R s m args below meth c cells slots C)⟩
    · cases h
  | ishl =>
    simp only [fx_ex, fx_bin] at h
    split at h
    · next b a st' =>
      obtain ⟨⟨h1, -⟩, h2⟩ := fx_go_ite h
      subst h1
      have I := ih _ _ _ _ _ _ h2 hy hls (List.forall_mem_cons.mpr ⟨trivial, (List.forall_mem_cons.mp (List.forall_mem_cons.mp hst).2).2⟩) hll
      refine ⟨I.1, fun p e R s m args below meth c cells slots C => fxw_ishl C hd (I.2 p e R s m args below meth c cells slots C)⟩
    · cases h
  | ishr =>
    simp only [fx_ex, fx_bin] at h
    split at h
    · next b a st' =>
      obtain ⟨⟨h1, -⟩, h2⟩ := fx_go_ite h
      subst h1
      have I := ih _ _ _ _ _ _ h2 hy hls (List.forall_mem_cons.mpr ⟨trivial, (List.forall_mem_cons.mp (List.forall_mem_cons.mp hst).2).2⟩) hll
      refine ⟨I.1, fun p e R s m args below meth c cells slots C => fxw_ishr C hd (I.2 p e R s m args below meth c cells slots C)⟩
    · cases h
  | iushr =>
    simp only [fx_ex, fx_bin] at h
    split at h
    · next b a st' =>
      obtain ⟨⟨h1, -⟩, h2⟩ := fx_go_ite h
      subst h1
      have I := ih _ _ _ _ _ _ h2 hy hls (List.forall_mem_cons.mpr ⟨trivial, (List.forall_mem_cons.mp (List.forall_mem_cons.mp hst).2).2⟩) hll
      refine ⟨I.1, fun p e R s m args below meth c cells slots C => fxw_iushr C hd (I.2 p e R s m args below meth c cells slots C)⟩
    · cases h
  | idiv =>
    simp only [fx_ex, fx_bin] at h
    split at h
    · next b a st' =>
      obtain ⟨⟨h1, hok⟩, h2⟩ := fx_go_ite h
      subst h1
      rw [decide_eq_true_eq] at hok
      have I := ih _ _ _ _ _ _ h2 hy hls (List.forall_mem_cons.mpr ⟨trivial, (List.forall_mem_cons.mp (List.forall_mem_cons.mp hst).2).2⟩) hll
      refine ⟨I.1, fun p e R s m args below meth c cells slots C => fxw_idiv C hok.1 hok.2.1 hok.2.2 hd (I.2 p e R s m args below meth c cells slots C)⟩
    · cases h
  | irem =>
    simp only [fx_ex, fx_bin] at h
    split at h
    · next b a st' =>
      obtain ⟨⟨h1, hok⟩, h2⟩ := fx_go_ite h
      subst h1
      rw [decide_eq_true_eq] at hok
      have I := ih _ _ _ _ _ _ h2 hy hls (List.forall_mem_cons.mpr ⟨trivial, (List.forall_mem_cons.mp (List.forall_mem_cons.mp hst).2).2⟩) hll
      refine ⟨I.1, fun p e R s m args below meth c cells slots C => fxw_irem C hok.1 hok.2.1 hok.2.2 hd (I.2 p e R s m args below meth c cells slots C)⟩
    · cases h
  | ineg =>
    simp only [fx_ex, fx_neg] at h
    split at h
    · next a st' =>
      obtain ⟨h1, h2⟩ := fx_go_ite h
      subst h1
      have I := ih _ _ _ _ _ _ h2 hy hls (List.forall_mem_cons.mpr ⟨trivial, (List.forall_mem_cons.mp hst).2⟩) hll
      refine ⟨I.1, fun p e R s m args below meth c cells slots C => fxw_ineg C hd (I.2 p e R s m args below meth c cells slots C)⟩
    · cases h
  | dup =>
    simp only [fx_ex, fx_dup] at h
    split at h
    · next a st' =>
      obtain ⟨h1, h2⟩ := fx_go_ite h
      subst h1
      have I := ih _ _ _ _ _ _ h2 hy hls (List.forall_mem_cons.mpr ⟨(List.forall_mem_cons.mp hst).1, hst⟩) hll
      refine ⟨I.1, fun p e R s m args below meth c cells slots C => fxw_dup C hd (I.2 p e R s m args below meth c cells slots C)⟩
    · cases h
  | dup2 =>
    simp only [fx_ex, fx_dup2] at h
    split at h
    · next a b st' =>
      obtain ⟨h1, h2⟩ := fx_go_ite h
      subst h1
      have I := ih _ _ _ _ _ _ h2 hy hls (List.forall_mem_cons.mpr ⟨(List.forall_mem_cons.mp hst).1, (List.forall_mem_cons.mpr ⟨(List.forall_mem_cons.mp (List.forall_mem_cons.mp hst).2).1, hst⟩)⟩) hll
      refine ⟨I.1, fun p e R s m args below meth c cells slots C => fxw_dup2 C hd (I.2 p e R s m args below meth c cells slots C)⟩
    · cases h
  | ifCond cc off =>
    simp only [fx_ex, fx_if1] at h
    split at h
    · next a st' =>
      obtain ⟨⟨h1, ha, hp⟩, h2⟩ := fx_go_ite h
      subst h1
      have hbr := fx_go_br h2
      have It := fun q => ih _ _ _ _ _ _ (hbr.1 q) hy hls (List.forall_mem_cons.mp hst).2 hll
      have If := fun q => ih _ _ _ _ _ _ (hbr.2 q) hy hls (List.forall_mem_cons.mp hst).2 hll
      refine ⟨?_, fun p e R s m args below meth c cells slots C => fxw_if1 C ha hd (by omega : (pc : Int) + off = (((pc : Int) + off).toNat : Int)) (fun q => (It q).2 p e R s m args below meth c cells slots C) (fun q => (If q).2 p e R s m args below meth c cells slots C)⟩
      cases hc : fx_cm cc a 0 with
      | true => exact (It hc).1
      | false => exact (If hc).1
    · cases h
  | if_icmp cc off =>
    simp only [fx_ex, fx_if2] at h
    split at h
    · next b a st' =>
      obtain ⟨⟨h1, ha, hb, hp⟩, h2⟩ := fx_go_ite h
      subst h1
      have hbr := fx_go_br h2
      have It := fun q => ih _ _ _ _ _ _ (hbr.1 q) hy hls (List.forall_mem_cons.mp (List.forall_mem_cons.mp hst).2).2 hll
      have If := fun q => ih _ _ _ _ _ _ (hbr.2 q) hy hls (List.forall_mem_cons.mp (List.forall_mem_cons.mp hst).2).2 hll
      refine ⟨?_, fun p e R s m args below meth c cells slots C => fxw_if2 C ha hb hd (by omega : (pc : Int) + off = (((pc : Int) + off).toNat : Int)) (fun q => (It q).2 p e R s m args below meth c cells slots C) (fun q => (If q).2 p e R s m args below meth c cells slots C)⟩
      cases hc : fx_cm cc a b with
      | true => exact (It hc).1
      | false => exact (If hc).1
    · cases h
  | goto off =>
    obtain ⟨h1, h2⟩ := fx_go_ite (show fx_go _ (if len = _ then _ else fx_no) = some r from h)
    subst h1
    obtain ⟨tgt, ht, h3⟩ := fx_go_jp h2
    have I := ih _ _ _ _ _ _ h3 hy hls hst hll
    refine ⟨I.1, fun p e R s m args below meth c cells slots C => fxw_goto C hd ht (I.2 p e R s m args below meth c cells slots C)⟩
  | ifnull off =>
    simp only [fx_ex, fx_ifn] at h
    split at h
    · next q st' =>
      obtain ⟨h1, h2⟩ := fx_go_ite h
      subst h1
      cases q with
      | none =>
        simp only [Option.isNone_none, Option.isNone_some, if_true, Bool.true_eq_false, Bool.false_eq_true, if_false] at h2
        obtain ⟨tgt, ht, h3⟩ := fx_go_jp h2
        have I := ih _ _ _ _ _ _ h3 hy hls (List.forall_mem_cons.mp hst).2 hll
        refine ⟨I.1, fun p e R s m args below meth c cells slots C => fxw_ifnullN C hd ht (I.2 p e R s m args below meth c cells slots C)⟩
      | some q =>
        simp only [Option.isNone_none, Option.isNone_some, if_true, Bool.true_eq_false, Bool.false_eq_true, if_false] at h2
        have I := ih _ _ _ _ _ _ h2 hy hls (List.forall_mem_cons.mp hst).2 hll
        refine ⟨I.1, fun p e R s m args below meth c cells slots C => fxw_ifnull C hd (I.2 p e R s m args below meth c cells slots C)⟩
    · cases h
  | ifnonnull off =>
    simp only [fx_ex, fx_ifn] at h
    split at h
    · next q st' =>
      obtain ⟨h1, h2⟩ := fx_go_ite h
      subst h1
      cases q with
      | none =>
        simp only [Option.isNone_none, Option.isNone_some, if_true, Bool.true_eq_false, Bool.false_eq_true, if_false] at h2
        have I := ih _ _ _ _ _ _ h2 hy hls (List.forall_mem_cons.mp hst).2 hll
        refine ⟨I.1, fun p e R s m args below meth c cells slots C => fxw_ifnonnullN C hd (I.2 p e R s m args below meth c cells slots C)⟩
      | some q =>
        simp only [Option.isNone_none, Option.isNone_some, if_true, Bool.true_eq_false, Bool.false_eq_true, if_false] at h2
        obtain ⟨tgt, ht, h3⟩ := fx_go_jp h2
        have I := ih _ _ _ _ _ _ h3 hy hls (List.forall_mem_cons.mp hst).2 hll
        refine ⟨I.1, fun p e R s m args below meth c cells slots C => fxw_ifnonnull C hd ht (I.2 p e R s m args below meth c cells slots C)⟩
    · cases h
  | tableswitch d lo hi offs =>
    simp only [fx_ex, fx_tsw] at h
    split at h
    · next x st' =>
      obtain ⟨hx, h2⟩ := fx_go_ite h
      by_cases hq : x < lo ∨ hi < x
      · rw [if_pos hq] at h2
        obtain ⟨tgt, ht, h3⟩ := fx_go_jp h2
        have I := ih _ _ _ _ _ _ h3 hy hls (List.forall_mem_cons.mp hst).2 hll
        refine ⟨I.1, fun p e R s m args below meth c cells slots C => fxw_tswO C hx hd hq ht (I.2 p e R s m args below meth c cells slots C)⟩
      · rw [if_neg hq] at h2
        split at h2
        · next off ho =>
          obtain ⟨tgt, ht, h3⟩ := fx_go_jp h2
          have I := ih _ _ _ _ _ _ h3 hy hls (List.forall_mem_cons.mp hst).2 hll
          refine ⟨I.1, fun p e R s m args below meth c cells slots C => fxw_tswI C hx hd (fun q => hq (Or.inl q)) (fun q => hq (Or.inr q)) ho ht (I.2 p e R s m args below meth c cells slots C)⟩
        · cases h2
    · cases h
  | getfield k =>
    simp only [fx_ex, fx_gf] at h
    split at h
    · next o g st' =>
      split at h
      · next ci k2 cj fl hf ho =>
        obtain ⟨⟨h1, h2⟩, h3⟩ := fx_go_ite h
        subst h1
        subst h2
        have hm := fx_mem_gl hG (List.forall_mem_cons.mp hst).1 (by rw [fx_ob_ak ho]; decide)
        split at h3
        · next hk =>
          have I := ih _ _ _ _ _ _ h3 hy hls (List.forall_mem_cons.mpr ⟨trivial, (List.forall_mem_cons.mp hst).2⟩) hll
          have hv := fx_fl_int (fx_ga G) σ o g fl 0 k2 hk
          rw [Nat.zero_add] at hv
          refine ⟨I.1, fun p e R s m args below meth c cells slots C => fxw_getf (v := .inl (σ o g k2)) C hm hf ho hv hd (I.2 p e R s m args below meth c cells slots C)⟩
        · next f hk =>
          have I := ih _ _ _ _ _ _ h3 hy hls (List.forall_mem_cons.mpr ⟨Or.inl (hG.2.2.2.2.2.1 _ hm _ _ ho _ _ hk), (List.forall_mem_cons.mp hst).2⟩) hll
          have hv := fx_fl_ref (fx_ga G) σ o g fl 0 k2 f hk
          refine ⟨I.1, fun p e R s m args below meth c cells slots C => fxw_getf (v := .inr (some (f g))) C hm hf ho hv hd (I.2 p e R s m args below meth c cells slots C)⟩
        · cases h3
      · cases h
    · cases h
  | putfield k =>
    simp only [fx_ex, fx_pf] at h
    split at h
    · next v o g st' =>
      split at h
      · next ci k2 cj fl hf ho =>
        obtain ⟨⟨h1, h2, h4, h5, h6⟩, h3⟩ := fx_go_ite h
        subst h1
        subst h2
        have hm := fx_mem_gl hG (List.forall_mem_cons.mp (List.forall_mem_cons.mp hst).2).1 (by rw [fx_ob_ak ho]; decide)
        have hk : fl[k2]? = some none := by
          cases hq : fl[k2]? with
          | none => rw [hq] at h4; cases h4
          | some w =>
            rw [hq] at h5
            cases w with
            | none => rfl
            | some f => cases h5
        have I := ih _ _ _ _ _ _ h3 hy hls (List.forall_mem_cons.mp (List.forall_mem_cons.mp hst).2).2 hll
        refine ⟨I.1, fun p e R s m args below meth c cells slots C => fxw_putf C hG hm hf ho hk h6 hd (I.2 p e R s m args below meth c cells slots C)⟩
      · cases h
    · cases h
  | getstatic k =>
    simp only [fx_ex, fx_gs] at h
    split at h
    · next o nn hf =>
      obtain ⟨h1, h2⟩ := fx_go_ite h
      subst h1
      have I := ih _ _ _ _ _ _ h2 hy hls (List.forall_mem_cons.mpr ⟨Or.inr ⟨fx_sd_o hf, rfl⟩, hst⟩) hll
      refine ⟨I.1, fun p e R s m args below meth c cells slots C => fxw_gets C hf hd (I.2 p e R s m args below meth c cells slots C)⟩
    · split at h
      · next o nn hf =>
        obtain ⟨h1, h2⟩ := fx_go_ite h
        subst h1
        have I := ih _ _ _ _ _ _ h2 hy hls (List.forall_mem_cons.mpr ⟨Or.inr ⟨fx_nd_o hf, rfl⟩, hst⟩) hll
        refine ⟨I.1, fun p e R s m args below meth c cells slots C => fxw_getsN C hf hd (I.2 p e R s m args below meth c cells slots C)⟩
      · cases h
  | iaload =>
    simp only [fx_ex, fx_ld] at h
    split at h
    · next i o g st' =>
      obtain ⟨⟨h1, h0⟩, h2⟩ := fx_go_ite h
      subst h1
      by_cases hq : fx_ak o = 1 ∧ i < (fx_gS G).1 o g
      · rw [if_pos hq] at h2
        have hm := fx_mem_gl hG (List.forall_mem_cons.mp (List.forall_mem_cons.mp hst).2).1 (by rw [hq.1]; decide)
        have I := ih _ _ _ _ _ _ h2 hy hls (List.forall_mem_cons.mpr ⟨trivial, (List.forall_mem_cons.mp (List.forall_mem_cons.mp hst).2).2⟩) hll
        refine ⟨I.1, fun p e R s m args below meth c cells slots C => fxw_iald C hG hm hq.1 h0 hq.2 hd (I.2 p e R s m args below meth c cells slots C)⟩
      · rw [if_neg hq] at h2
        obtain ⟨⟨hk1, hk4, hk⟩, h3⟩ := fx_go_ite h2
        have hs := fx_st4 hG (List.forall_mem_cons.mp (List.forall_mem_cons.mp hst).2).1 hk4
        obtain ⟨hs, rfl⟩ := hs
        have I := ih _ _ _ _ _ _ h3 hy hls (List.forall_mem_cons.mpr ⟨trivial, (List.forall_mem_cons.mp (List.forall_mem_cons.mp hst).2).2⟩) hll
        refine ⟨I.1, fun p e R s m args below meth c cells slots C => fxw_tald C hs h0 hk hd (I.2 p e R s m args below meth c cells slots C)⟩
    · cases h
  | baload =>
    simp only [fx_ex, fx_ld] at h
    split at h
    · next i o g st' =>
      obtain ⟨⟨h1, h0⟩, h2⟩ := fx_go_ite h
      subst h1
      by_cases hq : fx_ak o = 2 ∧ i < (fx_gS G).1 o g
      · rw [if_pos hq] at h2
        have hm := fx_mem_gl hG (List.forall_mem_cons.mp (List.forall_mem_cons.mp hst).2).1 (by rw [hq.1]; decide)
        have I := ih _ _ _ _ _ _ h2 hy hls (List.forall_mem_cons.mpr ⟨trivial, (List.forall_mem_cons.mp (List.forall_mem_cons.mp hst).2).2⟩) hll
        refine ⟨I.1, fun p e R s m args below meth c cells slots C => fxw_zald C hG hm hq.1 h0 hq.2 hd (I.2 p e R s m args below meth c cells slots C)⟩
      · rw [if_neg hq] at h2
        obtain ⟨⟨hk1, hk4, hk⟩, h3⟩ := fx_go_ite h2
        cases hk1
    · cases h
  | iastore =>
    simp only [fx_ex, fx_ast] at h
    split at h
    · next v i o g st' =>
      obtain ⟨⟨h1, h0, hk, hi, hv⟩, h2⟩ := fx_go_ite h
      subst h1
      have hm := fx_mem_gl hG (List.forall_mem_cons.mp (List.forall_mem_cons.mp (List.forall_mem_cons.mp hst).2).2).1 (by rw [hk]; decide)
      have I := ih _ _ _ _ _ _ h2 hy hls (List.forall_mem_cons.mp (List.forall_mem_cons.mp (List.forall_mem_cons.mp hst).2).2).2 hll
      refine ⟨I.1, fun p e R s m args below meth c cells slots C => fxw_iast C hG hm hk h0 hi hd (I.2 p e R s m args below meth c cells slots C)⟩
    · cases h
  | bastore =>
    simp only [fx_ex, fx_ast] at h
    split at h
    · next v i o g st' =>
      obtain ⟨⟨h1, h0, hk, hi, hv⟩, h2⟩ := fx_go_ite h
      subst h1
      have hm := fx_mem_gl hG (List.forall_mem_cons.mp (List.forall_mem_cons.mp (List.forall_mem_cons.mp hst).2).2).1 (by rw [hk]; decide)
      have I := ih _ _ _ _ _ _ h2 hy hls (List.forall_mem_cons.mp (List.forall_mem_cons.mp (List.forall_mem_cons.mp hst).2).2).2 hll
      have hv : v = 0 ∨ v = 1 := hv.resolve_left (by decide)
      refine ⟨I.1, fun p e R s m args below meth c cells slots C => fxw_zast C hG hm hk h0 hi hv hd (I.2 p e R s m args below meth c cells slots C)⟩
    · cases h
  | aaload =>
    simp only [fx_ex, fx_lda2] at h
    split at h
    · next i o g st' =>
      obtain ⟨⟨h1, h0, ho, hg, hi⟩, h2⟩ := fx_go_ite h
      subst h1
      subst ho
      subst hg
      have hm := fx_mem_gl hG (List.forall_mem_cons.mp (List.forall_mem_cons.mp hst).2).1 (by decide)
      have hal : fx_al G (.inr (if i.toNat < (fx_gS G).2 then some (12, i.toNat) else none)) := by
        by_cases hj : i.toNat < (fx_gS G).2
        · rw [if_pos hj]; exact Or.inl (hG.2.2.2.2.2.2.1 hm _ hj)
        · rw [if_neg hj]; trivial
      have I := ih _ _ _ _ _ _ h2 hy hls (List.forall_mem_cons.mpr ⟨hal, (List.forall_mem_cons.mp (List.forall_mem_cons.mp hst).2).2⟩) hll
      refine ⟨I.1, fun p e R s m args below meth c cells slots C => fxw_aald C hG hm h0 hi hd (I.2 p e R s m args below meth c cells slots C)⟩
    · cases h
  | arraylength =>
    simp only [fx_ex, fx_len] at h
    split at h
    · next o g st' =>
      obtain ⟨h1, h2⟩ := fx_go_ite h
      subst h1
      by_cases hq : fx_ak o = 1 ∨ fx_ak o = 2
      · rw [if_pos hq] at h2
        have hm := fx_mem_gl hG (List.forall_mem_cons.mp hst).1 (by rcases hq with q | q <;> rw [q] <;> decide)
        have I := ih _ _ _ _ _ _ h2 hy hls (List.forall_mem_cons.mpr ⟨trivial, (List.forall_mem_cons.mp hst).2⟩) hll
        refine ⟨I.1, fun p e R s m args below meth c cells slots C => fxw_alen C hG hm hq hd (I.2 p e R s m args below meth c cells slots C)⟩
      · rw [if_neg hq] at h2
        obtain ⟨hk4, h3⟩ := fx_go_ite h2
        obtain ⟨hs, rfl⟩ := fx_st4 hG (List.forall_mem_cons.mp hst).1 hk4
        have I := ih _ _ _ _ _ _ h3 hy hls (List.forall_mem_cons.mpr ⟨trivial, (List.forall_mem_cons.mp hst).2⟩) hll
        refine ⟨I.1, fun p e R s m args below meth c cells slots C => fxw_tlen C hs hd (I.2 p e R s m args below meth c cells slots C)⟩
    · cases h
  | invokevirtual k =>
    simp only [fx_ex, fx_iv] at h
    split at h
    · next z nn hca =>
      split at h
      · next o g rest hdr =>
        obtain ⟨⟨h1, hob, htk, hrest, hmz⟩, h2⟩ := fx_go_ite h
        subst h1
        replace h2 : (fx_run (fx_gS G) n (z, 0, fx_ent z (.inr (some (o, g)) :: (st.take nn).reverse), [], σ)).bind (fun r => fx_run (fx_gS G) n (y, pc + 3, ls, r.1.toList ++ rest, r.2)) = some r := h2
        cases hr : fx_run (fx_gS G) n (z, 0, fx_ent z (.inr (some (o, g)) :: (st.take nn).reverse), [], σ) with
        | none => rw [hr] at h2; cases h2
        | some r1 =>
        rw [hr] at h2
        replace h2 : fx_run (fx_gS G) n (y, pc + 3, ls, r1.1.toList ++ rest, r1.2) = some r := h2
        have hz : z < fx_nM := (fx_ca_in hca).2.2.2.2.2.2.2.1
        have hsplit : st = st.take nn ++ .inr (some (o, g)) :: rest := by rw [← hdr]; exact (List.take_append_drop nn st).symm
        have hst2 := hst
        rw [hsplit] at hst2
        have hog : fx_al G (.inr (some (o, g))) := hst2 _ (List.mem_append_right _ List.mem_cons_self)
        have hml : (.inr (some (o, g)) :: (st.take nn).reverse : List fx_V).length ≤ fx_mL z := by rw [List.length_cons, List.length_reverse, htk]; exact hmz
        have hargs : ∀ v ∈ (.inr (some (o, g)) :: (st.take nn).reverse : List fx_V), fx_al G v := List.forall_mem_cons.mpr ⟨hog, fun v hv => hst v (List.mem_of_mem_take (List.mem_reverse.mp hv))⟩
        have M := fx_met_of ih hz hml hargs hr
        have J := ih _ _ _ _ _ _ hr hz (fx_ent_len hml) (fun v hv => by cases hv) (fx_ent_al hargs)
        have hrs : ∀ v ∈ r1.1.toList ++ rest, fx_al G v := by
          intro v hv
          rcases List.mem_append.mp hv with q | q
          · exact J.1 v (Option.mem_toList.mp q)
          · exact hst2 v (List.mem_append_right _ (List.mem_cons_of_mem _ q))
        have I := ih _ _ _ _ _ _ h2 hy hls hrs hll
        refine ⟨I.1, fun p e R s m args below meth c cells slots C => ?_⟩
        have hob2 := hob
        rw [Option.map_eq_some_iff] at hob2
        obtain ⟨⟨ci, fl⟩, ho, -⟩ := hob2
        have hm := fx_mem_gl hG hog (by rw [fx_ob_ak ho]; decide)
        have W1 := fxw_callV C hca hm hob (by rw [List.length_reverse]; exact htk) hrest hls M hd (I.2 p e R s m args below meth c cells slots C)
        rw [List.reverse_reverse, ← hsplit] at W1
        exact W1
      · cases h
    · cases h
  | invokestatic k =>
    simp only [fx_ex, fx_is] at h
    split at h
    · next z nn hca =>
      obtain ⟨⟨h1, htk, hrest, hmz⟩, h2⟩ := fx_go_ite h
      subst h1
      replace h2 : (fx_run (fx_gS G) n (z, 0, fx_ent z (st.take nn).reverse, [], σ)).bind (fun r => fx_run (fx_gS G) n (y, pc + 3, ls, r.1.toList ++ st.drop nn, r.2)) = some r := h2
      cases hr : fx_run (fx_gS G) n (z, 0, fx_ent z (st.take nn).reverse, [], σ) with
      | none => rw [hr] at h2; cases h2
      | some r1 =>
      rw [hr] at h2
      replace h2 : fx_run (fx_gS G) n (y, pc + 3, ls, r1.1.toList ++ st.drop nn, r1.2) = some r := h2
      have hz : z < fx_nM := (fx_ca_in hca).2.2.2.2.2.2.2.1
      have hml : (st.take nn).reverse.length ≤ fx_mL z := by rw [List.length_reverse, htk]; exact hmz
      have hargs : ∀ v ∈ (st.take nn).reverse, fx_al G v := fun v hv => hst v (List.mem_of_mem_take (List.mem_reverse.mp hv))
      have M := fx_met_of ih hz hml hargs hr
      have J := ih _ _ _ _ _ _ hr hz (fx_ent_len hml) (fun v hv => by cases hv) (fx_ent_al hargs)
      have hrs : ∀ v ∈ r1.1.toList ++ st.drop nn, fx_al G v := by
        intro v hv
        rcases List.mem_append.mp hv with q | q
        · exact J.1 v (Option.mem_toList.mp q)
        · exact hst v (List.mem_of_mem_drop q)
      have I := ih _ _ _ _ _ _ h2 hy hls hrs hll
      refine ⟨I.1, fun p e R s m args below meth c cells slots C => ?_⟩
      have W1 := fxw_callS C hca (by rw [List.length_reverse]; exact htk) hrest hls M hd (I.2 p e R s m args below meth c cells slots C)
      rw [List.reverse_reverse, List.take_append_drop] at W1
      exact W1
    · split at h
      · next b a st' hp =>
        obtain ⟨⟨h1, ha, hb, hl⟩, h2⟩ := fx_go_ite h
        subst h1
        have I := ih _ _ _ _ _ _ h2 hy hls (List.forall_mem_cons.mpr ⟨trivial, (List.forall_mem_cons.mp (List.forall_mem_cons.mp hst).2).2⟩) hll
        refine ⟨I.1, fun p e R s m args below meth c cells slots C => fxw_max C hp ha hb hl hls hd (I.2 p e R s m args below meth c cells slots C)⟩
      · next b a st' hp =>
        obtain ⟨⟨h1, ha, hb, hl⟩, h2⟩ := fx_go_ite h
        subst h1
        have I := ih _ _ _ _ _ _ h2 hy hls (List.forall_mem_cons.mpr ⟨trivial, (List.forall_mem_cons.mp (List.forall_mem_cons.mp hst).2).2⟩) hll
        refine ⟨I.1, fun p e R s m args below meth c cells slots C => fxw_min C hp ha hb hl hls hd (I.2 p e R s m args below meth c cells slots C)⟩
      · next a st' hp =>
        obtain ⟨⟨h1, ha, hl⟩, h2⟩ := fx_go_ite h
        subst h1
        have I := ih _ _ _ _ _ _ h2 hy hls (List.forall_mem_cons.mpr ⟨trivial, (List.forall_mem_cons.mp hst).2⟩) hll
        refine ⟨I.1, fun p e R s m args below meth c cells slots C => fxw_abs C hp ha hl hls hd (I.2 p e R s m args below meth c cells slots C)⟩
      · next n1 dp o1 g1 sp o0 g0 st' hp =>
        obtain ⟨⟨ha, h1, k0, k1, a1, a2, a3, a4, a5, a6⟩, h2⟩ := fx_go_ite h
        subst h1
        have hm1 := fx_mem_gl hG (List.forall_mem_cons.mp (List.forall_mem_cons.mp (List.forall_mem_cons.mp hst).2).2).1 (by rw [k1]; decide)
        have hm0 := fx_mem_gl hG (List.forall_mem_cons.mp (List.forall_mem_cons.mp (List.forall_mem_cons.mp (List.forall_mem_cons.mp (List.forall_mem_cons.mp hst).2).2).2).2).1 (by rw [k0]; decide)
        have I := ih _ _ _ _ _ _ h2 hy hls (List.forall_mem_cons.mp (List.forall_mem_cons.mp (List.forall_mem_cons.mp (List.forall_mem_cons.mp (List.forall_mem_cons.mp hst).2).2).2).2).2 hll
        refine ⟨I.1, fun p e R s m args below meth c cells slots C => fxw_copy C hG hm0 hm1 ha k0 k1 a1 a2 a3 a4 a5 a6 hls hd (I.2 p e R s m args below meth c cells slots C)⟩
      · cases h
  | ireturn =>
    simp only [fx_ex, fx_ret] at h
    split at h
    · next v =>
      obtain ⟨⟨h1, hrt⟩, h2⟩ := fx_go_ite h
      subst h1
      cases h2
      refine ⟨fun w hw => by cases hw; trivial, fun p e R s m args below meth c cells slots C H locs jl hW hL => ?_⟩
      have hq : ∀ t : State, t.heap = H → s.WarmedH t.vm → fx_Qc G (some (.inl v), σ) args s (.returned (some (.int (fx_I v)))) t := fun t ht _ => ⟨rfl, by rw [ht]; exact hW.2.1, hW.2.2.2.1.F ht⟩
      have hlocks := C.2.2.2.2.2.2.1
      have hret := C.2.2.2.1
      rcases hrt with hrt | ⟨hrt, hv⟩
      · rw [hrt] at hret
        exact W.iret C.1 C.2.1 hret hq hW.2.2.2.1.2.2 hd
      · rw [hrt] at hret
        refine W.zret C.1 C.2.1 hret ?_ hq hW.2.2.2.1.2.2 hd
        rcases hv with rfl | rfl <;> rfl
    · cases h
  | areturn =>
    simp only [fx_ex, fx_rea] at h
    split at h
    · next v =>
      obtain ⟨⟨h1, hrt⟩, h2⟩ := fx_go_ite h
      subst h1
      cases h2
      refine ⟨fun w hw => by cases hw; exact (List.forall_mem_cons.mp hst).1, fun p e R s m args below meth c cells slots C H locs jl hW hL => ?_⟩
      have hlocks := C.2.2.2.2.2.2.1
      have hret := C.2.2.2.1
      rw [hrt] at hret
      refine W.aret C.1 C.2.1 hret (Or.inl ⟨_, rfl⟩) ?_ (fun t ht _ => ⟨rfl, by rw [ht]; exact hW.2.1, hW.2.2.2.1.F ht⟩) hW.2.2.2.1.2.2 hd
      cases v with
      | none => exact Or.inl rfl
      | some q => exact Or.inr ⟨_, rfl⟩
    · cases h
  | return_ =>
    simp only [fx_ex, fx_rev] at h
    split at h
    · obtain ⟨⟨h1, hrt⟩, h2⟩ := fx_go_ite h
      subst h1
      cases h2
      refine ⟨(fun w hw => by cases hw), fun p e R s m args below meth c cells slots C H locs jl hW hL => ?_⟩
      have hlocks := C.2.2.2.2.2.2.1
      have hret := C.2.2.2.1
      rw [hrt] at hret
      exact W.vret C.1 C.2.1 hret (fun t ht _ => ⟨rfl, by rw [ht]; exact hW.2.1, hW.2.2.2.1.F ht⟩) hW.2.2.2.1.2.2 hd
    · cases h
  | _ => cases h
theorem fx_sim (l : Launch) (G : fx_G) (hG : fx_Ok G) (n : Nat) : fx_Sim l G n := by
  induction n with
  | zero => intro y pc ls st σ r h; cases h
  | succ n ih => exact fx_sim_step l G hG n ih
/-- what the shadow machine answers, the machine answers -/
theorem fx_met {l : Launch} {G : fx_G} (hG : fx_Ok G) {z : Nat} {as : List fx_V} {σ : fx_M} {r : fx_R} (hz : z < fx_nM) (hl : as.length ≤ fx_mL z) (ha : ∀ v ∈ as, fx_al G v) (h : fx_Ev (fx_gS G) (z, 0, fx_ent z as, [], σ) = some r) : fx_Met l G z as σ r := by
  obtain ⟨n, hn⟩ := fx_Ev_iff.mp h
  exact fx_met_of (fx_sim l G hG n) hz hl ha hn
end
section
/-! the shadow machine's equations, an instruction a row -/
noncomputable def fx_E (S : fx_Sh) (y pc : Nat) (ls : fx_L) (st : List fx_V) (σ : fx_M) : Option fx_R := fx_Ev S (y, pc, ls, st, σ)
noncomputable def fx_Ca (S : fx_Sh) (z : Nat) (as : List fx_V) (σ : fx_M) : Option fx_R := fx_Ev S (z, 0, fx_ent z as, [], σ)
def fx_bd (o : Option fx_R) (k : Option fx_V → fx_M → Option fx_R) : Option fx_R := match o with
  | some r => k r.1 r.2
  | none => none
theorem fx_bd_some (v : Option fx_V) (σ : fx_M) (k : Option fx_V → fx_M → Option fx_R) : fx_bd (some (v, σ)) k = k v σ := rfl
section FXE
variable {S : fx_Sh} {y pc : Nat} {ls : fx_L} {st : List fx_V} {σ : fx_M}
theorem fx_E_go {i : Instr} {len : Nat} (hd : decode (fx_by y) pc = .ok (i, len)) : fx_E S y pc ls st σ = fx_go (fx_Ev S) (fx_ex S y pc ls st σ i len) := by
  unfold fx_E
  rw [fx_Ev_eq]
  unfold fx_st
  rw [show decode (fx_by (y, pc, ls, st, σ).1) (y, pc, ls, st, σ).2.1 = .ok (i, len) from hd]
theorem ev_iconst {n : Int} (hd : decode (fx_by y) pc = .ok (.iconst n, 1)) : fx_E S y pc ls st σ = fx_E S y (pc + 1) ls (.inl n :: st) σ := fx_E_go hd
theorem ev_bipush {n : Int} (hd : decode (fx_by y) pc = .ok (.bipush n, 2)) (hn : (Int8.ofInt n).toInt32 = Int32.ofInt n) : fx_E S y pc ls st σ = fx_E S y (pc + 2) ls (.inl n :: st) σ := by
  rw [fx_E_go hd]
  simp only [fx_ex]
  rw [if_pos hn]
  rfl
theorem ev_sipush {n : Int} (hd : decode (fx_by y) pc = .ok (.sipush n, 3)) (hn : (Int16.ofInt n).toInt32 = Int32.ofInt n) : fx_E S y pc ls st σ = fx_E S y (pc + 3) ls (.inl n :: st) σ := by
  rw [fx_E_go hd]
  simp only [fx_ex]
  rw [if_pos hn]
  rfl
theorem ev_ldc {k : Nat} {n : Int} (hd : decode (fx_by y) pc = .ok (.ldc k, 2)) (hn : fx_kd (fx_own y) k = some n) : fx_E S y pc ls st σ = fx_E S y (pc + 2) ls (.inl n :: st) σ := by
  rw [fx_E_go hd]
  simp only [fx_ex, hn]
  rfl
theorem ev_ldcw {k : Nat} {n : Int} (hd : decode (fx_by y) pc = .ok (.ldc_w k, 3)) (hn : fx_kd (fx_own y) k = some n) : fx_E S y pc ls st σ = fx_E S y (pc + 3) ls (.inl n :: st) σ := by
  rw [fx_E_go hd]
  simp only [fx_ex, hn]
  rfl
theorem ev_null (hd : decode (fx_by y) pc = .ok (.aconst_null, 1)) : fx_E S y pc ls st σ = fx_E S y (pc + 1) ls (.inr none :: st) σ := fx_E_go hd
theorem ev_iload_n {k : Fin 4} {x : Int} (hd : decode (fx_by y) pc = .ok (.iload_n k, 1)) (hl : ls[k.val]? = some (some (.inl x))) : fx_E S y pc ls st σ = fx_E S y (pc + 1) ls (.inl x :: st) σ := by
  rw [fx_E_go hd]
  simp only [fx_ex, fx_ldi, hl]
  rfl
theorem ev_iload {k : Nat} {x : Int} (hd : decode (fx_by y) pc = .ok (.iload k, 2)) (hl : ls[k]? = some (some (.inl x))) : fx_E S y pc ls st σ = fx_E S y (pc + 2) ls (.inl x :: st) σ := by
  rw [fx_E_go hd]
  simp only [fx_ex, fx_ldi, hl]
  rfl
theorem ev_aload_n {k : Fin 4} {x : Option (Nat × Nat)} (hd : decode (fx_by y) pc = .ok (.aload_n k, 1)) (hl : ls[k.val]? = some (some (.inr x))) : fx_E S y pc ls st σ = fx_E S y (pc + 1) ls (.inr x :: st) σ := by
  rw [fx_E_go hd]
  simp only [fx_ex, fx_lda, hl]
  rfl
theorem ev_aload {k : Nat} {x : Option (Nat × Nat)} (hd : decode (fx_by y) pc = .ok (.aload k, 2)) (hl : ls[k]? = some (some (.inr x))) : fx_E S y pc ls st σ = fx_E S y (pc + 2) ls (.inr x :: st) σ := by
  rw [fx_E_go hd]
  simp only [fx_ex, fx_lda, hl]
  rfl
theorem ev_istore_n {k : Fin 4} {x : Int} (hd : decode (fx_by y) pc = .ok (.istore_n k, 1)) (hl : k.val < ls.length) : fx_E S y pc ls (.inl x :: st) σ = fx_E S y (pc + 1) (ls.set k.val (some (.inl x))) st σ := by
  rw [fx_E_go hd]
  simp only [fx_ex, fx_sti, hl, and_self, if_true]
  rfl
theorem ev_istore {k : Nat} {x : Int} (hd : decode (fx_by y) pc = .ok (.istore k, 2)) (hl : k < ls.length) : fx_E S y pc ls (.inl x :: st) σ = fx_E S y (pc + 2) (ls.set k (some (.inl x))) st σ := by
  rw [fx_E_go hd]
  simp only [fx_ex, fx_sti, hl, and_self, if_true]
  rfl
theorem ev_astore_n {k : Fin 4} {x : Option (Nat × Nat)} (hd : decode (fx_by y) pc = .ok (.astore_n k, 1)) (hl : k.val < ls.length) : fx_E S y pc ls (.inr x :: st) σ = fx_E S y (pc + 1) (ls.set k.val (some (.inr x))) st σ := by
  rw [fx_E_go hd]
  simp only [fx_ex, fx_sta, hl, and_self, if_true]
  rfl
theorem ev_astore {k : Nat} {x : Option (Nat × Nat)} (hd : decode (fx_by y) pc = .ok (.astore k, 2)) (hl : k < ls.length) : fx_E S y pc ls (.inr x :: st) σ = fx_E S y (pc + 2) (ls.set k (some (.inr x))) st σ := by
  rw [fx_E_go hd]
  simp only [fx_ex, fx_sta, hl, and_self, if_true]
  rfl
theorem ev_iinc {k : Nat} {n x : Int} (hd : decode (fx_by y) pc = .ok (.iinc k n, 3)) (hl : ls[k]? = some (some (.inl x))) : fx_E S y pc ls st σ = fx_E S y (pc + 3) (ls.set k (some (.inl (x + n)))) st σ := by
  rw [fx_E_go hd]
  simp only [fx_ex, fx_inc, hl]
  rfl
theorem ev_iadd {a b : Int} (hd : decode (fx_by y) pc = .ok (.iadd, 1)) : fx_E S y pc ls (.inl b :: .inl a :: st) σ = fx_E S y (pc + 1) ls (.inl (a + b) :: st) σ := fx_E_go hd
theorem ev_isub {a b : Int} (hd : decode (fx_by y) pc = .ok (.isub, 1)) : fx_E S y pc ls (.inl b :: .inl a :: st) σ = fx_E S y (pc + 1) ls (.inl (a - b) :: st) σ := fx_E_go hd
theorem ev_imul {a b : Int} (hd : decode (fx_by y) pc = .ok (.imul, 1)) : fx_E S y pc ls (.inl b :: .inl a :: st) σ = fx_E S y (pc + 1) ls (.inl (a * b) :: st) σ := fx_E_go hd
theorem ev_idiv {a b : Int} (hd : decode (fx_by y) pc = .ok (.idiv, 1)) (h1 : fx_in a) (h2 : 0 < b) (h3 : b ≤ 2147483647) : fx_E S y pc ls (.inl b :: .inl a :: st) σ = fx_E S y (pc + 1) ls (.inl (a.tdiv b) :: st) σ := by
  rw [fx_E_go hd]
  simp only [fx_ex, fx_bin]
  rw [if_pos (by and_intros <;> first | trivial | rfl | assumption | omega | (rw [List.length_reverse]; done) | (rw [decide_eq_true_eq]; exact ⟨h1, h2, h3⟩) | exact Or.inl hr | exact Or.inr ⟨hr, hv⟩ | exact Or.inr hv | exact Or.inl rfl | exact Or.inl trivial)]
  rfl
theorem ev_irem {a b : Int} (hd : decode (fx_by y) pc = .ok (.irem, 1)) (h1 : fx_in a) (h2 : 0 < b) (h3 : b ≤ 2147483647) : fx_E S y pc ls (.inl b :: .inl a :: st) σ = fx_E S y (pc + 1) ls (.inl (a.tmod b) :: st) σ := by
  rw [fx_E_go hd]
  simp only [fx_ex, fx_bin]
  rw [if_pos (by and_intros <;> first | trivial | rfl | assumption | omega | (rw [List.length_reverse]; done) | (rw [decide_eq_true_eq]; exact ⟨h1, h2, h3⟩) | exact Or.inl hr | exact Or.inr ⟨hr, hv⟩ | exact Or.inr hv | exact Or.inl rfl | exact Or.inl trivial)]
  rfl
theorem ev_idivN {a b : Int} (hd : decode (fx_by y) pc = .ok (.idiv, 1)) (h0 : 0 ≤ a) (h1 : a ≤ 2147483647) (h2 : 0 < b) (h3 : b ≤ 2147483647) : fx_E S y pc ls (.inl b :: .inl a :: st) σ = fx_E S y (pc + 1) ls (.inl (a / b) :: st) σ := by
  rw [ev_idiv hd ⟨by omega, h1⟩ h2 h3, Int.tdiv_eq_ediv_of_nonneg h0]
theorem ev_iremN {a b : Int} (hd : decode (fx_by y) pc = .ok (.irem, 1)) (h0 : 0 ≤ a) (h1 : a ≤ 2147483647) (h2 : 0 < b) (h3 : b ≤ 2147483647) : fx_E S y pc ls (.inl b :: .inl a :: st) σ = fx_E S y (pc + 1) ls (.inl (a % b) :: st) σ := by
  rw [ev_irem hd ⟨by omega, h1⟩ h2 h3, Int.tmod_eq_emod_of_nonneg h0]
theorem ev_iand {a b : Int} (hd : decode (fx_by y) pc = .ok (.iand, 1)) : fx_E S y pc ls (.inl b :: .inl a :: st) σ = fx_E S y (pc + 1) ls (.inl ((Int32.ofInt a &&& Int32.ofInt b).toInt) :: st) σ := fx_E_go hd
theorem ev_ior {a b : Int} (hd : decode (fx_by y) pc = .ok (.ior, 1)) : fx_E S y pc ls (.inl b :: .inl a :: st) σ = fx_E S y (pc + 1) ls (.inl ((Int32.ofInt a ||| Int32.ofInt b).toInt) :: st) σ := fx_E_go hd
theorem ev_ixor {a b : Int} (hd : decode (fx_by y) pc = .ok (.ixor, 1)) : fx_E S y pc ls (.inl b :: .inl a :: st) σ = fx_E S y (pc + 1) ls (.inl ((Int32.ofInt a ^^^ Int32.ofInt b).toInt) :: st) σ := fx_E_go hd
theorem ev_ishl {a b : Int} (hd : decode (fx_by y) pc = .ok (.ishl, 1)) : fx_E S y pc ls (.inl b :: .inl a :: st) σ = fx_E S y (pc + 1) ls (.inl ((Int32.ofInt a <<< (Int32.ofInt b &&& 31)).toInt) :: st) σ := fx_E_go hd
theorem ev_ishr {a b : Int} (hd : decode (fx_by y) pc = .ok (.ishr, 1)) : fx_E S y pc ls (.inl b :: .inl a :: st) σ = fx_E S y (pc + 1) ls (.inl ((Int32.ofInt a >>> (Int32.ofInt b &&& 31)).toInt) :: st) σ := fx_E_go hd
theorem ev_iushr {a b : Int} (hd : decode (fx_by y) pc = .ok (.iushr, 1)) : fx_E S y pc ls (.inl b :: .inl a :: st) σ = fx_E S y (pc + 1) ls (.inl (((Int32.ofInt a).toUInt32 >>> ((Int32.ofInt b).toUInt32 &&& Int32.toUInt32 31)).toInt32.toInt) :: st) σ := fx_E_go hd
theorem ev_ineg {a : Int} (hd : decode (fx_by y) pc = .ok (.ineg, 1)) : fx_E S y pc ls (.inl a :: st) σ = fx_E S y (pc + 1) ls (.inl (-a) :: st) σ := fx_E_go hd
theorem ev_dup {v : fx_V} (hd : decode (fx_by y) pc = .ok (.dup, 1)) : fx_E S y pc ls (v :: st) σ = fx_E S y (pc + 1) ls (v :: v :: st) σ := fx_E_go hd
theorem ev_dup2 {v w : fx_V} (hd : decode (fx_by y) pc = .ok (.dup2, 1)) : fx_E S y pc ls (v :: w :: st) σ = fx_E S y (pc + 1) ls (v :: w :: v :: w :: st) σ := fx_E_go hd
theorem ev_if1 {c : ClassFile.Cond} {off a : Int} {t : Nat} (hd : decode (fx_by y) pc = .ok (.ifCond c off, 3)) (ht : (pc : Int) + off = (t : Int)) (h1 : fx_in a) : fx_E S y pc ls (.inl a :: st) σ = if fx_cm c a 0 = true then fx_E S y t ls st σ else fx_E S y (pc + 3) ls st σ := by
  rw [fx_E_go hd]
  simp only [fx_ex, fx_if1]
  rw [if_pos (by and_intros <;> first | trivial | rfl | assumption | omega | (rw [List.length_reverse]; done) | (rw [decide_eq_true_eq]; exact ⟨h1, h2, h3⟩) | exact Or.inl hr | exact Or.inr ⟨hr, hv⟩ | exact Or.inr hv | exact Or.inl rfl | exact Or.inl trivial)]
  have : ((pc : Int) + off).toNat = t := by omega
  rw [this]
  by_cases h : fx_cm c a 0 = true
  · rw [if_pos h, if_pos h]; rfl
  · rw [if_neg h, if_neg h]; rfl
theorem ev_if2 {c : ClassFile.Cond} {off a b : Int} {t : Nat} (hd : decode (fx_by y) pc = .ok (.if_icmp c off, 3)) (ht : (pc : Int) + off = (t : Int)) (h1 : fx_in a) (h2 : fx_in b) : fx_E S y pc ls (.inl b :: .inl a :: st) σ = if fx_cm c a b = true then fx_E S y t ls st σ else fx_E S y (pc + 3) ls st σ := by
  rw [fx_E_go hd]
  simp only [fx_ex, fx_if2]
  rw [if_pos (by and_intros <;> first | trivial | rfl | assumption | omega | (rw [List.length_reverse]; done) | (rw [decide_eq_true_eq]; exact ⟨h1, h2, h3⟩) | exact Or.inl hr | exact Or.inr ⟨hr, hv⟩ | exact Or.inr hv | exact Or.inl rfl | exact Or.inl trivial)]
  have : ((pc : Int) + off).toNat = t := by omega
  rw [this]
  by_cases h : fx_cm c a b = true
  · rw [if_pos h, if_pos h]; rfl
  · rw [if_neg h, if_neg h]; rfl
theorem fx_cif {α : Type} {b : Bool} {p : Prop} [Decidable p] (h : b = true ↔ p) (x z : α) : (if b = true then x else z) = if p then x else z := by
  by_cases hp : p
  · rw [if_pos (h.mpr hp), if_pos hp]
  · rw [if_neg (fun q => hp (h.mp q)), if_neg hp]
theorem fx_cifN {α : Type} {b : Bool} {p : Prop} [Decidable p] (h : b = true ↔ ¬ p) (x z : α) : (if b = true then x else z) = if p then z else x := by
  by_cases hp : p
  · rw [if_neg (fun q => h.mp q hp), if_pos hp]
  · rw [if_pos (h.mpr hp), if_neg hp]
theorem ev_if1_eq {off a : Int} {t : Nat} (hd : decode (fx_by y) pc = .ok (.ifCond .eq off, 3)) (ht : (pc : Int) + off = (t : Int)) (h1 : fx_in a) : fx_E S y pc ls (.inl a :: st) σ = if a = 0 then fx_E S y t ls st σ else fx_E S y (pc + 3) ls st σ := (ev_if1 hd ht h1).trans (fx_cif (by simp [fx_cm]) _ _)
theorem ev_if1_ne {off a : Int} {t : Nat} (hd : decode (fx_by y) pc = .ok (.ifCond .ne off, 3)) (ht : (pc : Int) + off = (t : Int)) (h1 : fx_in a) : fx_E S y pc ls (.inl a :: st) σ = if a = 0 then fx_E S y (pc + 3) ls st σ else fx_E S y t ls st σ := (ev_if1 hd ht h1).trans (fx_cifN (by simp [fx_cm]) _ _)
theorem ev_if1_lt {off a : Int} {t : Nat} (hd : decode (fx_by y) pc = .ok (.ifCond .lt off, 3)) (ht : (pc : Int) + off = (t : Int)) (h1 : fx_in a) : fx_E S y pc ls (.inl a :: st) σ = if a < 0 then fx_E S y t ls st σ else fx_E S y (pc + 3) ls st σ := (ev_if1 hd ht h1).trans (fx_cif (by simp [fx_cm]) _ _)
theorem ev_if1_ge {off a : Int} {t : Nat} (hd : decode (fx_by y) pc = .ok (.ifCond .ge off, 3)) (ht : (pc : Int) + off = (t : Int)) (h1 : fx_in a) : fx_E S y pc ls (.inl a :: st) σ = if a < 0 then fx_E S y (pc + 3) ls st σ else fx_E S y t ls st σ := (ev_if1 hd ht h1).trans (fx_cifN (by simp [fx_cm]) _ _)
theorem ev_if1_gt {off a : Int} {t : Nat} (hd : decode (fx_by y) pc = .ok (.ifCond .gt off, 3)) (ht : (pc : Int) + off = (t : Int)) (h1 : fx_in a) : fx_E S y pc ls (.inl a :: st) σ = if 0 < a then fx_E S y t ls st σ else fx_E S y (pc + 3) ls st σ := (ev_if1 hd ht h1).trans (fx_cif (by simp [fx_cm]) _ _)
theorem ev_if1_le {off a : Int} {t : Nat} (hd : decode (fx_by y) pc = .ok (.ifCond .le off, 3)) (ht : (pc : Int) + off = (t : Int)) (h1 : fx_in a) : fx_E S y pc ls (.inl a :: st) σ = if 0 < a then fx_E S y (pc + 3) ls st σ else fx_E S y t ls st σ := (ev_if1 hd ht h1).trans (fx_cifN (by simp [fx_cm]) _ _)
theorem ev_if2_eq {off a b : Int} {t : Nat} (hd : decode (fx_by y) pc = .ok (.if_icmp .eq off, 3)) (ht : (pc : Int) + off = (t : Int)) (h1 : fx_in a) (h2 : fx_in b) : fx_E S y pc ls (.inl b :: .inl a :: st) σ = if a = b then fx_E S y t ls st σ else fx_E S y (pc + 3) ls st σ := (ev_if2 hd ht h1 h2).trans (fx_cif (by simp [fx_cm]) _ _)
theorem ev_if2_ne {off a b : Int} {t : Nat} (hd : decode (fx_by y) pc = .ok (.if_icmp .ne off, 3)) (ht : (pc : Int) + off = (t : Int)) (h1 : fx_in a) (h2 : fx_in b) : fx_E S y pc ls (.inl b :: .inl a :: st) σ = if a = b then fx_E S y (pc + 3) ls st σ else fx_E S y t ls st σ := (ev_if2 hd ht h1 h2).trans (fx_cifN (by simp [fx_cm]) _ _)
theorem ev_if2_lt {off a b : Int} {t : Nat} (hd : decode (fx_by y) pc = .ok (.if_icmp .lt off, 3)) (ht : (pc : Int) + off = (t : Int)) (h1 : fx_in a) (h2 : fx_in b) : fx_E S y pc ls (.inl b :: .inl a :: st) σ = if a < b then fx_E S y t ls st σ else fx_E S y (pc + 3) ls st σ := (ev_if2 hd ht h1 h2).trans (fx_cif (by simp [fx_cm]) _ _)
theorem ev_if2_ge {off a b : Int} {t : Nat} (hd : decode (fx_by y) pc = .ok (.if_icmp .ge off, 3)) (ht : (pc : Int) + off = (t : Int)) (h1 : fx_in a) (h2 : fx_in b) : fx_E S y pc ls (.inl b :: .inl a :: st) σ = if a < b then fx_E S y (pc + 3) ls st σ else fx_E S y t ls st σ := (ev_if2 hd ht h1 h2).trans (fx_cifN (by simp [fx_cm]) _ _)
theorem ev_if2_gt {off a b : Int} {t : Nat} (hd : decode (fx_by y) pc = .ok (.if_icmp .gt off, 3)) (ht : (pc : Int) + off = (t : Int)) (h1 : fx_in a) (h2 : fx_in b) : fx_E S y pc ls (.inl b :: .inl a :: st) σ = if b < a then fx_E S y t ls st σ else fx_E S y (pc + 3) ls st σ := (ev_if2 hd ht h1 h2).trans (fx_cif (by simp [fx_cm]) _ _)
theorem ev_if2_le {off a b : Int} {t : Nat} (hd : decode (fx_by y) pc = .ok (.if_icmp .le off, 3)) (ht : (pc : Int) + off = (t : Int)) (h1 : fx_in a) (h2 : fx_in b) : fx_E S y pc ls (.inl b :: .inl a :: st) σ = if b < a then fx_E S y (pc + 3) ls st σ else fx_E S y t ls st σ := (ev_if2 hd ht h1 h2).trans (fx_cifN (by simp [fx_cm]) _ _)
theorem ev_goto {off : Int} {t : Nat} (hd : decode (fx_by y) pc = .ok (.goto off, 3)) (ht : (pc : Int) + off = (t : Int)) : fx_E S y pc ls st σ = fx_E S y t ls st σ := by
  rw [fx_E_go hd]
  simp only [fx_ex, if_true, fx_jp]
  rw [if_pos (by omega), show ((pc : Int) + off).toNat = t by omega]
  rfl
theorem ev_ifnull_n {off : Int} {t : Nat} (hd : decode (fx_by y) pc = .ok (.ifnull off, 3)) (ht : (pc : Int) + off = (t : Int)) : fx_E S y pc ls (.inr none :: st) σ = fx_E S y t ls st σ := by
  rw [fx_E_go hd]
  simp only [fx_ex, fx_ifn, if_true, fx_jp, Option.isNone_none]
  rw [if_pos (by omega), show ((pc : Int) + off).toNat = t by omega]
  rfl
theorem ev_ifnull_s {off : Int} {q : Nat × Nat} (hd : decode (fx_by y) pc = .ok (.ifnull off, 3)) : fx_E S y pc ls (.inr (some q) :: st) σ = fx_E S y (pc + 3) ls st σ := by
  rw [fx_E_go hd]
  rfl
theorem ev_ifnonnull_s {off : Int} {t : Nat} {q : Nat × Nat} (hd : decode (fx_by y) pc = .ok (.ifnonnull off, 3)) (ht : (pc : Int) + off = (t : Int)) : fx_E S y pc ls (.inr (some q) :: st) σ = fx_E S y t ls st σ := by
  rw [fx_E_go hd]
  simp only [fx_ex, fx_ifn, if_true, fx_jp, Option.isNone_some]
  rw [if_pos (by omega), show ((pc : Int) + off).toNat = t by omega]
  rfl
theorem ev_ifnonnull_n {off : Int} (hd : decode (fx_by y) pc = .ok (.ifnonnull off, 3)) : fx_E S y pc ls (.inr none :: st) σ = fx_E S y (pc + 3) ls st σ := by
  rw [fx_E_go hd]
  rfl
theorem ev_tsw_o {d lo hi x : Int} {offs : Array Int} {len t : Nat} (hd : decode (fx_by y) pc = .ok (.tableswitch d lo hi offs, len)) (ht : (pc : Int) + d = (t : Int)) (hx : fx_in x) (h : x < lo ∨ hi < x) : fx_E S y pc ls (.inl x :: st) σ = fx_E S y t ls st σ := by
  rw [fx_E_go hd]
  simp only [fx_ex, fx_tsw]
  rw [if_pos hx, if_pos h]
  unfold fx_jp
  rw [if_pos (by omega), show ((pc : Int) + d).toNat = t by omega]
  rfl
theorem ev_tsw_i {d lo hi x off : Int} {offs : Array Int} {len t : Nat} (hd : decode (fx_by y) pc = .ok (.tableswitch d lo hi offs, len)) (ho : offs[(x - lo).toNat]? = some off) (ht : (pc : Int) + off = (t : Int)) (hx : fx_in x) (h : ¬ (x < lo ∨ hi < x)) : fx_E S y pc ls (.inl x :: st) σ = fx_E S y t ls st σ := by
  rw [fx_E_go hd]
  simp only [fx_ex, fx_tsw]
  rw [if_pos hx, if_neg h]
  simp only [ho]
  unfold fx_jp
  rw [if_pos (by omega), show ((pc : Int) + off).toNat = t by omega]
  rfl
theorem ev_getf_i {i ci k o g : Nat} {fl : List (Option (Nat → Nat × Nat))} (hd : decode (fx_by y) pc = .ok (.getfield i, 3)) (hf : fx_fd (fx_own y) i = some (ci, k)) (ho : fx_ob o = some (ci, fl)) (hk : fl[k]? = some none) : fx_E S y pc ls (.inr (some (o, g)) :: st) σ = fx_E S y (pc + 3) ls (.inl (σ o g k) :: st) σ := by
  rw [fx_E_go hd]
  simp only [fx_ex, fx_gf, hf, ho, hk, and_self, if_true]
  rfl
theorem ev_getf_r {i ci k o g : Nat} {fl : List (Option (Nat → Nat × Nat))} {f : Nat → Nat × Nat} (hd : decode (fx_by y) pc = .ok (.getfield i, 3)) (hf : fx_fd (fx_own y) i = some (ci, k)) (ho : fx_ob o = some (ci, fl)) (hk : fl[k]? = some (some f)) : fx_E S y pc ls (.inr (some (o, g)) :: st) σ = fx_E S y (pc + 3) ls (.inr (some (f g)) :: st) σ := by
  rw [fx_E_go hd]
  simp only [fx_ex, fx_gf, hf, ho, hk, and_self, if_true]
  rfl
theorem ev_putf {i ci k o g : Nat} {fl : List (Option (Nat → Nat × Nat))} {v : Int} (hd : decode (fx_by y) pc = .ok (.putfield i, 3)) (hf : fx_fd (fx_own y) i = some (ci, k)) (ho : fx_ob o = some (ci, fl)) (hk : fl[k]? = some none) (hok : fx_okf ci k v = true) : fx_E S y pc ls (.inl v :: .inr (some (o, g)) :: st) σ = fx_E S y (pc + 3) ls st (fx_up σ o g k v) := by
  rw [fx_E_go hd]
  simp only [fx_ex, fx_pf, hf, ho, hk]
  rw [if_pos (by and_intros <;> first | trivial | rfl | assumption | omega | (rw [List.length_reverse]; done) | (rw [decide_eq_true_eq]; exact ⟨h1, h2, h3⟩) | exact Or.inl hr | exact Or.inr ⟨hr, hv⟩ | exact Or.inr hv | exact Or.inl rfl | exact Or.inl trivial)]
  rfl
theorem ev_gets {i o : Nat} {n : String} (hd : decode (fx_by y) pc = .ok (.getstatic i, 3)) (hf : fx_sd (fx_own y) i = some (o, n) ∨ (fx_sd (fx_own y) i = none ∧ fx_nd (fx_own y) i = some (o, n))) : fx_E S y pc ls st σ = fx_E S y (pc + 3) ls (.inr (some (o, 0)) :: st) σ := by
  rw [fx_E_go hd]
  rcases hf with hf | ⟨h1, h2⟩
  · simp only [fx_ex, fx_gs, hf]
    rfl
  · simp only [fx_ex, fx_gs, h1, h2]
    rfl
theorem ev_iald {o g : Nat} {i : Int} (hd : decode (fx_by y) pc = .ok (.iaload, 1)) (ho : fx_ak o = 1) (h0 : 0 ≤ i) (h1 : i < S.1 o g) : fx_E S y pc ls (.inl i :: .inr (some (o, g)) :: st) σ = fx_E S y (pc + 1) ls (.inl (σ o g i.toNat) :: st) σ := by
  rw [fx_E_go hd]
  simp only [fx_ex, fx_ld, ho, h0, h1, and_self, if_true]
  rfl
theorem ev_zald {o g : Nat} {i : Int} (hd : decode (fx_by y) pc = .ok (.baload, 1)) (ho : fx_ak o = 2) (h0 : 0 ≤ i) (h1 : i < S.1 o g) : fx_E S y pc ls (.inl i :: .inr (some (o, g)) :: st) σ = fx_E S y (pc + 1) ls (.inl (σ o g i.toNat) :: st) σ := by
  rw [fx_E_go hd]
  simp only [fx_ex, fx_ld, ho, h0, h1, and_self, if_true]
  rfl
theorem ev_tald {o g : Nat} {i : Int} (hd : decode (fx_by y) pc = .ok (.iaload, 1)) (ho : fx_ak o = 4) (h0 : 0 ≤ i) (h1 : i < (fx_sv o).length) : fx_E S y pc ls (.inl i :: .inr (some (o, g)) :: st) σ = fx_E S y (pc + 1) ls (.inl ((fx_sv o).getD i.toNat 0) :: st) σ := by
  rw [fx_E_go hd]
  simp only [fx_ex, fx_ld]
  rw [if_pos (by and_intros <;> first | trivial | rfl | assumption | omega | (rw [List.length_reverse]; done) | (rw [decide_eq_true_eq]; exact ⟨h1, h2, h3⟩) | exact Or.inl hr | exact Or.inr ⟨hr, hv⟩ | exact Or.inr hv | exact Or.inl rfl | exact Or.inl trivial), if_neg (by rw [ho]; exact fun q => absurd q.1 (by decide)), if_pos ⟨trivial, ho, h1⟩]
  rfl
theorem ev_iast {o g : Nat} {i v : Int} (hd : decode (fx_by y) pc = .ok (.iastore, 1)) (ho : fx_ak o = 1) (h0 : 0 ≤ i) (h1 : i < S.1 o g) : fx_E S y pc ls (.inl v :: .inl i :: .inr (some (o, g)) :: st) σ = fx_E S y (pc + 1) ls st (fx_up σ o g i.toNat v) := by
  rw [fx_E_go hd]
  simp only [fx_ex, fx_ast]
  rw [if_pos (by and_intros <;> first | trivial | rfl | assumption | omega | (rw [List.length_reverse]; done) | (rw [decide_eq_true_eq]; exact ⟨h1, h2, h3⟩) | exact Or.inl hr | exact Or.inr ⟨hr, hv⟩ | exact Or.inr hv | exact Or.inl rfl | exact Or.inl trivial)]
  rfl
theorem ev_zast {o g : Nat} {i v : Int} (hd : decode (fx_by y) pc = .ok (.bastore, 1)) (ho : fx_ak o = 2) (h0 : 0 ≤ i) (h1 : i < S.1 o g) (hv : v = 0 ∨ v = 1) : fx_E S y pc ls (.inl v :: .inl i :: .inr (some (o, g)) :: st) σ = fx_E S y (pc + 1) ls st (fx_up σ o g i.toNat v) := by
  rw [fx_E_go hd]
  simp only [fx_ex, fx_ast]
  rw [if_pos (by and_intros <;> first | trivial | rfl | assumption | omega | (rw [List.length_reverse]; done) | (rw [decide_eq_true_eq]; exact ⟨h1, h2, h3⟩) | exact Or.inl hr | exact Or.inr ⟨hr, hv⟩ | exact Or.inr hv | exact Or.inl rfl | exact Or.inl trivial)]
  rfl
theorem ev_aald {i : Int} (hd : decode (fx_by y) pc = .ok (.aaload, 1)) (h0 : 0 ≤ i) (h1 : i < S.1 2 0) : fx_E S y pc ls (.inl i :: .inr (some (2, 0)) :: st) σ = fx_E S y (pc + 1) ls (.inr (if i.toNat < S.2 then some (12, i.toNat) else none) :: st) σ := by
  rw [fx_E_go hd]
  simp only [fx_ex, fx_lda2]
  rw [if_pos (by and_intros <;> first | trivial | rfl | assumption | omega | (rw [List.length_reverse]; done) | (rw [decide_eq_true_eq]; exact ⟨h1, h2, h3⟩) | exact Or.inl hr | exact Or.inr ⟨hr, hv⟩ | exact Or.inr hv | exact Or.inl rfl | exact Or.inl trivial)]
  rfl
theorem ev_alen {o g : Nat} (hd : decode (fx_by y) pc = .ok (.arraylength, 1)) (ho : fx_ak o = 1 ∨ fx_ak o = 2) : fx_E S y pc ls (.inr (some (o, g)) :: st) σ = fx_E S y (pc + 1) ls (.inl (S.1 o g) :: st) σ := by
  rw [fx_E_go hd]
  simp only [fx_ex, fx_len, ho, if_true]
  rfl
theorem ev_tlen {o g : Nat} (hd : decode (fx_by y) pc = .ok (.arraylength, 1)) (ho : fx_ak o = 4) : fx_E S y pc ls (.inr (some (o, g)) :: st) σ = fx_E S y (pc + 1) ls (.inl (fx_sv o).length :: st) σ := by
  rw [fx_E_go hd]
  simp only [fx_ex, fx_len, ho]
  rfl
theorem fx_bd_bind {z : fx_Z} {k : fx_R → fx_Z} : fx_go (fx_Ev S) (fx_cl1 z k) = fx_bd (fx_Ev S z) (fun v σ => fx_Ev S (k (v, σ))) := by
  show (fx_Ev S z).bind (fun r => fx_Ev S (k r)) = _
  cases fx_Ev S z with
  | none => rfl
  | some r => rfl
theorem ev_callV {i z n o g : Nat} {as rest : List fx_V} (hd : decode (fx_by y) pc = .ok (.invokevirtual i, 3)) (hc : fx_ca y i = some (z, n, 0)) (hn : as.length = n) (hr : rest.length ≤ 8) (ho : (fx_ob o).map (fun q => q.1) = some (fx_own z)) (hm : n + 1 ≤ fx_mL z) : fx_E S y pc ls (as.reverse ++ .inr (some (o, g)) :: rest) σ = fx_bd (fx_Ca S z (.inr (some (o, g)) :: as) σ) (fun v σ' => fx_E S y (pc + 3) ls (v.toList ++ rest) σ') := by
  subst hn
  have h1 : (as.reverse ++ .inr (some (o, g)) :: rest).drop as.length = .inr (some (o, g)) :: rest := by
    rw [List.drop_append_of_le_length (by rw [List.length_reverse]; omega), List.drop_of_length_le (by rw [List.length_reverse]; omega)]
    rfl
  have h2 : (as.reverse ++ .inr (some (o, g)) :: rest).take as.length = as.reverse := by
    rw [List.take_append_of_le_length (by rw [List.length_reverse]; omega), List.take_of_length_le (by rw [List.length_reverse]; omega)]
  rw [fx_E_go hd]
  simp only [fx_ex, fx_iv, hc, h1, h2, List.reverse_reverse]
  rw [if_pos (by and_intros <;> first | trivial | rfl | assumption | omega | (rw [List.length_reverse]; done) | (rw [decide_eq_true_eq]; exact ⟨h1, h2, h3⟩) | exact Or.inl hr | exact Or.inr ⟨hr, hv⟩ | exact Or.inr hv | exact Or.inl rfl | exact Or.inl trivial), fx_bd_bind]
  rfl
theorem ev_callS {i z n : Nat} {as rest : List fx_V} (hd : decode (fx_by y) pc = .ok (.invokestatic i, 3)) (hc : fx_ca y i = some (z, n, 1)) (hn : as.length = n) (hr : rest.length ≤ 8) (hm : n ≤ fx_mL z) : fx_E S y pc ls (as.reverse ++ rest) σ = fx_bd (fx_Ca S z as σ) (fun v σ' => fx_E S y (pc + 3) ls (v.toList ++ rest) σ') := by
  subst hn
  have h1 : (as.reverse ++ rest).drop as.length = rest := by
    rw [List.drop_append_of_le_length (by rw [List.length_reverse]; omega), List.drop_of_length_le (by rw [List.length_reverse]; omega)]
    rfl
  have h2 : (as.reverse ++ rest).take as.length = as.reverse := by
    rw [List.take_append_of_le_length (by rw [List.length_reverse]; omega), List.take_of_length_le (by rw [List.length_reverse]; omega)]
  rw [fx_E_go hd]
  simp only [fx_ex, fx_is, hc, h1, h2, List.reverse_reverse]
  rw [if_pos (by and_intros <;> first | trivial | rfl | assumption | omega | (rw [List.length_reverse]; done) | (rw [decide_eq_true_eq]; exact ⟨h1, h2, h3⟩) | exact Or.inl hr | exact Or.inr ⟨hr, hv⟩ | exact Or.inr hv | exact Or.inl rfl | exact Or.inl trivial), fx_bd_bind]
  rfl
theorem ev_max {i : Nat} {a b : Int} (hd : decode (fx_by y) pc = .ok (.invokestatic i, 3)) (hc : fx_ca y i = none) (hp : fx_pd y i = some 0) (hs : st.length ≤ 8) (h1 : fx_in a) (h2 : fx_in b) : fx_E S y pc ls (.inl b :: .inl a :: st) σ = fx_E S y (pc + 3) ls (.inl (max a b) :: st) σ := by
  have e : (if a < b then b else a) = max a b := by split <;> omega
  rw [fx_E_go hd]
  simp only [fx_ex, fx_is, hc, hp]
  rw [if_pos (by and_intros <;> first | trivial | rfl | assumption | omega | (rw [List.length_reverse]; done) | (rw [decide_eq_true_eq]; exact ⟨h1, h2, h3⟩) | exact Or.inl hr | exact Or.inr ⟨hr, hv⟩ | exact Or.inr hv | exact Or.inl rfl | exact Or.inl trivial), e]
  rfl
theorem ev_min {i : Nat} {a b : Int} (hd : decode (fx_by y) pc = .ok (.invokestatic i, 3)) (hc : fx_ca y i = none) (hp : fx_pd y i = some 1) (hs : st.length ≤ 8) (h1 : fx_in a) (h2 : fx_in b) : fx_E S y pc ls (.inl b :: .inl a :: st) σ = fx_E S y (pc + 3) ls (.inl (min a b) :: st) σ := by
  have e : (if b < a then b else a) = min a b := by split <;> omega
  rw [fx_E_go hd]
  simp only [fx_ex, fx_is, hc, hp]
  rw [if_pos (by and_intros <;> first | trivial | rfl | assumption | omega | (rw [List.length_reverse]; done) | (rw [decide_eq_true_eq]; exact ⟨h1, h2, h3⟩) | exact Or.inl hr | exact Or.inr ⟨hr, hv⟩ | exact Or.inr hv | exact Or.inl rfl | exact Or.inl trivial), e]
  rfl
theorem ev_abs {i : Nat} {a : Int} (hd : decode (fx_by y) pc = .ok (.invokestatic i, 3)) (hc : fx_ca y i = none) (hp : fx_pd y i = some 2) (hs : st.length ≤ 8) (h1 : fx_in a) : fx_E S y pc ls (.inl a :: st) σ = fx_E S y (pc + 3) ls (.inl (a.natAbs : Int) :: st) σ := by
  have e : (if 0 ≤ a then a else -a) = (a.natAbs : Int) := by split <;> omega
  rw [fx_E_go hd]
  simp only [fx_ex, fx_is, hc, hp]
  rw [if_pos (by and_intros <;> first | trivial | rfl | assumption | omega | (rw [List.length_reverse]; done) | (rw [decide_eq_true_eq]; exact ⟨h1, h2, h3⟩) | exact Or.inl hr | exact Or.inr ⟨hr, hv⟩ | exact Or.inr hv | exact Or.inl rfl | exact Or.inl trivial), e]
  rfl
def fx_cp (σ : fx_M) (o0 g0 : Nat) (sp : Int) (o1 g1 : Nat) (dp n : Int) : fx_M := fun o g k => if o = o1 ∧ g = g1 ∧ dp.toNat ≤ k ∧ k < dp.toNat + n.toNat then σ o0 g0 (sp.toNat + (k - dp.toNat)) else σ o g k
theorem ev_copy {i o0 g0 o1 g1 : Nat} {n dp sp : Int} (hd : decode (fx_by y) pc = .ok (.invokestatic i, 3)) (hc : fx_ca y i = none) (hp : fx_pd y i = none) (ha : (y, i) ∈ fx_aT) (k0 : fx_ak o0 = 1) (k1 : fx_ak o1 = 1) (hs : st.length ≤ 8) (h1 : 0 ≤ n) (h2 : 0 ≤ dp) (h3 : 0 ≤ sp) (h4 : sp + n ≤ S.1 o0 g0) (h5 : dp + n ≤ S.1 o1 g1) : fx_E S y pc ls (.inl n :: .inl dp :: .inr (some (o1, g1)) :: .inl sp :: .inr (some (o0, g0)) :: st) σ = fx_E S y (pc + 3) ls st (fx_cp σ o0 g0 sp o1 g1 dp n) := by
  rw [fx_E_go hd]
  simp only [fx_ex, fx_is, hc, hp]
  rw [if_pos (by and_intros <;> first | trivial | rfl | assumption)]
  rfl
theorem ev_iret {v : Int} (hd : decode (fx_by y) pc = .ok (.ireturn, 1)) (hr : fx_rt y = some .int) : fx_E S y pc ls [.inl v] σ = some (some (.inl v), σ) := by
  rw [fx_E_go hd]
  simp only [fx_ex, fx_ret]
  rw [if_pos (by and_intros <;> first | trivial | rfl | assumption | omega | (rw [List.length_reverse]; done) | (rw [decide_eq_true_eq]; exact ⟨h1, h2, h3⟩) | exact Or.inl hr | exact Or.inr ⟨hr, hv⟩ | exact Or.inr hv | exact Or.inl rfl | exact Or.inl trivial)]
  rfl
theorem ev_zret {v : Int} (hd : decode (fx_by y) pc = .ok (.ireturn, 1)) (hr : fx_rt y = some .boolean) (hv : v = 0 ∨ v = 1) : fx_E S y pc ls [.inl v] σ = some (some (.inl v), σ) := by
  rw [fx_E_go hd]
  simp only [fx_ex, fx_ret]
  rw [if_pos (by and_intros <;> first | trivial | rfl | assumption | omega | (rw [List.length_reverse]; done) | (rw [decide_eq_true_eq]; exact ⟨h1, h2, h3⟩) | exact Or.inl hr | exact Or.inr ⟨hr, hv⟩ | exact Or.inr hv | exact Or.inl rfl | exact Or.inl trivial)]
  rfl
theorem ev_aret {v : Option (Nat × Nat)} (hd : decode (fx_by y) pc = .ok (.areturn, 1)) (hr : fx_rt y = some (.object "FoldDye$Cloth")) : fx_E S y pc ls [.inr v] σ = some (some (.inr v), σ) := by
  rw [fx_E_go hd]
  simp only [fx_ex, fx_rea]
  rw [if_pos (by and_intros <;> first | trivial | rfl | assumption | omega | (rw [List.length_reverse]; done) | (rw [decide_eq_true_eq]; exact ⟨h1, h2, h3⟩) | exact Or.inl hr | exact Or.inr ⟨hr, hv⟩ | exact Or.inr hv | exact Or.inl rfl | exact Or.inl trivial)]
  rfl
theorem ev_vret (hd : decode (fx_by y) pc = .ok (.return_, 1)) (hr : fx_rt y = none) : fx_E S y pc ls [] σ = some (none, σ) := by
  rw [fx_E_go hd]
  simp only [fx_ex, fx_rev]
  rw [if_pos (by and_intros <;> first | trivial | rfl | assumption | omega | (rw [List.length_reverse]; done) | (rw [decide_eq_true_eq]; exact ⟨h1, h2, h3⟩) | exact Or.inl hr | exact Or.inr ⟨hr, hv⟩ | exact Or.inr hv | exact Or.inl rfl | exact Or.inl trivial)]
  rfl
end FXE
/-! the lengths of the arrays: rows and columns of the cloths are Rf, Cf -/
def fx_ln (Rf Cf : Nat → Nat) (o g : Nat) : Nat :=
  if o = 1 then 3 else if o = 2 then 6 else if o = 4 then 144 else if o = 5 then 144 else if o = 8 then 48 else if o = 9 then 4 else if o = 11 then 12
  else if o = 13 then Rf g * Cf g else if o = 14 then 12 * Rf g else if o = 16 then Rf g * Cf g else if o = 17 then Rf g * Cf g else if o = 18 then Rf g * Cf g else if o = 19 then 12 * Rf g
  else if o = 33 then 1008 else if o = 34 then 1008 else if o = 35 then 1008 else if o = 36 then 1008
  else if o = 43 then 42 else if o = 44 then 42 else if o = 45 then 42 else if o = 46 then 42
  else if o = 50 then 3600 else if o = 51 then 144 else if o = 52 then 144 else if o = 53 then 144 else if o = 54 then 144 else if o = 55 then 144
  else if o = 58 then 48 else if o = 59 then 2 else if o = 60 then 2 else if o = 61 then 2 else if o = 62 then 6 else if o = 64 then 4
  else 7
def fx_S (Rf Cf : Nat → Nat) (nc : Nat) : fx_Sh := (fx_ln Rf Cf, nc)
section FXN
variable {S : fx_Sh} {y pc : Nat} {ls : fx_L} {st : List fx_V} {σ : fx_M}
theorem en_iald {o g n : Nat} {i : Int} (hd : decode (fx_by y) pc = .ok (.iaload, 1)) (ho : fx_ak o = 1) (hn : S.1 o g = n) (h0 : 0 ≤ i) (h1 : i < n) : fx_E S y pc ls (.inl i :: .inr (some (o, g)) :: st) σ = fx_E S y (pc + 1) ls (.inl (σ o g i.toNat) :: st) σ := ev_iald hd ho h0 (by rw [hn]; exact h1)
theorem en_zald {o g n : Nat} {i : Int} (hd : decode (fx_by y) pc = .ok (.baload, 1)) (ho : fx_ak o = 2) (hn : S.1 o g = n) (h0 : 0 ≤ i) (h1 : i < n) : fx_E S y pc ls (.inl i :: .inr (some (o, g)) :: st) σ = fx_E S y (pc + 1) ls (.inl (σ o g i.toNat) :: st) σ := ev_zald hd ho h0 (by rw [hn]; exact h1)
theorem en_iast {o g n : Nat} {i v : Int} (hd : decode (fx_by y) pc = .ok (.iastore, 1)) (ho : fx_ak o = 1) (hn : S.1 o g = n) (h0 : 0 ≤ i) (h1 : i < n) : fx_E S y pc ls (.inl v :: .inl i :: .inr (some (o, g)) :: st) σ = fx_E S y (pc + 1) ls st (fx_up σ o g i.toNat v) := ev_iast hd ho h0 (by rw [hn]; exact h1)
theorem en_zast {o g n : Nat} {i v : Int} (hd : decode (fx_by y) pc = .ok (.bastore, 1)) (ho : fx_ak o = 2) (hn : S.1 o g = n) (h0 : 0 ≤ i) (h1 : i < n) (hv : v = 0 ∨ v = 1) : fx_E S y pc ls (.inl v :: .inl i :: .inr (some (o, g)) :: st) σ = fx_E S y (pc + 1) ls st (fx_up σ o g i.toNat v) := ev_zast hd ho h0 (by rw [hn]; exact h1) hv
theorem en_aald {i : Int} {n : Nat} (hd : decode (fx_by y) pc = .ok (.aaload, 1)) (hn : S.1 2 0 = n) (h0 : 0 ≤ i) (h1 : i < n) : fx_E S y pc ls (.inl i :: .inr (some (2, 0)) :: st) σ = fx_E S y (pc + 1) ls (.inr (if i.toNat < S.2 then some (12, i.toNat) else none) :: st) σ := ev_aald hd h0 (by rw [hn]; exact h1)
theorem en_alen {o g n : Nat} (hd : decode (fx_by y) pc = .ok (.arraylength, 1)) (ho : fx_ak o = 1 ∨ fx_ak o = 2) (hn : S.1 o g = n) : fx_E S y pc ls (.inr (some (o, g)) :: st) σ = fx_E S y (pc + 1) ls (.inl n :: st) σ := by rw [ev_alen hd ho, hn]
theorem en_copy {i o0 g0 o1 g1 n0 n1 : Nat} {n dp sp : Int} (hd : decode (fx_by y) pc = .ok (.invokestatic i, 3)) (hc : fx_ca y i = none) (hp : fx_pd y i = none) (ha : (y, i) ∈ fx_aT) (k0 : fx_ak o0 = 1) (k1 : fx_ak o1 = 1) (hs : st.length ≤ 8) (hn0 : S.1 o0 g0 = n0) (hn1 : S.1 o1 g1 = n1) (h1 : 0 ≤ n) (h2 : 0 ≤ dp) (h3 : 0 ≤ sp) (h4 : sp + n ≤ n0) (h5 : dp + n ≤ n1) : fx_E S y pc ls (.inl n :: .inl dp :: .inr (some (o1, g1)) :: .inl sp :: .inr (some (o0, g0)) :: st) σ = fx_E S y (pc + 3) ls st (fx_cp σ o0 g0 sp o1 g1 dp n) := ev_copy hd hc hp ha k0 k1 hs h1 h2 h3 (by rw [hn0]; exact h4) (by rw [hn1]; exact h5)
end FXN
end
section
/-! making objects: rows for the constructors -/
abbrev fx_t3 (cI cZ cQ : ClassId) : List (ClassId × FieldType) := [(cI, .int), (cZ, .boolean), (cQ, .object "FoldDye$Cloth")]
def fx_mN : List (Nat × MethodName) := [(25, ⟨"FoldDye$Seep", "<init>", "()V"⟩), (32, ⟨"FoldDye$Wish", "<init>", "()V"⟩), (39, ⟨"FoldDye$Search", "<init>", "()V"⟩)]
def fx_St (ad : Nat → Nat → Nat) (A : Nat → Prop) (U : State) : Prop := fx_Sa ad A U U.heap ∧ (∀ q, U.heap.size ≤ q → A q) ∧ (∀ e ∈ fx_mN, va_Nw (.methodLinkNest "FoldDye" e.1 e.2 "FoldDye") U) ∧ va_AO "FoldDye$Cloth" U
theorem fx_St.call {ad : Nat → Nat → Nat} {A0 A : Nat → Prop} {s U : State} {H : Heap} {locs : List Loc} (h : fx_St ad A0 s) (hW : s.WarmedH U.vm) (hU : U.heap = H) (hS : va_S A s.heap H locs) (hA : ∀ q, A q → A0 q) : fx_St ad A0 U := by
  refine ⟨?_, fun q hq => h.2.1 q (Nat.le_trans hS.1 (by rw [← hU]; exact hq)), fun e he => va_Nw.warmM hW (h.2.2.1 e he), h.2.2.2.moved hW.alike⟩
  rw [hU]
  exact fx_Sa.kept (fx_Sa.moved hW h.1) (fun a h1 h2 => hS.2.1 a h1 (fun z => h2 (hA a z)))
theorem fx_St.same {ad : Nat → Nat → Nat} {A0 : Nat → Prop} {u U : State} (h : fx_St ad A0 u) (hv : u.vm = U.vm) (hh : u.heap = U.heap) : fx_St ad A0 U := by
  refine ⟨?_, fun q hq => h.2.1 q (by rw [hh]; exact hq), fun e he => va_Nw.same rfl hv (h.2.2.1 e he), h.2.2.2.moved (hv ▸ Vm.Alike.refl u.vm)⟩
  rw [← hh]
  exact fx_Sa.same hv h.1
theorem va_Run_mono {p : Program} {l : Launch} {e : Env} {R : Room} {s : State} {m : MethodId} {args : Array Value} {below : List Frame} {meth : Method} {c : Code} {H : Heap} {locs : List Loc} {cells slots mc ms : Nat} {g : JFrame} {rest : List Value} {Qa Qb : State → Outcome → State → Prop} {free : Addr → Prop} (h : va_Run p l e R s m args below meth c H locs cells slots mc ms g rest Qa free) (hq : ∀ st oc t, Qa st oc t → Qb st oc t) : va_Run p l e R s m args below meth c H locs cells slots mc ms g rest Qb free := by
  intro T hT X
  obtain ⟨v, st₀, t, T', L, h0, X', hL, e1, e2, h3, st⟩ := h T hT X
  exact ⟨v, st₀, t, T', L, h0, X', hL, e1, e2, hq _ _ _ h3, st⟩
theorem fx_cls_eq {D : va_G} {cl : List vw_C} {tys : List (ClassId × FieldType)} {s : State} {c1 c2 : ClassId} {ty : FieldType} {i j : Nat} (hK : va_K D cl tys s) (h1 : tys[i]? = some (c1, ty)) (h2 : tys[j]? = some (c2, ty)) : c1 = c2 := by
  have e1 := (hK.2 i _ h1).2
  have e2 := (hK.2 j _ h2).2
  cases ty with
  | object C =>
    obtain ⟨_, _, _, _, _, f1⟩ := e1
    obtain ⟨_, _, _, _, _, f2⟩ := e2
    exact Option.some.inj (f1.symm.trans f2)
  | _ => exact Option.some.inj (Eq.trans (Eq.symm e1) e2)
section MK
variable {p : Program} {l : Launch} {e : Env} {R : Room} {s : State} {m : MethodId} {args : Array Value} {below : List Frame} {meth : Method} {c : Code} {H : Heap} {locs : List Loc} {cells slots : Nat} {Q : State → Prop}
variable {cc : ByteArray} {pc : Nat} {ls : Array Slot} {rest : List Value} {D : va_G} {A : Nat → Prop} {cI cZ cQ : ClassId} {ws : va_W} {H0 : Heap}
theorem fx_newI (hx : p.tables.exec = Jvm.exec) (hb : c.code = cc) (hts : ∀ w ∈ fx_tb, w.before args s = true) (harr : Cond.arrayClass .int ∈ fx_tb) (hK : va_K D fx_cl (fx_t3 cI cZ cQ) s) (hP : va_P D fx_cl ws H) (hD : va_D A ws) (hS : va_S A H0 H locs) (hA : ∀ q, H0.size ≤ q → A q) {n : Nat} (hn : n ≤ 100000) (hcells : cells + 1 ≤ R.cells) (hslots : slots + n ≤ R.slots) (hdg : decode cc pc = .ok (.newarray .int, 2))
    (kk : ∀ (q : Nat) (H1 : Heap), va_P D fx_cl (ws ++ [(q, .inl (cI, n, .inl (fun _ => 0)))]) H1 → va_D A (ws ++ [(q, .inl (cI, n, .inl (fun _ => 0)))]) → va_S A H0 H1 locs → W p l e R s m args below meth c H1 locs (cells + 1) (slots + n) Q (F0 m (pc + 2) ls (.ref q :: rest))) : W p l e R s m args below meth c H locs cells slots Q (F0 m pc ls (.int (fx_I n) :: rest)) := by
  refine va_newa (atype := .int) (ty := .int) (N' := n) (a0 := (n, .inl (fun _ => 0))) hx hb (hts _ harr) rfl hK hP hD hS hA (fun _ => rfl) ?_ (fx_clamp (x := (n : Int)) (by omega) (by omega)) (by show n * 4 ≤ _; omega) hcells hslots hdg ?_
  · intro q
    have := (fx_lt (x := (n : Int)) (y := 0) ⟨by omega, by omega⟩ fx_in0).mp q
    omega
  · intro q cA H1 hK1 hP1 hD1 hS1
    obtain rfl : cI = cA := fx_cls_eq (i := 0) (j := 3) hK1 rfl rfl
    exact kk q H1 hP1 hD1 hS1
theorem fx_newZ (hx : p.tables.exec = Jvm.exec) (hb : c.code = cc) (hts : ∀ w ∈ fx_tb, w.before args s = true) (harr : Cond.arrayClass .boolean ∈ fx_tb) (hK : va_K D fx_cl (fx_t3 cI cZ cQ) s) (hP : va_P D fx_cl ws H) (hD : va_D A ws) (hS : va_S A H0 H locs) (hA : ∀ q, H0.size ≤ q → A q) {n : Nat} (hn : n ≤ 100000) (hcells : cells + 1 ≤ R.cells) (hslots : slots + n ≤ R.slots) (hdg : decode cc pc = .ok (.newarray .boolean, 2))
    (kk : ∀ (q : Nat) (H1 : Heap), va_P D fx_cl (ws ++ [(q, .inl (cZ, n, .inl (fun _ => 0)))]) H1 → va_D A (ws ++ [(q, .inl (cZ, n, .inl (fun _ => 0)))]) → va_S A H0 H1 locs → W p l e R s m args below meth c H1 locs (cells + 1) (slots + n) Q (F0 m (pc + 2) ls (.ref q :: rest))) : W p l e R s m args below meth c H locs cells slots Q (F0 m pc ls (.int (fx_I n) :: rest)) := by
  refine va_newa (atype := .boolean) (ty := .boolean) (N' := n) (a0 := (n, .inl (fun _ => 0))) hx hb (hts _ harr) rfl hK hP hD hS hA (fun _ => rfl) ?_ (fx_clamp (x := (n : Int)) (by omega) (by omega)) (by show n * 1 ≤ _; omega) hcells hslots hdg ?_
  · intro q
    have := (fx_lt (x := (n : Int)) (y := 0) ⟨by omega, by omega⟩ fx_in0).mp q
    omega
  · intro q cA H1 hK1 hP1 hD1 hS1
    obtain rfl : cZ = cA := fx_cls_eq (i := 1) (j := 3) hK1 rfl rfl
    exact kk q H1 hP1 hD1 hS1
theorem fx_newQ (hx : p.tables.exec = Jvm.exec) (hb : c.code = cc) {own : String} {index : Nat} (hown : s.vm.findClass own = some m.cls) (hlink : (Cond.classLink own index "FoldDye$Cloth").before args s = true) (hover : (Cond.arrayOver (.object "FoldDye$Cloth")).before args s = true) (hK : va_K D fx_cl (fx_t3 cI cZ cQ) s) (hP : va_P D fx_cl ws H) (hD : va_D A ws) (hS : va_S A H0 H locs) (hA : ∀ q, H0.size ≤ q → A q) {n : Nat} (hn : n ≤ 100000) (hcells : cells + 1 ≤ R.cells) (hslots : slots + n ≤ R.slots) (hdg : decode cc pc = .ok (.anewarray index, 3))
    (kk : ∀ (q : Nat) (H1 : Heap), va_P D fx_cl (ws ++ [(q, .inl (cQ, n, .inr (.inr (.inr (.inr (fun _ => none))))))]) H1 → va_D A (ws ++ [(q, .inl (cQ, n, .inr (.inr (.inr (.inr (fun _ => none))))))]) → va_S A H0 H1 locs → W p l e R s m args below meth c H1 locs (cells + 1) (slots + n) Q (F0 m (pc + 3) ls (.ref q :: rest))) : W p l e R s m args below meth c H locs cells slots Q (F0 m pc ls (.int (fx_I n) :: rest)) := by
  refine va_newq (N' := n) hx hb hown hlink (va_AO.of hover) hK hP hD hS hA ?_ (fx_clamp (x := (n : Int)) (by omega) (by omega)) (by omega) hcells hslots hdg ?_
  · intro q
    have := (fx_lt (x := (n : Int)) (y := 0) ⟨by omega, by omega⟩ fx_in0).mp q
    omega
  · intro q cA H1 hK1 hP1 hD1 hS1
    obtain rfl : cQ = cA := fx_cls_eq (i := 2) (j := 3) hK1 rfl rfl
    exact kk q H1 hP1 hD1 hS1
theorem fx_putC (hx : p.tables.exec = Jvm.exec) (hb : c.code = cc) (hts : ∀ w ∈ fx_tb, w.before args s = true) {o : Nat} (hown : s.vm.findClass (fx_cs o) = some m.cls) (hin : meth.name = "<init>") {tys : List (ClassId × FieldType)} (hK : va_K D fx_cl tys s) (hP : va_P D fx_cl ws H) (hD : va_D A ws) (hS : va_S A H0 H locs) (q0 : Nat) {a i ci k : Nat} {fs : List Value} (he : ws[q0]? = some (a, .inr (ci, fs))) (hf : fx_fd o i = some (ci, k)) (hdecl : ((fx_cl.getD ci (RX0, TX0, 7)).2.1 k).1 = fx_cs o) {v : Value} {ty : FieldType} (hty : parseFieldDescriptor ((fx_cl.getD ci (RX0, TX0, 7)).2.1 k).2.2.1 = some ty) (hn : narrow ty v = v) (hfit : fits ty v = true) (hl : k < fs.length) (hdg : decode cc pc = .ok (.putfield i, 3))
    (kk : ∀ (H1 : Heap) (locs1 : List Loc), va_P D fx_cl (ws.set q0 (a, .inr (ci, fs.set k v))) H1 → va_D A (ws.set q0 (a, .inr (ci, fs.set k v))) → va_S A H0 H1 locs1 → W p l e R s m args below meth c H1 locs1 cells slots Q (F0 m (pc + 3) ls rest)) : W p l e R s m args below meth c H locs cells slots Q (F0 m pc ls (v :: .ref a :: rest)) := by
  obtain ⟨r, h1, h2, h2e, h3⟩ := fx_fd_in hf
  obtain ⟨ty0, hty0, hnm⟩ := fx_cl_ty h1
  rw [← h2e] at hdecl hty
  by_cases hfin : (r.2.1 k).2.2.2 = true
  · exact va_putF hx hb hts (fx_cl_in h1) ty0 hty0 hnm hown hK hP hD hS q0 he h1 k h2 (hts _ h3) (fun _ h => h) hfin hin hdecl hty hn hfit hl hdg kk
  · exact va_put hx hb hts (fx_cl_in h1) ty0 hty0 hnm hown hK hP hD hS q0 he h1 k h2 (hts _ h3) (fun _ h => h) (by simpa using hfin) hty hn hfit hl hdg kk
theorem fx_getC (hx : p.tables.exec = Jvm.exec) (hb : c.code = cc) (hts : ∀ w ∈ fx_tb, w.before args s = true) {o : Nat} (hown : s.vm.findClass (fx_cs o) = some m.cls) {tys : List (ClassId × FieldType)} (hK : va_K D fx_cl tys s) (hP : va_P D fx_cl ws H) (q0 : Nat) {a i ci k : Nat} {fs : List Value} (he : ws[q0]? = some (a, .inr (ci, fs))) (hf : fx_fd o i = some (ci, k)) {v : Value} (hv : fs[k]? = some v) (hdg : decode cc pc = .ok (.getfield i, 3))
    (kk : W p l e R s m args below meth c H locs cells slots Q (F0 m (pc + 3) ls (v :: rest))) : W p l e R s m args below meth c H locs cells slots Q (F0 m pc ls (.ref a :: rest)) := by
  obtain ⟨r, h1, h2, h2e, h3⟩ := fx_fd_in hf
  exact va_get hx hb hts (fx_cl_in h1) hown hK hP q0 he h1 k h2 (hts _ h3) (fun _ h => h) hv hdg kk
theorem va_nd_of : ∀ (l : List Nat), l.Nodup → va_nd l = true
  | [], _ => rfl
  | a :: l, h => by
    rw [List.nodup_cons] at h
    simp only [va_nd, Bool.and_eq_true, decide_eq_true_eq]
    exact ⟨h.1, va_nd_of l h.2⟩
theorem fx_isR (pre : va_W) (x : Nat × va_E) : (List.range pre.length).map (fun i => (pre ++ [x])[i]?) = pre.map some := by
  apply List.ext_getElem?
  intro j
  rw [List.getElem?_map, List.getElem?_map]
  by_cases hj : j < pre.length
  · rw [List.getElem?_range hj]
    simp only [Option.map_some]
    rw [List.getElem?_append_left hj, List.getElem?_eq_getElem hj]
    rfl
  · rw [List.getElem?_eq_none (by rw [List.length_range]; omega), List.getElem?_eq_none (by omega)]
    rfl
/-- what a constructor wants and gives: its cell, as it was made; a world that holds it -/
abbrev fx_IPc (D : va_G) (cI cZ cQ : ClassId) (ad : Nat → Nat → Nat) (A0 : Nat → Prop) (h0 : Nat) (c0 : va_E) (sz : Nat) (vs : List Value) : Array Value → State → Prop := va_Pc (.ref h0 :: vs) (fun U => U.heap.size = sz ∧ va_P D fx_cl [(h0, c0)] U.heap ∧ va_K D fx_cl (fx_t3 cI cZ cQ) U ∧ va_D (fun _ => True) [(h0, c0)] ∧ fx_St ad A0 U ∧ A0 h0)
abbrev fx_IQc (D : va_G) (h0 : Nat) (c0 : va_E) (sz : Nat) (K : va_W → Prop) : Array Value → State → Outcome → State → Prop := va_Qv (fun w1 : va_W => K w1) (fun w1 t => va_P D fx_cl w1 t.heap ∧ va_D (va_A [(h0, c0)] sz) w1) (va_A [(h0, c0)] sz)
theorem fx_IPc_blind {D : va_G} {cI cZ cQ : ClassId} {ad : Nat → Nat → Nat} {A0 : Nat → Prop} {h0 : Nat} {c0 : va_E} {sz : Nat} {vs : List Value} : FrameBlind (fx_IPc D cI cZ cQ ad A0 h0 c0 sz vs) := by
  rintro a U g mk ⟨h1, h2, h3, h4, h5, h6, h7⟩
  exact ⟨h1, h2, h3, va_K.moved (u := U) (U := U.calling g mk a) (Vm.Alike.refl U.vm) h4, h5, fx_St.same (u := U) (U := U.calling g mk a) h6 rfl rfl, h7⟩
theorem fx_mk_after {pre : va_W} {b : Nat} {c0 : va_E} {ad : Nat → Nat → Nat} {A0 : Nat → Prop} {mc ms : Nat} {K : va_W → Prop} {st0 : List Value} {av : Array Value} (hP : va_P D fx_cl (pre ++ [(b, c0)]) H) (hD : va_D A (pre ++ [(b, c0)])) (hS : va_S A H0 H locs) (hA : ∀ q, H0.size ≤ q → A q)
    (run : va_Run p l e R s m args below meth c H locs cells slots mc ms (F0 m pc ls st0) rest (fx_IQc D b c0 H.size K av) (va_A [(b, c0)] H.size))
    (kk : ∀ (w1 : va_W) (H1 : Heap) (locs1 : List Loc), K w1 → va_P D fx_cl (pre ++ w1) H1 → va_D A (pre ++ w1) → va_S A H0 H1 locs1 → W p l e R s m args below meth c H1 locs1 (cells + mc) (slots + ms) Q (F0 m (pc + 3) ls rest)) : W p l e R s m args below meth c H locs cells slots Q (F0 m pc ls st0) := by
  have hC : [pre.length].map (fun i => (pre ++ [(b, c0)])[i]?) = ([(b, c0)] : va_W).map some := by simp
  have hFc := va_free (wc := [(b, c0)]) hD hS hA [pre.length] hC
  refine va_callv run hS (fun q _ h => hFc q h) hFc (fun u t H1 locs1 ht hvm hw hB hz1 hk1 hS1 => ?_)
  obtain ⟨hP1, hD1⟩ := hB
  rw [ht] at hP1
  obtain ⟨hP2, hD2⟩ := va_join (wr := pre) (w1 := u) hP hD [pre.length] (List.range pre.length) hC (fx_isR pre (b, c0)) (va_nd_of _ List.nodup_range) (by
    intro i hi
    rw [List.mem_range] at hi
    simp only [List.mem_singleton]
    omega) hk1 hFc hP1 hD1
  exact kk u H1 locs1 hw hP2 hD2 hS1
theorem fx_mkI {nL : Nat} {own : String} {pre : va_W} {b : Nat} {c0 : va_E} {ad : Nat → Nat → Nat} {A0 : Nat → Prop} {mc ms idx n maxL : Nat} {y : MethodName} {bytes : ByteArray} {rm : Room} {As : List Value} {K : va_W → Prop} (hfix : CallFix p m c cc nL s args fx_tb own) (hK : va_K D fx_cl (fx_t3 cI cZ cQ) s) (hP : va_P D fx_cl (pre ++ [(b, c0)]) H) (hD : va_D A (pre ++ [(b, c0)])) (hS : va_S A s.heap H locs) (hA : ∀ q, s.heap.size ≤ q → A q) (hSt : fx_St ad A0 s) (hA0 : ∀ q, A q → A0 q)
    (hM : Met l y (Cond.code y bytes maxL none :: fx_tb) rm (fx_IPc D cI cZ cQ ad A0 b c0 H.size As) (fx_IQc D b c0 H.size K) mc ms (va_A [(b, c0)] H.size))
    (hcode : Cond.code y bytes maxL none ∈ fx_tb) (hini : Cond.initialized y.cls ∈ fx_tb) (hlink : Cond.methodLink own idx y ∈ fx_tb) (hinst : Cond.instanceMethod y ∈ fx_tb) (hy : y.name = "<init>") (hd : y.cls ≠ "java/lang/invoke/MethodHandle" ∧ y.cls ≠ "java/lang/invoke/VarHandle" ∧ (parseMethodDescriptor y.desc).map (fun d => d.parameters.length) = some n) (hR : rm.frames + 1 ≤ R.frames ∧ 8 + (maxL + 11) + rm.locals ≤ R.locals) (hrc : rm.cells = mc) (hrs : rm.slots = ms)
    (hn : As.length = n) (hsize : ls.size = nL) (hrest : (rest.map fun v => v.category).sum ≤ 8) (hdg : decode cc pc = .ok (.invokespecial idx, 3)) (hf : cells + mc ≤ R.cells ∧ slots + ms ≤ R.slots)
    (kk : ∀ (w1 : va_W) (H1 : Heap) (locs1 : List Loc), K w1 → va_P D fx_cl (pre ++ w1) H1 → va_D A (pre ++ w1) → va_S A s.heap H1 locs1 → W p l e R s m args below meth c H1 locs1 (cells + mc) (slots + ms) Q (F0 m (pc + 3) ls rest)) : W p l e R s m args below meth c H locs cells slots Q (F0 m pc ls (As.reverse ++ .ref b :: rest)) := by
  have hts := hfix.2.2.2.2
  have hC : [pre.length].filterMap (fun i => (pre ++ [(b, c0)])[i]?) = [(b, c0)] := by simp
  have hPc := hP.sub (ws' := [(b, c0)]) [pre.length] hC
  have hC2 : [pre.length].map (fun i => (pre ++ [(b, c0)])[i]?) = ([(b, c0)] : va_W).map some := by simp
  have hDc := hD.sub (ws' := [(b, c0)]) [pre.length] rfl hC2
  have hbA : A b := hDc.2 0 (b, c0) rfl
  refine fx_mk_after (ad := ad) (A0 := A0) hP hD hS hA (va_runI (As := As) (rest := rest) hfix hM (cwI n hts (fx_good1 hcode fx_good_tb) rfl hrc hrs (hts _ hini) (hts _ hlink) (hts _ hinst) hy hd hR) ⟨fx_IPc_blind, fun U hU hW => ⟨rfl, by rw [hU], by rw [hU]; exact hPc, va_K.moved hW.alike hK, hDc.weaken (fun _ _ _ _ => trivial), fx_St.call hSt hW hU hS hA0, hA0 b hbA⟩⟩ rfl hn hsize rfl (lv_room hrest) hdg hf) kk
theorem fx_mkN {nL : Nat} {own host : String} {pre : va_W} {b : Nat} {c0 : va_E} {ad : Nat → Nat → Nat} {A0 : Nat → Prop} {mc ms idx n maxL : Nat} {y : MethodName} {bytes : ByteArray} {rm : Room} {As : List Value} {K : va_W → Prop} (hfix : CallFix p m c cc nL s args fx_tb own) (hK : va_K D fx_cl (fx_t3 cI cZ cQ) s) (hP : va_P D fx_cl (pre ++ [(b, c0)]) H) (hD : va_D A (pre ++ [(b, c0)])) (hS : va_S A s.heap H locs) (hA : ∀ q, s.heap.size ≤ q → A q) (hSt : fx_St ad A0 s) (hA0 : ∀ q, A q → A0 q)
    (hM : Met l y (Cond.code y bytes maxL none :: fx_tb) rm (fx_IPc D cI cZ cQ ad A0 b c0 H.size As) (fx_IQc D b c0 H.size K) mc ms (va_A [(b, c0)] H.size))
    (hcode : Cond.code y bytes maxL none ∈ fx_tb) (hini : Cond.initialized y.cls ∈ fx_tb) (hlink : va_Nw (.methodLinkNest own idx y host) s) (hinst : Cond.instanceMethod y ∈ fx_tb) (hy : y.name = "<init>") (hd : y.cls ≠ "java/lang/invoke/MethodHandle" ∧ y.cls ≠ "java/lang/invoke/VarHandle" ∧ (parseMethodDescriptor y.desc).map (fun d => d.parameters.length) = some n) (hR : rm.frames + 1 ≤ R.frames ∧ 8 + (maxL + 11) + rm.locals ≤ R.locals) (hrc : rm.cells = mc) (hrs : rm.slots = ms)
    (hn : As.length = n) (hsize : ls.size = nL) (hrest : (rest.map fun v => v.category).sum ≤ 8) (hdg : decode cc pc = .ok (.invokespecial idx, 3)) (hf : cells + mc ≤ R.cells ∧ slots + ms ≤ R.slots)
    (kk : ∀ (w1 : va_W) (H1 : Heap) (locs1 : List Loc), K w1 → va_P D fx_cl (pre ++ w1) H1 → va_D A (pre ++ w1) → va_S A s.heap H1 locs1 → W p l e R s m args below meth c H1 locs1 (cells + mc) (slots + ms) Q (F0 m (pc + 3) ls rest)) : W p l e R s m args below meth c H locs cells slots Q (F0 m pc ls (As.reverse ++ .ref b :: rest)) := by
  have hts := hfix.2.2.2.2
  have hC : [pre.length].filterMap (fun i => (pre ++ [(b, c0)])[i]?) = [(b, c0)] := by simp
  have hPc := hP.sub (ws' := [(b, c0)]) [pre.length] hC
  have hC2 : [pre.length].map (fun i => (pre ++ [(b, c0)])[i]?) = ([(b, c0)] : va_W).map some := by simp
  have hDc := hD.sub (ws' := [(b, c0)]) [pre.length] rfl hC2
  have hbA : A b := hDc.2 0 (b, c0) rfl
  refine fx_mk_after (ad := ad) (A0 := A0) hP hD hS hA (va_runIN (As := As) (rest := rest) hfix hM ⟨va_cnB n hts (fx_good1 hcode fx_good_tb) rfl hrc hrs hlink (hts _ hini) hd hR, hy, hts _ hinst⟩ ⟨fx_IPc_blind, fun U hU hW => ⟨rfl, by rw [hU], by rw [hU]; exact hPc, va_K.moved hW.alike hK, hDc.weaken (fun _ _ _ _ => trivial), fx_St.call hSt hW hU hS hA0, hA0 b hbA⟩⟩ rfl hn hsize rfl (lv_room hrest) hdg hf) kk
end MK
theorem fx_mulN (a b : Nat) : fx_I a * fx_I b = fx_I ((a * b : Nat) : Int) := by
  show Int32.ofInt a * Int32.ofInt b = Int32.ofInt ((a * b : Nat) : Int)
  rw [← Int32.ofInt_mul]
  congr 1
theorem fx_ab {a b : Nat} (ha : a ≤ 12) (hb : b ≤ 12) : a * b ≤ 144 := Nat.mul_le_mul ha hb
end
section
/-! the constructors, by program (wip/gen/gen_init.py) -/
theorem fx_SaN {ad ad' : Nat → Nat → Nat} {A B : Nat → Prop} {U : State} {H : Heap} (had : ∀ o, o = 90 ∨ o = 91 ∨ o = 92 → ad' o 0 = ad o 0) (hAB : ∀ q, B q → A q) (h : fx_Sa ad A U H) : fx_Sa ad' B U H := by
  refine ⟨fun e he => ?_, h.2⟩
  have h1 := h.1 e he
  have ho : e.1 = 90 ∨ e.1 = 91 ∨ e.1 = 92 := by
    simp only [List.mem_cons, List.not_mem_nil, or_false] at he
    rcases he with rfl | rfl | rfl <;> simp
  rw [had e.1 ho]
  exact ⟨h1.1.narrow hAB, h1.2.narrow hAB⟩
theorem fx_afterC {p : Program} {l : Launch} {e : Env} {R : Room} {s : State} {m : MethodId} {args : Array Value} {below : List Frame} {meth : Method} {c : Code} {H : Heap} {locs : List Loc} {cells slots pc : Nat} {Q : State → Prop} {jl : Array Slot} {st0 rest : List Value} {G : fx_G} {σ' : fx_M} {av : Array Value} {A : Nat → Prop} (hS : va_S A s.heap H locs) (hr : va_Run p l e R s m args below meth c H locs cells slots 0 0 (F0 m pc jl st0) rest (fx_Qc G (none, σ') av) (fx_A G)) (hsub : ∀ q, fx_A G q → A q)
    (kk : ∀ (H1 : Heap) (locs1 : List Loc), va_P (fx_gD G) fx_cl (fx_ws G σ') H1 → (∀ q : Nat, q < H.size → ¬ fx_A G q → H1[q]? = H[q]?) → va_S A s.heap H1 locs1 → W p l e R s m args below meth c H1 locs1 cells slots Q (F0 m (pc + 3) jl rest)) : W p l e R s m args below meth c H locs cells slots Q (F0 m pc jl st0) := by
  intro T hT X
  obtain ⟨v, st₀, t, T', L, h0, X', hL, e1, e2, ⟨hv, hP, hz, hk⟩, st⟩ := hr T hT X
  cases hv
  rw [h0] at hz hk
  have hS1 : va_S A s.heap T'.heap (locs ++ L) := ⟨Nat.le_trans hS.1 (by rw [e1]; exact hz), fun q h1 h2 => by rw [e1, hk q (Nat.lt_of_lt_of_le h1 hS.1) (fun z => h2 (hsub q z))]; exact hS.2.1 q h1 h2, fun q hq => by
      rcases List.mem_append.mp hq with h | h
      · exact hS.2.2 q h
      · exact hsub _ (hL q h)⟩
  obtain ⟨t2, a1, b1⟩ := kk T'.heap (locs ++ L) (by rw [e1]; exact hP) (fun q h1 h2 => by rw [e1]; exact hk q h1 h2) hS1 T' rfl X'
  exact ⟨t2, st t2 a1, b1⟩
theorem fx_A1 {a sz q : Nat} {e : va_E} (h : q = a) : va_A [(a, e)] sz q := by
  subst h
  exact Or.inl ⟨0, e, rfl⟩
theorem fx_D1 {A : Nat → Prop} {a : Nat} {e : va_E} (h : A a) : va_D A [(a, e)] := by
  refine ⟨fun i j x y hi hj _ => ?_, fun k q hk => ?_⟩
  · have h1 := (List.getElem?_eq_some_iff.mp hi).1
    have h2 := (List.getElem?_eq_some_iff.mp hj).1
    simp only [List.length_cons, List.length_nil] at h1 h2
    omega
  · cases k with
    | zero => cases hk; exact h
    | succ k => cases hk
def fx_adw_ (ad : Nat → Nat → Nat) (q1 : Nat) : Nat → Nat → Nat := fun o g => if o = 11 then q1 else ad o g
theorem fx_adw (ad : Nat → Nat → Nat) (q1 o : Nat) (ho : o = 90 ∨ o = 91 ∨ o = 92) : fx_adw_ ad q1 o 0 = ad o 0 := by
  unfold fx_adw_
  rw [if_neg (by omega)]
/-- Arrays.fill over a new Way's facts -/
def fx_Gw (D : va_G) (cI cZ cQ : ClassId) (ad : Nat → Nat → Nat) (A : Nat → Prop) (q1 : Nat) : fx_G := (fx_S (fun _ => 1) (fun _ => 1) 0, [(11, 0)], fx_adw_ ad q1, D, (cI, cZ, cQ), fx_t3 cI cZ cQ, A)
theorem fx_fillWay (l : Launch) (D : va_G) (cI cZ cQ : ClassId) (ad : Nat → Nat → Nat) (A : Nat → Prop) (q1 : Nat) : fx_Met l (fx_Gw D cI cZ cQ ad A q1) 131 [.inr (some (11, 0)), .inl (-1)] (fun _ _ _ => 0) (none, fun o g i => if i < 12 then -1 else 0) := sorry
theorem wd_124 : Cond.methodLink "FoldDye$Way" 3 Lib.objectInit ∈ fx_tb := List.mem_filter.mpr ⟨List.mem_of_getElem? (i := 124) (by decide +kernel), rfl⟩
theorem wd_67 : Cond.instanceMethod Lib.objectInit ∈ fx_tb := List.mem_filter.mpr ⟨List.mem_of_getElem? (i := 67) (by decide +kernel), rfl⟩
theorem wd_68 : Cond.code Lib.objectInit ⟨#[0xb1]⟩ 1 none ∈ fx_tb := List.mem_filter.mpr ⟨List.mem_of_getElem? (i := 68) (by decide +kernel), rfl⟩
theorem wd_90 : Cond.arrayClass .int ∈ fx_tb := List.mem_filter.mpr ⟨List.mem_of_getElem? (i := 90) (by decide +kernel), rfl⟩
theorem wd_125 : Cond.methodLink "FoldDye$Way" 19 (fx_nm 131) ∈ fx_tb := List.mem_filter.mpr ⟨List.mem_of_getElem? (i := 125) (by decide +kernel), rfl⟩
theorem wd_126 : Cond.static (fx_nm 131) ∈ fx_tb := List.mem_filter.mpr ⟨List.mem_of_getElem? (i := 126) (by decide +kernel), rfl⟩
theorem wd_96 : Cond.methodLink "FoldDye$Wish" 1 Lib.objectInit ∈ fx_tb := List.mem_filter.mpr ⟨List.mem_of_getElem? (i := 96) (by decide +kernel), rfl⟩
theorem wd_76 : Cond.methodLink "FoldDye$Seep" 3 Lib.objectInit ∈ fx_tb := List.mem_filter.mpr ⟨List.mem_of_getElem? (i := 76) (by decide +kernel), rfl⟩
theorem wd_142 : Cond.methodLink "FoldDye$Bundle" 3 Lib.objectInit ∈ fx_tb := List.mem_filter.mpr ⟨List.mem_of_getElem? (i := 142) (by decide +kernel), rfl⟩
theorem wd_118 : Cond.methodLink "FoldDye$Search" 5 Lib.objectInit ∈ fx_tb := List.mem_filter.mpr ⟨List.mem_of_getElem? (i := 118) (by decide +kernel), rfl⟩
theorem wd_119 : Cond.classLink "FoldDye$Search" 11 "FoldDye$Way" ∈ fx_tb := List.mem_filter.mpr ⟨List.mem_of_getElem? (i := 119) (by decide +kernel), rfl⟩
theorem wd_120 : Cond.instantiable "FoldDye$Way" 2 ∈ fx_tb := List.mem_filter.mpr ⟨List.mem_of_getElem? (i := 120) (by decide +kernel), rfl⟩
theorem wd_53 : Cond.initialized "FoldDye$Way" ∈ fx_tb := List.mem_filter.mpr ⟨List.mem_of_getElem? (i := 53) (by decide +kernel), rfl⟩
theorem wd_123 : Cond.code ⟨"FoldDye$Way", "<init>", "()V"⟩ prog_6_method_1_code 1 none ∈ fx_tb := List.mem_filter.mpr ⟨List.mem_of_getElem? (i := 123) (by decide +kernel), rfl⟩
theorem wd_122 : Cond.instanceMethod ⟨"FoldDye$Way", "<init>", "()V"⟩ ∈ fx_tb := List.mem_filter.mpr ⟨List.mem_of_getElem? (i := 122) (by decide +kernel), rfl⟩
theorem wd_121 : Cond.methodLink "FoldDye$Search" 13 ⟨"FoldDye$Way", "<init>", "()V"⟩ ∈ fx_tb := List.mem_filter.mpr ⟨List.mem_of_getElem? (i := 121) (by decide +kernel), rfl⟩
theorem wd_137 : Cond.classLink "FoldDye$Search" 18 "FoldDye$Bundle" ∈ fx_tb := List.mem_filter.mpr ⟨List.mem_of_getElem? (i := 137) (by decide +kernel), rfl⟩
theorem wd_138 : Cond.instantiable "FoldDye$Bundle" 7 ∈ fx_tb := List.mem_filter.mpr ⟨List.mem_of_getElem? (i := 138) (by decide +kernel), rfl⟩
theorem wd_55 : Cond.initialized "FoldDye$Bundle" ∈ fx_tb := List.mem_filter.mpr ⟨List.mem_of_getElem? (i := 55) (by decide +kernel), rfl⟩
theorem wd_141 : Cond.code ⟨"FoldDye$Bundle", "<init>", "(II)V"⟩ prog_2_method_1_code 3 none ∈ fx_tb := List.mem_filter.mpr ⟨List.mem_of_getElem? (i := 141) (by decide +kernel), rfl⟩
theorem wd_140 : Cond.instanceMethod ⟨"FoldDye$Bundle", "<init>", "(II)V"⟩ ∈ fx_tb := List.mem_filter.mpr ⟨List.mem_of_getElem? (i := 140) (by decide +kernel), rfl⟩
theorem wd_139 : Cond.methodLink "FoldDye$Search" 20 ⟨"FoldDye$Bundle", "<init>", "(II)V"⟩ ∈ fx_tb := List.mem_filter.mpr ⟨List.mem_of_getElem? (i := 139) (by decide +kernel), rfl⟩
theorem wd_66 : Cond.methodLink "FoldDye" 3 Lib.objectInit ∈ fx_tb := List.mem_filter.mpr ⟨List.mem_of_getElem? (i := 66) (by decide +kernel), rfl⟩
theorem wd_69 : Cond.classLink "FoldDye" 13 "FoldDye$Cloth" ∈ fx_tb := List.mem_filter.mpr ⟨List.mem_of_getElem? (i := 69) (by decide +kernel), rfl⟩
theorem wd_71 : Cond.classLink "FoldDye" 23 "FoldDye$Seep" ∈ fx_tb := List.mem_filter.mpr ⟨List.mem_of_getElem? (i := 71) (by decide +kernel), rfl⟩
theorem wd_72 : Cond.instantiable "FoldDye$Seep" 4 ∈ fx_tb := List.mem_filter.mpr ⟨List.mem_of_getElem? (i := 72) (by decide +kernel), rfl⟩
theorem wd_50 : Cond.initialized "FoldDye$Seep" ∈ fx_tb := List.mem_filter.mpr ⟨List.mem_of_getElem? (i := 50) (by decide +kernel), rfl⟩
theorem wd_75 : Cond.code ⟨"FoldDye$Seep", "<init>", "()V"⟩ prog_5_method_1_code 1 none ∈ fx_tb := List.mem_filter.mpr ⟨List.mem_of_getElem? (i := 75) (by decide +kernel), rfl⟩
theorem wd_74 : Cond.instanceMethod ⟨"FoldDye$Seep", "<init>", "()V"⟩ ∈ fx_tb := List.mem_filter.mpr ⟨List.mem_of_getElem? (i := 74) (by decide +kernel), rfl⟩
theorem wd_91 : Cond.classLink "FoldDye" 30 "FoldDye$Wish" ∈ fx_tb := List.mem_filter.mpr ⟨List.mem_of_getElem? (i := 91) (by decide +kernel), rfl⟩
theorem wd_92 : Cond.instantiable "FoldDye$Wish" 3 ∈ fx_tb := List.mem_filter.mpr ⟨List.mem_of_getElem? (i := 92) (by decide +kernel), rfl⟩
theorem wd_51 : Cond.initialized "FoldDye$Wish" ∈ fx_tb := List.mem_filter.mpr ⟨List.mem_of_getElem? (i := 51) (by decide +kernel), rfl⟩
theorem wd_95 : Cond.code ⟨"FoldDye$Wish", "<init>", "()V"⟩ prog_7_method_1_code 1 none ∈ fx_tb := List.mem_filter.mpr ⟨List.mem_of_getElem? (i := 95) (by decide +kernel), rfl⟩
theorem wd_94 : Cond.instanceMethod ⟨"FoldDye$Wish", "<init>", "()V"⟩ ∈ fx_tb := List.mem_filter.mpr ⟨List.mem_of_getElem? (i := 94) (by decide +kernel), rfl⟩
theorem wd_113 : Cond.classLink "FoldDye" 37 "FoldDye$Search" ∈ fx_tb := List.mem_filter.mpr ⟨List.mem_of_getElem? (i := 113) (by decide +kernel), rfl⟩
theorem wd_114 : Cond.instantiable "FoldDye$Search" 9 ∈ fx_tb := List.mem_filter.mpr ⟨List.mem_of_getElem? (i := 114) (by decide +kernel), rfl⟩
theorem wd_52 : Cond.initialized "FoldDye$Search" ∈ fx_tb := List.mem_filter.mpr ⟨List.mem_of_getElem? (i := 52) (by decide +kernel), rfl⟩
theorem wd_117 : Cond.code ⟨"FoldDye$Search", "<init>", "()V"⟩ prog_4_method_1_code 1 none ∈ fx_tb := List.mem_filter.mpr ⟨List.mem_of_getElem? (i := 117) (by decide +kernel), rfl⟩
theorem wd_116 : Cond.instanceMethod ⟨"FoldDye$Search", "<init>", "()V"⟩ ∈ fx_tb := List.mem_filter.mpr ⟨List.mem_of_getElem? (i := 116) (by decide +kernel), rfl⟩
theorem wd_206 : Cond.classLink "FoldDye" 44 "FoldDye$Way" ∈ fx_tb := List.mem_filter.mpr ⟨List.mem_of_getElem? (i := 206) (by decide +kernel), rfl⟩
theorem wd_207 : Cond.methodLink "FoldDye" 46 ⟨"FoldDye$Way", "<init>", "()V"⟩ ∈ fx_tb := List.mem_filter.mpr ⟨List.mem_of_getElem? (i := 207) (by decide +kernel), rfl⟩
theorem wd_616 : Cond.methodLink "FoldDyeModel" 1 Lib.objectInit ∈ fx_tb := List.mem_filter.mpr ⟨List.mem_of_getElem? (i := 616) (by decide +kernel), rfl⟩
theorem wd_293 : Cond.arrayClass .boolean ∈ fx_tb := List.mem_filter.mpr ⟨List.mem_of_getElem? (i := 293) (by decide +kernel), rfl⟩
def fx_room_X4 : Room := { frames := 5, cells := 1, slots := 12, locals := 160 }
set_option maxHeartbeats 4000000 in
set_option maxRecDepth 100000 in
theorem c_X4_init (l : Launch) (D : va_G) (cI cZ cQ : ClassId) (ad : Nat → Nat → Nat) (A0 : Nat → Prop) (h0 sz : Nat) : Met l ⟨"FoldDye$Way", "<init>", "()V"⟩ (Cond.code ⟨"FoldDye$Way", "<init>", "()V"⟩ prog_6_method_1_code 1 none :: fx_tb) fx_room_X4 (fx_IPc D cI cZ cQ ad A0 h0 (.inr (4, [.null, .int 0])) sz []) (fx_IQc D h0 (.inr (4, [.null, .int 0])) sz (fun w1 => ∃ q0 : Nat, w1 = [(h0, .inr (4, [.ref q0, .int (fx_I (0))])), (q0, .inl (cI, 12, .inl (fun i => fx_I (if i < 12 then -1 else 0))))])) 1 12 (va_A [(h0, .inr (4, [.null, .int 0]))] sz) := by
  refine Met.ofW (cc := prog_6_method_1_code) (maxL := 1) (ret := none) (by decide) rfl ?_
  intro p e s m args below meth c s₁ B hml hv
  obtain ⟨rfl, hsz, hP, hK, hD0, hSt, hA0h⟩ := hv
  have hx := B.exec
  have hb := B.bytes
  have hr := B.returns
  have hts : ∀ w ∈ fx_tb, w.before _ s = true := fun w hw => atoms_spec (ws := Cond.code ⟨"FoldDye$Way", "<init>", "()V"⟩ prog_6_method_1_code 1 none :: fx_tb) B.pre w (List.mem_cons_of_mem _ hw)
  have hown : s.vm.findClass "FoldDye$Way" = some m.cls := findClass_of_methodNamed B.named
  have hlocks := B.notSynchronized
  have hin : meth.name = "<init>" := (name_of_methodNamed B.named B.method).1
  subst hsz
  have hD := hD0.self (sz := s.heap.size)
  generalize hAe : va_A [(h0, .inr (4, [.null, .int 0]))] s.heap.size = A at hD ⊢
  have hA : ∀ q : Nat, s.heap.size ≤ q → A q := fun q h => by rw [← hAe]; exact Or.inr h
  have hA0 : ∀ q : Nat, A q → A0 q := fun q h => by
    rw [← hAe] at h
    rcases h with ⟨k, e, h⟩ | h
    · cases k with
      | zero => cases h; exact hA0h
      | succ k => cases h
    · exact hSt.2.1 q h
  have hS : va_S A s.heap s.heap [] := va_S.rf
  have hl := lv_entry ([.ref h0]) (n := 1) (Nat.le_of_ble_eq_true rfl)
  rw [lg_entry_eq]
  generalize (lg_sl ([.ref h0]) ++ List.replicate (1 - (lg_sl ([.ref h0])).length) Slot.unset).toArray = ls at hl ⊢
  have hl : lv_has ls 1 [(0, .ref h0)] := hl
  have hP : va_P D fx_cl [(h0, .inr (4, [.null, .int 0]))] s.heap := hP
  refine lv_aload_n hx hb (show decode prog_6_method_1_code 0 = .ok (.aload_n 0, 1) by decide +kernel) rfl (lv_at hl 0 rfl) ?_
  refine W.objInit hx hb hown (hts _ wd_124) (hts _ wd_67) (hts _ wd_68) rfl (by rw [hml]; exact hl.1) rfl (show decode prog_6_method_1_code 1 = .ok (.invokespecial 3, 3) by decide +kernel) (Nat.le_of_ble_eq_true rfl) (Nat.le_of_ble_eq_true rfl) ?_
  refine W.eq (g2 := F0 m 4 ls []) rfl ?_
  refine lv_aload_n hx hb (show decode prog_6_method_1_code 4 = .ok (.aload_n 0, 1) by decide +kernel) rfl (lv_at hl 0 rfl) ?_
  refine lv_bipush (v := fx_I (12)) hx hb (show decode prog_6_method_1_code 5 = .ok (.bipush 12, 2) by decide +kernel) (by decide) ?_
  refine fx_newI (n := 12) hx hb hts wd_90 hK hP hD hS hA (by omega) (show 0 + 1 ≤ 1 by omega) (show 0 + 12 ≤ 12 by omega) (show decode prog_6_method_1_code 7 = .ok (.newarray .int, 2) by decide +kernel) (fun q0 H hP hD hS => ?_)
  have hP : va_P D fx_cl [(h0, .inr (4, [.null, .int 0])), (q0, .inl (cI, 12, .inl (fun _ => 0)))] H := hP
  have hD : va_D A [(h0, .inr (4, [.null, .int 0])), (q0, .inl (cI, 12, .inl (fun _ => 0)))] := hD
  refine W.widen (k := 1) (n := 12) (by omega) (by omega) ?_
  refine fx_putC (o := 4) (ci := 4) (k := 0) (ty := .array .int) hx hb hts hown hin hK hP hD hS 0 rfl (by decide +kernel) rfl (by decide +kernel) rfl rfl (show 0 < 2 by omega) (show decode prog_6_method_1_code 9 = .ok (.putfield 11, 3) by decide +kernel) (fun H locs hP hD hS => ?_)
  have hP : va_P D fx_cl [(h0, .inr (4, [.ref q0, .int 0])), (q0, .inl (cI, 12, .inl (fun _ => 0)))] H := hP
  have hD : va_D A [(h0, .inr (4, [.ref q0, .int 0])), (q0, .inl (cI, 12, .inl (fun _ => 0)))] := hD
  refine lv_aload_n hx hb (show decode prog_6_method_1_code 12 = .ok (.aload_n 0, 1) by decide +kernel) rfl (lv_at hl 0 rfl) ?_
  refine lv_iconst (v := fx_I (0)) hx hb (show decode prog_6_method_1_code 13 = .ok (.iconst 0, 1) by decide +kernel) rfl ?_
  refine fx_putC (o := 4) (ci := 4) (k := 1) (ty := .int) hx hb hts hown hin hK hP hD hS 0 rfl (by decide +kernel) rfl (by decide +kernel) rfl rfl (show 1 < 2 by omega) (show decode prog_6_method_1_code 14 = .ok (.putfield 15, 3) by decide +kernel) (fun H locs hP hD hS => ?_)
  have hP : va_P D fx_cl [(h0, .inr (4, [.ref q0, .int (fx_I (0))])), (q0, .inl (cI, 12, .inl (fun _ => 0)))] H := hP
  have hD : va_D A [(h0, .inr (4, [.ref q0, .int (fx_I (0))])), (q0, .inl (cI, 12, .inl (fun _ => 0)))] := hD
  refine lv_aload_n hx hb (show decode prog_6_method_1_code 17 = .ok (.aload_n 0, 1) by decide +kernel) rfl (lv_at hl 0 rfl) ?_
  refine fx_getC (o := 4) (ci := 4) (k := 0) hx hb hts hown hK hP 0 rfl (by decide +kernel) rfl (show decode prog_6_method_1_code 18 = .ok (.getfield 11, 3) by decide +kernel) ?_
  refine lv_iconst (v := fx_I (-1)) hx hb (show decode prog_6_method_1_code 21 = .ok (.iconst (-1), 1) by decide +kernel) rfl ?_
  have hPc := hP.sub (ws' := [(q0, .inl (cI, 12, .inl (fun _ => 0)))]) [1] rfl
  have hDc := hD.sub (ws' := [(q0, .inl (cI, 12, .inl (fun _ => 0)))]) [1] (by decide) rfl
  have hAq : A q0 := hDc.2 0 _ rfl
  have M := fx_fillWay l D cI cZ cQ ad (fun q => q = q0) q0
  have hT : GoodIn fx_tb (va_wsS "FoldDye$Way" 19 (fx_nm 131) (fx_WS 131)) := fx_good1 wd_125 (fx_good1 wd_126 (fx_good1 (fx_w2m (by decide)) (fx_good1 (fx_w1 (by decide)) fx_good_tb)))
  have cw := va_cwS (R := (fx_room_X4)) (s := s) (args := #[.ref h0]) (rm := fx_RM 131) (mc := 0) (ms := 0) 2 hts hT rfl rfl rfl (by decide +kernel) ⟨by decide +kernel, by decide +kernel⟩
  have hsub : ∀ q, (fun q => q = q0) q → A q := fun q h => by rw [show q = q0 from h]; exact hAq
  have hSa1 := hSt.1
  have run := va_runS (l := l) (e := e) (below := below) (meth := meth) (H := H) (locs := locs) (cells := 1) (slots := 12) (As := [.ref q0, .int (fx_I (-1))]) (rest := []) (g := F0 m 22 ls [.int (fx_I (-1)), .ref q0]) ⟨hx, hb, hml, hown, hts⟩ M cw ⟨fx_blind, fun U hU hW => ⟨rfl, va_K.moved hW.alike hK, by rw [hU]; exact hPc, hDc.weaken (fun k q hk _ => by cases k with | zero => cases hk; rfl | succ k => cases hk), fx_SaN (fun o ho => fx_adw _ _ _ ho) (fun q h => hA0 q (hsub q h)) (by rw [hU]; exact fx_Sa.kept (fx_Sa.moved hW hSa1) (fun a h1 h2 => hS.2.1 a h1 (fun z => h2 (hA0 a z))))⟩⟩ rfl rfl hl.1 rfl (lv_room (by decide)) (show decode prog_6_method_1_code 22 = .ok (.invokestatic 19, 3) by decide +kernel) ⟨show 1 + 0 ≤ 1 by omega, show 12 + 0 ≤ 12 by omega⟩
  refine fx_afterC hS run hsub (fun H1 locs1 hP1 hk1 hS1 => ?_)
  have hF1 : ∀ q, va_A [(q0, .inl (cI, 12, .inl (fun _ => 0)))] H.size q → A q := va_free hD hS hA [1] rfl
  have hP1 : va_P D fx_cl [(q0, .inl (cI, 12, .inl (fun i => fx_I (if i < 12 then -1 else 0))))] H1 := hP1
  obtain ⟨hP, hD⟩ := va_join (wr := [(h0, .inr (4, [.ref q0, .int (fx_I (0))]))]) (w1 := [(q0, .inl (cI, 12, .inl (fun i => fx_I (if i < 12 then -1 else 0))))]) hP hD [1] [0] rfl rfl (by decide) (by decide) (fun q h1 h2 => hk1 q h1 (fun z => h2 (fx_A1 (show q = q0 from z)))) hF1 hP1 (fx_D1 (fx_A1 rfl))
  have hS := hS1
  generalize H1 = H at hP hS ⊢
  have hP : va_P D fx_cl [(h0, .inr (4, [.ref q0, .int (fx_I (0))])), (q0, .inl (cI, 12, .inl (fun i => fx_I (if i < 12 then -1 else 0))))] H := hP
  have hD : va_D A [(h0, .inr (4, [.ref q0, .int (fx_I (0))])), (q0, .inl (cI, 12, .inl (fun i => fx_I (if i < 12 then -1 else 0))))] := hD
  refine W.widen (k := 1) (n := 12) (by omega) (by omega) ?_
  exact W.vret hx hb hr (fun t ht hW => ⟨⟨_, rfl, ⟨q0, rfl⟩, by rw [ht]; exact hP, by rw [hAe]; exact hD⟩, by rw [hAe]; exact hS.F ht⟩) hS.2.2 (show decode prog_6_method_1_code 25 = .ok (.return_, 1) by decide +kernel)
def fx_room_X5 : Room := { frames := 3, cells := 0, slots := 0, locals := 80 }
set_option maxHeartbeats 4000000 in
set_option maxRecDepth 100000 in
theorem c_X5_init (l : Launch) (D : va_G) (cI cZ cQ : ClassId) (ad : Nat → Nat → Nat) (A0 : Nat → Prop) (h0 sz : Nat) : Met l ⟨"FoldDye$Wish", "<init>", "()V"⟩ (Cond.code ⟨"FoldDye$Wish", "<init>", "()V"⟩ prog_7_method_1_code 1 none :: fx_tb) fx_room_X5 (fx_IPc D cI cZ cQ ad A0 h0 (.inr (5, [.int 0, .int 0, .int 0])) sz []) (fx_IQc D h0 (.inr (5, [.int 0, .int 0, .int 0])) sz (fun w1 => w1 = [(h0, .inr (5, [.int (fx_I (0)), .int (fx_I (0)), .int (fx_I (0))]))])) 0 0 (va_A [(h0, .inr (5, [.int 0, .int 0, .int 0]))] sz) := by
  refine Met.ofW (cc := prog_7_method_1_code) (maxL := 1) (ret := none) (by decide) rfl ?_
  intro p e s m args below meth c s₁ B hml hv
  obtain ⟨rfl, hsz, hP, hK, hD0, hSt, hA0h⟩ := hv
  have hx := B.exec
  have hb := B.bytes
  have hr := B.returns
  have hts : ∀ w ∈ fx_tb, w.before _ s = true := fun w hw => atoms_spec (ws := Cond.code ⟨"FoldDye$Wish", "<init>", "()V"⟩ prog_7_method_1_code 1 none :: fx_tb) B.pre w (List.mem_cons_of_mem _ hw)
  have hown : s.vm.findClass "FoldDye$Wish" = some m.cls := findClass_of_methodNamed B.named
  have hlocks := B.notSynchronized
  have hin : meth.name = "<init>" := (name_of_methodNamed B.named B.method).1
  subst hsz
  have hD := hD0.self (sz := s.heap.size)
  generalize hAe : va_A [(h0, .inr (5, [.int 0, .int 0, .int 0]))] s.heap.size = A at hD ⊢
  have hA : ∀ q : Nat, s.heap.size ≤ q → A q := fun q h => by rw [← hAe]; exact Or.inr h
  have hA0 : ∀ q : Nat, A q → A0 q := fun q h => by
    rw [← hAe] at h
    rcases h with ⟨k, e, h⟩ | h
    · cases k with
      | zero => cases h; exact hA0h
      | succ k => cases h
    · exact hSt.2.1 q h
  have hS : va_S A s.heap s.heap [] := va_S.rf
  have hl := lv_entry ([.ref h0]) (n := 1) (Nat.le_of_ble_eq_true rfl)
  rw [lg_entry_eq]
  generalize (lg_sl ([.ref h0]) ++ List.replicate (1 - (lg_sl ([.ref h0])).length) Slot.unset).toArray = ls at hl ⊢
  have hl : lv_has ls 1 [(0, .ref h0)] := hl
  have hP : va_P D fx_cl [(h0, .inr (5, [.int 0, .int 0, .int 0]))] s.heap := hP
  refine lv_aload_n hx hb (show decode prog_7_method_1_code 0 = .ok (.aload_n 0, 1) by decide +kernel) rfl (lv_at hl 0 rfl) ?_
  refine W.objInit hx hb hown (hts _ wd_96) (hts _ wd_67) (hts _ wd_68) rfl (by rw [hml]; exact hl.1) rfl (show decode prog_7_method_1_code 1 = .ok (.invokespecial 1, 3) by decide +kernel) (Nat.le_of_ble_eq_true rfl) (Nat.le_of_ble_eq_true rfl) ?_
  refine W.eq (g2 := F0 m 4 ls []) rfl ?_
  refine lv_aload_n hx hb (show decode prog_7_method_1_code 4 = .ok (.aload_n 0, 1) by decide +kernel) rfl (lv_at hl 0 rfl) ?_
  refine lv_iconst (v := fx_I (0)) hx hb (show decode prog_7_method_1_code 5 = .ok (.iconst 0, 1) by decide +kernel) rfl ?_
  refine fx_putC (o := 5) (ci := 5) (k := 0) (ty := .int) hx hb hts hown hin hK hP hD hS 0 rfl (by decide +kernel) rfl (by decide +kernel) rfl rfl (show 0 < 3 by omega) (show decode prog_7_method_1_code 6 = .ok (.putfield 7, 3) by decide +kernel) (fun H locs hP hD hS => ?_)
  have hP : va_P D fx_cl [(h0, .inr (5, [.int (fx_I (0)), .int 0, .int 0]))] H := hP
  have hD : va_D A [(h0, .inr (5, [.int (fx_I (0)), .int 0, .int 0]))] := hD
  refine lv_aload_n hx hb (show decode prog_7_method_1_code 9 = .ok (.aload_n 0, 1) by decide +kernel) rfl (lv_at hl 0 rfl) ?_
  refine lv_iconst (v := fx_I (0)) hx hb (show decode prog_7_method_1_code 10 = .ok (.iconst 0, 1) by decide +kernel) rfl ?_
  refine fx_putC (o := 5) (ci := 5) (k := 1) (ty := .int) hx hb hts hown hin hK hP hD hS 0 rfl (by decide +kernel) rfl (by decide +kernel) rfl rfl (show 1 < 3 by omega) (show decode prog_7_method_1_code 11 = .ok (.putfield 13, 3) by decide +kernel) (fun H locs hP hD hS => ?_)
  have hP : va_P D fx_cl [(h0, .inr (5, [.int (fx_I (0)), .int (fx_I (0)), .int 0]))] H := hP
  have hD : va_D A [(h0, .inr (5, [.int (fx_I (0)), .int (fx_I (0)), .int 0]))] := hD
  refine lv_aload_n hx hb (show decode prog_7_method_1_code 14 = .ok (.aload_n 0, 1) by decide +kernel) rfl (lv_at hl 0 rfl) ?_
  refine lv_iconst (v := fx_I (0)) hx hb (show decode prog_7_method_1_code 15 = .ok (.iconst 0, 1) by decide +kernel) rfl ?_
  refine fx_putC (o := 5) (ci := 5) (k := 2) (ty := .int) hx hb hts hown hin hK hP hD hS 0 rfl (by decide +kernel) rfl (by decide +kernel) rfl rfl (show 2 < 3 by omega) (show decode prog_7_method_1_code 16 = .ok (.putfield 16, 3) by decide +kernel) (fun H locs hP hD hS => ?_)
  have hP : va_P D fx_cl [(h0, .inr (5, [.int (fx_I (0)), .int (fx_I (0)), .int (fx_I (0))]))] H := hP
  have hD : va_D A [(h0, .inr (5, [.int (fx_I (0)), .int (fx_I (0)), .int (fx_I (0))]))] := hD
  refine W.widen (k := 0) (n := 0) (by omega) (by omega) ?_
  exact W.vret hx hb hr (fun t ht hW => ⟨⟨_, rfl, rfl, by rw [ht]; exact hP, by rw [hAe]; exact hD⟩, by rw [hAe]; exact hS.F ht⟩) hS.2.2 (show decode prog_7_method_1_code 19 = .ok (.return_, 1) by decide +kernel)
def fx_room_X3 : Room := { frames := 3, cells := 2, slots := 288, locals := 80 }
set_option maxHeartbeats 4000000 in
set_option maxRecDepth 100000 in
theorem c_X3_init (l : Launch) (D : va_G) (cI cZ cQ : ClassId) (ad : Nat → Nat → Nat) (A0 : Nat → Prop) (h0 sz : Nat) : Met l ⟨"FoldDye$Seep", "<init>", "()V"⟩ (Cond.code ⟨"FoldDye$Seep", "<init>", "()V"⟩ prog_5_method_1_code 1 none :: fx_tb) fx_room_X3 (fx_IPc D cI cZ cQ ad A0 h0 (.inr (3, [.null, .null, .int 0, .int 0])) sz []) (fx_IQc D h0 (.inr (3, [.null, .null, .int 0, .int 0])) sz (fun w1 => ∃ q0 q1 : Nat, w1 = [(h0, .inr (3, [.ref q0, .ref q1, .int (fx_I (1)), .int (fx_I (1))])), (q0, .inl (cI, 144, .inl (fun _ => 0))), (q1, .inl (cI, 144, .inl (fun _ => 0)))])) 2 288 (va_A [(h0, .inr (3, [.null, .null, .int 0, .int 0]))] sz) := by
  refine Met.ofW (cc := prog_5_method_1_code) (maxL := 1) (ret := none) (by decide) rfl ?_
  intro p e s m args below meth c s₁ B hml hv
  obtain ⟨rfl, hsz, hP, hK, hD0, hSt, hA0h⟩ := hv
  have hx := B.exec
  have hb := B.bytes
  have hr := B.returns
  have hts : ∀ w ∈ fx_tb, w.before _ s = true := fun w hw => atoms_spec (ws := Cond.code ⟨"FoldDye$Seep", "<init>", "()V"⟩ prog_5_method_1_code 1 none :: fx_tb) B.pre w (List.mem_cons_of_mem _ hw)
  have hown : s.vm.findClass "FoldDye$Seep" = some m.cls := findClass_of_methodNamed B.named
  have hlocks := B.notSynchronized
  have hin : meth.name = "<init>" := (name_of_methodNamed B.named B.method).1
  subst hsz
  have hD := hD0.self (sz := s.heap.size)
  generalize hAe : va_A [(h0, .inr (3, [.null, .null, .int 0, .int 0]))] s.heap.size = A at hD ⊢
  have hA : ∀ q : Nat, s.heap.size ≤ q → A q := fun q h => by rw [← hAe]; exact Or.inr h
  have hA0 : ∀ q : Nat, A q → A0 q := fun q h => by
    rw [← hAe] at h
    rcases h with ⟨k, e, h⟩ | h
    · cases k with
      | zero => cases h; exact hA0h
      | succ k => cases h
    · exact hSt.2.1 q h
  have hS : va_S A s.heap s.heap [] := va_S.rf
  have hl := lv_entry ([.ref h0]) (n := 1) (Nat.le_of_ble_eq_true rfl)
  rw [lg_entry_eq]
  generalize (lg_sl ([.ref h0]) ++ List.replicate (1 - (lg_sl ([.ref h0])).length) Slot.unset).toArray = ls at hl ⊢
  have hl : lv_has ls 1 [(0, .ref h0)] := hl
  have hP : va_P D fx_cl [(h0, .inr (3, [.null, .null, .int 0, .int 0]))] s.heap := hP
  refine lv_aload_n hx hb (show decode prog_5_method_1_code 0 = .ok (.aload_n 0, 1) by decide +kernel) rfl (lv_at hl 0 rfl) ?_
  refine W.objInit hx hb hown (hts _ wd_76) (hts _ wd_67) (hts _ wd_68) rfl (by rw [hml]; exact hl.1) rfl (show decode prog_5_method_1_code 1 = .ok (.invokespecial 3, 3) by decide +kernel) (Nat.le_of_ble_eq_true rfl) (Nat.le_of_ble_eq_true rfl) ?_
  refine W.eq (g2 := F0 m 4 ls []) rfl ?_
  refine lv_aload_n hx hb (show decode prog_5_method_1_code 4 = .ok (.aload_n 0, 1) by decide +kernel) rfl (lv_at hl 0 rfl) ?_
  refine lv_sipush (v := fx_I (144)) hx hb (show decode prog_5_method_1_code 5 = .ok (.sipush 144, 3) by decide +kernel) (by decide) ?_
  refine fx_newI (n := 144) hx hb hts wd_90 hK hP hD hS hA (by omega) (show 0 + 1 ≤ 2 by omega) (show 0 + 144 ≤ 288 by omega) (show decode prog_5_method_1_code 8 = .ok (.newarray .int, 2) by decide +kernel) (fun q0 H hP hD hS => ?_)
  have hP : va_P D fx_cl [(h0, .inr (3, [.null, .null, .int 0, .int 0])), (q0, .inl (cI, 144, .inl (fun _ => 0)))] H := hP
  have hD : va_D A [(h0, .inr (3, [.null, .null, .int 0, .int 0])), (q0, .inl (cI, 144, .inl (fun _ => 0)))] := hD
  refine W.widen (k := 1) (n := 144) (by omega) (by omega) ?_
  refine fx_putC (o := 3) (ci := 3) (k := 0) (ty := .array .int) hx hb hts hown hin hK hP hD hS 0 rfl (by decide +kernel) rfl (by decide +kernel) rfl rfl (show 0 < 4 by omega) (show decode prog_5_method_1_code 10 = .ok (.putfield 9, 3) by decide +kernel) (fun H locs hP hD hS => ?_)
  have hP : va_P D fx_cl [(h0, .inr (3, [.ref q0, .null, .int 0, .int 0])), (q0, .inl (cI, 144, .inl (fun _ => 0)))] H := hP
  have hD : va_D A [(h0, .inr (3, [.ref q0, .null, .int 0, .int 0])), (q0, .inl (cI, 144, .inl (fun _ => 0)))] := hD
  refine lv_aload_n hx hb (show decode prog_5_method_1_code 13 = .ok (.aload_n 0, 1) by decide +kernel) rfl (lv_at hl 0 rfl) ?_
  refine lv_sipush (v := fx_I (144)) hx hb (show decode prog_5_method_1_code 14 = .ok (.sipush 144, 3) by decide +kernel) (by decide) ?_
  refine fx_newI (n := 144) hx hb hts wd_90 hK hP hD hS hA (by omega) (show 1 + 1 ≤ 2 by omega) (show 144 + 144 ≤ 288 by omega) (show decode prog_5_method_1_code 17 = .ok (.newarray .int, 2) by decide +kernel) (fun q1 H hP hD hS => ?_)
  have hP : va_P D fx_cl [(h0, .inr (3, [.ref q0, .null, .int 0, .int 0])), (q0, .inl (cI, 144, .inl (fun _ => 0))), (q1, .inl (cI, 144, .inl (fun _ => 0)))] H := hP
  have hD : va_D A [(h0, .inr (3, [.ref q0, .null, .int 0, .int 0])), (q0, .inl (cI, 144, .inl (fun _ => 0))), (q1, .inl (cI, 144, .inl (fun _ => 0)))] := hD
  refine W.widen (k := 2) (n := 288) (by omega) (by omega) ?_
  refine fx_putC (o := 3) (ci := 3) (k := 1) (ty := .array .int) hx hb hts hown hin hK hP hD hS 0 rfl (by decide +kernel) rfl (by decide +kernel) rfl rfl (show 1 < 4 by omega) (show decode prog_5_method_1_code 19 = .ok (.putfield 15, 3) by decide +kernel) (fun H locs hP hD hS => ?_)
  have hP : va_P D fx_cl [(h0, .inr (3, [.ref q0, .ref q1, .int 0, .int 0])), (q0, .inl (cI, 144, .inl (fun _ => 0))), (q1, .inl (cI, 144, .inl (fun _ => 0)))] H := hP
  have hD : va_D A [(h0, .inr (3, [.ref q0, .ref q1, .int 0, .int 0])), (q0, .inl (cI, 144, .inl (fun _ => 0))), (q1, .inl (cI, 144, .inl (fun _ => 0)))] := hD
  refine lv_aload_n hx hb (show decode prog_5_method_1_code 22 = .ok (.aload_n 0, 1) by decide +kernel) rfl (lv_at hl 0 rfl) ?_
  refine lv_iconst (v := fx_I (1)) hx hb (show decode prog_5_method_1_code 23 = .ok (.iconst 1, 1) by decide +kernel) rfl ?_
  refine fx_putC (o := 3) (ci := 3) (k := 2) (ty := .int) hx hb hts hown hin hK hP hD hS 0 rfl (by decide +kernel) rfl (by decide +kernel) rfl rfl (show 2 < 4 by omega) (show decode prog_5_method_1_code 24 = .ok (.putfield 18, 3) by decide +kernel) (fun H locs hP hD hS => ?_)
  have hP : va_P D fx_cl [(h0, .inr (3, [.ref q0, .ref q1, .int (fx_I (1)), .int 0])), (q0, .inl (cI, 144, .inl (fun _ => 0))), (q1, .inl (cI, 144, .inl (fun _ => 0)))] H := hP
  have hD : va_D A [(h0, .inr (3, [.ref q0, .ref q1, .int (fx_I (1)), .int 0])), (q0, .inl (cI, 144, .inl (fun _ => 0))), (q1, .inl (cI, 144, .inl (fun _ => 0)))] := hD
  refine lv_aload_n hx hb (show decode prog_5_method_1_code 27 = .ok (.aload_n 0, 1) by decide +kernel) rfl (lv_at hl 0 rfl) ?_
  refine lv_iconst (v := fx_I (1)) hx hb (show decode prog_5_method_1_code 28 = .ok (.iconst 1, 1) by decide +kernel) rfl ?_
  refine fx_putC (o := 3) (ci := 3) (k := 3) (ty := .int) hx hb hts hown hin hK hP hD hS 0 rfl (by decide +kernel) rfl (by decide +kernel) rfl rfl (show 3 < 4 by omega) (show decode prog_5_method_1_code 29 = .ok (.putfield 22, 3) by decide +kernel) (fun H locs hP hD hS => ?_)
  have hP : va_P D fx_cl [(h0, .inr (3, [.ref q0, .ref q1, .int (fx_I (1)), .int (fx_I (1))])), (q0, .inl (cI, 144, .inl (fun _ => 0))), (q1, .inl (cI, 144, .inl (fun _ => 0)))] H := hP
  have hD : va_D A [(h0, .inr (3, [.ref q0, .ref q1, .int (fx_I (1)), .int (fx_I (1))])), (q0, .inl (cI, 144, .inl (fun _ => 0))), (q1, .inl (cI, 144, .inl (fun _ => 0)))] := hD
  refine W.widen (k := 2) (n := 288) (by omega) (by omega) ?_
  exact W.vret hx hb hr (fun t ht hW => ⟨⟨_, rfl, ⟨q0, q1, rfl⟩, by rw [ht]; exact hP, by rw [hAe]; exact hD⟩, by rw [hAe]; exact hS.F ht⟩) hS.2.2 (show decode prog_5_method_1_code 32 = .ok (.return_, 1) by decide +kernel)
def fx_room_X0 : Room := { frames := 3, cells := 4, slots := 576, locals := 80 }
set_option maxHeartbeats 4000000 in
set_option maxRecDepth 100000 in
theorem c_X0_init (l : Launch) (D : va_G) (cI cZ cQ : ClassId) (ad : Nat → Nat → Nat) (A0 : Nat → Prop) (h0 sz : Nat) (ra : Nat) (rb : Nat) (ha : ra ≤ 12) (hb0 : rb ≤ 12) : Met l ⟨"FoldDye$Bundle", "<init>", "(II)V"⟩ (Cond.code ⟨"FoldDye$Bundle", "<init>", "(II)V"⟩ prog_2_method_1_code 3 none :: fx_tb) fx_room_X0 (fx_IPc D cI cZ cQ ad A0 h0 (.inr (0, [.null, .null, .null, .null, .int 0, .int 0, .int 0])) sz [.int (fx_I ra), .int (fx_I rb)]) (fx_IQc D h0 (.inr (0, [.null, .null, .null, .null, .int 0, .int 0, .int 0])) sz (fun w1 => ∃ q0 q1 q2 q3 : Nat, w1 = [(h0, .inr (0, [.ref q0, .ref q1, .ref q2, .ref q3, .int (fx_I (0)), .int (fx_I (0)), .int (fx_I (0))])), (q0, .inl (cI, ra * rb, .inl (fun _ => 0))), (q1, .inl (cI, ra * rb, .inl (fun _ => 0))), (q2, .inl (cI, ra * rb, .inl (fun _ => 0))), (q3, .inl (cI, ra * 12, .inl (fun _ => 0)))])) 4 576 (va_A [(h0, .inr (0, [.null, .null, .null, .null, .int 0, .int 0, .int 0]))] sz) := by
  refine Met.ofW (cc := prog_2_method_1_code) (maxL := 3) (ret := none) (by decide) rfl ?_
  intro p e s m args below meth c s₁ B hml hv
  obtain ⟨rfl, hsz, hP, hK, hD0, hSt, hA0h⟩ := hv
  have hx := B.exec
  have hb := B.bytes
  have hr := B.returns
  have hts : ∀ w ∈ fx_tb, w.before _ s = true := fun w hw => atoms_spec (ws := Cond.code ⟨"FoldDye$Bundle", "<init>", "(II)V"⟩ prog_2_method_1_code 3 none :: fx_tb) B.pre w (List.mem_cons_of_mem _ hw)
  have hown : s.vm.findClass "FoldDye$Bundle" = some m.cls := findClass_of_methodNamed B.named
  have hab := fx_ab ha hb0
  have hlocks := B.notSynchronized
  have hin : meth.name = "<init>" := (name_of_methodNamed B.named B.method).1
  subst hsz
  have hD := hD0.self (sz := s.heap.size)
  generalize hAe : va_A [(h0, .inr (0, [.null, .null, .null, .null, .int 0, .int 0, .int 0]))] s.heap.size = A at hD ⊢
  have hA : ∀ q : Nat, s.heap.size ≤ q → A q := fun q h => by rw [← hAe]; exact Or.inr h
  have hA0 : ∀ q : Nat, A q → A0 q := fun q h => by
    rw [← hAe] at h
    rcases h with ⟨k, e, h⟩ | h
    · cases k with
      | zero => cases h; exact hA0h
      | succ k => cases h
    · exact hSt.2.1 q h
  have hS : va_S A s.heap s.heap [] := va_S.rf
  have hl := lv_entry ([.ref h0, .int (fx_I ra), .int (fx_I rb)]) (n := 3) (Nat.le_of_ble_eq_true rfl)
  rw [lg_entry_eq]
  generalize (lg_sl ([.ref h0, .int (fx_I ra), .int (fx_I rb)]) ++ List.replicate (3 - (lg_sl ([.ref h0, .int (fx_I ra), .int (fx_I rb)])).length) Slot.unset).toArray = ls at hl ⊢
  have hl : lv_has ls 3 [(0, .ref h0), (1, .int (fx_I ra)), (2, .int (fx_I rb))] := hl
  have hP : va_P D fx_cl [(h0, .inr (0, [.null, .null, .null, .null, .int 0, .int 0, .int 0]))] s.heap := hP
  refine lv_aload_n hx hb (show decode prog_2_method_1_code 0 = .ok (.aload_n 0, 1) by decide +kernel) rfl (lv_at hl 0 rfl) ?_
  refine W.objInit hx hb hown (hts _ wd_142) (hts _ wd_67) (hts _ wd_68) rfl (by rw [hml]; exact hl.1) rfl (show decode prog_2_method_1_code 1 = .ok (.invokespecial 3, 3) by decide +kernel) (Nat.le_of_ble_eq_true rfl) (Nat.le_of_ble_eq_true rfl) ?_
  refine W.eq (g2 := F0 m 4 ls []) rfl ?_
  refine lv_aload_n hx hb (show decode prog_2_method_1_code 4 = .ok (.aload_n 0, 1) by decide +kernel) rfl (lv_at hl 0 rfl) ?_
  refine lv_iconst (v := fx_I (0)) hx hb (show decode prog_2_method_1_code 5 = .ok (.iconst 0, 1) by decide +kernel) rfl ?_
  refine fx_putC (o := 0) (ci := 0) (k := 4) (ty := .int) hx hb hts hown hin hK hP hD hS 0 rfl (by decide +kernel) rfl (by decide +kernel) rfl rfl (show 4 < 7 by omega) (show decode prog_2_method_1_code 6 = .ok (.putfield 9, 3) by decide +kernel) (fun H locs hP hD hS => ?_)
  have hP : va_P D fx_cl [(h0, .inr (0, [.null, .null, .null, .null, .int (fx_I (0)), .int 0, .int 0]))] H := hP
  have hD : va_D A [(h0, .inr (0, [.null, .null, .null, .null, .int (fx_I (0)), .int 0, .int 0]))] := hD
  refine lv_aload_n hx hb (show decode prog_2_method_1_code 9 = .ok (.aload_n 0, 1) by decide +kernel) rfl (lv_at hl 0 rfl) ?_
  refine lv_iconst (v := fx_I (0)) hx hb (show decode prog_2_method_1_code 10 = .ok (.iconst 0, 1) by decide +kernel) rfl ?_
  refine fx_putC (o := 0) (ci := 0) (k := 5) (ty := .int) hx hb hts hown hin hK hP hD hS 0 rfl (by decide +kernel) rfl (by decide +kernel) rfl rfl (show 5 < 7 by omega) (show decode prog_2_method_1_code 11 = .ok (.putfield 15, 3) by decide +kernel) (fun H locs hP hD hS => ?_)
  have hP : va_P D fx_cl [(h0, .inr (0, [.null, .null, .null, .null, .int (fx_I (0)), .int (fx_I (0)), .int 0]))] H := hP
  have hD : va_D A [(h0, .inr (0, [.null, .null, .null, .null, .int (fx_I (0)), .int (fx_I (0)), .int 0]))] := hD
  refine lv_aload_n hx hb (show decode prog_2_method_1_code 14 = .ok (.aload_n 0, 1) by decide +kernel) rfl (lv_at hl 0 rfl) ?_
  refine lv_iconst (v := fx_I (0)) hx hb (show decode prog_2_method_1_code 15 = .ok (.iconst 0, 1) by decide +kernel) rfl ?_
  refine fx_putC (o := 0) (ci := 0) (k := 6) (ty := .int) hx hb hts hown hin hK hP hD hS 0 rfl (by decide +kernel) rfl (by decide +kernel) rfl rfl (show 6 < 7 by omega) (show decode prog_2_method_1_code 16 = .ok (.putfield 18, 3) by decide +kernel) (fun H locs hP hD hS => ?_)
  have hP : va_P D fx_cl [(h0, .inr (0, [.null, .null, .null, .null, .int (fx_I (0)), .int (fx_I (0)), .int (fx_I (0))]))] H := hP
  have hD : va_D A [(h0, .inr (0, [.null, .null, .null, .null, .int (fx_I (0)), .int (fx_I (0)), .int (fx_I (0))]))] := hD
  refine lv_aload_n hx hb (show decode prog_2_method_1_code 19 = .ok (.aload_n 0, 1) by decide +kernel) rfl (lv_at hl 0 rfl) ?_
  refine lv_iload_n hx hb (show decode prog_2_method_1_code 20 = .ok (.iload_n 1, 1) by decide +kernel) rfl (lv_at hl 1 rfl) ?_
  refine lv_iload_n hx hb (show decode prog_2_method_1_code 21 = .ok (.iload_n 2, 1) by decide +kernel) rfl (lv_at hl 2 rfl) ?_
  refine lv_imul hx hb (show decode prog_2_method_1_code 22 = .ok (.imul, 1) by decide +kernel) ?_
  rw [show fx_I ra * fx_I rb = fx_I ((ra * rb : Nat) : Int) from fx_mulN ra rb]
  refine fx_newI (n := ra * rb) hx hb hts wd_90 hK hP hD hS hA (by omega) (show 0 + 1 ≤ 4 by omega) (show 0 + ra * rb ≤ 576 by omega) (show decode prog_2_method_1_code 23 = .ok (.newarray .int, 2) by decide +kernel) (fun q0 H hP hD hS => ?_)
  have hP : va_P D fx_cl [(h0, .inr (0, [.null, .null, .null, .null, .int (fx_I (0)), .int (fx_I (0)), .int (fx_I (0))])), (q0, .inl (cI, ra * rb, .inl (fun _ => 0)))] H := hP
  have hD : va_D A [(h0, .inr (0, [.null, .null, .null, .null, .int (fx_I (0)), .int (fx_I (0)), .int (fx_I (0))])), (q0, .inl (cI, ra * rb, .inl (fun _ => 0)))] := hD
  refine W.widen (k := 1) (n := 144) (by omega) (by omega) ?_
  refine fx_putC (o := 0) (ci := 0) (k := 0) (ty := .array .int) hx hb hts hown hin hK hP hD hS 0 rfl (by decide +kernel) rfl (by decide +kernel) rfl rfl (show 0 < 7 by omega) (show decode prog_2_method_1_code 25 = .ok (.putfield 21, 3) by decide +kernel) (fun H locs hP hD hS => ?_)
  have hP : va_P D fx_cl [(h0, .inr (0, [.ref q0, .null, .null, .null, .int (fx_I (0)), .int (fx_I (0)), .int (fx_I (0))])), (q0, .inl (cI, ra * rb, .inl (fun _ => 0)))] H := hP
  have hD : va_D A [(h0, .inr (0, [.ref q0, .null, .null, .null, .int (fx_I (0)), .int (fx_I (0)), .int (fx_I (0))])), (q0, .inl (cI, ra * rb, .inl (fun _ => 0)))] := hD
  refine lv_aload_n hx hb (show decode prog_2_method_1_code 28 = .ok (.aload_n 0, 1) by decide +kernel) rfl (lv_at hl 0 rfl) ?_
  refine lv_iload_n hx hb (show decode prog_2_method_1_code 29 = .ok (.iload_n 1, 1) by decide +kernel) rfl (lv_at hl 1 rfl) ?_
  refine lv_iload_n hx hb (show decode prog_2_method_1_code 30 = .ok (.iload_n 2, 1) by decide +kernel) rfl (lv_at hl 2 rfl) ?_
  refine lv_imul hx hb (show decode prog_2_method_1_code 31 = .ok (.imul, 1) by decide +kernel) ?_
  rw [show fx_I ra * fx_I rb = fx_I ((ra * rb : Nat) : Int) from fx_mulN ra rb]
  refine fx_newI (n := ra * rb) hx hb hts wd_90 hK hP hD hS hA (by omega) (show 1 + 1 ≤ 4 by omega) (show 144 + ra * rb ≤ 576 by omega) (show decode prog_2_method_1_code 32 = .ok (.newarray .int, 2) by decide +kernel) (fun q1 H hP hD hS => ?_)
  have hP : va_P D fx_cl [(h0, .inr (0, [.ref q0, .null, .null, .null, .int (fx_I (0)), .int (fx_I (0)), .int (fx_I (0))])), (q0, .inl (cI, ra * rb, .inl (fun _ => 0))), (q1, .inl (cI, ra * rb, .inl (fun _ => 0)))] H := hP
  have hD : va_D A [(h0, .inr (0, [.ref q0, .null, .null, .null, .int (fx_I (0)), .int (fx_I (0)), .int (fx_I (0))])), (q0, .inl (cI, ra * rb, .inl (fun _ => 0))), (q1, .inl (cI, ra * rb, .inl (fun _ => 0)))] := hD
  refine W.widen (k := 2) (n := 288) (by omega) (by omega) ?_
  refine fx_putC (o := 0) (ci := 0) (k := 1) (ty := .array .int) hx hb hts hown hin hK hP hD hS 0 rfl (by decide +kernel) rfl (by decide +kernel) rfl rfl (show 1 < 7 by omega) (show decode prog_2_method_1_code 34 = .ok (.putfield 25, 3) by decide +kernel) (fun H locs hP hD hS => ?_)
  have hP : va_P D fx_cl [(h0, .inr (0, [.ref q0, .ref q1, .null, .null, .int (fx_I (0)), .int (fx_I (0)), .int (fx_I (0))])), (q0, .inl (cI, ra * rb, .inl (fun _ => 0))), (q1, .inl (cI, ra * rb, .inl (fun _ => 0)))] H := hP
  have hD : va_D A [(h0, .inr (0, [.ref q0, .ref q1, .null, .null, .int (fx_I (0)), .int (fx_I (0)), .int (fx_I (0))])), (q0, .inl (cI, ra * rb, .inl (fun _ => 0))), (q1, .inl (cI, ra * rb, .inl (fun _ => 0)))] := hD
  refine lv_aload_n hx hb (show decode prog_2_method_1_code 37 = .ok (.aload_n 0, 1) by decide +kernel) rfl (lv_at hl 0 rfl) ?_
  refine lv_iload_n hx hb (show decode prog_2_method_1_code 38 = .ok (.iload_n 1, 1) by decide +kernel) rfl (lv_at hl 1 rfl) ?_
  refine lv_iload_n hx hb (show decode prog_2_method_1_code 39 = .ok (.iload_n 2, 1) by decide +kernel) rfl (lv_at hl 2 rfl) ?_
  refine lv_imul hx hb (show decode prog_2_method_1_code 40 = .ok (.imul, 1) by decide +kernel) ?_
  rw [show fx_I ra * fx_I rb = fx_I ((ra * rb : Nat) : Int) from fx_mulN ra rb]
  refine fx_newI (n := ra * rb) hx hb hts wd_90 hK hP hD hS hA (by omega) (show 2 + 1 ≤ 4 by omega) (show 288 + ra * rb ≤ 576 by omega) (show decode prog_2_method_1_code 41 = .ok (.newarray .int, 2) by decide +kernel) (fun q2 H hP hD hS => ?_)
  have hP : va_P D fx_cl [(h0, .inr (0, [.ref q0, .ref q1, .null, .null, .int (fx_I (0)), .int (fx_I (0)), .int (fx_I (0))])), (q0, .inl (cI, ra * rb, .inl (fun _ => 0))), (q1, .inl (cI, ra * rb, .inl (fun _ => 0))), (q2, .inl (cI, ra * rb, .inl (fun _ => 0)))] H := hP
  have hD : va_D A [(h0, .inr (0, [.ref q0, .ref q1, .null, .null, .int (fx_I (0)), .int (fx_I (0)), .int (fx_I (0))])), (q0, .inl (cI, ra * rb, .inl (fun _ => 0))), (q1, .inl (cI, ra * rb, .inl (fun _ => 0))), (q2, .inl (cI, ra * rb, .inl (fun _ => 0)))] := hD
  refine W.widen (k := 3) (n := 432) (by omega) (by omega) ?_
  refine fx_putC (o := 0) (ci := 0) (k := 2) (ty := .array .int) hx hb hts hown hin hK hP hD hS 0 rfl (by decide +kernel) rfl (by decide +kernel) rfl rfl (show 2 < 7 by omega) (show decode prog_2_method_1_code 43 = .ok (.putfield 28, 3) by decide +kernel) (fun H locs hP hD hS => ?_)
  have hP : va_P D fx_cl [(h0, .inr (0, [.ref q0, .ref q1, .ref q2, .null, .int (fx_I (0)), .int (fx_I (0)), .int (fx_I (0))])), (q0, .inl (cI, ra * rb, .inl (fun _ => 0))), (q1, .inl (cI, ra * rb, .inl (fun _ => 0))), (q2, .inl (cI, ra * rb, .inl (fun _ => 0)))] H := hP
  have hD : va_D A [(h0, .inr (0, [.ref q0, .ref q1, .ref q2, .null, .int (fx_I (0)), .int (fx_I (0)), .int (fx_I (0))])), (q0, .inl (cI, ra * rb, .inl (fun _ => 0))), (q1, .inl (cI, ra * rb, .inl (fun _ => 0))), (q2, .inl (cI, ra * rb, .inl (fun _ => 0)))] := hD
  refine lv_aload_n hx hb (show decode prog_2_method_1_code 46 = .ok (.aload_n 0, 1) by decide +kernel) rfl (lv_at hl 0 rfl) ?_
  refine lv_iload_n hx hb (show decode prog_2_method_1_code 47 = .ok (.iload_n 1, 1) by decide +kernel) rfl (lv_at hl 1 rfl) ?_
  refine lv_bipush (v := fx_I (12)) hx hb (show decode prog_2_method_1_code 48 = .ok (.bipush 12, 2) by decide +kernel) (by decide) ?_
  refine lv_imul hx hb (show decode prog_2_method_1_code 50 = .ok (.imul, 1) by decide +kernel) ?_
  rw [show fx_I ra * fx_I 12 = fx_I ((ra * 12 : Nat) : Int) from fx_mulN ra 12]
  refine fx_newI (n := ra * 12) hx hb hts wd_90 hK hP hD hS hA (by omega) (show 3 + 1 ≤ 4 by omega) (show 432 + ra * 12 ≤ 576 by omega) (show decode prog_2_method_1_code 51 = .ok (.newarray .int, 2) by decide +kernel) (fun q3 H hP hD hS => ?_)
  have hP : va_P D fx_cl [(h0, .inr (0, [.ref q0, .ref q1, .ref q2, .null, .int (fx_I (0)), .int (fx_I (0)), .int (fx_I (0))])), (q0, .inl (cI, ra * rb, .inl (fun _ => 0))), (q1, .inl (cI, ra * rb, .inl (fun _ => 0))), (q2, .inl (cI, ra * rb, .inl (fun _ => 0))), (q3, .inl (cI, ra * 12, .inl (fun _ => 0)))] H := hP
  have hD : va_D A [(h0, .inr (0, [.ref q0, .ref q1, .ref q2, .null, .int (fx_I (0)), .int (fx_I (0)), .int (fx_I (0))])), (q0, .inl (cI, ra * rb, .inl (fun _ => 0))), (q1, .inl (cI, ra * rb, .inl (fun _ => 0))), (q2, .inl (cI, ra * rb, .inl (fun _ => 0))), (q3, .inl (cI, ra * 12, .inl (fun _ => 0)))] := hD
  refine W.widen (k := 4) (n := 576) (by omega) (by omega) ?_
  refine fx_putC (o := 0) (ci := 0) (k := 3) (ty := .array .int) hx hb hts hown hin hK hP hD hS 0 rfl (by decide +kernel) rfl (by decide +kernel) rfl rfl (show 3 < 7 by omega) (show decode prog_2_method_1_code 53 = .ok (.putfield 31, 3) by decide +kernel) (fun H locs hP hD hS => ?_)
  have hP : va_P D fx_cl [(h0, .inr (0, [.ref q0, .ref q1, .ref q2, .ref q3, .int (fx_I (0)), .int (fx_I (0)), .int (fx_I (0))])), (q0, .inl (cI, ra * rb, .inl (fun _ => 0))), (q1, .inl (cI, ra * rb, .inl (fun _ => 0))), (q2, .inl (cI, ra * rb, .inl (fun _ => 0))), (q3, .inl (cI, ra * 12, .inl (fun _ => 0)))] H := hP
  have hD : va_D A [(h0, .inr (0, [.ref q0, .ref q1, .ref q2, .ref q3, .int (fx_I (0)), .int (fx_I (0)), .int (fx_I (0))])), (q0, .inl (cI, ra * rb, .inl (fun _ => 0))), (q1, .inl (cI, ra * rb, .inl (fun _ => 0))), (q2, .inl (cI, ra * rb, .inl (fun _ => 0))), (q3, .inl (cI, ra * 12, .inl (fun _ => 0)))] := hD
  refine W.widen (k := 4) (n := 576) (by omega) (by omega) ?_
  exact W.vret hx hb hr (fun t ht hW => ⟨⟨_, rfl, ⟨q0, q1, q2, q3, rfl⟩, by rw [ht]; exact hP, by rw [hAe]; exact hD⟩, by rw [hAe]; exact hS.F ht⟩) hS.2.2 (show decode prog_2_method_1_code 56 = .ok (.return_, 1) by decide +kernel)
def fx_room_X2 : Room := { frames := 8, cells := 19, slots := 1815, locals := 300 }
set_option maxHeartbeats 4000000 in
set_option maxRecDepth 100000 in
theorem c_X2_init (l : Launch) (D : va_G) (cI cZ cQ : ClassId) (ad : Nat → Nat → Nat) (A0 : Nat → Prop) (h0 sz : Nat) : Met l ⟨"FoldDye$Search", "<init>", "()V"⟩ (Cond.code ⟨"FoldDye$Search", "<init>", "()V"⟩ prog_4_method_1_code 1 none :: fx_tb) fx_room_X2 (fx_IPc D cI cZ cQ ad A0 h0 (.inr (2, [.null, .null, .null, .null, .null, .null, .int 0, .int 0, .int 0])) sz []) (fx_IQc D h0 (.inr (2, [.null, .null, .null, .null, .null, .null, .int 0, .int 0, .int 0])) sz (fun w1 => ∃ q0 q1 q2 q3 q4 q5 q6 q7 q8 q9 q10 q11 q12 q13 q14 q15 q16 q17 q18 : Nat, w1 = [(h0, .inr (2, [.ref q0, .ref q2, .ref q7, .ref q12, .ref q17, .ref q18, .int (fx_I (0)), .int (fx_I (0)), .int (fx_I (0))])), (q0, .inr (4, [.ref q1, .int (fx_I (0))])), (q1, .inl (cI, 12, .inl (fun i => fx_I (if i < 12 then -1 else 0)))), (q2, .inr (0, [.ref q3, .ref q4, .ref q5, .ref q6, .int (fx_I (0)), .int (fx_I (0)), .int (fx_I (0))])), (q3, .inl (cI, 4 * 4, .inl (fun _ => 0))), (q4, .inl (cI, 4 * 4, .inl (fun _ => 0))), (q5, .inl (cI, 4 * 4, .inl (fun _ => 0))), (q6, .inl (cI, 4 * 12, .inl (fun _ => 0))), (q7, .inr (0, [.ref q8, .ref q9, .ref q10, .ref q11, .int (fx_I (0)), .int (fx_I (0)), .int (fx_I (0))])), (q8, .inl (cI, 4 * 4, .inl (fun _ => 0))), (q9, .inl (cI, 4 * 4, .inl (fun _ => 0))), (q10, .inl (cI, 4 * 4, .inl (fun _ => 0))), (q11, .inl (cI, 4 * 12, .inl (fun _ => 0))), (q12, .inr (0, [.ref q13, .ref q14, .ref q15, .ref q16, .int (fx_I (0)), .int (fx_I (0)), .int (fx_I (0))])), (q13, .inl (cI, 4 * 4, .inl (fun _ => 0))), (q14, .inl (cI, 4 * 4, .inl (fun _ => 0))), (q15, .inl (cI, 4 * 4, .inl (fun _ => 0))), (q16, .inl (cI, 4 * 12, .inl (fun _ => 0))), (q17, .inl (cI, 48, .inl (fun _ => 0))), (q18, .inl (cI, 4, .inl (fun _ => 0)))])) 19 1815 (va_A [(h0, .inr (2, [.null, .null, .null, .null, .null, .null, .int 0, .int 0, .int 0]))] sz) := by
  refine Met.ofW (cc := prog_4_method_1_code) (maxL := 1) (ret := none) (by decide) rfl ?_
  intro p e s m args below meth c s₁ B hml hv
  obtain ⟨rfl, hsz, hP, hK, hD0, hSt, hA0h⟩ := hv
  have hx := B.exec
  have hb := B.bytes
  have hr := B.returns
  have hts : ∀ w ∈ fx_tb, w.before _ s = true := fun w hw => atoms_spec (ws := Cond.code ⟨"FoldDye$Search", "<init>", "()V"⟩ prog_4_method_1_code 1 none :: fx_tb) B.pre w (List.mem_cons_of_mem _ hw)
  have hown : s.vm.findClass "FoldDye$Search" = some m.cls := findClass_of_methodNamed B.named
  have hlocks := B.notSynchronized
  have hin : meth.name = "<init>" := (name_of_methodNamed B.named B.method).1
  subst hsz
  have hD := hD0.self (sz := s.heap.size)
  generalize hAe : va_A [(h0, .inr (2, [.null, .null, .null, .null, .null, .null, .int 0, .int 0, .int 0]))] s.heap.size = A at hD ⊢
  have hA : ∀ q : Nat, s.heap.size ≤ q → A q := fun q h => by rw [← hAe]; exact Or.inr h
  have hA0 : ∀ q : Nat, A q → A0 q := fun q h => by
    rw [← hAe] at h
    rcases h with ⟨k, e, h⟩ | h
    · cases k with
      | zero => cases h; exact hA0h
      | succ k => cases h
    · exact hSt.2.1 q h
  have hS : va_S A s.heap s.heap [] := va_S.rf
  have hl := lv_entry ([.ref h0]) (n := 1) (Nat.le_of_ble_eq_true rfl)
  rw [lg_entry_eq]
  generalize (lg_sl ([.ref h0]) ++ List.replicate (1 - (lg_sl ([.ref h0])).length) Slot.unset).toArray = ls at hl ⊢
  have hl : lv_has ls 1 [(0, .ref h0)] := hl
  have hP : va_P D fx_cl [(h0, .inr (2, [.null, .null, .null, .null, .null, .null, .int 0, .int 0, .int 0]))] s.heap := hP
  refine lv_aload_n hx hb (show decode prog_4_method_1_code 0 = .ok (.aload_n 0, 1) by decide +kernel) rfl (lv_at hl 0 rfl) ?_
  refine W.objInit hx hb hown (hts _ wd_118) (hts _ wd_67) (hts _ wd_68) rfl (by rw [hml]; exact hl.1) rfl (show decode prog_4_method_1_code 1 = .ok (.invokespecial 5, 3) by decide +kernel) (Nat.le_of_ble_eq_true rfl) (Nat.le_of_ble_eq_true rfl) ?_
  refine W.eq (g2 := F0 m 4 ls []) rfl ?_
  refine lv_aload_n hx hb (show decode prog_4_method_1_code 4 = .ok (.aload_n 0, 1) by decide +kernel) rfl (lv_at hl 0 rfl) ?_
  refine va_new (ci := 4) (fs := [.null, .int 0]) (C := RX4) (T := TX4) (N := 2) hx hb hts inX4 tyX4 tyX4_ok hown (hts _ wd_119) (hts _ wd_120) (hts _ wd_53) hK hP hD hS hA rfl (fun j hj => by rcases (show j = 0 ∨ j = 1 by omega) with rfl | rfl <;> rfl) (show 0 + 1 ≤ 19 by omega) (show 0 + 2 ≤ 1815 by omega) (show decode prog_4_method_1_code 5 = .ok (.new 11, 3) by decide +kernel) (fun q0 H hP hD hS => ?_)
  have hP : va_P D fx_cl [(h0, .inr (2, [.null, .null, .null, .null, .null, .null, .int 0, .int 0, .int 0])), (q0, .inr (4, [.null, .int 0]))] H := hP
  have hD : va_D A [(h0, .inr (2, [.null, .null, .null, .null, .null, .null, .int 0, .int 0, .int 0])), (q0, .inr (4, [.null, .int 0]))] := hD
  refine W.widen (k := 1) (n := 2) (by omega) (by omega) ?_
  refine lv_dup hx hb (show decode prog_4_method_1_code 8 = .ok (.dup, 1) by decide +kernel) rfl ?_
  refine fx_mkI (pre := [(h0, .inr (2, [.null, .null, .null, .null, .null, .null, .int 0, .int 0, .int 0]))]) (As := []) (rest := [.ref q0, .ref h0]) (own := "FoldDye$Search") (idx := 13) ⟨hx, hb, hml, hown, hts⟩ hK hP hD hS hA hSt hA0 (c_X4_init l D cI cZ cQ ad A0 q0 H.size) wd_123 wd_53 wd_121 wd_122 rfl (by decide +kernel) ⟨Nat.le_of_ble_eq_true rfl, Nat.le_of_ble_eq_true rfl⟩ rfl rfl rfl hl.1 (Nat.le_of_ble_eq_true rfl) (show decode prog_4_method_1_code 9 = .ok (.invokespecial 13, 3) by decide +kernel) ⟨show 1 + 1 ≤ 19 by omega, show 2 + 12 ≤ 1815 by omega⟩ (fun w1 H locs hw hP hD hS => ?_)
  obtain ⟨q1, rfl⟩ := hw
  have hP : va_P D fx_cl [(h0, .inr (2, [.null, .null, .null, .null, .null, .null, .int 0, .int 0, .int 0])), (q0, .inr (4, [.ref q1, .int (fx_I (0))])), (q1, .inl (cI, 12, .inl (fun i => fx_I (if i < 12 then -1 else 0))))] H := hP
  have hD : va_D A [(h0, .inr (2, [.null, .null, .null, .null, .null, .null, .int 0, .int 0, .int 0])), (q0, .inr (4, [.ref q1, .int (fx_I (0))])), (q1, .inl (cI, 12, .inl (fun i => fx_I (if i < 12 then -1 else 0))))] := hD
  refine W.widen (k := 2) (n := 14) (by omega) (by omega) ?_
  refine fx_putC (o := 2) (ci := 2) (k := 0) (ty := .object "FoldDye$Way") hx hb hts hown hin hK hP hD hS 0 rfl (by decide +kernel) rfl (by decide +kernel) rfl rfl (show 0 < 9 by omega) (show decode prog_4_method_1_code 12 = .ok (.putfield 14, 3) by decide +kernel) (fun H locs hP hD hS => ?_)
  have hP : va_P D fx_cl [(h0, .inr (2, [.ref q0, .null, .null, .null, .null, .null, .int 0, .int 0, .int 0])), (q0, .inr (4, [.ref q1, .int (fx_I (0))])), (q1, .inl (cI, 12, .inl (fun i => fx_I (if i < 12 then -1 else 0))))] H := hP
  have hD : va_D A [(h0, .inr (2, [.ref q0, .null, .null, .null, .null, .null, .int 0, .int 0, .int 0])), (q0, .inr (4, [.ref q1, .int (fx_I (0))])), (q1, .inl (cI, 12, .inl (fun i => fx_I (if i < 12 then -1 else 0))))] := hD
  refine lv_aload_n hx hb (show decode prog_4_method_1_code 15 = .ok (.aload_n 0, 1) by decide +kernel) rfl (lv_at hl 0 rfl) ?_
  refine va_new (ci := 0) (fs := [.null, .null, .null, .null, .int 0, .int 0, .int 0]) (C := RX0) (T := TX0) (N := 7) hx hb hts inX0 tyX0 tyX0_ok hown (hts _ wd_137) (hts _ wd_138) (hts _ wd_55) hK hP hD hS hA rfl (fun j hj => by rcases (show j = 0 ∨ j = 1 ∨ j = 2 ∨ j = 3 ∨ j = 4 ∨ j = 5 ∨ j = 6 by omega) with rfl | rfl | rfl | rfl | rfl | rfl | rfl <;> rfl) (show 2 + 1 ≤ 19 by omega) (show 14 + 7 ≤ 1815 by omega) (show decode prog_4_method_1_code 16 = .ok (.new 18, 3) by decide +kernel) (fun q2 H hP hD hS => ?_)
  have hP : va_P D fx_cl [(h0, .inr (2, [.ref q0, .null, .null, .null, .null, .null, .int 0, .int 0, .int 0])), (q0, .inr (4, [.ref q1, .int (fx_I (0))])), (q1, .inl (cI, 12, .inl (fun i => fx_I (if i < 12 then -1 else 0)))), (q2, .inr (0, [.null, .null, .null, .null, .int 0, .int 0, .int 0]))] H := hP
  have hD : va_D A [(h0, .inr (2, [.ref q0, .null, .null, .null, .null, .null, .int 0, .int 0, .int 0])), (q0, .inr (4, [.ref q1, .int (fx_I (0))])), (q1, .inl (cI, 12, .inl (fun i => fx_I (if i < 12 then -1 else 0)))), (q2, .inr (0, [.null, .null, .null, .null, .int 0, .int 0, .int 0]))] := hD
  refine W.widen (k := 3) (n := 21) (by omega) (by omega) ?_
  refine lv_dup hx hb (show decode prog_4_method_1_code 19 = .ok (.dup, 1) by decide +kernel) rfl ?_
  refine lv_iconst (v := fx_I (4)) hx hb (show decode prog_4_method_1_code 20 = .ok (.iconst 4, 1) by decide +kernel) rfl ?_
  refine lv_iconst (v := fx_I (4)) hx hb (show decode prog_4_method_1_code 21 = .ok (.iconst 4, 1) by decide +kernel) rfl ?_
  refine fx_mkI (pre := [(h0, .inr (2, [.ref q0, .null, .null, .null, .null, .null, .int 0, .int 0, .int 0])), (q0, .inr (4, [.ref q1, .int (fx_I (0))])), (q1, .inl (cI, 12, .inl (fun i => fx_I (if i < 12 then -1 else 0))))]) (As := [.int (fx_I (4)), .int (fx_I (4))]) (rest := [.ref q2, .ref h0]) (own := "FoldDye$Search") (idx := 20) ⟨hx, hb, hml, hown, hts⟩ hK hP hD hS hA hSt hA0 (c_X0_init l D cI cZ cQ ad A0 q2 H.size 4 4 (by decide) (by decide)) wd_141 wd_55 wd_139 wd_140 rfl (by decide +kernel) ⟨Nat.le_of_ble_eq_true rfl, Nat.le_of_ble_eq_true rfl⟩ rfl rfl rfl hl.1 (Nat.le_of_ble_eq_true rfl) (show decode prog_4_method_1_code 22 = .ok (.invokespecial 20, 3) by decide +kernel) ⟨show 3 + 4 ≤ 19 by omega, show 21 + 576 ≤ 1815 by omega⟩ (fun w1 H locs hw hP hD hS => ?_)
  obtain ⟨q3, q4, q5, q6, rfl⟩ := hw
  have hP : va_P D fx_cl [(h0, .inr (2, [.ref q0, .null, .null, .null, .null, .null, .int 0, .int 0, .int 0])), (q0, .inr (4, [.ref q1, .int (fx_I (0))])), (q1, .inl (cI, 12, .inl (fun i => fx_I (if i < 12 then -1 else 0)))), (q2, .inr (0, [.ref q3, .ref q4, .ref q5, .ref q6, .int (fx_I (0)), .int (fx_I (0)), .int (fx_I (0))])), (q3, .inl (cI, 4 * 4, .inl (fun _ => 0))), (q4, .inl (cI, 4 * 4, .inl (fun _ => 0))), (q5, .inl (cI, 4 * 4, .inl (fun _ => 0))), (q6, .inl (cI, 4 * 12, .inl (fun _ => 0)))] H := hP
  have hD : va_D A [(h0, .inr (2, [.ref q0, .null, .null, .null, .null, .null, .int 0, .int 0, .int 0])), (q0, .inr (4, [.ref q1, .int (fx_I (0))])), (q1, .inl (cI, 12, .inl (fun i => fx_I (if i < 12 then -1 else 0)))), (q2, .inr (0, [.ref q3, .ref q4, .ref q5, .ref q6, .int (fx_I (0)), .int (fx_I (0)), .int (fx_I (0))])), (q3, .inl (cI, 4 * 4, .inl (fun _ => 0))), (q4, .inl (cI, 4 * 4, .inl (fun _ => 0))), (q5, .inl (cI, 4 * 4, .inl (fun _ => 0))), (q6, .inl (cI, 4 * 12, .inl (fun _ => 0)))] := hD
  refine W.widen (k := 7) (n := 597) (by omega) (by omega) ?_
  refine fx_putC (o := 2) (ci := 2) (k := 1) (ty := .object "FoldDye$Bundle") hx hb hts hown hin hK hP hD hS 0 rfl (by decide +kernel) rfl (by decide +kernel) rfl rfl (show 1 < 9 by omega) (show decode prog_4_method_1_code 25 = .ok (.putfield 23, 3) by decide +kernel) (fun H locs hP hD hS => ?_)
  have hP : va_P D fx_cl [(h0, .inr (2, [.ref q0, .ref q2, .null, .null, .null, .null, .int 0, .int 0, .int 0])), (q0, .inr (4, [.ref q1, .int (fx_I (0))])), (q1, .inl (cI, 12, .inl (fun i => fx_I (if i < 12 then -1 else 0)))), (q2, .inr (0, [.ref q3, .ref q4, .ref q5, .ref q6, .int (fx_I (0)), .int (fx_I (0)), .int (fx_I (0))])), (q3, .inl (cI, 4 * 4, .inl (fun _ => 0))), (q4, .inl (cI, 4 * 4, .inl (fun _ => 0))), (q5, .inl (cI, 4 * 4, .inl (fun _ => 0))), (q6, .inl (cI, 4 * 12, .inl (fun _ => 0)))] H := hP
  have hD : va_D A [(h0, .inr (2, [.ref q0, .ref q2, .null, .null, .null, .null, .int 0, .int 0, .int 0])), (q0, .inr (4, [.ref q1, .int (fx_I (0))])), (q1, .inl (cI, 12, .inl (fun i => fx_I (if i < 12 then -1 else 0)))), (q2, .inr (0, [.ref q3, .ref q4, .ref q5, .ref q6, .int (fx_I (0)), .int (fx_I (0)), .int (fx_I (0))])), (q3, .inl (cI, 4 * 4, .inl (fun _ => 0))), (q4, .inl (cI, 4 * 4, .inl (fun _ => 0))), (q5, .inl (cI, 4 * 4, .inl (fun _ => 0))), (q6, .inl (cI, 4 * 12, .inl (fun _ => 0)))] := hD
  refine lv_aload_n hx hb (show decode prog_4_method_1_code 28 = .ok (.aload_n 0, 1) by decide +kernel) rfl (lv_at hl 0 rfl) ?_
  refine va_new (ci := 0) (fs := [.null, .null, .null, .null, .int 0, .int 0, .int 0]) (C := RX0) (T := TX0) (N := 7) hx hb hts inX0 tyX0 tyX0_ok hown (hts _ wd_137) (hts _ wd_138) (hts _ wd_55) hK hP hD hS hA rfl (fun j hj => by rcases (show j = 0 ∨ j = 1 ∨ j = 2 ∨ j = 3 ∨ j = 4 ∨ j = 5 ∨ j = 6 by omega) with rfl | rfl | rfl | rfl | rfl | rfl | rfl <;> rfl) (show 7 + 1 ≤ 19 by omega) (show 597 + 7 ≤ 1815 by omega) (show decode prog_4_method_1_code 29 = .ok (.new 18, 3) by decide +kernel) (fun q7 H hP hD hS => ?_)
  have hP : va_P D fx_cl [(h0, .inr (2, [.ref q0, .ref q2, .null, .null, .null, .null, .int 0, .int 0, .int 0])), (q0, .inr (4, [.ref q1, .int (fx_I (0))])), (q1, .inl (cI, 12, .inl (fun i => fx_I (if i < 12 then -1 else 0)))), (q2, .inr (0, [.ref q3, .ref q4, .ref q5, .ref q6, .int (fx_I (0)), .int (fx_I (0)), .int (fx_I (0))])), (q3, .inl (cI, 4 * 4, .inl (fun _ => 0))), (q4, .inl (cI, 4 * 4, .inl (fun _ => 0))), (q5, .inl (cI, 4 * 4, .inl (fun _ => 0))), (q6, .inl (cI, 4 * 12, .inl (fun _ => 0))), (q7, .inr (0, [.null, .null, .null, .null, .int 0, .int 0, .int 0]))] H := hP
  have hD : va_D A [(h0, .inr (2, [.ref q0, .ref q2, .null, .null, .null, .null, .int 0, .int 0, .int 0])), (q0, .inr (4, [.ref q1, .int (fx_I (0))])), (q1, .inl (cI, 12, .inl (fun i => fx_I (if i < 12 then -1 else 0)))), (q2, .inr (0, [.ref q3, .ref q4, .ref q5, .ref q6, .int (fx_I (0)), .int (fx_I (0)), .int (fx_I (0))])), (q3, .inl (cI, 4 * 4, .inl (fun _ => 0))), (q4, .inl (cI, 4 * 4, .inl (fun _ => 0))), (q5, .inl (cI, 4 * 4, .inl (fun _ => 0))), (q6, .inl (cI, 4 * 12, .inl (fun _ => 0))), (q7, .inr (0, [.null, .null, .null, .null, .int 0, .int 0, .int 0]))] := hD
  refine W.widen (k := 8) (n := 604) (by omega) (by omega) ?_
  refine lv_dup hx hb (show decode prog_4_method_1_code 32 = .ok (.dup, 1) by decide +kernel) rfl ?_
  refine lv_iconst (v := fx_I (4)) hx hb (show decode prog_4_method_1_code 33 = .ok (.iconst 4, 1) by decide +kernel) rfl ?_
  refine lv_iconst (v := fx_I (4)) hx hb (show decode prog_4_method_1_code 34 = .ok (.iconst 4, 1) by decide +kernel) rfl ?_
  refine fx_mkI (pre := [(h0, .inr (2, [.ref q0, .ref q2, .null, .null, .null, .null, .int 0, .int 0, .int 0])), (q0, .inr (4, [.ref q1, .int (fx_I (0))])), (q1, .inl (cI, 12, .inl (fun i => fx_I (if i < 12 then -1 else 0)))), (q2, .inr (0, [.ref q3, .ref q4, .ref q5, .ref q6, .int (fx_I (0)), .int (fx_I (0)), .int (fx_I (0))])), (q3, .inl (cI, 4 * 4, .inl (fun _ => 0))), (q4, .inl (cI, 4 * 4, .inl (fun _ => 0))), (q5, .inl (cI, 4 * 4, .inl (fun _ => 0))), (q6, .inl (cI, 4 * 12, .inl (fun _ => 0)))]) (As := [.int (fx_I (4)), .int (fx_I (4))]) (rest := [.ref q7, .ref h0]) (own := "FoldDye$Search") (idx := 20) ⟨hx, hb, hml, hown, hts⟩ hK hP hD hS hA hSt hA0 (c_X0_init l D cI cZ cQ ad A0 q7 H.size 4 4 (by decide) (by decide)) wd_141 wd_55 wd_139 wd_140 rfl (by decide +kernel) ⟨Nat.le_of_ble_eq_true rfl, Nat.le_of_ble_eq_true rfl⟩ rfl rfl rfl hl.1 (Nat.le_of_ble_eq_true rfl) (show decode prog_4_method_1_code 35 = .ok (.invokespecial 20, 3) by decide +kernel) ⟨show 8 + 4 ≤ 19 by omega, show 604 + 576 ≤ 1815 by omega⟩ (fun w1 H locs hw hP hD hS => ?_)
  obtain ⟨q8, q9, q10, q11, rfl⟩ := hw
  have hP : va_P D fx_cl [(h0, .inr (2, [.ref q0, .ref q2, .null, .null, .null, .null, .int 0, .int 0, .int 0])), (q0, .inr (4, [.ref q1, .int (fx_I (0))])), (q1, .inl (cI, 12, .inl (fun i => fx_I (if i < 12 then -1 else 0)))), (q2, .inr (0, [.ref q3, .ref q4, .ref q5, .ref q6, .int (fx_I (0)), .int (fx_I (0)), .int (fx_I (0))])), (q3, .inl (cI, 4 * 4, .inl (fun _ => 0))), (q4, .inl (cI, 4 * 4, .inl (fun _ => 0))), (q5, .inl (cI, 4 * 4, .inl (fun _ => 0))), (q6, .inl (cI, 4 * 12, .inl (fun _ => 0))), (q7, .inr (0, [.ref q8, .ref q9, .ref q10, .ref q11, .int (fx_I (0)), .int (fx_I (0)), .int (fx_I (0))])), (q8, .inl (cI, 4 * 4, .inl (fun _ => 0))), (q9, .inl (cI, 4 * 4, .inl (fun _ => 0))), (q10, .inl (cI, 4 * 4, .inl (fun _ => 0))), (q11, .inl (cI, 4 * 12, .inl (fun _ => 0)))] H := hP
  have hD : va_D A [(h0, .inr (2, [.ref q0, .ref q2, .null, .null, .null, .null, .int 0, .int 0, .int 0])), (q0, .inr (4, [.ref q1, .int (fx_I (0))])), (q1, .inl (cI, 12, .inl (fun i => fx_I (if i < 12 then -1 else 0)))), (q2, .inr (0, [.ref q3, .ref q4, .ref q5, .ref q6, .int (fx_I (0)), .int (fx_I (0)), .int (fx_I (0))])), (q3, .inl (cI, 4 * 4, .inl (fun _ => 0))), (q4, .inl (cI, 4 * 4, .inl (fun _ => 0))), (q5, .inl (cI, 4 * 4, .inl (fun _ => 0))), (q6, .inl (cI, 4 * 12, .inl (fun _ => 0))), (q7, .inr (0, [.ref q8, .ref q9, .ref q10, .ref q11, .int (fx_I (0)), .int (fx_I (0)), .int (fx_I (0))])), (q8, .inl (cI, 4 * 4, .inl (fun _ => 0))), (q9, .inl (cI, 4 * 4, .inl (fun _ => 0))), (q10, .inl (cI, 4 * 4, .inl (fun _ => 0))), (q11, .inl (cI, 4 * 12, .inl (fun _ => 0)))] := hD
  refine W.widen (k := 12) (n := 1180) (by omega) (by omega) ?_
  refine fx_putC (o := 2) (ci := 2) (k := 2) (ty := .object "FoldDye$Bundle") hx hb hts hown hin hK hP hD hS 0 rfl (by decide +kernel) rfl (by decide +kernel) rfl rfl (show 2 < 9 by omega) (show decode prog_4_method_1_code 38 = .ok (.putfield 27, 3) by decide +kernel) (fun H locs hP hD hS => ?_)
  have hP : va_P D fx_cl [(h0, .inr (2, [.ref q0, .ref q2, .ref q7, .null, .null, .null, .int 0, .int 0, .int 0])), (q0, .inr (4, [.ref q1, .int (fx_I (0))])), (q1, .inl (cI, 12, .inl (fun i => fx_I (if i < 12 then -1 else 0)))), (q2, .inr (0, [.ref q3, .ref q4, .ref q5, .ref q6, .int (fx_I (0)), .int (fx_I (0)), .int (fx_I (0))])), (q3, .inl (cI, 4 * 4, .inl (fun _ => 0))), (q4, .inl (cI, 4 * 4, .inl (fun _ => 0))), (q5, .inl (cI, 4 * 4, .inl (fun _ => 0))), (q6, .inl (cI, 4 * 12, .inl (fun _ => 0))), (q7, .inr (0, [.ref q8, .ref q9, .ref q10, .ref q11, .int (fx_I (0)), .int (fx_I (0)), .int (fx_I (0))])), (q8, .inl (cI, 4 * 4, .inl (fun _ => 0))), (q9, .inl (cI, 4 * 4, .inl (fun _ => 0))), (q10, .inl (cI, 4 * 4, .inl (fun _ => 0))), (q11, .inl (cI, 4 * 12, .inl (fun _ => 0)))] H := hP
  have hD : va_D A [(h0, .inr (2, [.ref q0, .ref q2, .ref q7, .null, .null, .null, .int 0, .int 0, .int 0])), (q0, .inr (4, [.ref q1, .int (fx_I (0))])), (q1, .inl (cI, 12, .inl (fun i => fx_I (if i < 12 then -1 else 0)))), (q2, .inr (0, [.ref q3, .ref q4, .ref q5, .ref q6, .int (fx_I (0)), .int (fx_I (0)), .int (fx_I (0))])), (q3, .inl (cI, 4 * 4, .inl (fun _ => 0))), (q4, .inl (cI, 4 * 4, .inl (fun _ => 0))), (q5, .inl (cI, 4 * 4, .inl (fun _ => 0))), (q6, .inl (cI, 4 * 12, .inl (fun _ => 0))), (q7, .inr (0, [.ref q8, .ref q9, .ref q10, .ref q11, .int (fx_I (0)), .int (fx_I (0)), .int (fx_I (0))])), (q8, .inl (cI, 4 * 4, .inl (fun _ => 0))), (q9, .inl (cI, 4 * 4, .inl (fun _ => 0))), (q10, .inl (cI, 4 * 4, .inl (fun _ => 0))), (q11, .inl (cI, 4 * 12, .inl (fun _ => 0)))] := hD
  refine lv_aload_n hx hb (show decode prog_4_method_1_code 41 = .ok (.aload_n 0, 1) by decide +kernel) rfl (lv_at hl 0 rfl) ?_
  refine va_new (ci := 0) (fs := [.null, .null, .null, .null, .int 0, .int 0, .int 0]) (C := RX0) (T := TX0) (N := 7) hx hb hts inX0 tyX0 tyX0_ok hown (hts _ wd_137) (hts _ wd_138) (hts _ wd_55) hK hP hD hS hA rfl (fun j hj => by rcases (show j = 0 ∨ j = 1 ∨ j = 2 ∨ j = 3 ∨ j = 4 ∨ j = 5 ∨ j = 6 by omega) with rfl | rfl | rfl | rfl | rfl | rfl | rfl <;> rfl) (show 12 + 1 ≤ 19 by omega) (show 1180 + 7 ≤ 1815 by omega) (show decode prog_4_method_1_code 42 = .ok (.new 18, 3) by decide +kernel) (fun q12 H hP hD hS => ?_)
  have hP : va_P D fx_cl [(h0, .inr (2, [.ref q0, .ref q2, .ref q7, .null, .null, .null, .int 0, .int 0, .int 0])), (q0, .inr (4, [.ref q1, .int (fx_I (0))])), (q1, .inl (cI, 12, .inl (fun i => fx_I (if i < 12 then -1 else 0)))), (q2, .inr (0, [.ref q3, .ref q4, .ref q5, .ref q6, .int (fx_I (0)), .int (fx_I (0)), .int (fx_I (0))])), (q3, .inl (cI, 4 * 4, .inl (fun _ => 0))), (q4, .inl (cI, 4 * 4, .inl (fun _ => 0))), (q5, .inl (cI, 4 * 4, .inl (fun _ => 0))), (q6, .inl (cI, 4 * 12, .inl (fun _ => 0))), (q7, .inr (0, [.ref q8, .ref q9, .ref q10, .ref q11, .int (fx_I (0)), .int (fx_I (0)), .int (fx_I (0))])), (q8, .inl (cI, 4 * 4, .inl (fun _ => 0))), (q9, .inl (cI, 4 * 4, .inl (fun _ => 0))), (q10, .inl (cI, 4 * 4, .inl (fun _ => 0))), (q11, .inl (cI, 4 * 12, .inl (fun _ => 0))), (q12, .inr (0, [.null, .null, .null, .null, .int 0, .int 0, .int 0]))] H := hP
  have hD : va_D A [(h0, .inr (2, [.ref q0, .ref q2, .ref q7, .null, .null, .null, .int 0, .int 0, .int 0])), (q0, .inr (4, [.ref q1, .int (fx_I (0))])), (q1, .inl (cI, 12, .inl (fun i => fx_I (if i < 12 then -1 else 0)))), (q2, .inr (0, [.ref q3, .ref q4, .ref q5, .ref q6, .int (fx_I (0)), .int (fx_I (0)), .int (fx_I (0))])), (q3, .inl (cI, 4 * 4, .inl (fun _ => 0))), (q4, .inl (cI, 4 * 4, .inl (fun _ => 0))), (q5, .inl (cI, 4 * 4, .inl (fun _ => 0))), (q6, .inl (cI, 4 * 12, .inl (fun _ => 0))), (q7, .inr (0, [.ref q8, .ref q9, .ref q10, .ref q11, .int (fx_I (0)), .int (fx_I (0)), .int (fx_I (0))])), (q8, .inl (cI, 4 * 4, .inl (fun _ => 0))), (q9, .inl (cI, 4 * 4, .inl (fun _ => 0))), (q10, .inl (cI, 4 * 4, .inl (fun _ => 0))), (q11, .inl (cI, 4 * 12, .inl (fun _ => 0))), (q12, .inr (0, [.null, .null, .null, .null, .int 0, .int 0, .int 0]))] := hD
  refine W.widen (k := 13) (n := 1187) (by omega) (by omega) ?_
  refine lv_dup hx hb (show decode prog_4_method_1_code 45 = .ok (.dup, 1) by decide +kernel) rfl ?_
  refine lv_iconst (v := fx_I (4)) hx hb (show decode prog_4_method_1_code 46 = .ok (.iconst 4, 1) by decide +kernel) rfl ?_
  refine lv_iconst (v := fx_I (4)) hx hb (show decode prog_4_method_1_code 47 = .ok (.iconst 4, 1) by decide +kernel) rfl ?_
  refine fx_mkI (pre := [(h0, .inr (2, [.ref q0, .ref q2, .ref q7, .null, .null, .null, .int 0, .int 0, .int 0])), (q0, .inr (4, [.ref q1, .int (fx_I (0))])), (q1, .inl (cI, 12, .inl (fun i => fx_I (if i < 12 then -1 else 0)))), (q2, .inr (0, [.ref q3, .ref q4, .ref q5, .ref q6, .int (fx_I (0)), .int (fx_I (0)), .int (fx_I (0))])), (q3, .inl (cI, 4 * 4, .inl (fun _ => 0))), (q4, .inl (cI, 4 * 4, .inl (fun _ => 0))), (q5, .inl (cI, 4 * 4, .inl (fun _ => 0))), (q6, .inl (cI, 4 * 12, .inl (fun _ => 0))), (q7, .inr (0, [.ref q8, .ref q9, .ref q10, .ref q11, .int (fx_I (0)), .int (fx_I (0)), .int (fx_I (0))])), (q8, .inl (cI, 4 * 4, .inl (fun _ => 0))), (q9, .inl (cI, 4 * 4, .inl (fun _ => 0))), (q10, .inl (cI, 4 * 4, .inl (fun _ => 0))), (q11, .inl (cI, 4 * 12, .inl (fun _ => 0)))]) (As := [.int (fx_I (4)), .int (fx_I (4))]) (rest := [.ref q12, .ref h0]) (own := "FoldDye$Search") (idx := 20) ⟨hx, hb, hml, hown, hts⟩ hK hP hD hS hA hSt hA0 (c_X0_init l D cI cZ cQ ad A0 q12 H.size 4 4 (by decide) (by decide)) wd_141 wd_55 wd_139 wd_140 rfl (by decide +kernel) ⟨Nat.le_of_ble_eq_true rfl, Nat.le_of_ble_eq_true rfl⟩ rfl rfl rfl hl.1 (Nat.le_of_ble_eq_true rfl) (show decode prog_4_method_1_code 48 = .ok (.invokespecial 20, 3) by decide +kernel) ⟨show 13 + 4 ≤ 19 by omega, show 1187 + 576 ≤ 1815 by omega⟩ (fun w1 H locs hw hP hD hS => ?_)
  obtain ⟨q13, q14, q15, q16, rfl⟩ := hw
  have hP : va_P D fx_cl [(h0, .inr (2, [.ref q0, .ref q2, .ref q7, .null, .null, .null, .int 0, .int 0, .int 0])), (q0, .inr (4, [.ref q1, .int (fx_I (0))])), (q1, .inl (cI, 12, .inl (fun i => fx_I (if i < 12 then -1 else 0)))), (q2, .inr (0, [.ref q3, .ref q4, .ref q5, .ref q6, .int (fx_I (0)), .int (fx_I (0)), .int (fx_I (0))])), (q3, .inl (cI, 4 * 4, .inl (fun _ => 0))), (q4, .inl (cI, 4 * 4, .inl (fun _ => 0))), (q5, .inl (cI, 4 * 4, .inl (fun _ => 0))), (q6, .inl (cI, 4 * 12, .inl (fun _ => 0))), (q7, .inr (0, [.ref q8, .ref q9, .ref q10, .ref q11, .int (fx_I (0)), .int (fx_I (0)), .int (fx_I (0))])), (q8, .inl (cI, 4 * 4, .inl (fun _ => 0))), (q9, .inl (cI, 4 * 4, .inl (fun _ => 0))), (q10, .inl (cI, 4 * 4, .inl (fun _ => 0))), (q11, .inl (cI, 4 * 12, .inl (fun _ => 0))), (q12, .inr (0, [.ref q13, .ref q14, .ref q15, .ref q16, .int (fx_I (0)), .int (fx_I (0)), .int (fx_I (0))])), (q13, .inl (cI, 4 * 4, .inl (fun _ => 0))), (q14, .inl (cI, 4 * 4, .inl (fun _ => 0))), (q15, .inl (cI, 4 * 4, .inl (fun _ => 0))), (q16, .inl (cI, 4 * 12, .inl (fun _ => 0)))] H := hP
  have hD : va_D A [(h0, .inr (2, [.ref q0, .ref q2, .ref q7, .null, .null, .null, .int 0, .int 0, .int 0])), (q0, .inr (4, [.ref q1, .int (fx_I (0))])), (q1, .inl (cI, 12, .inl (fun i => fx_I (if i < 12 then -1 else 0)))), (q2, .inr (0, [.ref q3, .ref q4, .ref q5, .ref q6, .int (fx_I (0)), .int (fx_I (0)), .int (fx_I (0))])), (q3, .inl (cI, 4 * 4, .inl (fun _ => 0))), (q4, .inl (cI, 4 * 4, .inl (fun _ => 0))), (q5, .inl (cI, 4 * 4, .inl (fun _ => 0))), (q6, .inl (cI, 4 * 12, .inl (fun _ => 0))), (q7, .inr (0, [.ref q8, .ref q9, .ref q10, .ref q11, .int (fx_I (0)), .int (fx_I (0)), .int (fx_I (0))])), (q8, .inl (cI, 4 * 4, .inl (fun _ => 0))), (q9, .inl (cI, 4 * 4, .inl (fun _ => 0))), (q10, .inl (cI, 4 * 4, .inl (fun _ => 0))), (q11, .inl (cI, 4 * 12, .inl (fun _ => 0))), (q12, .inr (0, [.ref q13, .ref q14, .ref q15, .ref q16, .int (fx_I (0)), .int (fx_I (0)), .int (fx_I (0))])), (q13, .inl (cI, 4 * 4, .inl (fun _ => 0))), (q14, .inl (cI, 4 * 4, .inl (fun _ => 0))), (q15, .inl (cI, 4 * 4, .inl (fun _ => 0))), (q16, .inl (cI, 4 * 12, .inl (fun _ => 0)))] := hD
  refine W.widen (k := 17) (n := 1763) (by omega) (by omega) ?_
  refine fx_putC (o := 2) (ci := 2) (k := 3) (ty := .object "FoldDye$Bundle") hx hb hts hown hin hK hP hD hS 0 rfl (by decide +kernel) rfl (by decide +kernel) rfl rfl (show 3 < 9 by omega) (show decode prog_4_method_1_code 51 = .ok (.putfield 30, 3) by decide +kernel) (fun H locs hP hD hS => ?_)
  have hP : va_P D fx_cl [(h0, .inr (2, [.ref q0, .ref q2, .ref q7, .ref q12, .null, .null, .int 0, .int 0, .int 0])), (q0, .inr (4, [.ref q1, .int (fx_I (0))])), (q1, .inl (cI, 12, .inl (fun i => fx_I (if i < 12 then -1 else 0)))), (q2, .inr (0, [.ref q3, .ref q4, .ref q5, .ref q6, .int (fx_I (0)), .int (fx_I (0)), .int (fx_I (0))])), (q3, .inl (cI, 4 * 4, .inl (fun _ => 0))), (q4, .inl (cI, 4 * 4, .inl (fun _ => 0))), (q5, .inl (cI, 4 * 4, .inl (fun _ => 0))), (q6, .inl (cI, 4 * 12, .inl (fun _ => 0))), (q7, .inr (0, [.ref q8, .ref q9, .ref q10, .ref q11, .int (fx_I (0)), .int (fx_I (0)), .int (fx_I (0))])), (q8, .inl (cI, 4 * 4, .inl (fun _ => 0))), (q9, .inl (cI, 4 * 4, .inl (fun _ => 0))), (q10, .inl (cI, 4 * 4, .inl (fun _ => 0))), (q11, .inl (cI, 4 * 12, .inl (fun _ => 0))), (q12, .inr (0, [.ref q13, .ref q14, .ref q15, .ref q16, .int (fx_I (0)), .int (fx_I (0)), .int (fx_I (0))])), (q13, .inl (cI, 4 * 4, .inl (fun _ => 0))), (q14, .inl (cI, 4 * 4, .inl (fun _ => 0))), (q15, .inl (cI, 4 * 4, .inl (fun _ => 0))), (q16, .inl (cI, 4 * 12, .inl (fun _ => 0)))] H := hP
  have hD : va_D A [(h0, .inr (2, [.ref q0, .ref q2, .ref q7, .ref q12, .null, .null, .int 0, .int 0, .int 0])), (q0, .inr (4, [.ref q1, .int (fx_I (0))])), (q1, .inl (cI, 12, .inl (fun i => fx_I (if i < 12 then -1 else 0)))), (q2, .inr (0, [.ref q3, .ref q4, .ref q5, .ref q6, .int (fx_I (0)), .int (fx_I (0)), .int (fx_I (0))])), (q3, .inl (cI, 4 * 4, .inl (fun _ => 0))), (q4, .inl (cI, 4 * 4, .inl (fun _ => 0))), (q5, .inl (cI, 4 * 4, .inl (fun _ => 0))), (q6, .inl (cI, 4 * 12, .inl (fun _ => 0))), (q7, .inr (0, [.ref q8, .ref q9, .ref q10, .ref q11, .int (fx_I (0)), .int (fx_I (0)), .int (fx_I (0))])), (q8, .inl (cI, 4 * 4, .inl (fun _ => 0))), (q9, .inl (cI, 4 * 4, .inl (fun _ => 0))), (q10, .inl (cI, 4 * 4, .inl (fun _ => 0))), (q11, .inl (cI, 4 * 12, .inl (fun _ => 0))), (q12, .inr (0, [.ref q13, .ref q14, .ref q15, .ref q16, .int (fx_I (0)), .int (fx_I (0)), .int (fx_I (0))])), (q13, .inl (cI, 4 * 4, .inl (fun _ => 0))), (q14, .inl (cI, 4 * 4, .inl (fun _ => 0))), (q15, .inl (cI, 4 * 4, .inl (fun _ => 0))), (q16, .inl (cI, 4 * 12, .inl (fun _ => 0)))] := hD
  refine lv_aload_n hx hb (show decode prog_4_method_1_code 54 = .ok (.aload_n 0, 1) by decide +kernel) rfl (lv_at hl 0 rfl) ?_
  refine lv_bipush (v := fx_I (48)) hx hb (show decode prog_4_method_1_code 55 = .ok (.bipush 48, 2) by decide +kernel) (by decide) ?_
  refine fx_newI (n := 48) hx hb hts wd_90 hK hP hD hS hA (by omega) (show 17 + 1 ≤ 19 by omega) (show 1763 + 48 ≤ 1815 by omega) (show decode prog_4_method_1_code 57 = .ok (.newarray .int, 2) by decide +kernel) (fun q17 H hP hD hS => ?_)
  have hP : va_P D fx_cl [(h0, .inr (2, [.ref q0, .ref q2, .ref q7, .ref q12, .null, .null, .int 0, .int 0, .int 0])), (q0, .inr (4, [.ref q1, .int (fx_I (0))])), (q1, .inl (cI, 12, .inl (fun i => fx_I (if i < 12 then -1 else 0)))), (q2, .inr (0, [.ref q3, .ref q4, .ref q5, .ref q6, .int (fx_I (0)), .int (fx_I (0)), .int (fx_I (0))])), (q3, .inl (cI, 4 * 4, .inl (fun _ => 0))), (q4, .inl (cI, 4 * 4, .inl (fun _ => 0))), (q5, .inl (cI, 4 * 4, .inl (fun _ => 0))), (q6, .inl (cI, 4 * 12, .inl (fun _ => 0))), (q7, .inr (0, [.ref q8, .ref q9, .ref q10, .ref q11, .int (fx_I (0)), .int (fx_I (0)), .int (fx_I (0))])), (q8, .inl (cI, 4 * 4, .inl (fun _ => 0))), (q9, .inl (cI, 4 * 4, .inl (fun _ => 0))), (q10, .inl (cI, 4 * 4, .inl (fun _ => 0))), (q11, .inl (cI, 4 * 12, .inl (fun _ => 0))), (q12, .inr (0, [.ref q13, .ref q14, .ref q15, .ref q16, .int (fx_I (0)), .int (fx_I (0)), .int (fx_I (0))])), (q13, .inl (cI, 4 * 4, .inl (fun _ => 0))), (q14, .inl (cI, 4 * 4, .inl (fun _ => 0))), (q15, .inl (cI, 4 * 4, .inl (fun _ => 0))), (q16, .inl (cI, 4 * 12, .inl (fun _ => 0))), (q17, .inl (cI, 48, .inl (fun _ => 0)))] H := hP
  have hD : va_D A [(h0, .inr (2, [.ref q0, .ref q2, .ref q7, .ref q12, .null, .null, .int 0, .int 0, .int 0])), (q0, .inr (4, [.ref q1, .int (fx_I (0))])), (q1, .inl (cI, 12, .inl (fun i => fx_I (if i < 12 then -1 else 0)))), (q2, .inr (0, [.ref q3, .ref q4, .ref q5, .ref q6, .int (fx_I (0)), .int (fx_I (0)), .int (fx_I (0))])), (q3, .inl (cI, 4 * 4, .inl (fun _ => 0))), (q4, .inl (cI, 4 * 4, .inl (fun _ => 0))), (q5, .inl (cI, 4 * 4, .inl (fun _ => 0))), (q6, .inl (cI, 4 * 12, .inl (fun _ => 0))), (q7, .inr (0, [.ref q8, .ref q9, .ref q10, .ref q11, .int (fx_I (0)), .int (fx_I (0)), .int (fx_I (0))])), (q8, .inl (cI, 4 * 4, .inl (fun _ => 0))), (q9, .inl (cI, 4 * 4, .inl (fun _ => 0))), (q10, .inl (cI, 4 * 4, .inl (fun _ => 0))), (q11, .inl (cI, 4 * 12, .inl (fun _ => 0))), (q12, .inr (0, [.ref q13, .ref q14, .ref q15, .ref q16, .int (fx_I (0)), .int (fx_I (0)), .int (fx_I (0))])), (q13, .inl (cI, 4 * 4, .inl (fun _ => 0))), (q14, .inl (cI, 4 * 4, .inl (fun _ => 0))), (q15, .inl (cI, 4 * 4, .inl (fun _ => 0))), (q16, .inl (cI, 4 * 12, .inl (fun _ => 0))), (q17, .inl (cI, 48, .inl (fun _ => 0)))] := hD
  refine W.widen (k := 18) (n := 1811) (by omega) (by omega) ?_
  refine fx_putC (o := 2) (ci := 2) (k := 4) (ty := .array .int) hx hb hts hown hin hK hP hD hS 0 rfl (by decide +kernel) rfl (by decide +kernel) rfl rfl (show 4 < 9 by omega) (show decode prog_4_method_1_code 59 = .ok (.putfield 33, 3) by decide +kernel) (fun H locs hP hD hS => ?_)
  have hP : va_P D fx_cl [(h0, .inr (2, [.ref q0, .ref q2, .ref q7, .ref q12, .ref q17, .null, .int 0, .int 0, .int 0])), (q0, .inr (4, [.ref q1, .int (fx_I (0))])), (q1, .inl (cI, 12, .inl (fun i => fx_I (if i < 12 then -1 else 0)))), (q2, .inr (0, [.ref q3, .ref q4, .ref q5, .ref q6, .int (fx_I (0)), .int (fx_I (0)), .int (fx_I (0))])), (q3, .inl (cI, 4 * 4, .inl (fun _ => 0))), (q4, .inl (cI, 4 * 4, .inl (fun _ => 0))), (q5, .inl (cI, 4 * 4, .inl (fun _ => 0))), (q6, .inl (cI, 4 * 12, .inl (fun _ => 0))), (q7, .inr (0, [.ref q8, .ref q9, .ref q10, .ref q11, .int (fx_I (0)), .int (fx_I (0)), .int (fx_I (0))])), (q8, .inl (cI, 4 * 4, .inl (fun _ => 0))), (q9, .inl (cI, 4 * 4, .inl (fun _ => 0))), (q10, .inl (cI, 4 * 4, .inl (fun _ => 0))), (q11, .inl (cI, 4 * 12, .inl (fun _ => 0))), (q12, .inr (0, [.ref q13, .ref q14, .ref q15, .ref q16, .int (fx_I (0)), .int (fx_I (0)), .int (fx_I (0))])), (q13, .inl (cI, 4 * 4, .inl (fun _ => 0))), (q14, .inl (cI, 4 * 4, .inl (fun _ => 0))), (q15, .inl (cI, 4 * 4, .inl (fun _ => 0))), (q16, .inl (cI, 4 * 12, .inl (fun _ => 0))), (q17, .inl (cI, 48, .inl (fun _ => 0)))] H := hP
  have hD : va_D A [(h0, .inr (2, [.ref q0, .ref q2, .ref q7, .ref q12, .ref q17, .null, .int 0, .int 0, .int 0])), (q0, .inr (4, [.ref q1, .int (fx_I (0))])), (q1, .inl (cI, 12, .inl (fun i => fx_I (if i < 12 then -1 else 0)))), (q2, .inr (0, [.ref q3, .ref q4, .ref q5, .ref q6, .int (fx_I (0)), .int (fx_I (0)), .int (fx_I (0))])), (q3, .inl (cI, 4 * 4, .inl (fun _ => 0))), (q4, .inl (cI, 4 * 4, .inl (fun _ => 0))), (q5, .inl (cI, 4 * 4, .inl (fun _ => 0))), (q6, .inl (cI, 4 * 12, .inl (fun _ => 0))), (q7, .inr (0, [.ref q8, .ref q9, .ref q10, .ref q11, .int (fx_I (0)), .int (fx_I (0)), .int (fx_I (0))])), (q8, .inl (cI, 4 * 4, .inl (fun _ => 0))), (q9, .inl (cI, 4 * 4, .inl (fun _ => 0))), (q10, .inl (cI, 4 * 4, .inl (fun _ => 0))), (q11, .inl (cI, 4 * 12, .inl (fun _ => 0))), (q12, .inr (0, [.ref q13, .ref q14, .ref q15, .ref q16, .int (fx_I (0)), .int (fx_I (0)), .int (fx_I (0))])), (q13, .inl (cI, 4 * 4, .inl (fun _ => 0))), (q14, .inl (cI, 4 * 4, .inl (fun _ => 0))), (q15, .inl (cI, 4 * 4, .inl (fun _ => 0))), (q16, .inl (cI, 4 * 12, .inl (fun _ => 0))), (q17, .inl (cI, 48, .inl (fun _ => 0)))] := hD
  refine lv_aload_n hx hb (show decode prog_4_method_1_code 62 = .ok (.aload_n 0, 1) by decide +kernel) rfl (lv_at hl 0 rfl) ?_
  refine lv_iconst (v := fx_I (4)) hx hb (show decode prog_4_method_1_code 63 = .ok (.iconst 4, 1) by decide +kernel) rfl ?_
  refine fx_newI (n := 4) hx hb hts wd_90 hK hP hD hS hA (by omega) (show 18 + 1 ≤ 19 by omega) (show 1811 + 4 ≤ 1815 by omega) (show decode prog_4_method_1_code 64 = .ok (.newarray .int, 2) by decide +kernel) (fun q18 H hP hD hS => ?_)
  have hP : va_P D fx_cl [(h0, .inr (2, [.ref q0, .ref q2, .ref q7, .ref q12, .ref q17, .null, .int 0, .int 0, .int 0])), (q0, .inr (4, [.ref q1, .int (fx_I (0))])), (q1, .inl (cI, 12, .inl (fun i => fx_I (if i < 12 then -1 else 0)))), (q2, .inr (0, [.ref q3, .ref q4, .ref q5, .ref q6, .int (fx_I (0)), .int (fx_I (0)), .int (fx_I (0))])), (q3, .inl (cI, 4 * 4, .inl (fun _ => 0))), (q4, .inl (cI, 4 * 4, .inl (fun _ => 0))), (q5, .inl (cI, 4 * 4, .inl (fun _ => 0))), (q6, .inl (cI, 4 * 12, .inl (fun _ => 0))), (q7, .inr (0, [.ref q8, .ref q9, .ref q10, .ref q11, .int (fx_I (0)), .int (fx_I (0)), .int (fx_I (0))])), (q8, .inl (cI, 4 * 4, .inl (fun _ => 0))), (q9, .inl (cI, 4 * 4, .inl (fun _ => 0))), (q10, .inl (cI, 4 * 4, .inl (fun _ => 0))), (q11, .inl (cI, 4 * 12, .inl (fun _ => 0))), (q12, .inr (0, [.ref q13, .ref q14, .ref q15, .ref q16, .int (fx_I (0)), .int (fx_I (0)), .int (fx_I (0))])), (q13, .inl (cI, 4 * 4, .inl (fun _ => 0))), (q14, .inl (cI, 4 * 4, .inl (fun _ => 0))), (q15, .inl (cI, 4 * 4, .inl (fun _ => 0))), (q16, .inl (cI, 4 * 12, .inl (fun _ => 0))), (q17, .inl (cI, 48, .inl (fun _ => 0))), (q18, .inl (cI, 4, .inl (fun _ => 0)))] H := hP
  have hD : va_D A [(h0, .inr (2, [.ref q0, .ref q2, .ref q7, .ref q12, .ref q17, .null, .int 0, .int 0, .int 0])), (q0, .inr (4, [.ref q1, .int (fx_I (0))])), (q1, .inl (cI, 12, .inl (fun i => fx_I (if i < 12 then -1 else 0)))), (q2, .inr (0, [.ref q3, .ref q4, .ref q5, .ref q6, .int (fx_I (0)), .int (fx_I (0)), .int (fx_I (0))])), (q3, .inl (cI, 4 * 4, .inl (fun _ => 0))), (q4, .inl (cI, 4 * 4, .inl (fun _ => 0))), (q5, .inl (cI, 4 * 4, .inl (fun _ => 0))), (q6, .inl (cI, 4 * 12, .inl (fun _ => 0))), (q7, .inr (0, [.ref q8, .ref q9, .ref q10, .ref q11, .int (fx_I (0)), .int (fx_I (0)), .int (fx_I (0))])), (q8, .inl (cI, 4 * 4, .inl (fun _ => 0))), (q9, .inl (cI, 4 * 4, .inl (fun _ => 0))), (q10, .inl (cI, 4 * 4, .inl (fun _ => 0))), (q11, .inl (cI, 4 * 12, .inl (fun _ => 0))), (q12, .inr (0, [.ref q13, .ref q14, .ref q15, .ref q16, .int (fx_I (0)), .int (fx_I (0)), .int (fx_I (0))])), (q13, .inl (cI, 4 * 4, .inl (fun _ => 0))), (q14, .inl (cI, 4 * 4, .inl (fun _ => 0))), (q15, .inl (cI, 4 * 4, .inl (fun _ => 0))), (q16, .inl (cI, 4 * 12, .inl (fun _ => 0))), (q17, .inl (cI, 48, .inl (fun _ => 0))), (q18, .inl (cI, 4, .inl (fun _ => 0)))] := hD
  refine W.widen (k := 19) (n := 1815) (by omega) (by omega) ?_
  refine fx_putC (o := 2) (ci := 2) (k := 5) (ty := .array .int) hx hb hts hown hin hK hP hD hS 0 rfl (by decide +kernel) rfl (by decide +kernel) rfl rfl (show 5 < 9 by omega) (show decode prog_4_method_1_code 66 = .ok (.putfield 37, 3) by decide +kernel) (fun H locs hP hD hS => ?_)
  have hP : va_P D fx_cl [(h0, .inr (2, [.ref q0, .ref q2, .ref q7, .ref q12, .ref q17, .ref q18, .int 0, .int 0, .int 0])), (q0, .inr (4, [.ref q1, .int (fx_I (0))])), (q1, .inl (cI, 12, .inl (fun i => fx_I (if i < 12 then -1 else 0)))), (q2, .inr (0, [.ref q3, .ref q4, .ref q5, .ref q6, .int (fx_I (0)), .int (fx_I (0)), .int (fx_I (0))])), (q3, .inl (cI, 4 * 4, .inl (fun _ => 0))), (q4, .inl (cI, 4 * 4, .inl (fun _ => 0))), (q5, .inl (cI, 4 * 4, .inl (fun _ => 0))), (q6, .inl (cI, 4 * 12, .inl (fun _ => 0))), (q7, .inr (0, [.ref q8, .ref q9, .ref q10, .ref q11, .int (fx_I (0)), .int (fx_I (0)), .int (fx_I (0))])), (q8, .inl (cI, 4 * 4, .inl (fun _ => 0))), (q9, .inl (cI, 4 * 4, .inl (fun _ => 0))), (q10, .inl (cI, 4 * 4, .inl (fun _ => 0))), (q11, .inl (cI, 4 * 12, .inl (fun _ => 0))), (q12, .inr (0, [.ref q13, .ref q14, .ref q15, .ref q16, .int (fx_I (0)), .int (fx_I (0)), .int (fx_I (0))])), (q13, .inl (cI, 4 * 4, .inl (fun _ => 0))), (q14, .inl (cI, 4 * 4, .inl (fun _ => 0))), (q15, .inl (cI, 4 * 4, .inl (fun _ => 0))), (q16, .inl (cI, 4 * 12, .inl (fun _ => 0))), (q17, .inl (cI, 48, .inl (fun _ => 0))), (q18, .inl (cI, 4, .inl (fun _ => 0)))] H := hP
  have hD : va_D A [(h0, .inr (2, [.ref q0, .ref q2, .ref q7, .ref q12, .ref q17, .ref q18, .int 0, .int 0, .int 0])), (q0, .inr (4, [.ref q1, .int (fx_I (0))])), (q1, .inl (cI, 12, .inl (fun i => fx_I (if i < 12 then -1 else 0)))), (q2, .inr (0, [.ref q3, .ref q4, .ref q5, .ref q6, .int (fx_I (0)), .int (fx_I (0)), .int (fx_I (0))])), (q3, .inl (cI, 4 * 4, .inl (fun _ => 0))), (q4, .inl (cI, 4 * 4, .inl (fun _ => 0))), (q5, .inl (cI, 4 * 4, .inl (fun _ => 0))), (q6, .inl (cI, 4 * 12, .inl (fun _ => 0))), (q7, .inr (0, [.ref q8, .ref q9, .ref q10, .ref q11, .int (fx_I (0)), .int (fx_I (0)), .int (fx_I (0))])), (q8, .inl (cI, 4 * 4, .inl (fun _ => 0))), (q9, .inl (cI, 4 * 4, .inl (fun _ => 0))), (q10, .inl (cI, 4 * 4, .inl (fun _ => 0))), (q11, .inl (cI, 4 * 12, .inl (fun _ => 0))), (q12, .inr (0, [.ref q13, .ref q14, .ref q15, .ref q16, .int (fx_I (0)), .int (fx_I (0)), .int (fx_I (0))])), (q13, .inl (cI, 4 * 4, .inl (fun _ => 0))), (q14, .inl (cI, 4 * 4, .inl (fun _ => 0))), (q15, .inl (cI, 4 * 4, .inl (fun _ => 0))), (q16, .inl (cI, 4 * 12, .inl (fun _ => 0))), (q17, .inl (cI, 48, .inl (fun _ => 0))), (q18, .inl (cI, 4, .inl (fun _ => 0)))] := hD
  refine lv_aload_n hx hb (show decode prog_4_method_1_code 69 = .ok (.aload_n 0, 1) by decide +kernel) rfl (lv_at hl 0 rfl) ?_
  refine lv_iconst (v := fx_I (0)) hx hb (show decode prog_4_method_1_code 70 = .ok (.iconst 0, 1) by decide +kernel) rfl ?_
  refine fx_putC (o := 2) (ci := 2) (k := 6) (ty := .int) hx hb hts hown hin hK hP hD hS 0 rfl (by decide +kernel) rfl (by decide +kernel) rfl rfl (show 6 < 9 by omega) (show decode prog_4_method_1_code 71 = .ok (.putfield 40, 3) by decide +kernel) (fun H locs hP hD hS => ?_)
  have hP : va_P D fx_cl [(h0, .inr (2, [.ref q0, .ref q2, .ref q7, .ref q12, .ref q17, .ref q18, .int (fx_I (0)), .int 0, .int 0])), (q0, .inr (4, [.ref q1, .int (fx_I (0))])), (q1, .inl (cI, 12, .inl (fun i => fx_I (if i < 12 then -1 else 0)))), (q2, .inr (0, [.ref q3, .ref q4, .ref q5, .ref q6, .int (fx_I (0)), .int (fx_I (0)), .int (fx_I (0))])), (q3, .inl (cI, 4 * 4, .inl (fun _ => 0))), (q4, .inl (cI, 4 * 4, .inl (fun _ => 0))), (q5, .inl (cI, 4 * 4, .inl (fun _ => 0))), (q6, .inl (cI, 4 * 12, .inl (fun _ => 0))), (q7, .inr (0, [.ref q8, .ref q9, .ref q10, .ref q11, .int (fx_I (0)), .int (fx_I (0)), .int (fx_I (0))])), (q8, .inl (cI, 4 * 4, .inl (fun _ => 0))), (q9, .inl (cI, 4 * 4, .inl (fun _ => 0))), (q10, .inl (cI, 4 * 4, .inl (fun _ => 0))), (q11, .inl (cI, 4 * 12, .inl (fun _ => 0))), (q12, .inr (0, [.ref q13, .ref q14, .ref q15, .ref q16, .int (fx_I (0)), .int (fx_I (0)), .int (fx_I (0))])), (q13, .inl (cI, 4 * 4, .inl (fun _ => 0))), (q14, .inl (cI, 4 * 4, .inl (fun _ => 0))), (q15, .inl (cI, 4 * 4, .inl (fun _ => 0))), (q16, .inl (cI, 4 * 12, .inl (fun _ => 0))), (q17, .inl (cI, 48, .inl (fun _ => 0))), (q18, .inl (cI, 4, .inl (fun _ => 0)))] H := hP
  have hD : va_D A [(h0, .inr (2, [.ref q0, .ref q2, .ref q7, .ref q12, .ref q17, .ref q18, .int (fx_I (0)), .int 0, .int 0])), (q0, .inr (4, [.ref q1, .int (fx_I (0))])), (q1, .inl (cI, 12, .inl (fun i => fx_I (if i < 12 then -1 else 0)))), (q2, .inr (0, [.ref q3, .ref q4, .ref q5, .ref q6, .int (fx_I (0)), .int (fx_I (0)), .int (fx_I (0))])), (q3, .inl (cI, 4 * 4, .inl (fun _ => 0))), (q4, .inl (cI, 4 * 4, .inl (fun _ => 0))), (q5, .inl (cI, 4 * 4, .inl (fun _ => 0))), (q6, .inl (cI, 4 * 12, .inl (fun _ => 0))), (q7, .inr (0, [.ref q8, .ref q9, .ref q10, .ref q11, .int (fx_I (0)), .int (fx_I (0)), .int (fx_I (0))])), (q8, .inl (cI, 4 * 4, .inl (fun _ => 0))), (q9, .inl (cI, 4 * 4, .inl (fun _ => 0))), (q10, .inl (cI, 4 * 4, .inl (fun _ => 0))), (q11, .inl (cI, 4 * 12, .inl (fun _ => 0))), (q12, .inr (0, [.ref q13, .ref q14, .ref q15, .ref q16, .int (fx_I (0)), .int (fx_I (0)), .int (fx_I (0))])), (q13, .inl (cI, 4 * 4, .inl (fun _ => 0))), (q14, .inl (cI, 4 * 4, .inl (fun _ => 0))), (q15, .inl (cI, 4 * 4, .inl (fun _ => 0))), (q16, .inl (cI, 4 * 12, .inl (fun _ => 0))), (q17, .inl (cI, 48, .inl (fun _ => 0))), (q18, .inl (cI, 4, .inl (fun _ => 0)))] := hD
  refine lv_aload_n hx hb (show decode prog_4_method_1_code 74 = .ok (.aload_n 0, 1) by decide +kernel) rfl (lv_at hl 0 rfl) ?_
  refine lv_iconst (v := fx_I (0)) hx hb (show decode prog_4_method_1_code 75 = .ok (.iconst 0, 1) by decide +kernel) rfl ?_
  refine fx_putC (o := 2) (ci := 2) (k := 7) (ty := .int) hx hb hts hown hin hK hP hD hS 0 rfl (by decide +kernel) rfl (by decide +kernel) rfl rfl (show 7 < 9 by omega) (show decode prog_4_method_1_code 76 = .ok (.putfield 44, 3) by decide +kernel) (fun H locs hP hD hS => ?_)
  have hP : va_P D fx_cl [(h0, .inr (2, [.ref q0, .ref q2, .ref q7, .ref q12, .ref q17, .ref q18, .int (fx_I (0)), .int (fx_I (0)), .int 0])), (q0, .inr (4, [.ref q1, .int (fx_I (0))])), (q1, .inl (cI, 12, .inl (fun i => fx_I (if i < 12 then -1 else 0)))), (q2, .inr (0, [.ref q3, .ref q4, .ref q5, .ref q6, .int (fx_I (0)), .int (fx_I (0)), .int (fx_I (0))])), (q3, .inl (cI, 4 * 4, .inl (fun _ => 0))), (q4, .inl (cI, 4 * 4, .inl (fun _ => 0))), (q5, .inl (cI, 4 * 4, .inl (fun _ => 0))), (q6, .inl (cI, 4 * 12, .inl (fun _ => 0))), (q7, .inr (0, [.ref q8, .ref q9, .ref q10, .ref q11, .int (fx_I (0)), .int (fx_I (0)), .int (fx_I (0))])), (q8, .inl (cI, 4 * 4, .inl (fun _ => 0))), (q9, .inl (cI, 4 * 4, .inl (fun _ => 0))), (q10, .inl (cI, 4 * 4, .inl (fun _ => 0))), (q11, .inl (cI, 4 * 12, .inl (fun _ => 0))), (q12, .inr (0, [.ref q13, .ref q14, .ref q15, .ref q16, .int (fx_I (0)), .int (fx_I (0)), .int (fx_I (0))])), (q13, .inl (cI, 4 * 4, .inl (fun _ => 0))), (q14, .inl (cI, 4 * 4, .inl (fun _ => 0))), (q15, .inl (cI, 4 * 4, .inl (fun _ => 0))), (q16, .inl (cI, 4 * 12, .inl (fun _ => 0))), (q17, .inl (cI, 48, .inl (fun _ => 0))), (q18, .inl (cI, 4, .inl (fun _ => 0)))] H := hP
  have hD : va_D A [(h0, .inr (2, [.ref q0, .ref q2, .ref q7, .ref q12, .ref q17, .ref q18, .int (fx_I (0)), .int (fx_I (0)), .int 0])), (q0, .inr (4, [.ref q1, .int (fx_I (0))])), (q1, .inl (cI, 12, .inl (fun i => fx_I (if i < 12 then -1 else 0)))), (q2, .inr (0, [.ref q3, .ref q4, .ref q5, .ref q6, .int (fx_I (0)), .int (fx_I (0)), .int (fx_I (0))])), (q3, .inl (cI, 4 * 4, .inl (fun _ => 0))), (q4, .inl (cI, 4 * 4, .inl (fun _ => 0))), (q5, .inl (cI, 4 * 4, .inl (fun _ => 0))), (q6, .inl (cI, 4 * 12, .inl (fun _ => 0))), (q7, .inr (0, [.ref q8, .ref q9, .ref q10, .ref q11, .int (fx_I (0)), .int (fx_I (0)), .int (fx_I (0))])), (q8, .inl (cI, 4 * 4, .inl (fun _ => 0))), (q9, .inl (cI, 4 * 4, .inl (fun _ => 0))), (q10, .inl (cI, 4 * 4, .inl (fun _ => 0))), (q11, .inl (cI, 4 * 12, .inl (fun _ => 0))), (q12, .inr (0, [.ref q13, .ref q14, .ref q15, .ref q16, .int (fx_I (0)), .int (fx_I (0)), .int (fx_I (0))])), (q13, .inl (cI, 4 * 4, .inl (fun _ => 0))), (q14, .inl (cI, 4 * 4, .inl (fun _ => 0))), (q15, .inl (cI, 4 * 4, .inl (fun _ => 0))), (q16, .inl (cI, 4 * 12, .inl (fun _ => 0))), (q17, .inl (cI, 48, .inl (fun _ => 0))), (q18, .inl (cI, 4, .inl (fun _ => 0)))] := hD
  refine lv_aload_n hx hb (show decode prog_4_method_1_code 79 = .ok (.aload_n 0, 1) by decide +kernel) rfl (lv_at hl 0 rfl) ?_
  refine lv_iconst (v := fx_I (0)) hx hb (show decode prog_4_method_1_code 80 = .ok (.iconst 0, 1) by decide +kernel) rfl ?_
  refine fx_putC (o := 2) (ci := 2) (k := 8) (ty := .int) hx hb hts hown hin hK hP hD hS 0 rfl (by decide +kernel) rfl (by decide +kernel) rfl rfl (show 8 < 9 by omega) (show decode prog_4_method_1_code 81 = .ok (.putfield 47, 3) by decide +kernel) (fun H locs hP hD hS => ?_)
  have hP : va_P D fx_cl [(h0, .inr (2, [.ref q0, .ref q2, .ref q7, .ref q12, .ref q17, .ref q18, .int (fx_I (0)), .int (fx_I (0)), .int (fx_I (0))])), (q0, .inr (4, [.ref q1, .int (fx_I (0))])), (q1, .inl (cI, 12, .inl (fun i => fx_I (if i < 12 then -1 else 0)))), (q2, .inr (0, [.ref q3, .ref q4, .ref q5, .ref q6, .int (fx_I (0)), .int (fx_I (0)), .int (fx_I (0))])), (q3, .inl (cI, 4 * 4, .inl (fun _ => 0))), (q4, .inl (cI, 4 * 4, .inl (fun _ => 0))), (q5, .inl (cI, 4 * 4, .inl (fun _ => 0))), (q6, .inl (cI, 4 * 12, .inl (fun _ => 0))), (q7, .inr (0, [.ref q8, .ref q9, .ref q10, .ref q11, .int (fx_I (0)), .int (fx_I (0)), .int (fx_I (0))])), (q8, .inl (cI, 4 * 4, .inl (fun _ => 0))), (q9, .inl (cI, 4 * 4, .inl (fun _ => 0))), (q10, .inl (cI, 4 * 4, .inl (fun _ => 0))), (q11, .inl (cI, 4 * 12, .inl (fun _ => 0))), (q12, .inr (0, [.ref q13, .ref q14, .ref q15, .ref q16, .int (fx_I (0)), .int (fx_I (0)), .int (fx_I (0))])), (q13, .inl (cI, 4 * 4, .inl (fun _ => 0))), (q14, .inl (cI, 4 * 4, .inl (fun _ => 0))), (q15, .inl (cI, 4 * 4, .inl (fun _ => 0))), (q16, .inl (cI, 4 * 12, .inl (fun _ => 0))), (q17, .inl (cI, 48, .inl (fun _ => 0))), (q18, .inl (cI, 4, .inl (fun _ => 0)))] H := hP
  have hD : va_D A [(h0, .inr (2, [.ref q0, .ref q2, .ref q7, .ref q12, .ref q17, .ref q18, .int (fx_I (0)), .int (fx_I (0)), .int (fx_I (0))])), (q0, .inr (4, [.ref q1, .int (fx_I (0))])), (q1, .inl (cI, 12, .inl (fun i => fx_I (if i < 12 then -1 else 0)))), (q2, .inr (0, [.ref q3, .ref q4, .ref q5, .ref q6, .int (fx_I (0)), .int (fx_I (0)), .int (fx_I (0))])), (q3, .inl (cI, 4 * 4, .inl (fun _ => 0))), (q4, .inl (cI, 4 * 4, .inl (fun _ => 0))), (q5, .inl (cI, 4 * 4, .inl (fun _ => 0))), (q6, .inl (cI, 4 * 12, .inl (fun _ => 0))), (q7, .inr (0, [.ref q8, .ref q9, .ref q10, .ref q11, .int (fx_I (0)), .int (fx_I (0)), .int (fx_I (0))])), (q8, .inl (cI, 4 * 4, .inl (fun _ => 0))), (q9, .inl (cI, 4 * 4, .inl (fun _ => 0))), (q10, .inl (cI, 4 * 4, .inl (fun _ => 0))), (q11, .inl (cI, 4 * 12, .inl (fun _ => 0))), (q12, .inr (0, [.ref q13, .ref q14, .ref q15, .ref q16, .int (fx_I (0)), .int (fx_I (0)), .int (fx_I (0))])), (q13, .inl (cI, 4 * 4, .inl (fun _ => 0))), (q14, .inl (cI, 4 * 4, .inl (fun _ => 0))), (q15, .inl (cI, 4 * 4, .inl (fun _ => 0))), (q16, .inl (cI, 4 * 12, .inl (fun _ => 0))), (q17, .inl (cI, 48, .inl (fun _ => 0))), (q18, .inl (cI, 4, .inl (fun _ => 0)))] := hD
  refine W.widen (k := 19) (n := 1815) (by omega) (by omega) ?_
  exact W.vret hx hb hr (fun t ht hW => ⟨⟨_, rfl, ⟨q0, q1, q2, q3, q4, q5, q6, q7, q8, q9, q10, q11, q12, q13, q14, q15, q16, q17, q18, rfl⟩, by rw [ht]; exact hP, by rw [hAe]; exact hD⟩, by rw [hAe]; exact hS.F ht⟩) hS.2.2 (show decode prog_4_method_1_code 84 = .ok (.return_, 1) by decide +kernel)
def fx_room_X6 : Room := { frames := 10, cells := 28, slots := 2142, locals := 500 }
set_option maxHeartbeats 4000000 in
set_option maxRecDepth 100000 in
theorem c_X6_init (l : Launch) (D : va_G) (cI cZ cQ : ClassId) (ad : Nat → Nat → Nat) (A0 : Nat → Prop) (h0 sz : Nat) : Met l ⟨"FoldDye", "<init>", "()V"⟩ (Cond.code ⟨"FoldDye", "<init>", "()V"⟩ prog_1_method_1_code 1 none :: fx_tb) fx_room_X6 (fx_IPc D cI cZ cQ ad A0 h0 (.inr (6, [.null, .null, .int 0, .null, .null, .null, .null])) sz []) (fx_IQc D h0 (.inr (6, [.null, .null, .int 0, .null, .null, .null, .null])) sz (fun w1 => ∃ q0 q1 q2 q3 q4 q5 q6 q7 q8 q9 q10 q11 q12 q13 q14 q15 q16 q17 q18 q19 q20 q21 q22 q23 q24 q25 q26 q27 : Nat, w1 = [(h0, .inr (6, [.ref q0, .ref q1, .int (fx_I (0)), .ref q2, .ref q5, .ref q6, .ref q26])), (q0, .inl (cI, 3, .inl (upd (upd (upd (fun _ => 0) ((fx_I (0))).toNatClampNeg (fx_I (3))) ((fx_I (1))).toNatClampNeg (fx_I (2))) ((fx_I (2))).toNatClampNeg (fx_I (8))))), (q1, .inl (cQ, 6, .inr (.inr (.inr (.inr (fun _ => none)))))), (q2, .inr (3, [.ref q3, .ref q4, .int (fx_I (1)), .int (fx_I (1))])), (q3, .inl (cI, 144, .inl (fun _ => 0))), (q4, .inl (cI, 144, .inl (fun _ => 0))), (q5, .inr (5, [.int (fx_I (0)), .int (fx_I (0)), .int (fx_I (0))])), (q6, .inr (2, [.ref q7, .ref q9, .ref q14, .ref q19, .ref q24, .ref q25, .int (fx_I (0)), .int (fx_I (0)), .int (fx_I (0))])), (q7, .inr (4, [.ref q8, .int (fx_I (0))])), (q8, .inl (cI, 12, .inl (fun i => fx_I (if i < 12 then -1 else 0)))), (q9, .inr (0, [.ref q10, .ref q11, .ref q12, .ref q13, .int (fx_I (0)), .int (fx_I (0)), .int (fx_I (0))])), (q10, .inl (cI, 4 * 4, .inl (fun _ => 0))), (q11, .inl (cI, 4 * 4, .inl (fun _ => 0))), (q12, .inl (cI, 4 * 4, .inl (fun _ => 0))), (q13, .inl (cI, 4 * 12, .inl (fun _ => 0))), (q14, .inr (0, [.ref q15, .ref q16, .ref q17, .ref q18, .int (fx_I (0)), .int (fx_I (0)), .int (fx_I (0))])), (q15, .inl (cI, 4 * 4, .inl (fun _ => 0))), (q16, .inl (cI, 4 * 4, .inl (fun _ => 0))), (q17, .inl (cI, 4 * 4, .inl (fun _ => 0))), (q18, .inl (cI, 4 * 12, .inl (fun _ => 0))), (q19, .inr (0, [.ref q20, .ref q21, .ref q22, .ref q23, .int (fx_I (0)), .int (fx_I (0)), .int (fx_I (0))])), (q20, .inl (cI, 4 * 4, .inl (fun _ => 0))), (q21, .inl (cI, 4 * 4, .inl (fun _ => 0))), (q22, .inl (cI, 4 * 4, .inl (fun _ => 0))), (q23, .inl (cI, 4 * 12, .inl (fun _ => 0))), (q24, .inl (cI, 48, .inl (fun _ => 0))), (q25, .inl (cI, 4, .inl (fun _ => 0))), (q26, .inr (4, [.ref q27, .int (fx_I (0))])), (q27, .inl (cI, 12, .inl (fun i => fx_I (if i < 12 then -1 else 0))))])) 28 2142 (va_A [(h0, .inr (6, [.null, .null, .int 0, .null, .null, .null, .null]))] sz) := by
  refine Met.ofW (cc := prog_1_method_1_code) (maxL := 1) (ret := none) (by decide) rfl ?_
  intro p e s m args below meth c s₁ B hml hv
  obtain ⟨rfl, hsz, hP, hK, hD0, hSt, hA0h⟩ := hv
  have hx := B.exec
  have hb := B.bytes
  have hr := B.returns
  have hts : ∀ w ∈ fx_tb, w.before _ s = true := fun w hw => atoms_spec (ws := Cond.code ⟨"FoldDye", "<init>", "()V"⟩ prog_1_method_1_code 1 none :: fx_tb) B.pre w (List.mem_cons_of_mem _ hw)
  have hown : s.vm.findClass "FoldDye" = some m.cls := findClass_of_methodNamed B.named
  have hlocks := B.notSynchronized
  have hin : meth.name = "<init>" := (name_of_methodNamed B.named B.method).1
  subst hsz
  have hD := hD0.self (sz := s.heap.size)
  generalize hAe : va_A [(h0, .inr (6, [.null, .null, .int 0, .null, .null, .null, .null]))] s.heap.size = A at hD ⊢
  have hA : ∀ q : Nat, s.heap.size ≤ q → A q := fun q h => by rw [← hAe]; exact Or.inr h
  have hA0 : ∀ q : Nat, A q → A0 q := fun q h => by
    rw [← hAe] at h
    rcases h with ⟨k, e, h⟩ | h
    · cases k with
      | zero => cases h; exact hA0h
      | succ k => cases h
    · exact hSt.2.1 q h
  have hS : va_S A s.heap s.heap [] := va_S.rf
  have hl := lv_entry ([.ref h0]) (n := 1) (Nat.le_of_ble_eq_true rfl)
  rw [lg_entry_eq]
  generalize (lg_sl ([.ref h0]) ++ List.replicate (1 - (lg_sl ([.ref h0])).length) Slot.unset).toArray = ls at hl ⊢
  have hl : lv_has ls 1 [(0, .ref h0)] := hl
  have hP : va_P D fx_cl [(h0, .inr (6, [.null, .null, .int 0, .null, .null, .null, .null]))] s.heap := hP
  refine lv_aload_n hx hb (show decode prog_1_method_1_code 0 = .ok (.aload_n 0, 1) by decide +kernel) rfl (lv_at hl 0 rfl) ?_
  refine W.objInit hx hb hown (hts _ wd_66) (hts _ wd_67) (hts _ wd_68) rfl (by rw [hml]; exact hl.1) rfl (show decode prog_1_method_1_code 1 = .ok (.invokespecial 3, 3) by decide +kernel) (Nat.le_of_ble_eq_true rfl) (Nat.le_of_ble_eq_true rfl) ?_
  refine W.eq (g2 := F0 m 4 ls []) rfl ?_
  refine lv_aload_n hx hb (show decode prog_1_method_1_code 4 = .ok (.aload_n 0, 1) by decide +kernel) rfl (lv_at hl 0 rfl) ?_
  refine lv_iconst (v := fx_I (3)) hx hb (show decode prog_1_method_1_code 5 = .ok (.iconst 3, 1) by decide +kernel) rfl ?_
  refine fx_newI (n := 3) hx hb hts wd_90 hK hP hD hS hA (by omega) (show 0 + 1 ≤ 28 by omega) (show 0 + 3 ≤ 2142 by omega) (show decode prog_1_method_1_code 6 = .ok (.newarray .int, 2) by decide +kernel) (fun q0 H hP hD hS => ?_)
  have hP : va_P D fx_cl [(h0, .inr (6, [.null, .null, .int 0, .null, .null, .null, .null])), (q0, .inl (cI, 3, .inl (fun _ => 0)))] H := hP
  have hD : va_D A [(h0, .inr (6, [.null, .null, .int 0, .null, .null, .null, .null])), (q0, .inl (cI, 3, .inl (fun _ => 0)))] := hD
  refine W.widen (k := 1) (n := 3) (by omega) (by omega) ?_
  refine lv_dup hx hb (show decode prog_1_method_1_code 8 = .ok (.dup, 1) by decide +kernel) rfl ?_
  refine lv_iconst (v := fx_I (0)) hx hb (show decode prog_1_method_1_code 9 = .ok (.iconst 0, 1) by decide +kernel) rfl ?_
  refine lv_iconst (v := fx_I (3)) hx hb (show decode prog_1_method_1_code 10 = .ok (.iconst 3, 1) by decide +kernel) rfl ?_
  refine va_iast hx hb hK hP hD hS 1 0 rfl rfl (fx_vin (by decide) (by decide) (by decide)) (show decode prog_1_method_1_code 11 = .ok (.iastore, 1) by decide +kernel) (fun H locs hP hD hS => ?_)
  have hP : va_P D fx_cl [(h0, .inr (6, [.null, .null, .int 0, .null, .null, .null, .null])), (q0, .inl (cI, 3, .inl (upd (fun _ => 0) ((fx_I (0))).toNatClampNeg (fx_I (3)))))] H := hP
  have hD : va_D A [(h0, .inr (6, [.null, .null, .int 0, .null, .null, .null, .null])), (q0, .inl (cI, 3, .inl (upd (fun _ => 0) ((fx_I (0))).toNatClampNeg (fx_I (3)))))] := hD
  refine lv_dup hx hb (show decode prog_1_method_1_code 12 = .ok (.dup, 1) by decide +kernel) rfl ?_
  refine lv_iconst (v := fx_I (1)) hx hb (show decode prog_1_method_1_code 13 = .ok (.iconst 1, 1) by decide +kernel) rfl ?_
  refine lv_iconst (v := fx_I (2)) hx hb (show decode prog_1_method_1_code 14 = .ok (.iconst 2, 1) by decide +kernel) rfl ?_
  refine va_iast hx hb hK hP hD hS 1 0 rfl rfl (fx_vin (by decide) (by decide) (by decide)) (show decode prog_1_method_1_code 15 = .ok (.iastore, 1) by decide +kernel) (fun H locs hP hD hS => ?_)
  have hP : va_P D fx_cl [(h0, .inr (6, [.null, .null, .int 0, .null, .null, .null, .null])), (q0, .inl (cI, 3, .inl (upd (upd (fun _ => 0) ((fx_I (0))).toNatClampNeg (fx_I (3))) ((fx_I (1))).toNatClampNeg (fx_I (2)))))] H := hP
  have hD : va_D A [(h0, .inr (6, [.null, .null, .int 0, .null, .null, .null, .null])), (q0, .inl (cI, 3, .inl (upd (upd (fun _ => 0) ((fx_I (0))).toNatClampNeg (fx_I (3))) ((fx_I (1))).toNatClampNeg (fx_I (2)))))] := hD
  refine lv_dup hx hb (show decode prog_1_method_1_code 16 = .ok (.dup, 1) by decide +kernel) rfl ?_
  refine lv_iconst (v := fx_I (2)) hx hb (show decode prog_1_method_1_code 17 = .ok (.iconst 2, 1) by decide +kernel) rfl ?_
  refine lv_bipush (v := fx_I (8)) hx hb (show decode prog_1_method_1_code 18 = .ok (.bipush 8, 2) by decide +kernel) (by decide) ?_
  refine va_iast hx hb hK hP hD hS 1 0 rfl rfl (fx_vin (by decide) (by decide) (by decide)) (show decode prog_1_method_1_code 20 = .ok (.iastore, 1) by decide +kernel) (fun H locs hP hD hS => ?_)
  have hP : va_P D fx_cl [(h0, .inr (6, [.null, .null, .int 0, .null, .null, .null, .null])), (q0, .inl (cI, 3, .inl (upd (upd (upd (fun _ => 0) ((fx_I (0))).toNatClampNeg (fx_I (3))) ((fx_I (1))).toNatClampNeg (fx_I (2))) ((fx_I (2))).toNatClampNeg (fx_I (8)))))] H := hP
  have hD : va_D A [(h0, .inr (6, [.null, .null, .int 0, .null, .null, .null, .null])), (q0, .inl (cI, 3, .inl (upd (upd (upd (fun _ => 0) ((fx_I (0))).toNatClampNeg (fx_I (3))) ((fx_I (1))).toNatClampNeg (fx_I (2))) ((fx_I (2))).toNatClampNeg (fx_I (8)))))] := hD
  refine fx_putC (o := 6) (ci := 6) (k := 0) (ty := .array .int) hx hb hts hown hin hK hP hD hS 0 rfl (by decide +kernel) rfl (by decide +kernel) rfl rfl (show 0 < 7 by omega) (show decode prog_1_method_1_code 21 = .ok (.putfield 9, 3) by decide +kernel) (fun H locs hP hD hS => ?_)
  have hP : va_P D fx_cl [(h0, .inr (6, [.ref q0, .null, .int 0, .null, .null, .null, .null])), (q0, .inl (cI, 3, .inl (upd (upd (upd (fun _ => 0) ((fx_I (0))).toNatClampNeg (fx_I (3))) ((fx_I (1))).toNatClampNeg (fx_I (2))) ((fx_I (2))).toNatClampNeg (fx_I (8)))))] H := hP
  have hD : va_D A [(h0, .inr (6, [.ref q0, .null, .int 0, .null, .null, .null, .null])), (q0, .inl (cI, 3, .inl (upd (upd (upd (fun _ => 0) ((fx_I (0))).toNatClampNeg (fx_I (3))) ((fx_I (1))).toNatClampNeg (fx_I (2))) ((fx_I (2))).toNatClampNeg (fx_I (8)))))] := hD
  refine lv_aload_n hx hb (show decode prog_1_method_1_code 24 = .ok (.aload_n 0, 1) by decide +kernel) rfl (lv_at hl 0 rfl) ?_
  refine lv_bipush (v := fx_I (6)) hx hb (show decode prog_1_method_1_code 25 = .ok (.bipush 6, 2) by decide +kernel) (by decide) ?_
  refine fx_newQ (n := 6) hx hb hown (hts _ wd_69) (va_AO.use hSt.2.2.2) hK hP hD hS hA (by omega) (show 1 + 1 ≤ 28 by omega) (show 3 + 6 ≤ 2142 by omega) (show decode prog_1_method_1_code 27 = .ok (.anewarray 13, 3) by decide +kernel) (fun q1 H hP hD hS => ?_)
  have hP : va_P D fx_cl [(h0, .inr (6, [.ref q0, .null, .int 0, .null, .null, .null, .null])), (q0, .inl (cI, 3, .inl (upd (upd (upd (fun _ => 0) ((fx_I (0))).toNatClampNeg (fx_I (3))) ((fx_I (1))).toNatClampNeg (fx_I (2))) ((fx_I (2))).toNatClampNeg (fx_I (8))))), (q1, .inl (cQ, 6, .inr (.inr (.inr (.inr (fun _ => none))))))] H := hP
  have hD : va_D A [(h0, .inr (6, [.ref q0, .null, .int 0, .null, .null, .null, .null])), (q0, .inl (cI, 3, .inl (upd (upd (upd (fun _ => 0) ((fx_I (0))).toNatClampNeg (fx_I (3))) ((fx_I (1))).toNatClampNeg (fx_I (2))) ((fx_I (2))).toNatClampNeg (fx_I (8))))), (q1, .inl (cQ, 6, .inr (.inr (.inr (.inr (fun _ => none))))))] := hD
  refine W.widen (k := 2) (n := 9) (by omega) (by omega) ?_
  refine fx_putC (o := 6) (ci := 6) (k := 1) (ty := .array (.object "FoldDye$Cloth")) hx hb hts hown hin hK hP hD hS 0 rfl (by decide +kernel) rfl (by decide +kernel) rfl rfl (show 1 < 7 by omega) (show decode prog_1_method_1_code 30 = .ok (.putfield 15, 3) by decide +kernel) (fun H locs hP hD hS => ?_)
  have hP : va_P D fx_cl [(h0, .inr (6, [.ref q0, .ref q1, .int 0, .null, .null, .null, .null])), (q0, .inl (cI, 3, .inl (upd (upd (upd (fun _ => 0) ((fx_I (0))).toNatClampNeg (fx_I (3))) ((fx_I (1))).toNatClampNeg (fx_I (2))) ((fx_I (2))).toNatClampNeg (fx_I (8))))), (q1, .inl (cQ, 6, .inr (.inr (.inr (.inr (fun _ => none))))))] H := hP
  have hD : va_D A [(h0, .inr (6, [.ref q0, .ref q1, .int 0, .null, .null, .null, .null])), (q0, .inl (cI, 3, .inl (upd (upd (upd (fun _ => 0) ((fx_I (0))).toNatClampNeg (fx_I (3))) ((fx_I (1))).toNatClampNeg (fx_I (2))) ((fx_I (2))).toNatClampNeg (fx_I (8))))), (q1, .inl (cQ, 6, .inr (.inr (.inr (.inr (fun _ => none))))))] := hD
  refine lv_aload_n hx hb (show decode prog_1_method_1_code 33 = .ok (.aload_n 0, 1) by decide +kernel) rfl (lv_at hl 0 rfl) ?_
  refine lv_iconst (v := fx_I (0)) hx hb (show decode prog_1_method_1_code 34 = .ok (.iconst 0, 1) by decide +kernel) rfl ?_
  refine fx_putC (o := 6) (ci := 6) (k := 2) (ty := .int) hx hb hts hown hin hK hP hD hS 0 rfl (by decide +kernel) rfl (by decide +kernel) rfl rfl (show 2 < 7 by omega) (show decode prog_1_method_1_code 35 = .ok (.putfield 19, 3) by decide +kernel) (fun H locs hP hD hS => ?_)
  have hP : va_P D fx_cl [(h0, .inr (6, [.ref q0, .ref q1, .int (fx_I (0)), .null, .null, .null, .null])), (q0, .inl (cI, 3, .inl (upd (upd (upd (fun _ => 0) ((fx_I (0))).toNatClampNeg (fx_I (3))) ((fx_I (1))).toNatClampNeg (fx_I (2))) ((fx_I (2))).toNatClampNeg (fx_I (8))))), (q1, .inl (cQ, 6, .inr (.inr (.inr (.inr (fun _ => none))))))] H := hP
  have hD : va_D A [(h0, .inr (6, [.ref q0, .ref q1, .int (fx_I (0)), .null, .null, .null, .null])), (q0, .inl (cI, 3, .inl (upd (upd (upd (fun _ => 0) ((fx_I (0))).toNatClampNeg (fx_I (3))) ((fx_I (1))).toNatClampNeg (fx_I (2))) ((fx_I (2))).toNatClampNeg (fx_I (8))))), (q1, .inl (cQ, 6, .inr (.inr (.inr (.inr (fun _ => none))))))] := hD
  refine lv_aload_n hx hb (show decode prog_1_method_1_code 38 = .ok (.aload_n 0, 1) by decide +kernel) rfl (lv_at hl 0 rfl) ?_
  refine va_new (ci := 3) (fs := [.null, .null, .int 0, .int 0]) (C := RX3) (T := TX3) (N := 4) hx hb hts inX3 tyX3 tyX3_ok hown (hts _ wd_71) (hts _ wd_72) (hts _ wd_50) hK hP hD hS hA rfl (fun j hj => by rcases (show j = 0 ∨ j = 1 ∨ j = 2 ∨ j = 3 by omega) with rfl | rfl | rfl | rfl <;> rfl) (show 2 + 1 ≤ 28 by omega) (show 9 + 4 ≤ 2142 by omega) (show decode prog_1_method_1_code 39 = .ok (.new 23, 3) by decide +kernel) (fun q2 H hP hD hS => ?_)
  have hP : va_P D fx_cl [(h0, .inr (6, [.ref q0, .ref q1, .int (fx_I (0)), .null, .null, .null, .null])), (q0, .inl (cI, 3, .inl (upd (upd (upd (fun _ => 0) ((fx_I (0))).toNatClampNeg (fx_I (3))) ((fx_I (1))).toNatClampNeg (fx_I (2))) ((fx_I (2))).toNatClampNeg (fx_I (8))))), (q1, .inl (cQ, 6, .inr (.inr (.inr (.inr (fun _ => none)))))), (q2, .inr (3, [.null, .null, .int 0, .int 0]))] H := hP
  have hD : va_D A [(h0, .inr (6, [.ref q0, .ref q1, .int (fx_I (0)), .null, .null, .null, .null])), (q0, .inl (cI, 3, .inl (upd (upd (upd (fun _ => 0) ((fx_I (0))).toNatClampNeg (fx_I (3))) ((fx_I (1))).toNatClampNeg (fx_I (2))) ((fx_I (2))).toNatClampNeg (fx_I (8))))), (q1, .inl (cQ, 6, .inr (.inr (.inr (.inr (fun _ => none)))))), (q2, .inr (3, [.null, .null, .int 0, .int 0]))] := hD
  refine W.widen (k := 3) (n := 13) (by omega) (by omega) ?_
  refine lv_dup hx hb (show decode prog_1_method_1_code 42 = .ok (.dup, 1) by decide +kernel) rfl ?_
  refine fx_mkN (pre := [(h0, .inr (6, [.ref q0, .ref q1, .int (fx_I (0)), .null, .null, .null, .null])), (q0, .inl (cI, 3, .inl (upd (upd (upd (fun _ => 0) ((fx_I (0))).toNatClampNeg (fx_I (3))) ((fx_I (1))).toNatClampNeg (fx_I (2))) ((fx_I (2))).toNatClampNeg (fx_I (8))))), (q1, .inl (cQ, 6, .inr (.inr (.inr (.inr (fun _ => none))))))]) (As := []) (rest := [.ref q2, .ref h0]) (own := "FoldDye") (idx := 25) (host := "FoldDye") ⟨hx, hb, hml, hown, hts⟩ hK hP hD hS hA hSt hA0 (c_X3_init l D cI cZ cQ ad A0 q2 H.size) wd_75 wd_50 (hSt.2.2.1 (25, ⟨"FoldDye$Seep", "<init>", "()V"⟩) (by simp [fx_mN])) wd_74 rfl (by decide +kernel) ⟨Nat.le_of_ble_eq_true rfl, Nat.le_of_ble_eq_true rfl⟩ rfl rfl rfl hl.1 (Nat.le_of_ble_eq_true rfl) (show decode prog_1_method_1_code 43 = .ok (.invokespecial 25, 3) by decide +kernel) ⟨show 3 + 2 ≤ 28 by omega, show 13 + 288 ≤ 2142 by omega⟩ (fun w1 H locs hw hP hD hS => ?_)
  obtain ⟨q3, q4, rfl⟩ := hw
  have hP : va_P D fx_cl [(h0, .inr (6, [.ref q0, .ref q1, .int (fx_I (0)), .null, .null, .null, .null])), (q0, .inl (cI, 3, .inl (upd (upd (upd (fun _ => 0) ((fx_I (0))).toNatClampNeg (fx_I (3))) ((fx_I (1))).toNatClampNeg (fx_I (2))) ((fx_I (2))).toNatClampNeg (fx_I (8))))), (q1, .inl (cQ, 6, .inr (.inr (.inr (.inr (fun _ => none)))))), (q2, .inr (3, [.ref q3, .ref q4, .int (fx_I (1)), .int (fx_I (1))])), (q3, .inl (cI, 144, .inl (fun _ => 0))), (q4, .inl (cI, 144, .inl (fun _ => 0)))] H := hP
  have hD : va_D A [(h0, .inr (6, [.ref q0, .ref q1, .int (fx_I (0)), .null, .null, .null, .null])), (q0, .inl (cI, 3, .inl (upd (upd (upd (fun _ => 0) ((fx_I (0))).toNatClampNeg (fx_I (3))) ((fx_I (1))).toNatClampNeg (fx_I (2))) ((fx_I (2))).toNatClampNeg (fx_I (8))))), (q1, .inl (cQ, 6, .inr (.inr (.inr (.inr (fun _ => none)))))), (q2, .inr (3, [.ref q3, .ref q4, .int (fx_I (1)), .int (fx_I (1))])), (q3, .inl (cI, 144, .inl (fun _ => 0))), (q4, .inl (cI, 144, .inl (fun _ => 0)))] := hD
  refine W.widen (k := 5) (n := 301) (by omega) (by omega) ?_
  refine fx_putC (o := 6) (ci := 6) (k := 3) (ty := .object "FoldDye$Seep") hx hb hts hown hin hK hP hD hS 0 rfl (by decide +kernel) rfl (by decide +kernel) rfl rfl (show 3 < 7 by omega) (show decode prog_1_method_1_code 46 = .ok (.putfield 26, 3) by decide +kernel) (fun H locs hP hD hS => ?_)
  have hP : va_P D fx_cl [(h0, .inr (6, [.ref q0, .ref q1, .int (fx_I (0)), .ref q2, .null, .null, .null])), (q0, .inl (cI, 3, .inl (upd (upd (upd (fun _ => 0) ((fx_I (0))).toNatClampNeg (fx_I (3))) ((fx_I (1))).toNatClampNeg (fx_I (2))) ((fx_I (2))).toNatClampNeg (fx_I (8))))), (q1, .inl (cQ, 6, .inr (.inr (.inr (.inr (fun _ => none)))))), (q2, .inr (3, [.ref q3, .ref q4, .int (fx_I (1)), .int (fx_I (1))])), (q3, .inl (cI, 144, .inl (fun _ => 0))), (q4, .inl (cI, 144, .inl (fun _ => 0)))] H := hP
  have hD : va_D A [(h0, .inr (6, [.ref q0, .ref q1, .int (fx_I (0)), .ref q2, .null, .null, .null])), (q0, .inl (cI, 3, .inl (upd (upd (upd (fun _ => 0) ((fx_I (0))).toNatClampNeg (fx_I (3))) ((fx_I (1))).toNatClampNeg (fx_I (2))) ((fx_I (2))).toNatClampNeg (fx_I (8))))), (q1, .inl (cQ, 6, .inr (.inr (.inr (.inr (fun _ => none)))))), (q2, .inr (3, [.ref q3, .ref q4, .int (fx_I (1)), .int (fx_I (1))])), (q3, .inl (cI, 144, .inl (fun _ => 0))), (q4, .inl (cI, 144, .inl (fun _ => 0)))] := hD
  refine lv_aload_n hx hb (show decode prog_1_method_1_code 49 = .ok (.aload_n 0, 1) by decide +kernel) rfl (lv_at hl 0 rfl) ?_
  refine va_new (ci := 5) (fs := [.int 0, .int 0, .int 0]) (C := RX5) (T := TX5) (N := 3) hx hb hts inX5 tyX5 tyX5_ok hown (hts _ wd_91) (hts _ wd_92) (hts _ wd_51) hK hP hD hS hA rfl (fun j hj => by rcases (show j = 0 ∨ j = 1 ∨ j = 2 by omega) with rfl | rfl | rfl <;> rfl) (show 5 + 1 ≤ 28 by omega) (show 301 + 3 ≤ 2142 by omega) (show decode prog_1_method_1_code 50 = .ok (.new 30, 3) by decide +kernel) (fun q5 H hP hD hS => ?_)
  have hP : va_P D fx_cl [(h0, .inr (6, [.ref q0, .ref q1, .int (fx_I (0)), .ref q2, .null, .null, .null])), (q0, .inl (cI, 3, .inl (upd (upd (upd (fun _ => 0) ((fx_I (0))).toNatClampNeg (fx_I (3))) ((fx_I (1))).toNatClampNeg (fx_I (2))) ((fx_I (2))).toNatClampNeg (fx_I (8))))), (q1, .inl (cQ, 6, .inr (.inr (.inr (.inr (fun _ => none)))))), (q2, .inr (3, [.ref q3, .ref q4, .int (fx_I (1)), .int (fx_I (1))])), (q3, .inl (cI, 144, .inl (fun _ => 0))), (q4, .inl (cI, 144, .inl (fun _ => 0))), (q5, .inr (5, [.int 0, .int 0, .int 0]))] H := hP
  have hD : va_D A [(h0, .inr (6, [.ref q0, .ref q1, .int (fx_I (0)), .ref q2, .null, .null, .null])), (q0, .inl (cI, 3, .inl (upd (upd (upd (fun _ => 0) ((fx_I (0))).toNatClampNeg (fx_I (3))) ((fx_I (1))).toNatClampNeg (fx_I (2))) ((fx_I (2))).toNatClampNeg (fx_I (8))))), (q1, .inl (cQ, 6, .inr (.inr (.inr (.inr (fun _ => none)))))), (q2, .inr (3, [.ref q3, .ref q4, .int (fx_I (1)), .int (fx_I (1))])), (q3, .inl (cI, 144, .inl (fun _ => 0))), (q4, .inl (cI, 144, .inl (fun _ => 0))), (q5, .inr (5, [.int 0, .int 0, .int 0]))] := hD
  refine W.widen (k := 6) (n := 304) (by omega) (by omega) ?_
  refine lv_dup hx hb (show decode prog_1_method_1_code 53 = .ok (.dup, 1) by decide +kernel) rfl ?_
  refine fx_mkN (pre := [(h0, .inr (6, [.ref q0, .ref q1, .int (fx_I (0)), .ref q2, .null, .null, .null])), (q0, .inl (cI, 3, .inl (upd (upd (upd (fun _ => 0) ((fx_I (0))).toNatClampNeg (fx_I (3))) ((fx_I (1))).toNatClampNeg (fx_I (2))) ((fx_I (2))).toNatClampNeg (fx_I (8))))), (q1, .inl (cQ, 6, .inr (.inr (.inr (.inr (fun _ => none)))))), (q2, .inr (3, [.ref q3, .ref q4, .int (fx_I (1)), .int (fx_I (1))])), (q3, .inl (cI, 144, .inl (fun _ => 0))), (q4, .inl (cI, 144, .inl (fun _ => 0)))]) (As := []) (rest := [.ref q5, .ref h0]) (own := "FoldDye") (idx := 32) (host := "FoldDye") ⟨hx, hb, hml, hown, hts⟩ hK hP hD hS hA hSt hA0 (c_X5_init l D cI cZ cQ ad A0 q5 H.size) wd_95 wd_51 (hSt.2.2.1 (32, ⟨"FoldDye$Wish", "<init>", "()V"⟩) (by simp [fx_mN])) wd_94 rfl (by decide +kernel) ⟨Nat.le_of_ble_eq_true rfl, Nat.le_of_ble_eq_true rfl⟩ rfl rfl rfl hl.1 (Nat.le_of_ble_eq_true rfl) (show decode prog_1_method_1_code 54 = .ok (.invokespecial 32, 3) by decide +kernel) ⟨show 6 + 0 ≤ 28 by omega, show 304 + 0 ≤ 2142 by omega⟩ (fun w1 H locs hw hP hD hS => ?_)
  subst hw
  have hP : va_P D fx_cl [(h0, .inr (6, [.ref q0, .ref q1, .int (fx_I (0)), .ref q2, .null, .null, .null])), (q0, .inl (cI, 3, .inl (upd (upd (upd (fun _ => 0) ((fx_I (0))).toNatClampNeg (fx_I (3))) ((fx_I (1))).toNatClampNeg (fx_I (2))) ((fx_I (2))).toNatClampNeg (fx_I (8))))), (q1, .inl (cQ, 6, .inr (.inr (.inr (.inr (fun _ => none)))))), (q2, .inr (3, [.ref q3, .ref q4, .int (fx_I (1)), .int (fx_I (1))])), (q3, .inl (cI, 144, .inl (fun _ => 0))), (q4, .inl (cI, 144, .inl (fun _ => 0))), (q5, .inr (5, [.int (fx_I (0)), .int (fx_I (0)), .int (fx_I (0))]))] H := hP
  have hD : va_D A [(h0, .inr (6, [.ref q0, .ref q1, .int (fx_I (0)), .ref q2, .null, .null, .null])), (q0, .inl (cI, 3, .inl (upd (upd (upd (fun _ => 0) ((fx_I (0))).toNatClampNeg (fx_I (3))) ((fx_I (1))).toNatClampNeg (fx_I (2))) ((fx_I (2))).toNatClampNeg (fx_I (8))))), (q1, .inl (cQ, 6, .inr (.inr (.inr (.inr (fun _ => none)))))), (q2, .inr (3, [.ref q3, .ref q4, .int (fx_I (1)), .int (fx_I (1))])), (q3, .inl (cI, 144, .inl (fun _ => 0))), (q4, .inl (cI, 144, .inl (fun _ => 0))), (q5, .inr (5, [.int (fx_I (0)), .int (fx_I (0)), .int (fx_I (0))]))] := hD
  refine W.widen (k := 6) (n := 304) (by omega) (by omega) ?_
  refine fx_putC (o := 6) (ci := 6) (k := 4) (ty := .object "FoldDye$Wish") hx hb hts hown hin hK hP hD hS 0 rfl (by decide +kernel) rfl (by decide +kernel) rfl rfl (show 4 < 7 by omega) (show decode prog_1_method_1_code 57 = .ok (.putfield 33, 3) by decide +kernel) (fun H locs hP hD hS => ?_)
  have hP : va_P D fx_cl [(h0, .inr (6, [.ref q0, .ref q1, .int (fx_I (0)), .ref q2, .ref q5, .null, .null])), (q0, .inl (cI, 3, .inl (upd (upd (upd (fun _ => 0) ((fx_I (0))).toNatClampNeg (fx_I (3))) ((fx_I (1))).toNatClampNeg (fx_I (2))) ((fx_I (2))).toNatClampNeg (fx_I (8))))), (q1, .inl (cQ, 6, .inr (.inr (.inr (.inr (fun _ => none)))))), (q2, .inr (3, [.ref q3, .ref q4, .int (fx_I (1)), .int (fx_I (1))])), (q3, .inl (cI, 144, .inl (fun _ => 0))), (q4, .inl (cI, 144, .inl (fun _ => 0))), (q5, .inr (5, [.int (fx_I (0)), .int (fx_I (0)), .int (fx_I (0))]))] H := hP
  have hD : va_D A [(h0, .inr (6, [.ref q0, .ref q1, .int (fx_I (0)), .ref q2, .ref q5, .null, .null])), (q0, .inl (cI, 3, .inl (upd (upd (upd (fun _ => 0) ((fx_I (0))).toNatClampNeg (fx_I (3))) ((fx_I (1))).toNatClampNeg (fx_I (2))) ((fx_I (2))).toNatClampNeg (fx_I (8))))), (q1, .inl (cQ, 6, .inr (.inr (.inr (.inr (fun _ => none)))))), (q2, .inr (3, [.ref q3, .ref q4, .int (fx_I (1)), .int (fx_I (1))])), (q3, .inl (cI, 144, .inl (fun _ => 0))), (q4, .inl (cI, 144, .inl (fun _ => 0))), (q5, .inr (5, [.int (fx_I (0)), .int (fx_I (0)), .int (fx_I (0))]))] := hD
  refine lv_aload_n hx hb (show decode prog_1_method_1_code 60 = .ok (.aload_n 0, 1) by decide +kernel) rfl (lv_at hl 0 rfl) ?_
  refine va_new (ci := 2) (fs := [.null, .null, .null, .null, .null, .null, .int 0, .int 0, .int 0]) (C := RX2) (T := TX2) (N := 9) hx hb hts inX2 tyX2 tyX2_ok hown (hts _ wd_113) (hts _ wd_114) (hts _ wd_52) hK hP hD hS hA rfl (fun j hj => by rcases (show j = 0 ∨ j = 1 ∨ j = 2 ∨ j = 3 ∨ j = 4 ∨ j = 5 ∨ j = 6 ∨ j = 7 ∨ j = 8 by omega) with rfl | rfl | rfl | rfl | rfl | rfl | rfl | rfl | rfl <;> rfl) (show 6 + 1 ≤ 28 by omega) (show 304 + 9 ≤ 2142 by omega) (show decode prog_1_method_1_code 61 = .ok (.new 37, 3) by decide +kernel) (fun q6 H hP hD hS => ?_)
  have hP : va_P D fx_cl [(h0, .inr (6, [.ref q0, .ref q1, .int (fx_I (0)), .ref q2, .ref q5, .null, .null])), (q0, .inl (cI, 3, .inl (upd (upd (upd (fun _ => 0) ((fx_I (0))).toNatClampNeg (fx_I (3))) ((fx_I (1))).toNatClampNeg (fx_I (2))) ((fx_I (2))).toNatClampNeg (fx_I (8))))), (q1, .inl (cQ, 6, .inr (.inr (.inr (.inr (fun _ => none)))))), (q2, .inr (3, [.ref q3, .ref q4, .int (fx_I (1)), .int (fx_I (1))])), (q3, .inl (cI, 144, .inl (fun _ => 0))), (q4, .inl (cI, 144, .inl (fun _ => 0))), (q5, .inr (5, [.int (fx_I (0)), .int (fx_I (0)), .int (fx_I (0))])), (q6, .inr (2, [.null, .null, .null, .null, .null, .null, .int 0, .int 0, .int 0]))] H := hP
  have hD : va_D A [(h0, .inr (6, [.ref q0, .ref q1, .int (fx_I (0)), .ref q2, .ref q5, .null, .null])), (q0, .inl (cI, 3, .inl (upd (upd (upd (fun _ => 0) ((fx_I (0))).toNatClampNeg (fx_I (3))) ((fx_I (1))).toNatClampNeg (fx_I (2))) ((fx_I (2))).toNatClampNeg (fx_I (8))))), (q1, .inl (cQ, 6, .inr (.inr (.inr (.inr (fun _ => none)))))), (q2, .inr (3, [.ref q3, .ref q4, .int (fx_I (1)), .int (fx_I (1))])), (q3, .inl (cI, 144, .inl (fun _ => 0))), (q4, .inl (cI, 144, .inl (fun _ => 0))), (q5, .inr (5, [.int (fx_I (0)), .int (fx_I (0)), .int (fx_I (0))])), (q6, .inr (2, [.null, .null, .null, .null, .null, .null, .int 0, .int 0, .int 0]))] := hD
  refine W.widen (k := 7) (n := 313) (by omega) (by omega) ?_
  refine lv_dup hx hb (show decode prog_1_method_1_code 64 = .ok (.dup, 1) by decide +kernel) rfl ?_
  refine fx_mkN (pre := [(h0, .inr (6, [.ref q0, .ref q1, .int (fx_I (0)), .ref q2, .ref q5, .null, .null])), (q0, .inl (cI, 3, .inl (upd (upd (upd (fun _ => 0) ((fx_I (0))).toNatClampNeg (fx_I (3))) ((fx_I (1))).toNatClampNeg (fx_I (2))) ((fx_I (2))).toNatClampNeg (fx_I (8))))), (q1, .inl (cQ, 6, .inr (.inr (.inr (.inr (fun _ => none)))))), (q2, .inr (3, [.ref q3, .ref q4, .int (fx_I (1)), .int (fx_I (1))])), (q3, .inl (cI, 144, .inl (fun _ => 0))), (q4, .inl (cI, 144, .inl (fun _ => 0))), (q5, .inr (5, [.int (fx_I (0)), .int (fx_I (0)), .int (fx_I (0))]))]) (As := []) (rest := [.ref q6, .ref h0]) (own := "FoldDye") (idx := 39) (host := "FoldDye") ⟨hx, hb, hml, hown, hts⟩ hK hP hD hS hA hSt hA0 (c_X2_init l D cI cZ cQ ad A0 q6 H.size) wd_117 wd_52 (hSt.2.2.1 (39, ⟨"FoldDye$Search", "<init>", "()V"⟩) (by simp [fx_mN])) wd_116 rfl (by decide +kernel) ⟨Nat.le_of_ble_eq_true rfl, Nat.le_of_ble_eq_true rfl⟩ rfl rfl rfl hl.1 (Nat.le_of_ble_eq_true rfl) (show decode prog_1_method_1_code 65 = .ok (.invokespecial 39, 3) by decide +kernel) ⟨show 7 + 19 ≤ 28 by omega, show 313 + 1815 ≤ 2142 by omega⟩ (fun w1 H locs hw hP hD hS => ?_)
  obtain ⟨q7, q8, q9, q10, q11, q12, q13, q14, q15, q16, q17, q18, q19, q20, q21, q22, q23, q24, q25, rfl⟩ := hw
  have hP : va_P D fx_cl [(h0, .inr (6, [.ref q0, .ref q1, .int (fx_I (0)), .ref q2, .ref q5, .null, .null])), (q0, .inl (cI, 3, .inl (upd (upd (upd (fun _ => 0) ((fx_I (0))).toNatClampNeg (fx_I (3))) ((fx_I (1))).toNatClampNeg (fx_I (2))) ((fx_I (2))).toNatClampNeg (fx_I (8))))), (q1, .inl (cQ, 6, .inr (.inr (.inr (.inr (fun _ => none)))))), (q2, .inr (3, [.ref q3, .ref q4, .int (fx_I (1)), .int (fx_I (1))])), (q3, .inl (cI, 144, .inl (fun _ => 0))), (q4, .inl (cI, 144, .inl (fun _ => 0))), (q5, .inr (5, [.int (fx_I (0)), .int (fx_I (0)), .int (fx_I (0))])), (q6, .inr (2, [.ref q7, .ref q9, .ref q14, .ref q19, .ref q24, .ref q25, .int (fx_I (0)), .int (fx_I (0)), .int (fx_I (0))])), (q7, .inr (4, [.ref q8, .int (fx_I (0))])), (q8, .inl (cI, 12, .inl (fun i => fx_I (if i < 12 then -1 else 0)))), (q9, .inr (0, [.ref q10, .ref q11, .ref q12, .ref q13, .int (fx_I (0)), .int (fx_I (0)), .int (fx_I (0))])), (q10, .inl (cI, 4 * 4, .inl (fun _ => 0))), (q11, .inl (cI, 4 * 4, .inl (fun _ => 0))), (q12, .inl (cI, 4 * 4, .inl (fun _ => 0))), (q13, .inl (cI, 4 * 12, .inl (fun _ => 0))), (q14, .inr (0, [.ref q15, .ref q16, .ref q17, .ref q18, .int (fx_I (0)), .int (fx_I (0)), .int (fx_I (0))])), (q15, .inl (cI, 4 * 4, .inl (fun _ => 0))), (q16, .inl (cI, 4 * 4, .inl (fun _ => 0))), (q17, .inl (cI, 4 * 4, .inl (fun _ => 0))), (q18, .inl (cI, 4 * 12, .inl (fun _ => 0))), (q19, .inr (0, [.ref q20, .ref q21, .ref q22, .ref q23, .int (fx_I (0)), .int (fx_I (0)), .int (fx_I (0))])), (q20, .inl (cI, 4 * 4, .inl (fun _ => 0))), (q21, .inl (cI, 4 * 4, .inl (fun _ => 0))), (q22, .inl (cI, 4 * 4, .inl (fun _ => 0))), (q23, .inl (cI, 4 * 12, .inl (fun _ => 0))), (q24, .inl (cI, 48, .inl (fun _ => 0))), (q25, .inl (cI, 4, .inl (fun _ => 0)))] H := hP
  have hD : va_D A [(h0, .inr (6, [.ref q0, .ref q1, .int (fx_I (0)), .ref q2, .ref q5, .null, .null])), (q0, .inl (cI, 3, .inl (upd (upd (upd (fun _ => 0) ((fx_I (0))).toNatClampNeg (fx_I (3))) ((fx_I (1))).toNatClampNeg (fx_I (2))) ((fx_I (2))).toNatClampNeg (fx_I (8))))), (q1, .inl (cQ, 6, .inr (.inr (.inr (.inr (fun _ => none)))))), (q2, .inr (3, [.ref q3, .ref q4, .int (fx_I (1)), .int (fx_I (1))])), (q3, .inl (cI, 144, .inl (fun _ => 0))), (q4, .inl (cI, 144, .inl (fun _ => 0))), (q5, .inr (5, [.int (fx_I (0)), .int (fx_I (0)), .int (fx_I (0))])), (q6, .inr (2, [.ref q7, .ref q9, .ref q14, .ref q19, .ref q24, .ref q25, .int (fx_I (0)), .int (fx_I (0)), .int (fx_I (0))])), (q7, .inr (4, [.ref q8, .int (fx_I (0))])), (q8, .inl (cI, 12, .inl (fun i => fx_I (if i < 12 then -1 else 0)))), (q9, .inr (0, [.ref q10, .ref q11, .ref q12, .ref q13, .int (fx_I (0)), .int (fx_I (0)), .int (fx_I (0))])), (q10, .inl (cI, 4 * 4, .inl (fun _ => 0))), (q11, .inl (cI, 4 * 4, .inl (fun _ => 0))), (q12, .inl (cI, 4 * 4, .inl (fun _ => 0))), (q13, .inl (cI, 4 * 12, .inl (fun _ => 0))), (q14, .inr (0, [.ref q15, .ref q16, .ref q17, .ref q18, .int (fx_I (0)), .int (fx_I (0)), .int (fx_I (0))])), (q15, .inl (cI, 4 * 4, .inl (fun _ => 0))), (q16, .inl (cI, 4 * 4, .inl (fun _ => 0))), (q17, .inl (cI, 4 * 4, .inl (fun _ => 0))), (q18, .inl (cI, 4 * 12, .inl (fun _ => 0))), (q19, .inr (0, [.ref q20, .ref q21, .ref q22, .ref q23, .int (fx_I (0)), .int (fx_I (0)), .int (fx_I (0))])), (q20, .inl (cI, 4 * 4, .inl (fun _ => 0))), (q21, .inl (cI, 4 * 4, .inl (fun _ => 0))), (q22, .inl (cI, 4 * 4, .inl (fun _ => 0))), (q23, .inl (cI, 4 * 12, .inl (fun _ => 0))), (q24, .inl (cI, 48, .inl (fun _ => 0))), (q25, .inl (cI, 4, .inl (fun _ => 0)))] := hD
  refine W.widen (k := 26) (n := 2128) (by omega) (by omega) ?_
  refine fx_putC (o := 6) (ci := 6) (k := 5) (ty := .object "FoldDye$Search") hx hb hts hown hin hK hP hD hS 0 rfl (by decide +kernel) rfl (by decide +kernel) rfl rfl (show 5 < 7 by omega) (show decode prog_1_method_1_code 68 = .ok (.putfield 40, 3) by decide +kernel) (fun H locs hP hD hS => ?_)
  have hP : va_P D fx_cl [(h0, .inr (6, [.ref q0, .ref q1, .int (fx_I (0)), .ref q2, .ref q5, .ref q6, .null])), (q0, .inl (cI, 3, .inl (upd (upd (upd (fun _ => 0) ((fx_I (0))).toNatClampNeg (fx_I (3))) ((fx_I (1))).toNatClampNeg (fx_I (2))) ((fx_I (2))).toNatClampNeg (fx_I (8))))), (q1, .inl (cQ, 6, .inr (.inr (.inr (.inr (fun _ => none)))))), (q2, .inr (3, [.ref q3, .ref q4, .int (fx_I (1)), .int (fx_I (1))])), (q3, .inl (cI, 144, .inl (fun _ => 0))), (q4, .inl (cI, 144, .inl (fun _ => 0))), (q5, .inr (5, [.int (fx_I (0)), .int (fx_I (0)), .int (fx_I (0))])), (q6, .inr (2, [.ref q7, .ref q9, .ref q14, .ref q19, .ref q24, .ref q25, .int (fx_I (0)), .int (fx_I (0)), .int (fx_I (0))])), (q7, .inr (4, [.ref q8, .int (fx_I (0))])), (q8, .inl (cI, 12, .inl (fun i => fx_I (if i < 12 then -1 else 0)))), (q9, .inr (0, [.ref q10, .ref q11, .ref q12, .ref q13, .int (fx_I (0)), .int (fx_I (0)), .int (fx_I (0))])), (q10, .inl (cI, 4 * 4, .inl (fun _ => 0))), (q11, .inl (cI, 4 * 4, .inl (fun _ => 0))), (q12, .inl (cI, 4 * 4, .inl (fun _ => 0))), (q13, .inl (cI, 4 * 12, .inl (fun _ => 0))), (q14, .inr (0, [.ref q15, .ref q16, .ref q17, .ref q18, .int (fx_I (0)), .int (fx_I (0)), .int (fx_I (0))])), (q15, .inl (cI, 4 * 4, .inl (fun _ => 0))), (q16, .inl (cI, 4 * 4, .inl (fun _ => 0))), (q17, .inl (cI, 4 * 4, .inl (fun _ => 0))), (q18, .inl (cI, 4 * 12, .inl (fun _ => 0))), (q19, .inr (0, [.ref q20, .ref q21, .ref q22, .ref q23, .int (fx_I (0)), .int (fx_I (0)), .int (fx_I (0))])), (q20, .inl (cI, 4 * 4, .inl (fun _ => 0))), (q21, .inl (cI, 4 * 4, .inl (fun _ => 0))), (q22, .inl (cI, 4 * 4, .inl (fun _ => 0))), (q23, .inl (cI, 4 * 12, .inl (fun _ => 0))), (q24, .inl (cI, 48, .inl (fun _ => 0))), (q25, .inl (cI, 4, .inl (fun _ => 0)))] H := hP
  have hD : va_D A [(h0, .inr (6, [.ref q0, .ref q1, .int (fx_I (0)), .ref q2, .ref q5, .ref q6, .null])), (q0, .inl (cI, 3, .inl (upd (upd (upd (fun _ => 0) ((fx_I (0))).toNatClampNeg (fx_I (3))) ((fx_I (1))).toNatClampNeg (fx_I (2))) ((fx_I (2))).toNatClampNeg (fx_I (8))))), (q1, .inl (cQ, 6, .inr (.inr (.inr (.inr (fun _ => none)))))), (q2, .inr (3, [.ref q3, .ref q4, .int (fx_I (1)), .int (fx_I (1))])), (q3, .inl (cI, 144, .inl (fun _ => 0))), (q4, .inl (cI, 144, .inl (fun _ => 0))), (q5, .inr (5, [.int (fx_I (0)), .int (fx_I (0)), .int (fx_I (0))])), (q6, .inr (2, [.ref q7, .ref q9, .ref q14, .ref q19, .ref q24, .ref q25, .int (fx_I (0)), .int (fx_I (0)), .int (fx_I (0))])), (q7, .inr (4, [.ref q8, .int (fx_I (0))])), (q8, .inl (cI, 12, .inl (fun i => fx_I (if i < 12 then -1 else 0)))), (q9, .inr (0, [.ref q10, .ref q11, .ref q12, .ref q13, .int (fx_I (0)), .int (fx_I (0)), .int (fx_I (0))])), (q10, .inl (cI, 4 * 4, .inl (fun _ => 0))), (q11, .inl (cI, 4 * 4, .inl (fun _ => 0))), (q12, .inl (cI, 4 * 4, .inl (fun _ => 0))), (q13, .inl (cI, 4 * 12, .inl (fun _ => 0))), (q14, .inr (0, [.ref q15, .ref q16, .ref q17, .ref q18, .int (fx_I (0)), .int (fx_I (0)), .int (fx_I (0))])), (q15, .inl (cI, 4 * 4, .inl (fun _ => 0))), (q16, .inl (cI, 4 * 4, .inl (fun _ => 0))), (q17, .inl (cI, 4 * 4, .inl (fun _ => 0))), (q18, .inl (cI, 4 * 12, .inl (fun _ => 0))), (q19, .inr (0, [.ref q20, .ref q21, .ref q22, .ref q23, .int (fx_I (0)), .int (fx_I (0)), .int (fx_I (0))])), (q20, .inl (cI, 4 * 4, .inl (fun _ => 0))), (q21, .inl (cI, 4 * 4, .inl (fun _ => 0))), (q22, .inl (cI, 4 * 4, .inl (fun _ => 0))), (q23, .inl (cI, 4 * 12, .inl (fun _ => 0))), (q24, .inl (cI, 48, .inl (fun _ => 0))), (q25, .inl (cI, 4, .inl (fun _ => 0)))] := hD
  refine lv_aload_n hx hb (show decode prog_1_method_1_code 71 = .ok (.aload_n 0, 1) by decide +kernel) rfl (lv_at hl 0 rfl) ?_
  refine va_new (ci := 4) (fs := [.null, .int 0]) (C := RX4) (T := TX4) (N := 2) hx hb hts inX4 tyX4 tyX4_ok hown (hts _ wd_206) (hts _ wd_120) (hts _ wd_53) hK hP hD hS hA rfl (fun j hj => by rcases (show j = 0 ∨ j = 1 by omega) with rfl | rfl <;> rfl) (show 26 + 1 ≤ 28 by omega) (show 2128 + 2 ≤ 2142 by omega) (show decode prog_1_method_1_code 72 = .ok (.new 44, 3) by decide +kernel) (fun q26 H hP hD hS => ?_)
  have hP : va_P D fx_cl [(h0, .inr (6, [.ref q0, .ref q1, .int (fx_I (0)), .ref q2, .ref q5, .ref q6, .null])), (q0, .inl (cI, 3, .inl (upd (upd (upd (fun _ => 0) ((fx_I (0))).toNatClampNeg (fx_I (3))) ((fx_I (1))).toNatClampNeg (fx_I (2))) ((fx_I (2))).toNatClampNeg (fx_I (8))))), (q1, .inl (cQ, 6, .inr (.inr (.inr (.inr (fun _ => none)))))), (q2, .inr (3, [.ref q3, .ref q4, .int (fx_I (1)), .int (fx_I (1))])), (q3, .inl (cI, 144, .inl (fun _ => 0))), (q4, .inl (cI, 144, .inl (fun _ => 0))), (q5, .inr (5, [.int (fx_I (0)), .int (fx_I (0)), .int (fx_I (0))])), (q6, .inr (2, [.ref q7, .ref q9, .ref q14, .ref q19, .ref q24, .ref q25, .int (fx_I (0)), .int (fx_I (0)), .int (fx_I (0))])), (q7, .inr (4, [.ref q8, .int (fx_I (0))])), (q8, .inl (cI, 12, .inl (fun i => fx_I (if i < 12 then -1 else 0)))), (q9, .inr (0, [.ref q10, .ref q11, .ref q12, .ref q13, .int (fx_I (0)), .int (fx_I (0)), .int (fx_I (0))])), (q10, .inl (cI, 4 * 4, .inl (fun _ => 0))), (q11, .inl (cI, 4 * 4, .inl (fun _ => 0))), (q12, .inl (cI, 4 * 4, .inl (fun _ => 0))), (q13, .inl (cI, 4 * 12, .inl (fun _ => 0))), (q14, .inr (0, [.ref q15, .ref q16, .ref q17, .ref q18, .int (fx_I (0)), .int (fx_I (0)), .int (fx_I (0))])), (q15, .inl (cI, 4 * 4, .inl (fun _ => 0))), (q16, .inl (cI, 4 * 4, .inl (fun _ => 0))), (q17, .inl (cI, 4 * 4, .inl (fun _ => 0))), (q18, .inl (cI, 4 * 12, .inl (fun _ => 0))), (q19, .inr (0, [.ref q20, .ref q21, .ref q22, .ref q23, .int (fx_I (0)), .int (fx_I (0)), .int (fx_I (0))])), (q20, .inl (cI, 4 * 4, .inl (fun _ => 0))), (q21, .inl (cI, 4 * 4, .inl (fun _ => 0))), (q22, .inl (cI, 4 * 4, .inl (fun _ => 0))), (q23, .inl (cI, 4 * 12, .inl (fun _ => 0))), (q24, .inl (cI, 48, .inl (fun _ => 0))), (q25, .inl (cI, 4, .inl (fun _ => 0))), (q26, .inr (4, [.null, .int 0]))] H := hP
  have hD : va_D A [(h0, .inr (6, [.ref q0, .ref q1, .int (fx_I (0)), .ref q2, .ref q5, .ref q6, .null])), (q0, .inl (cI, 3, .inl (upd (upd (upd (fun _ => 0) ((fx_I (0))).toNatClampNeg (fx_I (3))) ((fx_I (1))).toNatClampNeg (fx_I (2))) ((fx_I (2))).toNatClampNeg (fx_I (8))))), (q1, .inl (cQ, 6, .inr (.inr (.inr (.inr (fun _ => none)))))), (q2, .inr (3, [.ref q3, .ref q4, .int (fx_I (1)), .int (fx_I (1))])), (q3, .inl (cI, 144, .inl (fun _ => 0))), (q4, .inl (cI, 144, .inl (fun _ => 0))), (q5, .inr (5, [.int (fx_I (0)), .int (fx_I (0)), .int (fx_I (0))])), (q6, .inr (2, [.ref q7, .ref q9, .ref q14, .ref q19, .ref q24, .ref q25, .int (fx_I (0)), .int (fx_I (0)), .int (fx_I (0))])), (q7, .inr (4, [.ref q8, .int (fx_I (0))])), (q8, .inl (cI, 12, .inl (fun i => fx_I (if i < 12 then -1 else 0)))), (q9, .inr (0, [.ref q10, .ref q11, .ref q12, .ref q13, .int (fx_I (0)), .int (fx_I (0)), .int (fx_I (0))])), (q10, .inl (cI, 4 * 4, .inl (fun _ => 0))), (q11, .inl (cI, 4 * 4, .inl (fun _ => 0))), (q12, .inl (cI, 4 * 4, .inl (fun _ => 0))), (q13, .inl (cI, 4 * 12, .inl (fun _ => 0))), (q14, .inr (0, [.ref q15, .ref q16, .ref q17, .ref q18, .int (fx_I (0)), .int (fx_I (0)), .int (fx_I (0))])), (q15, .inl (cI, 4 * 4, .inl (fun _ => 0))), (q16, .inl (cI, 4 * 4, .inl (fun _ => 0))), (q17, .inl (cI, 4 * 4, .inl (fun _ => 0))), (q18, .inl (cI, 4 * 12, .inl (fun _ => 0))), (q19, .inr (0, [.ref q20, .ref q21, .ref q22, .ref q23, .int (fx_I (0)), .int (fx_I (0)), .int (fx_I (0))])), (q20, .inl (cI, 4 * 4, .inl (fun _ => 0))), (q21, .inl (cI, 4 * 4, .inl (fun _ => 0))), (q22, .inl (cI, 4 * 4, .inl (fun _ => 0))), (q23, .inl (cI, 4 * 12, .inl (fun _ => 0))), (q24, .inl (cI, 48, .inl (fun _ => 0))), (q25, .inl (cI, 4, .inl (fun _ => 0))), (q26, .inr (4, [.null, .int 0]))] := hD
  refine W.widen (k := 27) (n := 2130) (by omega) (by omega) ?_
  refine lv_dup hx hb (show decode prog_1_method_1_code 75 = .ok (.dup, 1) by decide +kernel) rfl ?_
  refine fx_mkI (pre := [(h0, .inr (6, [.ref q0, .ref q1, .int (fx_I (0)), .ref q2, .ref q5, .ref q6, .null])), (q0, .inl (cI, 3, .inl (upd (upd (upd (fun _ => 0) ((fx_I (0))).toNatClampNeg (fx_I (3))) ((fx_I (1))).toNatClampNeg (fx_I (2))) ((fx_I (2))).toNatClampNeg (fx_I (8))))), (q1, .inl (cQ, 6, .inr (.inr (.inr (.inr (fun _ => none)))))), (q2, .inr (3, [.ref q3, .ref q4, .int (fx_I (1)), .int (fx_I (1))])), (q3, .inl (cI, 144, .inl (fun _ => 0))), (q4, .inl (cI, 144, .inl (fun _ => 0))), (q5, .inr (5, [.int (fx_I (0)), .int (fx_I (0)), .int (fx_I (0))])), (q6, .inr (2, [.ref q7, .ref q9, .ref q14, .ref q19, .ref q24, .ref q25, .int (fx_I (0)), .int (fx_I (0)), .int (fx_I (0))])), (q7, .inr (4, [.ref q8, .int (fx_I (0))])), (q8, .inl (cI, 12, .inl (fun i => fx_I (if i < 12 then -1 else 0)))), (q9, .inr (0, [.ref q10, .ref q11, .ref q12, .ref q13, .int (fx_I (0)), .int (fx_I (0)), .int (fx_I (0))])), (q10, .inl (cI, 4 * 4, .inl (fun _ => 0))), (q11, .inl (cI, 4 * 4, .inl (fun _ => 0))), (q12, .inl (cI, 4 * 4, .inl (fun _ => 0))), (q13, .inl (cI, 4 * 12, .inl (fun _ => 0))), (q14, .inr (0, [.ref q15, .ref q16, .ref q17, .ref q18, .int (fx_I (0)), .int (fx_I (0)), .int (fx_I (0))])), (q15, .inl (cI, 4 * 4, .inl (fun _ => 0))), (q16, .inl (cI, 4 * 4, .inl (fun _ => 0))), (q17, .inl (cI, 4 * 4, .inl (fun _ => 0))), (q18, .inl (cI, 4 * 12, .inl (fun _ => 0))), (q19, .inr (0, [.ref q20, .ref q21, .ref q22, .ref q23, .int (fx_I (0)), .int (fx_I (0)), .int (fx_I (0))])), (q20, .inl (cI, 4 * 4, .inl (fun _ => 0))), (q21, .inl (cI, 4 * 4, .inl (fun _ => 0))), (q22, .inl (cI, 4 * 4, .inl (fun _ => 0))), (q23, .inl (cI, 4 * 12, .inl (fun _ => 0))), (q24, .inl (cI, 48, .inl (fun _ => 0))), (q25, .inl (cI, 4, .inl (fun _ => 0)))]) (As := []) (rest := [.ref q26, .ref h0]) (own := "FoldDye") (idx := 46) ⟨hx, hb, hml, hown, hts⟩ hK hP hD hS hA hSt hA0 (c_X4_init l D cI cZ cQ ad A0 q26 H.size) wd_123 wd_53 wd_207 wd_122 rfl (by decide +kernel) ⟨Nat.le_of_ble_eq_true rfl, Nat.le_of_ble_eq_true rfl⟩ rfl rfl rfl hl.1 (Nat.le_of_ble_eq_true rfl) (show decode prog_1_method_1_code 76 = .ok (.invokespecial 46, 3) by decide +kernel) ⟨show 27 + 1 ≤ 28 by omega, show 2130 + 12 ≤ 2142 by omega⟩ (fun w1 H locs hw hP hD hS => ?_)
  obtain ⟨q27, rfl⟩ := hw
  have hP : va_P D fx_cl [(h0, .inr (6, [.ref q0, .ref q1, .int (fx_I (0)), .ref q2, .ref q5, .ref q6, .null])), (q0, .inl (cI, 3, .inl (upd (upd (upd (fun _ => 0) ((fx_I (0))).toNatClampNeg (fx_I (3))) ((fx_I (1))).toNatClampNeg (fx_I (2))) ((fx_I (2))).toNatClampNeg (fx_I (8))))), (q1, .inl (cQ, 6, .inr (.inr (.inr (.inr (fun _ => none)))))), (q2, .inr (3, [.ref q3, .ref q4, .int (fx_I (1)), .int (fx_I (1))])), (q3, .inl (cI, 144, .inl (fun _ => 0))), (q4, .inl (cI, 144, .inl (fun _ => 0))), (q5, .inr (5, [.int (fx_I (0)), .int (fx_I (0)), .int (fx_I (0))])), (q6, .inr (2, [.ref q7, .ref q9, .ref q14, .ref q19, .ref q24, .ref q25, .int (fx_I (0)), .int (fx_I (0)), .int (fx_I (0))])), (q7, .inr (4, [.ref q8, .int (fx_I (0))])), (q8, .inl (cI, 12, .inl (fun i => fx_I (if i < 12 then -1 else 0)))), (q9, .inr (0, [.ref q10, .ref q11, .ref q12, .ref q13, .int (fx_I (0)), .int (fx_I (0)), .int (fx_I (0))])), (q10, .inl (cI, 4 * 4, .inl (fun _ => 0))), (q11, .inl (cI, 4 * 4, .inl (fun _ => 0))), (q12, .inl (cI, 4 * 4, .inl (fun _ => 0))), (q13, .inl (cI, 4 * 12, .inl (fun _ => 0))), (q14, .inr (0, [.ref q15, .ref q16, .ref q17, .ref q18, .int (fx_I (0)), .int (fx_I (0)), .int (fx_I (0))])), (q15, .inl (cI, 4 * 4, .inl (fun _ => 0))), (q16, .inl (cI, 4 * 4, .inl (fun _ => 0))), (q17, .inl (cI, 4 * 4, .inl (fun _ => 0))), (q18, .inl (cI, 4 * 12, .inl (fun _ => 0))), (q19, .inr (0, [.ref q20, .ref q21, .ref q22, .ref q23, .int (fx_I (0)), .int (fx_I (0)), .int (fx_I (0))])), (q20, .inl (cI, 4 * 4, .inl (fun _ => 0))), (q21, .inl (cI, 4 * 4, .inl (fun _ => 0))), (q22, .inl (cI, 4 * 4, .inl (fun _ => 0))), (q23, .inl (cI, 4 * 12, .inl (fun _ => 0))), (q24, .inl (cI, 48, .inl (fun _ => 0))), (q25, .inl (cI, 4, .inl (fun _ => 0))), (q26, .inr (4, [.ref q27, .int (fx_I (0))])), (q27, .inl (cI, 12, .inl (fun i => fx_I (if i < 12 then -1 else 0))))] H := hP
  have hD : va_D A [(h0, .inr (6, [.ref q0, .ref q1, .int (fx_I (0)), .ref q2, .ref q5, .ref q6, .null])), (q0, .inl (cI, 3, .inl (upd (upd (upd (fun _ => 0) ((fx_I (0))).toNatClampNeg (fx_I (3))) ((fx_I (1))).toNatClampNeg (fx_I (2))) ((fx_I (2))).toNatClampNeg (fx_I (8))))), (q1, .inl (cQ, 6, .inr (.inr (.inr (.inr (fun _ => none)))))), (q2, .inr (3, [.ref q3, .ref q4, .int (fx_I (1)), .int (fx_I (1))])), (q3, .inl (cI, 144, .inl (fun _ => 0))), (q4, .inl (cI, 144, .inl (fun _ => 0))), (q5, .inr (5, [.int (fx_I (0)), .int (fx_I (0)), .int (fx_I (0))])), (q6, .inr (2, [.ref q7, .ref q9, .ref q14, .ref q19, .ref q24, .ref q25, .int (fx_I (0)), .int (fx_I (0)), .int (fx_I (0))])), (q7, .inr (4, [.ref q8, .int (fx_I (0))])), (q8, .inl (cI, 12, .inl (fun i => fx_I (if i < 12 then -1 else 0)))), (q9, .inr (0, [.ref q10, .ref q11, .ref q12, .ref q13, .int (fx_I (0)), .int (fx_I (0)), .int (fx_I (0))])), (q10, .inl (cI, 4 * 4, .inl (fun _ => 0))), (q11, .inl (cI, 4 * 4, .inl (fun _ => 0))), (q12, .inl (cI, 4 * 4, .inl (fun _ => 0))), (q13, .inl (cI, 4 * 12, .inl (fun _ => 0))), (q14, .inr (0, [.ref q15, .ref q16, .ref q17, .ref q18, .int (fx_I (0)), .int (fx_I (0)), .int (fx_I (0))])), (q15, .inl (cI, 4 * 4, .inl (fun _ => 0))), (q16, .inl (cI, 4 * 4, .inl (fun _ => 0))), (q17, .inl (cI, 4 * 4, .inl (fun _ => 0))), (q18, .inl (cI, 4 * 12, .inl (fun _ => 0))), (q19, .inr (0, [.ref q20, .ref q21, .ref q22, .ref q23, .int (fx_I (0)), .int (fx_I (0)), .int (fx_I (0))])), (q20, .inl (cI, 4 * 4, .inl (fun _ => 0))), (q21, .inl (cI, 4 * 4, .inl (fun _ => 0))), (q22, .inl (cI, 4 * 4, .inl (fun _ => 0))), (q23, .inl (cI, 4 * 12, .inl (fun _ => 0))), (q24, .inl (cI, 48, .inl (fun _ => 0))), (q25, .inl (cI, 4, .inl (fun _ => 0))), (q26, .inr (4, [.ref q27, .int (fx_I (0))])), (q27, .inl (cI, 12, .inl (fun i => fx_I (if i < 12 then -1 else 0))))] := hD
  refine W.widen (k := 28) (n := 2142) (by omega) (by omega) ?_
  refine fx_putC (o := 6) (ci := 6) (k := 6) (ty := .object "FoldDye$Way") hx hb hts hown hin hK hP hD hS 0 rfl (by decide +kernel) rfl (by decide +kernel) rfl rfl (show 6 < 7 by omega) (show decode prog_1_method_1_code 79 = .ok (.putfield 47, 3) by decide +kernel) (fun H locs hP hD hS => ?_)
  have hP : va_P D fx_cl [(h0, .inr (6, [.ref q0, .ref q1, .int (fx_I (0)), .ref q2, .ref q5, .ref q6, .ref q26])), (q0, .inl (cI, 3, .inl (upd (upd (upd (fun _ => 0) ((fx_I (0))).toNatClampNeg (fx_I (3))) ((fx_I (1))).toNatClampNeg (fx_I (2))) ((fx_I (2))).toNatClampNeg (fx_I (8))))), (q1, .inl (cQ, 6, .inr (.inr (.inr (.inr (fun _ => none)))))), (q2, .inr (3, [.ref q3, .ref q4, .int (fx_I (1)), .int (fx_I (1))])), (q3, .inl (cI, 144, .inl (fun _ => 0))), (q4, .inl (cI, 144, .inl (fun _ => 0))), (q5, .inr (5, [.int (fx_I (0)), .int (fx_I (0)), .int (fx_I (0))])), (q6, .inr (2, [.ref q7, .ref q9, .ref q14, .ref q19, .ref q24, .ref q25, .int (fx_I (0)), .int (fx_I (0)), .int (fx_I (0))])), (q7, .inr (4, [.ref q8, .int (fx_I (0))])), (q8, .inl (cI, 12, .inl (fun i => fx_I (if i < 12 then -1 else 0)))), (q9, .inr (0, [.ref q10, .ref q11, .ref q12, .ref q13, .int (fx_I (0)), .int (fx_I (0)), .int (fx_I (0))])), (q10, .inl (cI, 4 * 4, .inl (fun _ => 0))), (q11, .inl (cI, 4 * 4, .inl (fun _ => 0))), (q12, .inl (cI, 4 * 4, .inl (fun _ => 0))), (q13, .inl (cI, 4 * 12, .inl (fun _ => 0))), (q14, .inr (0, [.ref q15, .ref q16, .ref q17, .ref q18, .int (fx_I (0)), .int (fx_I (0)), .int (fx_I (0))])), (q15, .inl (cI, 4 * 4, .inl (fun _ => 0))), (q16, .inl (cI, 4 * 4, .inl (fun _ => 0))), (q17, .inl (cI, 4 * 4, .inl (fun _ => 0))), (q18, .inl (cI, 4 * 12, .inl (fun _ => 0))), (q19, .inr (0, [.ref q20, .ref q21, .ref q22, .ref q23, .int (fx_I (0)), .int (fx_I (0)), .int (fx_I (0))])), (q20, .inl (cI, 4 * 4, .inl (fun _ => 0))), (q21, .inl (cI, 4 * 4, .inl (fun _ => 0))), (q22, .inl (cI, 4 * 4, .inl (fun _ => 0))), (q23, .inl (cI, 4 * 12, .inl (fun _ => 0))), (q24, .inl (cI, 48, .inl (fun _ => 0))), (q25, .inl (cI, 4, .inl (fun _ => 0))), (q26, .inr (4, [.ref q27, .int (fx_I (0))])), (q27, .inl (cI, 12, .inl (fun i => fx_I (if i < 12 then -1 else 0))))] H := hP
  have hD : va_D A [(h0, .inr (6, [.ref q0, .ref q1, .int (fx_I (0)), .ref q2, .ref q5, .ref q6, .ref q26])), (q0, .inl (cI, 3, .inl (upd (upd (upd (fun _ => 0) ((fx_I (0))).toNatClampNeg (fx_I (3))) ((fx_I (1))).toNatClampNeg (fx_I (2))) ((fx_I (2))).toNatClampNeg (fx_I (8))))), (q1, .inl (cQ, 6, .inr (.inr (.inr (.inr (fun _ => none)))))), (q2, .inr (3, [.ref q3, .ref q4, .int (fx_I (1)), .int (fx_I (1))])), (q3, .inl (cI, 144, .inl (fun _ => 0))), (q4, .inl (cI, 144, .inl (fun _ => 0))), (q5, .inr (5, [.int (fx_I (0)), .int (fx_I (0)), .int (fx_I (0))])), (q6, .inr (2, [.ref q7, .ref q9, .ref q14, .ref q19, .ref q24, .ref q25, .int (fx_I (0)), .int (fx_I (0)), .int (fx_I (0))])), (q7, .inr (4, [.ref q8, .int (fx_I (0))])), (q8, .inl (cI, 12, .inl (fun i => fx_I (if i < 12 then -1 else 0)))), (q9, .inr (0, [.ref q10, .ref q11, .ref q12, .ref q13, .int (fx_I (0)), .int (fx_I (0)), .int (fx_I (0))])), (q10, .inl (cI, 4 * 4, .inl (fun _ => 0))), (q11, .inl (cI, 4 * 4, .inl (fun _ => 0))), (q12, .inl (cI, 4 * 4, .inl (fun _ => 0))), (q13, .inl (cI, 4 * 12, .inl (fun _ => 0))), (q14, .inr (0, [.ref q15, .ref q16, .ref q17, .ref q18, .int (fx_I (0)), .int (fx_I (0)), .int (fx_I (0))])), (q15, .inl (cI, 4 * 4, .inl (fun _ => 0))), (q16, .inl (cI, 4 * 4, .inl (fun _ => 0))), (q17, .inl (cI, 4 * 4, .inl (fun _ => 0))), (q18, .inl (cI, 4 * 12, .inl (fun _ => 0))), (q19, .inr (0, [.ref q20, .ref q21, .ref q22, .ref q23, .int (fx_I (0)), .int (fx_I (0)), .int (fx_I (0))])), (q20, .inl (cI, 4 * 4, .inl (fun _ => 0))), (q21, .inl (cI, 4 * 4, .inl (fun _ => 0))), (q22, .inl (cI, 4 * 4, .inl (fun _ => 0))), (q23, .inl (cI, 4 * 12, .inl (fun _ => 0))), (q24, .inl (cI, 48, .inl (fun _ => 0))), (q25, .inl (cI, 4, .inl (fun _ => 0))), (q26, .inr (4, [.ref q27, .int (fx_I (0))])), (q27, .inl (cI, 12, .inl (fun i => fx_I (if i < 12 then -1 else 0))))] := hD
  refine W.widen (k := 28) (n := 2142) (by omega) (by omega) ?_
  exact W.vret hx hb hr (fun t ht hW => ⟨⟨_, rfl, ⟨q0, q1, q2, q3, q4, q5, q6, q7, q8, q9, q10, q11, q12, q13, q14, q15, q16, q17, q18, q19, q20, q21, q22, q23, q24, q25, q26, q27, rfl⟩, by rw [ht]; exact hP, by rw [hAe]; exact hD⟩, by rw [hAe]; exact hS.F ht⟩) hS.2.2 (show decode prog_1_method_1_code 82 = .ok (.return_, 1) by decide +kernel)
def fx_room_X7 : Room := { frames := 3, cells := 28, slots := 8640, locals := 80 }
set_option maxHeartbeats 4000000 in
set_option maxRecDepth 100000 in
theorem c_X7_init (l : Launch) (D : va_G) (cI cZ cQ : ClassId) (ad : Nat → Nat → Nat) (A0 : Nat → Prop) (h0 sz : Nat) : Met l ⟨"FoldDyeModel", "<init>", "()V"⟩ (Cond.code ⟨"FoldDyeModel", "<init>", "()V"⟩ prog_9_method_1_code 1 none :: fx_tb) fx_room_X7 (fx_IPc D cI cZ cQ ad A0 h0 (.inr (7, [.null, .null, .int 0, .null, .null, .null, .null, .null, .null, .null, .null, .null, .null, .null, .null, .null, .null, .int 0, .int 0, .int 0, .null, .null, .null, .null, .null, .null, .int 0, .int 0, .null, .null, .null, .null, .null, .int 0, .null, .int 0, .int 0, .int 0, .int 0, .int 0])) sz []) (fx_IQc D h0 (.inr (7, [.null, .null, .int 0, .null, .null, .null, .null, .null, .null, .null, .null, .null, .null, .null, .null, .null, .null, .int 0, .int 0, .int 0, .null, .null, .null, .null, .null, .null, .int 0, .int 0, .null, .null, .null, .null, .null, .int 0, .null, .int 0, .int 0, .int 0, .int 0, .int 0])) sz (fun w1 => ∃ q0 q1 q2 q3 q4 q5 q6 q7 q8 q9 q10 q11 q12 q13 q14 q15 q16 q17 q18 q19 q20 q21 q22 q23 q24 q25 q26 q27 : Nat, w1 = [(h0, .inr (7, [.ref q0, .ref q1, .int 0, .ref q2, .ref q3, .ref q4, .ref q5, .ref q6, .ref q7, .ref q8, .ref q9, .ref q10, .ref q11, .ref q12, .ref q13, .ref q14, .ref q15, .int (fx_I (3)), .int (fx_I (2)), .int (fx_I (8)), .ref q16, .ref q17, .ref q18, .ref q19, .ref q20, .ref q21, .int 0, .int 0, .ref q22, .ref q23, .ref q24, .ref q25, .ref q26, .int 0, .ref q27, .int 0, .int 0, .int 0, .int 0, .int 0])), (q0, .inl (cI, 7, .inl (fun _ => 0))), (q1, .inl (cI, 7, .inl (fun _ => 0))), (q2, .inl (cI, 1008, .inl (fun _ => 0))), (q3, .inl (cI, 1008, .inl (fun _ => 0))), (q4, .inl (cI, 1008, .inl (fun _ => 0))), (q5, .inl (cI, 1008, .inl (fun _ => 0))), (q6, .inl (cI, 7, .inl (fun _ => 0))), (q7, .inl (cI, 7, .inl (fun _ => 0))), (q8, .inl (cI, 7, .inl (fun _ => 0))), (q9, .inl (cZ, 7, .inl (fun _ => 0))), (q10, .inl (cI, 7, .inl (fun _ => 0))), (q11, .inl (cI, 7, .inl (fun _ => 0))), (q12, .inl (cI, 42, .inl (fun _ => 0))), (q13, .inl (cI, 42, .inl (fun _ => 0))), (q14, .inl (cI, 42, .inl (fun _ => 0))), (q15, .inl (cI, 42, .inl (fun _ => 0))), (q16, .inl (cI, 3600, .inl (fun _ => 0))), (q17, .inl (cI, 144, .inl (fun _ => 0))), (q18, .inl (cI, 144, .inl (fun _ => 0))), (q19, .inl (cI, 144, .inl (fun _ => 0))), (q20, .inl (cI, 144, .inl (fun _ => 0))), (q21, .inl (cI, 144, .inl (fun _ => 0))), (q22, .inl (cZ, 48, .inl (fun _ => 0))), (q23, .inl (cI, 2, .inl (fun _ => 0))), (q24, .inl (cI, 2, .inl (fun _ => 0))), (q25, .inl (cI, 2, .inl (fun _ => 0))), (q26, .inl (cI, 6, .inl (fun _ => 0))), (q27, .inl (cI, 4, .inl (fun _ => 0)))])) 28 8640 (va_A [(h0, .inr (7, [.null, .null, .int 0, .null, .null, .null, .null, .null, .null, .null, .null, .null, .null, .null, .null, .null, .null, .int 0, .int 0, .int 0, .null, .null, .null, .null, .null, .null, .int 0, .int 0, .null, .null, .null, .null, .null, .int 0, .null, .int 0, .int 0, .int 0, .int 0, .int 0]))] sz) := by
  refine Met.ofW (cc := prog_9_method_1_code) (maxL := 1) (ret := none) (by decide) rfl ?_
  intro p e s m args below meth c s₁ B hml hv
  obtain ⟨rfl, hsz, hP, hK, hD0, hSt, hA0h⟩ := hv
  have hx := B.exec
  have hb := B.bytes
  have hr := B.returns
  have hts : ∀ w ∈ fx_tb, w.before _ s = true := fun w hw => atoms_spec (ws := Cond.code ⟨"FoldDyeModel", "<init>", "()V"⟩ prog_9_method_1_code 1 none :: fx_tb) B.pre w (List.mem_cons_of_mem _ hw)
  have hown : s.vm.findClass "FoldDyeModel" = some m.cls := findClass_of_methodNamed B.named
  have hlocks := B.notSynchronized
  have hin : meth.name = "<init>" := (name_of_methodNamed B.named B.method).1
  subst hsz
  have hD := hD0.self (sz := s.heap.size)
  generalize hAe : va_A [(h0, .inr (7, [.null, .null, .int 0, .null, .null, .null, .null, .null, .null, .null, .null, .null, .null, .null, .null, .null, .null, .int 0, .int 0, .int 0, .null, .null, .null, .null, .null, .null, .int 0, .int 0, .null, .null, .null, .null, .null, .int 0, .null, .int 0, .int 0, .int 0, .int 0, .int 0]))] s.heap.size = A at hD ⊢
  have hA : ∀ q : Nat, s.heap.size ≤ q → A q := fun q h => by rw [← hAe]; exact Or.inr h
  have hA0 : ∀ q : Nat, A q → A0 q := fun q h => by
    rw [← hAe] at h
    rcases h with ⟨k, e, h⟩ | h
    · cases k with
      | zero => cases h; exact hA0h
      | succ k => cases h
    · exact hSt.2.1 q h
  have hS : va_S A s.heap s.heap [] := va_S.rf
  have hl := lv_entry ([.ref h0]) (n := 1) (Nat.le_of_ble_eq_true rfl)
  rw [lg_entry_eq]
  generalize (lg_sl ([.ref h0]) ++ List.replicate (1 - (lg_sl ([.ref h0])).length) Slot.unset).toArray = ls at hl ⊢
  have hl : lv_has ls 1 [(0, .ref h0)] := hl
  have hP : va_P D fx_cl [(h0, .inr (7, [.null, .null, .int 0, .null, .null, .null, .null, .null, .null, .null, .null, .null, .null, .null, .null, .null, .null, .int 0, .int 0, .int 0, .null, .null, .null, .null, .null, .null, .int 0, .int 0, .null, .null, .null, .null, .null, .int 0, .null, .int 0, .int 0, .int 0, .int 0, .int 0]))] s.heap := hP
  refine lv_aload_n hx hb (show decode prog_9_method_1_code 0 = .ok (.aload_n 0, 1) by decide +kernel) rfl (lv_at hl 0 rfl) ?_
  refine W.objInit hx hb hown (hts _ wd_616) (hts _ wd_67) (hts _ wd_68) rfl (by rw [hml]; exact hl.1) rfl (show decode prog_9_method_1_code 1 = .ok (.invokespecial 1, 3) by decide +kernel) (Nat.le_of_ble_eq_true rfl) (Nat.le_of_ble_eq_true rfl) ?_
  refine W.eq (g2 := F0 m 4 ls []) rfl ?_
  refine lv_aload_n hx hb (show decode prog_9_method_1_code 4 = .ok (.aload_n 0, 1) by decide +kernel) rfl (lv_at hl 0 rfl) ?_
  refine lv_bipush (v := fx_I (7)) hx hb (show decode prog_9_method_1_code 5 = .ok (.bipush 7, 2) by decide +kernel) (by decide) ?_
  refine fx_newI (n := 7) hx hb hts wd_90 hK hP hD hS hA (by omega) (show 0 + 1 ≤ 28 by omega) (show 0 + 7 ≤ 8640 by omega) (show decode prog_9_method_1_code 7 = .ok (.newarray .int, 2) by decide +kernel) (fun q0 H hP hD hS => ?_)
  have hP : va_P D fx_cl [(h0, .inr (7, [.null, .null, .int 0, .null, .null, .null, .null, .null, .null, .null, .null, .null, .null, .null, .null, .null, .null, .int 0, .int 0, .int 0, .null, .null, .null, .null, .null, .null, .int 0, .int 0, .null, .null, .null, .null, .null, .int 0, .null, .int 0, .int 0, .int 0, .int 0, .int 0])), (q0, .inl (cI, 7, .inl (fun _ => 0)))] H := hP
  have hD : va_D A [(h0, .inr (7, [.null, .null, .int 0, .null, .null, .null, .null, .null, .null, .null, .null, .null, .null, .null, .null, .null, .null, .int 0, .int 0, .int 0, .null, .null, .null, .null, .null, .null, .int 0, .int 0, .null, .null, .null, .null, .null, .int 0, .null, .int 0, .int 0, .int 0, .int 0, .int 0])), (q0, .inl (cI, 7, .inl (fun _ => 0)))] := hD
  refine W.widen (k := 1) (n := 7) (by omega) (by omega) ?_
  refine fx_putC (o := 7) (ci := 7) (k := 0) (ty := .array .int) hx hb hts hown hin hK hP hD hS 0 rfl (by decide +kernel) rfl (by decide +kernel) rfl rfl (show 0 < 40 by omega) (show decode prog_9_method_1_code 9 = .ok (.putfield 9, 3) by decide +kernel) (fun H locs hP hD hS => ?_)
  have hP : va_P D fx_cl [(h0, .inr (7, [.ref q0, .null, .int 0, .null, .null, .null, .null, .null, .null, .null, .null, .null, .null, .null, .null, .null, .null, .int 0, .int 0, .int 0, .null, .null, .null, .null, .null, .null, .int 0, .int 0, .null, .null, .null, .null, .null, .int 0, .null, .int 0, .int 0, .int 0, .int 0, .int 0])), (q0, .inl (cI, 7, .inl (fun _ => 0)))] H := hP
  have hD : va_D A [(h0, .inr (7, [.ref q0, .null, .int 0, .null, .null, .null, .null, .null, .null, .null, .null, .null, .null, .null, .null, .null, .null, .int 0, .int 0, .int 0, .null, .null, .null, .null, .null, .null, .int 0, .int 0, .null, .null, .null, .null, .null, .int 0, .null, .int 0, .int 0, .int 0, .int 0, .int 0])), (q0, .inl (cI, 7, .inl (fun _ => 0)))] := hD
  refine lv_aload_n hx hb (show decode prog_9_method_1_code 12 = .ok (.aload_n 0, 1) by decide +kernel) rfl (lv_at hl 0 rfl) ?_
  refine lv_bipush (v := fx_I (7)) hx hb (show decode prog_9_method_1_code 13 = .ok (.bipush 7, 2) by decide +kernel) (by decide) ?_
  refine fx_newI (n := 7) hx hb hts wd_90 hK hP hD hS hA (by omega) (show 1 + 1 ≤ 28 by omega) (show 7 + 7 ≤ 8640 by omega) (show decode prog_9_method_1_code 15 = .ok (.newarray .int, 2) by decide +kernel) (fun q1 H hP hD hS => ?_)
  have hP : va_P D fx_cl [(h0, .inr (7, [.ref q0, .null, .int 0, .null, .null, .null, .null, .null, .null, .null, .null, .null, .null, .null, .null, .null, .null, .int 0, .int 0, .int 0, .null, .null, .null, .null, .null, .null, .int 0, .int 0, .null, .null, .null, .null, .null, .int 0, .null, .int 0, .int 0, .int 0, .int 0, .int 0])), (q0, .inl (cI, 7, .inl (fun _ => 0))), (q1, .inl (cI, 7, .inl (fun _ => 0)))] H := hP
  have hD : va_D A [(h0, .inr (7, [.ref q0, .null, .int 0, .null, .null, .null, .null, .null, .null, .null, .null, .null, .null, .null, .null, .null, .null, .int 0, .int 0, .int 0, .null, .null, .null, .null, .null, .null, .int 0, .int 0, .null, .null, .null, .null, .null, .int 0, .null, .int 0, .int 0, .int 0, .int 0, .int 0])), (q0, .inl (cI, 7, .inl (fun _ => 0))), (q1, .inl (cI, 7, .inl (fun _ => 0)))] := hD
  refine W.widen (k := 2) (n := 14) (by omega) (by omega) ?_
  refine fx_putC (o := 7) (ci := 7) (k := 1) (ty := .array .int) hx hb hts hown hin hK hP hD hS 0 rfl (by decide +kernel) rfl (by decide +kernel) rfl rfl (show 1 < 40 by omega) (show decode prog_9_method_1_code 17 = .ok (.putfield 13, 3) by decide +kernel) (fun H locs hP hD hS => ?_)
  have hP : va_P D fx_cl [(h0, .inr (7, [.ref q0, .ref q1, .int 0, .null, .null, .null, .null, .null, .null, .null, .null, .null, .null, .null, .null, .null, .null, .int 0, .int 0, .int 0, .null, .null, .null, .null, .null, .null, .int 0, .int 0, .null, .null, .null, .null, .null, .int 0, .null, .int 0, .int 0, .int 0, .int 0, .int 0])), (q0, .inl (cI, 7, .inl (fun _ => 0))), (q1, .inl (cI, 7, .inl (fun _ => 0)))] H := hP
  have hD : va_D A [(h0, .inr (7, [.ref q0, .ref q1, .int 0, .null, .null, .null, .null, .null, .null, .null, .null, .null, .null, .null, .null, .null, .null, .int 0, .int 0, .int 0, .null, .null, .null, .null, .null, .null, .int 0, .int 0, .null, .null, .null, .null, .null, .int 0, .null, .int 0, .int 0, .int 0, .int 0, .int 0])), (q0, .inl (cI, 7, .inl (fun _ => 0))), (q1, .inl (cI, 7, .inl (fun _ => 0)))] := hD
  refine lv_aload_n hx hb (show decode prog_9_method_1_code 20 = .ok (.aload_n 0, 1) by decide +kernel) rfl (lv_at hl 0 rfl) ?_
  refine lv_sipush (v := fx_I (1008)) hx hb (show decode prog_9_method_1_code 21 = .ok (.sipush 1008, 3) by decide +kernel) (by decide) ?_
  refine fx_newI (n := 1008) hx hb hts wd_90 hK hP hD hS hA (by omega) (show 2 + 1 ≤ 28 by omega) (show 14 + 1008 ≤ 8640 by omega) (show decode prog_9_method_1_code 24 = .ok (.newarray .int, 2) by decide +kernel) (fun q2 H hP hD hS => ?_)
  have hP : va_P D fx_cl [(h0, .inr (7, [.ref q0, .ref q1, .int 0, .null, .null, .null, .null, .null, .null, .null, .null, .null, .null, .null, .null, .null, .null, .int 0, .int 0, .int 0, .null, .null, .null, .null, .null, .null, .int 0, .int 0, .null, .null, .null, .null, .null, .int 0, .null, .int 0, .int 0, .int 0, .int 0, .int 0])), (q0, .inl (cI, 7, .inl (fun _ => 0))), (q1, .inl (cI, 7, .inl (fun _ => 0))), (q2, .inl (cI, 1008, .inl (fun _ => 0)))] H := hP
  have hD : va_D A [(h0, .inr (7, [.ref q0, .ref q1, .int 0, .null, .null, .null, .null, .null, .null, .null, .null, .null, .null, .null, .null, .null, .null, .int 0, .int 0, .int 0, .null, .null, .null, .null, .null, .null, .int 0, .int 0, .null, .null, .null, .null, .null, .int 0, .null, .int 0, .int 0, .int 0, .int 0, .int 0])), (q0, .inl (cI, 7, .inl (fun _ => 0))), (q1, .inl (cI, 7, .inl (fun _ => 0))), (q2, .inl (cI, 1008, .inl (fun _ => 0)))] := hD
  refine W.widen (k := 3) (n := 1022) (by omega) (by omega) ?_
  refine fx_putC (o := 7) (ci := 7) (k := 3) (ty := .array .int) hx hb hts hown hin hK hP hD hS 0 rfl (by decide +kernel) rfl (by decide +kernel) rfl rfl (show 3 < 40 by omega) (show decode prog_9_method_1_code 26 = .ok (.putfield 16, 3) by decide +kernel) (fun H locs hP hD hS => ?_)
  have hP : va_P D fx_cl [(h0, .inr (7, [.ref q0, .ref q1, .int 0, .ref q2, .null, .null, .null, .null, .null, .null, .null, .null, .null, .null, .null, .null, .null, .int 0, .int 0, .int 0, .null, .null, .null, .null, .null, .null, .int 0, .int 0, .null, .null, .null, .null, .null, .int 0, .null, .int 0, .int 0, .int 0, .int 0, .int 0])), (q0, .inl (cI, 7, .inl (fun _ => 0))), (q1, .inl (cI, 7, .inl (fun _ => 0))), (q2, .inl (cI, 1008, .inl (fun _ => 0)))] H := hP
  have hD : va_D A [(h0, .inr (7, [.ref q0, .ref q1, .int 0, .ref q2, .null, .null, .null, .null, .null, .null, .null, .null, .null, .null, .null, .null, .null, .int 0, .int 0, .int 0, .null, .null, .null, .null, .null, .null, .int 0, .int 0, .null, .null, .null, .null, .null, .int 0, .null, .int 0, .int 0, .int 0, .int 0, .int 0])), (q0, .inl (cI, 7, .inl (fun _ => 0))), (q1, .inl (cI, 7, .inl (fun _ => 0))), (q2, .inl (cI, 1008, .inl (fun _ => 0)))] := hD
  refine lv_aload_n hx hb (show decode prog_9_method_1_code 29 = .ok (.aload_n 0, 1) by decide +kernel) rfl (lv_at hl 0 rfl) ?_
  refine lv_sipush (v := fx_I (1008)) hx hb (show decode prog_9_method_1_code 30 = .ok (.sipush 1008, 3) by decide +kernel) (by decide) ?_
  refine fx_newI (n := 1008) hx hb hts wd_90 hK hP hD hS hA (by omega) (show 3 + 1 ≤ 28 by omega) (show 1022 + 1008 ≤ 8640 by omega) (show decode prog_9_method_1_code 33 = .ok (.newarray .int, 2) by decide +kernel) (fun q3 H hP hD hS => ?_)
  have hP : va_P D fx_cl [(h0, .inr (7, [.ref q0, .ref q1, .int 0, .ref q2, .null, .null, .null, .null, .null, .null, .null, .null, .null, .null, .null, .null, .null, .int 0, .int 0, .int 0, .null, .null, .null, .null, .null, .null, .int 0, .int 0, .null, .null, .null, .null, .null, .int 0, .null, .int 0, .int 0, .int 0, .int 0, .int 0])), (q0, .inl (cI, 7, .inl (fun _ => 0))), (q1, .inl (cI, 7, .inl (fun _ => 0))), (q2, .inl (cI, 1008, .inl (fun _ => 0))), (q3, .inl (cI, 1008, .inl (fun _ => 0)))] H := hP
  have hD : va_D A [(h0, .inr (7, [.ref q0, .ref q1, .int 0, .ref q2, .null, .null, .null, .null, .null, .null, .null, .null, .null, .null, .null, .null, .null, .int 0, .int 0, .int 0, .null, .null, .null, .null, .null, .null, .int 0, .int 0, .null, .null, .null, .null, .null, .int 0, .null, .int 0, .int 0, .int 0, .int 0, .int 0])), (q0, .inl (cI, 7, .inl (fun _ => 0))), (q1, .inl (cI, 7, .inl (fun _ => 0))), (q2, .inl (cI, 1008, .inl (fun _ => 0))), (q3, .inl (cI, 1008, .inl (fun _ => 0)))] := hD
  refine W.widen (k := 4) (n := 2030) (by omega) (by omega) ?_
  refine fx_putC (o := 7) (ci := 7) (k := 4) (ty := .array .int) hx hb hts hown hin hK hP hD hS 0 rfl (by decide +kernel) rfl (by decide +kernel) rfl rfl (show 4 < 40 by omega) (show decode prog_9_method_1_code 35 = .ok (.putfield 19, 3) by decide +kernel) (fun H locs hP hD hS => ?_)
  have hP : va_P D fx_cl [(h0, .inr (7, [.ref q0, .ref q1, .int 0, .ref q2, .ref q3, .null, .null, .null, .null, .null, .null, .null, .null, .null, .null, .null, .null, .int 0, .int 0, .int 0, .null, .null, .null, .null, .null, .null, .int 0, .int 0, .null, .null, .null, .null, .null, .int 0, .null, .int 0, .int 0, .int 0, .int 0, .int 0])), (q0, .inl (cI, 7, .inl (fun _ => 0))), (q1, .inl (cI, 7, .inl (fun _ => 0))), (q2, .inl (cI, 1008, .inl (fun _ => 0))), (q3, .inl (cI, 1008, .inl (fun _ => 0)))] H := hP
  have hD : va_D A [(h0, .inr (7, [.ref q0, .ref q1, .int 0, .ref q2, .ref q3, .null, .null, .null, .null, .null, .null, .null, .null, .null, .null, .null, .null, .int 0, .int 0, .int 0, .null, .null, .null, .null, .null, .null, .int 0, .int 0, .null, .null, .null, .null, .null, .int 0, .null, .int 0, .int 0, .int 0, .int 0, .int 0])), (q0, .inl (cI, 7, .inl (fun _ => 0))), (q1, .inl (cI, 7, .inl (fun _ => 0))), (q2, .inl (cI, 1008, .inl (fun _ => 0))), (q3, .inl (cI, 1008, .inl (fun _ => 0)))] := hD
  refine lv_aload_n hx hb (show decode prog_9_method_1_code 38 = .ok (.aload_n 0, 1) by decide +kernel) rfl (lv_at hl 0 rfl) ?_
  refine lv_sipush (v := fx_I (1008)) hx hb (show decode prog_9_method_1_code 39 = .ok (.sipush 1008, 3) by decide +kernel) (by decide) ?_
  refine fx_newI (n := 1008) hx hb hts wd_90 hK hP hD hS hA (by omega) (show 4 + 1 ≤ 28 by omega) (show 2030 + 1008 ≤ 8640 by omega) (show decode prog_9_method_1_code 42 = .ok (.newarray .int, 2) by decide +kernel) (fun q4 H hP hD hS => ?_)
  have hP : va_P D fx_cl [(h0, .inr (7, [.ref q0, .ref q1, .int 0, .ref q2, .ref q3, .null, .null, .null, .null, .null, .null, .null, .null, .null, .null, .null, .null, .int 0, .int 0, .int 0, .null, .null, .null, .null, .null, .null, .int 0, .int 0, .null, .null, .null, .null, .null, .int 0, .null, .int 0, .int 0, .int 0, .int 0, .int 0])), (q0, .inl (cI, 7, .inl (fun _ => 0))), (q1, .inl (cI, 7, .inl (fun _ => 0))), (q2, .inl (cI, 1008, .inl (fun _ => 0))), (q3, .inl (cI, 1008, .inl (fun _ => 0))), (q4, .inl (cI, 1008, .inl (fun _ => 0)))] H := hP
  have hD : va_D A [(h0, .inr (7, [.ref q0, .ref q1, .int 0, .ref q2, .ref q3, .null, .null, .null, .null, .null, .null, .null, .null, .null, .null, .null, .null, .int 0, .int 0, .int 0, .null, .null, .null, .null, .null, .null, .int 0, .int 0, .null, .null, .null, .null, .null, .int 0, .null, .int 0, .int 0, .int 0, .int 0, .int 0])), (q0, .inl (cI, 7, .inl (fun _ => 0))), (q1, .inl (cI, 7, .inl (fun _ => 0))), (q2, .inl (cI, 1008, .inl (fun _ => 0))), (q3, .inl (cI, 1008, .inl (fun _ => 0))), (q4, .inl (cI, 1008, .inl (fun _ => 0)))] := hD
  refine W.widen (k := 5) (n := 3038) (by omega) (by omega) ?_
  refine fx_putC (o := 7) (ci := 7) (k := 5) (ty := .array .int) hx hb hts hown hin hK hP hD hS 0 rfl (by decide +kernel) rfl (by decide +kernel) rfl rfl (show 5 < 40 by omega) (show decode prog_9_method_1_code 44 = .ok (.putfield 22, 3) by decide +kernel) (fun H locs hP hD hS => ?_)
  have hP : va_P D fx_cl [(h0, .inr (7, [.ref q0, .ref q1, .int 0, .ref q2, .ref q3, .ref q4, .null, .null, .null, .null, .null, .null, .null, .null, .null, .null, .null, .int 0, .int 0, .int 0, .null, .null, .null, .null, .null, .null, .int 0, .int 0, .null, .null, .null, .null, .null, .int 0, .null, .int 0, .int 0, .int 0, .int 0, .int 0])), (q0, .inl (cI, 7, .inl (fun _ => 0))), (q1, .inl (cI, 7, .inl (fun _ => 0))), (q2, .inl (cI, 1008, .inl (fun _ => 0))), (q3, .inl (cI, 1008, .inl (fun _ => 0))), (q4, .inl (cI, 1008, .inl (fun _ => 0)))] H := hP
  have hD : va_D A [(h0, .inr (7, [.ref q0, .ref q1, .int 0, .ref q2, .ref q3, .ref q4, .null, .null, .null, .null, .null, .null, .null, .null, .null, .null, .null, .int 0, .int 0, .int 0, .null, .null, .null, .null, .null, .null, .int 0, .int 0, .null, .null, .null, .null, .null, .int 0, .null, .int 0, .int 0, .int 0, .int 0, .int 0])), (q0, .inl (cI, 7, .inl (fun _ => 0))), (q1, .inl (cI, 7, .inl (fun _ => 0))), (q2, .inl (cI, 1008, .inl (fun _ => 0))), (q3, .inl (cI, 1008, .inl (fun _ => 0))), (q4, .inl (cI, 1008, .inl (fun _ => 0)))] := hD
  refine lv_aload_n hx hb (show decode prog_9_method_1_code 47 = .ok (.aload_n 0, 1) by decide +kernel) rfl (lv_at hl 0 rfl) ?_
  refine lv_sipush (v := fx_I (1008)) hx hb (show decode prog_9_method_1_code 48 = .ok (.sipush 1008, 3) by decide +kernel) (by decide) ?_
  refine fx_newI (n := 1008) hx hb hts wd_90 hK hP hD hS hA (by omega) (show 5 + 1 ≤ 28 by omega) (show 3038 + 1008 ≤ 8640 by omega) (show decode prog_9_method_1_code 51 = .ok (.newarray .int, 2) by decide +kernel) (fun q5 H hP hD hS => ?_)
  have hP : va_P D fx_cl [(h0, .inr (7, [.ref q0, .ref q1, .int 0, .ref q2, .ref q3, .ref q4, .null, .null, .null, .null, .null, .null, .null, .null, .null, .null, .null, .int 0, .int 0, .int 0, .null, .null, .null, .null, .null, .null, .int 0, .int 0, .null, .null, .null, .null, .null, .int 0, .null, .int 0, .int 0, .int 0, .int 0, .int 0])), (q0, .inl (cI, 7, .inl (fun _ => 0))), (q1, .inl (cI, 7, .inl (fun _ => 0))), (q2, .inl (cI, 1008, .inl (fun _ => 0))), (q3, .inl (cI, 1008, .inl (fun _ => 0))), (q4, .inl (cI, 1008, .inl (fun _ => 0))), (q5, .inl (cI, 1008, .inl (fun _ => 0)))] H := hP
  have hD : va_D A [(h0, .inr (7, [.ref q0, .ref q1, .int 0, .ref q2, .ref q3, .ref q4, .null, .null, .null, .null, .null, .null, .null, .null, .null, .null, .null, .int 0, .int 0, .int 0, .null, .null, .null, .null, .null, .null, .int 0, .int 0, .null, .null, .null, .null, .null, .int 0, .null, .int 0, .int 0, .int 0, .int 0, .int 0])), (q0, .inl (cI, 7, .inl (fun _ => 0))), (q1, .inl (cI, 7, .inl (fun _ => 0))), (q2, .inl (cI, 1008, .inl (fun _ => 0))), (q3, .inl (cI, 1008, .inl (fun _ => 0))), (q4, .inl (cI, 1008, .inl (fun _ => 0))), (q5, .inl (cI, 1008, .inl (fun _ => 0)))] := hD
  refine W.widen (k := 6) (n := 4046) (by omega) (by omega) ?_
  refine fx_putC (o := 7) (ci := 7) (k := 6) (ty := .array .int) hx hb hts hown hin hK hP hD hS 0 rfl (by decide +kernel) rfl (by decide +kernel) rfl rfl (show 6 < 40 by omega) (show decode prog_9_method_1_code 53 = .ok (.putfield 25, 3) by decide +kernel) (fun H locs hP hD hS => ?_)
  have hP : va_P D fx_cl [(h0, .inr (7, [.ref q0, .ref q1, .int 0, .ref q2, .ref q3, .ref q4, .ref q5, .null, .null, .null, .null, .null, .null, .null, .null, .null, .null, .int 0, .int 0, .int 0, .null, .null, .null, .null, .null, .null, .int 0, .int 0, .null, .null, .null, .null, .null, .int 0, .null, .int 0, .int 0, .int 0, .int 0, .int 0])), (q0, .inl (cI, 7, .inl (fun _ => 0))), (q1, .inl (cI, 7, .inl (fun _ => 0))), (q2, .inl (cI, 1008, .inl (fun _ => 0))), (q3, .inl (cI, 1008, .inl (fun _ => 0))), (q4, .inl (cI, 1008, .inl (fun _ => 0))), (q5, .inl (cI, 1008, .inl (fun _ => 0)))] H := hP
  have hD : va_D A [(h0, .inr (7, [.ref q0, .ref q1, .int 0, .ref q2, .ref q3, .ref q4, .ref q5, .null, .null, .null, .null, .null, .null, .null, .null, .null, .null, .int 0, .int 0, .int 0, .null, .null, .null, .null, .null, .null, .int 0, .int 0, .null, .null, .null, .null, .null, .int 0, .null, .int 0, .int 0, .int 0, .int 0, .int 0])), (q0, .inl (cI, 7, .inl (fun _ => 0))), (q1, .inl (cI, 7, .inl (fun _ => 0))), (q2, .inl (cI, 1008, .inl (fun _ => 0))), (q3, .inl (cI, 1008, .inl (fun _ => 0))), (q4, .inl (cI, 1008, .inl (fun _ => 0))), (q5, .inl (cI, 1008, .inl (fun _ => 0)))] := hD
  refine lv_aload_n hx hb (show decode prog_9_method_1_code 56 = .ok (.aload_n 0, 1) by decide +kernel) rfl (lv_at hl 0 rfl) ?_
  refine lv_bipush (v := fx_I (7)) hx hb (show decode prog_9_method_1_code 57 = .ok (.bipush 7, 2) by decide +kernel) (by decide) ?_
  refine fx_newI (n := 7) hx hb hts wd_90 hK hP hD hS hA (by omega) (show 6 + 1 ≤ 28 by omega) (show 4046 + 7 ≤ 8640 by omega) (show decode prog_9_method_1_code 59 = .ok (.newarray .int, 2) by decide +kernel) (fun q6 H hP hD hS => ?_)
  have hP : va_P D fx_cl [(h0, .inr (7, [.ref q0, .ref q1, .int 0, .ref q2, .ref q3, .ref q4, .ref q5, .null, .null, .null, .null, .null, .null, .null, .null, .null, .null, .int 0, .int 0, .int 0, .null, .null, .null, .null, .null, .null, .int 0, .int 0, .null, .null, .null, .null, .null, .int 0, .null, .int 0, .int 0, .int 0, .int 0, .int 0])), (q0, .inl (cI, 7, .inl (fun _ => 0))), (q1, .inl (cI, 7, .inl (fun _ => 0))), (q2, .inl (cI, 1008, .inl (fun _ => 0))), (q3, .inl (cI, 1008, .inl (fun _ => 0))), (q4, .inl (cI, 1008, .inl (fun _ => 0))), (q5, .inl (cI, 1008, .inl (fun _ => 0))), (q6, .inl (cI, 7, .inl (fun _ => 0)))] H := hP
  have hD : va_D A [(h0, .inr (7, [.ref q0, .ref q1, .int 0, .ref q2, .ref q3, .ref q4, .ref q5, .null, .null, .null, .null, .null, .null, .null, .null, .null, .null, .int 0, .int 0, .int 0, .null, .null, .null, .null, .null, .null, .int 0, .int 0, .null, .null, .null, .null, .null, .int 0, .null, .int 0, .int 0, .int 0, .int 0, .int 0])), (q0, .inl (cI, 7, .inl (fun _ => 0))), (q1, .inl (cI, 7, .inl (fun _ => 0))), (q2, .inl (cI, 1008, .inl (fun _ => 0))), (q3, .inl (cI, 1008, .inl (fun _ => 0))), (q4, .inl (cI, 1008, .inl (fun _ => 0))), (q5, .inl (cI, 1008, .inl (fun _ => 0))), (q6, .inl (cI, 7, .inl (fun _ => 0)))] := hD
  refine W.widen (k := 7) (n := 4053) (by omega) (by omega) ?_
  refine fx_putC (o := 7) (ci := 7) (k := 7) (ty := .array .int) hx hb hts hown hin hK hP hD hS 0 rfl (by decide +kernel) rfl (by decide +kernel) rfl rfl (show 7 < 40 by omega) (show decode prog_9_method_1_code 61 = .ok (.putfield 28, 3) by decide +kernel) (fun H locs hP hD hS => ?_)
  have hP : va_P D fx_cl [(h0, .inr (7, [.ref q0, .ref q1, .int 0, .ref q2, .ref q3, .ref q4, .ref q5, .ref q6, .null, .null, .null, .null, .null, .null, .null, .null, .null, .int 0, .int 0, .int 0, .null, .null, .null, .null, .null, .null, .int 0, .int 0, .null, .null, .null, .null, .null, .int 0, .null, .int 0, .int 0, .int 0, .int 0, .int 0])), (q0, .inl (cI, 7, .inl (fun _ => 0))), (q1, .inl (cI, 7, .inl (fun _ => 0))), (q2, .inl (cI, 1008, .inl (fun _ => 0))), (q3, .inl (cI, 1008, .inl (fun _ => 0))), (q4, .inl (cI, 1008, .inl (fun _ => 0))), (q5, .inl (cI, 1008, .inl (fun _ => 0))), (q6, .inl (cI, 7, .inl (fun _ => 0)))] H := hP
  have hD : va_D A [(h0, .inr (7, [.ref q0, .ref q1, .int 0, .ref q2, .ref q3, .ref q4, .ref q5, .ref q6, .null, .null, .null, .null, .null, .null, .null, .null, .null, .int 0, .int 0, .int 0, .null, .null, .null, .null, .null, .null, .int 0, .int 0, .null, .null, .null, .null, .null, .int 0, .null, .int 0, .int 0, .int 0, .int 0, .int 0])), (q0, .inl (cI, 7, .inl (fun _ => 0))), (q1, .inl (cI, 7, .inl (fun _ => 0))), (q2, .inl (cI, 1008, .inl (fun _ => 0))), (q3, .inl (cI, 1008, .inl (fun _ => 0))), (q4, .inl (cI, 1008, .inl (fun _ => 0))), (q5, .inl (cI, 1008, .inl (fun _ => 0))), (q6, .inl (cI, 7, .inl (fun _ => 0)))] := hD
  refine lv_aload_n hx hb (show decode prog_9_method_1_code 64 = .ok (.aload_n 0, 1) by decide +kernel) rfl (lv_at hl 0 rfl) ?_
  refine lv_bipush (v := fx_I (7)) hx hb (show decode prog_9_method_1_code 65 = .ok (.bipush 7, 2) by decide +kernel) (by decide) ?_
  refine fx_newI (n := 7) hx hb hts wd_90 hK hP hD hS hA (by omega) (show 7 + 1 ≤ 28 by omega) (show 4053 + 7 ≤ 8640 by omega) (show decode prog_9_method_1_code 67 = .ok (.newarray .int, 2) by decide +kernel) (fun q7 H hP hD hS => ?_)
  have hP : va_P D fx_cl [(h0, .inr (7, [.ref q0, .ref q1, .int 0, .ref q2, .ref q3, .ref q4, .ref q5, .ref q6, .null, .null, .null, .null, .null, .null, .null, .null, .null, .int 0, .int 0, .int 0, .null, .null, .null, .null, .null, .null, .int 0, .int 0, .null, .null, .null, .null, .null, .int 0, .null, .int 0, .int 0, .int 0, .int 0, .int 0])), (q0, .inl (cI, 7, .inl (fun _ => 0))), (q1, .inl (cI, 7, .inl (fun _ => 0))), (q2, .inl (cI, 1008, .inl (fun _ => 0))), (q3, .inl (cI, 1008, .inl (fun _ => 0))), (q4, .inl (cI, 1008, .inl (fun _ => 0))), (q5, .inl (cI, 1008, .inl (fun _ => 0))), (q6, .inl (cI, 7, .inl (fun _ => 0))), (q7, .inl (cI, 7, .inl (fun _ => 0)))] H := hP
  have hD : va_D A [(h0, .inr (7, [.ref q0, .ref q1, .int 0, .ref q2, .ref q3, .ref q4, .ref q5, .ref q6, .null, .null, .null, .null, .null, .null, .null, .null, .null, .int 0, .int 0, .int 0, .null, .null, .null, .null, .null, .null, .int 0, .int 0, .null, .null, .null, .null, .null, .int 0, .null, .int 0, .int 0, .int 0, .int 0, .int 0])), (q0, .inl (cI, 7, .inl (fun _ => 0))), (q1, .inl (cI, 7, .inl (fun _ => 0))), (q2, .inl (cI, 1008, .inl (fun _ => 0))), (q3, .inl (cI, 1008, .inl (fun _ => 0))), (q4, .inl (cI, 1008, .inl (fun _ => 0))), (q5, .inl (cI, 1008, .inl (fun _ => 0))), (q6, .inl (cI, 7, .inl (fun _ => 0))), (q7, .inl (cI, 7, .inl (fun _ => 0)))] := hD
  refine W.widen (k := 8) (n := 4060) (by omega) (by omega) ?_
  refine fx_putC (o := 7) (ci := 7) (k := 8) (ty := .array .int) hx hb hts hown hin hK hP hD hS 0 rfl (by decide +kernel) rfl (by decide +kernel) rfl rfl (show 8 < 40 by omega) (show decode prog_9_method_1_code 69 = .ok (.putfield 31, 3) by decide +kernel) (fun H locs hP hD hS => ?_)
  have hP : va_P D fx_cl [(h0, .inr (7, [.ref q0, .ref q1, .int 0, .ref q2, .ref q3, .ref q4, .ref q5, .ref q6, .ref q7, .null, .null, .null, .null, .null, .null, .null, .null, .int 0, .int 0, .int 0, .null, .null, .null, .null, .null, .null, .int 0, .int 0, .null, .null, .null, .null, .null, .int 0, .null, .int 0, .int 0, .int 0, .int 0, .int 0])), (q0, .inl (cI, 7, .inl (fun _ => 0))), (q1, .inl (cI, 7, .inl (fun _ => 0))), (q2, .inl (cI, 1008, .inl (fun _ => 0))), (q3, .inl (cI, 1008, .inl (fun _ => 0))), (q4, .inl (cI, 1008, .inl (fun _ => 0))), (q5, .inl (cI, 1008, .inl (fun _ => 0))), (q6, .inl (cI, 7, .inl (fun _ => 0))), (q7, .inl (cI, 7, .inl (fun _ => 0)))] H := hP
  have hD : va_D A [(h0, .inr (7, [.ref q0, .ref q1, .int 0, .ref q2, .ref q3, .ref q4, .ref q5, .ref q6, .ref q7, .null, .null, .null, .null, .null, .null, .null, .null, .int 0, .int 0, .int 0, .null, .null, .null, .null, .null, .null, .int 0, .int 0, .null, .null, .null, .null, .null, .int 0, .null, .int 0, .int 0, .int 0, .int 0, .int 0])), (q0, .inl (cI, 7, .inl (fun _ => 0))), (q1, .inl (cI, 7, .inl (fun _ => 0))), (q2, .inl (cI, 1008, .inl (fun _ => 0))), (q3, .inl (cI, 1008, .inl (fun _ => 0))), (q4, .inl (cI, 1008, .inl (fun _ => 0))), (q5, .inl (cI, 1008, .inl (fun _ => 0))), (q6, .inl (cI, 7, .inl (fun _ => 0))), (q7, .inl (cI, 7, .inl (fun _ => 0)))] := hD
  refine lv_aload_n hx hb (show decode prog_9_method_1_code 72 = .ok (.aload_n 0, 1) by decide +kernel) rfl (lv_at hl 0 rfl) ?_
  refine lv_bipush (v := fx_I (7)) hx hb (show decode prog_9_method_1_code 73 = .ok (.bipush 7, 2) by decide +kernel) (by decide) ?_
  refine fx_newI (n := 7) hx hb hts wd_90 hK hP hD hS hA (by omega) (show 8 + 1 ≤ 28 by omega) (show 4060 + 7 ≤ 8640 by omega) (show decode prog_9_method_1_code 75 = .ok (.newarray .int, 2) by decide +kernel) (fun q8 H hP hD hS => ?_)
  have hP : va_P D fx_cl [(h0, .inr (7, [.ref q0, .ref q1, .int 0, .ref q2, .ref q3, .ref q4, .ref q5, .ref q6, .ref q7, .null, .null, .null, .null, .null, .null, .null, .null, .int 0, .int 0, .int 0, .null, .null, .null, .null, .null, .null, .int 0, .int 0, .null, .null, .null, .null, .null, .int 0, .null, .int 0, .int 0, .int 0, .int 0, .int 0])), (q0, .inl (cI, 7, .inl (fun _ => 0))), (q1, .inl (cI, 7, .inl (fun _ => 0))), (q2, .inl (cI, 1008, .inl (fun _ => 0))), (q3, .inl (cI, 1008, .inl (fun _ => 0))), (q4, .inl (cI, 1008, .inl (fun _ => 0))), (q5, .inl (cI, 1008, .inl (fun _ => 0))), (q6, .inl (cI, 7, .inl (fun _ => 0))), (q7, .inl (cI, 7, .inl (fun _ => 0))), (q8, .inl (cI, 7, .inl (fun _ => 0)))] H := hP
  have hD : va_D A [(h0, .inr (7, [.ref q0, .ref q1, .int 0, .ref q2, .ref q3, .ref q4, .ref q5, .ref q6, .ref q7, .null, .null, .null, .null, .null, .null, .null, .null, .int 0, .int 0, .int 0, .null, .null, .null, .null, .null, .null, .int 0, .int 0, .null, .null, .null, .null, .null, .int 0, .null, .int 0, .int 0, .int 0, .int 0, .int 0])), (q0, .inl (cI, 7, .inl (fun _ => 0))), (q1, .inl (cI, 7, .inl (fun _ => 0))), (q2, .inl (cI, 1008, .inl (fun _ => 0))), (q3, .inl (cI, 1008, .inl (fun _ => 0))), (q4, .inl (cI, 1008, .inl (fun _ => 0))), (q5, .inl (cI, 1008, .inl (fun _ => 0))), (q6, .inl (cI, 7, .inl (fun _ => 0))), (q7, .inl (cI, 7, .inl (fun _ => 0))), (q8, .inl (cI, 7, .inl (fun _ => 0)))] := hD
  refine W.widen (k := 9) (n := 4067) (by omega) (by omega) ?_
  refine fx_putC (o := 7) (ci := 7) (k := 9) (ty := .array .int) hx hb hts hown hin hK hP hD hS 0 rfl (by decide +kernel) rfl (by decide +kernel) rfl rfl (show 9 < 40 by omega) (show decode prog_9_method_1_code 77 = .ok (.putfield 34, 3) by decide +kernel) (fun H locs hP hD hS => ?_)
  have hP : va_P D fx_cl [(h0, .inr (7, [.ref q0, .ref q1, .int 0, .ref q2, .ref q3, .ref q4, .ref q5, .ref q6, .ref q7, .ref q8, .null, .null, .null, .null, .null, .null, .null, .int 0, .int 0, .int 0, .null, .null, .null, .null, .null, .null, .int 0, .int 0, .null, .null, .null, .null, .null, .int 0, .null, .int 0, .int 0, .int 0, .int 0, .int 0])), (q0, .inl (cI, 7, .inl (fun _ => 0))), (q1, .inl (cI, 7, .inl (fun _ => 0))), (q2, .inl (cI, 1008, .inl (fun _ => 0))), (q3, .inl (cI, 1008, .inl (fun _ => 0))), (q4, .inl (cI, 1008, .inl (fun _ => 0))), (q5, .inl (cI, 1008, .inl (fun _ => 0))), (q6, .inl (cI, 7, .inl (fun _ => 0))), (q7, .inl (cI, 7, .inl (fun _ => 0))), (q8, .inl (cI, 7, .inl (fun _ => 0)))] H := hP
  have hD : va_D A [(h0, .inr (7, [.ref q0, .ref q1, .int 0, .ref q2, .ref q3, .ref q4, .ref q5, .ref q6, .ref q7, .ref q8, .null, .null, .null, .null, .null, .null, .null, .int 0, .int 0, .int 0, .null, .null, .null, .null, .null, .null, .int 0, .int 0, .null, .null, .null, .null, .null, .int 0, .null, .int 0, .int 0, .int 0, .int 0, .int 0])), (q0, .inl (cI, 7, .inl (fun _ => 0))), (q1, .inl (cI, 7, .inl (fun _ => 0))), (q2, .inl (cI, 1008, .inl (fun _ => 0))), (q3, .inl (cI, 1008, .inl (fun _ => 0))), (q4, .inl (cI, 1008, .inl (fun _ => 0))), (q5, .inl (cI, 1008, .inl (fun _ => 0))), (q6, .inl (cI, 7, .inl (fun _ => 0))), (q7, .inl (cI, 7, .inl (fun _ => 0))), (q8, .inl (cI, 7, .inl (fun _ => 0)))] := hD
  refine lv_aload_n hx hb (show decode prog_9_method_1_code 80 = .ok (.aload_n 0, 1) by decide +kernel) rfl (lv_at hl 0 rfl) ?_
  refine lv_bipush (v := fx_I (7)) hx hb (show decode prog_9_method_1_code 81 = .ok (.bipush 7, 2) by decide +kernel) (by decide) ?_
  refine fx_newZ (n := 7) hx hb hts wd_293 hK hP hD hS hA (by omega) (show 9 + 1 ≤ 28 by omega) (show 4067 + 7 ≤ 8640 by omega) (show decode prog_9_method_1_code 83 = .ok (.newarray .boolean, 2) by decide +kernel) (fun q9 H hP hD hS => ?_)
  have hP : va_P D fx_cl [(h0, .inr (7, [.ref q0, .ref q1, .int 0, .ref q2, .ref q3, .ref q4, .ref q5, .ref q6, .ref q7, .ref q8, .null, .null, .null, .null, .null, .null, .null, .int 0, .int 0, .int 0, .null, .null, .null, .null, .null, .null, .int 0, .int 0, .null, .null, .null, .null, .null, .int 0, .null, .int 0, .int 0, .int 0, .int 0, .int 0])), (q0, .inl (cI, 7, .inl (fun _ => 0))), (q1, .inl (cI, 7, .inl (fun _ => 0))), (q2, .inl (cI, 1008, .inl (fun _ => 0))), (q3, .inl (cI, 1008, .inl (fun _ => 0))), (q4, .inl (cI, 1008, .inl (fun _ => 0))), (q5, .inl (cI, 1008, .inl (fun _ => 0))), (q6, .inl (cI, 7, .inl (fun _ => 0))), (q7, .inl (cI, 7, .inl (fun _ => 0))), (q8, .inl (cI, 7, .inl (fun _ => 0))), (q9, .inl (cZ, 7, .inl (fun _ => 0)))] H := hP
  have hD : va_D A [(h0, .inr (7, [.ref q0, .ref q1, .int 0, .ref q2, .ref q3, .ref q4, .ref q5, .ref q6, .ref q7, .ref q8, .null, .null, .null, .null, .null, .null, .null, .int 0, .int 0, .int 0, .null, .null, .null, .null, .null, .null, .int 0, .int 0, .null, .null, .null, .null, .null, .int 0, .null, .int 0, .int 0, .int 0, .int 0, .int 0])), (q0, .inl (cI, 7, .inl (fun _ => 0))), (q1, .inl (cI, 7, .inl (fun _ => 0))), (q2, .inl (cI, 1008, .inl (fun _ => 0))), (q3, .inl (cI, 1008, .inl (fun _ => 0))), (q4, .inl (cI, 1008, .inl (fun _ => 0))), (q5, .inl (cI, 1008, .inl (fun _ => 0))), (q6, .inl (cI, 7, .inl (fun _ => 0))), (q7, .inl (cI, 7, .inl (fun _ => 0))), (q8, .inl (cI, 7, .inl (fun _ => 0))), (q9, .inl (cZ, 7, .inl (fun _ => 0)))] := hD
  refine W.widen (k := 10) (n := 4074) (by omega) (by omega) ?_
  refine fx_putC (o := 7) (ci := 7) (k := 10) (ty := .array .boolean) hx hb hts hown hin hK hP hD hS 0 rfl (by decide +kernel) rfl (by decide +kernel) rfl rfl (show 10 < 40 by omega) (show decode prog_9_method_1_code 85 = .ok (.putfield 37, 3) by decide +kernel) (fun H locs hP hD hS => ?_)
  have hP : va_P D fx_cl [(h0, .inr (7, [.ref q0, .ref q1, .int 0, .ref q2, .ref q3, .ref q4, .ref q5, .ref q6, .ref q7, .ref q8, .ref q9, .null, .null, .null, .null, .null, .null, .int 0, .int 0, .int 0, .null, .null, .null, .null, .null, .null, .int 0, .int 0, .null, .null, .null, .null, .null, .int 0, .null, .int 0, .int 0, .int 0, .int 0, .int 0])), (q0, .inl (cI, 7, .inl (fun _ => 0))), (q1, .inl (cI, 7, .inl (fun _ => 0))), (q2, .inl (cI, 1008, .inl (fun _ => 0))), (q3, .inl (cI, 1008, .inl (fun _ => 0))), (q4, .inl (cI, 1008, .inl (fun _ => 0))), (q5, .inl (cI, 1008, .inl (fun _ => 0))), (q6, .inl (cI, 7, .inl (fun _ => 0))), (q7, .inl (cI, 7, .inl (fun _ => 0))), (q8, .inl (cI, 7, .inl (fun _ => 0))), (q9, .inl (cZ, 7, .inl (fun _ => 0)))] H := hP
  have hD : va_D A [(h0, .inr (7, [.ref q0, .ref q1, .int 0, .ref q2, .ref q3, .ref q4, .ref q5, .ref q6, .ref q7, .ref q8, .ref q9, .null, .null, .null, .null, .null, .null, .int 0, .int 0, .int 0, .null, .null, .null, .null, .null, .null, .int 0, .int 0, .null, .null, .null, .null, .null, .int 0, .null, .int 0, .int 0, .int 0, .int 0, .int 0])), (q0, .inl (cI, 7, .inl (fun _ => 0))), (q1, .inl (cI, 7, .inl (fun _ => 0))), (q2, .inl (cI, 1008, .inl (fun _ => 0))), (q3, .inl (cI, 1008, .inl (fun _ => 0))), (q4, .inl (cI, 1008, .inl (fun _ => 0))), (q5, .inl (cI, 1008, .inl (fun _ => 0))), (q6, .inl (cI, 7, .inl (fun _ => 0))), (q7, .inl (cI, 7, .inl (fun _ => 0))), (q8, .inl (cI, 7, .inl (fun _ => 0))), (q9, .inl (cZ, 7, .inl (fun _ => 0)))] := hD
  refine lv_aload_n hx hb (show decode prog_9_method_1_code 88 = .ok (.aload_n 0, 1) by decide +kernel) rfl (lv_at hl 0 rfl) ?_
  refine lv_bipush (v := fx_I (7)) hx hb (show decode prog_9_method_1_code 89 = .ok (.bipush 7, 2) by decide +kernel) (by decide) ?_
  refine fx_newI (n := 7) hx hb hts wd_90 hK hP hD hS hA (by omega) (show 10 + 1 ≤ 28 by omega) (show 4074 + 7 ≤ 8640 by omega) (show decode prog_9_method_1_code 91 = .ok (.newarray .int, 2) by decide +kernel) (fun q10 H hP hD hS => ?_)
  have hP : va_P D fx_cl [(h0, .inr (7, [.ref q0, .ref q1, .int 0, .ref q2, .ref q3, .ref q4, .ref q5, .ref q6, .ref q7, .ref q8, .ref q9, .null, .null, .null, .null, .null, .null, .int 0, .int 0, .int 0, .null, .null, .null, .null, .null, .null, .int 0, .int 0, .null, .null, .null, .null, .null, .int 0, .null, .int 0, .int 0, .int 0, .int 0, .int 0])), (q0, .inl (cI, 7, .inl (fun _ => 0))), (q1, .inl (cI, 7, .inl (fun _ => 0))), (q2, .inl (cI, 1008, .inl (fun _ => 0))), (q3, .inl (cI, 1008, .inl (fun _ => 0))), (q4, .inl (cI, 1008, .inl (fun _ => 0))), (q5, .inl (cI, 1008, .inl (fun _ => 0))), (q6, .inl (cI, 7, .inl (fun _ => 0))), (q7, .inl (cI, 7, .inl (fun _ => 0))), (q8, .inl (cI, 7, .inl (fun _ => 0))), (q9, .inl (cZ, 7, .inl (fun _ => 0))), (q10, .inl (cI, 7, .inl (fun _ => 0)))] H := hP
  have hD : va_D A [(h0, .inr (7, [.ref q0, .ref q1, .int 0, .ref q2, .ref q3, .ref q4, .ref q5, .ref q6, .ref q7, .ref q8, .ref q9, .null, .null, .null, .null, .null, .null, .int 0, .int 0, .int 0, .null, .null, .null, .null, .null, .null, .int 0, .int 0, .null, .null, .null, .null, .null, .int 0, .null, .int 0, .int 0, .int 0, .int 0, .int 0])), (q0, .inl (cI, 7, .inl (fun _ => 0))), (q1, .inl (cI, 7, .inl (fun _ => 0))), (q2, .inl (cI, 1008, .inl (fun _ => 0))), (q3, .inl (cI, 1008, .inl (fun _ => 0))), (q4, .inl (cI, 1008, .inl (fun _ => 0))), (q5, .inl (cI, 1008, .inl (fun _ => 0))), (q6, .inl (cI, 7, .inl (fun _ => 0))), (q7, .inl (cI, 7, .inl (fun _ => 0))), (q8, .inl (cI, 7, .inl (fun _ => 0))), (q9, .inl (cZ, 7, .inl (fun _ => 0))), (q10, .inl (cI, 7, .inl (fun _ => 0)))] := hD
  refine W.widen (k := 11) (n := 4081) (by omega) (by omega) ?_
  refine fx_putC (o := 7) (ci := 7) (k := 11) (ty := .array .int) hx hb hts hown hin hK hP hD hS 0 rfl (by decide +kernel) rfl (by decide +kernel) rfl rfl (show 11 < 40 by omega) (show decode prog_9_method_1_code 93 = .ok (.putfield 41, 3) by decide +kernel) (fun H locs hP hD hS => ?_)
  have hP : va_P D fx_cl [(h0, .inr (7, [.ref q0, .ref q1, .int 0, .ref q2, .ref q3, .ref q4, .ref q5, .ref q6, .ref q7, .ref q8, .ref q9, .ref q10, .null, .null, .null, .null, .null, .int 0, .int 0, .int 0, .null, .null, .null, .null, .null, .null, .int 0, .int 0, .null, .null, .null, .null, .null, .int 0, .null, .int 0, .int 0, .int 0, .int 0, .int 0])), (q0, .inl (cI, 7, .inl (fun _ => 0))), (q1, .inl (cI, 7, .inl (fun _ => 0))), (q2, .inl (cI, 1008, .inl (fun _ => 0))), (q3, .inl (cI, 1008, .inl (fun _ => 0))), (q4, .inl (cI, 1008, .inl (fun _ => 0))), (q5, .inl (cI, 1008, .inl (fun _ => 0))), (q6, .inl (cI, 7, .inl (fun _ => 0))), (q7, .inl (cI, 7, .inl (fun _ => 0))), (q8, .inl (cI, 7, .inl (fun _ => 0))), (q9, .inl (cZ, 7, .inl (fun _ => 0))), (q10, .inl (cI, 7, .inl (fun _ => 0)))] H := hP
  have hD : va_D A [(h0, .inr (7, [.ref q0, .ref q1, .int 0, .ref q2, .ref q3, .ref q4, .ref q5, .ref q6, .ref q7, .ref q8, .ref q9, .ref q10, .null, .null, .null, .null, .null, .int 0, .int 0, .int 0, .null, .null, .null, .null, .null, .null, .int 0, .int 0, .null, .null, .null, .null, .null, .int 0, .null, .int 0, .int 0, .int 0, .int 0, .int 0])), (q0, .inl (cI, 7, .inl (fun _ => 0))), (q1, .inl (cI, 7, .inl (fun _ => 0))), (q2, .inl (cI, 1008, .inl (fun _ => 0))), (q3, .inl (cI, 1008, .inl (fun _ => 0))), (q4, .inl (cI, 1008, .inl (fun _ => 0))), (q5, .inl (cI, 1008, .inl (fun _ => 0))), (q6, .inl (cI, 7, .inl (fun _ => 0))), (q7, .inl (cI, 7, .inl (fun _ => 0))), (q8, .inl (cI, 7, .inl (fun _ => 0))), (q9, .inl (cZ, 7, .inl (fun _ => 0))), (q10, .inl (cI, 7, .inl (fun _ => 0)))] := hD
  refine lv_aload_n hx hb (show decode prog_9_method_1_code 96 = .ok (.aload_n 0, 1) by decide +kernel) rfl (lv_at hl 0 rfl) ?_
  refine lv_bipush (v := fx_I (7)) hx hb (show decode prog_9_method_1_code 97 = .ok (.bipush 7, 2) by decide +kernel) (by decide) ?_
  refine fx_newI (n := 7) hx hb hts wd_90 hK hP hD hS hA (by omega) (show 11 + 1 ≤ 28 by omega) (show 4081 + 7 ≤ 8640 by omega) (show decode prog_9_method_1_code 99 = .ok (.newarray .int, 2) by decide +kernel) (fun q11 H hP hD hS => ?_)
  have hP : va_P D fx_cl [(h0, .inr (7, [.ref q0, .ref q1, .int 0, .ref q2, .ref q3, .ref q4, .ref q5, .ref q6, .ref q7, .ref q8, .ref q9, .ref q10, .null, .null, .null, .null, .null, .int 0, .int 0, .int 0, .null, .null, .null, .null, .null, .null, .int 0, .int 0, .null, .null, .null, .null, .null, .int 0, .null, .int 0, .int 0, .int 0, .int 0, .int 0])), (q0, .inl (cI, 7, .inl (fun _ => 0))), (q1, .inl (cI, 7, .inl (fun _ => 0))), (q2, .inl (cI, 1008, .inl (fun _ => 0))), (q3, .inl (cI, 1008, .inl (fun _ => 0))), (q4, .inl (cI, 1008, .inl (fun _ => 0))), (q5, .inl (cI, 1008, .inl (fun _ => 0))), (q6, .inl (cI, 7, .inl (fun _ => 0))), (q7, .inl (cI, 7, .inl (fun _ => 0))), (q8, .inl (cI, 7, .inl (fun _ => 0))), (q9, .inl (cZ, 7, .inl (fun _ => 0))), (q10, .inl (cI, 7, .inl (fun _ => 0))), (q11, .inl (cI, 7, .inl (fun _ => 0)))] H := hP
  have hD : va_D A [(h0, .inr (7, [.ref q0, .ref q1, .int 0, .ref q2, .ref q3, .ref q4, .ref q5, .ref q6, .ref q7, .ref q8, .ref q9, .ref q10, .null, .null, .null, .null, .null, .int 0, .int 0, .int 0, .null, .null, .null, .null, .null, .null, .int 0, .int 0, .null, .null, .null, .null, .null, .int 0, .null, .int 0, .int 0, .int 0, .int 0, .int 0])), (q0, .inl (cI, 7, .inl (fun _ => 0))), (q1, .inl (cI, 7, .inl (fun _ => 0))), (q2, .inl (cI, 1008, .inl (fun _ => 0))), (q3, .inl (cI, 1008, .inl (fun _ => 0))), (q4, .inl (cI, 1008, .inl (fun _ => 0))), (q5, .inl (cI, 1008, .inl (fun _ => 0))), (q6, .inl (cI, 7, .inl (fun _ => 0))), (q7, .inl (cI, 7, .inl (fun _ => 0))), (q8, .inl (cI, 7, .inl (fun _ => 0))), (q9, .inl (cZ, 7, .inl (fun _ => 0))), (q10, .inl (cI, 7, .inl (fun _ => 0))), (q11, .inl (cI, 7, .inl (fun _ => 0)))] := hD
  refine W.widen (k := 12) (n := 4088) (by omega) (by omega) ?_
  refine fx_putC (o := 7) (ci := 7) (k := 12) (ty := .array .int) hx hb hts hown hin hK hP hD hS 0 rfl (by decide +kernel) rfl (by decide +kernel) rfl rfl (show 12 < 40 by omega) (show decode prog_9_method_1_code 101 = .ok (.putfield 44, 3) by decide +kernel) (fun H locs hP hD hS => ?_)
  have hP : va_P D fx_cl [(h0, .inr (7, [.ref q0, .ref q1, .int 0, .ref q2, .ref q3, .ref q4, .ref q5, .ref q6, .ref q7, .ref q8, .ref q9, .ref q10, .ref q11, .null, .null, .null, .null, .int 0, .int 0, .int 0, .null, .null, .null, .null, .null, .null, .int 0, .int 0, .null, .null, .null, .null, .null, .int 0, .null, .int 0, .int 0, .int 0, .int 0, .int 0])), (q0, .inl (cI, 7, .inl (fun _ => 0))), (q1, .inl (cI, 7, .inl (fun _ => 0))), (q2, .inl (cI, 1008, .inl (fun _ => 0))), (q3, .inl (cI, 1008, .inl (fun _ => 0))), (q4, .inl (cI, 1008, .inl (fun _ => 0))), (q5, .inl (cI, 1008, .inl (fun _ => 0))), (q6, .inl (cI, 7, .inl (fun _ => 0))), (q7, .inl (cI, 7, .inl (fun _ => 0))), (q8, .inl (cI, 7, .inl (fun _ => 0))), (q9, .inl (cZ, 7, .inl (fun _ => 0))), (q10, .inl (cI, 7, .inl (fun _ => 0))), (q11, .inl (cI, 7, .inl (fun _ => 0)))] H := hP
  have hD : va_D A [(h0, .inr (7, [.ref q0, .ref q1, .int 0, .ref q2, .ref q3, .ref q4, .ref q5, .ref q6, .ref q7, .ref q8, .ref q9, .ref q10, .ref q11, .null, .null, .null, .null, .int 0, .int 0, .int 0, .null, .null, .null, .null, .null, .null, .int 0, .int 0, .null, .null, .null, .null, .null, .int 0, .null, .int 0, .int 0, .int 0, .int 0, .int 0])), (q0, .inl (cI, 7, .inl (fun _ => 0))), (q1, .inl (cI, 7, .inl (fun _ => 0))), (q2, .inl (cI, 1008, .inl (fun _ => 0))), (q3, .inl (cI, 1008, .inl (fun _ => 0))), (q4, .inl (cI, 1008, .inl (fun _ => 0))), (q5, .inl (cI, 1008, .inl (fun _ => 0))), (q6, .inl (cI, 7, .inl (fun _ => 0))), (q7, .inl (cI, 7, .inl (fun _ => 0))), (q8, .inl (cI, 7, .inl (fun _ => 0))), (q9, .inl (cZ, 7, .inl (fun _ => 0))), (q10, .inl (cI, 7, .inl (fun _ => 0))), (q11, .inl (cI, 7, .inl (fun _ => 0)))] := hD
  refine lv_aload_n hx hb (show decode prog_9_method_1_code 104 = .ok (.aload_n 0, 1) by decide +kernel) rfl (lv_at hl 0 rfl) ?_
  refine lv_bipush (v := fx_I (42)) hx hb (show decode prog_9_method_1_code 105 = .ok (.bipush 42, 2) by decide +kernel) (by decide) ?_
  refine fx_newI (n := 42) hx hb hts wd_90 hK hP hD hS hA (by omega) (show 12 + 1 ≤ 28 by omega) (show 4088 + 42 ≤ 8640 by omega) (show decode prog_9_method_1_code 107 = .ok (.newarray .int, 2) by decide +kernel) (fun q12 H hP hD hS => ?_)
  have hP : va_P D fx_cl [(h0, .inr (7, [.ref q0, .ref q1, .int 0, .ref q2, .ref q3, .ref q4, .ref q5, .ref q6, .ref q7, .ref q8, .ref q9, .ref q10, .ref q11, .null, .null, .null, .null, .int 0, .int 0, .int 0, .null, .null, .null, .null, .null, .null, .int 0, .int 0, .null, .null, .null, .null, .null, .int 0, .null, .int 0, .int 0, .int 0, .int 0, .int 0])), (q0, .inl (cI, 7, .inl (fun _ => 0))), (q1, .inl (cI, 7, .inl (fun _ => 0))), (q2, .inl (cI, 1008, .inl (fun _ => 0))), (q3, .inl (cI, 1008, .inl (fun _ => 0))), (q4, .inl (cI, 1008, .inl (fun _ => 0))), (q5, .inl (cI, 1008, .inl (fun _ => 0))), (q6, .inl (cI, 7, .inl (fun _ => 0))), (q7, .inl (cI, 7, .inl (fun _ => 0))), (q8, .inl (cI, 7, .inl (fun _ => 0))), (q9, .inl (cZ, 7, .inl (fun _ => 0))), (q10, .inl (cI, 7, .inl (fun _ => 0))), (q11, .inl (cI, 7, .inl (fun _ => 0))), (q12, .inl (cI, 42, .inl (fun _ => 0)))] H := hP
  have hD : va_D A [(h0, .inr (7, [.ref q0, .ref q1, .int 0, .ref q2, .ref q3, .ref q4, .ref q5, .ref q6, .ref q7, .ref q8, .ref q9, .ref q10, .ref q11, .null, .null, .null, .null, .int 0, .int 0, .int 0, .null, .null, .null, .null, .null, .null, .int 0, .int 0, .null, .null, .null, .null, .null, .int 0, .null, .int 0, .int 0, .int 0, .int 0, .int 0])), (q0, .inl (cI, 7, .inl (fun _ => 0))), (q1, .inl (cI, 7, .inl (fun _ => 0))), (q2, .inl (cI, 1008, .inl (fun _ => 0))), (q3, .inl (cI, 1008, .inl (fun _ => 0))), (q4, .inl (cI, 1008, .inl (fun _ => 0))), (q5, .inl (cI, 1008, .inl (fun _ => 0))), (q6, .inl (cI, 7, .inl (fun _ => 0))), (q7, .inl (cI, 7, .inl (fun _ => 0))), (q8, .inl (cI, 7, .inl (fun _ => 0))), (q9, .inl (cZ, 7, .inl (fun _ => 0))), (q10, .inl (cI, 7, .inl (fun _ => 0))), (q11, .inl (cI, 7, .inl (fun _ => 0))), (q12, .inl (cI, 42, .inl (fun _ => 0)))] := hD
  refine W.widen (k := 13) (n := 4130) (by omega) (by omega) ?_
  refine fx_putC (o := 7) (ci := 7) (k := 13) (ty := .array .int) hx hb hts hown hin hK hP hD hS 0 rfl (by decide +kernel) rfl (by decide +kernel) rfl rfl (show 13 < 40 by omega) (show decode prog_9_method_1_code 109 = .ok (.putfield 47, 3) by decide +kernel) (fun H locs hP hD hS => ?_)
  have hP : va_P D fx_cl [(h0, .inr (7, [.ref q0, .ref q1, .int 0, .ref q2, .ref q3, .ref q4, .ref q5, .ref q6, .ref q7, .ref q8, .ref q9, .ref q10, .ref q11, .ref q12, .null, .null, .null, .int 0, .int 0, .int 0, .null, .null, .null, .null, .null, .null, .int 0, .int 0, .null, .null, .null, .null, .null, .int 0, .null, .int 0, .int 0, .int 0, .int 0, .int 0])), (q0, .inl (cI, 7, .inl (fun _ => 0))), (q1, .inl (cI, 7, .inl (fun _ => 0))), (q2, .inl (cI, 1008, .inl (fun _ => 0))), (q3, .inl (cI, 1008, .inl (fun _ => 0))), (q4, .inl (cI, 1008, .inl (fun _ => 0))), (q5, .inl (cI, 1008, .inl (fun _ => 0))), (q6, .inl (cI, 7, .inl (fun _ => 0))), (q7, .inl (cI, 7, .inl (fun _ => 0))), (q8, .inl (cI, 7, .inl (fun _ => 0))), (q9, .inl (cZ, 7, .inl (fun _ => 0))), (q10, .inl (cI, 7, .inl (fun _ => 0))), (q11, .inl (cI, 7, .inl (fun _ => 0))), (q12, .inl (cI, 42, .inl (fun _ => 0)))] H := hP
  have hD : va_D A [(h0, .inr (7, [.ref q0, .ref q1, .int 0, .ref q2, .ref q3, .ref q4, .ref q5, .ref q6, .ref q7, .ref q8, .ref q9, .ref q10, .ref q11, .ref q12, .null, .null, .null, .int 0, .int 0, .int 0, .null, .null, .null, .null, .null, .null, .int 0, .int 0, .null, .null, .null, .null, .null, .int 0, .null, .int 0, .int 0, .int 0, .int 0, .int 0])), (q0, .inl (cI, 7, .inl (fun _ => 0))), (q1, .inl (cI, 7, .inl (fun _ => 0))), (q2, .inl (cI, 1008, .inl (fun _ => 0))), (q3, .inl (cI, 1008, .inl (fun _ => 0))), (q4, .inl (cI, 1008, .inl (fun _ => 0))), (q5, .inl (cI, 1008, .inl (fun _ => 0))), (q6, .inl (cI, 7, .inl (fun _ => 0))), (q7, .inl (cI, 7, .inl (fun _ => 0))), (q8, .inl (cI, 7, .inl (fun _ => 0))), (q9, .inl (cZ, 7, .inl (fun _ => 0))), (q10, .inl (cI, 7, .inl (fun _ => 0))), (q11, .inl (cI, 7, .inl (fun _ => 0))), (q12, .inl (cI, 42, .inl (fun _ => 0)))] := hD
  refine lv_aload_n hx hb (show decode prog_9_method_1_code 112 = .ok (.aload_n 0, 1) by decide +kernel) rfl (lv_at hl 0 rfl) ?_
  refine lv_bipush (v := fx_I (42)) hx hb (show decode prog_9_method_1_code 113 = .ok (.bipush 42, 2) by decide +kernel) (by decide) ?_
  refine fx_newI (n := 42) hx hb hts wd_90 hK hP hD hS hA (by omega) (show 13 + 1 ≤ 28 by omega) (show 4130 + 42 ≤ 8640 by omega) (show decode prog_9_method_1_code 115 = .ok (.newarray .int, 2) by decide +kernel) (fun q13 H hP hD hS => ?_)
  have hP : va_P D fx_cl [(h0, .inr (7, [.ref q0, .ref q1, .int 0, .ref q2, .ref q3, .ref q4, .ref q5, .ref q6, .ref q7, .ref q8, .ref q9, .ref q10, .ref q11, .ref q12, .null, .null, .null, .int 0, .int 0, .int 0, .null, .null, .null, .null, .null, .null, .int 0, .int 0, .null, .null, .null, .null, .null, .int 0, .null, .int 0, .int 0, .int 0, .int 0, .int 0])), (q0, .inl (cI, 7, .inl (fun _ => 0))), (q1, .inl (cI, 7, .inl (fun _ => 0))), (q2, .inl (cI, 1008, .inl (fun _ => 0))), (q3, .inl (cI, 1008, .inl (fun _ => 0))), (q4, .inl (cI, 1008, .inl (fun _ => 0))), (q5, .inl (cI, 1008, .inl (fun _ => 0))), (q6, .inl (cI, 7, .inl (fun _ => 0))), (q7, .inl (cI, 7, .inl (fun _ => 0))), (q8, .inl (cI, 7, .inl (fun _ => 0))), (q9, .inl (cZ, 7, .inl (fun _ => 0))), (q10, .inl (cI, 7, .inl (fun _ => 0))), (q11, .inl (cI, 7, .inl (fun _ => 0))), (q12, .inl (cI, 42, .inl (fun _ => 0))), (q13, .inl (cI, 42, .inl (fun _ => 0)))] H := hP
  have hD : va_D A [(h0, .inr (7, [.ref q0, .ref q1, .int 0, .ref q2, .ref q3, .ref q4, .ref q5, .ref q6, .ref q7, .ref q8, .ref q9, .ref q10, .ref q11, .ref q12, .null, .null, .null, .int 0, .int 0, .int 0, .null, .null, .null, .null, .null, .null, .int 0, .int 0, .null, .null, .null, .null, .null, .int 0, .null, .int 0, .int 0, .int 0, .int 0, .int 0])), (q0, .inl (cI, 7, .inl (fun _ => 0))), (q1, .inl (cI, 7, .inl (fun _ => 0))), (q2, .inl (cI, 1008, .inl (fun _ => 0))), (q3, .inl (cI, 1008, .inl (fun _ => 0))), (q4, .inl (cI, 1008, .inl (fun _ => 0))), (q5, .inl (cI, 1008, .inl (fun _ => 0))), (q6, .inl (cI, 7, .inl (fun _ => 0))), (q7, .inl (cI, 7, .inl (fun _ => 0))), (q8, .inl (cI, 7, .inl (fun _ => 0))), (q9, .inl (cZ, 7, .inl (fun _ => 0))), (q10, .inl (cI, 7, .inl (fun _ => 0))), (q11, .inl (cI, 7, .inl (fun _ => 0))), (q12, .inl (cI, 42, .inl (fun _ => 0))), (q13, .inl (cI, 42, .inl (fun _ => 0)))] := hD
  refine W.widen (k := 14) (n := 4172) (by omega) (by omega) ?_
  refine fx_putC (o := 7) (ci := 7) (k := 14) (ty := .array .int) hx hb hts hown hin hK hP hD hS 0 rfl (by decide +kernel) rfl (by decide +kernel) rfl rfl (show 14 < 40 by omega) (show decode prog_9_method_1_code 117 = .ok (.putfield 50, 3) by decide +kernel) (fun H locs hP hD hS => ?_)
  have hP : va_P D fx_cl [(h0, .inr (7, [.ref q0, .ref q1, .int 0, .ref q2, .ref q3, .ref q4, .ref q5, .ref q6, .ref q7, .ref q8, .ref q9, .ref q10, .ref q11, .ref q12, .ref q13, .null, .null, .int 0, .int 0, .int 0, .null, .null, .null, .null, .null, .null, .int 0, .int 0, .null, .null, .null, .null, .null, .int 0, .null, .int 0, .int 0, .int 0, .int 0, .int 0])), (q0, .inl (cI, 7, .inl (fun _ => 0))), (q1, .inl (cI, 7, .inl (fun _ => 0))), (q2, .inl (cI, 1008, .inl (fun _ => 0))), (q3, .inl (cI, 1008, .inl (fun _ => 0))), (q4, .inl (cI, 1008, .inl (fun _ => 0))), (q5, .inl (cI, 1008, .inl (fun _ => 0))), (q6, .inl (cI, 7, .inl (fun _ => 0))), (q7, .inl (cI, 7, .inl (fun _ => 0))), (q8, .inl (cI, 7, .inl (fun _ => 0))), (q9, .inl (cZ, 7, .inl (fun _ => 0))), (q10, .inl (cI, 7, .inl (fun _ => 0))), (q11, .inl (cI, 7, .inl (fun _ => 0))), (q12, .inl (cI, 42, .inl (fun _ => 0))), (q13, .inl (cI, 42, .inl (fun _ => 0)))] H := hP
  have hD : va_D A [(h0, .inr (7, [.ref q0, .ref q1, .int 0, .ref q2, .ref q3, .ref q4, .ref q5, .ref q6, .ref q7, .ref q8, .ref q9, .ref q10, .ref q11, .ref q12, .ref q13, .null, .null, .int 0, .int 0, .int 0, .null, .null, .null, .null, .null, .null, .int 0, .int 0, .null, .null, .null, .null, .null, .int 0, .null, .int 0, .int 0, .int 0, .int 0, .int 0])), (q0, .inl (cI, 7, .inl (fun _ => 0))), (q1, .inl (cI, 7, .inl (fun _ => 0))), (q2, .inl (cI, 1008, .inl (fun _ => 0))), (q3, .inl (cI, 1008, .inl (fun _ => 0))), (q4, .inl (cI, 1008, .inl (fun _ => 0))), (q5, .inl (cI, 1008, .inl (fun _ => 0))), (q6, .inl (cI, 7, .inl (fun _ => 0))), (q7, .inl (cI, 7, .inl (fun _ => 0))), (q8, .inl (cI, 7, .inl (fun _ => 0))), (q9, .inl (cZ, 7, .inl (fun _ => 0))), (q10, .inl (cI, 7, .inl (fun _ => 0))), (q11, .inl (cI, 7, .inl (fun _ => 0))), (q12, .inl (cI, 42, .inl (fun _ => 0))), (q13, .inl (cI, 42, .inl (fun _ => 0)))] := hD
  refine lv_aload_n hx hb (show decode prog_9_method_1_code 120 = .ok (.aload_n 0, 1) by decide +kernel) rfl (lv_at hl 0 rfl) ?_
  refine lv_bipush (v := fx_I (42)) hx hb (show decode prog_9_method_1_code 121 = .ok (.bipush 42, 2) by decide +kernel) (by decide) ?_
  refine fx_newI (n := 42) hx hb hts wd_90 hK hP hD hS hA (by omega) (show 14 + 1 ≤ 28 by omega) (show 4172 + 42 ≤ 8640 by omega) (show decode prog_9_method_1_code 123 = .ok (.newarray .int, 2) by decide +kernel) (fun q14 H hP hD hS => ?_)
  have hP : va_P D fx_cl [(h0, .inr (7, [.ref q0, .ref q1, .int 0, .ref q2, .ref q3, .ref q4, .ref q5, .ref q6, .ref q7, .ref q8, .ref q9, .ref q10, .ref q11, .ref q12, .ref q13, .null, .null, .int 0, .int 0, .int 0, .null, .null, .null, .null, .null, .null, .int 0, .int 0, .null, .null, .null, .null, .null, .int 0, .null, .int 0, .int 0, .int 0, .int 0, .int 0])), (q0, .inl (cI, 7, .inl (fun _ => 0))), (q1, .inl (cI, 7, .inl (fun _ => 0))), (q2, .inl (cI, 1008, .inl (fun _ => 0))), (q3, .inl (cI, 1008, .inl (fun _ => 0))), (q4, .inl (cI, 1008, .inl (fun _ => 0))), (q5, .inl (cI, 1008, .inl (fun _ => 0))), (q6, .inl (cI, 7, .inl (fun _ => 0))), (q7, .inl (cI, 7, .inl (fun _ => 0))), (q8, .inl (cI, 7, .inl (fun _ => 0))), (q9, .inl (cZ, 7, .inl (fun _ => 0))), (q10, .inl (cI, 7, .inl (fun _ => 0))), (q11, .inl (cI, 7, .inl (fun _ => 0))), (q12, .inl (cI, 42, .inl (fun _ => 0))), (q13, .inl (cI, 42, .inl (fun _ => 0))), (q14, .inl (cI, 42, .inl (fun _ => 0)))] H := hP
  have hD : va_D A [(h0, .inr (7, [.ref q0, .ref q1, .int 0, .ref q2, .ref q3, .ref q4, .ref q5, .ref q6, .ref q7, .ref q8, .ref q9, .ref q10, .ref q11, .ref q12, .ref q13, .null, .null, .int 0, .int 0, .int 0, .null, .null, .null, .null, .null, .null, .int 0, .int 0, .null, .null, .null, .null, .null, .int 0, .null, .int 0, .int 0, .int 0, .int 0, .int 0])), (q0, .inl (cI, 7, .inl (fun _ => 0))), (q1, .inl (cI, 7, .inl (fun _ => 0))), (q2, .inl (cI, 1008, .inl (fun _ => 0))), (q3, .inl (cI, 1008, .inl (fun _ => 0))), (q4, .inl (cI, 1008, .inl (fun _ => 0))), (q5, .inl (cI, 1008, .inl (fun _ => 0))), (q6, .inl (cI, 7, .inl (fun _ => 0))), (q7, .inl (cI, 7, .inl (fun _ => 0))), (q8, .inl (cI, 7, .inl (fun _ => 0))), (q9, .inl (cZ, 7, .inl (fun _ => 0))), (q10, .inl (cI, 7, .inl (fun _ => 0))), (q11, .inl (cI, 7, .inl (fun _ => 0))), (q12, .inl (cI, 42, .inl (fun _ => 0))), (q13, .inl (cI, 42, .inl (fun _ => 0))), (q14, .inl (cI, 42, .inl (fun _ => 0)))] := hD
  refine W.widen (k := 15) (n := 4214) (by omega) (by omega) ?_
  refine fx_putC (o := 7) (ci := 7) (k := 15) (ty := .array .int) hx hb hts hown hin hK hP hD hS 0 rfl (by decide +kernel) rfl (by decide +kernel) rfl rfl (show 15 < 40 by omega) (show decode prog_9_method_1_code 125 = .ok (.putfield 53, 3) by decide +kernel) (fun H locs hP hD hS => ?_)
  have hP : va_P D fx_cl [(h0, .inr (7, [.ref q0, .ref q1, .int 0, .ref q2, .ref q3, .ref q4, .ref q5, .ref q6, .ref q7, .ref q8, .ref q9, .ref q10, .ref q11, .ref q12, .ref q13, .ref q14, .null, .int 0, .int 0, .int 0, .null, .null, .null, .null, .null, .null, .int 0, .int 0, .null, .null, .null, .null, .null, .int 0, .null, .int 0, .int 0, .int 0, .int 0, .int 0])), (q0, .inl (cI, 7, .inl (fun _ => 0))), (q1, .inl (cI, 7, .inl (fun _ => 0))), (q2, .inl (cI, 1008, .inl (fun _ => 0))), (q3, .inl (cI, 1008, .inl (fun _ => 0))), (q4, .inl (cI, 1008, .inl (fun _ => 0))), (q5, .inl (cI, 1008, .inl (fun _ => 0))), (q6, .inl (cI, 7, .inl (fun _ => 0))), (q7, .inl (cI, 7, .inl (fun _ => 0))), (q8, .inl (cI, 7, .inl (fun _ => 0))), (q9, .inl (cZ, 7, .inl (fun _ => 0))), (q10, .inl (cI, 7, .inl (fun _ => 0))), (q11, .inl (cI, 7, .inl (fun _ => 0))), (q12, .inl (cI, 42, .inl (fun _ => 0))), (q13, .inl (cI, 42, .inl (fun _ => 0))), (q14, .inl (cI, 42, .inl (fun _ => 0)))] H := hP
  have hD : va_D A [(h0, .inr (7, [.ref q0, .ref q1, .int 0, .ref q2, .ref q3, .ref q4, .ref q5, .ref q6, .ref q7, .ref q8, .ref q9, .ref q10, .ref q11, .ref q12, .ref q13, .ref q14, .null, .int 0, .int 0, .int 0, .null, .null, .null, .null, .null, .null, .int 0, .int 0, .null, .null, .null, .null, .null, .int 0, .null, .int 0, .int 0, .int 0, .int 0, .int 0])), (q0, .inl (cI, 7, .inl (fun _ => 0))), (q1, .inl (cI, 7, .inl (fun _ => 0))), (q2, .inl (cI, 1008, .inl (fun _ => 0))), (q3, .inl (cI, 1008, .inl (fun _ => 0))), (q4, .inl (cI, 1008, .inl (fun _ => 0))), (q5, .inl (cI, 1008, .inl (fun _ => 0))), (q6, .inl (cI, 7, .inl (fun _ => 0))), (q7, .inl (cI, 7, .inl (fun _ => 0))), (q8, .inl (cI, 7, .inl (fun _ => 0))), (q9, .inl (cZ, 7, .inl (fun _ => 0))), (q10, .inl (cI, 7, .inl (fun _ => 0))), (q11, .inl (cI, 7, .inl (fun _ => 0))), (q12, .inl (cI, 42, .inl (fun _ => 0))), (q13, .inl (cI, 42, .inl (fun _ => 0))), (q14, .inl (cI, 42, .inl (fun _ => 0)))] := hD
  refine lv_aload_n hx hb (show decode prog_9_method_1_code 128 = .ok (.aload_n 0, 1) by decide +kernel) rfl (lv_at hl 0 rfl) ?_
  refine lv_bipush (v := fx_I (42)) hx hb (show decode prog_9_method_1_code 129 = .ok (.bipush 42, 2) by decide +kernel) (by decide) ?_
  refine fx_newI (n := 42) hx hb hts wd_90 hK hP hD hS hA (by omega) (show 15 + 1 ≤ 28 by omega) (show 4214 + 42 ≤ 8640 by omega) (show decode prog_9_method_1_code 131 = .ok (.newarray .int, 2) by decide +kernel) (fun q15 H hP hD hS => ?_)
  have hP : va_P D fx_cl [(h0, .inr (7, [.ref q0, .ref q1, .int 0, .ref q2, .ref q3, .ref q4, .ref q5, .ref q6, .ref q7, .ref q8, .ref q9, .ref q10, .ref q11, .ref q12, .ref q13, .ref q14, .null, .int 0, .int 0, .int 0, .null, .null, .null, .null, .null, .null, .int 0, .int 0, .null, .null, .null, .null, .null, .int 0, .null, .int 0, .int 0, .int 0, .int 0, .int 0])), (q0, .inl (cI, 7, .inl (fun _ => 0))), (q1, .inl (cI, 7, .inl (fun _ => 0))), (q2, .inl (cI, 1008, .inl (fun _ => 0))), (q3, .inl (cI, 1008, .inl (fun _ => 0))), (q4, .inl (cI, 1008, .inl (fun _ => 0))), (q5, .inl (cI, 1008, .inl (fun _ => 0))), (q6, .inl (cI, 7, .inl (fun _ => 0))), (q7, .inl (cI, 7, .inl (fun _ => 0))), (q8, .inl (cI, 7, .inl (fun _ => 0))), (q9, .inl (cZ, 7, .inl (fun _ => 0))), (q10, .inl (cI, 7, .inl (fun _ => 0))), (q11, .inl (cI, 7, .inl (fun _ => 0))), (q12, .inl (cI, 42, .inl (fun _ => 0))), (q13, .inl (cI, 42, .inl (fun _ => 0))), (q14, .inl (cI, 42, .inl (fun _ => 0))), (q15, .inl (cI, 42, .inl (fun _ => 0)))] H := hP
  have hD : va_D A [(h0, .inr (7, [.ref q0, .ref q1, .int 0, .ref q2, .ref q3, .ref q4, .ref q5, .ref q6, .ref q7, .ref q8, .ref q9, .ref q10, .ref q11, .ref q12, .ref q13, .ref q14, .null, .int 0, .int 0, .int 0, .null, .null, .null, .null, .null, .null, .int 0, .int 0, .null, .null, .null, .null, .null, .int 0, .null, .int 0, .int 0, .int 0, .int 0, .int 0])), (q0, .inl (cI, 7, .inl (fun _ => 0))), (q1, .inl (cI, 7, .inl (fun _ => 0))), (q2, .inl (cI, 1008, .inl (fun _ => 0))), (q3, .inl (cI, 1008, .inl (fun _ => 0))), (q4, .inl (cI, 1008, .inl (fun _ => 0))), (q5, .inl (cI, 1008, .inl (fun _ => 0))), (q6, .inl (cI, 7, .inl (fun _ => 0))), (q7, .inl (cI, 7, .inl (fun _ => 0))), (q8, .inl (cI, 7, .inl (fun _ => 0))), (q9, .inl (cZ, 7, .inl (fun _ => 0))), (q10, .inl (cI, 7, .inl (fun _ => 0))), (q11, .inl (cI, 7, .inl (fun _ => 0))), (q12, .inl (cI, 42, .inl (fun _ => 0))), (q13, .inl (cI, 42, .inl (fun _ => 0))), (q14, .inl (cI, 42, .inl (fun _ => 0))), (q15, .inl (cI, 42, .inl (fun _ => 0)))] := hD
  refine W.widen (k := 16) (n := 4256) (by omega) (by omega) ?_
  refine fx_putC (o := 7) (ci := 7) (k := 16) (ty := .array .int) hx hb hts hown hin hK hP hD hS 0 rfl (by decide +kernel) rfl (by decide +kernel) rfl rfl (show 16 < 40 by omega) (show decode prog_9_method_1_code 133 = .ok (.putfield 56, 3) by decide +kernel) (fun H locs hP hD hS => ?_)
  have hP : va_P D fx_cl [(h0, .inr (7, [.ref q0, .ref q1, .int 0, .ref q2, .ref q3, .ref q4, .ref q5, .ref q6, .ref q7, .ref q8, .ref q9, .ref q10, .ref q11, .ref q12, .ref q13, .ref q14, .ref q15, .int 0, .int 0, .int 0, .null, .null, .null, .null, .null, .null, .int 0, .int 0, .null, .null, .null, .null, .null, .int 0, .null, .int 0, .int 0, .int 0, .int 0, .int 0])), (q0, .inl (cI, 7, .inl (fun _ => 0))), (q1, .inl (cI, 7, .inl (fun _ => 0))), (q2, .inl (cI, 1008, .inl (fun _ => 0))), (q3, .inl (cI, 1008, .inl (fun _ => 0))), (q4, .inl (cI, 1008, .inl (fun _ => 0))), (q5, .inl (cI, 1008, .inl (fun _ => 0))), (q6, .inl (cI, 7, .inl (fun _ => 0))), (q7, .inl (cI, 7, .inl (fun _ => 0))), (q8, .inl (cI, 7, .inl (fun _ => 0))), (q9, .inl (cZ, 7, .inl (fun _ => 0))), (q10, .inl (cI, 7, .inl (fun _ => 0))), (q11, .inl (cI, 7, .inl (fun _ => 0))), (q12, .inl (cI, 42, .inl (fun _ => 0))), (q13, .inl (cI, 42, .inl (fun _ => 0))), (q14, .inl (cI, 42, .inl (fun _ => 0))), (q15, .inl (cI, 42, .inl (fun _ => 0)))] H := hP
  have hD : va_D A [(h0, .inr (7, [.ref q0, .ref q1, .int 0, .ref q2, .ref q3, .ref q4, .ref q5, .ref q6, .ref q7, .ref q8, .ref q9, .ref q10, .ref q11, .ref q12, .ref q13, .ref q14, .ref q15, .int 0, .int 0, .int 0, .null, .null, .null, .null, .null, .null, .int 0, .int 0, .null, .null, .null, .null, .null, .int 0, .null, .int 0, .int 0, .int 0, .int 0, .int 0])), (q0, .inl (cI, 7, .inl (fun _ => 0))), (q1, .inl (cI, 7, .inl (fun _ => 0))), (q2, .inl (cI, 1008, .inl (fun _ => 0))), (q3, .inl (cI, 1008, .inl (fun _ => 0))), (q4, .inl (cI, 1008, .inl (fun _ => 0))), (q5, .inl (cI, 1008, .inl (fun _ => 0))), (q6, .inl (cI, 7, .inl (fun _ => 0))), (q7, .inl (cI, 7, .inl (fun _ => 0))), (q8, .inl (cI, 7, .inl (fun _ => 0))), (q9, .inl (cZ, 7, .inl (fun _ => 0))), (q10, .inl (cI, 7, .inl (fun _ => 0))), (q11, .inl (cI, 7, .inl (fun _ => 0))), (q12, .inl (cI, 42, .inl (fun _ => 0))), (q13, .inl (cI, 42, .inl (fun _ => 0))), (q14, .inl (cI, 42, .inl (fun _ => 0))), (q15, .inl (cI, 42, .inl (fun _ => 0)))] := hD
  refine lv_aload_n hx hb (show decode prog_9_method_1_code 136 = .ok (.aload_n 0, 1) by decide +kernel) rfl (lv_at hl 0 rfl) ?_
  refine lv_iconst (v := fx_I (3)) hx hb (show decode prog_9_method_1_code 137 = .ok (.iconst 3, 1) by decide +kernel) rfl ?_
  refine fx_putC (o := 7) (ci := 7) (k := 17) (ty := .int) hx hb hts hown hin hK hP hD hS 0 rfl (by decide +kernel) rfl (by decide +kernel) rfl rfl (show 17 < 40 by omega) (show decode prog_9_method_1_code 138 = .ok (.putfield 59, 3) by decide +kernel) (fun H locs hP hD hS => ?_)
  have hP : va_P D fx_cl [(h0, .inr (7, [.ref q0, .ref q1, .int 0, .ref q2, .ref q3, .ref q4, .ref q5, .ref q6, .ref q7, .ref q8, .ref q9, .ref q10, .ref q11, .ref q12, .ref q13, .ref q14, .ref q15, .int (fx_I (3)), .int 0, .int 0, .null, .null, .null, .null, .null, .null, .int 0, .int 0, .null, .null, .null, .null, .null, .int 0, .null, .int 0, .int 0, .int 0, .int 0, .int 0])), (q0, .inl (cI, 7, .inl (fun _ => 0))), (q1, .inl (cI, 7, .inl (fun _ => 0))), (q2, .inl (cI, 1008, .inl (fun _ => 0))), (q3, .inl (cI, 1008, .inl (fun _ => 0))), (q4, .inl (cI, 1008, .inl (fun _ => 0))), (q5, .inl (cI, 1008, .inl (fun _ => 0))), (q6, .inl (cI, 7, .inl (fun _ => 0))), (q7, .inl (cI, 7, .inl (fun _ => 0))), (q8, .inl (cI, 7, .inl (fun _ => 0))), (q9, .inl (cZ, 7, .inl (fun _ => 0))), (q10, .inl (cI, 7, .inl (fun _ => 0))), (q11, .inl (cI, 7, .inl (fun _ => 0))), (q12, .inl (cI, 42, .inl (fun _ => 0))), (q13, .inl (cI, 42, .inl (fun _ => 0))), (q14, .inl (cI, 42, .inl (fun _ => 0))), (q15, .inl (cI, 42, .inl (fun _ => 0)))] H := hP
  have hD : va_D A [(h0, .inr (7, [.ref q0, .ref q1, .int 0, .ref q2, .ref q3, .ref q4, .ref q5, .ref q6, .ref q7, .ref q8, .ref q9, .ref q10, .ref q11, .ref q12, .ref q13, .ref q14, .ref q15, .int (fx_I (3)), .int 0, .int 0, .null, .null, .null, .null, .null, .null, .int 0, .int 0, .null, .null, .null, .null, .null, .int 0, .null, .int 0, .int 0, .int 0, .int 0, .int 0])), (q0, .inl (cI, 7, .inl (fun _ => 0))), (q1, .inl (cI, 7, .inl (fun _ => 0))), (q2, .inl (cI, 1008, .inl (fun _ => 0))), (q3, .inl (cI, 1008, .inl (fun _ => 0))), (q4, .inl (cI, 1008, .inl (fun _ => 0))), (q5, .inl (cI, 1008, .inl (fun _ => 0))), (q6, .inl (cI, 7, .inl (fun _ => 0))), (q7, .inl (cI, 7, .inl (fun _ => 0))), (q8, .inl (cI, 7, .inl (fun _ => 0))), (q9, .inl (cZ, 7, .inl (fun _ => 0))), (q10, .inl (cI, 7, .inl (fun _ => 0))), (q11, .inl (cI, 7, .inl (fun _ => 0))), (q12, .inl (cI, 42, .inl (fun _ => 0))), (q13, .inl (cI, 42, .inl (fun _ => 0))), (q14, .inl (cI, 42, .inl (fun _ => 0))), (q15, .inl (cI, 42, .inl (fun _ => 0)))] := hD
  refine lv_aload_n hx hb (show decode prog_9_method_1_code 141 = .ok (.aload_n 0, 1) by decide +kernel) rfl (lv_at hl 0 rfl) ?_
  refine lv_iconst (v := fx_I (2)) hx hb (show decode prog_9_method_1_code 142 = .ok (.iconst 2, 1) by decide +kernel) rfl ?_
  refine fx_putC (o := 7) (ci := 7) (k := 18) (ty := .int) hx hb hts hown hin hK hP hD hS 0 rfl (by decide +kernel) rfl (by decide +kernel) rfl rfl (show 18 < 40 by omega) (show decode prog_9_method_1_code 143 = .ok (.putfield 63, 3) by decide +kernel) (fun H locs hP hD hS => ?_)
  have hP : va_P D fx_cl [(h0, .inr (7, [.ref q0, .ref q1, .int 0, .ref q2, .ref q3, .ref q4, .ref q5, .ref q6, .ref q7, .ref q8, .ref q9, .ref q10, .ref q11, .ref q12, .ref q13, .ref q14, .ref q15, .int (fx_I (3)), .int (fx_I (2)), .int 0, .null, .null, .null, .null, .null, .null, .int 0, .int 0, .null, .null, .null, .null, .null, .int 0, .null, .int 0, .int 0, .int 0, .int 0, .int 0])), (q0, .inl (cI, 7, .inl (fun _ => 0))), (q1, .inl (cI, 7, .inl (fun _ => 0))), (q2, .inl (cI, 1008, .inl (fun _ => 0))), (q3, .inl (cI, 1008, .inl (fun _ => 0))), (q4, .inl (cI, 1008, .inl (fun _ => 0))), (q5, .inl (cI, 1008, .inl (fun _ => 0))), (q6, .inl (cI, 7, .inl (fun _ => 0))), (q7, .inl (cI, 7, .inl (fun _ => 0))), (q8, .inl (cI, 7, .inl (fun _ => 0))), (q9, .inl (cZ, 7, .inl (fun _ => 0))), (q10, .inl (cI, 7, .inl (fun _ => 0))), (q11, .inl (cI, 7, .inl (fun _ => 0))), (q12, .inl (cI, 42, .inl (fun _ => 0))), (q13, .inl (cI, 42, .inl (fun _ => 0))), (q14, .inl (cI, 42, .inl (fun _ => 0))), (q15, .inl (cI, 42, .inl (fun _ => 0)))] H := hP
  have hD : va_D A [(h0, .inr (7, [.ref q0, .ref q1, .int 0, .ref q2, .ref q3, .ref q4, .ref q5, .ref q6, .ref q7, .ref q8, .ref q9, .ref q10, .ref q11, .ref q12, .ref q13, .ref q14, .ref q15, .int (fx_I (3)), .int (fx_I (2)), .int 0, .null, .null, .null, .null, .null, .null, .int 0, .int 0, .null, .null, .null, .null, .null, .int 0, .null, .int 0, .int 0, .int 0, .int 0, .int 0])), (q0, .inl (cI, 7, .inl (fun _ => 0))), (q1, .inl (cI, 7, .inl (fun _ => 0))), (q2, .inl (cI, 1008, .inl (fun _ => 0))), (q3, .inl (cI, 1008, .inl (fun _ => 0))), (q4, .inl (cI, 1008, .inl (fun _ => 0))), (q5, .inl (cI, 1008, .inl (fun _ => 0))), (q6, .inl (cI, 7, .inl (fun _ => 0))), (q7, .inl (cI, 7, .inl (fun _ => 0))), (q8, .inl (cI, 7, .inl (fun _ => 0))), (q9, .inl (cZ, 7, .inl (fun _ => 0))), (q10, .inl (cI, 7, .inl (fun _ => 0))), (q11, .inl (cI, 7, .inl (fun _ => 0))), (q12, .inl (cI, 42, .inl (fun _ => 0))), (q13, .inl (cI, 42, .inl (fun _ => 0))), (q14, .inl (cI, 42, .inl (fun _ => 0))), (q15, .inl (cI, 42, .inl (fun _ => 0)))] := hD
  refine lv_aload_n hx hb (show decode prog_9_method_1_code 146 = .ok (.aload_n 0, 1) by decide +kernel) rfl (lv_at hl 0 rfl) ?_
  refine lv_bipush (v := fx_I (8)) hx hb (show decode prog_9_method_1_code 147 = .ok (.bipush 8, 2) by decide +kernel) (by decide) ?_
  refine fx_putC (o := 7) (ci := 7) (k := 19) (ty := .int) hx hb hts hown hin hK hP hD hS 0 rfl (by decide +kernel) rfl (by decide +kernel) rfl rfl (show 19 < 40 by omega) (show decode prog_9_method_1_code 149 = .ok (.putfield 66, 3) by decide +kernel) (fun H locs hP hD hS => ?_)
  have hP : va_P D fx_cl [(h0, .inr (7, [.ref q0, .ref q1, .int 0, .ref q2, .ref q3, .ref q4, .ref q5, .ref q6, .ref q7, .ref q8, .ref q9, .ref q10, .ref q11, .ref q12, .ref q13, .ref q14, .ref q15, .int (fx_I (3)), .int (fx_I (2)), .int (fx_I (8)), .null, .null, .null, .null, .null, .null, .int 0, .int 0, .null, .null, .null, .null, .null, .int 0, .null, .int 0, .int 0, .int 0, .int 0, .int 0])), (q0, .inl (cI, 7, .inl (fun _ => 0))), (q1, .inl (cI, 7, .inl (fun _ => 0))), (q2, .inl (cI, 1008, .inl (fun _ => 0))), (q3, .inl (cI, 1008, .inl (fun _ => 0))), (q4, .inl (cI, 1008, .inl (fun _ => 0))), (q5, .inl (cI, 1008, .inl (fun _ => 0))), (q6, .inl (cI, 7, .inl (fun _ => 0))), (q7, .inl (cI, 7, .inl (fun _ => 0))), (q8, .inl (cI, 7, .inl (fun _ => 0))), (q9, .inl (cZ, 7, .inl (fun _ => 0))), (q10, .inl (cI, 7, .inl (fun _ => 0))), (q11, .inl (cI, 7, .inl (fun _ => 0))), (q12, .inl (cI, 42, .inl (fun _ => 0))), (q13, .inl (cI, 42, .inl (fun _ => 0))), (q14, .inl (cI, 42, .inl (fun _ => 0))), (q15, .inl (cI, 42, .inl (fun _ => 0)))] H := hP
  have hD : va_D A [(h0, .inr (7, [.ref q0, .ref q1, .int 0, .ref q2, .ref q3, .ref q4, .ref q5, .ref q6, .ref q7, .ref q8, .ref q9, .ref q10, .ref q11, .ref q12, .ref q13, .ref q14, .ref q15, .int (fx_I (3)), .int (fx_I (2)), .int (fx_I (8)), .null, .null, .null, .null, .null, .null, .int 0, .int 0, .null, .null, .null, .null, .null, .int 0, .null, .int 0, .int 0, .int 0, .int 0, .int 0])), (q0, .inl (cI, 7, .inl (fun _ => 0))), (q1, .inl (cI, 7, .inl (fun _ => 0))), (q2, .inl (cI, 1008, .inl (fun _ => 0))), (q3, .inl (cI, 1008, .inl (fun _ => 0))), (q4, .inl (cI, 1008, .inl (fun _ => 0))), (q5, .inl (cI, 1008, .inl (fun _ => 0))), (q6, .inl (cI, 7, .inl (fun _ => 0))), (q7, .inl (cI, 7, .inl (fun _ => 0))), (q8, .inl (cI, 7, .inl (fun _ => 0))), (q9, .inl (cZ, 7, .inl (fun _ => 0))), (q10, .inl (cI, 7, .inl (fun _ => 0))), (q11, .inl (cI, 7, .inl (fun _ => 0))), (q12, .inl (cI, 42, .inl (fun _ => 0))), (q13, .inl (cI, 42, .inl (fun _ => 0))), (q14, .inl (cI, 42, .inl (fun _ => 0))), (q15, .inl (cI, 42, .inl (fun _ => 0)))] := hD
  refine lv_aload_n hx hb (show decode prog_9_method_1_code 152 = .ok (.aload_n 0, 1) by decide +kernel) rfl (lv_at hl 0 rfl) ?_
  refine lv_sipush (v := fx_I (3600)) hx hb (show decode prog_9_method_1_code 153 = .ok (.sipush 3600, 3) by decide +kernel) (by decide) ?_
  refine fx_newI (n := 3600) hx hb hts wd_90 hK hP hD hS hA (by omega) (show 16 + 1 ≤ 28 by omega) (show 4256 + 3600 ≤ 8640 by omega) (show decode prog_9_method_1_code 156 = .ok (.newarray .int, 2) by decide +kernel) (fun q16 H hP hD hS => ?_)
  have hP : va_P D fx_cl [(h0, .inr (7, [.ref q0, .ref q1, .int 0, .ref q2, .ref q3, .ref q4, .ref q5, .ref q6, .ref q7, .ref q8, .ref q9, .ref q10, .ref q11, .ref q12, .ref q13, .ref q14, .ref q15, .int (fx_I (3)), .int (fx_I (2)), .int (fx_I (8)), .null, .null, .null, .null, .null, .null, .int 0, .int 0, .null, .null, .null, .null, .null, .int 0, .null, .int 0, .int 0, .int 0, .int 0, .int 0])), (q0, .inl (cI, 7, .inl (fun _ => 0))), (q1, .inl (cI, 7, .inl (fun _ => 0))), (q2, .inl (cI, 1008, .inl (fun _ => 0))), (q3, .inl (cI, 1008, .inl (fun _ => 0))), (q4, .inl (cI, 1008, .inl (fun _ => 0))), (q5, .inl (cI, 1008, .inl (fun _ => 0))), (q6, .inl (cI, 7, .inl (fun _ => 0))), (q7, .inl (cI, 7, .inl (fun _ => 0))), (q8, .inl (cI, 7, .inl (fun _ => 0))), (q9, .inl (cZ, 7, .inl (fun _ => 0))), (q10, .inl (cI, 7, .inl (fun _ => 0))), (q11, .inl (cI, 7, .inl (fun _ => 0))), (q12, .inl (cI, 42, .inl (fun _ => 0))), (q13, .inl (cI, 42, .inl (fun _ => 0))), (q14, .inl (cI, 42, .inl (fun _ => 0))), (q15, .inl (cI, 42, .inl (fun _ => 0))), (q16, .inl (cI, 3600, .inl (fun _ => 0)))] H := hP
  have hD : va_D A [(h0, .inr (7, [.ref q0, .ref q1, .int 0, .ref q2, .ref q3, .ref q4, .ref q5, .ref q6, .ref q7, .ref q8, .ref q9, .ref q10, .ref q11, .ref q12, .ref q13, .ref q14, .ref q15, .int (fx_I (3)), .int (fx_I (2)), .int (fx_I (8)), .null, .null, .null, .null, .null, .null, .int 0, .int 0, .null, .null, .null, .null, .null, .int 0, .null, .int 0, .int 0, .int 0, .int 0, .int 0])), (q0, .inl (cI, 7, .inl (fun _ => 0))), (q1, .inl (cI, 7, .inl (fun _ => 0))), (q2, .inl (cI, 1008, .inl (fun _ => 0))), (q3, .inl (cI, 1008, .inl (fun _ => 0))), (q4, .inl (cI, 1008, .inl (fun _ => 0))), (q5, .inl (cI, 1008, .inl (fun _ => 0))), (q6, .inl (cI, 7, .inl (fun _ => 0))), (q7, .inl (cI, 7, .inl (fun _ => 0))), (q8, .inl (cI, 7, .inl (fun _ => 0))), (q9, .inl (cZ, 7, .inl (fun _ => 0))), (q10, .inl (cI, 7, .inl (fun _ => 0))), (q11, .inl (cI, 7, .inl (fun _ => 0))), (q12, .inl (cI, 42, .inl (fun _ => 0))), (q13, .inl (cI, 42, .inl (fun _ => 0))), (q14, .inl (cI, 42, .inl (fun _ => 0))), (q15, .inl (cI, 42, .inl (fun _ => 0))), (q16, .inl (cI, 3600, .inl (fun _ => 0)))] := hD
  refine W.widen (k := 17) (n := 7856) (by omega) (by omega) ?_
  refine fx_putC (o := 7) (ci := 7) (k := 20) (ty := .array .int) hx hb hts hown hin hK hP hD hS 0 rfl (by decide +kernel) rfl (by decide +kernel) rfl rfl (show 20 < 40 by omega) (show decode prog_9_method_1_code 158 = .ok (.putfield 69, 3) by decide +kernel) (fun H locs hP hD hS => ?_)
  have hP : va_P D fx_cl [(h0, .inr (7, [.ref q0, .ref q1, .int 0, .ref q2, .ref q3, .ref q4, .ref q5, .ref q6, .ref q7, .ref q8, .ref q9, .ref q10, .ref q11, .ref q12, .ref q13, .ref q14, .ref q15, .int (fx_I (3)), .int (fx_I (2)), .int (fx_I (8)), .ref q16, .null, .null, .null, .null, .null, .int 0, .int 0, .null, .null, .null, .null, .null, .int 0, .null, .int 0, .int 0, .int 0, .int 0, .int 0])), (q0, .inl (cI, 7, .inl (fun _ => 0))), (q1, .inl (cI, 7, .inl (fun _ => 0))), (q2, .inl (cI, 1008, .inl (fun _ => 0))), (q3, .inl (cI, 1008, .inl (fun _ => 0))), (q4, .inl (cI, 1008, .inl (fun _ => 0))), (q5, .inl (cI, 1008, .inl (fun _ => 0))), (q6, .inl (cI, 7, .inl (fun _ => 0))), (q7, .inl (cI, 7, .inl (fun _ => 0))), (q8, .inl (cI, 7, .inl (fun _ => 0))), (q9, .inl (cZ, 7, .inl (fun _ => 0))), (q10, .inl (cI, 7, .inl (fun _ => 0))), (q11, .inl (cI, 7, .inl (fun _ => 0))), (q12, .inl (cI, 42, .inl (fun _ => 0))), (q13, .inl (cI, 42, .inl (fun _ => 0))), (q14, .inl (cI, 42, .inl (fun _ => 0))), (q15, .inl (cI, 42, .inl (fun _ => 0))), (q16, .inl (cI, 3600, .inl (fun _ => 0)))] H := hP
  have hD : va_D A [(h0, .inr (7, [.ref q0, .ref q1, .int 0, .ref q2, .ref q3, .ref q4, .ref q5, .ref q6, .ref q7, .ref q8, .ref q9, .ref q10, .ref q11, .ref q12, .ref q13, .ref q14, .ref q15, .int (fx_I (3)), .int (fx_I (2)), .int (fx_I (8)), .ref q16, .null, .null, .null, .null, .null, .int 0, .int 0, .null, .null, .null, .null, .null, .int 0, .null, .int 0, .int 0, .int 0, .int 0, .int 0])), (q0, .inl (cI, 7, .inl (fun _ => 0))), (q1, .inl (cI, 7, .inl (fun _ => 0))), (q2, .inl (cI, 1008, .inl (fun _ => 0))), (q3, .inl (cI, 1008, .inl (fun _ => 0))), (q4, .inl (cI, 1008, .inl (fun _ => 0))), (q5, .inl (cI, 1008, .inl (fun _ => 0))), (q6, .inl (cI, 7, .inl (fun _ => 0))), (q7, .inl (cI, 7, .inl (fun _ => 0))), (q8, .inl (cI, 7, .inl (fun _ => 0))), (q9, .inl (cZ, 7, .inl (fun _ => 0))), (q10, .inl (cI, 7, .inl (fun _ => 0))), (q11, .inl (cI, 7, .inl (fun _ => 0))), (q12, .inl (cI, 42, .inl (fun _ => 0))), (q13, .inl (cI, 42, .inl (fun _ => 0))), (q14, .inl (cI, 42, .inl (fun _ => 0))), (q15, .inl (cI, 42, .inl (fun _ => 0))), (q16, .inl (cI, 3600, .inl (fun _ => 0)))] := hD
  refine lv_aload_n hx hb (show decode prog_9_method_1_code 161 = .ok (.aload_n 0, 1) by decide +kernel) rfl (lv_at hl 0 rfl) ?_
  refine lv_sipush (v := fx_I (144)) hx hb (show decode prog_9_method_1_code 162 = .ok (.sipush 144, 3) by decide +kernel) (by decide) ?_
  refine fx_newI (n := 144) hx hb hts wd_90 hK hP hD hS hA (by omega) (show 17 + 1 ≤ 28 by omega) (show 7856 + 144 ≤ 8640 by omega) (show decode prog_9_method_1_code 165 = .ok (.newarray .int, 2) by decide +kernel) (fun q17 H hP hD hS => ?_)
  have hP : va_P D fx_cl [(h0, .inr (7, [.ref q0, .ref q1, .int 0, .ref q2, .ref q3, .ref q4, .ref q5, .ref q6, .ref q7, .ref q8, .ref q9, .ref q10, .ref q11, .ref q12, .ref q13, .ref q14, .ref q15, .int (fx_I (3)), .int (fx_I (2)), .int (fx_I (8)), .ref q16, .null, .null, .null, .null, .null, .int 0, .int 0, .null, .null, .null, .null, .null, .int 0, .null, .int 0, .int 0, .int 0, .int 0, .int 0])), (q0, .inl (cI, 7, .inl (fun _ => 0))), (q1, .inl (cI, 7, .inl (fun _ => 0))), (q2, .inl (cI, 1008, .inl (fun _ => 0))), (q3, .inl (cI, 1008, .inl (fun _ => 0))), (q4, .inl (cI, 1008, .inl (fun _ => 0))), (q5, .inl (cI, 1008, .inl (fun _ => 0))), (q6, .inl (cI, 7, .inl (fun _ => 0))), (q7, .inl (cI, 7, .inl (fun _ => 0))), (q8, .inl (cI, 7, .inl (fun _ => 0))), (q9, .inl (cZ, 7, .inl (fun _ => 0))), (q10, .inl (cI, 7, .inl (fun _ => 0))), (q11, .inl (cI, 7, .inl (fun _ => 0))), (q12, .inl (cI, 42, .inl (fun _ => 0))), (q13, .inl (cI, 42, .inl (fun _ => 0))), (q14, .inl (cI, 42, .inl (fun _ => 0))), (q15, .inl (cI, 42, .inl (fun _ => 0))), (q16, .inl (cI, 3600, .inl (fun _ => 0))), (q17, .inl (cI, 144, .inl (fun _ => 0)))] H := hP
  have hD : va_D A [(h0, .inr (7, [.ref q0, .ref q1, .int 0, .ref q2, .ref q3, .ref q4, .ref q5, .ref q6, .ref q7, .ref q8, .ref q9, .ref q10, .ref q11, .ref q12, .ref q13, .ref q14, .ref q15, .int (fx_I (3)), .int (fx_I (2)), .int (fx_I (8)), .ref q16, .null, .null, .null, .null, .null, .int 0, .int 0, .null, .null, .null, .null, .null, .int 0, .null, .int 0, .int 0, .int 0, .int 0, .int 0])), (q0, .inl (cI, 7, .inl (fun _ => 0))), (q1, .inl (cI, 7, .inl (fun _ => 0))), (q2, .inl (cI, 1008, .inl (fun _ => 0))), (q3, .inl (cI, 1008, .inl (fun _ => 0))), (q4, .inl (cI, 1008, .inl (fun _ => 0))), (q5, .inl (cI, 1008, .inl (fun _ => 0))), (q6, .inl (cI, 7, .inl (fun _ => 0))), (q7, .inl (cI, 7, .inl (fun _ => 0))), (q8, .inl (cI, 7, .inl (fun _ => 0))), (q9, .inl (cZ, 7, .inl (fun _ => 0))), (q10, .inl (cI, 7, .inl (fun _ => 0))), (q11, .inl (cI, 7, .inl (fun _ => 0))), (q12, .inl (cI, 42, .inl (fun _ => 0))), (q13, .inl (cI, 42, .inl (fun _ => 0))), (q14, .inl (cI, 42, .inl (fun _ => 0))), (q15, .inl (cI, 42, .inl (fun _ => 0))), (q16, .inl (cI, 3600, .inl (fun _ => 0))), (q17, .inl (cI, 144, .inl (fun _ => 0)))] := hD
  refine W.widen (k := 18) (n := 8000) (by omega) (by omega) ?_
  refine fx_putC (o := 7) (ci := 7) (k := 21) (ty := .array .int) hx hb hts hown hin hK hP hD hS 0 rfl (by decide +kernel) rfl (by decide +kernel) rfl rfl (show 21 < 40 by omega) (show decode prog_9_method_1_code 167 = .ok (.putfield 72, 3) by decide +kernel) (fun H locs hP hD hS => ?_)
  have hP : va_P D fx_cl [(h0, .inr (7, [.ref q0, .ref q1, .int 0, .ref q2, .ref q3, .ref q4, .ref q5, .ref q6, .ref q7, .ref q8, .ref q9, .ref q10, .ref q11, .ref q12, .ref q13, .ref q14, .ref q15, .int (fx_I (3)), .int (fx_I (2)), .int (fx_I (8)), .ref q16, .ref q17, .null, .null, .null, .null, .int 0, .int 0, .null, .null, .null, .null, .null, .int 0, .null, .int 0, .int 0, .int 0, .int 0, .int 0])), (q0, .inl (cI, 7, .inl (fun _ => 0))), (q1, .inl (cI, 7, .inl (fun _ => 0))), (q2, .inl (cI, 1008, .inl (fun _ => 0))), (q3, .inl (cI, 1008, .inl (fun _ => 0))), (q4, .inl (cI, 1008, .inl (fun _ => 0))), (q5, .inl (cI, 1008, .inl (fun _ => 0))), (q6, .inl (cI, 7, .inl (fun _ => 0))), (q7, .inl (cI, 7, .inl (fun _ => 0))), (q8, .inl (cI, 7, .inl (fun _ => 0))), (q9, .inl (cZ, 7, .inl (fun _ => 0))), (q10, .inl (cI, 7, .inl (fun _ => 0))), (q11, .inl (cI, 7, .inl (fun _ => 0))), (q12, .inl (cI, 42, .inl (fun _ => 0))), (q13, .inl (cI, 42, .inl (fun _ => 0))), (q14, .inl (cI, 42, .inl (fun _ => 0))), (q15, .inl (cI, 42, .inl (fun _ => 0))), (q16, .inl (cI, 3600, .inl (fun _ => 0))), (q17, .inl (cI, 144, .inl (fun _ => 0)))] H := hP
  have hD : va_D A [(h0, .inr (7, [.ref q0, .ref q1, .int 0, .ref q2, .ref q3, .ref q4, .ref q5, .ref q6, .ref q7, .ref q8, .ref q9, .ref q10, .ref q11, .ref q12, .ref q13, .ref q14, .ref q15, .int (fx_I (3)), .int (fx_I (2)), .int (fx_I (8)), .ref q16, .ref q17, .null, .null, .null, .null, .int 0, .int 0, .null, .null, .null, .null, .null, .int 0, .null, .int 0, .int 0, .int 0, .int 0, .int 0])), (q0, .inl (cI, 7, .inl (fun _ => 0))), (q1, .inl (cI, 7, .inl (fun _ => 0))), (q2, .inl (cI, 1008, .inl (fun _ => 0))), (q3, .inl (cI, 1008, .inl (fun _ => 0))), (q4, .inl (cI, 1008, .inl (fun _ => 0))), (q5, .inl (cI, 1008, .inl (fun _ => 0))), (q6, .inl (cI, 7, .inl (fun _ => 0))), (q7, .inl (cI, 7, .inl (fun _ => 0))), (q8, .inl (cI, 7, .inl (fun _ => 0))), (q9, .inl (cZ, 7, .inl (fun _ => 0))), (q10, .inl (cI, 7, .inl (fun _ => 0))), (q11, .inl (cI, 7, .inl (fun _ => 0))), (q12, .inl (cI, 42, .inl (fun _ => 0))), (q13, .inl (cI, 42, .inl (fun _ => 0))), (q14, .inl (cI, 42, .inl (fun _ => 0))), (q15, .inl (cI, 42, .inl (fun _ => 0))), (q16, .inl (cI, 3600, .inl (fun _ => 0))), (q17, .inl (cI, 144, .inl (fun _ => 0)))] := hD
  refine lv_aload_n hx hb (show decode prog_9_method_1_code 170 = .ok (.aload_n 0, 1) by decide +kernel) rfl (lv_at hl 0 rfl) ?_
  refine lv_sipush (v := fx_I (144)) hx hb (show decode prog_9_method_1_code 171 = .ok (.sipush 144, 3) by decide +kernel) (by decide) ?_
  refine fx_newI (n := 144) hx hb hts wd_90 hK hP hD hS hA (by omega) (show 18 + 1 ≤ 28 by omega) (show 8000 + 144 ≤ 8640 by omega) (show decode prog_9_method_1_code 174 = .ok (.newarray .int, 2) by decide +kernel) (fun q18 H hP hD hS => ?_)
  have hP : va_P D fx_cl [(h0, .inr (7, [.ref q0, .ref q1, .int 0, .ref q2, .ref q3, .ref q4, .ref q5, .ref q6, .ref q7, .ref q8, .ref q9, .ref q10, .ref q11, .ref q12, .ref q13, .ref q14, .ref q15, .int (fx_I (3)), .int (fx_I (2)), .int (fx_I (8)), .ref q16, .ref q17, .null, .null, .null, .null, .int 0, .int 0, .null, .null, .null, .null, .null, .int 0, .null, .int 0, .int 0, .int 0, .int 0, .int 0])), (q0, .inl (cI, 7, .inl (fun _ => 0))), (q1, .inl (cI, 7, .inl (fun _ => 0))), (q2, .inl (cI, 1008, .inl (fun _ => 0))), (q3, .inl (cI, 1008, .inl (fun _ => 0))), (q4, .inl (cI, 1008, .inl (fun _ => 0))), (q5, .inl (cI, 1008, .inl (fun _ => 0))), (q6, .inl (cI, 7, .inl (fun _ => 0))), (q7, .inl (cI, 7, .inl (fun _ => 0))), (q8, .inl (cI, 7, .inl (fun _ => 0))), (q9, .inl (cZ, 7, .inl (fun _ => 0))), (q10, .inl (cI, 7, .inl (fun _ => 0))), (q11, .inl (cI, 7, .inl (fun _ => 0))), (q12, .inl (cI, 42, .inl (fun _ => 0))), (q13, .inl (cI, 42, .inl (fun _ => 0))), (q14, .inl (cI, 42, .inl (fun _ => 0))), (q15, .inl (cI, 42, .inl (fun _ => 0))), (q16, .inl (cI, 3600, .inl (fun _ => 0))), (q17, .inl (cI, 144, .inl (fun _ => 0))), (q18, .inl (cI, 144, .inl (fun _ => 0)))] H := hP
  have hD : va_D A [(h0, .inr (7, [.ref q0, .ref q1, .int 0, .ref q2, .ref q3, .ref q4, .ref q5, .ref q6, .ref q7, .ref q8, .ref q9, .ref q10, .ref q11, .ref q12, .ref q13, .ref q14, .ref q15, .int (fx_I (3)), .int (fx_I (2)), .int (fx_I (8)), .ref q16, .ref q17, .null, .null, .null, .null, .int 0, .int 0, .null, .null, .null, .null, .null, .int 0, .null, .int 0, .int 0, .int 0, .int 0, .int 0])), (q0, .inl (cI, 7, .inl (fun _ => 0))), (q1, .inl (cI, 7, .inl (fun _ => 0))), (q2, .inl (cI, 1008, .inl (fun _ => 0))), (q3, .inl (cI, 1008, .inl (fun _ => 0))), (q4, .inl (cI, 1008, .inl (fun _ => 0))), (q5, .inl (cI, 1008, .inl (fun _ => 0))), (q6, .inl (cI, 7, .inl (fun _ => 0))), (q7, .inl (cI, 7, .inl (fun _ => 0))), (q8, .inl (cI, 7, .inl (fun _ => 0))), (q9, .inl (cZ, 7, .inl (fun _ => 0))), (q10, .inl (cI, 7, .inl (fun _ => 0))), (q11, .inl (cI, 7, .inl (fun _ => 0))), (q12, .inl (cI, 42, .inl (fun _ => 0))), (q13, .inl (cI, 42, .inl (fun _ => 0))), (q14, .inl (cI, 42, .inl (fun _ => 0))), (q15, .inl (cI, 42, .inl (fun _ => 0))), (q16, .inl (cI, 3600, .inl (fun _ => 0))), (q17, .inl (cI, 144, .inl (fun _ => 0))), (q18, .inl (cI, 144, .inl (fun _ => 0)))] := hD
  refine W.widen (k := 19) (n := 8144) (by omega) (by omega) ?_
  refine fx_putC (o := 7) (ci := 7) (k := 22) (ty := .array .int) hx hb hts hown hin hK hP hD hS 0 rfl (by decide +kernel) rfl (by decide +kernel) rfl rfl (show 22 < 40 by omega) (show decode prog_9_method_1_code 176 = .ok (.putfield 75, 3) by decide +kernel) (fun H locs hP hD hS => ?_)
  have hP : va_P D fx_cl [(h0, .inr (7, [.ref q0, .ref q1, .int 0, .ref q2, .ref q3, .ref q4, .ref q5, .ref q6, .ref q7, .ref q8, .ref q9, .ref q10, .ref q11, .ref q12, .ref q13, .ref q14, .ref q15, .int (fx_I (3)), .int (fx_I (2)), .int (fx_I (8)), .ref q16, .ref q17, .ref q18, .null, .null, .null, .int 0, .int 0, .null, .null, .null, .null, .null, .int 0, .null, .int 0, .int 0, .int 0, .int 0, .int 0])), (q0, .inl (cI, 7, .inl (fun _ => 0))), (q1, .inl (cI, 7, .inl (fun _ => 0))), (q2, .inl (cI, 1008, .inl (fun _ => 0))), (q3, .inl (cI, 1008, .inl (fun _ => 0))), (q4, .inl (cI, 1008, .inl (fun _ => 0))), (q5, .inl (cI, 1008, .inl (fun _ => 0))), (q6, .inl (cI, 7, .inl (fun _ => 0))), (q7, .inl (cI, 7, .inl (fun _ => 0))), (q8, .inl (cI, 7, .inl (fun _ => 0))), (q9, .inl (cZ, 7, .inl (fun _ => 0))), (q10, .inl (cI, 7, .inl (fun _ => 0))), (q11, .inl (cI, 7, .inl (fun _ => 0))), (q12, .inl (cI, 42, .inl (fun _ => 0))), (q13, .inl (cI, 42, .inl (fun _ => 0))), (q14, .inl (cI, 42, .inl (fun _ => 0))), (q15, .inl (cI, 42, .inl (fun _ => 0))), (q16, .inl (cI, 3600, .inl (fun _ => 0))), (q17, .inl (cI, 144, .inl (fun _ => 0))), (q18, .inl (cI, 144, .inl (fun _ => 0)))] H := hP
  have hD : va_D A [(h0, .inr (7, [.ref q0, .ref q1, .int 0, .ref q2, .ref q3, .ref q4, .ref q5, .ref q6, .ref q7, .ref q8, .ref q9, .ref q10, .ref q11, .ref q12, .ref q13, .ref q14, .ref q15, .int (fx_I (3)), .int (fx_I (2)), .int (fx_I (8)), .ref q16, .ref q17, .ref q18, .null, .null, .null, .int 0, .int 0, .null, .null, .null, .null, .null, .int 0, .null, .int 0, .int 0, .int 0, .int 0, .int 0])), (q0, .inl (cI, 7, .inl (fun _ => 0))), (q1, .inl (cI, 7, .inl (fun _ => 0))), (q2, .inl (cI, 1008, .inl (fun _ => 0))), (q3, .inl (cI, 1008, .inl (fun _ => 0))), (q4, .inl (cI, 1008, .inl (fun _ => 0))), (q5, .inl (cI, 1008, .inl (fun _ => 0))), (q6, .inl (cI, 7, .inl (fun _ => 0))), (q7, .inl (cI, 7, .inl (fun _ => 0))), (q8, .inl (cI, 7, .inl (fun _ => 0))), (q9, .inl (cZ, 7, .inl (fun _ => 0))), (q10, .inl (cI, 7, .inl (fun _ => 0))), (q11, .inl (cI, 7, .inl (fun _ => 0))), (q12, .inl (cI, 42, .inl (fun _ => 0))), (q13, .inl (cI, 42, .inl (fun _ => 0))), (q14, .inl (cI, 42, .inl (fun _ => 0))), (q15, .inl (cI, 42, .inl (fun _ => 0))), (q16, .inl (cI, 3600, .inl (fun _ => 0))), (q17, .inl (cI, 144, .inl (fun _ => 0))), (q18, .inl (cI, 144, .inl (fun _ => 0)))] := hD
  refine lv_aload_n hx hb (show decode prog_9_method_1_code 179 = .ok (.aload_n 0, 1) by decide +kernel) rfl (lv_at hl 0 rfl) ?_
  refine lv_sipush (v := fx_I (144)) hx hb (show decode prog_9_method_1_code 180 = .ok (.sipush 144, 3) by decide +kernel) (by decide) ?_
  refine fx_newI (n := 144) hx hb hts wd_90 hK hP hD hS hA (by omega) (show 19 + 1 ≤ 28 by omega) (show 8144 + 144 ≤ 8640 by omega) (show decode prog_9_method_1_code 183 = .ok (.newarray .int, 2) by decide +kernel) (fun q19 H hP hD hS => ?_)
  have hP : va_P D fx_cl [(h0, .inr (7, [.ref q0, .ref q1, .int 0, .ref q2, .ref q3, .ref q4, .ref q5, .ref q6, .ref q7, .ref q8, .ref q9, .ref q10, .ref q11, .ref q12, .ref q13, .ref q14, .ref q15, .int (fx_I (3)), .int (fx_I (2)), .int (fx_I (8)), .ref q16, .ref q17, .ref q18, .null, .null, .null, .int 0, .int 0, .null, .null, .null, .null, .null, .int 0, .null, .int 0, .int 0, .int 0, .int 0, .int 0])), (q0, .inl (cI, 7, .inl (fun _ => 0))), (q1, .inl (cI, 7, .inl (fun _ => 0))), (q2, .inl (cI, 1008, .inl (fun _ => 0))), (q3, .inl (cI, 1008, .inl (fun _ => 0))), (q4, .inl (cI, 1008, .inl (fun _ => 0))), (q5, .inl (cI, 1008, .inl (fun _ => 0))), (q6, .inl (cI, 7, .inl (fun _ => 0))), (q7, .inl (cI, 7, .inl (fun _ => 0))), (q8, .inl (cI, 7, .inl (fun _ => 0))), (q9, .inl (cZ, 7, .inl (fun _ => 0))), (q10, .inl (cI, 7, .inl (fun _ => 0))), (q11, .inl (cI, 7, .inl (fun _ => 0))), (q12, .inl (cI, 42, .inl (fun _ => 0))), (q13, .inl (cI, 42, .inl (fun _ => 0))), (q14, .inl (cI, 42, .inl (fun _ => 0))), (q15, .inl (cI, 42, .inl (fun _ => 0))), (q16, .inl (cI, 3600, .inl (fun _ => 0))), (q17, .inl (cI, 144, .inl (fun _ => 0))), (q18, .inl (cI, 144, .inl (fun _ => 0))), (q19, .inl (cI, 144, .inl (fun _ => 0)))] H := hP
  have hD : va_D A [(h0, .inr (7, [.ref q0, .ref q1, .int 0, .ref q2, .ref q3, .ref q4, .ref q5, .ref q6, .ref q7, .ref q8, .ref q9, .ref q10, .ref q11, .ref q12, .ref q13, .ref q14, .ref q15, .int (fx_I (3)), .int (fx_I (2)), .int (fx_I (8)), .ref q16, .ref q17, .ref q18, .null, .null, .null, .int 0, .int 0, .null, .null, .null, .null, .null, .int 0, .null, .int 0, .int 0, .int 0, .int 0, .int 0])), (q0, .inl (cI, 7, .inl (fun _ => 0))), (q1, .inl (cI, 7, .inl (fun _ => 0))), (q2, .inl (cI, 1008, .inl (fun _ => 0))), (q3, .inl (cI, 1008, .inl (fun _ => 0))), (q4, .inl (cI, 1008, .inl (fun _ => 0))), (q5, .inl (cI, 1008, .inl (fun _ => 0))), (q6, .inl (cI, 7, .inl (fun _ => 0))), (q7, .inl (cI, 7, .inl (fun _ => 0))), (q8, .inl (cI, 7, .inl (fun _ => 0))), (q9, .inl (cZ, 7, .inl (fun _ => 0))), (q10, .inl (cI, 7, .inl (fun _ => 0))), (q11, .inl (cI, 7, .inl (fun _ => 0))), (q12, .inl (cI, 42, .inl (fun _ => 0))), (q13, .inl (cI, 42, .inl (fun _ => 0))), (q14, .inl (cI, 42, .inl (fun _ => 0))), (q15, .inl (cI, 42, .inl (fun _ => 0))), (q16, .inl (cI, 3600, .inl (fun _ => 0))), (q17, .inl (cI, 144, .inl (fun _ => 0))), (q18, .inl (cI, 144, .inl (fun _ => 0))), (q19, .inl (cI, 144, .inl (fun _ => 0)))] := hD
  refine W.widen (k := 20) (n := 8288) (by omega) (by omega) ?_
  refine fx_putC (o := 7) (ci := 7) (k := 23) (ty := .array .int) hx hb hts hown hin hK hP hD hS 0 rfl (by decide +kernel) rfl (by decide +kernel) rfl rfl (show 23 < 40 by omega) (show decode prog_9_method_1_code 185 = .ok (.putfield 78, 3) by decide +kernel) (fun H locs hP hD hS => ?_)
  have hP : va_P D fx_cl [(h0, .inr (7, [.ref q0, .ref q1, .int 0, .ref q2, .ref q3, .ref q4, .ref q5, .ref q6, .ref q7, .ref q8, .ref q9, .ref q10, .ref q11, .ref q12, .ref q13, .ref q14, .ref q15, .int (fx_I (3)), .int (fx_I (2)), .int (fx_I (8)), .ref q16, .ref q17, .ref q18, .ref q19, .null, .null, .int 0, .int 0, .null, .null, .null, .null, .null, .int 0, .null, .int 0, .int 0, .int 0, .int 0, .int 0])), (q0, .inl (cI, 7, .inl (fun _ => 0))), (q1, .inl (cI, 7, .inl (fun _ => 0))), (q2, .inl (cI, 1008, .inl (fun _ => 0))), (q3, .inl (cI, 1008, .inl (fun _ => 0))), (q4, .inl (cI, 1008, .inl (fun _ => 0))), (q5, .inl (cI, 1008, .inl (fun _ => 0))), (q6, .inl (cI, 7, .inl (fun _ => 0))), (q7, .inl (cI, 7, .inl (fun _ => 0))), (q8, .inl (cI, 7, .inl (fun _ => 0))), (q9, .inl (cZ, 7, .inl (fun _ => 0))), (q10, .inl (cI, 7, .inl (fun _ => 0))), (q11, .inl (cI, 7, .inl (fun _ => 0))), (q12, .inl (cI, 42, .inl (fun _ => 0))), (q13, .inl (cI, 42, .inl (fun _ => 0))), (q14, .inl (cI, 42, .inl (fun _ => 0))), (q15, .inl (cI, 42, .inl (fun _ => 0))), (q16, .inl (cI, 3600, .inl (fun _ => 0))), (q17, .inl (cI, 144, .inl (fun _ => 0))), (q18, .inl (cI, 144, .inl (fun _ => 0))), (q19, .inl (cI, 144, .inl (fun _ => 0)))] H := hP
  have hD : va_D A [(h0, .inr (7, [.ref q0, .ref q1, .int 0, .ref q2, .ref q3, .ref q4, .ref q5, .ref q6, .ref q7, .ref q8, .ref q9, .ref q10, .ref q11, .ref q12, .ref q13, .ref q14, .ref q15, .int (fx_I (3)), .int (fx_I (2)), .int (fx_I (8)), .ref q16, .ref q17, .ref q18, .ref q19, .null, .null, .int 0, .int 0, .null, .null, .null, .null, .null, .int 0, .null, .int 0, .int 0, .int 0, .int 0, .int 0])), (q0, .inl (cI, 7, .inl (fun _ => 0))), (q1, .inl (cI, 7, .inl (fun _ => 0))), (q2, .inl (cI, 1008, .inl (fun _ => 0))), (q3, .inl (cI, 1008, .inl (fun _ => 0))), (q4, .inl (cI, 1008, .inl (fun _ => 0))), (q5, .inl (cI, 1008, .inl (fun _ => 0))), (q6, .inl (cI, 7, .inl (fun _ => 0))), (q7, .inl (cI, 7, .inl (fun _ => 0))), (q8, .inl (cI, 7, .inl (fun _ => 0))), (q9, .inl (cZ, 7, .inl (fun _ => 0))), (q10, .inl (cI, 7, .inl (fun _ => 0))), (q11, .inl (cI, 7, .inl (fun _ => 0))), (q12, .inl (cI, 42, .inl (fun _ => 0))), (q13, .inl (cI, 42, .inl (fun _ => 0))), (q14, .inl (cI, 42, .inl (fun _ => 0))), (q15, .inl (cI, 42, .inl (fun _ => 0))), (q16, .inl (cI, 3600, .inl (fun _ => 0))), (q17, .inl (cI, 144, .inl (fun _ => 0))), (q18, .inl (cI, 144, .inl (fun _ => 0))), (q19, .inl (cI, 144, .inl (fun _ => 0)))] := hD
  refine lv_aload_n hx hb (show decode prog_9_method_1_code 188 = .ok (.aload_n 0, 1) by decide +kernel) rfl (lv_at hl 0 rfl) ?_
  refine lv_sipush (v := fx_I (144)) hx hb (show decode prog_9_method_1_code 189 = .ok (.sipush 144, 3) by decide +kernel) (by decide) ?_
  refine fx_newI (n := 144) hx hb hts wd_90 hK hP hD hS hA (by omega) (show 20 + 1 ≤ 28 by omega) (show 8288 + 144 ≤ 8640 by omega) (show decode prog_9_method_1_code 192 = .ok (.newarray .int, 2) by decide +kernel) (fun q20 H hP hD hS => ?_)
  have hP : va_P D fx_cl [(h0, .inr (7, [.ref q0, .ref q1, .int 0, .ref q2, .ref q3, .ref q4, .ref q5, .ref q6, .ref q7, .ref q8, .ref q9, .ref q10, .ref q11, .ref q12, .ref q13, .ref q14, .ref q15, .int (fx_I (3)), .int (fx_I (2)), .int (fx_I (8)), .ref q16, .ref q17, .ref q18, .ref q19, .null, .null, .int 0, .int 0, .null, .null, .null, .null, .null, .int 0, .null, .int 0, .int 0, .int 0, .int 0, .int 0])), (q0, .inl (cI, 7, .inl (fun _ => 0))), (q1, .inl (cI, 7, .inl (fun _ => 0))), (q2, .inl (cI, 1008, .inl (fun _ => 0))), (q3, .inl (cI, 1008, .inl (fun _ => 0))), (q4, .inl (cI, 1008, .inl (fun _ => 0))), (q5, .inl (cI, 1008, .inl (fun _ => 0))), (q6, .inl (cI, 7, .inl (fun _ => 0))), (q7, .inl (cI, 7, .inl (fun _ => 0))), (q8, .inl (cI, 7, .inl (fun _ => 0))), (q9, .inl (cZ, 7, .inl (fun _ => 0))), (q10, .inl (cI, 7, .inl (fun _ => 0))), (q11, .inl (cI, 7, .inl (fun _ => 0))), (q12, .inl (cI, 42, .inl (fun _ => 0))), (q13, .inl (cI, 42, .inl (fun _ => 0))), (q14, .inl (cI, 42, .inl (fun _ => 0))), (q15, .inl (cI, 42, .inl (fun _ => 0))), (q16, .inl (cI, 3600, .inl (fun _ => 0))), (q17, .inl (cI, 144, .inl (fun _ => 0))), (q18, .inl (cI, 144, .inl (fun _ => 0))), (q19, .inl (cI, 144, .inl (fun _ => 0))), (q20, .inl (cI, 144, .inl (fun _ => 0)))] H := hP
  have hD : va_D A [(h0, .inr (7, [.ref q0, .ref q1, .int 0, .ref q2, .ref q3, .ref q4, .ref q5, .ref q6, .ref q7, .ref q8, .ref q9, .ref q10, .ref q11, .ref q12, .ref q13, .ref q14, .ref q15, .int (fx_I (3)), .int (fx_I (2)), .int (fx_I (8)), .ref q16, .ref q17, .ref q18, .ref q19, .null, .null, .int 0, .int 0, .null, .null, .null, .null, .null, .int 0, .null, .int 0, .int 0, .int 0, .int 0, .int 0])), (q0, .inl (cI, 7, .inl (fun _ => 0))), (q1, .inl (cI, 7, .inl (fun _ => 0))), (q2, .inl (cI, 1008, .inl (fun _ => 0))), (q3, .inl (cI, 1008, .inl (fun _ => 0))), (q4, .inl (cI, 1008, .inl (fun _ => 0))), (q5, .inl (cI, 1008, .inl (fun _ => 0))), (q6, .inl (cI, 7, .inl (fun _ => 0))), (q7, .inl (cI, 7, .inl (fun _ => 0))), (q8, .inl (cI, 7, .inl (fun _ => 0))), (q9, .inl (cZ, 7, .inl (fun _ => 0))), (q10, .inl (cI, 7, .inl (fun _ => 0))), (q11, .inl (cI, 7, .inl (fun _ => 0))), (q12, .inl (cI, 42, .inl (fun _ => 0))), (q13, .inl (cI, 42, .inl (fun _ => 0))), (q14, .inl (cI, 42, .inl (fun _ => 0))), (q15, .inl (cI, 42, .inl (fun _ => 0))), (q16, .inl (cI, 3600, .inl (fun _ => 0))), (q17, .inl (cI, 144, .inl (fun _ => 0))), (q18, .inl (cI, 144, .inl (fun _ => 0))), (q19, .inl (cI, 144, .inl (fun _ => 0))), (q20, .inl (cI, 144, .inl (fun _ => 0)))] := hD
  refine W.widen (k := 21) (n := 8432) (by omega) (by omega) ?_
  refine fx_putC (o := 7) (ci := 7) (k := 24) (ty := .array .int) hx hb hts hown hin hK hP hD hS 0 rfl (by decide +kernel) rfl (by decide +kernel) rfl rfl (show 24 < 40 by omega) (show decode prog_9_method_1_code 194 = .ok (.putfield 81, 3) by decide +kernel) (fun H locs hP hD hS => ?_)
  have hP : va_P D fx_cl [(h0, .inr (7, [.ref q0, .ref q1, .int 0, .ref q2, .ref q3, .ref q4, .ref q5, .ref q6, .ref q7, .ref q8, .ref q9, .ref q10, .ref q11, .ref q12, .ref q13, .ref q14, .ref q15, .int (fx_I (3)), .int (fx_I (2)), .int (fx_I (8)), .ref q16, .ref q17, .ref q18, .ref q19, .ref q20, .null, .int 0, .int 0, .null, .null, .null, .null, .null, .int 0, .null, .int 0, .int 0, .int 0, .int 0, .int 0])), (q0, .inl (cI, 7, .inl (fun _ => 0))), (q1, .inl (cI, 7, .inl (fun _ => 0))), (q2, .inl (cI, 1008, .inl (fun _ => 0))), (q3, .inl (cI, 1008, .inl (fun _ => 0))), (q4, .inl (cI, 1008, .inl (fun _ => 0))), (q5, .inl (cI, 1008, .inl (fun _ => 0))), (q6, .inl (cI, 7, .inl (fun _ => 0))), (q7, .inl (cI, 7, .inl (fun _ => 0))), (q8, .inl (cI, 7, .inl (fun _ => 0))), (q9, .inl (cZ, 7, .inl (fun _ => 0))), (q10, .inl (cI, 7, .inl (fun _ => 0))), (q11, .inl (cI, 7, .inl (fun _ => 0))), (q12, .inl (cI, 42, .inl (fun _ => 0))), (q13, .inl (cI, 42, .inl (fun _ => 0))), (q14, .inl (cI, 42, .inl (fun _ => 0))), (q15, .inl (cI, 42, .inl (fun _ => 0))), (q16, .inl (cI, 3600, .inl (fun _ => 0))), (q17, .inl (cI, 144, .inl (fun _ => 0))), (q18, .inl (cI, 144, .inl (fun _ => 0))), (q19, .inl (cI, 144, .inl (fun _ => 0))), (q20, .inl (cI, 144, .inl (fun _ => 0)))] H := hP
  have hD : va_D A [(h0, .inr (7, [.ref q0, .ref q1, .int 0, .ref q2, .ref q3, .ref q4, .ref q5, .ref q6, .ref q7, .ref q8, .ref q9, .ref q10, .ref q11, .ref q12, .ref q13, .ref q14, .ref q15, .int (fx_I (3)), .int (fx_I (2)), .int (fx_I (8)), .ref q16, .ref q17, .ref q18, .ref q19, .ref q20, .null, .int 0, .int 0, .null, .null, .null, .null, .null, .int 0, .null, .int 0, .int 0, .int 0, .int 0, .int 0])), (q0, .inl (cI, 7, .inl (fun _ => 0))), (q1, .inl (cI, 7, .inl (fun _ => 0))), (q2, .inl (cI, 1008, .inl (fun _ => 0))), (q3, .inl (cI, 1008, .inl (fun _ => 0))), (q4, .inl (cI, 1008, .inl (fun _ => 0))), (q5, .inl (cI, 1008, .inl (fun _ => 0))), (q6, .inl (cI, 7, .inl (fun _ => 0))), (q7, .inl (cI, 7, .inl (fun _ => 0))), (q8, .inl (cI, 7, .inl (fun _ => 0))), (q9, .inl (cZ, 7, .inl (fun _ => 0))), (q10, .inl (cI, 7, .inl (fun _ => 0))), (q11, .inl (cI, 7, .inl (fun _ => 0))), (q12, .inl (cI, 42, .inl (fun _ => 0))), (q13, .inl (cI, 42, .inl (fun _ => 0))), (q14, .inl (cI, 42, .inl (fun _ => 0))), (q15, .inl (cI, 42, .inl (fun _ => 0))), (q16, .inl (cI, 3600, .inl (fun _ => 0))), (q17, .inl (cI, 144, .inl (fun _ => 0))), (q18, .inl (cI, 144, .inl (fun _ => 0))), (q19, .inl (cI, 144, .inl (fun _ => 0))), (q20, .inl (cI, 144, .inl (fun _ => 0)))] := hD
  refine lv_aload_n hx hb (show decode prog_9_method_1_code 197 = .ok (.aload_n 0, 1) by decide +kernel) rfl (lv_at hl 0 rfl) ?_
  refine lv_sipush (v := fx_I (144)) hx hb (show decode prog_9_method_1_code 198 = .ok (.sipush 144, 3) by decide +kernel) (by decide) ?_
  refine fx_newI (n := 144) hx hb hts wd_90 hK hP hD hS hA (by omega) (show 21 + 1 ≤ 28 by omega) (show 8432 + 144 ≤ 8640 by omega) (show decode prog_9_method_1_code 201 = .ok (.newarray .int, 2) by decide +kernel) (fun q21 H hP hD hS => ?_)
  have hP : va_P D fx_cl [(h0, .inr (7, [.ref q0, .ref q1, .int 0, .ref q2, .ref q3, .ref q4, .ref q5, .ref q6, .ref q7, .ref q8, .ref q9, .ref q10, .ref q11, .ref q12, .ref q13, .ref q14, .ref q15, .int (fx_I (3)), .int (fx_I (2)), .int (fx_I (8)), .ref q16, .ref q17, .ref q18, .ref q19, .ref q20, .null, .int 0, .int 0, .null, .null, .null, .null, .null, .int 0, .null, .int 0, .int 0, .int 0, .int 0, .int 0])), (q0, .inl (cI, 7, .inl (fun _ => 0))), (q1, .inl (cI, 7, .inl (fun _ => 0))), (q2, .inl (cI, 1008, .inl (fun _ => 0))), (q3, .inl (cI, 1008, .inl (fun _ => 0))), (q4, .inl (cI, 1008, .inl (fun _ => 0))), (q5, .inl (cI, 1008, .inl (fun _ => 0))), (q6, .inl (cI, 7, .inl (fun _ => 0))), (q7, .inl (cI, 7, .inl (fun _ => 0))), (q8, .inl (cI, 7, .inl (fun _ => 0))), (q9, .inl (cZ, 7, .inl (fun _ => 0))), (q10, .inl (cI, 7, .inl (fun _ => 0))), (q11, .inl (cI, 7, .inl (fun _ => 0))), (q12, .inl (cI, 42, .inl (fun _ => 0))), (q13, .inl (cI, 42, .inl (fun _ => 0))), (q14, .inl (cI, 42, .inl (fun _ => 0))), (q15, .inl (cI, 42, .inl (fun _ => 0))), (q16, .inl (cI, 3600, .inl (fun _ => 0))), (q17, .inl (cI, 144, .inl (fun _ => 0))), (q18, .inl (cI, 144, .inl (fun _ => 0))), (q19, .inl (cI, 144, .inl (fun _ => 0))), (q20, .inl (cI, 144, .inl (fun _ => 0))), (q21, .inl (cI, 144, .inl (fun _ => 0)))] H := hP
  have hD : va_D A [(h0, .inr (7, [.ref q0, .ref q1, .int 0, .ref q2, .ref q3, .ref q4, .ref q5, .ref q6, .ref q7, .ref q8, .ref q9, .ref q10, .ref q11, .ref q12, .ref q13, .ref q14, .ref q15, .int (fx_I (3)), .int (fx_I (2)), .int (fx_I (8)), .ref q16, .ref q17, .ref q18, .ref q19, .ref q20, .null, .int 0, .int 0, .null, .null, .null, .null, .null, .int 0, .null, .int 0, .int 0, .int 0, .int 0, .int 0])), (q0, .inl (cI, 7, .inl (fun _ => 0))), (q1, .inl (cI, 7, .inl (fun _ => 0))), (q2, .inl (cI, 1008, .inl (fun _ => 0))), (q3, .inl (cI, 1008, .inl (fun _ => 0))), (q4, .inl (cI, 1008, .inl (fun _ => 0))), (q5, .inl (cI, 1008, .inl (fun _ => 0))), (q6, .inl (cI, 7, .inl (fun _ => 0))), (q7, .inl (cI, 7, .inl (fun _ => 0))), (q8, .inl (cI, 7, .inl (fun _ => 0))), (q9, .inl (cZ, 7, .inl (fun _ => 0))), (q10, .inl (cI, 7, .inl (fun _ => 0))), (q11, .inl (cI, 7, .inl (fun _ => 0))), (q12, .inl (cI, 42, .inl (fun _ => 0))), (q13, .inl (cI, 42, .inl (fun _ => 0))), (q14, .inl (cI, 42, .inl (fun _ => 0))), (q15, .inl (cI, 42, .inl (fun _ => 0))), (q16, .inl (cI, 3600, .inl (fun _ => 0))), (q17, .inl (cI, 144, .inl (fun _ => 0))), (q18, .inl (cI, 144, .inl (fun _ => 0))), (q19, .inl (cI, 144, .inl (fun _ => 0))), (q20, .inl (cI, 144, .inl (fun _ => 0))), (q21, .inl (cI, 144, .inl (fun _ => 0)))] := hD
  refine W.widen (k := 22) (n := 8576) (by omega) (by omega) ?_
  refine fx_putC (o := 7) (ci := 7) (k := 25) (ty := .array .int) hx hb hts hown hin hK hP hD hS 0 rfl (by decide +kernel) rfl (by decide +kernel) rfl rfl (show 25 < 40 by omega) (show decode prog_9_method_1_code 203 = .ok (.putfield 84, 3) by decide +kernel) (fun H locs hP hD hS => ?_)
  have hP : va_P D fx_cl [(h0, .inr (7, [.ref q0, .ref q1, .int 0, .ref q2, .ref q3, .ref q4, .ref q5, .ref q6, .ref q7, .ref q8, .ref q9, .ref q10, .ref q11, .ref q12, .ref q13, .ref q14, .ref q15, .int (fx_I (3)), .int (fx_I (2)), .int (fx_I (8)), .ref q16, .ref q17, .ref q18, .ref q19, .ref q20, .ref q21, .int 0, .int 0, .null, .null, .null, .null, .null, .int 0, .null, .int 0, .int 0, .int 0, .int 0, .int 0])), (q0, .inl (cI, 7, .inl (fun _ => 0))), (q1, .inl (cI, 7, .inl (fun _ => 0))), (q2, .inl (cI, 1008, .inl (fun _ => 0))), (q3, .inl (cI, 1008, .inl (fun _ => 0))), (q4, .inl (cI, 1008, .inl (fun _ => 0))), (q5, .inl (cI, 1008, .inl (fun _ => 0))), (q6, .inl (cI, 7, .inl (fun _ => 0))), (q7, .inl (cI, 7, .inl (fun _ => 0))), (q8, .inl (cI, 7, .inl (fun _ => 0))), (q9, .inl (cZ, 7, .inl (fun _ => 0))), (q10, .inl (cI, 7, .inl (fun _ => 0))), (q11, .inl (cI, 7, .inl (fun _ => 0))), (q12, .inl (cI, 42, .inl (fun _ => 0))), (q13, .inl (cI, 42, .inl (fun _ => 0))), (q14, .inl (cI, 42, .inl (fun _ => 0))), (q15, .inl (cI, 42, .inl (fun _ => 0))), (q16, .inl (cI, 3600, .inl (fun _ => 0))), (q17, .inl (cI, 144, .inl (fun _ => 0))), (q18, .inl (cI, 144, .inl (fun _ => 0))), (q19, .inl (cI, 144, .inl (fun _ => 0))), (q20, .inl (cI, 144, .inl (fun _ => 0))), (q21, .inl (cI, 144, .inl (fun _ => 0)))] H := hP
  have hD : va_D A [(h0, .inr (7, [.ref q0, .ref q1, .int 0, .ref q2, .ref q3, .ref q4, .ref q5, .ref q6, .ref q7, .ref q8, .ref q9, .ref q10, .ref q11, .ref q12, .ref q13, .ref q14, .ref q15, .int (fx_I (3)), .int (fx_I (2)), .int (fx_I (8)), .ref q16, .ref q17, .ref q18, .ref q19, .ref q20, .ref q21, .int 0, .int 0, .null, .null, .null, .null, .null, .int 0, .null, .int 0, .int 0, .int 0, .int 0, .int 0])), (q0, .inl (cI, 7, .inl (fun _ => 0))), (q1, .inl (cI, 7, .inl (fun _ => 0))), (q2, .inl (cI, 1008, .inl (fun _ => 0))), (q3, .inl (cI, 1008, .inl (fun _ => 0))), (q4, .inl (cI, 1008, .inl (fun _ => 0))), (q5, .inl (cI, 1008, .inl (fun _ => 0))), (q6, .inl (cI, 7, .inl (fun _ => 0))), (q7, .inl (cI, 7, .inl (fun _ => 0))), (q8, .inl (cI, 7, .inl (fun _ => 0))), (q9, .inl (cZ, 7, .inl (fun _ => 0))), (q10, .inl (cI, 7, .inl (fun _ => 0))), (q11, .inl (cI, 7, .inl (fun _ => 0))), (q12, .inl (cI, 42, .inl (fun _ => 0))), (q13, .inl (cI, 42, .inl (fun _ => 0))), (q14, .inl (cI, 42, .inl (fun _ => 0))), (q15, .inl (cI, 42, .inl (fun _ => 0))), (q16, .inl (cI, 3600, .inl (fun _ => 0))), (q17, .inl (cI, 144, .inl (fun _ => 0))), (q18, .inl (cI, 144, .inl (fun _ => 0))), (q19, .inl (cI, 144, .inl (fun _ => 0))), (q20, .inl (cI, 144, .inl (fun _ => 0))), (q21, .inl (cI, 144, .inl (fun _ => 0)))] := hD
  refine lv_aload_n hx hb (show decode prog_9_method_1_code 206 = .ok (.aload_n 0, 1) by decide +kernel) rfl (lv_at hl 0 rfl) ?_
  refine lv_bipush (v := fx_I (48)) hx hb (show decode prog_9_method_1_code 207 = .ok (.bipush 48, 2) by decide +kernel) (by decide) ?_
  refine fx_newZ (n := 48) hx hb hts wd_293 hK hP hD hS hA (by omega) (show 22 + 1 ≤ 28 by omega) (show 8576 + 48 ≤ 8640 by omega) (show decode prog_9_method_1_code 209 = .ok (.newarray .boolean, 2) by decide +kernel) (fun q22 H hP hD hS => ?_)
  have hP : va_P D fx_cl [(h0, .inr (7, [.ref q0, .ref q1, .int 0, .ref q2, .ref q3, .ref q4, .ref q5, .ref q6, .ref q7, .ref q8, .ref q9, .ref q10, .ref q11, .ref q12, .ref q13, .ref q14, .ref q15, .int (fx_I (3)), .int (fx_I (2)), .int (fx_I (8)), .ref q16, .ref q17, .ref q18, .ref q19, .ref q20, .ref q21, .int 0, .int 0, .null, .null, .null, .null, .null, .int 0, .null, .int 0, .int 0, .int 0, .int 0, .int 0])), (q0, .inl (cI, 7, .inl (fun _ => 0))), (q1, .inl (cI, 7, .inl (fun _ => 0))), (q2, .inl (cI, 1008, .inl (fun _ => 0))), (q3, .inl (cI, 1008, .inl (fun _ => 0))), (q4, .inl (cI, 1008, .inl (fun _ => 0))), (q5, .inl (cI, 1008, .inl (fun _ => 0))), (q6, .inl (cI, 7, .inl (fun _ => 0))), (q7, .inl (cI, 7, .inl (fun _ => 0))), (q8, .inl (cI, 7, .inl (fun _ => 0))), (q9, .inl (cZ, 7, .inl (fun _ => 0))), (q10, .inl (cI, 7, .inl (fun _ => 0))), (q11, .inl (cI, 7, .inl (fun _ => 0))), (q12, .inl (cI, 42, .inl (fun _ => 0))), (q13, .inl (cI, 42, .inl (fun _ => 0))), (q14, .inl (cI, 42, .inl (fun _ => 0))), (q15, .inl (cI, 42, .inl (fun _ => 0))), (q16, .inl (cI, 3600, .inl (fun _ => 0))), (q17, .inl (cI, 144, .inl (fun _ => 0))), (q18, .inl (cI, 144, .inl (fun _ => 0))), (q19, .inl (cI, 144, .inl (fun _ => 0))), (q20, .inl (cI, 144, .inl (fun _ => 0))), (q21, .inl (cI, 144, .inl (fun _ => 0))), (q22, .inl (cZ, 48, .inl (fun _ => 0)))] H := hP
  have hD : va_D A [(h0, .inr (7, [.ref q0, .ref q1, .int 0, .ref q2, .ref q3, .ref q4, .ref q5, .ref q6, .ref q7, .ref q8, .ref q9, .ref q10, .ref q11, .ref q12, .ref q13, .ref q14, .ref q15, .int (fx_I (3)), .int (fx_I (2)), .int (fx_I (8)), .ref q16, .ref q17, .ref q18, .ref q19, .ref q20, .ref q21, .int 0, .int 0, .null, .null, .null, .null, .null, .int 0, .null, .int 0, .int 0, .int 0, .int 0, .int 0])), (q0, .inl (cI, 7, .inl (fun _ => 0))), (q1, .inl (cI, 7, .inl (fun _ => 0))), (q2, .inl (cI, 1008, .inl (fun _ => 0))), (q3, .inl (cI, 1008, .inl (fun _ => 0))), (q4, .inl (cI, 1008, .inl (fun _ => 0))), (q5, .inl (cI, 1008, .inl (fun _ => 0))), (q6, .inl (cI, 7, .inl (fun _ => 0))), (q7, .inl (cI, 7, .inl (fun _ => 0))), (q8, .inl (cI, 7, .inl (fun _ => 0))), (q9, .inl (cZ, 7, .inl (fun _ => 0))), (q10, .inl (cI, 7, .inl (fun _ => 0))), (q11, .inl (cI, 7, .inl (fun _ => 0))), (q12, .inl (cI, 42, .inl (fun _ => 0))), (q13, .inl (cI, 42, .inl (fun _ => 0))), (q14, .inl (cI, 42, .inl (fun _ => 0))), (q15, .inl (cI, 42, .inl (fun _ => 0))), (q16, .inl (cI, 3600, .inl (fun _ => 0))), (q17, .inl (cI, 144, .inl (fun _ => 0))), (q18, .inl (cI, 144, .inl (fun _ => 0))), (q19, .inl (cI, 144, .inl (fun _ => 0))), (q20, .inl (cI, 144, .inl (fun _ => 0))), (q21, .inl (cI, 144, .inl (fun _ => 0))), (q22, .inl (cZ, 48, .inl (fun _ => 0)))] := hD
  refine W.widen (k := 23) (n := 8624) (by omega) (by omega) ?_
  refine fx_putC (o := 7) (ci := 7) (k := 28) (ty := .array .boolean) hx hb hts hown hin hK hP hD hS 0 rfl (by decide +kernel) rfl (by decide +kernel) rfl rfl (show 28 < 40 by omega) (show decode prog_9_method_1_code 211 = .ok (.putfield 87, 3) by decide +kernel) (fun H locs hP hD hS => ?_)
  have hP : va_P D fx_cl [(h0, .inr (7, [.ref q0, .ref q1, .int 0, .ref q2, .ref q3, .ref q4, .ref q5, .ref q6, .ref q7, .ref q8, .ref q9, .ref q10, .ref q11, .ref q12, .ref q13, .ref q14, .ref q15, .int (fx_I (3)), .int (fx_I (2)), .int (fx_I (8)), .ref q16, .ref q17, .ref q18, .ref q19, .ref q20, .ref q21, .int 0, .int 0, .ref q22, .null, .null, .null, .null, .int 0, .null, .int 0, .int 0, .int 0, .int 0, .int 0])), (q0, .inl (cI, 7, .inl (fun _ => 0))), (q1, .inl (cI, 7, .inl (fun _ => 0))), (q2, .inl (cI, 1008, .inl (fun _ => 0))), (q3, .inl (cI, 1008, .inl (fun _ => 0))), (q4, .inl (cI, 1008, .inl (fun _ => 0))), (q5, .inl (cI, 1008, .inl (fun _ => 0))), (q6, .inl (cI, 7, .inl (fun _ => 0))), (q7, .inl (cI, 7, .inl (fun _ => 0))), (q8, .inl (cI, 7, .inl (fun _ => 0))), (q9, .inl (cZ, 7, .inl (fun _ => 0))), (q10, .inl (cI, 7, .inl (fun _ => 0))), (q11, .inl (cI, 7, .inl (fun _ => 0))), (q12, .inl (cI, 42, .inl (fun _ => 0))), (q13, .inl (cI, 42, .inl (fun _ => 0))), (q14, .inl (cI, 42, .inl (fun _ => 0))), (q15, .inl (cI, 42, .inl (fun _ => 0))), (q16, .inl (cI, 3600, .inl (fun _ => 0))), (q17, .inl (cI, 144, .inl (fun _ => 0))), (q18, .inl (cI, 144, .inl (fun _ => 0))), (q19, .inl (cI, 144, .inl (fun _ => 0))), (q20, .inl (cI, 144, .inl (fun _ => 0))), (q21, .inl (cI, 144, .inl (fun _ => 0))), (q22, .inl (cZ, 48, .inl (fun _ => 0)))] H := hP
  have hD : va_D A [(h0, .inr (7, [.ref q0, .ref q1, .int 0, .ref q2, .ref q3, .ref q4, .ref q5, .ref q6, .ref q7, .ref q8, .ref q9, .ref q10, .ref q11, .ref q12, .ref q13, .ref q14, .ref q15, .int (fx_I (3)), .int (fx_I (2)), .int (fx_I (8)), .ref q16, .ref q17, .ref q18, .ref q19, .ref q20, .ref q21, .int 0, .int 0, .ref q22, .null, .null, .null, .null, .int 0, .null, .int 0, .int 0, .int 0, .int 0, .int 0])), (q0, .inl (cI, 7, .inl (fun _ => 0))), (q1, .inl (cI, 7, .inl (fun _ => 0))), (q2, .inl (cI, 1008, .inl (fun _ => 0))), (q3, .inl (cI, 1008, .inl (fun _ => 0))), (q4, .inl (cI, 1008, .inl (fun _ => 0))), (q5, .inl (cI, 1008, .inl (fun _ => 0))), (q6, .inl (cI, 7, .inl (fun _ => 0))), (q7, .inl (cI, 7, .inl (fun _ => 0))), (q8, .inl (cI, 7, .inl (fun _ => 0))), (q9, .inl (cZ, 7, .inl (fun _ => 0))), (q10, .inl (cI, 7, .inl (fun _ => 0))), (q11, .inl (cI, 7, .inl (fun _ => 0))), (q12, .inl (cI, 42, .inl (fun _ => 0))), (q13, .inl (cI, 42, .inl (fun _ => 0))), (q14, .inl (cI, 42, .inl (fun _ => 0))), (q15, .inl (cI, 42, .inl (fun _ => 0))), (q16, .inl (cI, 3600, .inl (fun _ => 0))), (q17, .inl (cI, 144, .inl (fun _ => 0))), (q18, .inl (cI, 144, .inl (fun _ => 0))), (q19, .inl (cI, 144, .inl (fun _ => 0))), (q20, .inl (cI, 144, .inl (fun _ => 0))), (q21, .inl (cI, 144, .inl (fun _ => 0))), (q22, .inl (cZ, 48, .inl (fun _ => 0)))] := hD
  refine lv_aload_n hx hb (show decode prog_9_method_1_code 214 = .ok (.aload_n 0, 1) by decide +kernel) rfl (lv_at hl 0 rfl) ?_
  refine lv_iconst (v := fx_I (2)) hx hb (show decode prog_9_method_1_code 215 = .ok (.iconst 2, 1) by decide +kernel) rfl ?_
  refine fx_newI (n := 2) hx hb hts wd_90 hK hP hD hS hA (by omega) (show 23 + 1 ≤ 28 by omega) (show 8624 + 2 ≤ 8640 by omega) (show decode prog_9_method_1_code 216 = .ok (.newarray .int, 2) by decide +kernel) (fun q23 H hP hD hS => ?_)
  have hP : va_P D fx_cl [(h0, .inr (7, [.ref q0, .ref q1, .int 0, .ref q2, .ref q3, .ref q4, .ref q5, .ref q6, .ref q7, .ref q8, .ref q9, .ref q10, .ref q11, .ref q12, .ref q13, .ref q14, .ref q15, .int (fx_I (3)), .int (fx_I (2)), .int (fx_I (8)), .ref q16, .ref q17, .ref q18, .ref q19, .ref q20, .ref q21, .int 0, .int 0, .ref q22, .null, .null, .null, .null, .int 0, .null, .int 0, .int 0, .int 0, .int 0, .int 0])), (q0, .inl (cI, 7, .inl (fun _ => 0))), (q1, .inl (cI, 7, .inl (fun _ => 0))), (q2, .inl (cI, 1008, .inl (fun _ => 0))), (q3, .inl (cI, 1008, .inl (fun _ => 0))), (q4, .inl (cI, 1008, .inl (fun _ => 0))), (q5, .inl (cI, 1008, .inl (fun _ => 0))), (q6, .inl (cI, 7, .inl (fun _ => 0))), (q7, .inl (cI, 7, .inl (fun _ => 0))), (q8, .inl (cI, 7, .inl (fun _ => 0))), (q9, .inl (cZ, 7, .inl (fun _ => 0))), (q10, .inl (cI, 7, .inl (fun _ => 0))), (q11, .inl (cI, 7, .inl (fun _ => 0))), (q12, .inl (cI, 42, .inl (fun _ => 0))), (q13, .inl (cI, 42, .inl (fun _ => 0))), (q14, .inl (cI, 42, .inl (fun _ => 0))), (q15, .inl (cI, 42, .inl (fun _ => 0))), (q16, .inl (cI, 3600, .inl (fun _ => 0))), (q17, .inl (cI, 144, .inl (fun _ => 0))), (q18, .inl (cI, 144, .inl (fun _ => 0))), (q19, .inl (cI, 144, .inl (fun _ => 0))), (q20, .inl (cI, 144, .inl (fun _ => 0))), (q21, .inl (cI, 144, .inl (fun _ => 0))), (q22, .inl (cZ, 48, .inl (fun _ => 0))), (q23, .inl (cI, 2, .inl (fun _ => 0)))] H := hP
  have hD : va_D A [(h0, .inr (7, [.ref q0, .ref q1, .int 0, .ref q2, .ref q3, .ref q4, .ref q5, .ref q6, .ref q7, .ref q8, .ref q9, .ref q10, .ref q11, .ref q12, .ref q13, .ref q14, .ref q15, .int (fx_I (3)), .int (fx_I (2)), .int (fx_I (8)), .ref q16, .ref q17, .ref q18, .ref q19, .ref q20, .ref q21, .int 0, .int 0, .ref q22, .null, .null, .null, .null, .int 0, .null, .int 0, .int 0, .int 0, .int 0, .int 0])), (q0, .inl (cI, 7, .inl (fun _ => 0))), (q1, .inl (cI, 7, .inl (fun _ => 0))), (q2, .inl (cI, 1008, .inl (fun _ => 0))), (q3, .inl (cI, 1008, .inl (fun _ => 0))), (q4, .inl (cI, 1008, .inl (fun _ => 0))), (q5, .inl (cI, 1008, .inl (fun _ => 0))), (q6, .inl (cI, 7, .inl (fun _ => 0))), (q7, .inl (cI, 7, .inl (fun _ => 0))), (q8, .inl (cI, 7, .inl (fun _ => 0))), (q9, .inl (cZ, 7, .inl (fun _ => 0))), (q10, .inl (cI, 7, .inl (fun _ => 0))), (q11, .inl (cI, 7, .inl (fun _ => 0))), (q12, .inl (cI, 42, .inl (fun _ => 0))), (q13, .inl (cI, 42, .inl (fun _ => 0))), (q14, .inl (cI, 42, .inl (fun _ => 0))), (q15, .inl (cI, 42, .inl (fun _ => 0))), (q16, .inl (cI, 3600, .inl (fun _ => 0))), (q17, .inl (cI, 144, .inl (fun _ => 0))), (q18, .inl (cI, 144, .inl (fun _ => 0))), (q19, .inl (cI, 144, .inl (fun _ => 0))), (q20, .inl (cI, 144, .inl (fun _ => 0))), (q21, .inl (cI, 144, .inl (fun _ => 0))), (q22, .inl (cZ, 48, .inl (fun _ => 0))), (q23, .inl (cI, 2, .inl (fun _ => 0)))] := hD
  refine W.widen (k := 24) (n := 8626) (by omega) (by omega) ?_
  refine fx_putC (o := 7) (ci := 7) (k := 29) (ty := .array .int) hx hb hts hown hin hK hP hD hS 0 rfl (by decide +kernel) rfl (by decide +kernel) rfl rfl (show 29 < 40 by omega) (show decode prog_9_method_1_code 218 = .ok (.putfield 90, 3) by decide +kernel) (fun H locs hP hD hS => ?_)
  have hP : va_P D fx_cl [(h0, .inr (7, [.ref q0, .ref q1, .int 0, .ref q2, .ref q3, .ref q4, .ref q5, .ref q6, .ref q7, .ref q8, .ref q9, .ref q10, .ref q11, .ref q12, .ref q13, .ref q14, .ref q15, .int (fx_I (3)), .int (fx_I (2)), .int (fx_I (8)), .ref q16, .ref q17, .ref q18, .ref q19, .ref q20, .ref q21, .int 0, .int 0, .ref q22, .ref q23, .null, .null, .null, .int 0, .null, .int 0, .int 0, .int 0, .int 0, .int 0])), (q0, .inl (cI, 7, .inl (fun _ => 0))), (q1, .inl (cI, 7, .inl (fun _ => 0))), (q2, .inl (cI, 1008, .inl (fun _ => 0))), (q3, .inl (cI, 1008, .inl (fun _ => 0))), (q4, .inl (cI, 1008, .inl (fun _ => 0))), (q5, .inl (cI, 1008, .inl (fun _ => 0))), (q6, .inl (cI, 7, .inl (fun _ => 0))), (q7, .inl (cI, 7, .inl (fun _ => 0))), (q8, .inl (cI, 7, .inl (fun _ => 0))), (q9, .inl (cZ, 7, .inl (fun _ => 0))), (q10, .inl (cI, 7, .inl (fun _ => 0))), (q11, .inl (cI, 7, .inl (fun _ => 0))), (q12, .inl (cI, 42, .inl (fun _ => 0))), (q13, .inl (cI, 42, .inl (fun _ => 0))), (q14, .inl (cI, 42, .inl (fun _ => 0))), (q15, .inl (cI, 42, .inl (fun _ => 0))), (q16, .inl (cI, 3600, .inl (fun _ => 0))), (q17, .inl (cI, 144, .inl (fun _ => 0))), (q18, .inl (cI, 144, .inl (fun _ => 0))), (q19, .inl (cI, 144, .inl (fun _ => 0))), (q20, .inl (cI, 144, .inl (fun _ => 0))), (q21, .inl (cI, 144, .inl (fun _ => 0))), (q22, .inl (cZ, 48, .inl (fun _ => 0))), (q23, .inl (cI, 2, .inl (fun _ => 0)))] H := hP
  have hD : va_D A [(h0, .inr (7, [.ref q0, .ref q1, .int 0, .ref q2, .ref q3, .ref q4, .ref q5, .ref q6, .ref q7, .ref q8, .ref q9, .ref q10, .ref q11, .ref q12, .ref q13, .ref q14, .ref q15, .int (fx_I (3)), .int (fx_I (2)), .int (fx_I (8)), .ref q16, .ref q17, .ref q18, .ref q19, .ref q20, .ref q21, .int 0, .int 0, .ref q22, .ref q23, .null, .null, .null, .int 0, .null, .int 0, .int 0, .int 0, .int 0, .int 0])), (q0, .inl (cI, 7, .inl (fun _ => 0))), (q1, .inl (cI, 7, .inl (fun _ => 0))), (q2, .inl (cI, 1008, .inl (fun _ => 0))), (q3, .inl (cI, 1008, .inl (fun _ => 0))), (q4, .inl (cI, 1008, .inl (fun _ => 0))), (q5, .inl (cI, 1008, .inl (fun _ => 0))), (q6, .inl (cI, 7, .inl (fun _ => 0))), (q7, .inl (cI, 7, .inl (fun _ => 0))), (q8, .inl (cI, 7, .inl (fun _ => 0))), (q9, .inl (cZ, 7, .inl (fun _ => 0))), (q10, .inl (cI, 7, .inl (fun _ => 0))), (q11, .inl (cI, 7, .inl (fun _ => 0))), (q12, .inl (cI, 42, .inl (fun _ => 0))), (q13, .inl (cI, 42, .inl (fun _ => 0))), (q14, .inl (cI, 42, .inl (fun _ => 0))), (q15, .inl (cI, 42, .inl (fun _ => 0))), (q16, .inl (cI, 3600, .inl (fun _ => 0))), (q17, .inl (cI, 144, .inl (fun _ => 0))), (q18, .inl (cI, 144, .inl (fun _ => 0))), (q19, .inl (cI, 144, .inl (fun _ => 0))), (q20, .inl (cI, 144, .inl (fun _ => 0))), (q21, .inl (cI, 144, .inl (fun _ => 0))), (q22, .inl (cZ, 48, .inl (fun _ => 0))), (q23, .inl (cI, 2, .inl (fun _ => 0)))] := hD
  refine lv_aload_n hx hb (show decode prog_9_method_1_code 221 = .ok (.aload_n 0, 1) by decide +kernel) rfl (lv_at hl 0 rfl) ?_
  refine lv_iconst (v := fx_I (2)) hx hb (show decode prog_9_method_1_code 222 = .ok (.iconst 2, 1) by decide +kernel) rfl ?_
  refine fx_newI (n := 2) hx hb hts wd_90 hK hP hD hS hA (by omega) (show 24 + 1 ≤ 28 by omega) (show 8626 + 2 ≤ 8640 by omega) (show decode prog_9_method_1_code 223 = .ok (.newarray .int, 2) by decide +kernel) (fun q24 H hP hD hS => ?_)
  have hP : va_P D fx_cl [(h0, .inr (7, [.ref q0, .ref q1, .int 0, .ref q2, .ref q3, .ref q4, .ref q5, .ref q6, .ref q7, .ref q8, .ref q9, .ref q10, .ref q11, .ref q12, .ref q13, .ref q14, .ref q15, .int (fx_I (3)), .int (fx_I (2)), .int (fx_I (8)), .ref q16, .ref q17, .ref q18, .ref q19, .ref q20, .ref q21, .int 0, .int 0, .ref q22, .ref q23, .null, .null, .null, .int 0, .null, .int 0, .int 0, .int 0, .int 0, .int 0])), (q0, .inl (cI, 7, .inl (fun _ => 0))), (q1, .inl (cI, 7, .inl (fun _ => 0))), (q2, .inl (cI, 1008, .inl (fun _ => 0))), (q3, .inl (cI, 1008, .inl (fun _ => 0))), (q4, .inl (cI, 1008, .inl (fun _ => 0))), (q5, .inl (cI, 1008, .inl (fun _ => 0))), (q6, .inl (cI, 7, .inl (fun _ => 0))), (q7, .inl (cI, 7, .inl (fun _ => 0))), (q8, .inl (cI, 7, .inl (fun _ => 0))), (q9, .inl (cZ, 7, .inl (fun _ => 0))), (q10, .inl (cI, 7, .inl (fun _ => 0))), (q11, .inl (cI, 7, .inl (fun _ => 0))), (q12, .inl (cI, 42, .inl (fun _ => 0))), (q13, .inl (cI, 42, .inl (fun _ => 0))), (q14, .inl (cI, 42, .inl (fun _ => 0))), (q15, .inl (cI, 42, .inl (fun _ => 0))), (q16, .inl (cI, 3600, .inl (fun _ => 0))), (q17, .inl (cI, 144, .inl (fun _ => 0))), (q18, .inl (cI, 144, .inl (fun _ => 0))), (q19, .inl (cI, 144, .inl (fun _ => 0))), (q20, .inl (cI, 144, .inl (fun _ => 0))), (q21, .inl (cI, 144, .inl (fun _ => 0))), (q22, .inl (cZ, 48, .inl (fun _ => 0))), (q23, .inl (cI, 2, .inl (fun _ => 0))), (q24, .inl (cI, 2, .inl (fun _ => 0)))] H := hP
  have hD : va_D A [(h0, .inr (7, [.ref q0, .ref q1, .int 0, .ref q2, .ref q3, .ref q4, .ref q5, .ref q6, .ref q7, .ref q8, .ref q9, .ref q10, .ref q11, .ref q12, .ref q13, .ref q14, .ref q15, .int (fx_I (3)), .int (fx_I (2)), .int (fx_I (8)), .ref q16, .ref q17, .ref q18, .ref q19, .ref q20, .ref q21, .int 0, .int 0, .ref q22, .ref q23, .null, .null, .null, .int 0, .null, .int 0, .int 0, .int 0, .int 0, .int 0])), (q0, .inl (cI, 7, .inl (fun _ => 0))), (q1, .inl (cI, 7, .inl (fun _ => 0))), (q2, .inl (cI, 1008, .inl (fun _ => 0))), (q3, .inl (cI, 1008, .inl (fun _ => 0))), (q4, .inl (cI, 1008, .inl (fun _ => 0))), (q5, .inl (cI, 1008, .inl (fun _ => 0))), (q6, .inl (cI, 7, .inl (fun _ => 0))), (q7, .inl (cI, 7, .inl (fun _ => 0))), (q8, .inl (cI, 7, .inl (fun _ => 0))), (q9, .inl (cZ, 7, .inl (fun _ => 0))), (q10, .inl (cI, 7, .inl (fun _ => 0))), (q11, .inl (cI, 7, .inl (fun _ => 0))), (q12, .inl (cI, 42, .inl (fun _ => 0))), (q13, .inl (cI, 42, .inl (fun _ => 0))), (q14, .inl (cI, 42, .inl (fun _ => 0))), (q15, .inl (cI, 42, .inl (fun _ => 0))), (q16, .inl (cI, 3600, .inl (fun _ => 0))), (q17, .inl (cI, 144, .inl (fun _ => 0))), (q18, .inl (cI, 144, .inl (fun _ => 0))), (q19, .inl (cI, 144, .inl (fun _ => 0))), (q20, .inl (cI, 144, .inl (fun _ => 0))), (q21, .inl (cI, 144, .inl (fun _ => 0))), (q22, .inl (cZ, 48, .inl (fun _ => 0))), (q23, .inl (cI, 2, .inl (fun _ => 0))), (q24, .inl (cI, 2, .inl (fun _ => 0)))] := hD
  refine W.widen (k := 25) (n := 8628) (by omega) (by omega) ?_
  refine fx_putC (o := 7) (ci := 7) (k := 30) (ty := .array .int) hx hb hts hown hin hK hP hD hS 0 rfl (by decide +kernel) rfl (by decide +kernel) rfl rfl (show 30 < 40 by omega) (show decode prog_9_method_1_code 225 = .ok (.putfield 93, 3) by decide +kernel) (fun H locs hP hD hS => ?_)
  have hP : va_P D fx_cl [(h0, .inr (7, [.ref q0, .ref q1, .int 0, .ref q2, .ref q3, .ref q4, .ref q5, .ref q6, .ref q7, .ref q8, .ref q9, .ref q10, .ref q11, .ref q12, .ref q13, .ref q14, .ref q15, .int (fx_I (3)), .int (fx_I (2)), .int (fx_I (8)), .ref q16, .ref q17, .ref q18, .ref q19, .ref q20, .ref q21, .int 0, .int 0, .ref q22, .ref q23, .ref q24, .null, .null, .int 0, .null, .int 0, .int 0, .int 0, .int 0, .int 0])), (q0, .inl (cI, 7, .inl (fun _ => 0))), (q1, .inl (cI, 7, .inl (fun _ => 0))), (q2, .inl (cI, 1008, .inl (fun _ => 0))), (q3, .inl (cI, 1008, .inl (fun _ => 0))), (q4, .inl (cI, 1008, .inl (fun _ => 0))), (q5, .inl (cI, 1008, .inl (fun _ => 0))), (q6, .inl (cI, 7, .inl (fun _ => 0))), (q7, .inl (cI, 7, .inl (fun _ => 0))), (q8, .inl (cI, 7, .inl (fun _ => 0))), (q9, .inl (cZ, 7, .inl (fun _ => 0))), (q10, .inl (cI, 7, .inl (fun _ => 0))), (q11, .inl (cI, 7, .inl (fun _ => 0))), (q12, .inl (cI, 42, .inl (fun _ => 0))), (q13, .inl (cI, 42, .inl (fun _ => 0))), (q14, .inl (cI, 42, .inl (fun _ => 0))), (q15, .inl (cI, 42, .inl (fun _ => 0))), (q16, .inl (cI, 3600, .inl (fun _ => 0))), (q17, .inl (cI, 144, .inl (fun _ => 0))), (q18, .inl (cI, 144, .inl (fun _ => 0))), (q19, .inl (cI, 144, .inl (fun _ => 0))), (q20, .inl (cI, 144, .inl (fun _ => 0))), (q21, .inl (cI, 144, .inl (fun _ => 0))), (q22, .inl (cZ, 48, .inl (fun _ => 0))), (q23, .inl (cI, 2, .inl (fun _ => 0))), (q24, .inl (cI, 2, .inl (fun _ => 0)))] H := hP
  have hD : va_D A [(h0, .inr (7, [.ref q0, .ref q1, .int 0, .ref q2, .ref q3, .ref q4, .ref q5, .ref q6, .ref q7, .ref q8, .ref q9, .ref q10, .ref q11, .ref q12, .ref q13, .ref q14, .ref q15, .int (fx_I (3)), .int (fx_I (2)), .int (fx_I (8)), .ref q16, .ref q17, .ref q18, .ref q19, .ref q20, .ref q21, .int 0, .int 0, .ref q22, .ref q23, .ref q24, .null, .null, .int 0, .null, .int 0, .int 0, .int 0, .int 0, .int 0])), (q0, .inl (cI, 7, .inl (fun _ => 0))), (q1, .inl (cI, 7, .inl (fun _ => 0))), (q2, .inl (cI, 1008, .inl (fun _ => 0))), (q3, .inl (cI, 1008, .inl (fun _ => 0))), (q4, .inl (cI, 1008, .inl (fun _ => 0))), (q5, .inl (cI, 1008, .inl (fun _ => 0))), (q6, .inl (cI, 7, .inl (fun _ => 0))), (q7, .inl (cI, 7, .inl (fun _ => 0))), (q8, .inl (cI, 7, .inl (fun _ => 0))), (q9, .inl (cZ, 7, .inl (fun _ => 0))), (q10, .inl (cI, 7, .inl (fun _ => 0))), (q11, .inl (cI, 7, .inl (fun _ => 0))), (q12, .inl (cI, 42, .inl (fun _ => 0))), (q13, .inl (cI, 42, .inl (fun _ => 0))), (q14, .inl (cI, 42, .inl (fun _ => 0))), (q15, .inl (cI, 42, .inl (fun _ => 0))), (q16, .inl (cI, 3600, .inl (fun _ => 0))), (q17, .inl (cI, 144, .inl (fun _ => 0))), (q18, .inl (cI, 144, .inl (fun _ => 0))), (q19, .inl (cI, 144, .inl (fun _ => 0))), (q20, .inl (cI, 144, .inl (fun _ => 0))), (q21, .inl (cI, 144, .inl (fun _ => 0))), (q22, .inl (cZ, 48, .inl (fun _ => 0))), (q23, .inl (cI, 2, .inl (fun _ => 0))), (q24, .inl (cI, 2, .inl (fun _ => 0)))] := hD
  refine lv_aload_n hx hb (show decode prog_9_method_1_code 228 = .ok (.aload_n 0, 1) by decide +kernel) rfl (lv_at hl 0 rfl) ?_
  refine lv_iconst (v := fx_I (2)) hx hb (show decode prog_9_method_1_code 229 = .ok (.iconst 2, 1) by decide +kernel) rfl ?_
  refine fx_newI (n := 2) hx hb hts wd_90 hK hP hD hS hA (by omega) (show 25 + 1 ≤ 28 by omega) (show 8628 + 2 ≤ 8640 by omega) (show decode prog_9_method_1_code 230 = .ok (.newarray .int, 2) by decide +kernel) (fun q25 H hP hD hS => ?_)
  have hP : va_P D fx_cl [(h0, .inr (7, [.ref q0, .ref q1, .int 0, .ref q2, .ref q3, .ref q4, .ref q5, .ref q6, .ref q7, .ref q8, .ref q9, .ref q10, .ref q11, .ref q12, .ref q13, .ref q14, .ref q15, .int (fx_I (3)), .int (fx_I (2)), .int (fx_I (8)), .ref q16, .ref q17, .ref q18, .ref q19, .ref q20, .ref q21, .int 0, .int 0, .ref q22, .ref q23, .ref q24, .null, .null, .int 0, .null, .int 0, .int 0, .int 0, .int 0, .int 0])), (q0, .inl (cI, 7, .inl (fun _ => 0))), (q1, .inl (cI, 7, .inl (fun _ => 0))), (q2, .inl (cI, 1008, .inl (fun _ => 0))), (q3, .inl (cI, 1008, .inl (fun _ => 0))), (q4, .inl (cI, 1008, .inl (fun _ => 0))), (q5, .inl (cI, 1008, .inl (fun _ => 0))), (q6, .inl (cI, 7, .inl (fun _ => 0))), (q7, .inl (cI, 7, .inl (fun _ => 0))), (q8, .inl (cI, 7, .inl (fun _ => 0))), (q9, .inl (cZ, 7, .inl (fun _ => 0))), (q10, .inl (cI, 7, .inl (fun _ => 0))), (q11, .inl (cI, 7, .inl (fun _ => 0))), (q12, .inl (cI, 42, .inl (fun _ => 0))), (q13, .inl (cI, 42, .inl (fun _ => 0))), (q14, .inl (cI, 42, .inl (fun _ => 0))), (q15, .inl (cI, 42, .inl (fun _ => 0))), (q16, .inl (cI, 3600, .inl (fun _ => 0))), (q17, .inl (cI, 144, .inl (fun _ => 0))), (q18, .inl (cI, 144, .inl (fun _ => 0))), (q19, .inl (cI, 144, .inl (fun _ => 0))), (q20, .inl (cI, 144, .inl (fun _ => 0))), (q21, .inl (cI, 144, .inl (fun _ => 0))), (q22, .inl (cZ, 48, .inl (fun _ => 0))), (q23, .inl (cI, 2, .inl (fun _ => 0))), (q24, .inl (cI, 2, .inl (fun _ => 0))), (q25, .inl (cI, 2, .inl (fun _ => 0)))] H := hP
  have hD : va_D A [(h0, .inr (7, [.ref q0, .ref q1, .int 0, .ref q2, .ref q3, .ref q4, .ref q5, .ref q6, .ref q7, .ref q8, .ref q9, .ref q10, .ref q11, .ref q12, .ref q13, .ref q14, .ref q15, .int (fx_I (3)), .int (fx_I (2)), .int (fx_I (8)), .ref q16, .ref q17, .ref q18, .ref q19, .ref q20, .ref q21, .int 0, .int 0, .ref q22, .ref q23, .ref q24, .null, .null, .int 0, .null, .int 0, .int 0, .int 0, .int 0, .int 0])), (q0, .inl (cI, 7, .inl (fun _ => 0))), (q1, .inl (cI, 7, .inl (fun _ => 0))), (q2, .inl (cI, 1008, .inl (fun _ => 0))), (q3, .inl (cI, 1008, .inl (fun _ => 0))), (q4, .inl (cI, 1008, .inl (fun _ => 0))), (q5, .inl (cI, 1008, .inl (fun _ => 0))), (q6, .inl (cI, 7, .inl (fun _ => 0))), (q7, .inl (cI, 7, .inl (fun _ => 0))), (q8, .inl (cI, 7, .inl (fun _ => 0))), (q9, .inl (cZ, 7, .inl (fun _ => 0))), (q10, .inl (cI, 7, .inl (fun _ => 0))), (q11, .inl (cI, 7, .inl (fun _ => 0))), (q12, .inl (cI, 42, .inl (fun _ => 0))), (q13, .inl (cI, 42, .inl (fun _ => 0))), (q14, .inl (cI, 42, .inl (fun _ => 0))), (q15, .inl (cI, 42, .inl (fun _ => 0))), (q16, .inl (cI, 3600, .inl (fun _ => 0))), (q17, .inl (cI, 144, .inl (fun _ => 0))), (q18, .inl (cI, 144, .inl (fun _ => 0))), (q19, .inl (cI, 144, .inl (fun _ => 0))), (q20, .inl (cI, 144, .inl (fun _ => 0))), (q21, .inl (cI, 144, .inl (fun _ => 0))), (q22, .inl (cZ, 48, .inl (fun _ => 0))), (q23, .inl (cI, 2, .inl (fun _ => 0))), (q24, .inl (cI, 2, .inl (fun _ => 0))), (q25, .inl (cI, 2, .inl (fun _ => 0)))] := hD
  refine W.widen (k := 26) (n := 8630) (by omega) (by omega) ?_
  refine fx_putC (o := 7) (ci := 7) (k := 31) (ty := .array .int) hx hb hts hown hin hK hP hD hS 0 rfl (by decide +kernel) rfl (by decide +kernel) rfl rfl (show 31 < 40 by omega) (show decode prog_9_method_1_code 232 = .ok (.putfield 96, 3) by decide +kernel) (fun H locs hP hD hS => ?_)
  have hP : va_P D fx_cl [(h0, .inr (7, [.ref q0, .ref q1, .int 0, .ref q2, .ref q3, .ref q4, .ref q5, .ref q6, .ref q7, .ref q8, .ref q9, .ref q10, .ref q11, .ref q12, .ref q13, .ref q14, .ref q15, .int (fx_I (3)), .int (fx_I (2)), .int (fx_I (8)), .ref q16, .ref q17, .ref q18, .ref q19, .ref q20, .ref q21, .int 0, .int 0, .ref q22, .ref q23, .ref q24, .ref q25, .null, .int 0, .null, .int 0, .int 0, .int 0, .int 0, .int 0])), (q0, .inl (cI, 7, .inl (fun _ => 0))), (q1, .inl (cI, 7, .inl (fun _ => 0))), (q2, .inl (cI, 1008, .inl (fun _ => 0))), (q3, .inl (cI, 1008, .inl (fun _ => 0))), (q4, .inl (cI, 1008, .inl (fun _ => 0))), (q5, .inl (cI, 1008, .inl (fun _ => 0))), (q6, .inl (cI, 7, .inl (fun _ => 0))), (q7, .inl (cI, 7, .inl (fun _ => 0))), (q8, .inl (cI, 7, .inl (fun _ => 0))), (q9, .inl (cZ, 7, .inl (fun _ => 0))), (q10, .inl (cI, 7, .inl (fun _ => 0))), (q11, .inl (cI, 7, .inl (fun _ => 0))), (q12, .inl (cI, 42, .inl (fun _ => 0))), (q13, .inl (cI, 42, .inl (fun _ => 0))), (q14, .inl (cI, 42, .inl (fun _ => 0))), (q15, .inl (cI, 42, .inl (fun _ => 0))), (q16, .inl (cI, 3600, .inl (fun _ => 0))), (q17, .inl (cI, 144, .inl (fun _ => 0))), (q18, .inl (cI, 144, .inl (fun _ => 0))), (q19, .inl (cI, 144, .inl (fun _ => 0))), (q20, .inl (cI, 144, .inl (fun _ => 0))), (q21, .inl (cI, 144, .inl (fun _ => 0))), (q22, .inl (cZ, 48, .inl (fun _ => 0))), (q23, .inl (cI, 2, .inl (fun _ => 0))), (q24, .inl (cI, 2, .inl (fun _ => 0))), (q25, .inl (cI, 2, .inl (fun _ => 0)))] H := hP
  have hD : va_D A [(h0, .inr (7, [.ref q0, .ref q1, .int 0, .ref q2, .ref q3, .ref q4, .ref q5, .ref q6, .ref q7, .ref q8, .ref q9, .ref q10, .ref q11, .ref q12, .ref q13, .ref q14, .ref q15, .int (fx_I (3)), .int (fx_I (2)), .int (fx_I (8)), .ref q16, .ref q17, .ref q18, .ref q19, .ref q20, .ref q21, .int 0, .int 0, .ref q22, .ref q23, .ref q24, .ref q25, .null, .int 0, .null, .int 0, .int 0, .int 0, .int 0, .int 0])), (q0, .inl (cI, 7, .inl (fun _ => 0))), (q1, .inl (cI, 7, .inl (fun _ => 0))), (q2, .inl (cI, 1008, .inl (fun _ => 0))), (q3, .inl (cI, 1008, .inl (fun _ => 0))), (q4, .inl (cI, 1008, .inl (fun _ => 0))), (q5, .inl (cI, 1008, .inl (fun _ => 0))), (q6, .inl (cI, 7, .inl (fun _ => 0))), (q7, .inl (cI, 7, .inl (fun _ => 0))), (q8, .inl (cI, 7, .inl (fun _ => 0))), (q9, .inl (cZ, 7, .inl (fun _ => 0))), (q10, .inl (cI, 7, .inl (fun _ => 0))), (q11, .inl (cI, 7, .inl (fun _ => 0))), (q12, .inl (cI, 42, .inl (fun _ => 0))), (q13, .inl (cI, 42, .inl (fun _ => 0))), (q14, .inl (cI, 42, .inl (fun _ => 0))), (q15, .inl (cI, 42, .inl (fun _ => 0))), (q16, .inl (cI, 3600, .inl (fun _ => 0))), (q17, .inl (cI, 144, .inl (fun _ => 0))), (q18, .inl (cI, 144, .inl (fun _ => 0))), (q19, .inl (cI, 144, .inl (fun _ => 0))), (q20, .inl (cI, 144, .inl (fun _ => 0))), (q21, .inl (cI, 144, .inl (fun _ => 0))), (q22, .inl (cZ, 48, .inl (fun _ => 0))), (q23, .inl (cI, 2, .inl (fun _ => 0))), (q24, .inl (cI, 2, .inl (fun _ => 0))), (q25, .inl (cI, 2, .inl (fun _ => 0)))] := hD
  refine lv_aload_n hx hb (show decode prog_9_method_1_code 235 = .ok (.aload_n 0, 1) by decide +kernel) rfl (lv_at hl 0 rfl) ?_
  refine lv_bipush (v := fx_I (6)) hx hb (show decode prog_9_method_1_code 236 = .ok (.bipush 6, 2) by decide +kernel) (by decide) ?_
  refine fx_newI (n := 6) hx hb hts wd_90 hK hP hD hS hA (by omega) (show 26 + 1 ≤ 28 by omega) (show 8630 + 6 ≤ 8640 by omega) (show decode prog_9_method_1_code 238 = .ok (.newarray .int, 2) by decide +kernel) (fun q26 H hP hD hS => ?_)
  have hP : va_P D fx_cl [(h0, .inr (7, [.ref q0, .ref q1, .int 0, .ref q2, .ref q3, .ref q4, .ref q5, .ref q6, .ref q7, .ref q8, .ref q9, .ref q10, .ref q11, .ref q12, .ref q13, .ref q14, .ref q15, .int (fx_I (3)), .int (fx_I (2)), .int (fx_I (8)), .ref q16, .ref q17, .ref q18, .ref q19, .ref q20, .ref q21, .int 0, .int 0, .ref q22, .ref q23, .ref q24, .ref q25, .null, .int 0, .null, .int 0, .int 0, .int 0, .int 0, .int 0])), (q0, .inl (cI, 7, .inl (fun _ => 0))), (q1, .inl (cI, 7, .inl (fun _ => 0))), (q2, .inl (cI, 1008, .inl (fun _ => 0))), (q3, .inl (cI, 1008, .inl (fun _ => 0))), (q4, .inl (cI, 1008, .inl (fun _ => 0))), (q5, .inl (cI, 1008, .inl (fun _ => 0))), (q6, .inl (cI, 7, .inl (fun _ => 0))), (q7, .inl (cI, 7, .inl (fun _ => 0))), (q8, .inl (cI, 7, .inl (fun _ => 0))), (q9, .inl (cZ, 7, .inl (fun _ => 0))), (q10, .inl (cI, 7, .inl (fun _ => 0))), (q11, .inl (cI, 7, .inl (fun _ => 0))), (q12, .inl (cI, 42, .inl (fun _ => 0))), (q13, .inl (cI, 42, .inl (fun _ => 0))), (q14, .inl (cI, 42, .inl (fun _ => 0))), (q15, .inl (cI, 42, .inl (fun _ => 0))), (q16, .inl (cI, 3600, .inl (fun _ => 0))), (q17, .inl (cI, 144, .inl (fun _ => 0))), (q18, .inl (cI, 144, .inl (fun _ => 0))), (q19, .inl (cI, 144, .inl (fun _ => 0))), (q20, .inl (cI, 144, .inl (fun _ => 0))), (q21, .inl (cI, 144, .inl (fun _ => 0))), (q22, .inl (cZ, 48, .inl (fun _ => 0))), (q23, .inl (cI, 2, .inl (fun _ => 0))), (q24, .inl (cI, 2, .inl (fun _ => 0))), (q25, .inl (cI, 2, .inl (fun _ => 0))), (q26, .inl (cI, 6, .inl (fun _ => 0)))] H := hP
  have hD : va_D A [(h0, .inr (7, [.ref q0, .ref q1, .int 0, .ref q2, .ref q3, .ref q4, .ref q5, .ref q6, .ref q7, .ref q8, .ref q9, .ref q10, .ref q11, .ref q12, .ref q13, .ref q14, .ref q15, .int (fx_I (3)), .int (fx_I (2)), .int (fx_I (8)), .ref q16, .ref q17, .ref q18, .ref q19, .ref q20, .ref q21, .int 0, .int 0, .ref q22, .ref q23, .ref q24, .ref q25, .null, .int 0, .null, .int 0, .int 0, .int 0, .int 0, .int 0])), (q0, .inl (cI, 7, .inl (fun _ => 0))), (q1, .inl (cI, 7, .inl (fun _ => 0))), (q2, .inl (cI, 1008, .inl (fun _ => 0))), (q3, .inl (cI, 1008, .inl (fun _ => 0))), (q4, .inl (cI, 1008, .inl (fun _ => 0))), (q5, .inl (cI, 1008, .inl (fun _ => 0))), (q6, .inl (cI, 7, .inl (fun _ => 0))), (q7, .inl (cI, 7, .inl (fun _ => 0))), (q8, .inl (cI, 7, .inl (fun _ => 0))), (q9, .inl (cZ, 7, .inl (fun _ => 0))), (q10, .inl (cI, 7, .inl (fun _ => 0))), (q11, .inl (cI, 7, .inl (fun _ => 0))), (q12, .inl (cI, 42, .inl (fun _ => 0))), (q13, .inl (cI, 42, .inl (fun _ => 0))), (q14, .inl (cI, 42, .inl (fun _ => 0))), (q15, .inl (cI, 42, .inl (fun _ => 0))), (q16, .inl (cI, 3600, .inl (fun _ => 0))), (q17, .inl (cI, 144, .inl (fun _ => 0))), (q18, .inl (cI, 144, .inl (fun _ => 0))), (q19, .inl (cI, 144, .inl (fun _ => 0))), (q20, .inl (cI, 144, .inl (fun _ => 0))), (q21, .inl (cI, 144, .inl (fun _ => 0))), (q22, .inl (cZ, 48, .inl (fun _ => 0))), (q23, .inl (cI, 2, .inl (fun _ => 0))), (q24, .inl (cI, 2, .inl (fun _ => 0))), (q25, .inl (cI, 2, .inl (fun _ => 0))), (q26, .inl (cI, 6, .inl (fun _ => 0)))] := hD
  refine W.widen (k := 27) (n := 8636) (by omega) (by omega) ?_
  refine fx_putC (o := 7) (ci := 7) (k := 32) (ty := .array .int) hx hb hts hown hin hK hP hD hS 0 rfl (by decide +kernel) rfl (by decide +kernel) rfl rfl (show 32 < 40 by omega) (show decode prog_9_method_1_code 240 = .ok (.putfield 99, 3) by decide +kernel) (fun H locs hP hD hS => ?_)
  have hP : va_P D fx_cl [(h0, .inr (7, [.ref q0, .ref q1, .int 0, .ref q2, .ref q3, .ref q4, .ref q5, .ref q6, .ref q7, .ref q8, .ref q9, .ref q10, .ref q11, .ref q12, .ref q13, .ref q14, .ref q15, .int (fx_I (3)), .int (fx_I (2)), .int (fx_I (8)), .ref q16, .ref q17, .ref q18, .ref q19, .ref q20, .ref q21, .int 0, .int 0, .ref q22, .ref q23, .ref q24, .ref q25, .ref q26, .int 0, .null, .int 0, .int 0, .int 0, .int 0, .int 0])), (q0, .inl (cI, 7, .inl (fun _ => 0))), (q1, .inl (cI, 7, .inl (fun _ => 0))), (q2, .inl (cI, 1008, .inl (fun _ => 0))), (q3, .inl (cI, 1008, .inl (fun _ => 0))), (q4, .inl (cI, 1008, .inl (fun _ => 0))), (q5, .inl (cI, 1008, .inl (fun _ => 0))), (q6, .inl (cI, 7, .inl (fun _ => 0))), (q7, .inl (cI, 7, .inl (fun _ => 0))), (q8, .inl (cI, 7, .inl (fun _ => 0))), (q9, .inl (cZ, 7, .inl (fun _ => 0))), (q10, .inl (cI, 7, .inl (fun _ => 0))), (q11, .inl (cI, 7, .inl (fun _ => 0))), (q12, .inl (cI, 42, .inl (fun _ => 0))), (q13, .inl (cI, 42, .inl (fun _ => 0))), (q14, .inl (cI, 42, .inl (fun _ => 0))), (q15, .inl (cI, 42, .inl (fun _ => 0))), (q16, .inl (cI, 3600, .inl (fun _ => 0))), (q17, .inl (cI, 144, .inl (fun _ => 0))), (q18, .inl (cI, 144, .inl (fun _ => 0))), (q19, .inl (cI, 144, .inl (fun _ => 0))), (q20, .inl (cI, 144, .inl (fun _ => 0))), (q21, .inl (cI, 144, .inl (fun _ => 0))), (q22, .inl (cZ, 48, .inl (fun _ => 0))), (q23, .inl (cI, 2, .inl (fun _ => 0))), (q24, .inl (cI, 2, .inl (fun _ => 0))), (q25, .inl (cI, 2, .inl (fun _ => 0))), (q26, .inl (cI, 6, .inl (fun _ => 0)))] H := hP
  have hD : va_D A [(h0, .inr (7, [.ref q0, .ref q1, .int 0, .ref q2, .ref q3, .ref q4, .ref q5, .ref q6, .ref q7, .ref q8, .ref q9, .ref q10, .ref q11, .ref q12, .ref q13, .ref q14, .ref q15, .int (fx_I (3)), .int (fx_I (2)), .int (fx_I (8)), .ref q16, .ref q17, .ref q18, .ref q19, .ref q20, .ref q21, .int 0, .int 0, .ref q22, .ref q23, .ref q24, .ref q25, .ref q26, .int 0, .null, .int 0, .int 0, .int 0, .int 0, .int 0])), (q0, .inl (cI, 7, .inl (fun _ => 0))), (q1, .inl (cI, 7, .inl (fun _ => 0))), (q2, .inl (cI, 1008, .inl (fun _ => 0))), (q3, .inl (cI, 1008, .inl (fun _ => 0))), (q4, .inl (cI, 1008, .inl (fun _ => 0))), (q5, .inl (cI, 1008, .inl (fun _ => 0))), (q6, .inl (cI, 7, .inl (fun _ => 0))), (q7, .inl (cI, 7, .inl (fun _ => 0))), (q8, .inl (cI, 7, .inl (fun _ => 0))), (q9, .inl (cZ, 7, .inl (fun _ => 0))), (q10, .inl (cI, 7, .inl (fun _ => 0))), (q11, .inl (cI, 7, .inl (fun _ => 0))), (q12, .inl (cI, 42, .inl (fun _ => 0))), (q13, .inl (cI, 42, .inl (fun _ => 0))), (q14, .inl (cI, 42, .inl (fun _ => 0))), (q15, .inl (cI, 42, .inl (fun _ => 0))), (q16, .inl (cI, 3600, .inl (fun _ => 0))), (q17, .inl (cI, 144, .inl (fun _ => 0))), (q18, .inl (cI, 144, .inl (fun _ => 0))), (q19, .inl (cI, 144, .inl (fun _ => 0))), (q20, .inl (cI, 144, .inl (fun _ => 0))), (q21, .inl (cI, 144, .inl (fun _ => 0))), (q22, .inl (cZ, 48, .inl (fun _ => 0))), (q23, .inl (cI, 2, .inl (fun _ => 0))), (q24, .inl (cI, 2, .inl (fun _ => 0))), (q25, .inl (cI, 2, .inl (fun _ => 0))), (q26, .inl (cI, 6, .inl (fun _ => 0)))] := hD
  refine lv_aload_n hx hb (show decode prog_9_method_1_code 243 = .ok (.aload_n 0, 1) by decide +kernel) rfl (lv_at hl 0 rfl) ?_
  refine lv_iconst (v := fx_I (4)) hx hb (show decode prog_9_method_1_code 244 = .ok (.iconst 4, 1) by decide +kernel) rfl ?_
  refine fx_newI (n := 4) hx hb hts wd_90 hK hP hD hS hA (by omega) (show 27 + 1 ≤ 28 by omega) (show 8636 + 4 ≤ 8640 by omega) (show decode prog_9_method_1_code 245 = .ok (.newarray .int, 2) by decide +kernel) (fun q27 H hP hD hS => ?_)
  have hP : va_P D fx_cl [(h0, .inr (7, [.ref q0, .ref q1, .int 0, .ref q2, .ref q3, .ref q4, .ref q5, .ref q6, .ref q7, .ref q8, .ref q9, .ref q10, .ref q11, .ref q12, .ref q13, .ref q14, .ref q15, .int (fx_I (3)), .int (fx_I (2)), .int (fx_I (8)), .ref q16, .ref q17, .ref q18, .ref q19, .ref q20, .ref q21, .int 0, .int 0, .ref q22, .ref q23, .ref q24, .ref q25, .ref q26, .int 0, .null, .int 0, .int 0, .int 0, .int 0, .int 0])), (q0, .inl (cI, 7, .inl (fun _ => 0))), (q1, .inl (cI, 7, .inl (fun _ => 0))), (q2, .inl (cI, 1008, .inl (fun _ => 0))), (q3, .inl (cI, 1008, .inl (fun _ => 0))), (q4, .inl (cI, 1008, .inl (fun _ => 0))), (q5, .inl (cI, 1008, .inl (fun _ => 0))), (q6, .inl (cI, 7, .inl (fun _ => 0))), (q7, .inl (cI, 7, .inl (fun _ => 0))), (q8, .inl (cI, 7, .inl (fun _ => 0))), (q9, .inl (cZ, 7, .inl (fun _ => 0))), (q10, .inl (cI, 7, .inl (fun _ => 0))), (q11, .inl (cI, 7, .inl (fun _ => 0))), (q12, .inl (cI, 42, .inl (fun _ => 0))), (q13, .inl (cI, 42, .inl (fun _ => 0))), (q14, .inl (cI, 42, .inl (fun _ => 0))), (q15, .inl (cI, 42, .inl (fun _ => 0))), (q16, .inl (cI, 3600, .inl (fun _ => 0))), (q17, .inl (cI, 144, .inl (fun _ => 0))), (q18, .inl (cI, 144, .inl (fun _ => 0))), (q19, .inl (cI, 144, .inl (fun _ => 0))), (q20, .inl (cI, 144, .inl (fun _ => 0))), (q21, .inl (cI, 144, .inl (fun _ => 0))), (q22, .inl (cZ, 48, .inl (fun _ => 0))), (q23, .inl (cI, 2, .inl (fun _ => 0))), (q24, .inl (cI, 2, .inl (fun _ => 0))), (q25, .inl (cI, 2, .inl (fun _ => 0))), (q26, .inl (cI, 6, .inl (fun _ => 0))), (q27, .inl (cI, 4, .inl (fun _ => 0)))] H := hP
  have hD : va_D A [(h0, .inr (7, [.ref q0, .ref q1, .int 0, .ref q2, .ref q3, .ref q4, .ref q5, .ref q6, .ref q7, .ref q8, .ref q9, .ref q10, .ref q11, .ref q12, .ref q13, .ref q14, .ref q15, .int (fx_I (3)), .int (fx_I (2)), .int (fx_I (8)), .ref q16, .ref q17, .ref q18, .ref q19, .ref q20, .ref q21, .int 0, .int 0, .ref q22, .ref q23, .ref q24, .ref q25, .ref q26, .int 0, .null, .int 0, .int 0, .int 0, .int 0, .int 0])), (q0, .inl (cI, 7, .inl (fun _ => 0))), (q1, .inl (cI, 7, .inl (fun _ => 0))), (q2, .inl (cI, 1008, .inl (fun _ => 0))), (q3, .inl (cI, 1008, .inl (fun _ => 0))), (q4, .inl (cI, 1008, .inl (fun _ => 0))), (q5, .inl (cI, 1008, .inl (fun _ => 0))), (q6, .inl (cI, 7, .inl (fun _ => 0))), (q7, .inl (cI, 7, .inl (fun _ => 0))), (q8, .inl (cI, 7, .inl (fun _ => 0))), (q9, .inl (cZ, 7, .inl (fun _ => 0))), (q10, .inl (cI, 7, .inl (fun _ => 0))), (q11, .inl (cI, 7, .inl (fun _ => 0))), (q12, .inl (cI, 42, .inl (fun _ => 0))), (q13, .inl (cI, 42, .inl (fun _ => 0))), (q14, .inl (cI, 42, .inl (fun _ => 0))), (q15, .inl (cI, 42, .inl (fun _ => 0))), (q16, .inl (cI, 3600, .inl (fun _ => 0))), (q17, .inl (cI, 144, .inl (fun _ => 0))), (q18, .inl (cI, 144, .inl (fun _ => 0))), (q19, .inl (cI, 144, .inl (fun _ => 0))), (q20, .inl (cI, 144, .inl (fun _ => 0))), (q21, .inl (cI, 144, .inl (fun _ => 0))), (q22, .inl (cZ, 48, .inl (fun _ => 0))), (q23, .inl (cI, 2, .inl (fun _ => 0))), (q24, .inl (cI, 2, .inl (fun _ => 0))), (q25, .inl (cI, 2, .inl (fun _ => 0))), (q26, .inl (cI, 6, .inl (fun _ => 0))), (q27, .inl (cI, 4, .inl (fun _ => 0)))] := hD
  refine W.widen (k := 28) (n := 8640) (by omega) (by omega) ?_
  refine fx_putC (o := 7) (ci := 7) (k := 34) (ty := .array .int) hx hb hts hown hin hK hP hD hS 0 rfl (by decide +kernel) rfl (by decide +kernel) rfl rfl (show 34 < 40 by omega) (show decode prog_9_method_1_code 247 = .ok (.putfield 102, 3) by decide +kernel) (fun H locs hP hD hS => ?_)
  have hP : va_P D fx_cl [(h0, .inr (7, [.ref q0, .ref q1, .int 0, .ref q2, .ref q3, .ref q4, .ref q5, .ref q6, .ref q7, .ref q8, .ref q9, .ref q10, .ref q11, .ref q12, .ref q13, .ref q14, .ref q15, .int (fx_I (3)), .int (fx_I (2)), .int (fx_I (8)), .ref q16, .ref q17, .ref q18, .ref q19, .ref q20, .ref q21, .int 0, .int 0, .ref q22, .ref q23, .ref q24, .ref q25, .ref q26, .int 0, .ref q27, .int 0, .int 0, .int 0, .int 0, .int 0])), (q0, .inl (cI, 7, .inl (fun _ => 0))), (q1, .inl (cI, 7, .inl (fun _ => 0))), (q2, .inl (cI, 1008, .inl (fun _ => 0))), (q3, .inl (cI, 1008, .inl (fun _ => 0))), (q4, .inl (cI, 1008, .inl (fun _ => 0))), (q5, .inl (cI, 1008, .inl (fun _ => 0))), (q6, .inl (cI, 7, .inl (fun _ => 0))), (q7, .inl (cI, 7, .inl (fun _ => 0))), (q8, .inl (cI, 7, .inl (fun _ => 0))), (q9, .inl (cZ, 7, .inl (fun _ => 0))), (q10, .inl (cI, 7, .inl (fun _ => 0))), (q11, .inl (cI, 7, .inl (fun _ => 0))), (q12, .inl (cI, 42, .inl (fun _ => 0))), (q13, .inl (cI, 42, .inl (fun _ => 0))), (q14, .inl (cI, 42, .inl (fun _ => 0))), (q15, .inl (cI, 42, .inl (fun _ => 0))), (q16, .inl (cI, 3600, .inl (fun _ => 0))), (q17, .inl (cI, 144, .inl (fun _ => 0))), (q18, .inl (cI, 144, .inl (fun _ => 0))), (q19, .inl (cI, 144, .inl (fun _ => 0))), (q20, .inl (cI, 144, .inl (fun _ => 0))), (q21, .inl (cI, 144, .inl (fun _ => 0))), (q22, .inl (cZ, 48, .inl (fun _ => 0))), (q23, .inl (cI, 2, .inl (fun _ => 0))), (q24, .inl (cI, 2, .inl (fun _ => 0))), (q25, .inl (cI, 2, .inl (fun _ => 0))), (q26, .inl (cI, 6, .inl (fun _ => 0))), (q27, .inl (cI, 4, .inl (fun _ => 0)))] H := hP
  have hD : va_D A [(h0, .inr (7, [.ref q0, .ref q1, .int 0, .ref q2, .ref q3, .ref q4, .ref q5, .ref q6, .ref q7, .ref q8, .ref q9, .ref q10, .ref q11, .ref q12, .ref q13, .ref q14, .ref q15, .int (fx_I (3)), .int (fx_I (2)), .int (fx_I (8)), .ref q16, .ref q17, .ref q18, .ref q19, .ref q20, .ref q21, .int 0, .int 0, .ref q22, .ref q23, .ref q24, .ref q25, .ref q26, .int 0, .ref q27, .int 0, .int 0, .int 0, .int 0, .int 0])), (q0, .inl (cI, 7, .inl (fun _ => 0))), (q1, .inl (cI, 7, .inl (fun _ => 0))), (q2, .inl (cI, 1008, .inl (fun _ => 0))), (q3, .inl (cI, 1008, .inl (fun _ => 0))), (q4, .inl (cI, 1008, .inl (fun _ => 0))), (q5, .inl (cI, 1008, .inl (fun _ => 0))), (q6, .inl (cI, 7, .inl (fun _ => 0))), (q7, .inl (cI, 7, .inl (fun _ => 0))), (q8, .inl (cI, 7, .inl (fun _ => 0))), (q9, .inl (cZ, 7, .inl (fun _ => 0))), (q10, .inl (cI, 7, .inl (fun _ => 0))), (q11, .inl (cI, 7, .inl (fun _ => 0))), (q12, .inl (cI, 42, .inl (fun _ => 0))), (q13, .inl (cI, 42, .inl (fun _ => 0))), (q14, .inl (cI, 42, .inl (fun _ => 0))), (q15, .inl (cI, 42, .inl (fun _ => 0))), (q16, .inl (cI, 3600, .inl (fun _ => 0))), (q17, .inl (cI, 144, .inl (fun _ => 0))), (q18, .inl (cI, 144, .inl (fun _ => 0))), (q19, .inl (cI, 144, .inl (fun _ => 0))), (q20, .inl (cI, 144, .inl (fun _ => 0))), (q21, .inl (cI, 144, .inl (fun _ => 0))), (q22, .inl (cZ, 48, .inl (fun _ => 0))), (q23, .inl (cI, 2, .inl (fun _ => 0))), (q24, .inl (cI, 2, .inl (fun _ => 0))), (q25, .inl (cI, 2, .inl (fun _ => 0))), (q26, .inl (cI, 6, .inl (fun _ => 0))), (q27, .inl (cI, 4, .inl (fun _ => 0)))] := hD
  refine W.widen (k := 28) (n := 8640) (by omega) (by omega) ?_
  exact W.vret hx hb hr (fun t ht hW => ⟨⟨_, rfl, ⟨q0, q1, q2, q3, q4, q5, q6, q7, q8, q9, q10, q11, q12, q13, q14, q15, q16, q17, q18, q19, q20, q21, q22, q23, q24, q25, q26, q27, rfl⟩, by rw [ht]; exact hP, by rw [hAe]; exact hD⟩, by rw [hAe]; exact hS.F ht⟩) hS.2.2 (show decode prog_9_method_1_code 250 = .ok (.return_, 1) by decide +kernel)
end
