section
-- ===== PART A: goes FIRST, ahead of the names: the tables' words, and 'selects' of the private methods out of them =====
/-- a private method of a class that the tables say can be made, by its rows of tables_1 -/
def lw_okq (q : MethodName × Nat) : Prop := (q.1.cls ≠ "java/lang/invoke/MethodHandle" ∧ q.1.cls ≠ "java/lang/invoke/VarHandle") ∧ Cond.instantiable q.1.cls q.2 ∈ tables_1 ∧ Cond.privateMethod q.1 ∈ tables_1 ∧ Cond.instanceMethod q.1 ∈ tables_1
theorem lw_p0 : lw_okq (⟨"EbbTable", "isSeen", "(I)Z"⟩, 12) := ⟨⟨by decide +kernel, by decide +kernel⟩, List.mem_of_getElem? (i := 19) (by decide +kernel), List.mem_of_getElem? (i := 226) (by decide +kernel), List.mem_of_getElem? (i := 227) (by decide +kernel)⟩
theorem lw_p1 : lw_okq (⟨"EbbTable", "cellsOf", "(I)I"⟩, 12) := ⟨⟨by decide +kernel, by decide +kernel⟩, List.mem_of_getElem? (i := 19) (by decide +kernel), List.mem_of_getElem? (i := 264) (by decide +kernel), List.mem_of_getElem? (i := 265) (by decide +kernel)⟩
theorem lw_p2 : lw_okq (⟨"EbbTable", "cellAround", "(II)I"⟩, 12) := ⟨⟨by decide +kernel, by decide +kernel⟩, List.mem_of_getElem? (i := 19) (by decide +kernel), List.mem_of_getElem? (i := 268) (by decide +kernel), List.mem_of_getElem? (i := 269) (by decide +kernel)⟩
theorem lw_p3 : lw_okq (⟨"EbbTable", "costOf", "(I)I"⟩, 12) := ⟨⟨by decide +kernel, by decide +kernel⟩, List.mem_of_getElem? (i := 19) (by decide +kernel), List.mem_of_getElem? (i := 294) (by decide +kernel), List.mem_of_getElem? (i := 295) (by decide +kernel)⟩
theorem lw_p4 : lw_okq (⟨"EbbTable", "viewFor", "(I)I"⟩, 12) := ⟨⟨by decide +kernel, by decide +kernel⟩, List.mem_of_getElem? (i := 19) (by decide +kernel), List.mem_of_getElem? (i := 298) (by decide +kernel), List.mem_of_getElem? (i := 299) (by decide +kernel)⟩
theorem lw_p5 : lw_okq (⟨"EbbTable", "gainOf", "(I)I"⟩, 12) := ⟨⟨by decide +kernel, by decide +kernel⟩, List.mem_of_getElem? (i := 19) (by decide +kernel), List.mem_of_getElem? (i := 317) (by decide +kernel), List.mem_of_getElem? (i := 318) (by decide +kernel)⟩
theorem lw_p6 : lw_okq (⟨"EbbTable", "areLevels", "(I)Z"⟩, 12) := ⟨⟨by decide +kernel, by decide +kernel⟩, List.mem_of_getElem? (i := 19) (by decide +kernel), List.mem_of_getElem? (i := 328) (by decide +kernel), List.mem_of_getElem? (i := 329) (by decide +kernel)⟩
theorem lw_p7 : lw_okq (⟨"EbbTable", "mixTree", "(JI)J"⟩, 12) := ⟨⟨by decide +kernel, by decide +kernel⟩, List.mem_of_getElem? (i := 19) (by decide +kernel), List.mem_of_getElem? (i := 341) (by decide +kernel), List.mem_of_getElem? (i := 342) (by decide +kernel)⟩
theorem lw_p8 : lw_okq (⟨"EbbTable", "mixLineup", "(JI)J"⟩, 12) := ⟨⟨by decide +kernel, by decide +kernel⟩, List.mem_of_getElem? (i := 19) (by decide +kernel), List.mem_of_getElem? (i := 347) (by decide +kernel), List.mem_of_getElem? (i := 348) (by decide +kernel)⟩
theorem lw_p9 : lw_okq (⟨"EbbTable", "lineUp", "(ILEbbTable$Tree;)V"⟩, 12) := ⟨⟨by decide +kernel, by decide +kernel⟩, List.mem_of_getElem? (i := 19) (by decide +kernel), List.mem_of_getElem? (i := 351) (by decide +kernel), List.mem_of_getElem? (i := 352) (by decide +kernel)⟩
theorem lw_p10 : lw_okq (⟨"EbbTable$Tree", "nextInWalk", "(II)I"⟩, 6) := ⟨⟨by decide +kernel, by decide +kernel⟩, List.mem_of_getElem? (i := 146) (by decide +kernel), List.mem_of_getElem? (i := 367) (by decide +kernel), List.mem_of_getElem? (i := 368) (by decide +kernel)⟩
theorem lw_p11 : lw_okq (⟨"EbbTable$Tree", "childFrom", "(II)I"⟩, 6) := ⟨⟨by decide +kernel, by decide +kernel⟩, List.mem_of_getElem? (i := 146) (by decide +kernel), List.mem_of_getElem? (i := 371) (by decide +kernel), List.mem_of_getElem? (i := 372) (by decide +kernel)⟩
theorem lw_p12 : lw_okq (⟨"EbbTable$Lineup", "childrenAheadOf", "(I)I"⟩, 2) := ⟨⟨by decide +kernel, by decide +kernel⟩, List.mem_of_getElem? (i := 129) (by decide +kernel), List.mem_of_getElem? (i := 391) (by decide +kernel), List.mem_of_getElem? (i := 392) (by decide +kernel)⟩
theorem lw_p13 : lw_okq (⟨"EbbTable", "mixTable", "(J)J"⟩, 12) := ⟨⟨by decide +kernel, by decide +kernel⟩, List.mem_of_getElem? (i := 19) (by decide +kernel), List.mem_of_getElem? (i := 395) (by decide +kernel), List.mem_of_getElem? (i := 396) (by decide +kernel)⟩
theorem lw_p14 : lw_okq (⟨"EbbTable", "layTable", "()V"⟩, 12) := ⟨⟨by decide +kernel, by decide +kernel⟩, List.mem_of_getElem? (i := 19) (by decide +kernel), List.mem_of_getElem? (i := 399) (by decide +kernel), List.mem_of_getElem? (i := 400) (by decide +kernel)⟩
theorem lw_p15 : lw_okq (⟨"EbbTable", "layAxis", "(LEbbTable$Axis;)V"⟩, 12) := ⟨⟨by decide +kernel, by decide +kernel⟩, List.mem_of_getElem? (i := 19) (by decide +kernel), List.mem_of_getElem? (i := 403) (by decide +kernel), List.mem_of_getElem? (i := 404) (by decide +kernel)⟩
def lw_privs_1 : List (MethodName × Nat) := [(⟨"EbbTable", "isSeen", "(I)Z"⟩, 12), (⟨"EbbTable", "cellsOf", "(I)I"⟩, 12), (⟨"EbbTable", "cellAround", "(II)I"⟩, 12), (⟨"EbbTable", "costOf", "(I)I"⟩, 12), (⟨"EbbTable", "viewFor", "(I)I"⟩, 12), (⟨"EbbTable", "gainOf", "(I)I"⟩, 12), (⟨"EbbTable", "areLevels", "(I)Z"⟩, 12), (⟨"EbbTable", "mixTree", "(JI)J"⟩, 12), (⟨"EbbTable", "mixLineup", "(JI)J"⟩, 12), (⟨"EbbTable", "lineUp", "(ILEbbTable$Tree;)V"⟩, 12), (⟨"EbbTable$Tree", "nextInWalk", "(II)I"⟩, 6), (⟨"EbbTable$Tree", "childFrom", "(II)I"⟩, 6), (⟨"EbbTable$Lineup", "childrenAheadOf", "(I)I"⟩, 2), (⟨"EbbTable", "mixTable", "(J)J"⟩, 12), (⟨"EbbTable", "layTable", "()V"⟩, 12), (⟨"EbbTable", "layAxis", "(LEbbTable$Axis;)V"⟩, 12)]
theorem lw_r1 : ∀ q ∈ lw_privs_1, lw_okq q := List.forall_mem_cons.mpr ⟨lw_p0, List.forall_mem_cons.mpr ⟨lw_p1, List.forall_mem_cons.mpr ⟨lw_p2, List.forall_mem_cons.mpr ⟨lw_p3, List.forall_mem_cons.mpr ⟨lw_p4, List.forall_mem_cons.mpr ⟨lw_p5, List.forall_mem_cons.mpr ⟨lw_p6, List.forall_mem_cons.mpr ⟨lw_p7, List.forall_mem_cons.mpr ⟨lw_p8, List.forall_mem_cons.mpr ⟨lw_p9, List.forall_mem_cons.mpr ⟨lw_p10, List.forall_mem_cons.mpr ⟨lw_p11, List.forall_mem_cons.mpr ⟨lw_p12, List.forall_mem_cons.mpr ⟨lw_p13, List.forall_mem_cons.mpr ⟨lw_p14, List.forall_mem_cons.mpr ⟨lw_p15, fun _ h => absurd h List.not_mem_nil⟩⟩⟩⟩⟩⟩⟩⟩⟩⟩⟩⟩⟩⟩⟩⟩
theorem lw_p16 : lw_okq (⟨"EbbTable", "clearCells", "()V"⟩, 12) := ⟨⟨by decide +kernel, by decide +kernel⟩, List.mem_of_getElem? (i := 19) (by decide +kernel), List.mem_of_getElem? (i := 411) (by decide +kernel), List.mem_of_getElem? (i := 412) (by decide +kernel)⟩
theorem lw_p17 : lw_okq (⟨"EbbTable", "putIntoCell", "(I)V"⟩, 12) := ⟨⟨by decide +kernel, by decide +kernel⟩, List.mem_of_getElem? (i := 19) (by decide +kernel), List.mem_of_getElem? (i := 415) (by decide +kernel), List.mem_of_getElem? (i := 416) (by decide +kernel)⟩
theorem lw_p18 : lw_okq (⟨"EbbTable", "placeOnAxis", "(ILEbbTable$Axis;)I"⟩, 12) := ⟨⟨by decide +kernel, by decide +kernel⟩, List.mem_of_getElem? (i := 19) (by decide +kernel), List.mem_of_getElem? (i := 419) (by decide +kernel), List.mem_of_getElem? (i := 420) (by decide +kernel)⟩
theorem lw_p19 : lw_okq (⟨"EbbTable", "cellOfLines", "(II)I"⟩, 12) := ⟨⟨by decide +kernel, by decide +kernel⟩, List.mem_of_getElem? (i := 19) (by decide +kernel), List.mem_of_getElem? (i := 435) (by decide +kernel), List.mem_of_getElem? (i := 436) (by decide +kernel)⟩
theorem lw_p20 : lw_okq (⟨"EbbTable", "mixViews", "(J)J"⟩, 12) := ⟨⟨by decide +kernel, by decide +kernel⟩, List.mem_of_getElem? (i := 19) (by decide +kernel), List.mem_of_getElem? (i := 440) (by decide +kernel), List.mem_of_getElem? (i := 441) (by decide +kernel)⟩
theorem lw_p21 : lw_okq (⟨"java/lang/Throwable", "fillInStackTrace", "(I)Ljava/lang/Throwable;"⟩, 6) := ⟨⟨by decide +kernel, by decide +kernel⟩, List.mem_of_getElem? (i := 491) (by decide +kernel), List.mem_of_getElem? (i := 489) (by decide +kernel), List.mem_of_getElem? (i := 490) (by decide +kernel)⟩
theorem lw_p22 : lw_okq (⟨"EbbTable", "forgetWhatNeedsAllDimensions", "()V"⟩, 12) := ⟨⟨by decide +kernel, by decide +kernel⟩, List.mem_of_getElem? (i := 19) (by decide +kernel), List.mem_of_getElem? (i := 541) (by decide +kernel), List.mem_of_getElem? (i := 542) (by decide +kernel)⟩
theorem lw_p23 : lw_okq (⟨"EbbTable", "treeWith", "(II)LEbbTable$Tree;"⟩, 12) := ⟨⟨by decide +kernel, by decide +kernel⟩, List.mem_of_getElem? (i := 19) (by decide +kernel), List.mem_of_getElem? (i := 557) (by decide +kernel), List.mem_of_getElem? (i := 558) (by decide +kernel)⟩
theorem lw_p24 : lw_okq (⟨"EbbTable", "treeOf", "(I)LEbbTable$Tree;"⟩, 12) := ⟨⟨by decide +kernel, by decide +kernel⟩, List.mem_of_getElem? (i := 19) (by decide +kernel), List.mem_of_getElem? (i := 561) (by decide +kernel), List.mem_of_getElem? (i := 562) (by decide +kernel)⟩
theorem lw_p25 : lw_okq (⟨"EbbTable", "treeWithLevel", "(II)LEbbTable$Tree;"⟩, 12) := ⟨⟨by decide +kernel, by decide +kernel⟩, List.mem_of_getElem? (i := 19) (by decide +kernel), List.mem_of_getElem? (i := 640) (by decide +kernel), List.mem_of_getElem? (i := 641) (by decide +kernel)⟩
theorem lw_p26 : lw_okq (⟨"EbbTable", "isPointOfLeaves", "()Z"⟩, 12) := ⟨⟨by decide +kernel, by decide +kernel⟩, List.mem_of_getElem? (i := 19) (by decide +kernel), List.mem_of_getElem? (i := 682) (by decide +kernel), List.mem_of_getElem? (i := 683) (by decide +kernel)⟩
theorem lw_p27 : lw_okq (⟨"EbbTable", "lineUpWith", "(II)V"⟩, 12) := ⟨⟨by decide +kernel, by decide +kernel⟩, List.mem_of_getElem? (i := 19) (by decide +kernel), List.mem_of_getElem? (i := 718) (by decide +kernel), List.mem_of_getElem? (i := 719) (by decide +kernel)⟩
theorem lw_p28 : lw_okq (⟨"EbbTable", "requireLevel", "(II)V"⟩, 12) := ⟨⟨by decide +kernel, by decide +kernel⟩, List.mem_of_getElem? (i := 19) (by decide +kernel), List.mem_of_getElem? (i := 772) (by decide +kernel), List.mem_of_getElem? (i := 773) (by decide +kernel)⟩
theorem lw_p29 : lw_okq (⟨"EbbTable", "layTableOfAxes", "()V"⟩, 12) := ⟨⟨by decide +kernel, by decide +kernel⟩, List.mem_of_getElem? (i := 19) (by decide +kernel), List.mem_of_getElem? (i := 784) (by decide +kernel), List.mem_of_getElem? (i := 785) (by decide +kernel)⟩
theorem lw_p30 : lw_okq (⟨"EbbTable", "requireLine", "(LEbbTable$Axis;I)V"⟩, 12) := ⟨⟨by decide +kernel, by decide +kernel⟩, List.mem_of_getElem? (i := 19) (by decide +kernel), List.mem_of_getElem? (i := 803) (by decide +kernel), List.mem_of_getElem? (i := 804) (by decide +kernel)⟩
theorem lw_p31 : lw_okq (⟨"EbbTable", "requireView", "(I)V"⟩, 12) := ⟨⟨by decide +kernel, by decide +kernel⟩, List.mem_of_getElem? (i := 19) (by decide +kernel), List.mem_of_getElem? (i := 856) (by decide +kernel), List.mem_of_getElem? (i := 857) (by decide +kernel)⟩
def lw_privs_2 : List (MethodName × Nat) := [(⟨"EbbTable", "clearCells", "()V"⟩, 12), (⟨"EbbTable", "putIntoCell", "(I)V"⟩, 12), (⟨"EbbTable", "placeOnAxis", "(ILEbbTable$Axis;)I"⟩, 12), (⟨"EbbTable", "cellOfLines", "(II)I"⟩, 12), (⟨"EbbTable", "mixViews", "(J)J"⟩, 12), (⟨"java/lang/Throwable", "fillInStackTrace", "(I)Ljava/lang/Throwable;"⟩, 6), (⟨"EbbTable", "forgetWhatNeedsAllDimensions", "()V"⟩, 12), (⟨"EbbTable", "treeWith", "(II)LEbbTable$Tree;"⟩, 12), (⟨"EbbTable", "treeOf", "(I)LEbbTable$Tree;"⟩, 12), (⟨"EbbTable", "treeWithLevel", "(II)LEbbTable$Tree;"⟩, 12), (⟨"EbbTable", "isPointOfLeaves", "()Z"⟩, 12), (⟨"EbbTable", "lineUpWith", "(II)V"⟩, 12), (⟨"EbbTable", "requireLevel", "(II)V"⟩, 12), (⟨"EbbTable", "layTableOfAxes", "()V"⟩, 12), (⟨"EbbTable", "requireLine", "(LEbbTable$Axis;I)V"⟩, 12), (⟨"EbbTable", "requireView", "(I)V"⟩, 12)]
theorem lw_r2 : ∀ q ∈ lw_privs_2, lw_okq q := List.forall_mem_cons.mpr ⟨lw_p16, List.forall_mem_cons.mpr ⟨lw_p17, List.forall_mem_cons.mpr ⟨lw_p18, List.forall_mem_cons.mpr ⟨lw_p19, List.forall_mem_cons.mpr ⟨lw_p20, List.forall_mem_cons.mpr ⟨lw_p21, List.forall_mem_cons.mpr ⟨lw_p22, List.forall_mem_cons.mpr ⟨lw_p23, List.forall_mem_cons.mpr ⟨lw_p24, List.forall_mem_cons.mpr ⟨lw_p25, List.forall_mem_cons.mpr ⟨lw_p26, List.forall_mem_cons.mpr ⟨lw_p27, List.forall_mem_cons.mpr ⟨lw_p28, List.forall_mem_cons.mpr ⟨lw_p29, List.forall_mem_cons.mpr ⟨lw_p30, List.forall_mem_cons.mpr ⟨lw_p31, fun _ h => absurd h List.not_mem_nil⟩⟩⟩⟩⟩⟩⟩⟩⟩⟩⟩⟩⟩⟩⟩⟩
theorem lw_p32 : lw_okq (⟨"EbbTableModel", "refuse", "(I)I"⟩, 19) := ⟨⟨by decide +kernel, by decide +kernel⟩, List.mem_of_getElem? (i := 886) (by decide +kernel), List.mem_of_getElem? (i := 965) (by decide +kernel), List.mem_of_getElem? (i := 966) (by decide +kernel)⟩
theorem lw_p33 : lw_okq (⟨"EbbTableModel", "isMember", "(II)Z"⟩, 19) := ⟨⟨by decide +kernel, by decide +kernel⟩, List.mem_of_getElem? (i := 886) (by decide +kernel), List.mem_of_getElem? (i := 976) (by decide +kernel), List.mem_of_getElem? (i := 977) (by decide +kernel)⟩
theorem lw_p34 : lw_okq (⟨"EbbTableModel", "isDimension", "(I)Z"⟩, 19) := ⟨⟨by decide +kernel, by decide +kernel⟩, List.mem_of_getElem? (i := 886) (by decide +kernel), List.mem_of_getElem? (i := 980) (by decide +kernel), List.mem_of_getElem? (i := 981) (by decide +kernel)⟩
theorem lw_p35 : lw_okq (⟨"EbbTableModel", "depth", "(II)I"⟩, 19) := ⟨⟨by decide +kernel, by decide +kernel⟩, List.mem_of_getElem? (i := 886) (by decide +kernel), List.mem_of_getElem? (i := 984) (by decide +kernel), List.mem_of_getElem? (i := 985) (by decide +kernel)⟩
theorem lw_p36 : lw_okq (⟨"EbbTableModel", "stale", "()V"⟩, 19) := ⟨⟨by decide +kernel, by decide +kernel⟩, List.mem_of_getElem? (i := 886) (by decide +kernel), List.mem_of_getElem? (i := 992) (by decide +kernel), List.mem_of_getElem? (i := 993) (by decide +kernel)⟩
theorem lw_p37 : lw_okq (⟨"EbbTableModel", "parentNow", "(II)I"⟩, 19) := ⟨⟨by decide +kernel, by decide +kernel⟩, List.mem_of_getElem? (i := 886) (by decide +kernel), List.mem_of_getElem? (i := 1008) (by decide +kernel), List.mem_of_getElem? (i := 1009) (by decide +kernel)⟩
theorem lw_p38 : lw_okq (⟨"EbbTableModel", "isLevel", "(II)Z"⟩, 19) := ⟨⟨by decide +kernel, by decide +kernel⟩, List.mem_of_getElem? (i := 886) (by decide +kernel), List.mem_of_getElem? (i := 1020) (by decide +kernel), List.mem_of_getElem? (i := 1021) (by decide +kernel)⟩
theorem lw_p39 : lw_okq (⟨"EbbTableModel", "membersOf", "(III)[I"⟩, 19) := ⟨⟨by decide +kernel, by decide +kernel⟩, List.mem_of_getElem? (i := 886) (by decide +kernel), List.mem_of_getElem? (i := 1024) (by decide +kernel), List.mem_of_getElem? (i := 1025) (by decide +kernel)⟩
theorem lw_p40 : lw_okq (⟨"EbbTableModel", "walk", "(III[II)I"⟩, 19) := ⟨⟨by decide +kernel, by decide +kernel⟩, List.mem_of_getElem? (i := 886) (by decide +kernel), List.mem_of_getElem? (i := 1028) (by decide +kernel), List.mem_of_getElem? (i := 1029) (by decide +kernel)⟩
theorem lw_p41 : lw_okq (⟨"EbbTableModel", "countNow", "()I"⟩, 19) := ⟨⟨by decide +kernel, by decide +kernel⟩, List.mem_of_getElem? (i := 886) (by decide +kernel), List.mem_of_getElem? (i := 1081) (by decide +kernel), List.mem_of_getElem? (i := 1082) (by decide +kernel)⟩
theorem lw_p42 : lw_okq (⟨"EbbTableModel", "counts", "(I)Z"⟩, 19) := ⟨⟨by decide +kernel, by decide +kernel⟩, List.mem_of_getElem? (i := 886) (by decide +kernel), List.mem_of_getElem? (i := 1085) (by decide +kernel), List.mem_of_getElem? (i := 1086) (by decide +kernel)⟩
theorem lw_p43 : lw_okq (⟨"EbbTableModel", "isBeneath", "(III)Z"⟩, 19) := ⟨⟨by decide +kernel, by decide +kernel⟩, List.mem_of_getElem? (i := 886) (by decide +kernel), List.mem_of_getElem? (i := 1089) (by decide +kernel), List.mem_of_getElem? (i := 1090) (by decide +kernel)⟩
theorem lw_p44 : lw_okq (⟨"EbbTableModel", "isOutAt", "(II)Z"⟩, 19) := ⟨⟨by decide +kernel, by decide +kernel⟩, List.mem_of_getElem? (i := 886) (by decide +kernel), List.mem_of_getElem? (i := 1093) (by decide +kernel), List.mem_of_getElem? (i := 1094) (by decide +kernel)⟩
theorem lw_p45 : lw_okq (⟨"EbbTableModel", "sumNow", "()I"⟩, 19) := ⟨⟨by decide +kernel, by decide +kernel⟩, List.mem_of_getElem? (i := 886) (by decide +kernel), List.mem_of_getElem? (i := 1101) (by decide +kernel), List.mem_of_getElem? (i := 1102) (by decide +kernel)⟩
theorem lw_p46 : lw_okq (⟨"EbbTableModel", "end", "(I)I"⟩, 19) := ⟨⟨by decide +kernel, by decide +kernel⟩, List.mem_of_getElem? (i := 886) (by decide +kernel), List.mem_of_getElem? (i := 1109) (by decide +kernel), List.mem_of_getElem? (i := 1110) (by decide +kernel)⟩
theorem lw_p47 : lw_okq (⟨"EbbTableModel", "childrenOf", "(I)[I"⟩, 19) := ⟨⟨by decide +kernel, by decide +kernel⟩, List.mem_of_getElem? (i := 886) (by decide +kernel), List.mem_of_getElem? (i := 1125) (by decide +kernel), List.mem_of_getElem? (i := 1126) (by decide +kernel)⟩
def lw_privs_3 : List (MethodName × Nat) := [(⟨"EbbTableModel", "refuse", "(I)I"⟩, 19), (⟨"EbbTableModel", "isMember", "(II)Z"⟩, 19), (⟨"EbbTableModel", "isDimension", "(I)Z"⟩, 19), (⟨"EbbTableModel", "depth", "(II)I"⟩, 19), (⟨"EbbTableModel", "stale", "()V"⟩, 19), (⟨"EbbTableModel", "parentNow", "(II)I"⟩, 19), (⟨"EbbTableModel", "isLevel", "(II)Z"⟩, 19), (⟨"EbbTableModel", "membersOf", "(III)[I"⟩, 19), (⟨"EbbTableModel", "walk", "(III[II)I"⟩, 19), (⟨"EbbTableModel", "countNow", "()I"⟩, 19), (⟨"EbbTableModel", "counts", "(I)Z"⟩, 19), (⟨"EbbTableModel", "isBeneath", "(III)Z"⟩, 19), (⟨"EbbTableModel", "isOutAt", "(II)Z"⟩, 19), (⟨"EbbTableModel", "sumNow", "()I"⟩, 19), (⟨"EbbTableModel", "end", "(I)I"⟩, 19), (⟨"EbbTableModel", "childrenOf", "(I)[I"⟩, 19)]
theorem lw_r3 : ∀ q ∈ lw_privs_3, lw_okq q := List.forall_mem_cons.mpr ⟨lw_p32, List.forall_mem_cons.mpr ⟨lw_p33, List.forall_mem_cons.mpr ⟨lw_p34, List.forall_mem_cons.mpr ⟨lw_p35, List.forall_mem_cons.mpr ⟨lw_p36, List.forall_mem_cons.mpr ⟨lw_p37, List.forall_mem_cons.mpr ⟨lw_p38, List.forall_mem_cons.mpr ⟨lw_p39, List.forall_mem_cons.mpr ⟨lw_p40, List.forall_mem_cons.mpr ⟨lw_p41, List.forall_mem_cons.mpr ⟨lw_p42, List.forall_mem_cons.mpr ⟨lw_p43, List.forall_mem_cons.mpr ⟨lw_p44, List.forall_mem_cons.mpr ⟨lw_p45, List.forall_mem_cons.mpr ⟨lw_p46, List.forall_mem_cons.mpr ⟨lw_p47, fun _ h => absurd h List.not_mem_nil⟩⟩⟩⟩⟩⟩⟩⟩⟩⟩⟩⟩⟩⟩⟩⟩
theorem lw_p48 : lw_okq (⟨"EbbTableModel", "hasChild", "(II)Z"⟩, 19) := ⟨⟨by decide +kernel, by decide +kernel⟩, List.mem_of_getElem? (i := 886) (by decide +kernel), List.mem_of_getElem? (i := 1133) (by decide +kernel), List.mem_of_getElem? (i := 1134) (by decide +kernel)⟩
theorem lw_p49 : lw_okq (⟨"EbbTableModel", "sums", "(I)[I"⟩, 19) := ⟨⟨by decide +kernel, by decide +kernel⟩, List.mem_of_getElem? (i := 886) (by decide +kernel), List.mem_of_getElem? (i := 1137) (by decide +kernel), List.mem_of_getElem? (i := 1138) (by decide +kernel)⟩
theorem lw_p50 : lw_okq (⟨"EbbTableModel", "sumAt", "(II)I"⟩, 19) := ⟨⟨by decide +kernel, by decide +kernel⟩, List.mem_of_getElem? (i := 886) (by decide +kernel), List.mem_of_getElem? (i := 1141) (by decide +kernel), List.mem_of_getElem? (i := 1142) (by decide +kernel)⟩
theorem lw_p51 : lw_okq (⟨"EbbTableModel", "lines", "(I)[I"⟩, 19) := ⟨⟨by decide +kernel, by decide +kernel⟩, List.mem_of_getElem? (i := 886) (by decide +kernel), List.mem_of_getElem? (i := 1176) (by decide +kernel), List.mem_of_getElem? (i := 1177) (by decide +kernel)⟩
theorem lw_p52 : lw_okq (⟨"EbbTableModel", "allLines", "(I)[I"⟩, 19) := ⟨⟨by decide +kernel, by decide +kernel⟩, List.mem_of_getElem? (i := 886) (by decide +kernel), List.mem_of_getElem? (i := 1180) (by decide +kernel), List.mem_of_getElem? (i := 1181) (by decide +kernel)⟩
theorem lw_p53 : lw_okq (⟨"EbbTableModel", "hasFact", "(II)Z"⟩, 19) := ⟨⟨by decide +kernel, by decide +kernel⟩, List.mem_of_getElem? (i := 886) (by decide +kernel), List.mem_of_getElem? (i := 1184) (by decide +kernel), List.mem_of_getElem? (i := 1185) (by decide +kernel)⟩
theorem lw_p54 : lw_okq (⟨"EbbTableModel", "isIn", "(III)Z"⟩, 19) := ⟨⟨by decide +kernel, by decide +kernel⟩, List.mem_of_getElem? (i := 886) (by decide +kernel), List.mem_of_getElem? (i := 1188) (by decide +kernel), List.mem_of_getElem? (i := 1189) (by decide +kernel)⟩
theorem lw_p55 : lw_okq (⟨"EbbTableModel", "canLay", "()Z"⟩, 19) := ⟨⟨by decide +kernel, by decide +kernel⟩, List.mem_of_getElem? (i := 886) (by decide +kernel), List.mem_of_getElem? (i := 1200) (by decide +kernel), List.mem_of_getElem? (i := 1201) (by decide +kernel)⟩
theorem lw_p56 : lw_okq (⟨"EbbTableModel", "line", "(II)I"⟩, 19) := ⟨⟨by decide +kernel, by decide +kernel⟩, List.mem_of_getElem? (i := 886) (by decide +kernel), List.mem_of_getElem? (i := 1212) (by decide +kernel), List.mem_of_getElem? (i := 1213) (by decide +kernel)⟩
theorem lw_p57 : lw_okq (⟨"EbbTableModel", "cellOf", "(II)I"⟩, 19) := ⟨⟨by decide +kernel, by decide +kernel⟩, List.mem_of_getElem? (i := 886) (by decide +kernel), List.mem_of_getElem? (i := 1224) (by decide +kernel), List.mem_of_getElem? (i := 1225) (by decide +kernel)⟩
theorem lw_p58 : lw_okq (⟨"EbbTableModel", "levelsNow", "()I"⟩, 19) := ⟨⟨by decide +kernel, by decide +kernel⟩, List.mem_of_getElem? (i := 886) (by decide +kernel), List.mem_of_getElem? (i := 1240) (by decide +kernel), List.mem_of_getElem? (i := 1241) (by decide +kernel)⟩
theorem lw_p59 : lw_okq (⟨"EbbTableModel", "cells", "(I)I"⟩, 19) := ⟨⟨by decide +kernel, by decide +kernel⟩, List.mem_of_getElem? (i := 886) (by decide +kernel), List.mem_of_getElem? (i := 1244) (by decide +kernel), List.mem_of_getElem? (i := 1245) (by decide +kernel)⟩
theorem lw_p60 : lw_okq (⟨"EbbTableModel", "areInOne", "(III)Z"⟩, 19) := ⟨⟨by decide +kernel, by decide +kernel⟩, List.mem_of_getElem? (i := 886) (by decide +kernel), List.mem_of_getElem? (i := 1248) (by decide +kernel), List.mem_of_getElem? (i := 1249) (by decide +kernel)⟩
theorem lw_p61 : lw_okq (⟨"EbbTableModel", "digit", "(II)I"⟩, 19) := ⟨⟨by decide +kernel, by decide +kernel⟩, List.mem_of_getElem? (i := 886) (by decide +kernel), List.mem_of_getElem? (i := 1252) (by decide +kernel), List.mem_of_getElem? (i := 1253) (by decide +kernel)⟩
theorem lw_p62 : lw_okq (⟨"EbbTableModel", "memberOn", "(III)I"⟩, 19) := ⟨⟨by decide +kernel, by decide +kernel⟩, List.mem_of_getElem? (i := 886) (by decide +kernel), List.mem_of_getElem? (i := 1256) (by decide +kernel), List.mem_of_getElem? (i := 1257) (by decide +kernel)⟩
theorem lw_p63 : lw_okq (⟨"EbbTableModel", "isView", "(I)Z"⟩, 19) := ⟨⟨by decide +kernel, by decide +kernel⟩, List.mem_of_getElem? (i := 886) (by decide +kernel), List.mem_of_getElem? (i := 1268) (by decide +kernel), List.mem_of_getElem? (i := 1269) (by decide +kernel)⟩
def lw_privs_4 : List (MethodName × Nat) := [(⟨"EbbTableModel", "hasChild", "(II)Z"⟩, 19), (⟨"EbbTableModel", "sums", "(I)[I"⟩, 19), (⟨"EbbTableModel", "sumAt", "(II)I"⟩, 19), (⟨"EbbTableModel", "lines", "(I)[I"⟩, 19), (⟨"EbbTableModel", "allLines", "(I)[I"⟩, 19), (⟨"EbbTableModel", "hasFact", "(II)Z"⟩, 19), (⟨"EbbTableModel", "isIn", "(III)Z"⟩, 19), (⟨"EbbTableModel", "canLay", "()Z"⟩, 19), (⟨"EbbTableModel", "line", "(II)I"⟩, 19), (⟨"EbbTableModel", "cellOf", "(II)I"⟩, 19), (⟨"EbbTableModel", "levelsNow", "()I"⟩, 19), (⟨"EbbTableModel", "cells", "(I)I"⟩, 19), (⟨"EbbTableModel", "areInOne", "(III)Z"⟩, 19), (⟨"EbbTableModel", "digit", "(II)I"⟩, 19), (⟨"EbbTableModel", "memberOn", "(III)I"⟩, 19), (⟨"EbbTableModel", "isView", "(I)Z"⟩, 19)]
theorem lw_r4 : ∀ q ∈ lw_privs_4, lw_okq q := List.forall_mem_cons.mpr ⟨lw_p48, List.forall_mem_cons.mpr ⟨lw_p49, List.forall_mem_cons.mpr ⟨lw_p50, List.forall_mem_cons.mpr ⟨lw_p51, List.forall_mem_cons.mpr ⟨lw_p52, List.forall_mem_cons.mpr ⟨lw_p53, List.forall_mem_cons.mpr ⟨lw_p54, List.forall_mem_cons.mpr ⟨lw_p55, List.forall_mem_cons.mpr ⟨lw_p56, List.forall_mem_cons.mpr ⟨lw_p57, List.forall_mem_cons.mpr ⟨lw_p58, List.forall_mem_cons.mpr ⟨lw_p59, List.forall_mem_cons.mpr ⟨lw_p60, List.forall_mem_cons.mpr ⟨lw_p61, List.forall_mem_cons.mpr ⟨lw_p62, List.forall_mem_cons.mpr ⟨lw_p63, fun _ h => absurd h List.not_mem_nil⟩⟩⟩⟩⟩⟩⟩⟩⟩⟩⟩⟩⟩⟩⟩⟩
theorem lw_p64 : lw_okq (⟨"EbbTableModel", "costOf", "(I)I"⟩, 19) := ⟨⟨by decide +kernel, by decide +kernel⟩, List.mem_of_getElem? (i := 886) (by decide +kernel), List.mem_of_getElem? (i := 1292) (by decide +kernel), List.mem_of_getElem? (i := 1293) (by decide +kernel)⟩
theorem lw_p65 : lw_okq (⟨"EbbTableModel", "answering", "(I)I"⟩, 19) := ⟨⟨by decide +kernel, by decide +kernel⟩, List.mem_of_getElem? (i := 886) (by decide +kernel), List.mem_of_getElem? (i := 1296) (by decide +kernel), List.mem_of_getElem? (i := 1297) (by decide +kernel)⟩
theorem lw_p66 : lw_okq (⟨"EbbTableModel", "answers", "(II)Z"⟩, 19) := ⟨⟨by decide +kernel, by decide +kernel⟩, List.mem_of_getElem? (i := 886) (by decide +kernel), List.mem_of_getElem? (i := 1300) (by decide +kernel), List.mem_of_getElem? (i := 1301) (by decide +kernel)⟩
theorem lw_p67 : lw_okq (⟨"EbbTableModel", "gainOf", "(I)I"⟩, 19) := ⟨⟨by decide +kernel, by decide +kernel⟩, List.mem_of_getElem? (i := 886) (by decide +kernel), List.mem_of_getElem? (i := 1312) (by decide +kernel), List.mem_of_getElem? (i := 1313) (by decide +kernel)⟩
theorem lw_p68 : lw_okq (⟨"EbbTableModel", "areLevels", "(I)Z"⟩, 19) := ⟨⟨by decide +kernel, by decide +kernel⟩, List.mem_of_getElem? (i := 886) (by decide +kernel), List.mem_of_getElem? (i := 1316) (by decide +kernel), List.mem_of_getElem? (i := 1317) (by decide +kernel)⟩
theorem lw_p69 : lw_okq (⟨"EbbTableModel", "put", "(I)V"⟩, 19) := ⟨⟨by decide +kernel, by decide +kernel⟩, List.mem_of_getElem? (i := 886) (by decide +kernel), List.mem_of_getElem? (i := 1330) (by decide +kernel), List.mem_of_getElem? (i := 1331) (by decide +kernel)⟩
theorem lw_p70 : lw_okq (⟨"EbbTableModel", "putTable", "()V"⟩, 19) := ⟨⟨by decide +kernel, by decide +kernel⟩, List.mem_of_getElem? (i := 886) (by decide +kernel), List.mem_of_getElem? (i := 1335) (by decide +kernel), List.mem_of_getElem? (i := 1336) (by decide +kernel)⟩
def lw_privs_5 : List (MethodName × Nat) := [(⟨"EbbTableModel", "costOf", "(I)I"⟩, 19), (⟨"EbbTableModel", "answering", "(I)I"⟩, 19), (⟨"EbbTableModel", "answers", "(II)Z"⟩, 19), (⟨"EbbTableModel", "gainOf", "(I)I"⟩, 19), (⟨"EbbTableModel", "areLevels", "(I)Z"⟩, 19), (⟨"EbbTableModel", "put", "(I)V"⟩, 19), (⟨"EbbTableModel", "putTable", "()V"⟩, 19)]
theorem lw_r5 : ∀ q ∈ lw_privs_5, lw_okq q := List.forall_mem_cons.mpr ⟨lw_p64, List.forall_mem_cons.mpr ⟨lw_p65, List.forall_mem_cons.mpr ⟨lw_p66, List.forall_mem_cons.mpr ⟨lw_p67, List.forall_mem_cons.mpr ⟨lw_p68, List.forall_mem_cons.mpr ⟨lw_p69, List.forall_mem_cons.mpr ⟨lw_p70, fun _ h => absurd h List.not_mem_nil⟩⟩⟩⟩⟩⟩⟩
def lw_privs : List (MethodName × Nat) := lw_privs_1 ++ (lw_privs_2 ++ (lw_privs_3 ++ (lw_privs_4 ++ (lw_privs_5))))
def lw_tbl : List Cond := k2_sels lw_privs ++ tables_1
theorem lw_privs_ok : ∀ q ∈ lw_privs, lw_okq q := by
  show ∀ q ∈ lw_privs_1 ++ (lw_privs_2 ++ (lw_privs_3 ++ (lw_privs_4 ++ (lw_privs_5)))), lw_okq q
  exact List.forall_mem_append.mpr ⟨lw_r1, List.forall_mem_append.mpr ⟨lw_r2, List.forall_mem_append.mpr ⟨lw_r3, List.forall_mem_append.mpr ⟨lw_r4, lw_r5⟩⟩⟩⟩
/-- the streams that the claim lets the run draw from -/
abbrev lw_cs : List Choice := [Jvm.Choice.named "NaN.bits"]
theorem lw_bits : nanBits ∈ lw_cs := by first | decide | exact List.mem_cons_self | simp [lw_cs, nanBits]
-- ===== end of PART A; then your names; then what follows =====
/-! ===== BEGIN words of one list among another's, by their places ===== -/
theorem goodIn_r {big : List Cond} (ws : List Cond) (ps : List Nat) (hp : ws = ps.filterMap (fun i => big[i]?)) (h : ws.all goodWord = true) : GoodIn big ws := by
  intro w hw
  have h1 := List.all_eq_true.mp h w hw
  rw [hp] at hw
  obtain ⟨i, -, hi⟩ := List.mem_filterMap.mp hw
  have hm : w ∈ big := by first | exact List.mem_of_getElem? hi | exact List.getElem?_mem hi
  exact ⟨hm, good_of_word h1⟩
theorem goodIn_app {big a b : List Cond} (ha : GoodIn big a) (hb : GoodIn big b) : GoodIn big (a ++ b) := fun w h => (List.mem_append.mp h).elim (ha w) (hb w)
theorem goodIn_ca {big a b : List Cond} {c : Cond} (ha : GoodIn big (c :: a)) (hb : GoodIn big b) : GoodIn big (c :: (a ++ b)) := fun w h => (List.mem_cons.mp h).elim (fun e => ha w (List.mem_cons.mpr (Or.inl e))) (fun h => (List.mem_append.mp h).elim (fun h => ha w (List.mem_cons.mpr (Or.inr h))) (hb w))
theorem goodIn_sub {big ws : List Cond} (hm : ∀ w ∈ ws, w ∈ big) (h : ws.all goodWord = true) : GoodIn big ws := fun w hw => ⟨hm w hw, good_of_word (List.all_eq_true.mp h w hw)⟩
/-! ===== END ===== -/

def va_AOA (ty : FieldType) (U : State) : Prop := (Cond.arrayOver (.array ty)).before #[] U = true
theorem va_AOA.use {ty : FieldType} {B : Array Value} {U : State} (h : va_AOA ty U) : (Cond.arrayOver (.array ty)).before B U = true := h
/-! ===== BEGIN new T[n][m]: the outer array a place, the inner ones among the pooled ===== -/
/-- f, but v at every address of l -/
def vr_up {α : Type} (f : Nat → α) (l : List Nat) (v : α) : Nat → α := fun a => if a ∈ l then v else f a
theorem vr_up_in {α : Type} {f : Nat → α} {l : List Nat} {v : α} {a : Nat} (h : a ∈ l) : vr_up f l v a = v := if_pos h
theorem vr_up_ne {α : Type} {f : Nat → α} {l : List Nat} {v : α} {a : Nat} (h : a ∉ l) : vr_up f l v a = f a := if_neg h
theorem vr_rows {L l : List Nat} {f : Nat → va_E} {e : va_E} (h : ∀ a, a ∈ l → a ∉ L) : va_pl L f ++ l.map (fun a => (a, e)) = va_pl (L ++ l) (vr_up f l e) := by
  unfold va_pl
  rw [List.map_append]
  congr 1
  · apply List.map_congr_left
    intro a ha
    rw [vr_up_ne (fun q => h a q ha)]
  · apply List.map_congr_left
    intro a ha
    rw [vr_up_in ha]
theorem vr_lay {X rows : va_W} {x : Nat × va_E} {pl : va_W} {D : va_G} {cl : List vw_C} {H : Heap} (hP : va_P D cl (((X ++ pl) ++ [x]) ++ rows) H) : va_P D cl ((X ++ [x]) ++ (pl ++ rows)) H := by
  rw [List.append_assoc (X ++ pl)] at hP
  have h := va_P.swap hP
  rw [← List.append_assoc X] at h
  have h2 := va_P.swap h
  rw [List.append_assoc (X ++ [x])] at h2
  exact h2
theorem vr_layD {X rows : va_W} {x : Nat × va_E} {pl : va_W} {A : Nat → Prop} (hD : va_D A (((X ++ pl) ++ [x]) ++ rows)) : va_D A ((X ++ [x]) ++ (pl ++ rows)) := by
  rw [List.append_assoc (X ++ pl)] at hD
  have h := va_D.swap hD
  rw [← List.append_assoc X] at h
  have h2 := va_D.swap h
  rw [List.append_assoc (X ++ [x])] at h2
  exact h2
theorem vr_outer (c : ClassId) (N h0 : Nat) : ∀ i : Nat, Jvm.Free.Multi.outerC c N h0 i = arrV c N (fun j => va_rf (if j < i then some (h0 + 1 + j) else none))
  | 0 => by
    show ({ cls := c, slots := Array.replicate N .null, vm := .none } : Cell) = _
    rw [arrV_new]
    refine congrArg (arrV c N) (funext fun j => ?_)
    simp [va_rf]
  | i + 1 => by
    show (Jvm.Free.Multi.outerC c N h0 i).setSlot i (.ref (h0 + 1 + i)) = _
    rw [vr_outer c N h0 i, arrV_store]
    refine congrArg (arrV c N) (funext fun j => ?_)
    by_cases e : j = i
    · subst e
      simp [updV, va_rf]
    · by_cases h : j < i
      · simp [updV, e, h, Nat.lt_succ_of_lt h]
      · simp [updV, e, h, show ¬ j < i + 1 by omega]
section VGM
variable {p : Program} {l : Launch} {e : Env} {R : Room} {s : State} {m : MethodId} {args : Array Value} {below : List Frame} {meth : Method} {c : Code} {H : Heap} {locs : List Loc} {cells slots : Nat} {Q : State → Prop}
variable {cc : ByteArray} {pc : Nat} {ls : Array Slot} {rest : List Value} {D : va_G} {cl : List vw_C} {A : Nat → Prop} {a : Nat} {tys : List (ClassId × FieldType)} {ws : va_W} {H0 : Heap}
theorem va_mna {X : va_W} {L : List Nat} {f : Nat → va_E} {cc : ByteArray} (hexec : p.tables.exec = Jvm.exec) (hb : c.code = cc) {own : String} {index : Nat} {ty : FieldType} {cy : ClassId} (hown : s.vm.findClass own = some m.cls) (hclink : (Cond.classLink own index ("[" ++ (FieldType.array ty).toString)).before args s = true) (hover : va_AOA ty s) (harr : (Cond.arrayClass ty).before args s = true) (hcy : s.vm.findClass (FieldType.array ty).toString = some cy)
    (hK : va_K D cl tys s) (hP : va_P D cl (X ++ va_pl L f) H) (hD : va_D A (X ++ va_pl L f)) (hS : va_S A H0 H locs) (hA : ∀ q, H0.size ≤ q → A q) {n k : Int32} {N' K' : Nat} {z : vp_A} (hn : ¬ n < 0) (hk : ¬ k < 0) (hN : n.toNatClampNeg = N') (hM : k.toNatClampNeg = K')
    (hb1 : N' * 4 ≤ 536870912) (hb2 : K' * componentBytes ty ≤ 536870912) (hb3 : K' ≤ 536870912) (hdf : fits ty (defaultValue ty) = true) (hdd : (defaultValue ty).isDefault = true) (hcells : cells + (1 + N') ≤ R.cells) (hslots : slots + (N' + N' * K') ≤ R.slots) (hz : ∀ c : ClassId, Jvm.Free.Multi.innerC c K' (defaultValue ty) = vp_cell c z) (hdg : decode cc pc = .ok (.multianewarray index 2, 4))
    (kk : ∀ (q : Nat) (r : Nat → Nat) (cA : ClassId) (H1 : Heap), (∀ i j : Nat, i < N' → j < N' → r i = r j → i = j) → (∀ i : Nat, i < N' → r i ∉ L) → va_K D cl (tys ++ [(cA, .array ty)]) s →
      va_P D cl ((X ++ [(q, .inl (cA, N', .inr (.inr (.inr (.inr (fun i => if i < N' then some (r i) else none))))))]) ++ va_pl (L ++ (List.range N').map r) (vr_up f ((List.range N').map r) (.inl (cy, z)))) H1 → va_D A ((X ++ [(q, .inl (cA, N', .inr (.inr (.inr (.inr (fun i => if i < N' then some (r i) else none))))))]) ++ va_pl (L ++ (List.range N').map r) (vr_up f ((List.range N').map r) (.inl (cy, z)))) → va_S A H0 H1 locs →
      W p l e R s m args below meth c H1 locs (cells + 1 + N') (slots + N' + N' * K') Q (F0 m (pc + 4) ls (.ref q :: rest))) : W p l e R s m args below meth c H locs cells slots Q (F0 m pc ls (.int k :: .int n :: rest)) := by
  subst hN
  subst hM
  intro T hT Xs
  obtain ⟨vm₁, cA, comp, -, fA, fC, hO, -, X', step⟩ := Xs.multianewarray2F hexec hown hclink (va_AOA.use hover) harr (g := F0 m pc ls (.int k :: .int n :: rest)) rfl (by rw [hb]; exact hdg) rfl hn hk hb1 hb2 hb3 hdf hdd hcells hslots
  have ec : some cy = some comp := hcy.symm.trans fC
  cases ec
  generalize hF : Jvm.Free.Multi.fill (T.setVm vm₁) cA cy n.toNatClampNeg k.toNatClampNeg (defaultValue ty) n.toNatClampNeg = F at X' step
  have hTh : (T.setVm vm₁).heap = H := hT
  obtain ⟨f1, f2, -, -⟩ := Jvm.Free.Multi.fill_facts (T.setVm vm₁) cA cy n.toNatClampNeg k.toNatClampNeg (defaultValue ty) n.toNatClampNeg
  rw [hF, hTh] at f1 f2
  have hold : ∀ x : Nat, x < H.size → F.heap[x]? = H[x]? := fun x hx => by
    have := Jvm.Free.Multi.fill_old (T.setVm vm₁) cA cy n.toNatClampNeg k.toNatClampNeg (defaultValue ty) (a := x) (by rw [hTh]; exact hx) n.toNatClampNeg
    rw [hF, hTh] at this
    exact this
  have hrow : ∀ j : Nat, j < n.toNatClampNeg → F.heap[H.size + 1 + j]? = some (vp_cell cy z) := fun j hj => by
    have := Jvm.Free.Multi.fill_inner (T.setVm vm₁) cA cy n.toNatClampNeg k.toNatClampNeg (defaultValue ty) n.toNatClampNeg j hj
    rw [hF, hTh, hz] at this
    exact this
  have hout : Jvm.Free.Multi.outerC cA n.toNatClampNeg H.size n.toNatClampNeg = vp_cell cA (n.toNatClampNeg, .inr (.inr (.inr (.inr (fun i => if i < n.toNatClampNeg then some (H.size + 1 + i) else none))))) := by
    rw [vp_cell_q]
    exact vr_outer cA n.toNatClampNeg H.size n.toNatClampNeg
  rw [hout] at f2
  have hlt : ∀ a, a ∈ L → a < H.size := fun a ha => by
    obtain ⟨k9, hk9⟩ := va_pl_get (X := X) (f := f) ha
    exact (hP k9 _ hk9).lt
  have hnl : ∀ i : Nat, i < n.toNatClampNeg → H.size + 1 + i ∉ L := fun i _ h => by
    have := hlt _ h
    omega
  have hnm : ∀ a, a ∈ (List.range n.toNatClampNeg).map (fun i => H.size + 1 + i) → a ∉ L := fun a ha h => by
    obtain ⟨i, -, rfl⟩ := List.mem_map.mp ha
    have := hlt _ h
    omega
  have hP0 : va_P D cl (X ++ va_pl L f) F.heap := hP.kept (fun k9 x hx => hold x.1 ((hP k9 x hx).lt))
  have hP1 : va_P D cl ((X ++ va_pl L f) ++ [(H.size, .inl (cA, n.toNatClampNeg, .inr (.inr (.inr (.inr (fun i => if i < n.toNatClampNeg then some (H.size + 1 + i) else none))))))]) F.heap := hP0.app (fun k9 x hx => by
    have h0 : k9 < 1 := (List.getElem?_eq_some_iff.mp hx).1
    rw [show k9 = 0 by omega] at hx
    cases hx
    exact f2)
  have hP2 : va_P D cl (((X ++ va_pl L f) ++ [(H.size, .inl (cA, n.toNatClampNeg, .inr (.inr (.inr (.inr (fun i => if i < n.toNatClampNeg then some (H.size + 1 + i) else none))))))]) ++ ((List.range n.toNatClampNeg).map (fun i => H.size + 1 + i)).map (fun a => (a, .inl (cy, z)))) F.heap := hP1.app (fun k9 x hx => by
    obtain ⟨a, ha, rfl⟩ := List.mem_map.mp (List.mem_of_getElem? hx)
    obtain ⟨i, hi, rfl⟩ := List.mem_map.mp ha
    exact hrow i (List.mem_range.mp hi))
  have hD2 : va_D A (((X ++ va_pl L f) ++ [(H.size, .inl (cA, n.toNatClampNeg, .inr (.inr (.inr (.inr (fun i => if i < n.toNatClampNeg then some (H.size + 1 + i) else none))))))]) ++ ((List.range n.toNatClampNeg).map (fun i => H.size + 1 + i)).map (fun a => (a, .inl (cy, z)))) := by
    have hD1 := hD.push (e := .inl (cA, n.toNatClampNeg, .inr (.inr (.inr (.inr (fun i => if i < n.toNatClampNeg then some (H.size + 1 + i) else none)))))) hP rfl (hA _ hS.1)
    generalize hW1 : (X ++ va_pl L f) ++ [(H.size, .inl (cA, n.toNatClampNeg, .inr (.inr (.inr (.inr (fun i => if i < n.toNatClampNeg then some (H.size + 1 + i) else none))))))] = W1 at hD1 hP1 ⊢
    have hle : ∀ (k9 : Nat) (x : Nat × va_E), W1[k9]? = some x → x.1 ≤ H.size := fun k9 x hx => by
      rw [← hW1] at hx
      by_cases hl : k9 < (X ++ va_pl L f).length
      · rw [List.getElem?_append_left hl] at hx
        exact Nat.le_of_lt ((hP k9 x hx).lt)
      · rw [List.getElem?_append_right (by omega)] at hx
        have h0 : k9 - (X ++ va_pl L f).length < 1 := (List.getElem?_eq_some_iff.mp hx).1
        rw [show k9 - (X ++ va_pl L f).length = 0 by omega] at hx
        cases hx
        exact Nat.le_refl _
    have hr : ∀ (k9 : Nat) (x : Nat × va_E), (((List.range n.toNatClampNeg).map (fun i => H.size + 1 + i)).map (fun a => ((a, .inl (cy, z)) : Nat × va_E)))[k9]? = some x → x.1 = H.size + 1 + k9 := fun k9 x hx => by
      rw [List.getElem?_map, List.getElem?_map] at hx
      by_cases h9 : k9 < n.toNatClampNeg
      · rw [List.getElem?_range h9] at hx
        cases hx
        rfl
      · have hn0 : (List.range n.toNatClampNeg)[k9]? = none := List.getElem?_eq_none (by rw [List.length_range]; omega)
        rw [hn0] at hx
        cases hx
    refine ⟨fun i j x y hi hj hxy => ?_, fun k9 x hx => ?_⟩
    · by_cases h1 : i < W1.length <;> by_cases h2 : j < W1.length
      · rw [List.getElem?_append_left h1] at hi
        rw [List.getElem?_append_left h2] at hj
        exact hD1.1 i j x y hi hj hxy
      · rw [List.getElem?_append_left h1] at hi
        rw [List.getElem?_append_right (by omega)] at hj
        have := hle _ _ hi
        have := hr _ _ hj
        omega
      · rw [List.getElem?_append_right (by omega)] at hi
        rw [List.getElem?_append_left h2] at hj
        have := hle _ _ hj
        have := hr _ _ hi
        omega
      · rw [List.getElem?_append_right (by omega)] at hi hj
        have := hr _ _ hi
        have := hr _ _ hj
        omega
    · by_cases h1 : k9 < W1.length
      · rw [List.getElem?_append_left h1] at hx
        exact hD1.2 k9 x hx
      · rw [List.getElem?_append_right (by omega)] at hx
        have := hr _ _ hx
        exact hA _ (by have := hS.1; omega)
  have hAr : ArrOfT s cA (.array ty) := fun N9 z9 => by
    obtain ⟨-, k9, hk9, cm9, hkk9⟩ := (hO 0 0 0).1
    exact ⟨(fun q hq => by cases hq), k9, hk9, cm9, hkk9⟩
  have hK2 : va_K D cl (tys ++ [(cA, .array ty)]) s := ⟨hK.1, fun k9 x hx => by
    by_cases hl : k9 < tys.length
    · rw [List.getElem?_append_left hl] at hx
      exact hK.2 k9 x hx
    · rw [List.getElem?_append_right (by omega)] at hx
      have h0 : k9 - tys.length < 1 := (List.getElem?_eq_some_iff.mp hx).1
      rw [show k9 - tys.length = 0 by omega] at hx
      cases hx
      exact ⟨hAr, fA⟩⟩
  obtain ⟨t, a1, b1⟩ := kk H.size (fun i => H.size + 1 + i) cA F.heap (fun i j _ _ h => by have h9 : H.size + 1 + i = H.size + 1 + j := h; omega) hnl hK2 (by rw [← vr_rows hnm]; exact vr_lay hP2) (by rw [← vr_rows hnm]; exact vr_layD hD2) ⟨by rw [f1]; have := hS.1; omega, fun x h1 h2 => (hold x (Nat.lt_of_lt_of_le h1 hS.1)).trans (hS.2.1 x h1 h2), hS.2.2⟩ F rfl X'
  refine ⟨t, step t ?_, b1⟩
  have e : T.heap.size = H.size := by rw [hT]
  rw [e]
  exact a1
end VGM
/-! ===== END ===== -/

/-! ===== BEGIN exceptions that leave a method, and their catching by the caller (launches without stack traces) ===== -/
section VXA
/-! The laws vx_back, vx_callV, vx_callS, vx_callSW, vx_throw0, vx_throwS follow proofs of the library, with one case more: JvmDerived/Free/Laws.lean (Back.of_free), Shelf42/LK1.lean (callV, callS), Shelf/KitTraced.lean (throwNew0V, throwNewS). -/
/-- where a method has thrown q: the class by its name, the cell, what was written, the world -/
def vx_T (XC : String → State → State → Prop) (st : State) (q : Addr) (t : State) (mc ms : Nat) (free : Addr → Prop) : Prop :=
  ∃ (E : String) (ce : Cell) (L : List Loc), XC E st t ∧ t.heap[q]? = some ce ∧ ce.vm = .none ∧ st.vm.findClass E = some ce.cls ∧ st.WarmedH t.vm ∧ st.sameButNew ({ t with vm := st.vm } : State) L mc ms ∧ ∀ z ∈ L, free z.base
def vx_Q (Qc : Array Value → State → Outcome → State → Prop) (XC : String → State → State → Prop) (mc ms : Nat) (free : Addr → Prop) : Array Value → State → Outcome → State → Prop := fun a st o t =>
  (Qc a st o t ∧ ∃ L, FrameEnd st o t L mc ms ∧ ∀ q ∈ L, free q.base) ∨ ∃ q, o = .threw q ∧ vx_T XC st q t mc ms free
/-- a callee that returns or throws -/
def vx_Met (l : Launch) (y : MethodName) (ws : List Cond) (rm : Room) (Pc : Array Value → State → Prop) (Qc : Array Value → State → Outcome → State → Prop) (XC : String → State → State → Prop) (mc ms : Nat) (free : Addr → Prop) : Prop :=
  MetFree l y (headSpec ws rm) Pc (fun _ _ _ _ _ => True) (vx_Q Qc XC mc ms free)
def vx_Post (XC : String → State → State → Prop) (mc ms : Nat) (free : Addr → Prop) : Pt → Array Value → Addr → Pt → Prop := fun A a q B =>
  ∃ (g : JFrame) (mk : MethodId) (t : State) (L : List Loc) (E : String) (ce : Cell), B.U.heap = t.heap ∧ B.U.vm = t.vm ∧ XC E (A.U.calling g mk a) t ∧ t.heap[q]? = some ce ∧ ce.vm = .none ∧ A.U.vm.findClass E = some ce.cls ∧ B.locs = A.locs ++ L ∧ (∀ z ∈ L, free z.base) ∧ B.cells = A.cells + mc ∧ B.slots = A.slots + ms
def vx_Back (l : Launch) (R : Room) (p : Program) (e : Env) (below : List Frame) (s : State) (sargs : Array Value) (y : MethodName) (len W9 : Nat)
    (Pre : Pt → Array Value → Prop) (Post : Pt → Array Value → Option Value → Pt → Prop) (PostX : Pt → Array Value → Addr → Pt → Prop) : Prop :=
  ∀ (m : MethodId) (meth : Method) (c : Code) (A : Pt) (g : JFrame) (ig : Instr) (mk : MethodId) (a : Array Value),
    Stand p l e R s m sargs below meth c A.U A.locs A.cells A.slots → g.method = m → g.locals.size = c.maxLocals → decode c.code g.pc = .ok (ig, len) →
    2 * g.monitorRoom + (g.stack.map fun v => v.category).sum ≤ W9 → A.U.methodNamed? y = some mk → Pre A a →
    (∃ (v : Option Value) (B : Pt), Stand p l e R s m sargs below meth c B.U B.locs B.cells B.slots ∧ Post A a v B ∧
      Steps p.tables e below (doInvoke e (A.U.setTop g) [] mk a).1 (B.U.setTop { g with pc := g.pc + len, stack := v.toList ++ g.stack })) ∨
    (∃ (q : Addr) (B : Pt), Stand p l e R s m sargs below meth c B.U B.locs B.cells B.slots ∧ PostX A a q B ∧
      Steps p.tables e below (doInvoke e (A.U.setTop g) [] mk a).1 ((B.U.setTop g).pushFrame (.throwing q)))
section Payer
variable {l : Launch} {R : Room} {p : Program} {e : Env} {below : List Frame} {s : State} {sargs : Array Value} {y : MethodName} {len W9 : Nat}
theorem vx_back {ws : List Cond} {rm : Room} {Pc : Array Value → State → Prop} {Qc : Array Value → State → Outcome → State → Prop} {XC : String → State → State → Prop} {mc ms : Nat} {free : Addr → Prop} {bytes : ByteArray} {maxL : Nat} {ret : Option FieldType}
    (hM : vx_Met l y ws rm Pc Qc XC mc ms free) (hblind : FrameBlind Pc) (hrc : rm.cells = mc) (hrs : rm.slots = ms)
    (hframes : rm.frames + 1 ≤ R.frames) (hlocals : W9 + (maxL + 11) + rm.locals ≤ R.locals)
    (hws : ∀ w ∈ ws, ∀ a' U, s.WarmedH U.vm → w.before a' U = true) (hcode : Cond.code y bytes maxL ret ∈ ws) (hinit : ∀ a' U, s.WarmedH U.vm → (Cond.initialized y.cls).before a' U = true) :
    vx_Back l R p e below s sargs y len W9 (PreOf R mc ms Pc) (PostOf Qc mc ms free) (vx_Post XC mc ms free) := by
  intro m meth c A g ig mk a X hg hsize hdg hW hn hp
  have h1 : (headSpec ws rm).pre.before a A.U = true := atoms_intro fun w hw => hws w hw _ _ X.warmed
  have h2 : (Cond.code y bytes maxL ret).before a A.U = true := hws _ hcode _ _ X.warmed
  have h3 : (Cond.initialized y.cls).before a A.U = true := hinit _ _ X.warmed
  have h4 : A.cells + (headSpec ws rm).room.cells ≤ R.cells := by rw [show (headSpec ws rm).room.cells = mc from hrc]; exact hp.1
  have h5 : A.slots + (headSpec ws rm).room.slots ≤ R.slots := by rw [show (headSpec ws rm).room.slots = ms from hrs]; exact hp.2.1
  have hPc : Pc a (A.U.calling g mk a) := hblind _ _ _ _ hp.2.2
  obtain ⟨U, Ls, c0, s0⟩ := A
  dsimp only [Pt.U, Pt.locs, Pt.cells, Pt.slots] at h1 h2 h3 h4 h5 X hn hPc ⊢
  obtain ⟨methY, cY, hmY, hcY, -, hlY, -, -, -, -⟩ := Cond.code_spec hn h2
  obtain ⟨kY, hkY, -⟩ := className_of_methodNamed hn
  have hinitY : kY.init = .initialized := Cond.initialized_spec (findClass_of_methodNamed hn) hkY h3
  have h : At U g.method c below := by rw [hg]; exact X.here
  have hlocals9 : W9 + (maxL + 11) + (headSpec ws rm).room.locals ≤ R.locals := hlocals
  have happ : (headSpec ws rm).appliesLoose y e.platform (U.calling g mk a) = true :=
    Spec.appliesLoose_calling (g := g) h hdg hn hkY hinitY
      (X.room_calling (g := g) (R' := (headSpec ws rm).room) hsize hmY hcY hframes (by rw [hlY]; omega) h4 h5) h1
  obtain ⟨mid, hmid⟩ := h.above
  have hfr : (U.setTop g).frames = (.java g :: mid) ++ below := by rw [State.frames_setTop' g h.top, hmid]; rfl
  obtain ⟨o, s₂, hsteps, -, hend, hq⟩ := Steps.callFree hM p X.admits X.cas X.clock (acts := []) hfr happ hPc trivial
  have hq' : vx_Q Qc XC mc ms free a (U.calling g mk a) o s₂ := hq
  rw [State.frames_setTop' g h.top] at hend
  obtain ⟨g₀, hg0⟩ := Option.isSome_iff_exists.mp h.top
  obtain ⟨r, hr⟩ := State.topJava?_eq_some.mp hg0
  have hr' : (({ U with heap := s₂.heap, slotsUsed := s₂.slotsUsed } : State).setVm s₂.vm).frames = .java g₀ :: r := hr
  rcases hq' with ⟨hqc, L, hfe, hL⟩ | ⟨q, rfl, E, ce, L, hx, hce, hcv, hcl, hW₂, hsm, hL⟩
  · obtain ⟨⟨v, rfl⟩, hW₂, e2, q2, q3, q4, q5, q6⟩ := id hfe
    have e3 : s₂ = ({ (U.calling g mk a).setFrames s₂.frames with heap := s₂.heap, slotsUsed := s₂.slotsUsed } : State).setVm s₂.vm := by
      have : s₂ = ({ s₂ with vm := (U.calling g mk a).vm } : State).setVm s₂.vm := rfl
      rw [e2] at this
      exact this
    obtain ⟨c₂, i₂, len₂, hc₂, hd₂, hf₂⟩ := hend
    have hW' : U.WarmedH s₂.vm := hW₂
    have hcc : c₂ = c := by
      have h1 : s₂.code? g.method = U.code? g.method := by
        rw [State.code?_eq, State.code?_eq, hW'.alike.method?]
      exact Option.some.inj (hc₂.symm.trans (h1.trans h.code))
    subst hcc
    have hlen : len₂ = len := by rw [hdg] at hd₂; cases hd₂; rfl
    subst hlen
    have hs₂ : s₂ = (({ U with heap := s₂.heap, slotsUsed := s₂.slotsUsed } : State).setVm s₂.vm).setTop { g with pc := g.pc + len₂, stack := v.toList ++ g.stack } := by
      refine e3.trans ?_
      rw [hf₂, State.calling_eq h.top, State.setFrames_setFrames, State.setTop_of_frames _ hr', hr]
      rfl
    have hsame : U.sameButNew ({ U with heap := s₂.heap, slotsUsed := s₂.slotsUsed } : State) L mc ms := by
      refine ⟨?_, q2, q3, q4, q5, q6⟩
      obtain ⟨t, ht, -⟩ := State.frames_cons hr
      show ({ U with heap := s₂.heap, slotsUsed := s₂.slotsUsed } : State) = { U.setFrames U.frames with heap := s₂.heap, slotsUsed := s₂.slotsUsed }
      rw [State.setFrames_self ht]
    subst hg
    refine Or.inl ⟨v, ⟨(({ U with heap := s₂.heap, slotsUsed := s₂.slotsUsed } : State).setVm s₂.vm), Ls ++ L, c0 + mc, s0 + ms⟩,
      ⟨X.admits, X.cas, X.clock, X.frames, X.room, X.hears, X.method, X.code, (X.here.setHeapUsed s₂.heap s₂.slotsUsed).setVm hW'.alike, X.tail, State.WarmedH.trans X.warmed hW', X.limits, X.bytes, X.same.trans (hsame.setVm s.vm)⟩,
      ⟨g, mk, s₂, L, rfl, rfl, hqc, rfl, hL, rfl, rfl⟩, ?_⟩
    show Steps p.tables e below _ ((({ U with heap := s₂.heap, slotsUsed := s₂.slotsUsed } : State).setVm s₂.vm).setTop { g with pc := g.pc + len₂, stack := v.toList ++ g.stack })
    rw [← hs₂]
    exact hsteps
  · obtain ⟨e2, q2, q3, q4, q5, q6⟩ := id hsm
    have e3 : s₂ = ({ (U.calling g mk a).setFrames s₂.frames with heap := s₂.heap, slotsUsed := s₂.slotsUsed } : State).setVm s₂.vm := by
      have : s₂ = ({ s₂ with vm := (U.calling g mk a).vm } : State).setVm s₂.vm := rfl
      rw [e2] at this
      exact this
    have hf₂ : s₂.frames = .throwing q :: .java g :: U.frames.tail := hend
    have hW' : U.WarmedH s₂.vm := hW₂
    have hs₂ : s₂ = ((({ U with heap := s₂.heap, slotsUsed := s₂.slotsUsed } : State).setVm s₂.vm).setTop g).pushFrame (.throwing q) := by
      refine e3.trans ?_
      rw [hf₂, State.calling_eq h.top, State.setFrames_setFrames, State.pushFrame, State.frames_setTop _ hr', State.setTop_of_frames _ hr', State.setFrames_setFrames, hr]
      rfl
    have hsame : U.sameButNew ({ U with heap := s₂.heap, slotsUsed := s₂.slotsUsed } : State) L mc ms := by
      refine ⟨?_, q2, q3, q4, q5, q6⟩
      obtain ⟨t, ht, -⟩ := State.frames_cons hr
      show ({ U with heap := s₂.heap, slotsUsed := s₂.slotsUsed } : State) = { U.setFrames U.frames with heap := s₂.heap, slotsUsed := s₂.slotsUsed }
      rw [State.setFrames_self ht]
    subst hg
    refine Or.inr ⟨q, ⟨(({ U with heap := s₂.heap, slotsUsed := s₂.slotsUsed } : State).setVm s₂.vm), Ls ++ L, c0 + mc, s0 + ms⟩,
      ⟨X.admits, X.cas, X.clock, X.frames, X.room, X.hears, X.method, X.code, (X.here.setHeapUsed s₂.heap s₂.slotsUsed).setVm hW'.alike, X.tail, State.WarmedH.trans X.warmed hW', X.limits, X.bytes, X.same.trans (hsame.setVm s.vm)⟩,
      ⟨g, mk, s₂, L, E, ce, rfl, rfl, hx, hce, hcv, hcl, rfl, hL, rfl, rfl⟩, ?_⟩
    show Steps p.tables e below _ (((({ U with heap := s₂.heap, slotsUsed := s₂.slotsUsed } : State).setVm s₂.vm).setTop g).pushFrame (.throwing q))
    rw [← hs₂]
    exact hsteps
end Payer
section Calls
variable {p : Program} {l : Launch} {e : Env} {R : Room} {s : State} {m : MethodId} {args : Array Value} {below : List Frame} {meth : Method} {c : Code} {T : State} {locs : List Loc} {cells slots : Nat}
theorem vx_callV (X : Stand p l e R s m args below meth c T locs cells slots) (hexec : p.tables.exec = Jvm.exec) {own C : String} {index : Nat} {y : MethodName} {bytes : ByteArray} {maxL : Nat} {ret : Option FieldType}
    (hown : s.vm.findClass own = some m.cls) (hlink : (Cond.methodLink own index y).before args s = true) (hinst : (Cond.instanceMethod y).before args s = true) (hsel : (Cond.selects C y y).before args s = true)
    (hcode : (Cond.code y bytes maxL ret).before args s = true) (hy : y.cls ≠ "java/lang/invoke/MethodHandle" ∧ y.cls ≠ "java/lang/invoke/VarHandle")
    {W9 : Nat} {Pre : Pt → Array Value → Prop} {Post : Pt → Array Value → Option Value → Pt → Prop} {PostX : Pt → Array Value → Addr → Pt → Prop} (hK : vx_Back l R p e below s args y 3 W9 Pre Post PostX)
    {b : Addr} {cellB : Cell} (hcell : T.heap[b]? = some cellB) (hobj : cellB.vm.isStatics = false) (hcls : s.vm.findClass C = some cellB.cls)
    {g : JFrame} (hg : g.method = m) (hsize : g.locals.size = c.maxLocals) {argsL rest : List Value} (hlen : ∀ sig, parseMethodDescriptor y.desc = some sig → argsL.length = sig.parameters.length)
    (hstack : g.stack = argsL.reverse ++ .ref b :: rest) (hW : 2 * g.monitorRoom + (rest.map fun v => v.category).sum ≤ W9) (hdg : decode c.code g.pc = .ok (.invokevirtual index, 3))
    (hpre : ∀ vm₁, s.WarmedH vm₁ → Pre ⟨T.setVm vm₁, locs, cells, slots⟩ (Value.ref b :: argsL).toArray) :
    (∃ (v : Option Value) (vm₁ : Vm) (B : Pt), s.WarmedH vm₁ ∧ Stand p l e R s m args below meth c B.U B.locs B.cells B.slots ∧ Post ⟨T.setVm vm₁, locs, cells, slots⟩ (Value.ref b :: argsL).toArray v B ∧
      ∀ target, Steps p.tables e below (B.U.setTop { g with pc := g.pc + 3, stack := v.toList ++ rest }) target → Steps p.tables e below (T.setTop g) target) ∨
    (∃ (q : Addr) (vm₁ : Vm) (B : Pt), s.WarmedH vm₁ ∧ Stand p l e R s m args below meth c B.U B.locs B.cells B.slots ∧ PostX ⟨T.setVm vm₁, locs, cells, slots⟩ (Value.ref b :: argsL).toArray q B ∧
      Steps p.tables e below (T.setTop g) ((B.U.setTop { g with stack := rest }).pushFrame (.throwing q))) := by
  obtain ⟨mk, methM, hnamed, hmethM, hstM, habM⟩ := Cond.instanceMethod_spec hinst
  obtain ⟨methM', cM, hmethM', -, -, -, -, -, -, hsigM⟩ := Cond.code_spec hnamed hcode
  cases hmethM.symm.trans hmethM'
  obtain ⟨c2, r2, m2, q1, q2, q3, q4, kP, hkP, hkPi⟩ := Cond.selects_spec hsel
  cases hcls.symm.trans q1
  cases (State.methodFound?_of_named hnamed hy).symm.trans q2
  cases hnamed.symm.trans q3
  have hselP : selectMethod e.platform s.vm cellB.cls mk = .method mk := by rw [Launch.admits_selectMethod X.admits]; exact q4
  obtain ⟨vm₁, X₁, hstep₁⟩ := X.invokevirtual hexec hown hlink hnamed hmethM hstM hkP hkPi hy (a := b) (cell := cellB) hcell
    (fun z h => by rw [h] at hobj; cases hobj) hselP hmethM habM hkP hkPi (g := g) hg (argsL := argsL) (rest := rest) (hlen _ hsigM) hstack hdg
  rcases hK m meth c ⟨T.setVm vm₁, locs, cells, slots⟩ { g with stack := rest } (.invokevirtual index) mk (Value.ref b :: argsL).toArray X₁ hg hsize hdg hW (X₁.named hnamed) (hpre vm₁ X₁.warmed) with ⟨v, B, X', hpost, hsteps⟩ | ⟨q, B, X', hpost, hsteps⟩
  · exact Or.inl ⟨v, vm₁, B, X₁.warmed, X', hpost, fun target h => hstep₁ _ fun acts => by rw [doInvoke_state]; exact hsteps.trans h⟩
  · exact Or.inr ⟨q, vm₁, B, X₁.warmed, X', hpost, hstep₁ _ fun acts => by rw [doInvoke_state]; exact hsteps⟩
theorem vx_callS (X : Stand p l e R s m args below meth c T locs cells slots) (hexec : p.tables.exec = Jvm.exec) {own : String} {index : Nat} {y : MethodName} {bytes : ByteArray} {maxL : Nat} {ret : Option FieldType}
    (hown : s.vm.findClass own = some m.cls) (hlink : (Cond.methodLink own index y).before args s = true) (hstat : (Cond.static y).before args s = true) (hinit : (Cond.initialized y.cls).before args s = true)
    (hcode : (Cond.code y bytes maxL ret).before args s = true) (hy : y.cls ≠ "java/lang/invoke/MethodHandle" ∧ y.cls ≠ "java/lang/invoke/VarHandle")
    {W9 : Nat} {Pre : Pt → Array Value → Prop} {Post : Pt → Array Value → Option Value → Pt → Prop} {PostX : Pt → Array Value → Addr → Pt → Prop} (hK : vx_Back l R p e below s args y 3 W9 Pre Post PostX)
    {g : JFrame} (hg : g.method = m) (hsize : g.locals.size = c.maxLocals) {argsL rest : List Value} (hlen : ∀ sig, parseMethodDescriptor y.desc = some sig → argsL.length = sig.parameters.length)
    (hstack : g.stack = argsL.reverse ++ rest) (hW : 2 * g.monitorRoom + (rest.map fun v => v.category).sum ≤ W9) (hdg : decode c.code g.pc = .ok (.invokestatic index, 3))
    (hpre : ∀ vm₁, s.WarmedH vm₁ → Pre ⟨T.setVm vm₁, locs, cells, slots⟩ argsL.toArray) :
    (∃ (v : Option Value) (vm₁ : Vm) (B : Pt), s.WarmedH vm₁ ∧ Stand p l e R s m args below meth c B.U B.locs B.cells B.slots ∧ Post ⟨T.setVm vm₁, locs, cells, slots⟩ argsL.toArray v B ∧
      ∀ target, Steps p.tables e below (B.U.setTop { g with pc := g.pc + 3, stack := v.toList ++ rest }) target → Steps p.tables e below (T.setTop g) target) ∨
    (∃ (q : Addr) (vm₁ : Vm) (B : Pt), s.WarmedH vm₁ ∧ Stand p l e R s m args below meth c B.U B.locs B.cells B.slots ∧ PostX ⟨T.setVm vm₁, locs, cells, slots⟩ argsL.toArray q B ∧
      Steps p.tables e below (T.setTop g) ((B.U.setTop { g with stack := rest }).pushFrame (.throwing q))) := by
  obtain ⟨mk, hnamed⟩ := Cond.code_named hcode
  obtain ⟨methM, cM, hmethM, -, -, -, -, -, -, hsigM⟩ := Cond.code_spec hnamed hcode
  have hstatic : methM.isStatic = true := Cond.static_spec hnamed hmethM hstat
  obtain ⟨kP, hkP, -⟩ := className_of_methodNamed hnamed
  have hinitP : kP.init = .initialized := Cond.initialized_spec (findClass_of_methodNamed hnamed) hkP hinit
  obtain ⟨vm₁, X₁, hstep₁⟩ := X.invokestatic hexec hown hlink hnamed hmethM hstatic hkP hinitP hy (g := g) hg (argsL := argsL) (rest := rest) (hlen _ hsigM) hstack hdg
  rcases hK m meth c ⟨T.setVm vm₁, locs, cells, slots⟩ { g with stack := rest } (.invokestatic index) mk argsL.toArray X₁ hg hsize hdg hW (X₁.named hnamed) (hpre vm₁ X₁.warmed) with ⟨v, B, X', hpost, hsteps⟩ | ⟨q, B, X', hpost, hsteps⟩
  · exact Or.inl ⟨v, vm₁, B, X₁.warmed, X', hpost, fun target h => hstep₁ _ fun acts => by rw [doInvoke_state]; exact hsteps.trans h⟩
  · exact Or.inr ⟨q, vm₁, B, X₁.warmed, X', hpost, hstep₁ _ fun acts => by rw [doInvoke_state]; exact hsteps⟩
end Calls
theorem vx_cls {s : State} {T : State} {vm₁ : Vm} {E : String} {k : ClassId} (hW : s.WarmedH vm₁) (h : (T.setVm vm₁).vm.findClass E = some k) : s.vm.findClass E = some k := by
  have h1 : vm₁.findClass E = some k := h
  rw [hW.alike.findClass] at h1
  exact h1
/-- the method's frame g, with q thrown over it -/
def vx_W (p : Program) (l : Launch) (e : Env) (R : Room) (s : State) (m : MethodId) (args : Array Value) (below : List Frame) (meth : Method) (c : Code) (H : Heap) (locs : List Loc) (cells slots : Nat) (Q : State → Prop) (g : JFrame) (q : Addr) : Prop :=
  ∀ T : State, T.heap = H → Stand p l e R s m args below meth c T locs cells slots → ∃ t, Steps p.tables e below ((T.setTop g).pushFrame (.throwing q)) t ∧ Q t
def vx_Run (p : Program) (l : Launch) (e : Env) (R : Room) (s : State) (m : MethodId) (args : Array Value) (below : List Frame) (meth : Method) (c : Code) (H : Heap) (locs : List Loc) (cells slots mc ms : Nat) (g : JFrame) (rest : List Value) (Qa : State → Outcome → State → Prop) (XC : String → State → State → Prop) (free : Addr → Prop) : Prop :=
  ∀ T : State, T.heap = H → Stand p l e R s m args below meth c T locs cells slots →
    (∃ (v : Option Value) (st₀ t T' : State) (L : List Loc), st₀.heap = H ∧ Stand p l e R s m args below meth c T' (locs ++ L) (cells + mc) (slots + ms) ∧ (∀ q ∈ L, free q.base) ∧ T'.heap = t.heap ∧ T'.vm = t.vm ∧ Qa st₀ (.returned v) t ∧
      Goes p e below T g T' { g with pc := g.pc + 3, stack := v.toList ++ rest }) ∨
    (∃ (q : Addr) (st₀ t T' : State) (L : List Loc) (E : String) (ce : Cell), st₀.heap = H ∧ Stand p l e R s m args below meth c T' (locs ++ L) (cells + mc) (slots + ms) ∧ (∀ z ∈ L, free z.base) ∧ T'.heap = t.heap ∧ T'.vm = t.vm ∧ XC E st₀ t ∧ t.heap[q]? = some ce ∧ ce.vm = .none ∧ s.vm.findClass E = some ce.cls ∧
      Steps p.tables e below (T.setTop g) ((T'.setTop { g with stack := rest }).pushFrame (.throwing q)))
def vx_X {S : Type} (px : S → Prop) (B : String → S → State → Prop) (A : Nat → Prop) : String → State → State → Prop := fun E st t => ∃ u : S, px u ∧ B E u t ∧ va_F A st t
section Runs
variable {p : Program} {l : Launch} {e : Env} {R : Room} {s : State} {m : MethodId} {args : Array Value} {below : List Frame} {meth : Method} {c : Code} {H : Heap} {locs : List Loc} {cells slots : Nat}
variable {y : MethodName} {bytes cc : ByteArray} {maxL nL mc ms n index : Nat} {ret : Option FieldType} {ws : List Cond} {rm : Room} {Pc : Array Value → State → Prop} {Qc : Array Value → State → Outcome → State → Prop} {XC : String → State → State → Prop} {free : Addr → Prop} {Ts : List Cond} {own C : String} {b : Addr} {As rest : List Value} {g : JFrame}
theorem vx_callBack (cb : CallB R s args own index y bytes maxL ret ws rm mc ms n) (hM : vx_Met l y ws rm Pc Qc XC mc ms free) (hbl : FrameBlind Pc) : vx_Back l R p e below s args y 3 8 (PreOf R mc ms Pc) (PostOf Qc mc ms free) (vx_Post XC mc ms free) := by
  obtain ⟨hrc, hrs, hfr, hlo, hws, hcw, -, hini, -⟩ := cb
  exact vx_back (bytes := bytes) (maxL := maxL) (ret := ret) hM hbl hrc hrs hfr hlo hws hcw (fun a' U hW => word_at hW (Or.inl (by first | rfl | simp [Cond.onTables, Cond.keeps, Cond.steady])) hini)
theorem vx_runV (S : CallFix p m c cc nL s args Ts own) (hM : vx_Met l y ws rm Pc Qc XC mc ms free) (cw : CallW R s args own C index y bytes maxL ret ws rm mc ms n) (hp : PreV s H C b Pc As)
    (hg : g.method = m) (hn : As.length = n) (hsize : g.locals.size = nL) (hstack : g.stack = As.reverse ++ .ref b :: rest) (hW : 2 * g.monitorRoom + (rest.map fun v => v.category).sum ≤ 8) (hdg : decode cc g.pc = .ok (.invokevirtual index, 3)) (hf : cells + mc ≤ R.cells ∧ slots + ms ≤ R.slots) :
    vx_Run p l e R s m args below meth c H locs cells slots mc ms g rest (Qc (Value.ref b :: As).toArray) XC free := by
  have hK : vx_Back l R p e below s args y 3 8 (PreOf R mc ms Pc) (PostOf Qc mc ms free) (vx_Post XC mc ms free) := vx_callBack cw.1 hM hp.1
  obtain ⟨⟨-, -, -, -, -, -, hcode, -, hy, hlen, hl⟩, hin, hse⟩ := cw
  obtain ⟨hx, hb, hml, ho, -⟩ := S
  obtain ⟨-, ⟨cellB, hcB, hoB, hclB⟩, hPc⟩ := hp
  intro T hT X
  rcases vx_callV X hx (C := C) (bytes := bytes) (maxL := maxL) (ret := ret) ho hl hin hse hcode hy hK (by rw [hT]; exact hcB) hoB hclB hg (hsize.trans hml.symm) (argsL := As) (rest := rest) (fun sig h => hn.trans (hlen sig h)) hstack hW (by rw [hb]; exact hdg)
    (fun vm₁ hW₁ => ⟨hf.1, hf.2, hPc (T.setVm vm₁) hT hW₁⟩) with ⟨v, vm₁, ⟨U', l2, c2, s2⟩, hW₁, X', ⟨g', mk, t, L, e1, e2, hq, h1, hL, h2, h3⟩, st⟩ | ⟨q, vm₁, ⟨U', l2, c2, s2⟩, hW₁, X', ⟨g', mk, t, L, E, ce, e1, e2, hq, hce, hcv, hcl, h1, hL, h2, h3⟩, st⟩
  · dsimp only [Pt.U, Pt.locs, Pt.cells, Pt.slots] at X' e1 e2 h1 h2 h3 st
    subst h1; subst h2; subst h3
    exact Or.inl ⟨v, (T.setVm vm₁).calling g' mk (Value.ref b :: As).toArray, t, U', L, hT, X', hL, e1, e2, hq, st⟩
  · dsimp only [Pt.U, Pt.locs, Pt.cells, Pt.slots] at X' e1 e2 h1 h2 h3 st hcl
    subst h1; subst h2; subst h3
    exact Or.inr ⟨q, (T.setVm vm₁).calling g' mk (Value.ref b :: As).toArray, t, U', L, E, ce, hT, X', hL, e1, e2, hq, hce, hcv, vx_cls hW₁ hcl, st⟩
theorem vx_runS (S : CallFix p m c cc nL s args Ts own) (hM : vx_Met l y ws rm Pc Qc XC mc ms free) (cw : CallB R s args own index y bytes maxL ret ws rm mc ms n ∧ (Cond.static y).before args s = true) (hp : PreS s H Pc As)
    (hg : g.method = m) (hn : As.length = n) (hsize : g.locals.size = nL) (hstack : g.stack = As.reverse ++ rest) (hW : 2 * g.monitorRoom + (rest.map fun v => v.category).sum ≤ 8) (hdg : decode cc g.pc = .ok (.invokestatic index, 3)) (hf : cells + mc ≤ R.cells ∧ slots + ms ≤ R.slots) :
    vx_Run p l e R s m args below meth c H locs cells slots mc ms g rest (Qc As.toArray) XC free := by
  have hK : vx_Back l R p e below s args y 3 8 (PreOf R mc ms Pc) (PostOf Qc mc ms free) (vx_Post XC mc ms free) := vx_callBack cw.1 hM hp.1
  obtain ⟨⟨-, -, -, -, -, -, hcode, hini, hy, hlen, hl⟩, hstt⟩ := cw
  obtain ⟨hx, hb, hml, ho, -⟩ := S
  intro T hT X
  rcases vx_callS X hx (bytes := bytes) (maxL := maxL) (ret := ret) ho hl hstt hini hcode hy hK hg (hsize.trans hml.symm) (argsL := As) (rest := rest) (fun sig h => hn.trans (hlen sig h)) hstack hW (by rw [hb]; exact hdg)
    (fun vm₁ hW₁ => ⟨hf.1, hf.2, hp.2 (T.setVm vm₁) hT hW₁⟩) with ⟨v, vm₁, ⟨U', l2, c2, s2⟩, hW₁, X', ⟨g', mk, t, L, e1, e2, hq, h1, hL, h2, h3⟩, st⟩ | ⟨q, vm₁, ⟨U', l2, c2, s2⟩, hW₁, X', ⟨g', mk, t, L, E, ce, e1, e2, hq, hce, hcv, hcl, h1, hL, h2, h3⟩, st⟩
  · dsimp only [Pt.U, Pt.locs, Pt.cells, Pt.slots] at X' e1 e2 h1 h2 h3 st
    subst h1; subst h2; subst h3
    exact Or.inl ⟨v, (T.setVm vm₁).calling g' mk As.toArray, t, U', L, hT, X', hL, e1, e2, hq, st⟩
  · dsimp only [Pt.U, Pt.locs, Pt.cells, Pt.slots] at X' e1 e2 h1 h2 h3 st hcl
    subst h1; subst h2; subst h3
    exact Or.inr ⟨q, (T.setVm vm₁).calling g' mk As.toArray, t, U', L, E, ce, hT, X', hL, e1, e2, hq, hce, hcv, vx_cls hW₁ hcl, st⟩
end Runs
section Rows
variable {p : Program} {l : Launch} {e : Env} {R : Room} {s : State} {m : MethodId} {args : Array Value} {below : List Frame} {meth : Method} {c : Code} {H : Heap} {locs : List Loc} {cells slots : Nat} {Q : State → Prop}
variable {mc ms : Nat} {free : Addr → Prop} {A0 A1 : Nat → Prop} {H0 : Heap} {a : Array Value} {pc : Nat} {ls : Array Slot} {st0 rest : List Value}
theorem vx_keep {st₀ t T' : State} {L : List Loc} (h0 : st₀.heap = H) (e1 : T'.heap = t.heap) (hS : va_S A0 H0 H locs) (hA : ∀ q, q < H.size → A1 q → A0 q) (hf : ∀ q, free q → A0 q) (hL : ∀ q ∈ L, free q.base) (hF : va_F A1 st₀ t) :
    H.size ≤ T'.heap.size ∧ (∀ q : Nat, q < H.size → ¬ A1 q → T'.heap[q]? = H[q]?) ∧ va_S A0 H0 T'.heap (locs ++ L) := by
  obtain ⟨hz, hk⟩ := hF
  rw [h0] at hz hk
  exact ⟨by rw [e1]; exact hz, fun q h1 h2 => by rw [e1]; exact hk q h1 h2,
    ⟨Nat.le_trans hS.1 (by rw [e1]; exact hz), fun q h1 h2 => by rw [e1, hk q (Nat.lt_of_lt_of_le h1 hS.1) (fun z => h2 (hA q (Nat.lt_of_lt_of_le h1 hS.1) z))]; exact hS.2.1 q h1 h2, fun q hq => by
      rcases List.mem_append.mp hq with h | h
      · exact hS.2.2 q h
      · exact hf _ (hL q h)⟩⟩
theorem vx_calli {S SX : Type} {post : Int32 → S → Prop} {px : SX → Prop} {B : S → State → Prop} {BX : String → SX → State → Prop} {AX : Nat → Prop} (hr : vx_Run p l e R s m args below meth c H locs cells slots mc ms (F0 m pc ls st0) rest (va_Qi post B A1 a) (vx_X px BX AX) free) (hS : va_S A0 H0 H locs) (hA : ∀ q, q < H.size → A1 q → A0 q) (hf : ∀ q, free q → A0 q) (hAX : ∀ q, q < H.size → AX q → A0 q)
    (kx : ∀ (E : String) (ce : Cell) (q9 : Addr) (u : SX) (t : State) (H1 : Heap) (locs1 : List Loc), t.heap = H1 → s.vm.Alike t.vm → px u → BX E u t → H.size ≤ H1.size → (∀ q : Nat, q < H.size → ¬ AX q → H1[q]? = H[q]?) → va_S A0 H0 H1 locs1 → H1[q9]? = some ce → ce.vm = .none → s.vm.findClass E = some ce.cls → vx_W p l e R s m args below meth c H1 locs1 (cells + mc) (slots + ms) Q (F0 m pc ls rest) q9)
    (kk : ∀ (r : Int32) (u : S) (t : State) (H1 : Heap) (locs1 : List Loc), t.heap = H1 → s.vm.Alike t.vm → post r u → B u t → H.size ≤ H1.size → (∀ q : Nat, q < H.size → ¬ A1 q → H1[q]? = H[q]?) → va_S A0 H0 H1 locs1 → W p l e R s m args below meth c H1 locs1 (cells + mc) (slots + ms) Q (F0 m (pc + 3) ls (.int r :: rest))) : W p l e R s m args below meth c H locs cells slots Q (F0 m pc ls st0) := by
  intro T hT X
  rcases hr T hT X with ⟨v, st₀, t, T', L, h0, X', hL, e1, e2, ⟨⟨r, u, hv, hp, hb⟩, hF⟩, st⟩ | ⟨q, st₀, t, T', L, E, ce, h0, X', hL, e1, e2, ⟨u, hp, hb, hF⟩, hce, hcv, hcl, st⟩
  · cases hv
    obtain ⟨k1, k2, k3⟩ := vx_keep h0 e1 hS hA hf hL hF
    obtain ⟨t2, a1, b1⟩ := kk r u t T'.heap (locs ++ L) e1.symm (by rw [← e2]; exact X'.warmed.alike) hp hb k1 k2 k3 T' rfl X'
    exact ⟨t2, st t2 a1, b1⟩
  · obtain ⟨k1, k2, k3⟩ := vx_keep h0 e1 hS hAX hf hL hF
    obtain ⟨t2, a1, b1⟩ := kx E ce q u t T'.heap (locs ++ L) e1.symm (by rw [← e2]; exact X'.warmed.alike) hp hb k1 k2 k3 (by rw [e1]; exact hce) hcv hcl T' rfl X'
    exact ⟨t2, st.trans a1, b1⟩
theorem vx_calll {S SX : Type} {post : Int64 → S → Prop} {px : SX → Prop} {B : S → State → Prop} {BX : String → SX → State → Prop} {AX : Nat → Prop} (hr : vx_Run p l e R s m args below meth c H locs cells slots mc ms (F0 m pc ls st0) rest (va_Ql post B A1 a) (vx_X px BX AX) free) (hS : va_S A0 H0 H locs) (hA : ∀ q, q < H.size → A1 q → A0 q) (hf : ∀ q, free q → A0 q) (hAX : ∀ q, q < H.size → AX q → A0 q)
    (kx : ∀ (E : String) (ce : Cell) (q9 : Addr) (u : SX) (t : State) (H1 : Heap) (locs1 : List Loc), t.heap = H1 → s.vm.Alike t.vm → px u → BX E u t → H.size ≤ H1.size → (∀ q : Nat, q < H.size → ¬ AX q → H1[q]? = H[q]?) → va_S A0 H0 H1 locs1 → H1[q9]? = some ce → ce.vm = .none → s.vm.findClass E = some ce.cls → vx_W p l e R s m args below meth c H1 locs1 (cells + mc) (slots + ms) Q (F0 m pc ls rest) q9)
    (kk : ∀ (r : Int64) (u : S) (t : State) (H1 : Heap) (locs1 : List Loc), t.heap = H1 → s.vm.Alike t.vm → post r u → B u t → H.size ≤ H1.size → (∀ q : Nat, q < H.size → ¬ A1 q → H1[q]? = H[q]?) → va_S A0 H0 H1 locs1 → W p l e R s m args below meth c H1 locs1 (cells + mc) (slots + ms) Q (F0 m (pc + 3) ls (.long r :: rest))) : W p l e R s m args below meth c H locs cells slots Q (F0 m pc ls st0) := by
  intro T hT X
  rcases hr T hT X with ⟨v, st₀, t, T', L, h0, X', hL, e1, e2, ⟨⟨r, u, hv, hp, hb⟩, hF⟩, st⟩ | ⟨q, st₀, t, T', L, E, ce, h0, X', hL, e1, e2, ⟨u, hp, hb, hF⟩, hce, hcv, hcl, st⟩
  · cases hv
    obtain ⟨k1, k2, k3⟩ := vx_keep h0 e1 hS hA hf hL hF
    obtain ⟨t2, a1, b1⟩ := kk r u t T'.heap (locs ++ L) e1.symm (by rw [← e2]; exact X'.warmed.alike) hp hb k1 k2 k3 T' rfl X'
    exact ⟨t2, st t2 a1, b1⟩
  · obtain ⟨k1, k2, k3⟩ := vx_keep h0 e1 hS hAX hf hL hF
    obtain ⟨t2, a1, b1⟩ := kx E ce q u t T'.heap (locs ++ L) e1.symm (by rw [← e2]; exact X'.warmed.alike) hp hb k1 k2 k3 (by rw [e1]; exact hce) hcv hcl T' rfl X'
    exact ⟨t2, st.trans a1, b1⟩
theorem vx_callf {S SX : Type} {post : UInt32 → S → Prop} {px : SX → Prop} {B : S → State → Prop} {BX : String → SX → State → Prop} {AX : Nat → Prop} (hr : vx_Run p l e R s m args below meth c H locs cells slots mc ms (F0 m pc ls st0) rest (va_Qf post B A1 a) (vx_X px BX AX) free) (hS : va_S A0 H0 H locs) (hA : ∀ q, q < H.size → A1 q → A0 q) (hf : ∀ q, free q → A0 q) (hAX : ∀ q, q < H.size → AX q → A0 q)
    (kx : ∀ (E : String) (ce : Cell) (q9 : Addr) (u : SX) (t : State) (H1 : Heap) (locs1 : List Loc), t.heap = H1 → s.vm.Alike t.vm → px u → BX E u t → H.size ≤ H1.size → (∀ q : Nat, q < H.size → ¬ AX q → H1[q]? = H[q]?) → va_S A0 H0 H1 locs1 → H1[q9]? = some ce → ce.vm = .none → s.vm.findClass E = some ce.cls → vx_W p l e R s m args below meth c H1 locs1 (cells + mc) (slots + ms) Q (F0 m pc ls rest) q9)
    (kk : ∀ (r : UInt32) (u : S) (t : State) (H1 : Heap) (locs1 : List Loc), t.heap = H1 → s.vm.Alike t.vm → post r u → B u t → H.size ≤ H1.size → (∀ q : Nat, q < H.size → ¬ A1 q → H1[q]? = H[q]?) → va_S A0 H0 H1 locs1 → W p l e R s m args below meth c H1 locs1 (cells + mc) (slots + ms) Q (F0 m (pc + 3) ls (.float r :: rest))) : W p l e R s m args below meth c H locs cells slots Q (F0 m pc ls st0) := by
  intro T hT X
  rcases hr T hT X with ⟨v, st₀, t, T', L, h0, X', hL, e1, e2, ⟨⟨r, u, hv, hp, hb⟩, hF⟩, st⟩ | ⟨q, st₀, t, T', L, E, ce, h0, X', hL, e1, e2, ⟨u, hp, hb, hF⟩, hce, hcv, hcl, st⟩
  · cases hv
    obtain ⟨k1, k2, k3⟩ := vx_keep h0 e1 hS hA hf hL hF
    obtain ⟨t2, a1, b1⟩ := kk r u t T'.heap (locs ++ L) e1.symm (by rw [← e2]; exact X'.warmed.alike) hp hb k1 k2 k3 T' rfl X'
    exact ⟨t2, st t2 a1, b1⟩
  · obtain ⟨k1, k2, k3⟩ := vx_keep h0 e1 hS hAX hf hL hF
    obtain ⟨t2, a1, b1⟩ := kx E ce q u t T'.heap (locs ++ L) e1.symm (by rw [← e2]; exact X'.warmed.alike) hp hb k1 k2 k3 (by rw [e1]; exact hce) hcv hcl T' rfl X'
    exact ⟨t2, st.trans a1, b1⟩
theorem vx_calld {S SX : Type} {post : UInt64 → S → Prop} {px : SX → Prop} {B : S → State → Prop} {BX : String → SX → State → Prop} {AX : Nat → Prop} (hr : vx_Run p l e R s m args below meth c H locs cells slots mc ms (F0 m pc ls st0) rest (va_Qd post B A1 a) (vx_X px BX AX) free) (hS : va_S A0 H0 H locs) (hA : ∀ q, q < H.size → A1 q → A0 q) (hf : ∀ q, free q → A0 q) (hAX : ∀ q, q < H.size → AX q → A0 q)
    (kx : ∀ (E : String) (ce : Cell) (q9 : Addr) (u : SX) (t : State) (H1 : Heap) (locs1 : List Loc), t.heap = H1 → s.vm.Alike t.vm → px u → BX E u t → H.size ≤ H1.size → (∀ q : Nat, q < H.size → ¬ AX q → H1[q]? = H[q]?) → va_S A0 H0 H1 locs1 → H1[q9]? = some ce → ce.vm = .none → s.vm.findClass E = some ce.cls → vx_W p l e R s m args below meth c H1 locs1 (cells + mc) (slots + ms) Q (F0 m pc ls rest) q9)
    (kk : ∀ (r : UInt64) (u : S) (t : State) (H1 : Heap) (locs1 : List Loc), t.heap = H1 → s.vm.Alike t.vm → post r u → B u t → H.size ≤ H1.size → (∀ q : Nat, q < H.size → ¬ A1 q → H1[q]? = H[q]?) → va_S A0 H0 H1 locs1 → W p l e R s m args below meth c H1 locs1 (cells + mc) (slots + ms) Q (F0 m (pc + 3) ls (.double r :: rest))) : W p l e R s m args below meth c H locs cells slots Q (F0 m pc ls st0) := by
  intro T hT X
  rcases hr T hT X with ⟨v, st₀, t, T', L, h0, X', hL, e1, e2, ⟨⟨r, u, hv, hp, hb⟩, hF⟩, st⟩ | ⟨q, st₀, t, T', L, E, ce, h0, X', hL, e1, e2, ⟨u, hp, hb, hF⟩, hce, hcv, hcl, st⟩
  · cases hv
    obtain ⟨k1, k2, k3⟩ := vx_keep h0 e1 hS hA hf hL hF
    obtain ⟨t2, a1, b1⟩ := kk r u t T'.heap (locs ++ L) e1.symm (by rw [← e2]; exact X'.warmed.alike) hp hb k1 k2 k3 T' rfl X'
    exact ⟨t2, st t2 a1, b1⟩
  · obtain ⟨k1, k2, k3⟩ := vx_keep h0 e1 hS hAX hf hL hF
    obtain ⟨t2, a1, b1⟩ := kx E ce q u t T'.heap (locs ++ L) e1.symm (by rw [← e2]; exact X'.warmed.alike) hp hb k1 k2 k3 (by rw [e1]; exact hce) hcv hcl T' rfl X'
    exact ⟨t2, st.trans a1, b1⟩
theorem vx_callv {S SX : Type} {post : S → Prop} {px : SX → Prop} {B : S → State → Prop} {BX : String → SX → State → Prop} {AX : Nat → Prop} (hr : vx_Run p l e R s m args below meth c H locs cells slots mc ms (F0 m pc ls st0) rest (va_Qv post B A1 a) (vx_X px BX AX) free) (hS : va_S A0 H0 H locs) (hA : ∀ q, q < H.size → A1 q → A0 q) (hf : ∀ q, free q → A0 q) (hAX : ∀ q, q < H.size → AX q → A0 q)
    (kx : ∀ (E : String) (ce : Cell) (q9 : Addr) (u : SX) (t : State) (H1 : Heap) (locs1 : List Loc), t.heap = H1 → s.vm.Alike t.vm → px u → BX E u t → H.size ≤ H1.size → (∀ q : Nat, q < H.size → ¬ AX q → H1[q]? = H[q]?) → va_S A0 H0 H1 locs1 → H1[q9]? = some ce → ce.vm = .none → s.vm.findClass E = some ce.cls → vx_W p l e R s m args below meth c H1 locs1 (cells + mc) (slots + ms) Q (F0 m pc ls rest) q9)
    (kk : ∀ (u : S) (t : State) (H1 : Heap) (locs1 : List Loc), t.heap = H1 → s.vm.Alike t.vm → post u → B u t → H.size ≤ H1.size → (∀ q : Nat, q < H.size → ¬ A1 q → H1[q]? = H[q]?) → va_S A0 H0 H1 locs1 → W p l e R s m args below meth c H1 locs1 (cells + mc) (slots + ms) Q (F0 m (pc + 3) ls (rest))) : W p l e R s m args below meth c H locs cells slots Q (F0 m pc ls st0) := by
  intro T hT X
  rcases hr T hT X with ⟨v, st₀, t, T', L, h0, X', hL, e1, e2, ⟨⟨u, hv, hp, hb⟩, hF⟩, st⟩ | ⟨q, st₀, t, T', L, E, ce, h0, X', hL, e1, e2, ⟨u, hp, hb, hF⟩, hce, hcv, hcl, st⟩
  · cases hv
    obtain ⟨k1, k2, k3⟩ := vx_keep h0 e1 hS hA hf hL hF
    obtain ⟨t2, a1, b1⟩ := kk u t T'.heap (locs ++ L) e1.symm (by rw [← e2]; exact X'.warmed.alike) hp hb k1 k2 k3 T' rfl X'
    exact ⟨t2, st t2 a1, b1⟩
  · obtain ⟨k1, k2, k3⟩ := vx_keep h0 e1 hS hAX hf hL hF
    obtain ⟨t2, a1, b1⟩ := kx E ce q u t T'.heap (locs ++ L) e1.symm (by rw [← e2]; exact X'.warmed.alike) hp hb k1 k2 k3 (by rw [e1]; exact hce) hcv hcl T' rfl X'
    exact ⟨t2, st.trans a1, b1⟩
/-- caught by the row x of this method's table; the rows ahead don't take it -/
theorem vx_catch {own name : String} {E : String} {ce : Cell} {q : Addr} (hown : s.vm.findClass own = some m.cls) (pre : List ExceptionTableEntry) (x : ExceptionTableEntry) (suf : List ExceptionTableEntry) (hsplit : c.exceptionTable.toList = pre ++ x :: suf)
    (hpass : ∀ z ∈ pre, covers z pc = false ∨ (z.catchType ≠ 0 ∧ ∃ nm : String, (Cond.classLink own z.catchType nm).before args s = true ∧ va_Nc E nm s)) (hx : covers x pc = true) (h0 : x.catchType ≠ 0)
    (hlink : (Cond.classLink own x.catchType name).before args s = true) (hcast : (Cond.castable E name).before args s = true) (hcell : H[q]? = some ce) (hv : ce.vm = .none) (hcl : s.vm.findClass E = some ce.cls)
    (kk : W p l e R s m args below meth c H locs cells slots Q (F0 m x.handlerPc ls [.ref q])) : vx_W p l e R s m args below meth c H locs cells slots Q (F0 m pc ls rest) q := by
  intro T hT X
  have hpl : e.platform.magicAccessors = ({} : Platform).magicAccessors := by rw [X.admits.platform]
  obtain ⟨c3, c4, hc3, hc4, hasg⟩ := Cond.castable_spec hcast
  cases Option.some.inj (hc3.symm.trans hcl)
  obtain ⟨c5, hc5, hcl5⟩ := Cond.classLink_spec hown hlink e.platform hpl
  cases Option.some.inj (hc4.symm.trans hc5)
  obtain ⟨vm', X', st⟩ := X.thenCaughtThrough q (g := F0 m pc ls rest) rfl (Steps.refl _) (by rw [hT]; exact hcell) (by rw [hv]; rfl) (by obtain ⟨k9, h9, -⟩ := Vm.findClass_spec hcl; exact ⟨k9, h9⟩) pre x suf hsplit
    (fun z hz => by
      rcases hpass z hz with h | ⟨hz0, nm, hl1, hn1⟩
      · exact Or.inl h
      · obtain ⟨c6, hc6, hcl6⟩ := Cond.classLink_spec hown hl1 e.platform hpl
        obtain ⟨a8, b8, h1, h2, h3⟩ := hn1
        cases Option.some.inj (h1.symm.trans hcl)
        cases Option.some.inj (h2.symm.trans hc6)
        exact Or.inr ⟨hz0, _, hcl6, h3⟩) hx (Or.inr ⟨h0, c4, hcl5, hasg⟩)
  obtain ⟨t, a1, b1⟩ := kk (T.setVm vm') hT X'
  exact ⟨t, st.trans a1, b1⟩
end Rows
section Ends
variable {p : Program} {l : Launch} {e : Env} {R : Room} {s : State} {m : MethodId} {args : Array Value} {below : List Frame} {meth : Method} {c : Code} {H : Heap} {locs : List Loc} {cells slots : Nat} {Q : State → Prop}
variable {mc ms : Nat} {free : Addr → Prop} {A0 A1 : Nat → Prop} {H0 : Heap} {a : Array Value} {ls : Array Slot} {st0 rest : List Value}
variable {Qc : Array Value → State → Outcome → State → Prop} {XC : String → State → State → Prop}
/-- what a body that may throw owes at its end -/
def vx_MQ (below : List Frame) (Qc : Array Value → State → Outcome → State → Prop) (XC : String → State → State → Prop) (a : Array Value) (s : State) (mc ms : Nat) (free : Addr → Prop) : State → Prop := fun t =>
  ∃ o, t.status = .running ∧ Ended t below o ∧ vx_Q Qc XC mc ms free a s o t
theorem vx_ret {g : JFrame} {mc ms : Nat} (k : W p l e R s m args below meth c H locs cells slots (MQ below Qc args s mc ms free) g) : W p l e R s m args below meth c H locs cells slots (vx_MQ below Qc XC args s mc ms free) g := by
  intro T hT X
  obtain ⟨t, a1, o, b1, b2, b3, b4⟩ := k T hT X
  exact ⟨t, a1, o, b1, b2, Or.inl ⟨b3, b4⟩⟩
/-- not caught here: it goes on to the caller -/
theorem vx_widen {g : JFrame} {q : Addr} {k n : Nat} (h1 : cells ≤ k) (h2 : slots ≤ n) (kk : vx_W p l e R s m args below meth c H locs k n Q g q) : vx_W p l e R s m args below meth c H locs cells slots Q g q := fun T hT X => kk T hT (stand_widen X h1 h2)
theorem vx_out {pc : Nat} {E : String} {ce : Cell} {q : Addr} {mc ms : Nat} (hout : ∀ x ∈ c.exceptionTable.toList, covers x pc = false) (hlocks : meth.locks = false) (hcell : H[q]? = some ce) (hv : ce.vm = .none) (hcl : s.vm.findClass E = some ce.cls)
    (hx : ∀ t : State, t.heap = H → s.vm.Alike t.vm → XC E s t) (hf : ∀ z ∈ locs, free z.base) (hc : cells ≤ mc) (hs : slots ≤ ms) :
    vx_W p l e R s m args below meth c H locs cells slots (vx_MQ below Qc XC args s mc ms free) (F0 m pc ls rest) q := by
  intro T hT X
  obtain ⟨st1, hrun, hend, hW, hsm⟩ := X.leaveThrown q (g := F0 m pc ls rest) rfl rfl rfl hout hlocks
  have hcell9 : (T.setFrames (.throwing q :: below)).heap[q]? = some ce := by
    show T.heap[q]? = some ce
    rw [hT]; exact hcell
  exact ⟨_, st1, .threw q, hrun, hend, Or.inr ⟨q, rfl, E, ce, locs, hx _ hT hW.alike, hcell9, hv, hcl, hW, hsm.mono hc hs, hf⟩⟩
theorem vx_frame {U : State} {k n : Nat} (h : s.sameButNew ({ U with vm := s.vm } : State) locs k n) : s.heap.size ≤ U.heap.size ∧ ∀ q : Nat, q < s.heap.size → (∀ z ∈ locs, z.base ≠ q) → U.heap[q]? = s.heap[q]? := by
  obtain ⟨-, h2, -, -, -, h6⟩ := h
  refine ⟨h2, fun q hq hz => ?_⟩
  obtain ⟨c9, e1, e2, e3, e4⟩ := h6 q _ (Array.getElem?_eq_getElem hq)
  have hs : c9.slots = (s.heap[q]).slots := Array.ext_getElem? fun i => e4 i fun hm => hz _ hm rfl
  have h9 : c9 = s.heap[q] := by
    rw [hs] at e2
    exact e2
  have e5 : U.heap[q]? = some c9 := e1
  rw [e5, h9, Array.getElem?_eq_getElem hq]
/-- the words of a throw but the four that speak of the heap -/
def vx_no (w : Cond) : Bool := decide (w ≠ .isRef (.static Bundle.tN "UNASSIGNED_STACK" Bundle.steD)) && decide (w ≠ .isRef (.static Bundle.tN "SUPPRESSED_SENTINEL" Bundle.listD)) && decide (w ≠ .laysStatic Bundle.tN "UNASSIGNED_STACK" Bundle.steD) && decide (w ≠ .laysStatic Bundle.tN "SUPPRESSED_SENTINEL" Bundle.listD)
def vx_at0 (own : String) (ic : Nat) (X : String) (names : List String) : List Cond := (Bundle.ownAtoms0 own ic X names).filter vx_no
def vx_atS (own : String) (ic : Nat) (X : String) (names : List String) : List Cond := (Bundle.ownAtoms own ic X names).filter vx_no
/-- a word that the tables alone decide, or a good one -/
def vx_ot (w : Cond) : Bool := w.onTables || goodWord w
theorem vx_ot_at {args a' : Array Value} {s U : State} {w : Cond} (hW : s.WarmedH U.vm) (hvm : s.vm = U.vm) (hg : vx_ot w = true) (h : w.before args s = true) : w.before a' U = true := by
  simp only [vx_ot, Bool.or_eq_true] at hg
  rcases hg with hg | hg
  · exact va_tabs hg hvm h
  · exact word_at hW (good_of_word hg) h
/-- a list's words: the good ones out of the method's own list, the others by premises of their own -/
theorem vx_hat {args : Array Value} {s : State} {L B : List Cond} (h1 : ∀ w ∈ L.filter goodWord, w.before args s = true) (h2 : ∀ w ∈ L.filter (fun w => !goodWord w), w ∈ B) (h3 : ∀ w ∈ B, w.before args s = true) : ∀ w ∈ L, w.before args s = true := by
  intro w hw
  by_cases g : goodWord w = true
  · exact h1 w (List.mem_filter.mpr ⟨hw, g⟩)
  · refine h3 w (h2 w (List.mem_filter.mpr ⟨hw, ?_⟩))
    show (!goodWord w) = true
    cases hgw : goodWord w
    · rfl
    · exact absurd hgw g
theorem vx_c {args : Array Value} {s : State} {w : Cond} {B : List Cond} (h : w.before args s = true) (t : ∀ w ∈ B, w.before args s = true) : ∀ w' ∈ w :: B, w'.before args s = true := fun w' h' => (List.mem_cons.mp h').elim (fun e => by rw [e]; exact h) (t w')
theorem vx_n {args : Array Value} {s : State} : ∀ w ∈ ([] : List Cond), w.before args s = true := fun _ h => nomatch h
theorem vx_own {args : Array Value} {s : State} {L : List Cond} (h1 : ∀ w ∈ L.filter vx_no, w.before args s = true)
    (hU : (Cond.isRef (.static Bundle.tN "UNASSIGNED_STACK" Bundle.steD)).before args s = true) (hN : (Cond.isRef (.static Bundle.tN "SUPPRESSED_SENTINEL" Bundle.listD)).before args s = true)
    (lU : (Cond.laysStatic Bundle.tN "UNASSIGNED_STACK" Bundle.steD).before args s = true) (lN : (Cond.laysStatic Bundle.tN "SUPPRESSED_SENTINEL" Bundle.listD).before args s = true) : ∀ w ∈ L, w.before args s = true := by
  intro w hw
  by_cases e1 : w = .isRef (.static Bundle.tN "UNASSIGNED_STACK" Bundle.steD)
  · rw [e1]; exact hU
  · by_cases e2 : w = .isRef (.static Bundle.tN "SUPPRESSED_SENTINEL" Bundle.listD)
    · rw [e2]; exact hN
    · by_cases e3 : w = .laysStatic Bundle.tN "UNASSIGNED_STACK" Bundle.steD
      · rw [e3]; exact lU
      · by_cases e4 : w = .laysStatic Bundle.tN "SUPPRESSED_SENTINEL" Bundle.listD
        · rw [e4]; exact lN
        · exact h1 w (List.mem_filter.mpr ⟨hw, by unfold vx_no; rw [decide_eq_true e1, decide_eq_true e2, decide_eq_true e3, decide_eq_true e4]; rfl⟩)
/-- where a static field lies, its class's statics cell in H -/
def vx_L (C n d : String) (A : Nat → Prop) (U : State) (H : Heap) : Prop := ∃ (c : ClassId) (k : Class) (i : Nat) (f : Field) (a : Nat) (cell : Cell), U.vm.findClass C = some c ∧ U.fieldFound? C n d = some (c, k, i, f) ∧ f.isStatic = true ∧ k.statics = some a ∧ H[a]? = some cell ∧ cell.vm.isStatics = true ∧ cell.cls = c ∧ f.slot < cell.slots.size ∧ k.staticTypes[f.slot]? = some f.type ∧ ¬ A a
theorem vx_L.moved {C n d : String} {A : Nat → Prop} {u U : State} {H : Heap} (hvm : u.vm.Alike U.vm) (h : vx_L C n d A u H) : vx_L C n d A U H := by
  obtain ⟨c, k, i, f, a, cell, h1, h2, h3, h4, h5, h6, h7, h8, h9, h10⟩ := h
  obtain ⟨k', hi', he⟩ := State.fieldFound?_setVm hvm h2
  exact ⟨c, k', i, f, a, cell, by rw [hvm.findClass]; exact h1, hi', h3, by rw [he]; exact h4, h5, h6, h7, h8, by rw [he]; exact h9, h10⟩
theorem vx_L.kept {C n d : String} {A : Nat → Prop} {U : State} {H H1 : Heap} (h : vx_L C n d A U H) (hq : ∀ a : Nat, a < H.size → ¬ A a → H1[a]? = H[a]?) : vx_L C n d A U H1 := by
  obtain ⟨c, k, i, f, a, cell, h1, h2, h3, h4, h5, h6, h7, h8, h9, h10⟩ := h
  exact ⟨c, k, i, f, a, cell, h1, h2, h3, h4, by rw [hq a (Array.getElem?_eq_some_iff.mp h5).1 h10]; exact h5, h6, h7, h8, h9, h10⟩
theorem vx_L.narrow {C n d : String} {A B : Nat → Prop} {U : State} {H : Heap} (h : vx_L C n d A U H) (hAB : ∀ q, B q → A q) : vx_L C n d B U H := by
  obtain ⟨c, k, i, f, a, cell, h1, h2, h3, h4, h5, h6, h7, h8, h9, h10⟩ := h
  exact ⟨c, k, i, f, a, cell, h1, h2, h3, h4, h5, h6, h7, h8, h9, fun z => h10 (hAB _ z)⟩
theorem vx_L.word {C n d : String} {A : Nat → Prop} {s : State} {args : Array Value} (h : vx_L C n d A s s.heap) : (Cond.laysStatic C n d).before args s = true := by
  obtain ⟨c, k, i, f, a, cell, h1, h2, h3, h4, h5, h6, h7, h8, h9, -⟩ := h
  show (Cond.laysStatic C n d).holds args s none s [] = true
  exact Cond.laysStatic_of h1 h2 h3 h4 h5 h6 h7 h8 h9
/-- .. and what it holds: null or some reference -/
def vx_Zq (C n d : String) (A : Nat → Prop) (U : State) (H : Heap) : Prop := va_Zq C n d A U H ∧ vx_L C n d A U H
theorem vx_Zq.moved {C n d : String} {A : Nat → Prop} {u U : State} {H : Heap} (hvm : u.vm.Alike U.vm) (h : vx_Zq C n d A u H) : vx_Zq C n d A U H := ⟨va_Zq.moved hvm h.1, vx_L.moved hvm h.2⟩
theorem vx_Zq.kept {C n d : String} {A : Nat → Prop} {U : State} {H H1 : Heap} (h : vx_Zq C n d A U H) (hq : ∀ a : Nat, a < H.size → ¬ A a → H1[a]? = H[a]?) : vx_Zq C n d A U H1 := ⟨va_Zq.kept h.1 hq, vx_L.kept h.2 hq⟩
theorem vx_Zq.narrow {C n d : String} {A B : Nat → Prop} {U : State} {H : Heap} (h : vx_Zq C n d A U H) (hAB : ∀ q, B q → A q) : vx_Zq C n d B U H := ⟨va_Zq.narrow h.1 hAB, vx_L.narrow h.2 hAB⟩
theorem vx_Zqof {args : Array Value} {s : State} {C n d : String} {A : Nat → Prop} (hl : (Cond.laysStatic C n d).before args s = true) (hini : (Cond.initialized C).before args s = true) (h : (Cond.isRef (.static C n d)).before args s = true) (hA : ∀ a : Nat, a < s.heap.size → ¬ A a) : vx_Zq C n d A s s.heap := by
  refine ⟨va_Zqof hl hini h hA, ?_⟩
  obtain ⟨c, k, i, f, a, cell, h1, h2, h3, h4, h5, h6, h7, h8, h9⟩ := Cond.laysStatic_spec hl
  exact ⟨c, k, i, f, a, cell, h1, h2, h3, h4, h5, h6, h7, h8, h9, hA a (Array.getElem?_eq_some_iff.mp h5).1⟩
theorem vx_isRef {C n d : String} {v : Value} {A : Nat → Prop} {s : State} {args : Array Value} (h : va_Z C n d v A s s.heap) (hv : v.isRef = true) : (Cond.isRef (.static C n d)).before args s = true := by
  obtain ⟨cf, kf, fi, f, a, cell, h1, h2, h3, h4, h5, h6, h7, -⟩ := h
  have he : (Term.static C n d).eval args s none [] s = some v := by
    simp [Term.eval, State.fieldNamed?, h1, h2, h4, h5, h6, h7]
  simp only [Cond.before, Cond.holds, Cond.value, he]
  cases v <;> simp_all [Value.isRef]
theorem vx_isRefq {C n d : String} {A : Nat → Prop} {s : State} {args : Array Value} (h : va_Zq C n d A s s.heap) : (Cond.isRef (.static C n d)).before args s = true := by
  rcases h with h | ⟨t, h⟩
  · exact vx_isRef h rfl
  · exact vx_isRef h rfl
/-- the same frame, seen from here: as if the method were called anew in this heap -/
theorem vx_rebase {T : State} (X : Stand p l e R s m args below meth c T locs cells slots) {R' : Room} (hf : R'.frames ≤ R.frames) (hl : R'.locals ≤ R.locals) (hc : cells + R'.cells ≤ R.cells) (hs : slots + R'.slots ≤ R.slots) :
    Stand p l e R' ((T.setVm s.vm).setFrames (.invoking m args :: below)) m args below meth c T [] 0 0 := by
  have htop : (T.setVm s.vm).topJava?.isSome := X.here.top
  have hF : ((T.setVm s.vm).setFrames (.invoking m args :: below)).frames = .invoking m args :: below := State.frames_setFrames _ (State.cur_lt_of_top htop)
  obtain ⟨g₀, hg0⟩ := Option.isSome_iff_exists.mp htop
  obtain ⟨r, hr⟩ := State.topJava?_eq_some.mp hg0
  have hl9 : e.platform.stackLimits (T.setVm s.vm).me = e.platform.stackLimits s.me := X.limits
  have hb9 : (T.setVm s.vm).me.stackBytes = s.me.stackBytes := X.bytes
  refine ⟨X.admits, X.cas, X.clock, hF, ?_, X.hears, X.method, X.code, X.here, X.tail, X.warmed, ?_, ?_, ?_⟩
  · have h := X.room
    have hU : ((T.setVm s.vm).setFrames (.invoking m args :: below)).localsInUse = s.localsInUse := by
      rw [State.localsInUse_invoking hF (meth := meth) (c := c) X.method X.code, State.localsInUse_invoking X.frames X.method X.code]
    simp only [State.hasRoom, Bool.and_eq_true, decide_eq_true_eq] at h ⊢
    obtain ⟨⟨⟨⟨h1, h2, h3, h4, h5, h6⟩, h7⟩, h8⟩, h9⟩ := h
    rw [X.frames, List.length_cons] at h2 h3
    have q1 := X.heapSize
    have q2 := X.used
    simp only [hF, hU, List.length_cons, State.stackLimits_setFrames, State.stackBytes_setFrames, hl9, hb9]
    refine ⟨⟨⟨⟨by omega, by omega, by omega, by omega, by omega, h6⟩, ?_⟩, ?_⟩, X.book⟩
    · show T.heap.size + R'.cells ≤ e.platform.maxCells
      omega
    · show T.slotsUsed + R'.slots ≤ e.platform.maxSlots
      omega
  · rw [State.stackLimits_setFrames]; rfl
  · rw [State.stackBytes_setFrames]; rfl
  · refine ⟨?_, Nat.le_refl _, Nat.le_refl _, ?_, ?_, fun a c9 h9 => ⟨c9, h9, rfl, rfl, fun _ _ => rfl⟩⟩
    · obtain ⟨t, ht, -⟩ := State.frames_cons hr
      show T.setVm s.vm = { ((T.setVm s.vm).setFrames (.invoking m args :: below)).setFrames (T.setVm s.vm).frames with heap := T.heap, slotsUsed := T.slotsUsed }
      rw [State.setFrames_setFrames, State.setFrames_self ht]
      rfl
    · show T.slotsUsed = T.slotsUsed + ((T.heap.toList.drop T.heap.size).map (·.slots.size)).sum
      rw [List.drop_eq_nil_of_le (Nat.le_of_eq Array.length_toList)]
      rfl
    · show ((T.heap.toList.drop T.heap.size).map (·.slots.size)).sum ≤ 0
      rw [List.drop_eq_nil_of_le (Nat.le_of_eq Array.length_toList)]
      exact Nat.le_refl _
/-- 'throw new E()': new; dup; invokespecial; athrow -/
theorem vx_throw0 {cc : ByteArray} {pc : Nat} (hexec : p.tables.exec = Jvm.exec) (hb : c.code = cc) (hl : l.stackTraces = false) {own cls : String} {names : List String} {ik ic mc ms : Nat} {A : Nat → Prop}
    (hown : s.vm.findClass own = some m.cls) (hcls : Bundle.fit cls = true) (hnames : ∀ n ∈ names, Bundle.fit n = true)
    (hk : (Cond.classLink own ik cls).before args s = true) (hini : (Cond.initialized cls).before args s = true) (hat : ∀ w ∈ vx_at0 own ic cls names, w.before args s = true)
    (hgood : ∀ w ∈ Cond.classLink own ik cls :: Cond.initialized cls :: vx_at0 own ic cls names, vx_ot w = true)
    (hU : vx_Zq Bundle.tN "UNASSIGNED_STACK" Bundle.steD A s s.heap) (hN : vx_Zq Bundle.tN "SUPPRESSED_SENTINEL" Bundle.listD A s s.heap) (hS : va_S A s.heap H locs) (hsize : ls.size = c.maxLocals)
    (d0 : decode cc pc = .ok (.new ik, 3)) (d3 : decode cc (pc + 3) = .ok (.dup, 1)) (d4 : decode cc (pc + 4) = .ok (.invokespecial ic, 3)) (d7 : decode cc (pc + 7) = .ok (.athrow, 1))
    (hout : ∀ x ∈ c.exceptionTable.toList, covers x (pc + 7) = false)
    (hRframes : names.length + 3 < R.frames) (hRlocals : (rest.map fun v => v.category).sum + (13 * (names.length + 1) + 42) ≤ R.locals) (hRcells : cells + 1 ≤ R.cells) (hRslots : slots + 6 ≤ R.slots) (hlocks : meth.locks = false)
    (hx : ∀ t : State, s.vm.Alike t.vm → H.size ≤ t.heap.size → (∀ q : Nat, q < H.size → t.heap[q]? = H[q]?) → XC cls s t)
    (hf : ∀ z ∈ locs, free z.base) (hc : cells + 1 ≤ mc) (hs : slots + 6 ≤ ms) :
    W p l e R s m args below meth c H locs cells slots (vx_MQ below Qc XC args s mc ms free) (F0 m pc ls rest) := by
  intro T hT X
  have htr : e.platform.stackTraces = false := (show e.platform.stackTraces = l.stackTraces by rw [X.admits.platform]).trans hl
  have Y := vx_rebase X (R' := { frames := R.frames, locals := R.locals, cells := 1, slots := 6 }) (Nat.le_refl _) (Nat.le_refl _) hRcells hRslots
  obtain ⟨s', hA⟩ : ∃ z, z = (T.setVm s.vm).setFrames (.invoking m args :: below) := ⟨_, rfl⟩
  rw [← hA] at Y
  have hvm : s'.vm = s.vm := by rw [hA]; rfl
  have hhp : s'.heap = H := by rw [hA]; exact hT
  have hW0 : s.WarmedH s'.vm := by rw [hvm]; exact State.WarmedH.refl s
  have hat' : ∀ w ∈ vx_at0 own ic cls names, w.before args s' = true := fun w hw => vx_ot_at hW0 hvm.symm (hgood w (List.mem_cons_of_mem _ (List.mem_cons_of_mem _ hw))) (hat w hw)
  have hk' : (Cond.classLink own ik cls).before args s' = true := vx_ot_at hW0 hvm.symm (hgood _ List.mem_cons_self) hk
  have hini' : (Cond.initialized cls).before args s' = true := vx_ot_at hW0 hvm.symm (hgood _ (List.mem_cons_of_mem _ List.mem_cons_self)) hini
  have hU' : vx_Zq Bundle.tN "UNASSIGNED_STACK" Bundle.steD A s' s'.heap := by rw [hhp]; exact vx_Zq.moved hW0.alike (hU.kept hS.2.1)
  have hN' : vx_Zq Bundle.tN "SUPPRESSED_SENTINEL" Bundle.listD A s' s'.heap := by rw [hhp]; exact vx_Zq.moved hW0.alike (hN.kept hS.2.1)
  have h : ∀ w ∈ Bundle.ownAtoms0 own ic cls names, w.before args s' = true := vx_own hat' (vx_isRefq hU'.1) (vx_isRefq hN'.1) hU'.2.word hN'.2.word
  have hown' : s'.vm.findClass own = some m.cls := by rw [hvm]; exact hown
  have hins : (Cond.instantiable cls 6).before args s' = true := h _ (by simp [Bundle.ownAtoms0])
  obtain ⟨vm₁, cX, kX, hfX, hkX, -, -, X₁, st1⟩ := Y.newCold hexec (own := own) (C := cls) (index := ik) (n := 6) hown' hk' hins hini'
    (g := F0 m pc ls rest) rfl (by rw [hb]; exact d0) (Nat.le_refl _) (Nat.le_refl _)
  generalize hT1 : (T.setVm vm₁).pushCell { cls := cX, slots := kX.instanceTypes.map defaultValue, vm := .none } = T1 at X₁ st1
  have hcat : (Value.ref T.heap.size).category = 1 := rfl
  have hcellA : T1.heap[T.heap.size]? = some (freshCell cX kX) := by rw [← hT1]; exact State.heap_pushCell_size _ _
  have d3' : decode c.code (pc + 3) = .ok (.dup, 1) := by rw [hb]; exact d3
  obtain ⟨U, hsteps, hrun, hend, hW, hsame, ce, hce, hO⟩ := X₁.ctorThrow0 hexec htr (own := own) (cls := cls) (names := names) (ic := ic) hown' hcls hnames h (fun x hx => nomatch hx) hfX hkX hcellA (by rw [hhp, hT]; exact Nat.le_refl _)
    (g := { method := m, pc := pc + 4, locals := ls, stack := .ref T.heap.size :: .ref T.heap.size :: rest, locked := none }) rfl hsize rfl rfl (rest := rest) rfl
    (by rw [hb]; exact d4) (by rw [hb]; exact d7) hout hRframes (by simp only [List.map_cons, List.sum_cons, hcat]; omega) hlocks
  obtain ⟨f1, f2⟩ := vx_frame hsame
  rw [hhp] at f1 f2
  have hWs : s.WarmedH U.vm := State.WarmedH.trans hW0 hW
  have hcl : s.vm.findClass cls = some ce.cls := by
    have h9 := hO.cls
    rw [hvm] at h9
    exact h9
  have hall : s.sameButNew ({ U with vm := s.vm } : State) locs mc ms := by
    subst hA
    obtain ⟨e1, e2⟩ := hsame
    rw [State.setFrames_setFrames] at e1
    have h2 : (T.setVm s.vm).sameButNew ({ U with vm := s.vm } : State) [] (0 + 1) (0 + 6) := ⟨e1, e2⟩
    have h3 := X.same.trans h2
    rw [List.append_nil] at h3
    exact h3.mono hc hs
  refine ⟨U, ?_, .threw T.heap.size, hrun, hend, Or.inr ⟨T.heap.size, rfl, cls, ce, locs, hx U hWs.alike f1 (fun q hq => f2 q hq (fun z hz => nomatch hz)), hce, hO.vm, hcl, hWs, hall, hf⟩⟩
  refine st1 _ ?_
  show Steps p.tables e below (T1.setTop { method := m, pc := pc + 3, locals := ls, stack := .ref T.heap.size :: rest, locked := none }) _
  jvm_step X₁.here [X₁.here.top, hexec, d3', Value.category]
  exact hsteps
/-- 'throw new E("text")': new; dup; ldc; invokespecial; athrow -/
theorem vx_throwS {cc : ByteArray} {pc : Nat} (hexec : p.tables.exec = Jvm.exec) (hb : c.code = cc) (hl : l.stackTraces = false) {own cls text : String} {names : List String} {ik is ic mc ms sa : Nat} {A : Nat → Prop}
    (hown : s.vm.findClass own = some m.cls) (hcls : Bundle.fit cls = true) (hnames : ∀ n ∈ names, Bundle.fit n = true)
    (hk : (Cond.classLink own ik cls).before args s = true) (hini : (Cond.initialized cls).before args s = true) (hstr : vk_R own is text sa s) (hat : ∀ w ∈ vx_atS own ic cls names, w.before args s = true)
    (hgood : ∀ w ∈ Cond.classLink own ik cls :: Cond.initialized cls :: vx_atS own ic cls names, vx_ot w = true)
    (hU : vx_Zq Bundle.tN "UNASSIGNED_STACK" Bundle.steD A s s.heap) (hN : vx_Zq Bundle.tN "SUPPRESSED_SENTINEL" Bundle.listD A s s.heap) (hS : va_S A s.heap H locs) (hsize : ls.size = c.maxLocals)
    (d0 : decode cc pc = .ok (.new ik, 3)) (d3 : decode cc (pc + 3) = .ok (.dup, 1)) (d4 : decode cc (pc + 4) = .ok (.ldc is, 2)) (d6 : decode cc (pc + 6) = .ok (.invokespecial ic, 3)) (d9 : decode cc (pc + 9) = .ok (.athrow, 1))
    (hout : ∀ x ∈ c.exceptionTable.toList, covers x (pc + 9) = false)
    (hRframes : names.length + 3 < R.frames) (hRlocals : (rest.map fun v => v.category).sum + (13 * (names.length + 1) + 43) ≤ R.locals) (hRcells : cells + 1 ≤ R.cells) (hRslots : slots + 6 ≤ R.slots) (hlocks : meth.locks = false)
    (hx : ∀ t : State, s.vm.Alike t.vm → H.size ≤ t.heap.size → (∀ q : Nat, q < H.size → t.heap[q]? = H[q]?) → XC cls s t)
    (hf : ∀ z ∈ locs, free z.base) (hc : cells + 1 ≤ mc) (hs : slots + 6 ≤ ms) :
    W p l e R s m args below meth c H locs cells slots (vx_MQ below Qc XC args s mc ms free) (F0 m pc ls rest) := by
  intro T hT X
  have htr : e.platform.stackTraces = false := (show e.platform.stackTraces = l.stackTraces by rw [X.admits.platform]).trans hl
  have Y := vx_rebase X (R' := { frames := R.frames, locals := R.locals, cells := 1, slots := 6 }) (Nat.le_refl _) (Nat.le_refl _) hRcells hRslots
  obtain ⟨s', hA⟩ : ∃ z, z = (T.setVm s.vm).setFrames (.invoking m args :: below) := ⟨_, rfl⟩
  rw [← hA] at Y
  have hvm : s'.vm = s.vm := by rw [hA]; rfl
  have hhp : s'.heap = H := by rw [hA]; exact hT
  have hW0 : s.WarmedH s'.vm := by rw [hvm]; exact State.WarmedH.refl s
  have hat' : ∀ w ∈ vx_atS own ic cls names, w.before args s' = true := fun w hw => vx_ot_at hW0 hvm.symm (hgood w (List.mem_cons_of_mem _ (List.mem_cons_of_mem _ hw))) (hat w hw)
  have hk' : (Cond.classLink own ik cls).before args s' = true := vx_ot_at hW0 hvm.symm (hgood _ List.mem_cons_self) hk
  have hini' : (Cond.initialized cls).before args s' = true := vx_ot_at hW0 hvm.symm (hgood _ (List.mem_cons_of_mem _ List.mem_cons_self)) hini
  have hU' : vx_Zq Bundle.tN "UNASSIGNED_STACK" Bundle.steD A s' s'.heap := by rw [hhp]; exact vx_Zq.moved hW0.alike (hU.kept hS.2.1)
  have hN' : vx_Zq Bundle.tN "SUPPRESSED_SENTINEL" Bundle.listD A s' s'.heap := by rw [hhp]; exact vx_Zq.moved hW0.alike (hN.kept hS.2.1)
  have h : ∀ w ∈ Bundle.ownAtoms own ic cls names, w.before args s' = true := vx_own hat' (vx_isRefq hU'.1) (vx_isRefq hN'.1) hU'.2.word hN'.2.word
  have hown' : s'.vm.findClass own = some m.cls := by rw [hvm]; exact hown
  have hins : (Cond.instantiable cls 6).before args s' = true := h _ (by simp [Bundle.ownAtoms])
  obtain ⟨vm₁, cX, kX, hfX, hkX, -, -, X₁, st1⟩ := Y.newCold hexec (own := own) (C := cls) (index := ik) (n := 6) hown' hk' hins hini'
    (g := F0 m pc ls rest) rfl (by rw [hb]; exact d0) (Nat.le_refl _) (Nat.le_refl _)
  generalize hT1 : (T.setVm vm₁).pushCell { cls := cX, slots := kX.instanceTypes.map defaultValue, vm := .none } = T1 at X₁ st1
  have hcat : (Value.ref T.heap.size).category = 1 := rfl
  have hcellA : T1.heap[T.heap.size]? = some (freshCell cX kX) := by rw [← hT1]; exact State.heap_pushCell_size _ _
  have d3' : decode c.code (pc + 3) = .ok (.dup, 1) := by rw [hb]; exact d3
  have d4' : decode c.code (pc + 4) = .ok (.ldc is, 2) := by rw [hb]; exact d4
  have hstr' : vk_R own is text sa s' := vk_R.warm hW0 hstr
  obtain ⟨U, hsteps, hrun, hend, hW, hsame, ce, hce, hO⟩ := X₁.ctorThrowS hexec htr (own := own) (cls := cls) (names := names) (ic := ic) hown' hcls hnames h (fun x hx => nomatch hx) hfX hkX hcellA (by rw [hhp, hT]; exact Nat.le_refl _) (msg := .ref sa) rfl
    (g := { method := m, pc := pc + 6, locals := ls, stack := .ref sa :: .ref T.heap.size :: .ref T.heap.size :: rest, locked := none }) rfl hsize rfl rfl (rest := rest) rfl
    (by rw [hb]; exact d6) (by rw [hb]; exact d9) hout hRframes (by simp only [List.map_cons, List.sum_cons, hcat]; omega) hlocks
  obtain ⟨f1, f2⟩ := vx_frame hsame
  rw [hhp] at f1 f2
  have hWs : s.WarmedH U.vm := State.WarmedH.trans hW0 hW
  have hcl : s.vm.findClass cls = some ce.cls := by
    have h9 := hO.cls
    rw [hvm] at h9
    exact h9
  have hall : s.sameButNew ({ U with vm := s.vm } : State) locs mc ms := by
    subst hA
    obtain ⟨e1, e2⟩ := hsame
    rw [State.setFrames_setFrames] at e1
    have h2 : (T.setVm s.vm).sameButNew ({ U with vm := s.vm } : State) [] (0 + 1) (0 + 6) := ⟨e1, e2⟩
    have h3 := X.same.trans h2
    rw [List.append_nil] at h3
    exact h3.mono hc hs
  refine ⟨U, ?_, .threw T.heap.size, hrun, hend, Or.inr ⟨T.heap.size, rfl, cls, ce, locs, hx U hWs.alike f1 (fun q hq => f2 q hq (fun z hz => nomatch hz)), hce, hO.vm, hcl, hWs, hall, hf⟩⟩
  refine st1 _ ?_
  show Steps p.tables e below (T1.setTop { method := m, pc := pc + 3, locals := ls, stack := .ref T.heap.size :: rest, locked := none }) _
  jvm_step X₁.here [X₁.here.top, hexec, d3', Value.category]
  exact X₁.ldcString hexec (own := own) (text := text) (index := is) (a := sa) hown' hstr'.1 hstr'.2
    (g := { method := m, pc := pc + 4, locals := ls, stack := .ref T.heap.size :: .ref T.heap.size :: rest, locked := none }) rfl d4' _ hsteps
/-- 'throw new E("text")', the text by a wide index -/
theorem vx_throwSW {cc : ByteArray} {pc : Nat} (hexec : p.tables.exec = Jvm.exec) (hb : c.code = cc) (hl : l.stackTraces = false) {own cls text : String} {names : List String} {ik is ic mc ms sa : Nat} {A : Nat → Prop}
    (hown : s.vm.findClass own = some m.cls) (hcls : Bundle.fit cls = true) (hnames : ∀ n ∈ names, Bundle.fit n = true)
    (hk : (Cond.classLink own ik cls).before args s = true) (hini : (Cond.initialized cls).before args s = true) (hstr : vk_R own is text sa s) (hat : ∀ w ∈ vx_atS own ic cls names, w.before args s = true)
    (hgood : ∀ w ∈ Cond.classLink own ik cls :: Cond.initialized cls :: vx_atS own ic cls names, vx_ot w = true)
    (hU : vx_Zq Bundle.tN "UNASSIGNED_STACK" Bundle.steD A s s.heap) (hN : vx_Zq Bundle.tN "SUPPRESSED_SENTINEL" Bundle.listD A s s.heap) (hS : va_S A s.heap H locs) (hsize : ls.size = c.maxLocals)
    (d0 : decode cc pc = .ok (.new ik, 3)) (d3 : decode cc (pc + 3) = .ok (.dup, 1)) (d4 : decode cc (pc + 4) = .ok (.ldc_w is, 3)) (d7 : decode cc (pc + 7) = .ok (.invokespecial ic, 3)) (d10 : decode cc (pc + 10) = .ok (.athrow, 1))
    (hout : ∀ x ∈ c.exceptionTable.toList, covers x (pc + 10) = false)
    (hRframes : names.length + 3 < R.frames) (hRlocals : (rest.map fun v => v.category).sum + (13 * (names.length + 1) + 43) ≤ R.locals) (hRcells : cells + 1 ≤ R.cells) (hRslots : slots + 6 ≤ R.slots) (hlocks : meth.locks = false)
    (hx : ∀ t : State, s.vm.Alike t.vm → H.size ≤ t.heap.size → (∀ q : Nat, q < H.size → t.heap[q]? = H[q]?) → XC cls s t)
    (hf : ∀ z ∈ locs, free z.base) (hc : cells + 1 ≤ mc) (hs : slots + 6 ≤ ms) :
    W p l e R s m args below meth c H locs cells slots (vx_MQ below Qc XC args s mc ms free) (F0 m pc ls rest) := by
  intro T hT X
  have htr : e.platform.stackTraces = false := (show e.platform.stackTraces = l.stackTraces by rw [X.admits.platform]).trans hl
  have Y := vx_rebase X (R' := { frames := R.frames, locals := R.locals, cells := 1, slots := 6 }) (Nat.le_refl _) (Nat.le_refl _) hRcells hRslots
  obtain ⟨s', hA⟩ : ∃ z, z = (T.setVm s.vm).setFrames (.invoking m args :: below) := ⟨_, rfl⟩
  rw [← hA] at Y
  have hvm : s'.vm = s.vm := by rw [hA]; rfl
  have hhp : s'.heap = H := by rw [hA]; exact hT
  have hW0 : s.WarmedH s'.vm := by rw [hvm]; exact State.WarmedH.refl s
  have hat' : ∀ w ∈ vx_atS own ic cls names, w.before args s' = true := fun w hw => vx_ot_at hW0 hvm.symm (hgood w (List.mem_cons_of_mem _ (List.mem_cons_of_mem _ hw))) (hat w hw)
  have hk' : (Cond.classLink own ik cls).before args s' = true := vx_ot_at hW0 hvm.symm (hgood _ List.mem_cons_self) hk
  have hini' : (Cond.initialized cls).before args s' = true := vx_ot_at hW0 hvm.symm (hgood _ (List.mem_cons_of_mem _ List.mem_cons_self)) hini
  have hU' : vx_Zq Bundle.tN "UNASSIGNED_STACK" Bundle.steD A s' s'.heap := by rw [hhp]; exact vx_Zq.moved hW0.alike (hU.kept hS.2.1)
  have hN' : vx_Zq Bundle.tN "SUPPRESSED_SENTINEL" Bundle.listD A s' s'.heap := by rw [hhp]; exact vx_Zq.moved hW0.alike (hN.kept hS.2.1)
  have h : ∀ w ∈ Bundle.ownAtoms own ic cls names, w.before args s' = true := vx_own hat' (vx_isRefq hU'.1) (vx_isRefq hN'.1) hU'.2.word hN'.2.word
  have hown' : s'.vm.findClass own = some m.cls := by rw [hvm]; exact hown
  have hins : (Cond.instantiable cls 6).before args s' = true := h _ (by simp [Bundle.ownAtoms])
  obtain ⟨vm₁, cX, kX, hfX, hkX, -, -, X₁, st1⟩ := Y.newCold hexec (own := own) (C := cls) (index := ik) (n := 6) hown' hk' hins hini'
    (g := F0 m pc ls rest) rfl (by rw [hb]; exact d0) (Nat.le_refl _) (Nat.le_refl _)
  generalize hT1 : (T.setVm vm₁).pushCell { cls := cX, slots := kX.instanceTypes.map defaultValue, vm := .none } = T1 at X₁ st1
  have hcat : (Value.ref T.heap.size).category = 1 := rfl
  have hcellA : T1.heap[T.heap.size]? = some (freshCell cX kX) := by rw [← hT1]; exact State.heap_pushCell_size _ _
  have d3' : decode c.code (pc + 3) = .ok (.dup, 1) := by rw [hb]; exact d3
  have d4' : decode c.code (pc + 4) = .ok (.ldc_w is, 3) := by rw [hb]; exact d4
  have hstr' : vk_R own is text sa s' := vk_R.warm hW0 hstr
  obtain ⟨U, hsteps, hrun, hend, hW, hsame, ce, hce, hO⟩ := X₁.ctorThrowS hexec htr (own := own) (cls := cls) (names := names) (ic := ic) hown' hcls hnames h (fun x hx => nomatch hx) hfX hkX hcellA (by rw [hhp, hT]; exact Nat.le_refl _) (msg := .ref sa) rfl
    (g := { method := m, pc := pc + 7, locals := ls, stack := .ref sa :: .ref T.heap.size :: .ref T.heap.size :: rest, locked := none }) rfl hsize rfl rfl (rest := rest) rfl
    (by rw [hb]; exact d7) (by rw [hb]; exact d10) hout hRframes (by simp only [List.map_cons, List.sum_cons, hcat]; omega) hlocks
  obtain ⟨f1, f2⟩ := vx_frame hsame
  rw [hhp] at f1 f2
  have hWs : s.WarmedH U.vm := State.WarmedH.trans hW0 hW
  have hcl : s.vm.findClass cls = some ce.cls := by
    have h9 := hO.cls
    rw [hvm] at h9
    exact h9
  have hall : s.sameButNew ({ U with vm := s.vm } : State) locs mc ms := by
    subst hA
    obtain ⟨e1, e2⟩ := hsame
    rw [State.setFrames_setFrames] at e1
    have h2 : (T.setVm s.vm).sameButNew ({ U with vm := s.vm } : State) [] (0 + 1) (0 + 6) := ⟨e1, e2⟩
    have h3 := X.same.trans h2
    rw [List.append_nil] at h3
    exact h3.mono hc hs
  refine ⟨U, ?_, .threw T.heap.size, hrun, hend, Or.inr ⟨T.heap.size, rfl, cls, ce, locs, hx U hWs.alike f1 (fun q hq => f2 q hq (fun z hz => nomatch hz)), hce, hO.vm, hcl, hWs, hall, hf⟩⟩
  refine st1 _ ?_
  show Steps p.tables e below (T1.setTop { method := m, pc := pc + 3, locals := ls, stack := .ref T.heap.size :: rest, locked := none }) _
  jvm_step X₁.here [X₁.here.top, hexec, d3', Value.category]
  exact X₁.ldcStringW hexec (own := own) (text := text) (index := is) (a := sa) hown' hstr'.1 hstr'.2
    (g := { method := m, pc := pc + 4, locals := ls, stack := .ref T.heap.size :: .ref T.heap.size :: rest, locked := none }) rfl d4' _ hsteps
end Ends
section Bodies
variable {l : Launch}
theorem vx_ofW {y : MethodName} {ws ws' : List Cond} {rm : Room} {Pc : Array Value → State → Prop} {Qc : Array Value → State → Outcome → State → Prop} {XC : String → State → State → Prop} {mc ms : Nat} {free : Addr → Prop} {cc : ByteArray} {maxL : Nat} {ret : Option FieldType}
    (hy : plainName y.cls = true) (hw : ws = Cond.code y cc maxL ret :: ws')
    (body : ∀ p e s m args below meth c s₁, BodyLoose p l y (headSpec ws rm) cc maxL ret e s m args below meth c s₁ → c.maxLocals = maxL → (∀ x ∈ c.exceptionTable.toList, False) → Pc args s →
      W p l e (headSpec ws rm).room s m args below meth c s.heap [] 0 0 (vx_MQ below Qc XC args s mc ms free) (entryFrame m args maxL)) : vx_Met l y ws rm Pc Qc XC mc ms free := by
  refine MetFree.of_bodyS (code := cc) (maxLocals := maxL) (ret := ret) hy ?_ ?_
  · intro args s m h hn
    obtain ⟨meth, c, h1, h2, h3, h4, h5, h6, -, -⟩ := Cond.code_spec hn (atoms_spec (ws := ws) h _ (by rw [hw]; exact List.mem_cons_self))
    exact ⟨meth, c, h1, h2, h3, h4, h5, h6⟩
  · intro p e s m args below meth c s₁ B hml hP _
    have hh0 : s₁.heap = s.heap := by rw [B.state]; rfl
    have ht : ∀ x ∈ c.exceptionTable.toList, False := by
      obtain ⟨meth9, c9, h1, h2, -, -, -, -, h7, -⟩ := Cond.code_spec B.named (atoms_spec (ws := ws) B.pre _ (by rw [hw]; exact List.mem_cons_self))
      cases Option.some.inj (h1.symm.trans B.method)
      cases Option.some.inj (h2.symm.trans (Stand.of_body B).code)
      intro x hx
      rw [Array.isEmpty_iff.mp h7] at hx
      cases hx
    obtain ⟨t, a1, o, b1, b2, b3⟩ := body p e s m args below meth c s₁ B hml ht hP s₁ hh0 (Stand.of_body B)
    exact ⟨t, o, a1, b1, b2, b3⟩
/-- the table of a body with handlers -/
theorem vx_table {p : Program} {x y : MethodName} {S : Spec} {cc bytes : ByteArray} {maxL maxL' : Nat} {ret ret' : Option FieldType} {e : Env} {s s₁ : State} {m : MethodId} {args : Array Value} {below : List Frame} {meth : Method} {c : Code} {hh : List (Nat × Nat × Nat × Nat)}
    (B : BodyLoose p l y S cc maxL ret e s m args below meth c s₁) (h : (Cond.codeWith y bytes maxL' ret' hh).before args s = true) : c.exceptionTable.toList = tableOf hh := by
  obtain ⟨m9, meth9, c9, hn9, h1, h2, -, -, h6, -⟩ := Cond.codeWith_spec h
  cases Option.some.inj (hn9.symm.trans B.named)
  cases Option.some.inj (h1.symm.trans B.method)
  cases Option.some.inj (h2.symm.trans (Stand.of_body B).code)
  rw [← h6, table_eq]
end Bodies
end VXA
/-! ===== END ===== -/
/-! ===== BEGIN a static call of a method with an exception table ===== -/
section VXS
variable {p : Program} {l : Launch} {e : Env} {R : Room} {s : State} {m : MethodId} {args : Array Value} {below : List Frame} {meth : Method} {c : Code} {T : State} {H : Heap} {locs : List Loc} {cells slots : Nat}
abbrev vx_CSW (R : Room) (s : State) (args : Array Value) (own : String) (index : Nat) (y : MethodName) (bytes : ByteArray) (maxL : Nat) (ret : Option FieldType) (hh : List (Nat × Nat × Nat × Nat)) (ws : List Cond) (rm : Room) (mc ms n : Nat) : Prop :=
  (rm.cells = mc ∧ rm.slots = ms ∧ rm.frames + 1 ≤ R.frames ∧ 8 + (maxL + 11) + rm.locals ≤ R.locals ∧ (∀ w ∈ ws, ∀ (a' : Array Value) (U : State), s.WarmedH U.vm → w.before a' U = true) ∧ Cond.codeWith y bytes maxL ret hh ∈ ws) ∧
  (Cond.codeWith y bytes maxL ret hh).before args s = true ∧ (Cond.initialized y.cls).before args s = true ∧ (y.cls ≠ "java/lang/invoke/MethodHandle" ∧ y.cls ≠ "java/lang/invoke/VarHandle") ∧
  (∀ sig, parseMethodDescriptor y.desc = some sig → n = sig.parameters.length) ∧ (Cond.methodLink own index y).before args s = true ∧ (Cond.static y).before args s = true
theorem vx_cwSW {own : String} {index maxL mc ms : Nat} {y : MethodName} {bytes : ByteArray} {ret : Option FieldType} {hh : List (Nat × Nat × Nat × Nat)} {Ts ws ws' : List Cond} {rm : Room} (n : Nat) (ht : ∀ w ∈ Ts, w.before args s = true) (hT : GoodIn Ts (va_wsS own index y ws)) (hw : ws = Cond.codeWith y bytes maxL ret hh :: ws') (hrc : rm.cells = mc) (hrs : rm.slots = ms)
    (hd : y.cls ≠ "java/lang/invoke/MethodHandle" ∧ y.cls ≠ "java/lang/invoke/VarHandle" ∧ (parseMethodDescriptor y.desc).map (fun d => d.parameters.length) = some n) (hR : rm.frames + 1 ≤ R.frames ∧ 8 + (maxL + 11) + rm.locals ≤ R.locals) :
    vx_CSW R s args own index y bytes maxL ret hh ws rm mc ms n := by
  have ok : ∀ w ∈ va_wsS own index y ws, w.before args s = true := fun w h => ht w (hT w h).1
  have hG : GoodIn Ts ws := fun w h => hT w (by unfold va_wsS; exact List.mem_append_right _ h)
  have hc : Cond.codeWith y bytes maxL ret hh ∈ ws := by rw [hw]; exact List.mem_cons_self
  refine ⟨⟨hrc, hrs, hR.1, hR.2, pay_in ht hG, hc⟩, ht _ (hG _ hc).1, ok _ (by simp [va_wsS]), ⟨hd.1, hd.2.1⟩, fun sig h => ?_, ok _ (by simp [va_wsS]), ok _ (by simp [va_wsS])⟩
  have h2 := hd.2.2
  rw [h] at h2
  exact (Option.some.inj h2).symm
theorem vx_callSW (X : Stand p l e R s m args below meth c T locs cells slots) (hexec : p.tables.exec = Jvm.exec) {own : String} {index : Nat} {y : MethodName} {bytes : ByteArray} {maxL : Nat} {ret : Option FieldType} {hh : List (Nat × Nat × Nat × Nat)}
    (hown : s.vm.findClass own = some m.cls) (hlink : (Cond.methodLink own index y).before args s = true) (hstat : (Cond.static y).before args s = true) (hinit : (Cond.initialized y.cls).before args s = true)
    (hcode : (Cond.codeWith y bytes maxL ret hh).before args s = true) (hy : y.cls ≠ "java/lang/invoke/MethodHandle" ∧ y.cls ≠ "java/lang/invoke/VarHandle")
    {W9 : Nat} {Pre : Pt → Array Value → Prop} {Post : Pt → Array Value → Option Value → Pt → Prop} (hK : Back l R p e below s args y 3 W9 Pre Post)
    {g : JFrame} (hg : g.method = m) (hsize : g.locals.size = c.maxLocals) {argsL rest : List Value} (hlen : ∀ sig, parseMethodDescriptor y.desc = some sig → argsL.length = sig.parameters.length)
    (hstack : g.stack = argsL.reverse ++ rest) (hW : 2 * g.monitorRoom + (rest.map fun v => v.category).sum ≤ W9) (hdg : decode c.code g.pc = .ok (.invokestatic index, 3))
    (hpre : ∀ vm₁, s.WarmedH vm₁ → Pre ⟨T.setVm vm₁, locs, cells, slots⟩ argsL.toArray) :
    ∃ (v : Option Value) (vm₁ : Vm) (B : Pt), s.WarmedH vm₁ ∧ Stand p l e R s m args below meth c B.U B.locs B.cells B.slots ∧ Post ⟨T.setVm vm₁, locs, cells, slots⟩ argsL.toArray v B ∧
      ∀ target, Steps p.tables e below (B.U.setTop { g with pc := g.pc + 3, stack := v.toList ++ rest }) target → Steps p.tables e below (T.setTop g) target := by
  obtain ⟨mk, methM, cM, hnamed, hmethM, -, -, -, -, -, -, hsigM⟩ := Cond.codeWith_spec hcode
  have hstatic : methM.isStatic = true := Cond.static_spec hnamed hmethM hstat
  obtain ⟨kP, hkP, -⟩ := className_of_methodNamed hnamed
  have hinitP : kP.init = .initialized := Cond.initialized_spec (findClass_of_methodNamed hnamed) hkP hinit
  obtain ⟨vm₁, X₁, hstep₁⟩ := X.invokestatic hexec hown hlink hnamed hmethM hstatic hkP hinitP hy (g := g) hg (argsL := argsL) (rest := rest) (hlen _ hsigM) hstack hdg
  obtain ⟨v, B, X', hpost, hsteps⟩ := hK m meth c ⟨T.setVm vm₁, locs, cells, slots⟩ { g with stack := rest } (.invokestatic index) mk argsL.toArray X₁ hg hsize hdg hW (X₁.named hnamed) (hpre vm₁ X₁.warmed)
  exact ⟨v, vm₁, B, X₁.warmed, X', hpost, fun target h => hstep₁ _ fun acts => by rw [doInvoke_state]; exact hsteps.trans h⟩
theorem vx_runSW {y : MethodName} {bytes cc : ByteArray} {maxL nL mc ms n index : Nat} {ret : Option FieldType} {hh : List (Nat × Nat × Nat × Nat)} {ws : List Cond} {rm : Room} {Pc : Array Value → State → Prop} {Qc : Array Value → State → Outcome → State → Prop} {free : Addr → Prop} {Ts : List Cond} {own : String} {As rest : List Value} {g : JFrame}
    (S : CallFix p m c cc nL s args Ts own) (hM : Met l y ws rm Pc Qc mc ms free) (cw : vx_CSW R s args own index y bytes maxL ret hh ws rm mc ms n) (hp : PreS s H Pc As)
    (hg : g.method = m) (hn : As.length = n) (hsize : g.locals.size = nL) (hstack : g.stack = As.reverse ++ rest) (hW : 2 * g.monitorRoom + (rest.map fun v => v.category).sum ≤ 8) (hdg : decode cc g.pc = .ok (.invokestatic index, 3)) (hf : cells + mc ≤ R.cells ∧ slots + ms ≤ R.slots) :
    va_Run p l e R s m args below meth c H locs cells slots mc ms g rest (Qc As.toArray) (free) := by
  obtain ⟨⟨hrc, hrs, hfr, hlo, hws, hcw⟩, hcode, hini, hy, hlen, hl, hstt⟩ := cw
  have hK : Back l R p e below s args y 3 8 (PreOf R mc ms Pc) (PostOf Qc mc ms free) := va_backW (hh := hh) (bytes := bytes) (maxL := maxL) (ret := ret) hM hp.1 hrc hrs hfr hlo hws hcw (fun a' U hW => word_at hW (Or.inl (by first | rfl | simp [Cond.onTables, Cond.keeps, Cond.steady])) hini)
  obtain ⟨hx, hb, hml, ho, -⟩ := S
  intro T hT X
  obtain ⟨v, vm₁, ⟨U', l2, c2, s2⟩, hW₁, X', ⟨g', mk, t, L, e1, e2, hq, h1, hL, h2, h3⟩, st⟩ := vx_callSW X hx (hh := hh) (bytes := bytes) (maxL := maxL) (ret := ret) ho hl hstt hini hcode hy hK hg (hsize.trans hml.symm) (argsL := As) (rest := rest) (fun sig h => hn.trans (hlen sig h)) hstack hW (by rw [hb]; exact hdg)
    (fun vm₁ hW₁ => ⟨hf.1, hf.2, hp.2 (T.setVm vm₁) hT hW₁⟩)
  dsimp only [Pt.U, Pt.locs, Pt.cells, Pt.slots] at X' e1 e2 h1 h2 h3 st
  subst h1; subst h2; subst h3
  exact ⟨v, (T.setVm vm₁).calling g' mk As.toArray, t, U', L, hT, X', hL, e1, e2, hq, st⟩
/-- not caught here, past rows that name other classes: it goes on to the caller -/
theorem vx_outP {p : Program} {l : Launch} {e : Env} {R : Room} {s : State} {m : MethodId} {args : Array Value} {below : List Frame} {meth : Method} {c : Code} {H : Heap} {locs : List Loc} {cells slots : Nat} {free : Addr → Prop} {ls : Array Slot} {rest : List Value} {Qc : Array Value → State → Outcome → State → Prop} {XC : String → State → State → Prop}
    {pc : Nat} {own E : String} {ce : Cell} {q : Addr} {mc ms : Nat} (hown : s.vm.findClass own = some m.cls) (hlocks : meth.locks = false)
    (hpass : ∀ z ∈ c.exceptionTable.toList, covers z pc = false ∨ (z.catchType ≠ 0 ∧ ∃ nm : String, (Cond.classLink own z.catchType nm).before args s = true ∧ va_Nc E nm s)) (hcell : H[q]? = some ce) (hv : ce.vm = .none) (hcl : s.vm.findClass E = some ce.cls)
    (hx : ∀ t : State, t.heap = H → s.vm.Alike t.vm → XC E s t) (hf : ∀ z ∈ locs, free z.base) (hc : cells ≤ mc) (hs : slots ≤ ms) :
    vx_W p l e R s m args below meth c H locs cells slots (vx_MQ below Qc XC args s mc ms free) (F0 m pc ls rest) q := by
  intro T hT X
  have hpl : e.platform.magicAccessors = ({} : Platform).magicAccessors := by rw [X.admits.platform]
  obtain ⟨vm', hW', X', st⟩ := X.outThrough hlocks q (g := F0 m pc ls rest) rfl rfl rfl (cell := ce) (by rw [hT]; exact hcell) (by rw [hv]; rfl)
    (by obtain ⟨k9, h9, -⟩ := Vm.findClass_spec hcl; exact ⟨k9, h9⟩) (fun z hz => by
      rcases hpass z hz with h | ⟨hz0, nm, hl1, hn1⟩
      · exact Or.inl h
      · obtain ⟨c6, hc6, hcl6⟩ := Cond.classLink_spec hown hl1 e.platform hpl
        obtain ⟨a8, b8, h1, h2, h3⟩ := hn1
        cases Option.some.inj (h1.symm.trans hcl)
        cases Option.some.inj (h2.symm.trans hc6)
        exact Or.inr ⟨hz0, _, hcl6, h3⟩)
  obtain ⟨g₀, hfr⟩ := X'.frames_eq
  have hcell9 : ((T.setVm vm').setFrames (.throwing q :: below)).heap[q]? = some ce := by
    show T.heap[q]? = some ce
    rw [hT]; exact hcell
  have hend : Ended ((T.setVm vm').setFrames (.throwing q :: below)) below (.threw q) := State.frames_setFrames _ (State.cur_lt_of_frames hfr)
  refine ⟨(T.setVm vm').setFrames (.throwing q :: below), ?_, .threw q, X'.here.running, hend, Or.inr ⟨q, rfl, E, ce, locs, hx _ hT (X'.ends _).1.alike, hcell9, hv, hcl, (X'.ends _).1, (X'.ends _).2.mono hc hs, hf⟩⟩
  rw [X.pushThrowing_eq]
  exact st
/-- a thing of a world lies in the heap -/
theorem vx_lt {D : va_G} {cl : List vw_C} {ws : va_W} {H1 : Heap} (h : va_P D cl ws H1) {k : Nat} {q : Nat × va_E} (hk : ws[k]? = some q) : q.1 < H1.size := (h k q hk).lt
end VXS
/-! ===== END ===== -/
/-! ===== BEGIN methods with a table of their own: called by a name, returning or throwing ===== -/
section VXH
/-! vx_backW, vx_callVX, vx_callSX, vx_callVW, vx_runVW, vx_runVX, vx_runSX, vx_ofWH follow the same proofs as their sisters above (Free/Laws.lean, Shelf42/LK1.lean); vx_outP calls Shelf42/NT130.lean (outThrough). -/
section
variable {l : Launch} {R : Room} {p : Program} {e : Env} {below : List Frame} {s : State} {sargs : Array Value} {y : MethodName} {len W9 : Nat}
theorem vx_backW {ws : List Cond} {rm : Room} {Pc : Array Value → State → Prop} {Qc : Array Value → State → Outcome → State → Prop} {XC : String → State → State → Prop} {mc ms : Nat} {free : Addr → Prop} {bytes : ByteArray} {maxL : Nat} {ret : Option FieldType} {hh : List (Nat × Nat × Nat × Nat)}
    (hM : vx_Met l y ws rm Pc Qc XC mc ms free) (hblind : FrameBlind Pc) (hrc : rm.cells = mc) (hrs : rm.slots = ms)
    (hframes : rm.frames + 1 ≤ R.frames) (hlocals : W9 + (maxL + 11) + rm.locals ≤ R.locals)
    (hws : ∀ w ∈ ws, ∀ a' U, s.WarmedH U.vm → w.before a' U = true) (hcode : Cond.codeWith y bytes maxL ret hh ∈ ws) (hinit : ∀ a' U, s.WarmedH U.vm → (Cond.initialized y.cls).before a' U = true) :
    vx_Back l R p e below s sargs y len W9 (PreOf R mc ms Pc) (PostOf Qc mc ms free) (vx_Post XC mc ms free) := by
  intro m meth c A g ig mk a X hg hsize hdg hW hn hp
  have h1 : (headSpec ws rm).pre.before a A.U = true := atoms_intro fun w hw => hws w hw _ _ X.warmed
  have h2 : (Cond.codeWith y bytes maxL ret hh).before a A.U = true := hws _ hcode _ _ X.warmed
  have h3 : (Cond.initialized y.cls).before a A.U = true := hinit _ _ X.warmed
  have h4 : A.cells + (headSpec ws rm).room.cells ≤ R.cells := by rw [show (headSpec ws rm).room.cells = mc from hrc]; exact hp.1
  have h5 : A.slots + (headSpec ws rm).room.slots ≤ R.slots := by rw [show (headSpec ws rm).room.slots = ms from hrs]; exact hp.2.1
  have hPc : Pc a (A.U.calling g mk a) := hblind _ _ _ _ hp.2.2
  obtain ⟨U, Ls, c0, s0⟩ := A
  dsimp only [Pt.U, Pt.locs, Pt.cells, Pt.slots] at h1 h2 h3 h4 h5 X hn hPc ⊢
  obtain ⟨m9, methY, cY, hn9, hmY, hcY, -, hlY, -⟩ := Cond.codeWith_spec h2
  cases Option.some.inj (hn9.symm.trans hn)
  obtain ⟨kY, hkY, -⟩ := className_of_methodNamed hn
  have hinitY : kY.init = .initialized := Cond.initialized_spec (findClass_of_methodNamed hn) hkY h3
  have h : At U g.method c below := by rw [hg]; exact X.here
  have hlocals9 : W9 + (maxL + 11) + (headSpec ws rm).room.locals ≤ R.locals := hlocals
  have happ : (headSpec ws rm).appliesLoose y e.platform (U.calling g mk a) = true :=
    Spec.appliesLoose_calling (g := g) h hdg hn hkY hinitY
      (X.room_calling (g := g) (R' := (headSpec ws rm).room) hsize hmY hcY hframes (by rw [hlY]; omega) h4 h5) h1
  obtain ⟨mid, hmid⟩ := h.above
  have hfr : (U.setTop g).frames = (.java g :: mid) ++ below := by rw [State.frames_setTop' g h.top, hmid]; rfl
  obtain ⟨o, s₂, hsteps, -, hend, hq⟩ := Steps.callFree hM p X.admits X.cas X.clock (acts := []) hfr happ hPc trivial
  have hq' : vx_Q Qc XC mc ms free a (U.calling g mk a) o s₂ := hq
  rw [State.frames_setTop' g h.top] at hend
  obtain ⟨g₀, hg0⟩ := Option.isSome_iff_exists.mp h.top
  obtain ⟨r, hr⟩ := State.topJava?_eq_some.mp hg0
  have hr' : (({ U with heap := s₂.heap, slotsUsed := s₂.slotsUsed } : State).setVm s₂.vm).frames = .java g₀ :: r := hr
  rcases hq' with ⟨hqc, L, hfe, hL⟩ | ⟨q, rfl, E, ce, L, hx, hce, hcv, hcl, hW₂, hsm, hL⟩
  · obtain ⟨⟨v, rfl⟩, hW₂, e2, q2, q3, q4, q5, q6⟩ := id hfe
    have e3 : s₂ = ({ (U.calling g mk a).setFrames s₂.frames with heap := s₂.heap, slotsUsed := s₂.slotsUsed } : State).setVm s₂.vm := by
      have : s₂ = ({ s₂ with vm := (U.calling g mk a).vm } : State).setVm s₂.vm := rfl
      rw [e2] at this
      exact this
    obtain ⟨c₂, i₂, len₂, hc₂, hd₂, hf₂⟩ := hend
    have hW' : U.WarmedH s₂.vm := hW₂
    have hcc : c₂ = c := by
      have h1 : s₂.code? g.method = U.code? g.method := by
        rw [State.code?_eq, State.code?_eq, hW'.alike.method?]
      exact Option.some.inj (hc₂.symm.trans (h1.trans h.code))
    subst hcc
    have hlen : len₂ = len := by rw [hdg] at hd₂; cases hd₂; rfl
    subst hlen
    have hs₂ : s₂ = (({ U with heap := s₂.heap, slotsUsed := s₂.slotsUsed } : State).setVm s₂.vm).setTop { g with pc := g.pc + len₂, stack := v.toList ++ g.stack } := by
      refine e3.trans ?_
      rw [hf₂, State.calling_eq h.top, State.setFrames_setFrames, State.setTop_of_frames _ hr', hr]
      rfl
    have hsame : U.sameButNew ({ U with heap := s₂.heap, slotsUsed := s₂.slotsUsed } : State) L mc ms := by
      refine ⟨?_, q2, q3, q4, q5, q6⟩
      obtain ⟨t, ht, -⟩ := State.frames_cons hr
      show ({ U with heap := s₂.heap, slotsUsed := s₂.slotsUsed } : State) = { U.setFrames U.frames with heap := s₂.heap, slotsUsed := s₂.slotsUsed }
      rw [State.setFrames_self ht]
    subst hg
    refine Or.inl ⟨v, ⟨(({ U with heap := s₂.heap, slotsUsed := s₂.slotsUsed } : State).setVm s₂.vm), Ls ++ L, c0 + mc, s0 + ms⟩,
      ⟨X.admits, X.cas, X.clock, X.frames, X.room, X.hears, X.method, X.code, (X.here.setHeapUsed s₂.heap s₂.slotsUsed).setVm hW'.alike, X.tail, State.WarmedH.trans X.warmed hW', X.limits, X.bytes, X.same.trans (hsame.setVm s.vm)⟩,
      ⟨g, mk, s₂, L, rfl, rfl, hqc, rfl, hL, rfl, rfl⟩, ?_⟩
    show Steps p.tables e below _ ((({ U with heap := s₂.heap, slotsUsed := s₂.slotsUsed } : State).setVm s₂.vm).setTop { g with pc := g.pc + len₂, stack := v.toList ++ g.stack })
    rw [← hs₂]
    exact hsteps
  · obtain ⟨e2, q2, q3, q4, q5, q6⟩ := id hsm
    have e3 : s₂ = ({ (U.calling g mk a).setFrames s₂.frames with heap := s₂.heap, slotsUsed := s₂.slotsUsed } : State).setVm s₂.vm := by
      have : s₂ = ({ s₂ with vm := (U.calling g mk a).vm } : State).setVm s₂.vm := rfl
      rw [e2] at this
      exact this
    have hf₂ : s₂.frames = .throwing q :: .java g :: U.frames.tail := hend
    have hW' : U.WarmedH s₂.vm := hW₂
    have hs₂ : s₂ = ((({ U with heap := s₂.heap, slotsUsed := s₂.slotsUsed } : State).setVm s₂.vm).setTop g).pushFrame (.throwing q) := by
      refine e3.trans ?_
      rw [hf₂, State.calling_eq h.top, State.setFrames_setFrames, State.pushFrame, State.frames_setTop _ hr', State.setTop_of_frames _ hr', State.setFrames_setFrames, hr]
      rfl
    have hsame : U.sameButNew ({ U with heap := s₂.heap, slotsUsed := s₂.slotsUsed } : State) L mc ms := by
      refine ⟨?_, q2, q3, q4, q5, q6⟩
      obtain ⟨t, ht, -⟩ := State.frames_cons hr
      show ({ U with heap := s₂.heap, slotsUsed := s₂.slotsUsed } : State) = { U.setFrames U.frames with heap := s₂.heap, slotsUsed := s₂.slotsUsed }
      rw [State.setFrames_self ht]
    subst hg
    refine Or.inr ⟨q, ⟨(({ U with heap := s₂.heap, slotsUsed := s₂.slotsUsed } : State).setVm s₂.vm), Ls ++ L, c0 + mc, s0 + ms⟩,
      ⟨X.admits, X.cas, X.clock, X.frames, X.room, X.hears, X.method, X.code, (X.here.setHeapUsed s₂.heap s₂.slotsUsed).setVm hW'.alike, X.tail, State.WarmedH.trans X.warmed hW', X.limits, X.bytes, X.same.trans (hsame.setVm s.vm)⟩,
      ⟨g, mk, s₂, L, E, ce, rfl, rfl, hx, hce, hcv, hcl, rfl, hL, rfl, rfl⟩, ?_⟩
    show Steps p.tables e below _ (((({ U with heap := s₂.heap, slotsUsed := s₂.slotsUsed } : State).setVm s₂.vm).setTop g).pushFrame (.throwing q))
    rw [← hs₂]
    exact hsteps
end
variable {p : Program} {l : Launch} {e : Env} {R : Room} {s : State} {m : MethodId} {args : Array Value} {below : List Frame} {meth : Method} {c : Code} {T : State} {H : Heap} {locs : List Loc} {cells slots : Nat}
theorem vx_callVX (X : Stand p l e R s m args below meth c T locs cells slots) (hexec : p.tables.exec = Jvm.exec) {own C : String} {index : Nat} {y : MethodName} {bytes : ByteArray} {maxL : Nat} {ret : Option FieldType} {hh : List (Nat × Nat × Nat × Nat)}
    (hown : s.vm.findClass own = some m.cls) (hlink : (Cond.methodLink own index y).before args s = true) (hinst : (Cond.instanceMethod y).before args s = true) (hsel : (Cond.selects C y y).before args s = true)
    (hcode : (Cond.codeWith y bytes maxL ret hh).before args s = true) (hy : y.cls ≠ "java/lang/invoke/MethodHandle" ∧ y.cls ≠ "java/lang/invoke/VarHandle")
    {W9 : Nat} {Pre : Pt → Array Value → Prop} {Post : Pt → Array Value → Option Value → Pt → Prop} {PostX : Pt → Array Value → Addr → Pt → Prop} (hK : vx_Back l R p e below s args y 3 W9 Pre Post PostX)
    {b : Addr} {cellB : Cell} (hcell : T.heap[b]? = some cellB) (hobj : cellB.vm.isStatics = false) (hcls : s.vm.findClass C = some cellB.cls)
    {g : JFrame} (hg : g.method = m) (hsize : g.locals.size = c.maxLocals) {argsL rest : List Value} (hlen : ∀ sig, parseMethodDescriptor y.desc = some sig → argsL.length = sig.parameters.length)
    (hstack : g.stack = argsL.reverse ++ .ref b :: rest) (hW : 2 * g.monitorRoom + (rest.map fun v => v.category).sum ≤ W9) (hdg : decode c.code g.pc = .ok (.invokevirtual index, 3))
    (hpre : ∀ vm₁, s.WarmedH vm₁ → Pre ⟨T.setVm vm₁, locs, cells, slots⟩ (Value.ref b :: argsL).toArray) :
    (∃ (v : Option Value) (vm₁ : Vm) (B : Pt), s.WarmedH vm₁ ∧ Stand p l e R s m args below meth c B.U B.locs B.cells B.slots ∧ Post ⟨T.setVm vm₁, locs, cells, slots⟩ (Value.ref b :: argsL).toArray v B ∧
      ∀ target, Steps p.tables e below (B.U.setTop { g with pc := g.pc + 3, stack := v.toList ++ rest }) target → Steps p.tables e below (T.setTop g) target) ∨
    (∃ (q : Addr) (vm₁ : Vm) (B : Pt), s.WarmedH vm₁ ∧ Stand p l e R s m args below meth c B.U B.locs B.cells B.slots ∧ PostX ⟨T.setVm vm₁, locs, cells, slots⟩ (Value.ref b :: argsL).toArray q B ∧
      Steps p.tables e below (T.setTop g) ((B.U.setTop { g with stack := rest }).pushFrame (.throwing q))) := by
  obtain ⟨mk, methM, hnamed, hmethM, hstM, habM⟩ := Cond.instanceMethod_spec hinst
  obtain ⟨m8, methM', cM, hn8, hmethM', -, -, -, -, -, -, hsigM⟩ := Cond.codeWith_spec hcode
  cases Option.some.inj (hn8.symm.trans hnamed)
  cases hmethM.symm.trans hmethM'
  obtain ⟨c2, r2, m2, q1, q2, q3, q4, kP, hkP, hkPi⟩ := Cond.selects_spec hsel
  cases hcls.symm.trans q1
  cases (State.methodFound?_of_named hnamed hy).symm.trans q2
  cases hnamed.symm.trans q3
  have hselP : selectMethod e.platform s.vm cellB.cls mk = .method mk := by rw [Launch.admits_selectMethod X.admits]; exact q4
  obtain ⟨vm₁, X₁, hstep₁⟩ := X.invokevirtual hexec hown hlink hnamed hmethM hstM hkP hkPi hy (a := b) (cell := cellB) hcell
    (fun z h => by rw [h] at hobj; cases hobj) hselP hmethM habM hkP hkPi (g := g) hg (argsL := argsL) (rest := rest) (hlen _ hsigM) hstack hdg
  rcases hK m meth c ⟨T.setVm vm₁, locs, cells, slots⟩ { g with stack := rest } (.invokevirtual index) mk (Value.ref b :: argsL).toArray X₁ hg hsize hdg hW (X₁.named hnamed) (hpre vm₁ X₁.warmed) with ⟨v, B, X', hpost, hsteps⟩ | ⟨q, B, X', hpost, hsteps⟩
  · exact Or.inl ⟨v, vm₁, B, X₁.warmed, X', hpost, fun target h => hstep₁ _ fun acts => by rw [doInvoke_state]; exact hsteps.trans h⟩
  · exact Or.inr ⟨q, vm₁, B, X₁.warmed, X', hpost, hstep₁ _ fun acts => by rw [doInvoke_state]; exact hsteps⟩
theorem vx_callSX (X : Stand p l e R s m args below meth c T locs cells slots) (hexec : p.tables.exec = Jvm.exec) {own : String} {index : Nat} {y : MethodName} {bytes : ByteArray} {maxL : Nat} {ret : Option FieldType} {hh : List (Nat × Nat × Nat × Nat)}
    (hown : s.vm.findClass own = some m.cls) (hlink : (Cond.methodLink own index y).before args s = true) (hstat : (Cond.static y).before args s = true) (hinit : (Cond.initialized y.cls).before args s = true)
    (hcode : (Cond.codeWith y bytes maxL ret hh).before args s = true) (hy : y.cls ≠ "java/lang/invoke/MethodHandle" ∧ y.cls ≠ "java/lang/invoke/VarHandle")
    {W9 : Nat} {Pre : Pt → Array Value → Prop} {Post : Pt → Array Value → Option Value → Pt → Prop} {PostX : Pt → Array Value → Addr → Pt → Prop} (hK : vx_Back l R p e below s args y 3 W9 Pre Post PostX)
    {g : JFrame} (hg : g.method = m) (hsize : g.locals.size = c.maxLocals) {argsL rest : List Value} (hlen : ∀ sig, parseMethodDescriptor y.desc = some sig → argsL.length = sig.parameters.length)
    (hstack : g.stack = argsL.reverse ++ rest) (hW : 2 * g.monitorRoom + (rest.map fun v => v.category).sum ≤ W9) (hdg : decode c.code g.pc = .ok (.invokestatic index, 3))
    (hpre : ∀ vm₁, s.WarmedH vm₁ → Pre ⟨T.setVm vm₁, locs, cells, slots⟩ argsL.toArray) :
    (∃ (v : Option Value) (vm₁ : Vm) (B : Pt), s.WarmedH vm₁ ∧ Stand p l e R s m args below meth c B.U B.locs B.cells B.slots ∧ Post ⟨T.setVm vm₁, locs, cells, slots⟩ argsL.toArray v B ∧
      ∀ target, Steps p.tables e below (B.U.setTop { g with pc := g.pc + 3, stack := v.toList ++ rest }) target → Steps p.tables e below (T.setTop g) target) ∨
    (∃ (q : Addr) (vm₁ : Vm) (B : Pt), s.WarmedH vm₁ ∧ Stand p l e R s m args below meth c B.U B.locs B.cells B.slots ∧ PostX ⟨T.setVm vm₁, locs, cells, slots⟩ argsL.toArray q B ∧
      Steps p.tables e below (T.setTop g) ((B.U.setTop { g with stack := rest }).pushFrame (.throwing q))) := by
  obtain ⟨mk, methM, cM, hnamed, hmethM, -, -, -, -, -, -, hsigM⟩ := Cond.codeWith_spec hcode
  have hstatic : methM.isStatic = true := Cond.static_spec hnamed hmethM hstat
  obtain ⟨kP, hkP, -⟩ := className_of_methodNamed hnamed
  have hinitP : kP.init = .initialized := Cond.initialized_spec (findClass_of_methodNamed hnamed) hkP hinit
  obtain ⟨vm₁, X₁, hstep₁⟩ := X.invokestatic hexec hown hlink hnamed hmethM hstatic hkP hinitP hy (g := g) hg (argsL := argsL) (rest := rest) (hlen _ hsigM) hstack hdg
  rcases hK m meth c ⟨T.setVm vm₁, locs, cells, slots⟩ { g with stack := rest } (.invokestatic index) mk argsL.toArray X₁ hg hsize hdg hW (X₁.named hnamed) (hpre vm₁ X₁.warmed) with ⟨v, B, X', hpost, hsteps⟩ | ⟨q, B, X', hpost, hsteps⟩
  · exact Or.inl ⟨v, vm₁, B, X₁.warmed, X', hpost, fun target h => hstep₁ _ fun acts => by rw [doInvoke_state]; exact hsteps.trans h⟩
  · exact Or.inr ⟨q, vm₁, B, X₁.warmed, X', hpost, hstep₁ _ fun acts => by rw [doInvoke_state]; exact hsteps⟩
theorem vx_callVW (X : Stand p l e R s m args below meth c T locs cells slots) (hexec : p.tables.exec = Jvm.exec) {own C : String} {index : Nat} {y : MethodName} {bytes : ByteArray} {maxL : Nat} {ret : Option FieldType} {hh : List (Nat × Nat × Nat × Nat)}
    (hown : s.vm.findClass own = some m.cls) (hlink : (Cond.methodLink own index y).before args s = true) (hinst : (Cond.instanceMethod y).before args s = true) (hsel : (Cond.selects C y y).before args s = true)
    (hcode : (Cond.codeWith y bytes maxL ret hh).before args s = true) (hy : y.cls ≠ "java/lang/invoke/MethodHandle" ∧ y.cls ≠ "java/lang/invoke/VarHandle")
    {W9 : Nat} {Pre : Pt → Array Value → Prop} {Post : Pt → Array Value → Option Value → Pt → Prop} (hK : Back l R p e below s args y 3 W9 Pre Post)
    {b : Addr} {cellB : Cell} (hcell : T.heap[b]? = some cellB) (hobj : cellB.vm.isStatics = false) (hcls : s.vm.findClass C = some cellB.cls)
    {g : JFrame} (hg : g.method = m) (hsize : g.locals.size = c.maxLocals) {argsL rest : List Value} (hlen : ∀ sig, parseMethodDescriptor y.desc = some sig → argsL.length = sig.parameters.length)
    (hstack : g.stack = argsL.reverse ++ .ref b :: rest) (hW : 2 * g.monitorRoom + (rest.map fun v => v.category).sum ≤ W9) (hdg : decode c.code g.pc = .ok (.invokevirtual index, 3))
    (hpre : ∀ vm₁, s.WarmedH vm₁ → Pre ⟨T.setVm vm₁, locs, cells, slots⟩ (Value.ref b :: argsL).toArray) :
    ∃ (v : Option Value) (vm₁ : Vm) (B : Pt), s.WarmedH vm₁ ∧ Stand p l e R s m args below meth c B.U B.locs B.cells B.slots ∧ Post ⟨T.setVm vm₁, locs, cells, slots⟩ (Value.ref b :: argsL).toArray v B ∧
      ∀ target, Steps p.tables e below (B.U.setTop { g with pc := g.pc + 3, stack := v.toList ++ rest }) target → Steps p.tables e below (T.setTop g) target := by
  obtain ⟨mk, methM, hnamed, hmethM, hstM, habM⟩ := Cond.instanceMethod_spec hinst
  obtain ⟨m8, methM', cM, hn8, hmethM', -, -, -, -, -, -, hsigM⟩ := Cond.codeWith_spec hcode
  cases Option.some.inj (hn8.symm.trans hnamed)
  cases hmethM.symm.trans hmethM'
  obtain ⟨c2, r2, m2, q1, q2, q3, q4, kP, hkP, hkPi⟩ := Cond.selects_spec hsel
  cases hcls.symm.trans q1
  cases (State.methodFound?_of_named hnamed hy).symm.trans q2
  cases hnamed.symm.trans q3
  have hselP : selectMethod e.platform s.vm cellB.cls mk = .method mk := by rw [Launch.admits_selectMethod X.admits]; exact q4
  obtain ⟨vm₁, X₁, hstep₁⟩ := X.invokevirtual hexec hown hlink hnamed hmethM hstM hkP hkPi hy (a := b) (cell := cellB) hcell
    (fun z h => by rw [h] at hobj; cases hobj) hselP hmethM habM hkP hkPi (g := g) hg (argsL := argsL) (rest := rest) (hlen _ hsigM) hstack hdg
  obtain ⟨v, B, X', hpost, hsteps⟩ := hK m meth c ⟨T.setVm vm₁, locs, cells, slots⟩ { g with stack := rest } (.invokevirtual index) mk (Value.ref b :: argsL).toArray X₁ hg hsize hdg hW (X₁.named hnamed) (hpre vm₁ X₁.warmed)
  exact ⟨v, vm₁, B, X₁.warmed, X', hpost, fun target h => hstep₁ _ fun acts => by rw [doInvoke_state]; exact hsteps.trans h⟩
abbrev vx_CVW (R : Room) (s : State) (args : Array Value) (own C : String) (index : Nat) (y : MethodName) (bytes : ByteArray) (maxL : Nat) (ret : Option FieldType) (hh : List (Nat × Nat × Nat × Nat)) (ws : List Cond) (rm : Room) (mc ms n : Nat) : Prop :=
  (rm.cells = mc ∧ rm.slots = ms ∧ rm.frames + 1 ≤ R.frames ∧ 8 + (maxL + 11) + rm.locals ≤ R.locals ∧ (∀ w ∈ ws, ∀ (a' : Array Value) (U : State), s.WarmedH U.vm → w.before a' U = true) ∧ Cond.codeWith y bytes maxL ret hh ∈ ws) ∧
  (Cond.codeWith y bytes maxL ret hh).before args s = true ∧ (Cond.initialized y.cls).before args s = true ∧ (y.cls ≠ "java/lang/invoke/MethodHandle" ∧ y.cls ≠ "java/lang/invoke/VarHandle") ∧
  (∀ sig, parseMethodDescriptor y.desc = some sig → n = sig.parameters.length) ∧ (Cond.methodLink own index y).before args s = true ∧ (Cond.instanceMethod y).before args s = true ∧ (Cond.selects C y y).before args s = true
theorem vx_cwVW {own C : String} {index maxL mc ms : Nat} {y : MethodName} {bytes : ByteArray} {ret : Option FieldType} {hh : List (Nat × Nat × Nat × Nat)} {Ts ws ws' : List Cond} {rm : Room} (n : Nat) (ht : ∀ w ∈ Ts, w.before args s = true) (hT : GoodIn Ts (wsV own index C y ws)) (hw : ws = Cond.codeWith y bytes maxL ret hh :: ws') (hrc : rm.cells = mc) (hrs : rm.slots = ms)
    (hd : y.cls = C ∧ y.cls ≠ "java/lang/invoke/MethodHandle" ∧ y.cls ≠ "java/lang/invoke/VarHandle" ∧ (parseMethodDescriptor y.desc).map (fun d => d.parameters.length) = some n) (hR : rm.frames + 1 ≤ R.frames ∧ 8 + (maxL + 11) + rm.locals ≤ R.locals) :
    vx_CVW R s args own C index y bytes maxL ret hh ws rm mc ms n := by
  obtain ⟨hC, hd⟩ := hd
  subst hC
  have ok : ∀ w ∈ wsV own index y.cls y ws, w.before args s = true := fun w h => ht w (hT w h).1
  have hG : GoodIn Ts ws := fun w h => hT w (by unfold wsV; exact List.mem_append_right _ h)
  have hc : Cond.codeWith y bytes maxL ret hh ∈ ws := by rw [hw]; exact List.mem_cons_self
  refine ⟨⟨hrc, hrs, hR.1, hR.2, pay_in ht hG, hc⟩, ht _ (hG _ hc).1, ok _ (by simp [wsV]), ⟨hd.1, hd.2.1⟩, fun sig h => ?_, ok _ (by simp [wsV]), ok _ (by simp [wsV]), ok _ (by simp [wsV])⟩
  have h2 := hd.2.2
  rw [h] at h2
  exact (Option.some.inj h2).symm
theorem vx_runVW {y : MethodName} {bytes cc : ByteArray} {maxL nL mc ms n index : Nat} {ret : Option FieldType} {hh : List (Nat × Nat × Nat × Nat)} {ws : List Cond} {rm : Room} {Pc : Array Value → State → Prop} {Qc : Array Value → State → Outcome → State → Prop} {free : Addr → Prop} {Ts : List Cond} {own C : String} {b : Addr} {As rest : List Value} {g : JFrame}
    (S : CallFix p m c cc nL s args Ts own) (hM : Met l y ws rm Pc Qc mc ms free) (cw : vx_CVW R s args own C index y bytes maxL ret hh ws rm mc ms n) (hp : PreV s H C b Pc As)
    (hg : g.method = m) (hn : As.length = n) (hsize : g.locals.size = nL) (hstack : g.stack = As.reverse ++ .ref b :: rest) (hW : 2 * g.monitorRoom + (rest.map fun v => v.category).sum ≤ 8) (hdg : decode cc g.pc = .ok (.invokevirtual index, 3)) (hf : cells + mc ≤ R.cells ∧ slots + ms ≤ R.slots) :
    va_Run p l e R s m args below meth c H locs cells slots mc ms g rest (Qc (Value.ref b :: As).toArray) free := by
  obtain ⟨⟨hrc, hrs, hfr, hlo, hws, hcw⟩, hcode, hini, hy, hlen, hl, hin, hse⟩ := cw
  have hK : Back l R p e below s args y 3 8 (PreOf R mc ms Pc) (PostOf Qc mc ms free) := va_backW (hh := hh) (bytes := bytes) (maxL := maxL) (ret := ret) hM hp.1 hrc hrs hfr hlo hws hcw (fun a' U hW => word_at hW (Or.inl (by first | rfl | simp [Cond.onTables, Cond.keeps, Cond.steady])) hini)
  obtain ⟨hx, hb, hml, ho, -⟩ := S
  obtain ⟨-, ⟨cellB, hcB, hoB, hclB⟩, hPc⟩ := hp
  intro T hT X
  obtain ⟨v, vm₁, ⟨U', l2, c2, s2⟩, hW₁, X', ⟨g', mk, t, L, e1, e2, hq, h1, hL, h2, h3⟩, st⟩ := vx_callVW X hx (C := C) (hh := hh) (bytes := bytes) (maxL := maxL) (ret := ret) ho hl hin hse hcode hy hK (by rw [hT]; exact hcB) hoB hclB hg (hsize.trans hml.symm) (argsL := As) (rest := rest) (fun sig h => hn.trans (hlen sig h)) hstack hW (by rw [hb]; exact hdg)
    (fun vm₁ hW₁ => ⟨hf.1, hf.2, hPc (T.setVm vm₁) hT hW₁⟩)
  dsimp only [Pt.U, Pt.locs, Pt.cells, Pt.slots] at X' e1 e2 h1 h2 h3 st
  subst h1; subst h2; subst h3
  exact ⟨v, (T.setVm vm₁).calling g' mk (Value.ref b :: As).toArray, t, U', L, hT, X', hL, e1, e2, hq, st⟩
section
variable {y : MethodName} {bytes cc : ByteArray} {maxL nL mc ms n index : Nat} {ret : Option FieldType} {ws : List Cond} {rm : Room} {Pc : Array Value → State → Prop} {Qc : Array Value → State → Outcome → State → Prop} {XC : String → State → State → Prop} {free : Addr → Prop} {Ts : List Cond} {own C : String} {b : Addr} {As rest : List Value} {g : JFrame}
theorem vx_runVX {hh : List (Nat × Nat × Nat × Nat)} (S : CallFix p m c cc nL s args Ts own) (hM : vx_Met l y ws rm Pc Qc XC mc ms free) (cw : vx_CVW R s args own C index y bytes maxL ret hh ws rm mc ms n) (hp : PreV s H C b Pc As)
    (hg : g.method = m) (hn : As.length = n) (hsize : g.locals.size = nL) (hstack : g.stack = As.reverse ++ .ref b :: rest) (hW : 2 * g.monitorRoom + (rest.map fun v => v.category).sum ≤ 8) (hdg : decode cc g.pc = .ok (.invokevirtual index, 3)) (hf : cells + mc ≤ R.cells ∧ slots + ms ≤ R.slots) :
    vx_Run p l e R s m args below meth c H locs cells slots mc ms g rest (Qc (Value.ref b :: As).toArray) XC free := by
  obtain ⟨⟨hrc, hrs, hfr, hlo, hws, hcw⟩, hcode, hini, hy, hlen, hl, hin, hse⟩ := cw
  have hK : vx_Back l R p e below s args y 3 8 (PreOf R mc ms Pc) (PostOf Qc mc ms free) (vx_Post XC mc ms free) := vx_backW (hh := hh) (bytes := bytes) (maxL := maxL) (ret := ret) hM hp.1 hrc hrs hfr hlo hws hcw (fun a' U hW => word_at hW (Or.inl (by first | rfl | simp [Cond.onTables, Cond.keeps, Cond.steady])) hini)
  obtain ⟨hx, hb, hml, ho, -⟩ := S
  obtain ⟨-, ⟨cellB, hcB, hoB, hclB⟩, hPc⟩ := hp
  intro T hT X
  rcases vx_callVX X hx (C := C) (hh := hh) (bytes := bytes) (maxL := maxL) (ret := ret) ho hl hin hse hcode hy hK (by rw [hT]; exact hcB) hoB hclB hg (hsize.trans hml.symm) (argsL := As) (rest := rest) (fun sig h => hn.trans (hlen sig h)) hstack hW (by rw [hb]; exact hdg)
    (fun vm₁ hW₁ => ⟨hf.1, hf.2, hPc (T.setVm vm₁) hT hW₁⟩) with ⟨v, vm₁, ⟨U', l2, c2, s2⟩, hW₁, X', ⟨g', mk, t, L, e1, e2, hq, h1, hL, h2, h3⟩, st⟩ | ⟨q, vm₁, ⟨U', l2, c2, s2⟩, hW₁, X', ⟨g', mk, t, L, E, ce, e1, e2, hq, hce, hcv, hcl, h1, hL, h2, h3⟩, st⟩
  · dsimp only [Pt.U, Pt.locs, Pt.cells, Pt.slots] at X' e1 e2 h1 h2 h3 st
    subst h1; subst h2; subst h3
    exact Or.inl ⟨v, (T.setVm vm₁).calling g' mk (Value.ref b :: As).toArray, t, U', L, hT, X', hL, e1, e2, hq, st⟩
  · dsimp only [Pt.U, Pt.locs, Pt.cells, Pt.slots] at X' e1 e2 h1 h2 h3 st hcl
    subst h1; subst h2; subst h3
    exact Or.inr ⟨q, (T.setVm vm₁).calling g' mk (Value.ref b :: As).toArray, t, U', L, E, ce, hT, X', hL, e1, e2, hq, hce, hcv, vx_cls hW₁ hcl, st⟩
theorem vx_runSX {hh : List (Nat × Nat × Nat × Nat)} (S : CallFix p m c cc nL s args Ts own) (hM : vx_Met l y ws rm Pc Qc XC mc ms free) (cw : vx_CSW R s args own index y bytes maxL ret hh ws rm mc ms n) (hp : PreS s H Pc As)
    (hg : g.method = m) (hn : As.length = n) (hsize : g.locals.size = nL) (hstack : g.stack = As.reverse ++ rest) (hW : 2 * g.monitorRoom + (rest.map fun v => v.category).sum ≤ 8) (hdg : decode cc g.pc = .ok (.invokestatic index, 3)) (hf : cells + mc ≤ R.cells ∧ slots + ms ≤ R.slots) :
    vx_Run p l e R s m args below meth c H locs cells slots mc ms g rest (Qc As.toArray) XC free := by
  obtain ⟨⟨hrc, hrs, hfr, hlo, hws, hcw⟩, hcode, hini, hy, hlen, hl, hstt⟩ := cw
  have hK : vx_Back l R p e below s args y 3 8 (PreOf R mc ms Pc) (PostOf Qc mc ms free) (vx_Post XC mc ms free) := vx_backW (hh := hh) (bytes := bytes) (maxL := maxL) (ret := ret) hM hp.1 hrc hrs hfr hlo hws hcw (fun a' U hW => word_at hW (Or.inl (by first | rfl | simp [Cond.onTables, Cond.keeps, Cond.steady])) hini)
  obtain ⟨hx, hb, hml, ho, -⟩ := S
  intro T hT X
  rcases vx_callSX X hx (hh := hh) (bytes := bytes) (maxL := maxL) (ret := ret) ho hl hstt hini hcode hy hK hg (hsize.trans hml.symm) (argsL := As) (rest := rest) (fun sig h => hn.trans (hlen sig h)) hstack hW (by rw [hb]; exact hdg)
    (fun vm₁ hW₁ => ⟨hf.1, hf.2, hp.2 (T.setVm vm₁) hT hW₁⟩) with ⟨v, vm₁, ⟨U', l2, c2, s2⟩, hW₁, X', ⟨g', mk, t, L, e1, e2, hq, h1, hL, h2, h3⟩, st⟩ | ⟨q, vm₁, ⟨U', l2, c2, s2⟩, hW₁, X', ⟨g', mk, t, L, E, ce, e1, e2, hq, hce, hcv, hcl, h1, hL, h2, h3⟩, st⟩
  · dsimp only [Pt.U, Pt.locs, Pt.cells, Pt.slots] at X' e1 e2 h1 h2 h3 st
    subst h1; subst h2; subst h3
    exact Or.inl ⟨v, (T.setVm vm₁).calling g' mk As.toArray, t, U', L, hT, X', hL, e1, e2, hq, st⟩
  · dsimp only [Pt.U, Pt.locs, Pt.cells, Pt.slots] at X' e1 e2 h1 h2 h3 st hcl
    subst h1; subst h2; subst h3
    exact Or.inr ⟨q, (T.setVm vm₁).calling g' mk As.toArray, t, U', L, E, ce, hT, X', hL, e1, e2, hq, hce, hcv, vx_cls hW₁ hcl, st⟩
end
end VXH
theorem vx_ofWH {l : Launch} {y : MethodName} {ws ws' : List Cond} {rm : Room} {Pc : Array Value → State → Prop} {Qc : Array Value → State → Outcome → State → Prop} {XC : String → State → State → Prop} {mc ms : Nat} {free : Addr → Prop} {cc : ByteArray} {maxL : Nat} {ret : Option FieldType} {hh : List (Nat × Nat × Nat × Nat)}
    (hy : plainName y.cls = true) (hw : ws = Cond.codeWith y cc maxL ret hh :: ws')
    (body : ∀ p e s m args below meth c s₁, BodyLoose p l y (headSpec ws rm) cc maxL ret e s m args below meth c s₁ → c.maxLocals = maxL → Pc args s →
      W p l e (headSpec ws rm).room s m args below meth c s.heap [] 0 0 (vx_MQ below Qc XC args s mc ms free) (entryFrame m args maxL)) : vx_Met l y ws rm Pc Qc XC mc ms free := by
  refine MetFree.of_bodyS (code := cc) (maxLocals := maxL) (ret := ret) hy ?_ ?_
  · intro args s m h hn
    obtain ⟨m9, meth, c, hn9, h1, h2, h3, h4, -, h5, h6, -⟩ := Cond.codeWith_spec (atoms_spec (ws := ws) h _ (by rw [hw]; exact List.mem_cons_self))
    cases hn.symm.trans hn9
    exact ⟨meth, c, h1, h2, h3, h4, h5, h6⟩
  · intro p e s m args below meth c s₁ B hml hP _
    have hh0 : s₁.heap = s.heap := by rw [B.state]; rfl
    obtain ⟨t, a1, o, b1, b2, b3⟩ := body p e s m args below meth c s₁ B hml hP s₁ hh0 (Stand.of_body B)
    exact ⟨t, o, a1, b1, b2, b3⟩
/-! ===== END ===== -/

def RX0 : String := "EbbTable$Axis"
def TX0 : u_T := fun k => match k with
  | 0 => ("EbbTable$Axis", "list", "LEbbTable$MemberList;", true)
  | 1 => ("EbbTable$Axis", "used", "[Z", true)
  | 2 => ("EbbTable$Axis", "shown", "[I", true)
  | 3 => ("EbbTable$Axis", "shownCount", "I", false)
  | 4 => ("EbbTable$Axis", "dimension", "I", false)
  | _ => ("EbbTable$Axis", "level", "I", false)
def tyX0 : Nat → FieldType := fun k => match k with
  | 0 => .object "EbbTable$MemberList"
  | 1 => .array .boolean
  | 2 => .array .int
  | 3 => .int
  | 4 => .int
  | _ => .int
abbrev wsX00 : List Cond := u_ws RX0 TX0 6
theorem nmX0 : ∀ a, a < 6 → ∀ b, b < 6 → a ≠ b → (TX0 a).2.1 ≠ (TX0 b).2.1 := by decide +kernel
theorem tyX0_ok : ∀ k, k < 6 → parseFieldDescriptor (TX0 k).2.2.1 = some (tyX0 k) := by decide +kernel
abbrev cX0_init : ByteArray := prog_2_method_1_code
def yX0_init : MethodName := ⟨RX0, "<init>", "()V"⟩
abbrev cX0_forgetUse : ByteArray := prog_2_method_2_code
def yX0_forgetUse : MethodName := ⟨RX0, "forgetUse", "()V"⟩
abbrev cX0_showLines : ByteArray := prog_2_method_3_code
def yX0_showLines : MethodName := ⟨RX0, "showLines", "(Z)V"⟩
abbrev cX0_hasLine : ByteArray := prog_2_method_4_code
def yX0_hasLine : MethodName := ⟨RX0, "hasLine", "(I)Z"⟩
abbrev cX0_memberOfLine : ByteArray := prog_2_method_5_code
def yX0_memberOfLine : MethodName := ⟨RX0, "memberOfLine", "(I)I"⟩
def RX1 : String := "EbbTable$FactList"
def TX1 : u_T := fun k => match k with
  | 0 => ("EbbTable$FactList", "leaves", "[[I", true)
  | 1 => ("EbbTable$FactList", "values", "[I", true)
  | 2 => ("EbbTable$FactList", "cells", "[I", true)
  | _ => ("EbbTable$FactList", "size", "I", false)
def tyX1 : Nat → FieldType := fun k => match k with
  | 0 => .array (.array .int)
  | 1 => .array .int
  | 2 => .array .int
  | _ => .int
abbrev wsX10 : List Cond := u_ws RX1 TX1 4
theorem nmX1 : ∀ a, a < 4 → ∀ b, b < 4 → a ≠ b → (TX1 a).2.1 ≠ (TX1 b).2.1 := by decide +kernel
theorem tyX1_ok : ∀ k, k < 4 → parseFieldDescriptor (TX1 k).2.2.1 = some (tyX1 k) := by decide +kernel
abbrev cX1_init : ByteArray := prog_3_method_1_code
def yX1_init : MethodName := ⟨RX1, "<init>", "()V"⟩
abbrev cX1_has : ByteArray := prog_3_method_2_code
def yX1_has : MethodName := ⟨RX1, "has", "(I)Z"⟩
abbrev cX1_closeGapAt : ByteArray := prog_3_method_3_code
def yX1_closeGapAt : MethodName := ⟨RX1, "closeGapAt", "(I)V"⟩
abbrev cX1_isFirstOfItsCell : ByteArray := prog_3_method_4_code
def yX1_isFirstOfItsCell : MethodName := ⟨RX1, "isFirstOfItsCell", "(I)Z"⟩
def RX2 : String := "EbbTable$Lineup"
def TX2 : u_T := fun k => match k with
  | 0 => ("EbbTable$Lineup", "list", "LEbbTable$MemberList;", true)
  | _ => ("EbbTable$Lineup", "sums", "[I", true)
def tyX2 : Nat → FieldType := fun k => match k with
  | 0 => .object "EbbTable$MemberList"
  | _ => .array .int
abbrev wsX20 : List Cond := u_ws RX2 TX2 2
theorem nmX2 : ∀ a, a < 2 → ∀ b, b < 2 → a ≠ b → (TX2 a).2.1 ≠ (TX2 b).2.1 := by decide +kernel
theorem tyX2_ok : ∀ k, k < 2 → parseFieldDescriptor (TX2 k).2.2.1 = some (tyX2 k) := by decide +kernel
abbrev cX2_init : ByteArray := prog_4_method_1_code
def yX2_init : MethodName := ⟨RX2, "<init>", "()V"⟩
abbrev cX2_clearSums : ByteArray := prog_4_method_2_code
def yX2_clearSums : MethodName := ⟨RX2, "clearSums", "()V"⟩
abbrev cX2_childOfRank : ByteArray := prog_4_method_3_code
def yX2_childOfRank : MethodName := ⟨RX2, "childOfRank", "(I)I"⟩
abbrev cX2_sumOfRank : ByteArray := prog_4_method_4_code
def yX2_sumOfRank : MethodName := ⟨RX2, "sumOfRank", "(I)I"⟩
abbrev cX2_childrenAheadOf : ByteArray := prog_4_method_5_code
def yX2_childrenAheadOf : MethodName := ⟨RX2, "childrenAheadOf", "(I)I"⟩
def RX3 : String := "EbbTable$MemberList"
def TX3 : u_T := fun k => match k with
  | 0 => ("EbbTable$MemberList", "members", "[I", true)
  | _ => ("EbbTable$MemberList", "size", "I", false)
def tyX3 : Nat → FieldType := fun k => match k with
  | 0 => .array .int
  | _ => .int
abbrev wsX30 : List Cond := u_ws RX3 TX3 2
theorem nmX3 : ∀ a, a < 2 → ∀ b, b < 2 → a ≠ b → (TX3 a).2.1 ≠ (TX3 b).2.1 := by decide +kernel
theorem tyX3_ok : ∀ k, k < 2 → parseFieldDescriptor (TX3 k).2.2.1 = some (tyX3 k) := by decide +kernel
abbrev cX3_init : ByteArray := prog_5_method_1_code
def yX3_init : MethodName := ⟨RX3, "<init>", "()V"⟩
abbrev cX3_append : ByteArray := prog_5_method_2_code
def yX3_append : MethodName := ⟨RX3, "append", "(I)V"⟩
abbrev cX3_hasPlace : ByteArray := prog_5_method_3_code
def yX3_hasPlace : MethodName := ⟨RX3, "hasPlace", "(I)Z"⟩
abbrev cX3_placeOf : ByteArray := prog_5_method_4_code
def yX3_placeOf : MethodName := ⟨RX3, "placeOf", "(I)I"⟩
def RX4 : String := "EbbTable$Tree"
def TX4 : u_T := fun k => match k with
  | 0 => ("EbbTable$Tree", "parents", "[I", true)
  | 1 => ("EbbTable$Tree", "depths", "[I", true)
  | 2 => ("EbbTable$Tree", "outs", "[Z", true)
  | 3 => ("EbbTable$Tree", "leafDepth", "I", false)
  | 4 => ("EbbTable$Tree", "size", "I", false)
  | _ => ("EbbTable$Tree", "point", "I", false)
def tyX4 : Nat → FieldType := fun k => match k with
  | 0 => .array .int
  | 1 => .array .int
  | 2 => .array .boolean
  | 3 => .int
  | 4 => .int
  | _ => .int
abbrev wsX40 : List Cond := u_ws RX4 TX4 6
theorem nmX4 : ∀ a, a < 6 → ∀ b, b < 6 → a ≠ b → (TX4 a).2.1 ≠ (TX4 b).2.1 := by decide +kernel
theorem tyX4_ok : ∀ k, k < 6 → parseFieldDescriptor (TX4 k).2.2.1 = some (tyX4 k) := by decide +kernel
abbrev cX4_init : ByteArray := prog_6_method_1_code
def yX4_init : MethodName := ⟨RX4, "<init>", "()V"⟩
abbrev cX4_plant : ByteArray := prog_6_method_2_code
def yX4_plant : MethodName := ⟨RX4, "plant", "(I)V"⟩
abbrev cX4_has : ByteArray := prog_6_method_3_code
def yX4_has : MethodName := ⟨RX4, "has", "(I)Z"⟩
abbrev cX4_isFull : ByteArray := prog_6_method_4_code
def yX4_isFull : MethodName := ⟨RX4, "isFull", "()Z"⟩
abbrev cX4_isLeaf : ByteArray := prog_6_method_5_code
def yX4_isLeaf : MethodName := ⟨RX4, "isLeaf", "(I)Z"⟩
abbrev cX4_grow : ByteArray := prog_6_method_6_code
def yX4_grow : MethodName := ⟨RX4, "grow", "(I)I"⟩
abbrev cX4_leaveNothingOut : ByteArray := prog_6_method_7_code
def yX4_leaveNothingOut : MethodName := ⟨RX4, "leaveNothingOut", "()V"⟩
abbrev cX4_depthOfChildren : ByteArray := prog_6_method_8_code
def yX4_depthOfChildren : MethodName := ⟨RX4, "depthOfChildren", "()I"⟩
abbrev cX4_isSeen : ByteArray := prog_6_method_9_code
def yX4_isSeen : MethodName := ⟨RX4, "isSeen", "(I)Z"⟩
abbrev cX4_aboveOn : ByteArray := prog_6_method_10_code
def yX4_aboveOn : MethodName := ⟨RX4, "aboveOn", "(II)I"⟩
abbrev cX4_listBeneath : ByteArray := prog_6_method_11_code
def yX4_listBeneath : MethodName := ⟨RX4, "listBeneath", "(IILEbbTable$MemberList;)V"⟩
abbrev cX4_nextInWalk : ByteArray := prog_6_method_12_code
def yX4_nextInWalk : MethodName := ⟨RX4, "nextInWalk", "(II)I"⟩
abbrev cX4_childFrom : ByteArray := prog_6_method_13_code
def yX4_childFrom : MethodName := ⟨RX4, "childFrom", "(II)I"⟩
def RX5 : String := "EbbTable$ViewList"
def TX5 : u_T := fun k => match k with
  | 0 => ("EbbTable$ViewList", "levels", "[I", true)
  | 1 => ("EbbTable$ViewList", "lines", "[I", true)
  | 2 => ("EbbTable$ViewList", "stale", "[Z", true)
  | _ => ("EbbTable$ViewList", "size", "I", false)
def tyX5 : Nat → FieldType := fun k => match k with
  | 0 => .array .int
  | 1 => .array .int
  | 2 => .array .boolean
  | _ => .int
abbrev wsX50 : List Cond := u_ws RX5 TX5 4
theorem nmX5 : ∀ a, a < 4 → ∀ b, b < 4 → a ≠ b → (TX5 a).2.1 ≠ (TX5 b).2.1 := by decide +kernel
theorem tyX5_ok : ∀ k, k < 4 → parseFieldDescriptor (TX5 k).2.2.1 = some (tyX5 k) := by decide +kernel
abbrev cX5_init : ByteArray := prog_7_method_1_code
def yX5_init : MethodName := ⟨RX5, "<init>", "()V"⟩
abbrev cX5_has : ByteArray := prog_7_method_2_code
def yX5_has : MethodName := ⟨RX5, "has", "(I)Z"⟩
abbrev cX5_fill : ByteArray := prog_7_method_3_code
def yX5_fill : MethodName := ⟨RX5, "fill", "(II)V"⟩
abbrev cX5_makeAllStale : ByteArray := prog_7_method_4_code
def yX5_makeAllStale : MethodName := ⟨RX5, "makeAllStale", "()V"⟩
abbrev cX5_closeGapAt : ByteArray := prog_7_method_5_code
def yX5_closeGapAt : MethodName := ⟨RX5, "closeGapAt", "(I)V"⟩
def RX6 : String := "EbbTable"
def TX6 : u_T := fun k => match k with
  | 0 => ("EbbTable", "trees", "[LEbbTable$Tree;", true)
  | 1 => ("EbbTable", "factList", "LEbbTable$FactList;", true)
  | 2 => ("EbbTable", "viewList", "LEbbTable$ViewList;", true)
  | 3 => ("EbbTable", "rowAxis", "LEbbTable$Axis;", true)
  | 4 => ("EbbTable", "columnAxis", "LEbbTable$Axis;", true)
  | 5 => ("EbbTable", "treeCount", "I", false)
  | 6 => ("EbbTable", "chosenLevels", "I", false)
  | 7 => ("EbbTable", "hasAxes", "Z", false)
  | 8 => ("EbbTable", "bareIsOut", "Z", false)
  | 9 => ("EbbTable", "levelList", "LEbbTable$MemberList;", true)
  | 10 => ("EbbTable", "lineup", "LEbbTable$Lineup;", true)
  | _ => ("EbbTable", "cellSums", "[[I", true)
def tyX6 : Nat → FieldType := fun k => match k with
  | 0 => .array (.object "EbbTable$Tree")
  | 1 => .object "EbbTable$FactList"
  | 2 => .object "EbbTable$ViewList"
  | 3 => .object "EbbTable$Axis"
  | 4 => .object "EbbTable$Axis"
  | 5 => .int
  | 6 => .int
  | 7 => .boolean
  | 8 => .boolean
  | 9 => .object "EbbTable$MemberList"
  | 10 => .object "EbbTable$Lineup"
  | _ => .array (.array .int)
abbrev wsX60 : List Cond := u_ws RX6 TX6 12
theorem nmX6 : ∀ a, a < 12 → ∀ b, b < 12 → a ≠ b → (TX6 a).2.1 ≠ (TX6 b).2.1 := by decide +kernel
theorem tyX6_ok : ∀ k, k < 12 → parseFieldDescriptor (TX6 k).2.2.1 = some (tyX6 k) := by decide +kernel
abbrev cX6_init : ByteArray := prog_1_method_1_code
def yX6_init : MethodName := ⟨RX6, "<init>", "()V"⟩
abbrev cX6_addDimension : ByteArray := prog_1_method_2_code
def yX6_addDimension : MethodName := ⟨RX6, "addDimension", "(I)I"⟩
abbrev cX6_addMember : ByteArray := prog_1_method_3_code
def yX6_addMember : MethodName := ⟨RX6, "addMember", "(II)I"⟩
abbrev cX6_move : ByteArray := prog_1_method_4_code
def yX6_move : MethodName := ⟨RX6, "move", "(III)I"⟩
abbrev cX6_dimensions : ByteArray := prog_1_method_5_code
def yX6_dimensions : MethodName := ⟨RX6, "dimensions", "()I"⟩
abbrev cX6_members : ByteArray := prog_1_method_6_code
def yX6_members : MethodName := ⟨RX6, "members", "(I)I"⟩
abbrev cX6_parentOf : ByteArray := prog_1_method_7_code
def yX6_parentOf : MethodName := ⟨RX6, "parentOf", "(II)I"⟩
abbrev cX6_levelOf : ByteArray := prog_1_method_8_code
def yX6_levelOf : MethodName := ⟨RX6, "levelOf", "(II)I"⟩
abbrev cX6_memberAt : ByteArray := prog_1_method_9_code
def yX6_memberAt : MethodName := ⟨RX6, "memberAt", "(III)I"⟩
abbrev cX6_leaveOut : ByteArray := prog_1_method_10_code
def yX6_leaveOut : MethodName := ⟨RX6, "leaveOut", "(IIZ)Z"⟩
abbrev cX6_goTo : ByteArray := prog_1_method_11_code
def yX6_goTo : MethodName := ⟨RX6, "goTo", "(II)I"⟩
abbrev cX6_goUp : ByteArray := prog_1_method_12_code
def yX6_goUp : MethodName := ⟨RX6, "goUp", "(I)I"⟩
abbrev cX6_pointOf : ByteArray := prog_1_method_13_code
def yX6_pointOf : MethodName := ⟨RX6, "pointOf", "(I)I"⟩
abbrev cX6_add : ByteArray := prog_1_method_14_code
def yX6_add : MethodName := ⟨RX6, "add", "(I)I"⟩
abbrev cX6_drop : ByteArray := prog_1_method_15_code
def yX6_drop : MethodName := ⟨RX6, "drop", "(I)I"⟩
abbrev cX6_facts : ByteArray := prog_1_method_16_code
def yX6_facts : MethodName := ⟨RX6, "facts", "()I"⟩
abbrev cX6_count : ByteArray := prog_1_method_17_code
def yX6_count : MethodName := ⟨RX6, "count", "()I"⟩
abbrev cX6_sum : ByteArray := prog_1_method_18_code
def yX6_sum : MethodName := ⟨RX6, "sum", "()I"⟩
abbrev cX6_least : ByteArray := prog_1_method_19_code
def yX6_least : MethodName := ⟨RX6, "least", "()I"⟩
abbrev cX6_greatest : ByteArray := prog_1_method_20_code
def yX6_greatest : MethodName := ⟨RX6, "greatest", "()I"⟩
abbrev cX6_mean : ByteArray := prog_1_method_21_code
def yX6_mean : MethodName := ⟨RX6, "mean", "()D"⟩
abbrev cX6_children : ByteArray := prog_1_method_22_code
def yX6_children : MethodName := ⟨RX6, "children", "(I)I"⟩
abbrev cX6_sumOf : ByteArray := prog_1_method_23_code
def yX6_sumOf : MethodName := ⟨RX6, "sumOf", "(II)I"⟩
abbrev cX6_ranked : ByteArray := prog_1_method_24_code
def yX6_ranked : MethodName := ⟨RX6, "ranked", "(II)I"⟩
abbrev cX6_running : ByteArray := prog_1_method_25_code
def yX6_running : MethodName := ⟨RX6, "running", "(II)I"⟩
abbrev cX6_share : ByteArray := prog_1_method_26_code
def yX6_share : MethodName := ⟨RX6, "share", "(II)I"⟩
abbrev cX6_fewest : ByteArray := prog_1_method_27_code
def yX6_fewest : MethodName := ⟨RX6, "fewest", "(II)I"⟩
abbrev cX6_drill : ByteArray := prog_1_method_28_code
def yX6_drill : MethodName := ⟨RX6, "drill", "(I)I"⟩
abbrev cX6_setAxes : ByteArray := prog_1_method_29_code
def yX6_setAxes : MethodName := ⟨RX6, "setAxes", "(IIII)I"⟩
abbrev cX6_setBare : ByteArray := prog_1_method_30_code
def yX6_setBare : MethodName := ⟨RX6, "setBare", "(Z)Z"⟩
abbrev cX6_rows : ByteArray := prog_1_method_31_code
def yX6_rows : MethodName := ⟨RX6, "rows", "()I"⟩
abbrev cX6_columns : ByteArray := prog_1_method_32_code
def yX6_columns : MethodName := ⟨RX6, "columns", "()I"⟩
abbrev cX6_rowMember : ByteArray := prog_1_method_33_code
def yX6_rowMember : MethodName := ⟨RX6, "rowMember", "(I)I"⟩
abbrev cX6_columnMember : ByteArray := prog_1_method_34_code
def yX6_columnMember : MethodName := ⟨RX6, "columnMember", "(I)I"⟩
abbrev cX6_cell : ByteArray := prog_1_method_35_code
def yX6_cell : MethodName := ⟨RX6, "cell", "(II)I"⟩
abbrev cX6_peak : ByteArray := prog_1_method_36_code
def yX6_peak : MethodName := ⟨RX6, "peak", "(I)I"⟩
abbrev cX6_setLevel : ByteArray := prog_1_method_37_code
def yX6_setLevel : MethodName := ⟨RX6, "setLevel", "(II)I"⟩
abbrev cX6_cellCount : ByteArray := prog_1_method_38_code
def yX6_cellCount : MethodName := ⟨RX6, "cellCount", "()I"⟩
abbrev cX6_keep : ByteArray := prog_1_method_39_code
def yX6_keep : MethodName := ⟨RX6, "keep", "()I"⟩
abbrev cX6_dropView : ByteArray := prog_1_method_40_code
def yX6_dropView : MethodName := ⟨RX6, "dropView", "(I)I"⟩
abbrev cX6_refresh : ByteArray := prog_1_method_41_code
def yX6_refresh : MethodName := ⟨RX6, "refresh", "(I)I"⟩
abbrev cX6_views : ByteArray := prog_1_method_42_code
def yX6_views : MethodName := ⟨RX6, "views", "()I"⟩
abbrev cX6_rowsOf : ByteArray := prog_1_method_43_code
def yX6_rowsOf : MethodName := ⟨RX6, "rowsOf", "(I)I"⟩
abbrev cX6_isStale : ByteArray := prog_1_method_44_code
def yX6_isStale : MethodName := ⟨RX6, "isStale", "(I)Z"⟩
abbrev cX6_cost : ByteArray := prog_1_method_45_code
def yX6_cost : MethodName := ⟨RX6, "cost", "()I"⟩
abbrev cX6_answeredBy : ByteArray := prog_1_method_46_code
def yX6_answeredBy : MethodName := ⟨RX6, "answeredBy", "()I"⟩
abbrev cX6_gain : ByteArray := prog_1_method_47_code
def yX6_gain : MethodName := ⟨RX6, "gain", "()I"⟩
abbrev cX6_advise : ByteArray := prog_1_method_48_code
def yX6_advise : MethodName := ⟨RX6, "advise", "()I"⟩
abbrev cX6_digest : ByteArray := prog_1_method_49_code
def yX6_digest : MethodName := ⟨RX6, "digest", "()J"⟩
abbrev cX6_treeOf : ByteArray := prog_1_method_50_code
def yX6_treeOf : MethodName := ⟨RX6, "treeOf", "(I)LEbbTable$Tree;"⟩
abbrev cX6_treeWith : ByteArray := prog_1_method_51_code
def yX6_treeWith : MethodName := ⟨RX6, "treeWith", "(II)LEbbTable$Tree;"⟩
abbrev cX6_treeWithLevel : ByteArray := prog_1_method_52_code
def yX6_treeWithLevel : MethodName := ⟨RX6, "treeWithLevel", "(II)LEbbTable$Tree;"⟩
abbrev cX6_requireLevel : ByteArray := prog_1_method_53_code
def yX6_requireLevel : MethodName := ⟨RX6, "requireLevel", "(II)V"⟩
abbrev cX6_forgetWhatNeedsAllDimensions : ByteArray := prog_1_method_54_code
def yX6_forgetWhatNeedsAllDimensions : MethodName := ⟨RX6, "forgetWhatNeedsAllDimensions", "()V"⟩
abbrev cX6_isPointOfLeaves : ByteArray := prog_1_method_55_code
def yX6_isPointOfLeaves : MethodName := ⟨RX6, "isPointOfLeaves", "()Z"⟩
abbrev cX6_isSeen : ByteArray := prog_1_method_56_code
def yX6_isSeen : MethodName := ⟨RX6, "isSeen", "(I)Z"⟩
abbrev cX6_lineUp : ByteArray := prog_1_method_57_code
def yX6_lineUp : MethodName := ⟨RX6, "lineUp", "(ILEbbTable$Tree;)V"⟩
abbrev cX6_lineUpWith : ByteArray := prog_1_method_58_code
def yX6_lineUpWith : MethodName := ⟨RX6, "lineUpWith", "(II)V"⟩
abbrev cX6_layTableOfAxes : ByteArray := prog_1_method_59_code
def yX6_layTableOfAxes : MethodName := ⟨RX6, "layTableOfAxes", "()V"⟩
abbrev cX6_requireLine : ByteArray := prog_1_method_60_code
def yX6_requireLine : MethodName := ⟨RX6, "requireLine", "(LEbbTable$Axis;I)V"⟩
abbrev cX6_layTable : ByteArray := prog_1_method_61_code
def yX6_layTable : MethodName := ⟨RX6, "layTable", "()V"⟩
abbrev cX6_layAxis : ByteArray := prog_1_method_62_code
def yX6_layAxis : MethodName := ⟨RX6, "layAxis", "(LEbbTable$Axis;)V"⟩
abbrev cX6_clearCells : ByteArray := prog_1_method_63_code
def yX6_clearCells : MethodName := ⟨RX6, "clearCells", "()V"⟩
abbrev cX6_putIntoCell : ByteArray := prog_1_method_64_code
def yX6_putIntoCell : MethodName := ⟨RX6, "putIntoCell", "(I)V"⟩
abbrev cX6_placeOnAxis : ByteArray := prog_1_method_65_code
def yX6_placeOnAxis : MethodName := ⟨RX6, "placeOnAxis", "(ILEbbTable$Axis;)I"⟩
abbrev cX6_cellOfLines : ByteArray := prog_1_method_66_code
def yX6_cellOfLines : MethodName := ⟨RX6, "cellOfLines", "(II)I"⟩
abbrev cX6_bitsBehind : ByteArray := prog_1_method_67_code
def yX6_bitsBehind : MethodName := ⟨RX6, "bitsBehind", "(I)I"⟩
abbrev cX6_levelIn : ByteArray := prog_1_method_68_code
def yX6_levelIn : MethodName := ⟨RX6, "levelIn", "(II)I"⟩
abbrev cX6_reach : ByteArray := prog_1_method_69_code
def yX6_reach : MethodName := ⟨RX6, "reach", "(II)Z"⟩
abbrev cX6_areLevels : ByteArray := prog_1_method_70_code
def yX6_areLevels : MethodName := ⟨RX6, "areLevels", "(I)Z"⟩
abbrev cX6_cellsOf : ByteArray := prog_1_method_71_code
def yX6_cellsOf : MethodName := ⟨RX6, "cellsOf", "(I)I"⟩
abbrev cX6_cellAround : ByteArray := prog_1_method_72_code
def yX6_cellAround : MethodName := ⟨RX6, "cellAround", "(II)I"⟩
abbrev cX6_requireView : ByteArray := prog_1_method_73_code
def yX6_requireView : MethodName := ⟨RX6, "requireView", "(I)V"⟩
abbrev cX6_viewFor : ByteArray := prog_1_method_74_code
def yX6_viewFor : MethodName := ⟨RX6, "viewFor", "(I)I"⟩
abbrev cX6_costOf : ByteArray := prog_1_method_75_code
def yX6_costOf : MethodName := ⟨RX6, "costOf", "(I)I"⟩
abbrev cX6_gainOf : ByteArray := prog_1_method_76_code
def yX6_gainOf : MethodName := ⟨RX6, "gainOf", "(I)I"⟩
abbrev cX6_mix : ByteArray := prog_1_method_77_code
def yX6_mix : MethodName := ⟨RX6, "mix", "(JJ)J"⟩
abbrev cX6_mixTree : ByteArray := prog_1_method_78_code
def yX6_mixTree : MethodName := ⟨RX6, "mixTree", "(JI)J"⟩
abbrev cX6_mixLineup : ByteArray := prog_1_method_79_code
def yX6_mixLineup : MethodName := ⟨RX6, "mixLineup", "(JI)J"⟩
abbrev cX6_mixTable : ByteArray := prog_1_method_80_code
def yX6_mixTable : MethodName := ⟨RX6, "mixTable", "(J)J"⟩
abbrev cX6_mixViews : ByteArray := prog_1_method_81_code
def yX6_mixViews : MethodName := ⟨RX6, "mixViews", "(J)J"⟩
def RX7 : String := "EbbTableModel"
def TX7 : u_T := fun k => match k with
  | 0 => ("EbbTableModel", "thrown", "I", false)
  | 1 => ("EbbTableModel", "dimensions", "I", false)
  | 2 => ("EbbTableModel", "deepest", "[I", true)
  | 3 => ("EbbTableModel", "members", "[I", true)
  | 4 => ("EbbTableModel", "parent", "[[I", true)
  | 5 => ("EbbTableModel", "isOut", "[[Z", true)
  | 6 => ("EbbTableModel", "point", "[I", true)
  | 7 => ("EbbTableModel", "level", "[I", true)
  | 8 => ("EbbTableModel", "facts", "I", false)
  | 9 => ("EbbTableModel", "leaf", "[[I", false)
  | 10 => ("EbbTableModel", "value", "[I", false)
  | 11 => ("EbbTableModel", "hasAxes", "Z", false)
  | 12 => ("EbbTableModel", "axis", "[I", true)
  | 13 => ("EbbTableModel", "isBare", "Z", false)
  | 14 => ("EbbTableModel", "views", "I", false)
  | 15 => ("EbbTableModel", "viewLevels", "[I", true)
  | 16 => ("EbbTableModel", "viewRows", "[I", true)
  | 17 => ("EbbTableModel", "isStale", "[Z", true)
  | _ => ("EbbTableModel", "checksum", "J", false)
def tyX7 : Nat → FieldType := fun k => match k with
  | 0 => .int
  | 1 => .int
  | 2 => .array .int
  | 3 => .array .int
  | 4 => .array (.array .int)
  | 5 => .array (.array .boolean)
  | 6 => .array .int
  | 7 => .array .int
  | 8 => .int
  | 9 => .array (.array .int)
  | 10 => .array .int
  | 11 => .boolean
  | 12 => .array .int
  | 13 => .boolean
  | 14 => .int
  | 15 => .array .int
  | 16 => .array .int
  | 17 => .array .boolean
  | _ => .long
abbrev wsX70 : List Cond := u_ws RX7 TX7 19
theorem nmX7 : ∀ a, a < 19 → ∀ b, b < 19 → a ≠ b → (TX7 a).2.1 ≠ (TX7 b).2.1 := by decide +kernel
theorem tyX7_ok : ∀ k, k < 19 → parseFieldDescriptor (TX7 k).2.2.1 = some (tyX7 k) := by decide +kernel
abbrev cX7_init : ByteArray := prog_9_method_1_code
def yX7_init : MethodName := ⟨RX7, "<init>", "()V"⟩
abbrev cX7_thrown : ByteArray := prog_9_method_2_code
def yX7_thrown : MethodName := ⟨RX7, "thrown", "()I"⟩
abbrev cX7_refuse : ByteArray := prog_9_method_3_code
def yX7_refuse : MethodName := ⟨RX7, "refuse", "(I)I"⟩
abbrev cX7_is : ByteArray := prog_9_method_4_code
def yX7_is : MethodName := ⟨RX7, "is", "(III)Z"⟩
abbrev cX7_isDimension : ByteArray := prog_9_method_5_code
def yX7_isDimension : MethodName := ⟨RX7, "isDimension", "(I)Z"⟩
abbrev cX7_isMember : ByteArray := prog_9_method_6_code
def yX7_isMember : MethodName := ⟨RX7, "isMember", "(II)Z"⟩
abbrev cX7_isLevel : ByteArray := prog_9_method_7_code
def yX7_isLevel : MethodName := ⟨RX7, "isLevel", "(II)Z"⟩
abbrev cX7_depth : ByteArray := prog_9_method_8_code
def yX7_depth : MethodName := ⟨RX7, "depth", "(II)I"⟩
abbrev cX7_isBeneath : ByteArray := prog_9_method_9_code
def yX7_isBeneath : MethodName := ⟨RX7, "isBeneath", "(III)Z"⟩
abbrev cX7_walk : ByteArray := prog_9_method_10_code
def yX7_walk : MethodName := ⟨RX7, "walk", "(III[II)I"⟩
abbrev cX7_membersOf : ByteArray := prog_9_method_11_code
def yX7_membersOf : MethodName := ⟨RX7, "membersOf", "(III)[I"⟩
abbrev cX7_stale : ByteArray := prog_9_method_12_code
def yX7_stale : MethodName := ⟨RX7, "stale", "()V"⟩
abbrev cX7_addDimension : ByteArray := prog_9_method_13_code
def yX7_addDimension : MethodName := ⟨RX7, "addDimension", "(I)I"⟩
abbrev cX7_addMember : ByteArray := prog_9_method_14_code
def yX7_addMember : MethodName := ⟨RX7, "addMember", "(II)I"⟩
abbrev cX7_move : ByteArray := prog_9_method_15_code
def yX7_move : MethodName := ⟨RX7, "move", "(III)I"⟩
abbrev cX7_dimensions : ByteArray := prog_9_method_16_code
def yX7_dimensions : MethodName := ⟨RX7, "dimensions", "()I"⟩
abbrev cX7_members : ByteArray := prog_9_method_17_code
def yX7_members : MethodName := ⟨RX7, "members", "(I)I"⟩
abbrev cX7_parentNow : ByteArray := prog_9_method_18_code
def yX7_parentNow : MethodName := ⟨RX7, "parentNow", "(II)I"⟩
abbrev cX7_parentOf : ByteArray := prog_9_method_19_code
def yX7_parentOf : MethodName := ⟨RX7, "parentOf", "(II)I"⟩
abbrev cX7_levelOf : ByteArray := prog_9_method_20_code
def yX7_levelOf : MethodName := ⟨RX7, "levelOf", "(II)I"⟩
abbrev cX7_memberAt : ByteArray := prog_9_method_21_code
def yX7_memberAt : MethodName := ⟨RX7, "memberAt", "(III)I"⟩
abbrev cX7_leaveOut : ByteArray := prog_9_method_22_code
def yX7_leaveOut : MethodName := ⟨RX7, "leaveOut", "(IIZ)Z"⟩
abbrev cX7_goTo : ByteArray := prog_9_method_23_code
def yX7_goTo : MethodName := ⟨RX7, "goTo", "(II)I"⟩
abbrev cX7_goUp : ByteArray := prog_9_method_24_code
def yX7_goUp : MethodName := ⟨RX7, "goUp", "(I)I"⟩
abbrev cX7_pointOf : ByteArray := prog_9_method_25_code
def yX7_pointOf : MethodName := ⟨RX7, "pointOf", "(I)I"⟩
abbrev cX7_add : ByteArray := prog_9_method_26_code
def yX7_add : MethodName := ⟨RX7, "add", "(I)I"⟩
abbrev cX7_drop : ByteArray := prog_9_method_27_code
def yX7_drop : MethodName := ⟨RX7, "drop", "(I)I"⟩
abbrev cX7_isOutAt : ByteArray := prog_9_method_28_code
def yX7_isOutAt : MethodName := ⟨RX7, "isOutAt", "(II)Z"⟩
abbrev cX7_counts : ByteArray := prog_9_method_29_code
def yX7_counts : MethodName := ⟨RX7, "counts", "(I)Z"⟩
abbrev cX7_facts : ByteArray := prog_9_method_30_code
def yX7_facts : MethodName := ⟨RX7, "facts", "()I"⟩
abbrev cX7_countNow : ByteArray := prog_9_method_31_code
def yX7_countNow : MethodName := ⟨RX7, "countNow", "()I"⟩
abbrev cX7_sumNow : ByteArray := prog_9_method_32_code
def yX7_sumNow : MethodName := ⟨RX7, "sumNow", "()I"⟩
abbrev cX7_end : ByteArray := prog_9_method_33_code
def yX7_end : MethodName := ⟨RX7, "end", "(I)I"⟩
abbrev cX7_count : ByteArray := prog_9_method_34_code
def yX7_count : MethodName := ⟨RX7, "count", "()I"⟩
abbrev cX7_sum : ByteArray := prog_9_method_35_code
def yX7_sum : MethodName := ⟨RX7, "sum", "()I"⟩
abbrev cX7_least : ByteArray := prog_9_method_36_code
def yX7_least : MethodName := ⟨RX7, "least", "()I"⟩
abbrev cX7_greatest : ByteArray := prog_9_method_37_code
def yX7_greatest : MethodName := ⟨RX7, "greatest", "()I"⟩
abbrev cX7_mean : ByteArray := prog_9_method_38_code
def yX7_mean : MethodName := ⟨RX7, "mean", "()D"⟩
abbrev cX7_childrenOf : ByteArray := prog_9_method_39_code
def yX7_childrenOf : MethodName := ⟨RX7, "childrenOf", "(I)[I"⟩
abbrev cX7_sumAt : ByteArray := prog_9_method_40_code
def yX7_sumAt : MethodName := ⟨RX7, "sumAt", "(II)I"⟩
abbrev cX7_sums : ByteArray := prog_9_method_41_code
def yX7_sums : MethodName := ⟨RX7, "sums", "(I)[I"⟩
abbrev cX7_rankOf : ByteArray := prog_9_method_42_code
def yX7_rankOf : MethodName := ⟨RX7, "rankOf", "([II)I"⟩
abbrev cX7_ofRank : ByteArray := prog_9_method_43_code
def yX7_ofRank : MethodName := ⟨RX7, "ofRank", "([II)I"⟩
abbrev cX7_children : ByteArray := prog_9_method_44_code
def yX7_children : MethodName := ⟨RX7, "children", "(I)I"⟩
abbrev cX7_hasChild : ByteArray := prog_9_method_45_code
def yX7_hasChild : MethodName := ⟨RX7, "hasChild", "(II)Z"⟩
abbrev cX7_sumOf : ByteArray := prog_9_method_46_code
def yX7_sumOf : MethodName := ⟨RX7, "sumOf", "(II)I"⟩
abbrev cX7_ranked : ByteArray := prog_9_method_47_code
def yX7_ranked : MethodName := ⟨RX7, "ranked", "(II)I"⟩
abbrev cX7_running : ByteArray := prog_9_method_48_code
def yX7_running : MethodName := ⟨RX7, "running", "(II)I"⟩
abbrev cX7_share : ByteArray := prog_9_method_49_code
def yX7_share : MethodName := ⟨RX7, "share", "(II)I"⟩
abbrev cX7_fewest : ByteArray := prog_9_method_50_code
def yX7_fewest : MethodName := ⟨RX7, "fewest", "(II)I"⟩
abbrev cX7_drill : ByteArray := prog_9_method_51_code
def yX7_drill : MethodName := ⟨RX7, "drill", "(I)I"⟩
abbrev cX7_setAxes : ByteArray := prog_9_method_52_code
def yX7_setAxes : MethodName := ⟨RX7, "setAxes", "(IIII)I"⟩
abbrev cX7_setBare : ByteArray := prog_9_method_53_code
def yX7_setBare : MethodName := ⟨RX7, "setBare", "(Z)Z"⟩
abbrev cX7_allLines : ByteArray := prog_9_method_54_code
def yX7_allLines : MethodName := ⟨RX7, "allLines", "(I)[I"⟩
abbrev cX7_isIn : ByteArray := prog_9_method_55_code
def yX7_isIn : MethodName := ⟨RX7, "isIn", "(III)Z"⟩
abbrev cX7_hasFact : ByteArray := prog_9_method_56_code
def yX7_hasFact : MethodName := ⟨RX7, "hasFact", "(II)Z"⟩
abbrev cX7_lines : ByteArray := prog_9_method_57_code
def yX7_lines : MethodName := ⟨RX7, "lines", "(I)[I"⟩
abbrev cX7_canLay : ByteArray := prog_9_method_58_code
def yX7_canLay : MethodName := ⟨RX7, "canLay", "()Z"⟩
abbrev cX7_rows : ByteArray := prog_9_method_59_code
def yX7_rows : MethodName := ⟨RX7, "rows", "()I"⟩
abbrev cX7_columns : ByteArray := prog_9_method_60_code
def yX7_columns : MethodName := ⟨RX7, "columns", "()I"⟩
abbrev cX7_line : ByteArray := prog_9_method_61_code
def yX7_line : MethodName := ⟨RX7, "line", "(II)I"⟩
abbrev cX7_rowMember : ByteArray := prog_9_method_62_code
def yX7_rowMember : MethodName := ⟨RX7, "rowMember", "(I)I"⟩
abbrev cX7_columnMember : ByteArray := prog_9_method_63_code
def yX7_columnMember : MethodName := ⟨RX7, "columnMember", "(I)I"⟩
abbrev cX7_cellOf : ByteArray := prog_9_method_64_code
def yX7_cellOf : MethodName := ⟨RX7, "cellOf", "(II)I"⟩
abbrev cX7_cell : ByteArray := prog_9_method_65_code
def yX7_cell : MethodName := ⟨RX7, "cell", "(II)I"⟩
abbrev cX7_peak : ByteArray := prog_9_method_66_code
def yX7_peak : MethodName := ⟨RX7, "peak", "(I)I"⟩
abbrev cX7_levelsNow : ByteArray := prog_9_method_67_code
def yX7_levelsNow : MethodName := ⟨RX7, "levelsNow", "()I"⟩
abbrev cX7_digit : ByteArray := prog_9_method_68_code
def yX7_digit : MethodName := ⟨RX7, "digit", "(II)I"⟩
abbrev cX7_areLevels : ByteArray := prog_9_method_69_code
def yX7_areLevels : MethodName := ⟨RX7, "areLevels", "(I)Z"⟩
abbrev cX7_answers : ByteArray := prog_9_method_70_code
def yX7_answers : MethodName := ⟨RX7, "answers", "(II)Z"⟩
abbrev cX7_memberOn : ByteArray := prog_9_method_71_code
def yX7_memberOn : MethodName := ⟨RX7, "memberOn", "(III)I"⟩
abbrev cX7_areInOne : ByteArray := prog_9_method_72_code
def yX7_areInOne : MethodName := ⟨RX7, "areInOne", "(III)Z"⟩
abbrev cX7_cells : ByteArray := prog_9_method_73_code
def yX7_cells : MethodName := ⟨RX7, "cells", "(I)I"⟩
abbrev cX7_answering : ByteArray := prog_9_method_74_code
def yX7_answering : MethodName := ⟨RX7, "answering", "(I)I"⟩
abbrev cX7_costOf : ByteArray := prog_9_method_75_code
def yX7_costOf : MethodName := ⟨RX7, "costOf", "(I)I"⟩
abbrev cX7_gainOf : ByteArray := prog_9_method_76_code
def yX7_gainOf : MethodName := ⟨RX7, "gainOf", "(I)I"⟩
abbrev cX7_setLevel : ByteArray := prog_9_method_77_code
def yX7_setLevel : MethodName := ⟨RX7, "setLevel", "(II)I"⟩
abbrev cX7_cellCount : ByteArray := prog_9_method_78_code
def yX7_cellCount : MethodName := ⟨RX7, "cellCount", "()I"⟩
abbrev cX7_keep : ByteArray := prog_9_method_79_code
def yX7_keep : MethodName := ⟨RX7, "keep", "()I"⟩
abbrev cX7_isView : ByteArray := prog_9_method_80_code
def yX7_isView : MethodName := ⟨RX7, "isView", "(I)Z"⟩
abbrev cX7_dropView : ByteArray := prog_9_method_81_code
def yX7_dropView : MethodName := ⟨RX7, "dropView", "(I)I"⟩
abbrev cX7_refresh : ByteArray := prog_9_method_82_code
def yX7_refresh : MethodName := ⟨RX7, "refresh", "(I)I"⟩
abbrev cX7_views : ByteArray := prog_9_method_83_code
def yX7_views : MethodName := ⟨RX7, "views", "()I"⟩
abbrev cX7_rowsOf : ByteArray := prog_9_method_84_code
def yX7_rowsOf : MethodName := ⟨RX7, "rowsOf", "(I)I"⟩
abbrev cX7_isStale : ByteArray := prog_9_method_85_code
def yX7_isStale : MethodName := ⟨RX7, "isStale", "(I)Z"⟩
abbrev cX7_cost : ByteArray := prog_9_method_86_code
def yX7_cost : MethodName := ⟨RX7, "cost", "()I"⟩
abbrev cX7_answeredBy : ByteArray := prog_9_method_87_code
def yX7_answeredBy : MethodName := ⟨RX7, "answeredBy", "()I"⟩
abbrev cX7_gain : ByteArray := prog_9_method_88_code
def yX7_gain : MethodName := ⟨RX7, "gain", "()I"⟩
abbrev cX7_advise : ByteArray := prog_9_method_89_code
def yX7_advise : MethodName := ⟨RX7, "advise", "()I"⟩
abbrev cX7_put : ByteArray := prog_9_method_90_code
def yX7_put : MethodName := ⟨RX7, "put", "(I)V"⟩
abbrev cX7_putTable : ByteArray := prog_9_method_91_code
def yX7_putTable : MethodName := ⟨RX7, "putTable", "()V"⟩
abbrev cX7_digest : ByteArray := prog_9_method_92_code
def yX7_digest : MethodName := ⟨RX7, "digest", "()J"⟩
def RJx145de : String := "java/io/Serializable"
def RJx8e188 : String := "java/lang/Cloneable"
def RJ9 : String := "java/lang/Math"
abbrev cJ9_max_7cf53 : ByteArray := prog_15_method_65_code
def yJ9_max_7cf53 : MethodName := ⟨RJ9, "max", "(II)I"⟩
abbrev cJ9_min_7cf53 : ByteArray := prog_15_method_69_code
def yJ9_min_7cf53 : MethodName := ⟨RJ9, "min", "(II)I"⟩
def RJ0 : String := "java/lang/String"
def RJ10 : String := "java/lang/System"
def RJ7 : String := "java/util/Arrays"
abbrev cJ7_fill_49daa : ByteArray := prog_20_method_111_code
def yJ7_fill_49daa : MethodName := ⟨RJ7, "fill", "([ZZ)V"⟩
abbrev cJ7_copyOf_59c91 : ByteArray := prog_20_method_123_code
def yJ7_copyOf_59c91 : MethodName := ⟨RJ7, "copyOf", "([II)[I"⟩
def RL : String := "EbbTableLaw"
abbrev cL_addDimension : ByteArray := method_3_code
def yL_addDimension : MethodName := ⟨RL, "addDimension", "(LEbbTable;I[J)I"⟩
abbrev cL_addMember : ByteArray := method_4_code
def yL_addMember : MethodName := ⟨RL, "addMember", "(LEbbTable;II[J)I"⟩
abbrev cL_move : ByteArray := method_5_code
def yL_move : MethodName := ⟨RL, "move", "(LEbbTable;III[J)I"⟩
abbrev cL_members : ByteArray := method_6_code
def yL_members : MethodName := ⟨RL, "members", "(LEbbTable;I[J)I"⟩
abbrev cL_parentOf : ByteArray := method_7_code
def yL_parentOf : MethodName := ⟨RL, "parentOf", "(LEbbTable;II[J)I"⟩
abbrev cL_levelOf : ByteArray := method_8_code
def yL_levelOf : MethodName := ⟨RL, "levelOf", "(LEbbTable;II[J)I"⟩
abbrev cL_memberAt : ByteArray := method_9_code
def yL_memberAt : MethodName := ⟨RL, "memberAt", "(LEbbTable;III[J)I"⟩
abbrev cL_leaveOut : ByteArray := method_10_code
def yL_leaveOut : MethodName := ⟨RL, "leaveOut", "(LEbbTable;IIZ[J)I"⟩
abbrev cL_goTo : ByteArray := method_11_code
def yL_goTo : MethodName := ⟨RL, "goTo", "(LEbbTable;II[J)I"⟩
abbrev cL_goUp : ByteArray := method_12_code
def yL_goUp : MethodName := ⟨RL, "goUp", "(LEbbTable;I[J)I"⟩
abbrev cL_pointOf : ByteArray := method_13_code
def yL_pointOf : MethodName := ⟨RL, "pointOf", "(LEbbTable;I[J)I"⟩
abbrev cL_add : ByteArray := method_14_code
def yL_add : MethodName := ⟨RL, "add", "(LEbbTable;I[J)I"⟩
abbrev cL_drop : ByteArray := method_15_code
def yL_drop : MethodName := ⟨RL, "drop", "(LEbbTable;I[J)I"⟩
abbrev cL_children : ByteArray := method_16_code
def yL_children : MethodName := ⟨RL, "children", "(LEbbTable;I[J)I"⟩
abbrev cL_sumOf : ByteArray := method_17_code
def yL_sumOf : MethodName := ⟨RL, "sumOf", "(LEbbTable;II[J)I"⟩
abbrev cL_ranked : ByteArray := method_18_code
def yL_ranked : MethodName := ⟨RL, "ranked", "(LEbbTable;II[J)I"⟩
abbrev cL_running : ByteArray := method_19_code
def yL_running : MethodName := ⟨RL, "running", "(LEbbTable;II[J)I"⟩
abbrev cL_share : ByteArray := method_20_code
def yL_share : MethodName := ⟨RL, "share", "(LEbbTable;II[J)I"⟩
abbrev cL_fewest : ByteArray := method_21_code
def yL_fewest : MethodName := ⟨RL, "fewest", "(LEbbTable;II[J)I"⟩
abbrev cL_drill : ByteArray := method_22_code
def yL_drill : MethodName := ⟨RL, "drill", "(LEbbTable;I[J)I"⟩
abbrev cL_setAxes : ByteArray := method_23_code
def yL_setAxes : MethodName := ⟨RL, "setAxes", "(LEbbTable;IIII[J)I"⟩
abbrev cL_rows : ByteArray := method_24_code
def yL_rows : MethodName := ⟨RL, "rows", "(LEbbTable;[J)I"⟩
abbrev cL_columns : ByteArray := method_25_code
def yL_columns : MethodName := ⟨RL, "columns", "(LEbbTable;[J)I"⟩
abbrev cL_rowMember : ByteArray := method_26_code
def yL_rowMember : MethodName := ⟨RL, "rowMember", "(LEbbTable;I[J)I"⟩
abbrev cL_columnMember : ByteArray := method_27_code
def yL_columnMember : MethodName := ⟨RL, "columnMember", "(LEbbTable;I[J)I"⟩
abbrev cL_cell : ByteArray := method_28_code
def yL_cell : MethodName := ⟨RL, "cell", "(LEbbTable;II[J)I"⟩
abbrev cL_peak : ByteArray := method_29_code
def yL_peak : MethodName := ⟨RL, "peak", "(LEbbTable;I[J)I"⟩
abbrev cL_setLevel : ByteArray := method_30_code
def yL_setLevel : MethodName := ⟨RL, "setLevel", "(LEbbTable;II[J)I"⟩
abbrev cL_keep : ByteArray := method_31_code
def yL_keep : MethodName := ⟨RL, "keep", "(LEbbTable;[J)I"⟩
abbrev cL_dropView : ByteArray := method_32_code
def yL_dropView : MethodName := ⟨RL, "dropView", "(LEbbTable;I[J)I"⟩
abbrev cL_refresh : ByteArray := method_33_code
def yL_refresh : MethodName := ⟨RL, "refresh", "(LEbbTable;I[J)I"⟩
abbrev cL_rowsOf : ByteArray := method_34_code
def yL_rowsOf : MethodName := ⟨RL, "rowsOf", "(LEbbTable;I[J)I"⟩
abbrev cL_isStale : ByteArray := method_35_code
def yL_isStale : MethodName := ⟨RL, "isStale", "(LEbbTable;I[J)I"⟩
abbrev cL_law : ByteArray := code
def yL_law : MethodName := ⟨RL, "law", "([I)Z"⟩
abbrev vwCl : List vw_C := [(RX0, TX0, 6), (RX1, TX1, 4), (RX2, TX2, 2), (RX3, TX3, 2), (RX4, TX4, 6), (RX5, TX5, 4), (RX6, TX6, 12), (RX7, TX7, 19)]
theorem inX0 : ∀ w ∈ wsX00, w ∈ lw_tbl := by decide +kernel
theorem inX1 : ∀ w ∈ wsX10, w ∈ lw_tbl := by decide +kernel
theorem inX2 : ∀ w ∈ wsX20, w ∈ lw_tbl := by decide +kernel
theorem inX3 : ∀ w ∈ wsX30, w ∈ lw_tbl := by decide +kernel
theorem inX4 : ∀ w ∈ wsX40, w ∈ lw_tbl := by decide +kernel
theorem inX5 : ∀ w ∈ wsX50, w ∈ lw_tbl := by decide +kernel
theorem inX6 : ∀ w ∈ wsX60, w ∈ lw_tbl := by decide +kernel
theorem inX7 : ∀ w ∈ wsX70, w ∈ lw_tbl := by decide +kernel
end
section
/-! the words of the tables, by program (wip/whole/words.py) -/
abbrev TW : List Cond := lw_tbl.filter goodWord
theorem TW_of {w : Cond} (i : Nat) (h : lw_tbl[i]? = some w) (hg : goodWord w = true) : w ∈ TW := List.mem_filter.mpr ⟨List.mem_of_getElem? h, hg⟩
theorem TW_good : ∀ w ∈ TW, goodWord w = true := fun _ h => (List.mem_filter.mp h).2
theorem TW_sub {ws : List Cond} (h : ∀ w ∈ ws, w ∈ TW) : GoodIn TW ws := fun w hw => ⟨h w hw, good_of_word (TW_good w (h w hw))⟩
/-- what the tables say of a method that is called -/
def CV (y : MethodName) (cc : ByteArray) (nL : Nat) (ret : Option FieldType) (n : Nat) : Prop :=
  Cond.instanceMethod y ∈ TW ∧ Cond.selects y.cls y y ∈ TW ∧ Cond.initialized y.cls ∈ TW ∧ Cond.code y cc nL ret ∈ TW ∧ y.cls ≠ "java/lang/invoke/MethodHandle" ∧ y.cls ≠ "java/lang/invoke/VarHandle" ∧ (parseMethodDescriptor y.desc).map (fun d => d.parameters.length) = some n
def CS (y : MethodName) (cc : ByteArray) (nL : Nat) (ret : Option FieldType) (n : Nat) : Prop :=
  Cond.static y ∈ TW ∧ Cond.initialized y.cls ∈ TW ∧ Cond.code y cc nL ret ∈ TW ∧ y.cls ≠ "java/lang/invoke/MethodHandle" ∧ y.cls ≠ "java/lang/invoke/VarHandle" ∧ (parseMethodDescriptor y.desc).map (fun d => d.parameters.length) = some n

theorem inT0 : ∀ w ∈ wsX00, w ∈ TW := fun w h => List.mem_filter.mpr ⟨inX0 w h, List.all_eq_true.mp (show wsX00.all goodWord = true by decide +kernel) w h⟩
theorem inT1 : ∀ w ∈ wsX10, w ∈ TW := fun w h => List.mem_filter.mpr ⟨inX1 w h, List.all_eq_true.mp (show wsX10.all goodWord = true by decide +kernel) w h⟩
theorem inT2 : ∀ w ∈ wsX20, w ∈ TW := fun w h => List.mem_filter.mpr ⟨inX2 w h, List.all_eq_true.mp (show wsX20.all goodWord = true by decide +kernel) w h⟩
theorem inT3 : ∀ w ∈ wsX30, w ∈ TW := fun w h => List.mem_filter.mpr ⟨inX3 w h, List.all_eq_true.mp (show wsX30.all goodWord = true by decide +kernel) w h⟩
theorem inT4 : ∀ w ∈ wsX40, w ∈ TW := fun w h => List.mem_filter.mpr ⟨inX4 w h, List.all_eq_true.mp (show wsX40.all goodWord = true by decide +kernel) w h⟩
theorem inT5 : ∀ w ∈ wsX50, w ∈ TW := fun w h => List.mem_filter.mpr ⟨inX5 w h, List.all_eq_true.mp (show wsX50.all goodWord = true by decide +kernel) w h⟩
theorem inT6 : ∀ w ∈ wsX60, w ∈ TW := fun w h => List.mem_filter.mpr ⟨inX6 w h, List.all_eq_true.mp (show wsX60.all goodWord = true by decide +kernel) w h⟩
theorem inT7 : ∀ w ∈ wsX70, w ∈ TW := fun w h => List.mem_filter.mpr ⟨inX7 w h, List.all_eq_true.mp (show wsX70.all goodWord = true by decide +kernel) w h⟩
theorem lf6_11 : Cond.fieldLink RX6 11 "EbbTable" "trees" "[LEbbTable$Tree;" ∈ TW := TW_of 247 (by decide +kernel) (by decide +kernel)
theorem lf6_18 : Cond.fieldLink RX6 18 "EbbTable" "factList" "LEbbTable$FactList;" ∈ TW := TW_of 248 (by decide +kernel) (by decide +kernel)
theorem lf6_25 : Cond.fieldLink RX6 25 "EbbTable" "viewList" "LEbbTable$ViewList;" ∈ TW := TW_of 249 (by decide +kernel) (by decide +kernel)
theorem lf6_32 : Cond.fieldLink RX6 32 "EbbTable" "rowAxis" "LEbbTable$Axis;" ∈ TW := TW_of 250 (by decide +kernel) (by decide +kernel)
theorem lf6_36 : Cond.fieldLink RX6 36 "EbbTable" "columnAxis" "LEbbTable$Axis;" ∈ TW := TW_of 251 (by decide +kernel) (by decide +kernel)
theorem lf6_42 : Cond.fieldLink RX6 42 "EbbTable" "levelList" "LEbbTable$MemberList;" ∈ TW := TW_of 256 (by decide +kernel) (by decide +kernel)
theorem lf6_49 : Cond.fieldLink RX6 49 "EbbTable" "lineup" "LEbbTable$Lineup;" ∈ TW := TW_of 257 (by decide +kernel) (by decide +kernel)
theorem lf6_55 : Cond.fieldLink RX6 55 "EbbTable" "cellSums" "[[I" ∈ TW := TW_of 258 (by decide +kernel) (by decide +kernel)
theorem lf6_66 : Cond.fieldLink RX6 66 "EbbTable" "treeCount" "I" ∈ TW := TW_of 252 (by decide +kernel) (by decide +kernel)
theorem lf6_112 : Cond.fieldLink RX6 112 "EbbTable$Tree" "depths" "[I" ∈ TW := TW_of 225 (by decide +kernel) (by decide +kernel)
theorem lf6_118 : Cond.fieldLink RX6 118 "EbbTable$Tree" "parents" "[I" ∈ TW := TW_of 223 (by decide +kernel) (by decide +kernel)
theorem lf6_128 : Cond.fieldLink RX6 128 "EbbTable$Tree" "size" "I" ∈ TW := TW_of 231 (by decide +kernel) (by decide +kernel)
theorem lf6_143 : Cond.fieldLink RX6 143 "EbbTable$MemberList" "members" "[I" ∈ TW := TW_of 163 (by decide +kernel) (by decide +kernel)
theorem lf6_146 : Cond.fieldLink RX6 146 "EbbTable$Tree" "outs" "[Z" ∈ TW := TW_of 227 (by decide +kernel) (by decide +kernel)
theorem lf6_150 : Cond.fieldLink RX6 150 "EbbTable$Tree" "point" "I" ∈ TW := TW_of 233 (by decide +kernel) (by decide +kernel)
theorem lf6_160 : Cond.fieldLink RX6 160 "EbbTable$FactList" "size" "I" ∈ TW := TW_of 114 (by decide +kernel) (by decide +kernel)
theorem lf6_163 : Cond.fieldLink RX6 163 "EbbTable$FactList" "values" "[I" ∈ TW := TW_of 110 (by decide +kernel) (by decide +kernel)
theorem lf6_166 : Cond.fieldLink RX6 166 "EbbTable$FactList" "leaves" "[[I" ∈ TW := TW_of 108 (by decide +kernel) (by decide +kernel)
theorem lf6_188 : Cond.fieldLink RX6 188 "EbbTable$Lineup" "list" "LEbbTable$MemberList;" ∈ TW := TW_of 208 (by decide +kernel) (by decide +kernel)
theorem lf6_191 : Cond.fieldLink RX6 191 "EbbTable$MemberList" "size" "I" ∈ TW := TW_of 168 (by decide +kernel) (by decide +kernel)
theorem lf6_196 : Cond.fieldLink RX6 196 "EbbTable$Lineup" "sums" "[I" ∈ TW := TW_of 210 (by decide +kernel) (by decide +kernel)
theorem lf6_216 : Cond.fieldLink RX6 216 "EbbTable$Axis" "dimension" "I" ∈ TW := TW_of 182 (by decide +kernel) (by decide +kernel)
theorem lf6_219 : Cond.fieldLink RX6 219 "EbbTable$Axis" "level" "I" ∈ TW := TW_of 183 (by decide +kernel) (by decide +kernel)
theorem lf6_222 : Cond.fieldLink RX6 222 "EbbTable" "hasAxes" "Z" ∈ TW := TW_of 254 (by decide +kernel) (by decide +kernel)
theorem lf6_229 : Cond.fieldLink RX6 229 "EbbTable$Axis" "shownCount" "I" ∈ TW := TW_of 181 (by decide +kernel) (by decide +kernel)
theorem lf6_232 : Cond.fieldLink RX6 232 "EbbTable" "bareIsOut" "Z" ∈ TW := TW_of 255 (by decide +kernel) (by decide +kernel)
theorem lf6_249 : Cond.fieldLink RX6 249 "EbbTable" "chosenLevels" "I" ∈ TW := TW_of 253 (by decide +kernel) (by decide +kernel)
theorem lf6_261 : Cond.fieldLink RX6 261 "EbbTable$ViewList" "size" "I" ∈ TW := TW_of 138 (by decide +kernel) (by decide +kernel)
theorem lf6_264 : Cond.fieldLink RX6 264 "EbbTable$ViewList" "levels" "[I" ∈ TW := TW_of 132 (by decide +kernel) (by decide +kernel)
theorem lf6_274 : Cond.fieldLink RX6 274 "EbbTable$ViewList" "lines" "[I" ∈ TW := TW_of 134 (by decide +kernel) (by decide +kernel)
theorem lf6_277 : Cond.fieldLink RX6 277 "EbbTable$ViewList" "stale" "[Z" ∈ TW := TW_of 136 (by decide +kernel) (by decide +kernel)
theorem lf6_322 : Cond.fieldLink RX6 322 "EbbTable$Tree" "leafDepth" "I" ∈ TW := TW_of 229 (by decide +kernel) (by decide +kernel)
theorem lf6_363 : Cond.fieldLink RX6 363 "EbbTable$Axis" "list" "LEbbTable$MemberList;" ∈ TW := TW_of 175 (by decide +kernel) (by decide +kernel)
theorem lf6_371 : Cond.fieldLink RX6 371 "EbbTable$Axis" "used" "[Z" ∈ TW := TW_of 177 (by decide +kernel) (by decide +kernel)
theorem lf6_374 : Cond.fieldLink RX6 374 "EbbTable$Axis" "shown" "[I" ∈ TW := TW_of 179 (by decide +kernel) (by decide +kernel)
theorem lf6_377 : Cond.fieldLink RX6 377 "EbbTable$FactList" "cells" "[I" ∈ TW := TW_of 112 (by decide +kernel) (by decide +kernel)
theorem lf0_12 : Cond.fieldLink RX0 12 "EbbTable$Axis" "list" "LEbbTable$MemberList;" ∈ TW := TW_of 174 (by decide +kernel) (by decide +kernel)
theorem lf0_18 : Cond.fieldLink RX0 18 "EbbTable$Axis" "used" "[Z" ∈ TW := TW_of 176 (by decide +kernel) (by decide +kernel)
theorem lf0_22 : Cond.fieldLink RX0 22 "EbbTable$Axis" "shown" "[I" ∈ TW := TW_of 178 (by decide +kernel) (by decide +kernel)
theorem lf0_26 : Cond.fieldLink RX0 26 "EbbTable$Axis" "shownCount" "I" ∈ TW := TW_of 180 (by decide +kernel) (by decide +kernel)
theorem lf0_30 : Cond.fieldLink RX0 30 "EbbTable$MemberList" "size" "I" ∈ TW := TW_of 166 (by decide +kernel) (by decide +kernel)
theorem lf0_37 : Cond.fieldLink RX0 37 "EbbTable$MemberList" "members" "[I" ∈ TW := TW_of 162 (by decide +kernel) (by decide +kernel)
theorem lf1_11 : Cond.fieldLink RX1 11 "EbbTable$FactList" "leaves" "[[I" ∈ TW := TW_of 107 (by decide +kernel) (by decide +kernel)
theorem lf1_16 : Cond.fieldLink RX1 16 "EbbTable$FactList" "values" "[I" ∈ TW := TW_of 109 (by decide +kernel) (by decide +kernel)
theorem lf1_20 : Cond.fieldLink RX1 20 "EbbTable$FactList" "cells" "[I" ∈ TW := TW_of 111 (by decide +kernel) (by decide +kernel)
theorem lf1_23 : Cond.fieldLink RX1 23 "EbbTable$FactList" "size" "I" ∈ TW := TW_of 113 (by decide +kernel) (by decide +kernel)
theorem lf2_12 : Cond.fieldLink RX2 12 "EbbTable$Lineup" "list" "LEbbTable$MemberList;" ∈ TW := TW_of 207 (by decide +kernel) (by decide +kernel)
theorem lf2_18 : Cond.fieldLink RX2 18 "EbbTable$Lineup" "sums" "[I" ∈ TW := TW_of 209 (by decide +kernel) (by decide +kernel)
theorem lf2_22 : Cond.fieldLink RX2 22 "EbbTable$MemberList" "size" "I" ∈ TW := TW_of 165 (by decide +kernel) (by decide +kernel)
theorem lf3_9 : Cond.fieldLink RX3 9 "EbbTable$MemberList" "members" "[I" ∈ TW := TW_of 161 (by decide +kernel) (by decide +kernel)
theorem lf3_15 : Cond.fieldLink RX3 15 "EbbTable$MemberList" "size" "I" ∈ TW := TW_of 164 (by decide +kernel) (by decide +kernel)
theorem lf4_9 : Cond.fieldLink RX4 9 "EbbTable$Tree" "parents" "[I" ∈ TW := TW_of 222 (by decide +kernel) (by decide +kernel)
theorem lf4_15 : Cond.fieldLink RX4 15 "EbbTable$Tree" "depths" "[I" ∈ TW := TW_of 224 (by decide +kernel) (by decide +kernel)
theorem lf4_18 : Cond.fieldLink RX4 18 "EbbTable$Tree" "outs" "[Z" ∈ TW := TW_of 226 (by decide +kernel) (by decide +kernel)
theorem lf4_22 : Cond.fieldLink RX4 22 "EbbTable$Tree" "leafDepth" "I" ∈ TW := TW_of 228 (by decide +kernel) (by decide +kernel)
theorem lf4_26 : Cond.fieldLink RX4 26 "EbbTable$Tree" "size" "I" ∈ TW := TW_of 230 (by decide +kernel) (by decide +kernel)
theorem lf4_37 : Cond.fieldLink RX4 37 "EbbTable$Tree" "point" "I" ∈ TW := TW_of 232 (by decide +kernel) (by decide +kernel)
theorem lf4_40 : Cond.fieldLink RX4 40 "EbbTable$MemberList" "size" "I" ∈ TW := TW_of 167 (by decide +kernel) (by decide +kernel)
theorem lf5_9 : Cond.fieldLink RX5 9 "EbbTable$ViewList" "levels" "[I" ∈ TW := TW_of 131 (by decide +kernel) (by decide +kernel)
theorem lf5_15 : Cond.fieldLink RX5 15 "EbbTable$ViewList" "lines" "[I" ∈ TW := TW_of 133 (by decide +kernel) (by decide +kernel)
theorem lf5_18 : Cond.fieldLink RX5 18 "EbbTable$ViewList" "stale" "[Z" ∈ TW := TW_of 135 (by decide +kernel) (by decide +kernel)
theorem lf5_22 : Cond.fieldLink RX5 22 "EbbTable$ViewList" "size" "I" ∈ TW := TW_of 137 (by decide +kernel) (by decide +kernel)
theorem lf7_9 : Cond.fieldLink RX7 9 "EbbTableModel" "deepest" "[I" ∈ TW := TW_of 968 (by decide +kernel) (by decide +kernel)
theorem lf7_13 : Cond.fieldLink RX7 13 "EbbTableModel" "members" "[I" ∈ TW := TW_of 969 (by decide +kernel) (by decide +kernel)
theorem lf7_18 : Cond.fieldLink RX7 18 "EbbTableModel" "parent" "[[I" ∈ TW := TW_of 970 (by decide +kernel) (by decide +kernel)
theorem lf7_23 : Cond.fieldLink RX7 23 "EbbTableModel" "isOut" "[[Z" ∈ TW := TW_of 971 (by decide +kernel) (by decide +kernel)
theorem lf7_26 : Cond.fieldLink RX7 26 "EbbTableModel" "point" "[I" ∈ TW := TW_of 972 (by decide +kernel) (by decide +kernel)
theorem lf7_29 : Cond.fieldLink RX7 29 "EbbTableModel" "level" "[I" ∈ TW := TW_of 973 (by decide +kernel) (by decide +kernel)
theorem lf7_33 : Cond.fieldLink RX7 33 "EbbTableModel" "leaf" "[[I" ∈ TW := TW_of 975 (by decide +kernel) (by decide +kernel)
theorem lf7_36 : Cond.fieldLink RX7 36 "EbbTableModel" "value" "[I" ∈ TW := TW_of 976 (by decide +kernel) (by decide +kernel)
theorem lf7_39 : Cond.fieldLink RX7 39 "EbbTableModel" "axis" "[I" ∈ TW := TW_of 978 (by decide +kernel) (by decide +kernel)
theorem lf7_42 : Cond.fieldLink RX7 42 "EbbTableModel" "viewLevels" "[I" ∈ TW := TW_of 981 (by decide +kernel) (by decide +kernel)
theorem lf7_45 : Cond.fieldLink RX7 45 "EbbTableModel" "viewRows" "[I" ∈ TW := TW_of 982 (by decide +kernel) (by decide +kernel)
theorem lf7_48 : Cond.fieldLink RX7 48 "EbbTableModel" "isStale" "[Z" ∈ TW := TW_of 983 (by decide +kernel) (by decide +kernel)
theorem lf7_52 : Cond.fieldLink RX7 52 "EbbTableModel" "thrown" "I" ∈ TW := TW_of 966 (by decide +kernel) (by decide +kernel)
theorem lf7_56 : Cond.fieldLink RX7 56 "EbbTableModel" "dimensions" "I" ∈ TW := TW_of 967 (by decide +kernel) (by decide +kernel)
theorem lf7_89 : Cond.fieldLink RX7 89 "EbbTableModel" "facts" "I" ∈ TW := TW_of 974 (by decide +kernel) (by decide +kernel)
theorem lf7_92 : Cond.fieldLink RX7 92 "EbbTableModel" "views" "I" ∈ TW := TW_of 980 (by decide +kernel) (by decide +kernel)
theorem lf7_95 : Cond.fieldLink RX7 95 "EbbTableModel" "hasAxes" "Z" ∈ TW := TW_of 977 (by decide +kernel) (by decide +kernel)
theorem lf7_168 : Cond.fieldLink RX7 168 "EbbTableModel" "isBare" "Z" ∈ TW := TW_of 979 (by decide +kernel) (by decide +kernel)
theorem lf7_229 : Cond.fieldLink RX7 229 "EbbTableModel" "checksum" "J" ∈ TW := TW_of 984 (by decide +kernel) (by decide +kernel)
theorem ml6_75 : Cond.methodLink RX6 75 yX4_plant ∈ TW := TW_of 607 (by decide +kernel) (by decide +kernel)
theorem ml6_79 : Cond.methodLink RX6 79 yX6_forgetWhatNeedsAllDimensions ∈ TW := TW_of 611 (by decide +kernel) (by decide +kernel)
theorem ml6_82 : Cond.methodLink RX6 82 yX6_treeWith ∈ TW := TW_of 627 (by decide +kernel) (by decide +kernel)
theorem ml6_86 : Cond.methodLink RX6 86 yX4_isLeaf ∈ TW := TW_of 653 (by decide +kernel) (by decide +kernel)
theorem ml6_92 : Cond.methodLink RX6 92 yX4_isFull ∈ TW := TW_of 658 (by decide +kernel) (by decide +kernel)
theorem ml6_98 : Cond.methodLink RX6 98 yX4_grow ∈ TW := TW_of 663 (by decide +kernel) (by decide +kernel)
theorem ml6_102 : Cond.methodLink RX6 102 yX4_has ∈ TW := TW_of 651 (by decide +kernel) (by decide +kernel)
theorem ml6_121 : Cond.methodLink RX6 121 yX5_makeAllStale ∈ TW := TW_of 678 (by decide +kernel) (by decide +kernel)
theorem ml6_124 : Cond.methodLink RX6 124 yX6_treeOf ∈ TW := TW_of 631 (by decide +kernel) (by decide +kernel)
theorem ml6_131 : Cond.methodLink RX6 131 yX6_treeWithLevel ∈ TW := TW_of 710 (by decide +kernel) (by decide +kernel)
theorem ml6_134 : Cond.methodLink RX6 134 yX4_listBeneath ∈ TW := TW_of 429 (by decide +kernel) (by decide +kernel)
theorem ml6_138 : Cond.methodLink RX6 138 yX3_hasPlace ∈ TW := TW_of 453 (by decide +kernel) (by decide +kernel)
theorem ml6_155 : Cond.methodLink RX6 155 yX6_isPointOfLeaves ∈ TW := TW_of 752 (by decide +kernel) (by decide +kernel)
theorem ml6_169 : Cond.methodLink RX6 169 yX1_has ∈ TW := TW_of 765 (by decide +kernel) (by decide +kernel)
theorem ml6_172 : Cond.methodLink RX6 172 yX1_closeGapAt ∈ TW := TW_of 770 (by decide +kernel) (by decide +kernel)
theorem ml6_175 : Cond.methodLink RX6 175 yX6_isSeen ∈ TW := TW_of 296 (by decide +kernel) (by decide +kernel)
theorem ml6_178 : Cond.methodLink RX6 178 yX6_count ∈ TW := TW_of 324 (by decide +kernel) (by decide +kernel)
theorem ml6_182 : Cond.methodLink RX6 182 yX6_sum ∈ TW := TW_of 325 (by decide +kernel) (by decide +kernel)
theorem ml6_185 : Cond.methodLink RX6 185 yX4_depthOfChildren ∈ TW := TW_of 425 (by decide +kernel) (by decide +kernel)
theorem ml6_192 : Cond.methodLink RX6 192 yX6_lineUpWith ∈ TW := TW_of 788 (by decide +kernel) (by decide +kernel)
theorem ml6_199 : Cond.methodLink RX6 199 yX2_childOfRank ∈ TW := TW_of 457 (by decide +kernel) (by decide +kernel)
theorem ml6_204 : Cond.methodLink RX6 204 yX6_lineUp ∈ TW := TW_of 421 (by decide +kernel) (by decide +kernel)
theorem ml6_208 : Cond.methodLink RX6 208 yX2_sumOfRank ∈ TW := TW_of 822 (by decide +kernel) (by decide +kernel)
theorem ml6_211 : Cond.methodLink RX6 211 yX6_requireLevel ∈ TW := TW_of 842 (by decide +kernel) (by decide +kernel)
theorem ml6_226 : Cond.methodLink RX6 226 yX6_layTable ∈ TW := TW_of 469 (by decide +kernel) (by decide +kernel)
theorem ml6_235 : Cond.methodLink RX6 235 yX6_layTableOfAxes ∈ TW := TW_of 854 (by decide +kernel) (by decide +kernel)
theorem ml6_238 : Cond.methodLink RX6 238 yX6_requireLine ∈ TW := TW_of 873 (by decide +kernel) (by decide +kernel)
theorem ml6_242 : Cond.methodLink RX6 242 yX0_memberOfLine ∈ TW := TW_of 497 (by decide +kernel) (by decide +kernel)
theorem ml6_245 : Cond.methodLink RX6 245 yX6_cellOfLines ∈ TW := TW_of 505 (by decide +kernel) (by decide +kernel)
theorem ml6_252 : Cond.methodLink RX6 252 yX6_levelIn ∈ TW := TW_of 342 (by decide +kernel) (by decide +kernel)
theorem ml6_255 : Cond.methodLink RX6 255 yX6_bitsBehind ∈ TW := TW_of 345 (by decide +kernel) (by decide +kernel)
theorem ml6_258 : Cond.methodLink RX6 258 yX6_cellsOf ∈ TW := TW_of 334 (by decide +kernel) (by decide +kernel)
theorem ml6_267 : Cond.methodLink RX6 267 yX5_fill ∈ TW := TW_of 914 (by decide +kernel) (by decide +kernel)
theorem ml6_270 : Cond.methodLink RX6 270 yX6_requireView ∈ TW := TW_of 926 (by decide +kernel) (by decide +kernel)
theorem ml6_273 : Cond.methodLink RX6 273 yX5_closeGapAt ∈ TW := TW_of 931 (by decide +kernel) (by decide +kernel)
theorem ml6_280 : Cond.methodLink RX6 280 yX6_costOf ∈ TW := TW_of 364 (by decide +kernel) (by decide +kernel)
theorem ml6_283 : Cond.methodLink RX6 283 yX6_viewFor ∈ TW := TW_of 368 (by decide +kernel) (by decide +kernel)
theorem ml6_286 : Cond.methodLink RX6 286 yX6_gainOf ∈ TW := TW_of 387 (by decide +kernel) (by decide +kernel)
theorem ml6_289 : Cond.methodLink RX6 289 yX6_areLevels ∈ TW := TW_of 398 (by decide +kernel) (by decide +kernel)
theorem ml6_294 : Cond.methodLink RX6 294 yX6_mix ∈ TW := TW_of 407 (by decide +kernel) (by decide +kernel)
theorem ml6_298 : Cond.methodLink RX6 298 yX6_mixTree ∈ TW := TW_of 411 (by decide +kernel) (by decide +kernel)
theorem ml6_302 : Cond.methodLink RX6 302 yX6_least ∈ TW := TW_of 415 (by decide +kernel) (by decide +kernel)
theorem ml6_305 : Cond.methodLink RX6 305 yX6_greatest ∈ TW := TW_of 416 (by decide +kernel) (by decide +kernel)
theorem ml6_308 : Cond.methodLink RX6 308 yX6_mixLineup ∈ TW := TW_of 417 (by decide +kernel) (by decide +kernel)
theorem ml6_311 : Cond.methodLink RX6 311 yX6_mixTable ∈ TW := TW_of 465 (by decide +kernel) (by decide +kernel)
theorem ml6_315 : Cond.methodLink RX6 315 yX6_mixViews ∈ TW := TW_of 510 (by decide +kernel) (by decide +kernel)
theorem ml6_327 : Cond.methodLink RX6 327 yX4_leaveNothingOut ∈ TW := TW_of 615 (by decide +kernel) (by decide +kernel)
theorem ml6_330 : Cond.methodLink RX6 330 yX4_isSeen ∈ TW := TW_of 300 (by decide +kernel) (by decide +kernel)
theorem ml6_331 : Cond.methodLink RX6 331 yX2_clearSums ∈ TW := TW_of 445 (by decide +kernel) (by decide +kernel)
theorem ml6_334 : Cond.methodLink RX6 334 yX4_aboveOn ∈ TW := TW_of 348 (by decide +kernel) (by decide +kernel)
theorem ml6_337 : Cond.methodLink RX6 337 yX3_placeOf ∈ TW := TW_of 449 (by decide +kernel) (by decide +kernel)
theorem ml6_344 : Cond.methodLink RX6 344 yX0_hasLine ∈ TW := TW_of 509 (by decide +kernel) (by decide +kernel)
theorem ml6_349 : Cond.methodLink RX6 349 yX6_layAxis ∈ TW := TW_of 473 (by decide +kernel) (by decide +kernel)
theorem ml6_353 : Cond.methodLink RX6 353 yX6_clearCells ∈ TW := TW_of 481 (by decide +kernel) (by decide +kernel)
theorem ml6_356 : Cond.methodLink RX6 356 yX6_putIntoCell ∈ TW := TW_of 485 (by decide +kernel) (by decide +kernel)
theorem ml6_359 : Cond.methodLink RX6 359 yX0_showLines ∈ TW := TW_of 493 (by decide +kernel) (by decide +kernel)
theorem ml6_364 : Cond.methodLink RX6 364 yX0_forgetUse ∈ TW := TW_of 477 (by decide +kernel) (by decide +kernel)
theorem ml6_367 : Cond.methodLink RX6 367 yX6_placeOnAxis ∈ TW := TW_of 489 (by decide +kernel) (by decide +kernel)
theorem ml6_380 : Cond.methodLink RX6 380 yX6_cellAround ∈ TW := TW_of 338 (by decide +kernel) (by decide +kernel)
theorem ml6_383 : Cond.methodLink RX6 383 yX1_isFirstOfItsCell ∈ TW := TW_of 352 (by decide +kernel) (by decide +kernel)
theorem ml6_386 : Cond.methodLink RX6 386 yX5_has ∈ TW := TW_of 375 (by decide +kernel) (by decide +kernel)
theorem ml6_389 : Cond.methodLink RX6 389 yX6_reach ∈ TW := TW_of 372 (by decide +kernel) (by decide +kernel)
theorem ml6_393 : Cond.methodLink RX6 393 yJ9_max_7cf53 ∈ TW := TW_of 391 (by decide +kernel) (by decide +kernel)
theorem ml0_33 : Cond.methodLink RX0 33 yX0_hasLine ∈ TW := TW_of 501 (by decide +kernel) (by decide +kernel)
theorem ml2_26 : Cond.methodLink RX2 26 yX2_childrenAheadOf ∈ TW := TW_of 461 (by decide +kernel) (by decide +kernel)
theorem ml2_30 : Cond.methodLink RX2 30 yX2_childOfRank ∈ TW := TW_of 826 (by decide +kernel) (by decide +kernel)
theorem ml2_33 : Cond.methodLink RX2 33 yX3_hasPlace ∈ TW := TW_of 827 (by decide +kernel) (by decide +kernel)
theorem ml4_29 : Cond.methodLink RX4 29 yX4_has ∈ TW := TW_of 304 (by decide +kernel) (by decide +kernel)
theorem ml4_33 : Cond.methodLink RX4 33 yX4_isFull ∈ TW := TW_of 667 (by decide +kernel) (by decide +kernel)
theorem ml4_43 : Cond.methodLink RX4 43 yX3_append ∈ TW := TW_of 433 (by decide +kernel) (by decide +kernel)
theorem ml4_47 : Cond.methodLink RX4 47 yX4_nextInWalk ∈ TW := TW_of 437 (by decide +kernel) (by decide +kernel)
theorem ml4_51 : Cond.methodLink RX4 51 yX4_childFrom ∈ TW := TW_of 441 (by decide +kernel) (by decide +kernel)
theorem ml5_26 : Cond.methodLink RX5 26 yX5_has ∈ TW := TW_of 918 (by decide +kernel) (by decide +kernel)
theorem mlL_7 : Cond.methodLink RL 7 yX6_addDimension ∈ TW := TW_of 519 (by decide +kernel) (by decide +kernel)
theorem mlL_17 : Cond.methodLink RL 17 yX6_addMember ∈ TW := TW_of 623 (by decide +kernel) (by decide +kernel)
theorem mlL_23 : Cond.methodLink RL 23 yX6_move ∈ TW := TW_of 671 (by decide +kernel) (by decide +kernel)
theorem mlL_27 : Cond.methodLink RL 27 yX6_members ∈ TW := TW_of 685 (by decide +kernel) (by decide +kernel)
theorem mlL_30 : Cond.methodLink RL 30 yX6_parentOf ∈ TW := TW_of 692 (by decide +kernel) (by decide +kernel)
theorem mlL_33 : Cond.methodLink RL 33 yX6_levelOf ∈ TW := TW_of 699 (by decide +kernel) (by decide +kernel)
theorem mlL_36 : Cond.methodLink RL 36 yX6_memberAt ∈ TW := TW_of 706 (by decide +kernel) (by decide +kernel)
theorem mlL_39 : Cond.methodLink RL 39 yX6_leaveOut ∈ TW := TW_of 719 (by decide +kernel) (by decide +kernel)
theorem mlL_43 : Cond.methodLink RL 43 yX6_goTo ∈ TW := TW_of 726 (by decide +kernel) (by decide +kernel)
theorem mlL_46 : Cond.methodLink RL 46 yX6_goUp ∈ TW := TW_of 733 (by decide +kernel) (by decide +kernel)
theorem mlL_49 : Cond.methodLink RL 49 yX6_pointOf ∈ TW := TW_of 740 (by decide +kernel) (by decide +kernel)
theorem mlL_52 : Cond.methodLink RL 52 yX6_add ∈ TW := TW_of 747 (by decide +kernel) (by decide +kernel)
theorem mlL_55 : Cond.methodLink RL 55 yX6_drop ∈ TW := TW_of 761 (by decide +kernel) (by decide +kernel)
theorem mlL_58 : Cond.methodLink RL 58 yX6_children ∈ TW := TW_of 777 (by decide +kernel) (by decide +kernel)
theorem mlL_61 : Cond.methodLink RL 61 yX6_sumOf ∈ TW := TW_of 784 (by decide +kernel) (by decide +kernel)
theorem mlL_64 : Cond.methodLink RL 64 yX6_ranked ∈ TW := TW_of 796 (by decide +kernel) (by decide +kernel)
theorem mlL_67 : Cond.methodLink RL 67 yX6_running ∈ TW := TW_of 803 (by decide +kernel) (by decide +kernel)
theorem mlL_70 : Cond.methodLink RL 70 yX6_share ∈ TW := TW_of 810 (by decide +kernel) (by decide +kernel)
theorem mlL_73 : Cond.methodLink RL 73 yX6_fewest ∈ TW := TW_of 817 (by decide +kernel) (by decide +kernel)
theorem mlL_76 : Cond.methodLink RL 76 yX6_drill ∈ TW := TW_of 831 (by decide +kernel) (by decide +kernel)
theorem mlL_79 : Cond.methodLink RL 79 yX6_setAxes ∈ TW := TW_of 838 (by decide +kernel) (by decide +kernel)
theorem mlL_83 : Cond.methodLink RL 83 yX6_rows ∈ TW := TW_of 850 (by decide +kernel) (by decide +kernel)
theorem mlL_87 : Cond.methodLink RL 87 yX6_columns ∈ TW := TW_of 862 (by decide +kernel) (by decide +kernel)
theorem mlL_90 : Cond.methodLink RL 90 yX6_rowMember ∈ TW := TW_of 869 (by decide +kernel) (by decide +kernel)
theorem mlL_93 : Cond.methodLink RL 93 yX6_columnMember ∈ TW := TW_of 881 (by decide +kernel) (by decide +kernel)
theorem mlL_96 : Cond.methodLink RL 96 yX6_cell ∈ TW := TW_of 888 (by decide +kernel) (by decide +kernel)
theorem mlL_99 : Cond.methodLink RL 99 yX6_peak ∈ TW := TW_of 895 (by decide +kernel) (by decide +kernel)
theorem mlL_102 : Cond.methodLink RL 102 yX6_setLevel ∈ TW := TW_of 902 (by decide +kernel) (by decide +kernel)
theorem mlL_105 : Cond.methodLink RL 105 yX6_keep ∈ TW := TW_of 909 (by decide +kernel) (by decide +kernel)
theorem mlL_108 : Cond.methodLink RL 108 yX6_dropView ∈ TW := TW_of 922 (by decide +kernel) (by decide +kernel)
theorem mlL_111 : Cond.methodLink RL 111 yX6_refresh ∈ TW := TW_of 938 (by decide +kernel) (by decide +kernel)
theorem mlL_114 : Cond.methodLink RL 114 yX6_rowsOf ∈ TW := TW_of 945 (by decide +kernel) (by decide +kernel)
theorem mlL_117 : Cond.methodLink RL 117 yX6_isStale ∈ TW := TW_of 952 (by decide +kernel) (by decide +kernel)
theorem mlL_121 : Cond.methodLink RL 121 yX6_init ∈ TW := TW_of 91 (by decide +kernel) (by decide +kernel)
theorem mlL_124 : Cond.methodLink RL 124 yX7_init ∈ TW := TW_of 958 (by decide +kernel) (by decide +kernel)
theorem mlL_125 : Cond.methodLink RL 125 yL_addDimension ∈ TW := TW_of 514 (by decide +kernel) (by decide +kernel)
theorem mlL_130 : Cond.methodLink RL 130 yX7_addDimension ∈ TW := TW_of 1028 (by decide +kernel) (by decide +kernel)
theorem mlL_131 : Cond.methodLink RL 131 yX7_thrown ∈ TW := TW_of 1024 (by decide +kernel) (by decide +kernel)
theorem mlL_134 : Cond.methodLink RL 134 yL_addMember ∈ TW := TW_of 619 (by decide +kernel) (by decide +kernel)
theorem mlL_137 : Cond.methodLink RL 137 yX7_addMember ∈ TW := TW_of 1042 (by decide +kernel) (by decide +kernel)
theorem mlL_138 : Cond.methodLink RL 138 yL_move ∈ TW := TW_of 668 (by decide +kernel) (by decide +kernel)
theorem mlL_141 : Cond.methodLink RL 141 yX7_move ∈ TW := TW_of 1058 (by decide +kernel) (by decide +kernel)
theorem mlL_142 : Cond.methodLink RL 142 yX6_dimensions ∈ TW := TW_of 284 (by decide +kernel) (by decide +kernel)
theorem mlL_145 : Cond.methodLink RL 145 yX7_dimensions ∈ TW := TW_of 1066 (by decide +kernel) (by decide +kernel)
theorem mlL_146 : Cond.methodLink RL 146 yL_members ∈ TW := TW_of 682 (by decide +kernel) (by decide +kernel)
theorem mlL_148 : Cond.methodLink RL 148 yX7_members ∈ TW := TW_of 1070 (by decide +kernel) (by decide +kernel)
theorem mlL_149 : Cond.methodLink RL 149 yL_parentOf ∈ TW := TW_of 689 (by decide +kernel) (by decide +kernel)
theorem mlL_151 : Cond.methodLink RL 151 yX7_parentOf ∈ TW := TW_of 1074 (by decide +kernel) (by decide +kernel)
theorem mlL_152 : Cond.methodLink RL 152 yL_levelOf ∈ TW := TW_of 696 (by decide +kernel) (by decide +kernel)
theorem mlL_154 : Cond.methodLink RL 154 yX7_levelOf ∈ TW := TW_of 1082 (by decide +kernel) (by decide +kernel)
theorem mlL_155 : Cond.methodLink RL 155 yL_memberAt ∈ TW := TW_of 703 (by decide +kernel) (by decide +kernel)
theorem mlL_157 : Cond.methodLink RL 157 yX7_memberAt ∈ TW := TW_of 1086 (by decide +kernel) (by decide +kernel)
theorem mlL_158 : Cond.methodLink RL 158 yL_leaveOut ∈ TW := TW_of 716 (by decide +kernel) (by decide +kernel)
theorem mlL_161 : Cond.methodLink RL 161 yX7_leaveOut ∈ TW := TW_of 1118 (by decide +kernel) (by decide +kernel)
theorem mlL_162 : Cond.methodLink RL 162 yL_goTo ∈ TW := TW_of 723 (by decide +kernel) (by decide +kernel)
theorem mlL_164 : Cond.methodLink RL 164 yX7_goTo ∈ TW := TW_of 1122 (by decide +kernel) (by decide +kernel)
theorem mlL_165 : Cond.methodLink RL 165 yL_goUp ∈ TW := TW_of 730 (by decide +kernel) (by decide +kernel)
theorem mlL_167 : Cond.methodLink RL 167 yX7_goUp ∈ TW := TW_of 1126 (by decide +kernel) (by decide +kernel)
theorem mlL_168 : Cond.methodLink RL 168 yL_pointOf ∈ TW := TW_of 737 (by decide +kernel) (by decide +kernel)
theorem mlL_170 : Cond.methodLink RL 170 yX7_pointOf ∈ TW := TW_of 1130 (by decide +kernel) (by decide +kernel)
theorem mlL_171 : Cond.methodLink RL 171 yL_add ∈ TW := TW_of 744 (by decide +kernel) (by decide +kernel)
theorem mlL_173 : Cond.methodLink RL 173 yX7_add ∈ TW := TW_of 1134 (by decide +kernel) (by decide +kernel)
theorem mlL_174 : Cond.methodLink RL 174 yL_drop ∈ TW := TW_of 758 (by decide +kernel) (by decide +kernel)
theorem mlL_176 : Cond.methodLink RL 176 yX7_drop ∈ TW := TW_of 1139 (by decide +kernel) (by decide +kernel)
theorem mlL_177 : Cond.methodLink RL 177 yX6_facts ∈ TW := TW_of 288 (by decide +kernel) (by decide +kernel)
theorem mlL_180 : Cond.methodLink RL 180 yX7_facts ∈ TW := TW_of 1143 (by decide +kernel) (by decide +kernel)
theorem mlL_181 : Cond.methodLink RL 181 yX6_count ∈ TW := TW_of 292 (by decide +kernel) (by decide +kernel)
theorem mlL_184 : Cond.methodLink RL 184 yX7_count ∈ TW := TW_of 1147 (by decide +kernel) (by decide +kernel)
theorem mlL_185 : Cond.methodLink RL 185 yX6_sum ∈ TW := TW_of 308 (by decide +kernel) (by decide +kernel)
theorem mlL_188 : Cond.methodLink RL 188 yX7_sum ∈ TW := TW_of 1167 (by decide +kernel) (by decide +kernel)
theorem mlL_189 : Cond.methodLink RL 189 yX6_least ∈ TW := TW_of 312 (by decide +kernel) (by decide +kernel)
theorem mlL_192 : Cond.methodLink RL 192 yX7_least ∈ TW := TW_of 1175 (by decide +kernel) (by decide +kernel)
theorem mlL_193 : Cond.methodLink RL 193 yX6_greatest ∈ TW := TW_of 316 (by decide +kernel) (by decide +kernel)
theorem mlL_196 : Cond.methodLink RL 196 yX7_greatest ∈ TW := TW_of 1183 (by decide +kernel) (by decide +kernel)
theorem mlL_197 : Cond.methodLink RL 197 yX6_mean ∈ TW := TW_of 320 (by decide +kernel) (by decide +kernel)
theorem mlL_201 : Cond.methodLink RL 201 yX7_mean ∈ TW := TW_of 1187 (by decide +kernel) (by decide +kernel)
theorem mlL_202 : Cond.methodLink RL 202 yL_children ∈ TW := TW_of 774 (by decide +kernel) (by decide +kernel)
theorem mlL_204 : Cond.methodLink RL 204 yX7_children ∈ TW := TW_of 1191 (by decide +kernel) (by decide +kernel)
theorem mlL_205 : Cond.methodLink RL 205 yL_sumOf ∈ TW := TW_of 781 (by decide +kernel) (by decide +kernel)
theorem mlL_207 : Cond.methodLink RL 207 yX7_sumOf ∈ TW := TW_of 1199 (by decide +kernel) (by decide +kernel)
theorem mlL_208 : Cond.methodLink RL 208 yL_ranked ∈ TW := TW_of 793 (by decide +kernel) (by decide +kernel)
theorem mlL_210 : Cond.methodLink RL 210 yX7_ranked ∈ TW := TW_of 1215 (by decide +kernel) (by decide +kernel)
theorem mlL_211 : Cond.methodLink RL 211 yL_running ∈ TW := TW_of 800 (by decide +kernel) (by decide +kernel)
theorem mlL_213 : Cond.methodLink RL 213 yX7_running ∈ TW := TW_of 1225 (by decide +kernel) (by decide +kernel)
theorem mlL_214 : Cond.methodLink RL 214 yL_share ∈ TW := TW_of 807 (by decide +kernel) (by decide +kernel)
theorem mlL_216 : Cond.methodLink RL 216 yX7_share ∈ TW := TW_of 1229 (by decide +kernel) (by decide +kernel)
theorem mlL_217 : Cond.methodLink RL 217 yL_fewest ∈ TW := TW_of 814 (by decide +kernel) (by decide +kernel)
theorem mlL_219 : Cond.methodLink RL 219 yX7_fewest ∈ TW := TW_of 1233 (by decide +kernel) (by decide +kernel)
theorem mlL_220 : Cond.methodLink RL 220 yL_drill ∈ TW := TW_of 828 (by decide +kernel) (by decide +kernel)
theorem mlL_222 : Cond.methodLink RL 222 yX7_drill ∈ TW := TW_of 1237 (by decide +kernel) (by decide +kernel)
theorem mlL_223 : Cond.methodLink RL 223 yL_setAxes ∈ TW := TW_of 835 (by decide +kernel) (by decide +kernel)
theorem mlL_226 : Cond.methodLink RL 226 yX7_setAxes ∈ TW := TW_of 1241 (by decide +kernel) (by decide +kernel)
theorem mlL_227 : Cond.methodLink RL 227 yX6_setBare ∈ TW := TW_of 326 (by decide +kernel) (by decide +kernel)
theorem mlL_231 : Cond.methodLink RL 231 yX7_setBare ∈ TW := TW_of 1262 (by decide +kernel) (by decide +kernel)
theorem mlL_232 : Cond.methodLink RL 232 yL_rows ∈ TW := TW_of 847 (by decide +kernel) (by decide +kernel)
theorem mlL_235 : Cond.methodLink RL 235 yX7_rows ∈ TW := TW_of 1266 (by decide +kernel) (by decide +kernel)
theorem mlL_236 : Cond.methodLink RL 236 yL_columns ∈ TW := TW_of 859 (by decide +kernel) (by decide +kernel)
theorem mlL_238 : Cond.methodLink RL 238 yX7_columns ∈ TW := TW_of 1274 (by decide +kernel) (by decide +kernel)
theorem mlL_239 : Cond.methodLink RL 239 yL_rowMember ∈ TW := TW_of 866 (by decide +kernel) (by decide +kernel)
theorem mlL_241 : Cond.methodLink RL 241 yX7_rowMember ∈ TW := TW_of 1278 (by decide +kernel) (by decide +kernel)
theorem mlL_242 : Cond.methodLink RL 242 yL_columnMember ∈ TW := TW_of 878 (by decide +kernel) (by decide +kernel)
theorem mlL_244 : Cond.methodLink RL 244 yX7_columnMember ∈ TW := TW_of 1286 (by decide +kernel) (by decide +kernel)
theorem mlL_245 : Cond.methodLink RL 245 yL_cell ∈ TW := TW_of 885 (by decide +kernel) (by decide +kernel)
theorem mlL_247 : Cond.methodLink RL 247 yX7_cell ∈ TW := TW_of 1290 (by decide +kernel) (by decide +kernel)
theorem mlL_248 : Cond.methodLink RL 248 yL_peak ∈ TW := TW_of 892 (by decide +kernel) (by decide +kernel)
theorem mlL_250 : Cond.methodLink RL 250 yX7_peak ∈ TW := TW_of 1298 (by decide +kernel) (by decide +kernel)
theorem mlL_251 : Cond.methodLink RL 251 yL_setLevel ∈ TW := TW_of 899 (by decide +kernel) (by decide +kernel)
theorem mlL_253 : Cond.methodLink RL 253 yX7_setLevel ∈ TW := TW_of 1302 (by decide +kernel) (by decide +kernel)
theorem mlL_254 : Cond.methodLink RL 254 yX6_cellCount ∈ TW := TW_of 330 (by decide +kernel) (by decide +kernel)
theorem mlL_257 : Cond.methodLink RL 257 yX7_cellCount ∈ TW := TW_of 1306 (by decide +kernel) (by decide +kernel)
theorem mlL_258 : Cond.methodLink RL 258 yL_keep ∈ TW := TW_of 906 (by decide +kernel) (by decide +kernel)
theorem mlL_260 : Cond.methodLink RL 260 yX7_keep ∈ TW := TW_of 1330 (by decide +kernel) (by decide +kernel)
theorem mlL_261 : Cond.methodLink RL 261 yL_dropView ∈ TW := TW_of 919 (by decide +kernel) (by decide +kernel)
theorem mlL_263 : Cond.methodLink RL 263 yX7_dropView ∈ TW := TW_of 1334 (by decide +kernel) (by decide +kernel)
theorem mlL_264 : Cond.methodLink RL 264 yL_refresh ∈ TW := TW_of 935 (by decide +kernel) (by decide +kernel)
theorem mlL_266 : Cond.methodLink RL 266 yX7_refresh ∈ TW := TW_of 1342 (by decide +kernel) (by decide +kernel)
theorem mlL_267 : Cond.methodLink RL 267 yX6_views ∈ TW := TW_of 356 (by decide +kernel) (by decide +kernel)
theorem mlL_270 : Cond.methodLink RL 270 yX7_views ∈ TW := TW_of 1346 (by decide +kernel) (by decide +kernel)
theorem mlL_271 : Cond.methodLink RL 271 yL_rowsOf ∈ TW := TW_of 942 (by decide +kernel) (by decide +kernel)
theorem mlL_273 : Cond.methodLink RL 273 yX7_rowsOf ∈ TW := TW_of 1350 (by decide +kernel) (by decide +kernel)
theorem mlL_274 : Cond.methodLink RL 274 yL_isStale ∈ TW := TW_of 949 (by decide +kernel) (by decide +kernel)
theorem mlL_276 : Cond.methodLink RL 276 yX7_isStale ∈ TW := TW_of 1354 (by decide +kernel) (by decide +kernel)
theorem mlL_277 : Cond.methodLink RL 277 yX6_cost ∈ TW := TW_of 360 (by decide +kernel) (by decide +kernel)
theorem mlL_280 : Cond.methodLink RL 280 yX7_cost ∈ TW := TW_of 1358 (by decide +kernel) (by decide +kernel)
theorem mlL_281 : Cond.methodLink RL 281 yX6_answeredBy ∈ TW := TW_of 379 (by decide +kernel) (by decide +kernel)
theorem mlL_284 : Cond.methodLink RL 284 yX7_answeredBy ∈ TW := TW_of 1374 (by decide +kernel) (by decide +kernel)
theorem mlL_285 : Cond.methodLink RL 285 yX6_gain ∈ TW := TW_of 383 (by decide +kernel) (by decide +kernel)
theorem mlL_288 : Cond.methodLink RL 288 yX7_gain ∈ TW := TW_of 1378 (by decide +kernel) (by decide +kernel)
theorem mlL_289 : Cond.methodLink RL 289 yX6_advise ∈ TW := TW_of 394 (by decide +kernel) (by decide +kernel)
theorem mlL_292 : Cond.methodLink RL 292 yX7_advise ∈ TW := TW_of 1391 (by decide +kernel) (by decide +kernel)
theorem mlL_293 : Cond.methodLink RL 293 yX6_digest ∈ TW := TW_of 402 (by decide +kernel) (by decide +kernel)
theorem mlL_297 : Cond.methodLink RL 297 yX7_digest ∈ TW := TW_of 1395 (by decide +kernel) (by decide +kernel)
theorem ml7_59 : Cond.methodLink RX7 59 yX7_is ∈ TW := TW_of 1032 (by decide +kernel) (by decide +kernel)
theorem ml7_63 : Cond.methodLink RX7 63 yX7_isDimension ∈ TW := TW_of 1050 (by decide +kernel) (by decide +kernel)
theorem ml7_67 : Cond.methodLink RX7 67 yX7_depth ∈ TW := TW_of 1054 (by decide +kernel) (by decide +kernel)
theorem ml7_71 : Cond.methodLink RX7 71 yX7_walk ∈ TW := TW_of 1098 (by decide +kernel) (by decide +kernel)
theorem ml7_75 : Cond.methodLink RX7 75 yJ7_copyOf_59c91 ∈ TW := TW_of 1102 (by decide +kernel) (by decide +kernel)
theorem ml7_81 : Cond.methodLink RX7 81 yJ7_fill_49daa ∈ TW := TW_of 1039 (by decide +kernel) (by decide +kernel)
theorem ml7_85 : Cond.methodLink RX7 85 yX7_refuse ∈ TW := TW_of 1035 (by decide +kernel) (by decide +kernel)
theorem ml7_99 : Cond.methodLink RX7 99 yX7_isMember ∈ TW := TW_of 1046 (by decide +kernel) (by decide +kernel)
theorem ml7_103 : Cond.methodLink RX7 103 yX7_stale ∈ TW := TW_of 1062 (by decide +kernel) (by decide +kernel)
theorem ml7_106 : Cond.methodLink RX7 106 yX7_parentNow ∈ TW := TW_of 1078 (by decide +kernel) (by decide +kernel)
theorem ml7_109 : Cond.methodLink RX7 109 yX7_isLevel ∈ TW := TW_of 1090 (by decide +kernel) (by decide +kernel)
theorem ml7_112 : Cond.methodLink RX7 112 yX7_membersOf ∈ TW := TW_of 1094 (by decide +kernel) (by decide +kernel)
theorem ml7_120 : Cond.methodLink RX7 120 yX7_isBeneath ∈ TW := TW_of 1159 (by decide +kernel) (by decide +kernel)
theorem ml7_123 : Cond.methodLink RX7 123 yX7_isOutAt ∈ TW := TW_of 1163 (by decide +kernel) (by decide +kernel)
theorem ml7_126 : Cond.methodLink RX7 126 yX7_counts ∈ TW := TW_of 1155 (by decide +kernel) (by decide +kernel)
theorem ml7_129 : Cond.methodLink RX7 129 yX7_countNow ∈ TW := TW_of 1151 (by decide +kernel) (by decide +kernel)
theorem ml7_133 : Cond.methodLink RX7 133 yX7_sumNow ∈ TW := TW_of 1171 (by decide +kernel) (by decide +kernel)
theorem ml7_136 : Cond.methodLink RX7 136 yX7_end ∈ TW := TW_of 1179 (by decide +kernel) (by decide +kernel)
theorem ml7_139 : Cond.methodLink RX7 139 yX7_childrenOf ∈ TW := TW_of 1195 (by decide +kernel) (by decide +kernel)
theorem ml7_143 : Cond.methodLink RX7 143 yX7_sumAt ∈ TW := TW_of 1211 (by decide +kernel) (by decide +kernel)
theorem ml7_146 : Cond.methodLink RX7 146 yX7_rankOf ∈ TW := TW_of 1222 (by decide +kernel) (by decide +kernel)
theorem ml7_150 : Cond.methodLink RX7 150 yX7_hasChild ∈ TW := TW_of 1203 (by decide +kernel) (by decide +kernel)
theorem ml7_153 : Cond.methodLink RX7 153 yX7_sums ∈ TW := TW_of 1207 (by decide +kernel) (by decide +kernel)
theorem ml7_156 : Cond.methodLink RX7 156 yX7_ofRank ∈ TW := TW_of 1219 (by decide +kernel) (by decide +kernel)
theorem ml7_165 : Cond.methodLink RX7 165 yX7_lines ∈ TW := TW_of 1246 (by decide +kernel) (by decide +kernel)
theorem ml7_171 : Cond.methodLink RX7 171 yX7_allLines ∈ TW := TW_of 1250 (by decide +kernel) (by decide +kernel)
theorem ml7_174 : Cond.methodLink RX7 174 yX7_isIn ∈ TW := TW_of 1258 (by decide +kernel) (by decide +kernel)
theorem ml7_177 : Cond.methodLink RX7 177 yX7_hasFact ∈ TW := TW_of 1254 (by decide +kernel) (by decide +kernel)
theorem ml7_180 : Cond.methodLink RX7 180 yX7_canLay ∈ TW := TW_of 1270 (by decide +kernel) (by decide +kernel)
theorem ml7_184 : Cond.methodLink RX7 184 yX7_line ∈ TW := TW_of 1282 (by decide +kernel) (by decide +kernel)
theorem ml7_187 : Cond.methodLink RX7 187 yX7_cellOf ∈ TW := TW_of 1294 (by decide +kernel) (by decide +kernel)
theorem ml7_190 : Cond.methodLink RX7 190 yX7_digit ∈ TW := TW_of 1322 (by decide +kernel) (by decide +kernel)
theorem ml7_193 : Cond.methodLink RX7 193 yX7_memberOn ∈ TW := TW_of 1326 (by decide +kernel) (by decide +kernel)
theorem ml7_197 : Cond.methodLink RX7 197 yX7_areInOne ∈ TW := TW_of 1318 (by decide +kernel) (by decide +kernel)
theorem ml7_200 : Cond.methodLink RX7 200 yX7_answers ∈ TW := TW_of 1370 (by decide +kernel) (by decide +kernel)
theorem ml7_203 : Cond.methodLink RX7 203 yX7_answering ∈ TW := TW_of 1366 (by decide +kernel) (by decide +kernel)
theorem ml7_206 : Cond.methodLink RX7 206 yX7_cells ∈ TW := TW_of 1314 (by decide +kernel) (by decide +kernel)
theorem ml7_209 : Cond.methodLink RX7 209 yX7_areLevels ∈ TW := TW_of 1386 (by decide +kernel) (by decide +kernel)
theorem ml7_212 : Cond.methodLink RX7 212 yX7_costOf ∈ TW := TW_of 1362 (by decide +kernel) (by decide +kernel)
theorem ml7_215 : Cond.methodLink RX7 215 yJ9_max_7cf53 ∈ TW := TW_of 1390 (by decide +kernel) (by decide +kernel)
theorem ml7_220 : Cond.methodLink RX7 220 yX7_levelsNow ∈ TW := TW_of 1310 (by decide +kernel) (by decide +kernel)
theorem ml7_223 : Cond.methodLink RX7 223 yX7_isView ∈ TW := TW_of 1338 (by decide +kernel) (by decide +kernel)
theorem ml7_226 : Cond.methodLink RX7 226 yX7_gainOf ∈ TW := TW_of 1382 (by decide +kernel) (by decide +kernel)
theorem ml7_235 : Cond.methodLink RX7 235 yX7_put ∈ TW := TW_of 1400 (by decide +kernel) (by decide +kernel)
theorem ml7_241 : Cond.methodLink RX7 241 yX7_putTable ∈ TW := TW_of 1405 (by decide +kernel) (by decide +kernel)
theorem cvX0_forgetUse : CV yX0_forgetUse cX0_forgetUse 2 none 0 := ⟨TW_of 478 (by decide +kernel) (by decide +kernel), TW_of 479 (by decide +kernel) (by decide +kernel), TW_of 75 (by decide +kernel) (by decide +kernel), TW_of 480 (by decide +kernel) (by decide +kernel), by decide +kernel, by decide +kernel, by decide +kernel⟩
theorem cvX0_showLines : CV yX0_showLines cX0_showLines 3 none 1 := ⟨TW_of 494 (by decide +kernel) (by decide +kernel), TW_of 495 (by decide +kernel) (by decide +kernel), TW_of 75 (by decide +kernel) (by decide +kernel), TW_of 496 (by decide +kernel) (by decide +kernel), by decide +kernel, by decide +kernel, by decide +kernel⟩
theorem cvX0_hasLine : CV yX0_hasLine cX0_hasLine 2 (some .boolean) 1 := ⟨TW_of 502 (by decide +kernel) (by decide +kernel), TW_of 503 (by decide +kernel) (by decide +kernel), TW_of 75 (by decide +kernel) (by decide +kernel), TW_of 504 (by decide +kernel) (by decide +kernel), by decide +kernel, by decide +kernel, by decide +kernel⟩
theorem cvX0_memberOfLine : CV yX0_memberOfLine cX0_memberOfLine 2 (some .int) 1 := ⟨TW_of 498 (by decide +kernel) (by decide +kernel), TW_of 499 (by decide +kernel) (by decide +kernel), TW_of 75 (by decide +kernel) (by decide +kernel), TW_of 500 (by decide +kernel) (by decide +kernel), by decide +kernel, by decide +kernel, by decide +kernel⟩
theorem cvX1_has : CV yX1_has cX1_has 2 (some .boolean) 1 := ⟨TW_of 766 (by decide +kernel) (by decide +kernel), TW_of 767 (by decide +kernel) (by decide +kernel), TW_of 73 (by decide +kernel) (by decide +kernel), TW_of 768 (by decide +kernel) (by decide +kernel), by decide +kernel, by decide +kernel, by decide +kernel⟩
theorem cvX1_closeGapAt : CV yX1_closeGapAt cX1_closeGapAt 4 none 1 := ⟨TW_of 771 (by decide +kernel) (by decide +kernel), TW_of 772 (by decide +kernel) (by decide +kernel), TW_of 73 (by decide +kernel) (by decide +kernel), TW_of 773 (by decide +kernel) (by decide +kernel), by decide +kernel, by decide +kernel, by decide +kernel⟩
theorem cvX1_isFirstOfItsCell : CV yX1_isFirstOfItsCell cX1_isFirstOfItsCell 3 (some .boolean) 1 := ⟨TW_of 353 (by decide +kernel) (by decide +kernel), TW_of 354 (by decide +kernel) (by decide +kernel), TW_of 73 (by decide +kernel) (by decide +kernel), TW_of 355 (by decide +kernel) (by decide +kernel), by decide +kernel, by decide +kernel, by decide +kernel⟩
theorem cvX2_clearSums : CV yX2_clearSums cX2_clearSums 2 none 0 := ⟨TW_of 446 (by decide +kernel) (by decide +kernel), TW_of 447 (by decide +kernel) (by decide +kernel), TW_of 77 (by decide +kernel) (by decide +kernel), TW_of 448 (by decide +kernel) (by decide +kernel), by decide +kernel, by decide +kernel, by decide +kernel⟩
theorem cvX2_childOfRank : CV yX2_childOfRank cX2_childOfRank 3 (some .int) 1 := ⟨TW_of 458 (by decide +kernel) (by decide +kernel), TW_of 459 (by decide +kernel) (by decide +kernel), TW_of 77 (by decide +kernel) (by decide +kernel), TW_of 460 (by decide +kernel) (by decide +kernel), by decide +kernel, by decide +kernel, by decide +kernel⟩
theorem cvX2_sumOfRank : CV yX2_sumOfRank cX2_sumOfRank 3 (some .int) 1 := ⟨TW_of 823 (by decide +kernel) (by decide +kernel), TW_of 824 (by decide +kernel) (by decide +kernel), TW_of 77 (by decide +kernel) (by decide +kernel), TW_of 825 (by decide +kernel) (by decide +kernel), by decide +kernel, by decide +kernel, by decide +kernel⟩
theorem cvX2_childrenAheadOf : CV yX2_childrenAheadOf cX2_childrenAheadOf 5 (some .int) 1 := ⟨TW_of 463 (by decide +kernel) (by decide +kernel), TW_of 12 (by decide +kernel) (by decide +kernel), TW_of 77 (by decide +kernel) (by decide +kernel), TW_of 464 (by decide +kernel) (by decide +kernel), by decide +kernel, by decide +kernel, by decide +kernel⟩
theorem cvX3_append : CV yX3_append cX3_append 2 none 1 := ⟨TW_of 434 (by decide +kernel) (by decide +kernel), TW_of 435 (by decide +kernel) (by decide +kernel), TW_of 76 (by decide +kernel) (by decide +kernel), TW_of 436 (by decide +kernel) (by decide +kernel), by decide +kernel, by decide +kernel, by decide +kernel⟩
theorem cvX3_hasPlace : CV yX3_hasPlace cX3_hasPlace 2 (some .boolean) 1 := ⟨TW_of 454 (by decide +kernel) (by decide +kernel), TW_of 455 (by decide +kernel) (by decide +kernel), TW_of 76 (by decide +kernel) (by decide +kernel), TW_of 456 (by decide +kernel) (by decide +kernel), by decide +kernel, by decide +kernel, by decide +kernel⟩
theorem cvX3_placeOf : CV yX3_placeOf cX3_placeOf 3 (some .int) 1 := ⟨TW_of 450 (by decide +kernel) (by decide +kernel), TW_of 451 (by decide +kernel) (by decide +kernel), TW_of 76 (by decide +kernel) (by decide +kernel), TW_of 452 (by decide +kernel) (by decide +kernel), by decide +kernel, by decide +kernel, by decide +kernel⟩
theorem cvX4_plant : CV yX4_plant cX4_plant 2 none 1 := ⟨TW_of 608 (by decide +kernel) (by decide +kernel), TW_of 609 (by decide +kernel) (by decide +kernel), TW_of 78 (by decide +kernel) (by decide +kernel), TW_of 610 (by decide +kernel) (by decide +kernel), by decide +kernel, by decide +kernel, by decide +kernel⟩
theorem cvX4_has : CV yX4_has cX4_has 2 (some .boolean) 1 := ⟨TW_of 305 (by decide +kernel) (by decide +kernel), TW_of 306 (by decide +kernel) (by decide +kernel), TW_of 78 (by decide +kernel) (by decide +kernel), TW_of 307 (by decide +kernel) (by decide +kernel), by decide +kernel, by decide +kernel, by decide +kernel⟩
theorem cvX4_isFull : CV yX4_isFull cX4_isFull 1 (some .boolean) 0 := ⟨TW_of 659 (by decide +kernel) (by decide +kernel), TW_of 660 (by decide +kernel) (by decide +kernel), TW_of 78 (by decide +kernel) (by decide +kernel), TW_of 661 (by decide +kernel) (by decide +kernel), by decide +kernel, by decide +kernel, by decide +kernel⟩
theorem cvX4_isLeaf : CV yX4_isLeaf cX4_isLeaf 2 (some .boolean) 1 := ⟨TW_of 654 (by decide +kernel) (by decide +kernel), TW_of 655 (by decide +kernel) (by decide +kernel), TW_of 78 (by decide +kernel) (by decide +kernel), TW_of 656 (by decide +kernel) (by decide +kernel), by decide +kernel, by decide +kernel, by decide +kernel⟩
theorem cvX4_grow : CV yX4_grow cX4_grow 3 (some .int) 1 := ⟨TW_of 664 (by decide +kernel) (by decide +kernel), TW_of 665 (by decide +kernel) (by decide +kernel), TW_of 78 (by decide +kernel) (by decide +kernel), TW_of 666 (by decide +kernel) (by decide +kernel), by decide +kernel, by decide +kernel, by decide +kernel⟩
theorem cvX4_leaveNothingOut : CV yX4_leaveNothingOut cX4_leaveNothingOut 2 none 0 := ⟨TW_of 616 (by decide +kernel) (by decide +kernel), TW_of 617 (by decide +kernel) (by decide +kernel), TW_of 78 (by decide +kernel) (by decide +kernel), TW_of 618 (by decide +kernel) (by decide +kernel), by decide +kernel, by decide +kernel, by decide +kernel⟩
theorem cvX4_depthOfChildren : CV yX4_depthOfChildren cX4_depthOfChildren 1 (some .int) 0 := ⟨TW_of 426 (by decide +kernel) (by decide +kernel), TW_of 427 (by decide +kernel) (by decide +kernel), TW_of 78 (by decide +kernel) (by decide +kernel), TW_of 428 (by decide +kernel) (by decide +kernel), by decide +kernel, by decide +kernel, by decide +kernel⟩
theorem cvX4_isSeen : CV yX4_isSeen cX4_isSeen 5 (some .boolean) 1 := ⟨TW_of 301 (by decide +kernel) (by decide +kernel), TW_of 302 (by decide +kernel) (by decide +kernel), TW_of 78 (by decide +kernel) (by decide +kernel), TW_of 303 (by decide +kernel) (by decide +kernel), by decide +kernel, by decide +kernel, by decide +kernel⟩
theorem cvX4_aboveOn : CV yX4_aboveOn cX4_aboveOn 5 (some .int) 2 := ⟨TW_of 349 (by decide +kernel) (by decide +kernel), TW_of 350 (by decide +kernel) (by decide +kernel), TW_of 78 (by decide +kernel) (by decide +kernel), TW_of 351 (by decide +kernel) (by decide +kernel), by decide +kernel, by decide +kernel, by decide +kernel⟩
theorem cvX4_listBeneath : CV yX4_listBeneath cX4_listBeneath 6 none 3 := ⟨TW_of 430 (by decide +kernel) (by decide +kernel), TW_of 431 (by decide +kernel) (by decide +kernel), TW_of 78 (by decide +kernel) (by decide +kernel), TW_of 432 (by decide +kernel) (by decide +kernel), by decide +kernel, by decide +kernel, by decide +kernel⟩
theorem cvX4_nextInWalk : CV yX4_nextInWalk cX4_nextInWalk 6 (some .int) 2 := ⟨TW_of 439 (by decide +kernel) (by decide +kernel), TW_of 10 (by decide +kernel) (by decide +kernel), TW_of 78 (by decide +kernel) (by decide +kernel), TW_of 440 (by decide +kernel) (by decide +kernel), by decide +kernel, by decide +kernel, by decide +kernel⟩
theorem cvX4_childFrom : CV yX4_childFrom cX4_childFrom 4 (some .int) 2 := ⟨TW_of 443 (by decide +kernel) (by decide +kernel), TW_of 11 (by decide +kernel) (by decide +kernel), TW_of 78 (by decide +kernel) (by decide +kernel), TW_of 444 (by decide +kernel) (by decide +kernel), by decide +kernel, by decide +kernel, by decide +kernel⟩
theorem cvX5_has : CV yX5_has cX5_has 2 (some .boolean) 1 := ⟨TW_of 376 (by decide +kernel) (by decide +kernel), TW_of 377 (by decide +kernel) (by decide +kernel), TW_of 74 (by decide +kernel) (by decide +kernel), TW_of 378 (by decide +kernel) (by decide +kernel), by decide +kernel, by decide +kernel, by decide +kernel⟩
theorem cvX5_fill : CV yX5_fill cX5_fill 3 none 2 := ⟨TW_of 915 (by decide +kernel) (by decide +kernel), TW_of 916 (by decide +kernel) (by decide +kernel), TW_of 74 (by decide +kernel) (by decide +kernel), TW_of 917 (by decide +kernel) (by decide +kernel), by decide +kernel, by decide +kernel, by decide +kernel⟩
theorem cvX5_makeAllStale : CV yX5_makeAllStale cX5_makeAllStale 2 none 0 := ⟨TW_of 679 (by decide +kernel) (by decide +kernel), TW_of 680 (by decide +kernel) (by decide +kernel), TW_of 74 (by decide +kernel) (by decide +kernel), TW_of 681 (by decide +kernel) (by decide +kernel), by decide +kernel, by decide +kernel, by decide +kernel⟩
theorem cvX5_closeGapAt : CV yX5_closeGapAt cX5_closeGapAt 3 none 1 := ⟨TW_of 932 (by decide +kernel) (by decide +kernel), TW_of 933 (by decide +kernel) (by decide +kernel), TW_of 74 (by decide +kernel) (by decide +kernel), TW_of 934 (by decide +kernel) (by decide +kernel), by decide +kernel, by decide +kernel, by decide +kernel⟩
theorem cvX6_addDimension : CV yX6_addDimension cX6_addDimension 3 (some .int) 1 := ⟨TW_of 520 (by decide +kernel) (by decide +kernel), TW_of 521 (by decide +kernel) (by decide +kernel), TW_of 72 (by decide +kernel) (by decide +kernel), TW_of 522 (by decide +kernel) (by decide +kernel), by decide +kernel, by decide +kernel, by decide +kernel⟩
theorem cvX6_addMember : CV yX6_addMember cX6_addMember 4 (some .int) 2 := ⟨TW_of 624 (by decide +kernel) (by decide +kernel), TW_of 625 (by decide +kernel) (by decide +kernel), TW_of 72 (by decide +kernel) (by decide +kernel), TW_of 626 (by decide +kernel) (by decide +kernel), by decide +kernel, by decide +kernel, by decide +kernel⟩
theorem cvX6_move : CV yX6_move cX6_move 6 (some .int) 3 := ⟨TW_of 672 (by decide +kernel) (by decide +kernel), TW_of 673 (by decide +kernel) (by decide +kernel), TW_of 72 (by decide +kernel) (by decide +kernel), TW_of 674 (by decide +kernel) (by decide +kernel), by decide +kernel, by decide +kernel, by decide +kernel⟩
theorem cvX6_dimensions : CV yX6_dimensions cX6_dimensions 1 (some .int) 0 := ⟨TW_of 285 (by decide +kernel) (by decide +kernel), TW_of 286 (by decide +kernel) (by decide +kernel), TW_of 72 (by decide +kernel) (by decide +kernel), TW_of 287 (by decide +kernel) (by decide +kernel), by decide +kernel, by decide +kernel, by decide +kernel⟩
theorem cvX6_members : CV yX6_members cX6_members 2 (some .int) 1 := ⟨TW_of 686 (by decide +kernel) (by decide +kernel), TW_of 687 (by decide +kernel) (by decide +kernel), TW_of 72 (by decide +kernel) (by decide +kernel), TW_of 688 (by decide +kernel) (by decide +kernel), by decide +kernel, by decide +kernel, by decide +kernel⟩
theorem cvX6_parentOf : CV yX6_parentOf cX6_parentOf 3 (some .int) 2 := ⟨TW_of 693 (by decide +kernel) (by decide +kernel), TW_of 694 (by decide +kernel) (by decide +kernel), TW_of 72 (by decide +kernel) (by decide +kernel), TW_of 695 (by decide +kernel) (by decide +kernel), by decide +kernel, by decide +kernel, by decide +kernel⟩
theorem cvX6_levelOf : CV yX6_levelOf cX6_levelOf 3 (some .int) 2 := ⟨TW_of 700 (by decide +kernel) (by decide +kernel), TW_of 701 (by decide +kernel) (by decide +kernel), TW_of 72 (by decide +kernel) (by decide +kernel), TW_of 702 (by decide +kernel) (by decide +kernel), by decide +kernel, by decide +kernel, by decide +kernel⟩
theorem cvX6_memberAt : CV yX6_memberAt cX6_memberAt 5 (some .int) 3 := ⟨TW_of 707 (by decide +kernel) (by decide +kernel), TW_of 708 (by decide +kernel) (by decide +kernel), TW_of 72 (by decide +kernel) (by decide +kernel), TW_of 709 (by decide +kernel) (by decide +kernel), by decide +kernel, by decide +kernel, by decide +kernel⟩
theorem cvX6_leaveOut : CV yX6_leaveOut cX6_leaveOut 6 (some .boolean) 3 := ⟨TW_of 720 (by decide +kernel) (by decide +kernel), TW_of 721 (by decide +kernel) (by decide +kernel), TW_of 72 (by decide +kernel) (by decide +kernel), TW_of 722 (by decide +kernel) (by decide +kernel), by decide +kernel, by decide +kernel, by decide +kernel⟩
theorem cvX6_goTo : CV yX6_goTo cX6_goTo 5 (some .int) 2 := ⟨TW_of 727 (by decide +kernel) (by decide +kernel), TW_of 728 (by decide +kernel) (by decide +kernel), TW_of 72 (by decide +kernel) (by decide +kernel), TW_of 729 (by decide +kernel) (by decide +kernel), by decide +kernel, by decide +kernel, by decide +kernel⟩
theorem cvX6_goUp : CV yX6_goUp cX6_goUp 3 (some .int) 1 := ⟨TW_of 734 (by decide +kernel) (by decide +kernel), TW_of 735 (by decide +kernel) (by decide +kernel), TW_of 72 (by decide +kernel) (by decide +kernel), TW_of 736 (by decide +kernel) (by decide +kernel), by decide +kernel, by decide +kernel, by decide +kernel⟩
theorem cvX6_pointOf : CV yX6_pointOf cX6_pointOf 2 (some .int) 1 := ⟨TW_of 741 (by decide +kernel) (by decide +kernel), TW_of 742 (by decide +kernel) (by decide +kernel), TW_of 72 (by decide +kernel) (by decide +kernel), TW_of 743 (by decide +kernel) (by decide +kernel), by decide +kernel, by decide +kernel, by decide +kernel⟩
theorem cvX6_add : CV yX6_add cX6_add 4 (some .int) 1 := ⟨TW_of 748 (by decide +kernel) (by decide +kernel), TW_of 749 (by decide +kernel) (by decide +kernel), TW_of 72 (by decide +kernel) (by decide +kernel), TW_of 750 (by decide +kernel) (by decide +kernel), by decide +kernel, by decide +kernel, by decide +kernel⟩
theorem cvX6_drop : CV yX6_drop cX6_drop 3 (some .int) 1 := ⟨TW_of 762 (by decide +kernel) (by decide +kernel), TW_of 763 (by decide +kernel) (by decide +kernel), TW_of 72 (by decide +kernel) (by decide +kernel), TW_of 764 (by decide +kernel) (by decide +kernel), by decide +kernel, by decide +kernel, by decide +kernel⟩
theorem cvX6_facts : CV yX6_facts cX6_facts 1 (some .int) 0 := ⟨TW_of 289 (by decide +kernel) (by decide +kernel), TW_of 290 (by decide +kernel) (by decide +kernel), TW_of 72 (by decide +kernel) (by decide +kernel), TW_of 291 (by decide +kernel) (by decide +kernel), by decide +kernel, by decide +kernel, by decide +kernel⟩
theorem cvX6_count : CV yX6_count cX6_count 3 (some .int) 0 := ⟨TW_of 293 (by decide +kernel) (by decide +kernel), TW_of 294 (by decide +kernel) (by decide +kernel), TW_of 72 (by decide +kernel) (by decide +kernel), TW_of 295 (by decide +kernel) (by decide +kernel), by decide +kernel, by decide +kernel, by decide +kernel⟩
theorem cvX6_sum : CV yX6_sum cX6_sum 3 (some .int) 0 := ⟨TW_of 309 (by decide +kernel) (by decide +kernel), TW_of 310 (by decide +kernel) (by decide +kernel), TW_of 72 (by decide +kernel) (by decide +kernel), TW_of 311 (by decide +kernel) (by decide +kernel), by decide +kernel, by decide +kernel, by decide +kernel⟩
theorem cvX6_least : CV yX6_least cX6_least 3 (some .int) 0 := ⟨TW_of 313 (by decide +kernel) (by decide +kernel), TW_of 314 (by decide +kernel) (by decide +kernel), TW_of 72 (by decide +kernel) (by decide +kernel), TW_of 315 (by decide +kernel) (by decide +kernel), by decide +kernel, by decide +kernel, by decide +kernel⟩
theorem cvX6_greatest : CV yX6_greatest cX6_greatest 3 (some .int) 0 := ⟨TW_of 317 (by decide +kernel) (by decide +kernel), TW_of 318 (by decide +kernel) (by decide +kernel), TW_of 72 (by decide +kernel) (by decide +kernel), TW_of 319 (by decide +kernel) (by decide +kernel), by decide +kernel, by decide +kernel, by decide +kernel⟩
theorem cvX6_mean : CV yX6_mean cX6_mean 2 (some .double) 0 := ⟨TW_of 321 (by decide +kernel) (by decide +kernel), TW_of 322 (by decide +kernel) (by decide +kernel), TW_of 72 (by decide +kernel) (by decide +kernel), TW_of 323 (by decide +kernel) (by decide +kernel), by decide +kernel, by decide +kernel, by decide +kernel⟩
theorem cvX6_children : CV yX6_children cX6_children 3 (some .int) 1 := ⟨TW_of 778 (by decide +kernel) (by decide +kernel), TW_of 779 (by decide +kernel) (by decide +kernel), TW_of 72 (by decide +kernel) (by decide +kernel), TW_of 780 (by decide +kernel) (by decide +kernel), by decide +kernel, by decide +kernel, by decide +kernel⟩
theorem cvX6_sumOf : CV yX6_sumOf cX6_sumOf 3 (some .int) 2 := ⟨TW_of 785 (by decide +kernel) (by decide +kernel), TW_of 786 (by decide +kernel) (by decide +kernel), TW_of 72 (by decide +kernel) (by decide +kernel), TW_of 787 (by decide +kernel) (by decide +kernel), by decide +kernel, by decide +kernel, by decide +kernel⟩
theorem cvX6_ranked : CV yX6_ranked cX6_ranked 3 (some .int) 2 := ⟨TW_of 797 (by decide +kernel) (by decide +kernel), TW_of 798 (by decide +kernel) (by decide +kernel), TW_of 72 (by decide +kernel) (by decide +kernel), TW_of 799 (by decide +kernel) (by decide +kernel), by decide +kernel, by decide +kernel, by decide +kernel⟩
theorem cvX6_running : CV yX6_running cX6_running 5 (some .int) 2 := ⟨TW_of 804 (by decide +kernel) (by decide +kernel), TW_of 805 (by decide +kernel) (by decide +kernel), TW_of 72 (by decide +kernel) (by decide +kernel), TW_of 806 (by decide +kernel) (by decide +kernel), by decide +kernel, by decide +kernel, by decide +kernel⟩
theorem cvX6_share : CV yX6_share cX6_share 4 (some .int) 2 := ⟨TW_of 811 (by decide +kernel) (by decide +kernel), TW_of 812 (by decide +kernel) (by decide +kernel), TW_of 72 (by decide +kernel) (by decide +kernel), TW_of 813 (by decide +kernel) (by decide +kernel), by decide +kernel, by decide +kernel, by decide +kernel⟩
theorem cvX6_fewest : CV yX6_fewest cX6_fewest 7 (some .int) 2 := ⟨TW_of 818 (by decide +kernel) (by decide +kernel), TW_of 819 (by decide +kernel) (by decide +kernel), TW_of 72 (by decide +kernel) (by decide +kernel), TW_of 820 (by decide +kernel) (by decide +kernel), by decide +kernel, by decide +kernel, by decide +kernel⟩
theorem cvX6_drill : CV yX6_drill cX6_drill 5 (some .int) 1 := ⟨TW_of 832 (by decide +kernel) (by decide +kernel), TW_of 833 (by decide +kernel) (by decide +kernel), TW_of 72 (by decide +kernel) (by decide +kernel), TW_of 834 (by decide +kernel) (by decide +kernel), by decide +kernel, by decide +kernel, by decide +kernel⟩
theorem cvX6_setAxes : CV yX6_setAxes cX6_setAxes 5 (some .int) 4 := ⟨TW_of 839 (by decide +kernel) (by decide +kernel), TW_of 840 (by decide +kernel) (by decide +kernel), TW_of 72 (by decide +kernel) (by decide +kernel), TW_of 841 (by decide +kernel) (by decide +kernel), by decide +kernel, by decide +kernel, by decide +kernel⟩
theorem cvX6_setBare : CV yX6_setBare cX6_setBare 3 (some .boolean) 1 := ⟨TW_of 327 (by decide +kernel) (by decide +kernel), TW_of 328 (by decide +kernel) (by decide +kernel), TW_of 72 (by decide +kernel) (by decide +kernel), TW_of 329 (by decide +kernel) (by decide +kernel), by decide +kernel, by decide +kernel, by decide +kernel⟩
theorem cvX6_rows : CV yX6_rows cX6_rows 1 (some .int) 0 := ⟨TW_of 851 (by decide +kernel) (by decide +kernel), TW_of 852 (by decide +kernel) (by decide +kernel), TW_of 72 (by decide +kernel) (by decide +kernel), TW_of 853 (by decide +kernel) (by decide +kernel), by decide +kernel, by decide +kernel, by decide +kernel⟩
theorem cvX6_columns : CV yX6_columns cX6_columns 1 (some .int) 0 := ⟨TW_of 863 (by decide +kernel) (by decide +kernel), TW_of 864 (by decide +kernel) (by decide +kernel), TW_of 72 (by decide +kernel) (by decide +kernel), TW_of 865 (by decide +kernel) (by decide +kernel), by decide +kernel, by decide +kernel, by decide +kernel⟩
theorem cvX6_rowMember : CV yX6_rowMember cX6_rowMember 2 (some .int) 1 := ⟨TW_of 870 (by decide +kernel) (by decide +kernel), TW_of 871 (by decide +kernel) (by decide +kernel), TW_of 72 (by decide +kernel) (by decide +kernel), TW_of 872 (by decide +kernel) (by decide +kernel), by decide +kernel, by decide +kernel, by decide +kernel⟩
theorem cvX6_columnMember : CV yX6_columnMember cX6_columnMember 2 (some .int) 1 := ⟨TW_of 882 (by decide +kernel) (by decide +kernel), TW_of 883 (by decide +kernel) (by decide +kernel), TW_of 72 (by decide +kernel) (by decide +kernel), TW_of 884 (by decide +kernel) (by decide +kernel), by decide +kernel, by decide +kernel, by decide +kernel⟩
theorem cvX6_cell : CV yX6_cell cX6_cell 3 (some .int) 2 := ⟨TW_of 889 (by decide +kernel) (by decide +kernel), TW_of 890 (by decide +kernel) (by decide +kernel), TW_of 72 (by decide +kernel) (by decide +kernel), TW_of 891 (by decide +kernel) (by decide +kernel), by decide +kernel, by decide +kernel, by decide +kernel⟩
theorem cvX6_peak : CV yX6_peak cX6_peak 4 (some .int) 1 := ⟨TW_of 896 (by decide +kernel) (by decide +kernel), TW_of 897 (by decide +kernel) (by decide +kernel), TW_of 72 (by decide +kernel) (by decide +kernel), TW_of 898 (by decide +kernel) (by decide +kernel), by decide +kernel, by decide +kernel, by decide +kernel⟩
theorem cvX6_setLevel : CV yX6_setLevel cX6_setLevel 4 (some .int) 2 := ⟨TW_of 903 (by decide +kernel) (by decide +kernel), TW_of 904 (by decide +kernel) (by decide +kernel), TW_of 72 (by decide +kernel) (by decide +kernel), TW_of 905 (by decide +kernel) (by decide +kernel), by decide +kernel, by decide +kernel, by decide +kernel⟩
theorem cvX6_cellCount : CV yX6_cellCount cX6_cellCount 1 (some .int) 0 := ⟨TW_of 331 (by decide +kernel) (by decide +kernel), TW_of 332 (by decide +kernel) (by decide +kernel), TW_of 72 (by decide +kernel) (by decide +kernel), TW_of 333 (by decide +kernel) (by decide +kernel), by decide +kernel, by decide +kernel, by decide +kernel⟩
theorem cvX6_keep : CV yX6_keep cX6_keep 2 (some .int) 0 := ⟨TW_of 910 (by decide +kernel) (by decide +kernel), TW_of 911 (by decide +kernel) (by decide +kernel), TW_of 72 (by decide +kernel) (by decide +kernel), TW_of 912 (by decide +kernel) (by decide +kernel), by decide +kernel, by decide +kernel, by decide +kernel⟩
theorem cvX6_dropView : CV yX6_dropView cX6_dropView 2 (some .int) 1 := ⟨TW_of 923 (by decide +kernel) (by decide +kernel), TW_of 924 (by decide +kernel) (by decide +kernel), TW_of 72 (by decide +kernel) (by decide +kernel), TW_of 925 (by decide +kernel) (by decide +kernel), by decide +kernel, by decide +kernel, by decide +kernel⟩
theorem cvX6_refresh : CV yX6_refresh cX6_refresh 2 (some .int) 1 := ⟨TW_of 939 (by decide +kernel) (by decide +kernel), TW_of 940 (by decide +kernel) (by decide +kernel), TW_of 72 (by decide +kernel) (by decide +kernel), TW_of 941 (by decide +kernel) (by decide +kernel), by decide +kernel, by decide +kernel, by decide +kernel⟩
theorem cvX6_views : CV yX6_views cX6_views 1 (some .int) 0 := ⟨TW_of 357 (by decide +kernel) (by decide +kernel), TW_of 358 (by decide +kernel) (by decide +kernel), TW_of 72 (by decide +kernel) (by decide +kernel), TW_of 359 (by decide +kernel) (by decide +kernel), by decide +kernel, by decide +kernel, by decide +kernel⟩
theorem cvX6_rowsOf : CV yX6_rowsOf cX6_rowsOf 2 (some .int) 1 := ⟨TW_of 946 (by decide +kernel) (by decide +kernel), TW_of 947 (by decide +kernel) (by decide +kernel), TW_of 72 (by decide +kernel) (by decide +kernel), TW_of 948 (by decide +kernel) (by decide +kernel), by decide +kernel, by decide +kernel, by decide +kernel⟩
theorem cvX6_isStale : CV yX6_isStale cX6_isStale 2 (some .boolean) 1 := ⟨TW_of 953 (by decide +kernel) (by decide +kernel), TW_of 954 (by decide +kernel) (by decide +kernel), TW_of 72 (by decide +kernel) (by decide +kernel), TW_of 955 (by decide +kernel) (by decide +kernel), by decide +kernel, by decide +kernel, by decide +kernel⟩
theorem cvX6_cost : CV yX6_cost cX6_cost 1 (some .int) 0 := ⟨TW_of 361 (by decide +kernel) (by decide +kernel), TW_of 362 (by decide +kernel) (by decide +kernel), TW_of 72 (by decide +kernel) (by decide +kernel), TW_of 363 (by decide +kernel) (by decide +kernel), by decide +kernel, by decide +kernel, by decide +kernel⟩
theorem cvX6_answeredBy : CV yX6_answeredBy cX6_answeredBy 1 (some .int) 0 := ⟨TW_of 380 (by decide +kernel) (by decide +kernel), TW_of 381 (by decide +kernel) (by decide +kernel), TW_of 72 (by decide +kernel) (by decide +kernel), TW_of 382 (by decide +kernel) (by decide +kernel), by decide +kernel, by decide +kernel, by decide +kernel⟩
theorem cvX6_gain : CV yX6_gain cX6_gain 1 (some .int) 0 := ⟨TW_of 384 (by decide +kernel) (by decide +kernel), TW_of 385 (by decide +kernel) (by decide +kernel), TW_of 72 (by decide +kernel) (by decide +kernel), TW_of 386 (by decide +kernel) (by decide +kernel), by decide +kernel, by decide +kernel, by decide +kernel⟩
theorem cvX6_advise : CV yX6_advise cX6_advise 5 (some .int) 0 := ⟨TW_of 395 (by decide +kernel) (by decide +kernel), TW_of 396 (by decide +kernel) (by decide +kernel), TW_of 72 (by decide +kernel) (by decide +kernel), TW_of 397 (by decide +kernel) (by decide +kernel), by decide +kernel, by decide +kernel, by decide +kernel⟩
theorem cvX6_digest : CV yX6_digest cX6_digest 4 (some .long) 0 := ⟨TW_of 403 (by decide +kernel) (by decide +kernel), TW_of 404 (by decide +kernel) (by decide +kernel), TW_of 72 (by decide +kernel) (by decide +kernel), TW_of 405 (by decide +kernel) (by decide +kernel), by decide +kernel, by decide +kernel, by decide +kernel⟩
theorem cvX6_treeOf : CV yX6_treeOf cX6_treeOf 2 (some (.object "EbbTable$Tree")) 1 := ⟨TW_of 633 (by decide +kernel) (by decide +kernel), TW_of 24 (by decide +kernel) (by decide +kernel), TW_of 72 (by decide +kernel) (by decide +kernel), TW_of 634 (by decide +kernel) (by decide +kernel), by decide +kernel, by decide +kernel, by decide +kernel⟩
theorem cvX6_treeWith : CV yX6_treeWith cX6_treeWith 4 (some (.object "EbbTable$Tree")) 2 := ⟨TW_of 629 (by decide +kernel) (by decide +kernel), TW_of 23 (by decide +kernel) (by decide +kernel), TW_of 72 (by decide +kernel) (by decide +kernel), TW_of 630 (by decide +kernel) (by decide +kernel), by decide +kernel, by decide +kernel, by decide +kernel⟩
theorem cvX6_treeWithLevel : CV yX6_treeWithLevel cX6_treeWithLevel 4 (some (.object "EbbTable$Tree")) 2 := ⟨TW_of 712 (by decide +kernel) (by decide +kernel), TW_of 25 (by decide +kernel) (by decide +kernel), TW_of 72 (by decide +kernel) (by decide +kernel), TW_of 713 (by decide +kernel) (by decide +kernel), by decide +kernel, by decide +kernel, by decide +kernel⟩
theorem cvX6_requireLevel : CV yX6_requireLevel cX6_requireLevel 3 none 2 := ⟨TW_of 844 (by decide +kernel) (by decide +kernel), TW_of 28 (by decide +kernel) (by decide +kernel), TW_of 72 (by decide +kernel) (by decide +kernel), TW_of 845 (by decide +kernel) (by decide +kernel), by decide +kernel, by decide +kernel, by decide +kernel⟩
theorem cvX6_forgetWhatNeedsAllDimensions : CV yX6_forgetWhatNeedsAllDimensions cX6_forgetWhatNeedsAllDimensions 2 none 0 := ⟨TW_of 613 (by decide +kernel) (by decide +kernel), TW_of 22 (by decide +kernel) (by decide +kernel), TW_of 72 (by decide +kernel) (by decide +kernel), TW_of 614 (by decide +kernel) (by decide +kernel), by decide +kernel, by decide +kernel, by decide +kernel⟩
theorem cvX6_isPointOfLeaves : CV yX6_isPointOfLeaves cX6_isPointOfLeaves 2 (some .boolean) 0 := ⟨TW_of 754 (by decide +kernel) (by decide +kernel), TW_of 26 (by decide +kernel) (by decide +kernel), TW_of 72 (by decide +kernel) (by decide +kernel), TW_of 755 (by decide +kernel) (by decide +kernel), by decide +kernel, by decide +kernel, by decide +kernel⟩
theorem cvX6_isSeen : CV yX6_isSeen cX6_isSeen 3 (some .boolean) 1 := ⟨TW_of 298 (by decide +kernel) (by decide +kernel), TW_of 0 (by decide +kernel) (by decide +kernel), TW_of 72 (by decide +kernel) (by decide +kernel), TW_of 299 (by decide +kernel) (by decide +kernel), by decide +kernel, by decide +kernel, by decide +kernel⟩
theorem cvX6_lineUp : CV yX6_lineUp cX6_lineUp 6 none 2 := ⟨TW_of 423 (by decide +kernel) (by decide +kernel), TW_of 9 (by decide +kernel) (by decide +kernel), TW_of 72 (by decide +kernel) (by decide +kernel), TW_of 424 (by decide +kernel) (by decide +kernel), by decide +kernel, by decide +kernel, by decide +kernel⟩
theorem cvX6_lineUpWith : CV yX6_lineUpWith cX6_lineUpWith 3 none 2 := ⟨TW_of 790 (by decide +kernel) (by decide +kernel), TW_of 27 (by decide +kernel) (by decide +kernel), TW_of 72 (by decide +kernel) (by decide +kernel), TW_of 791 (by decide +kernel) (by decide +kernel), by decide +kernel, by decide +kernel, by decide +kernel⟩
theorem cvX6_layTableOfAxes : CV yX6_layTableOfAxes cX6_layTableOfAxes 1 none 0 := ⟨TW_of 856 (by decide +kernel) (by decide +kernel), TW_of 29 (by decide +kernel) (by decide +kernel), TW_of 72 (by decide +kernel) (by decide +kernel), TW_of 857 (by decide +kernel) (by decide +kernel), by decide +kernel, by decide +kernel, by decide +kernel⟩
theorem cvX6_requireLine : CV yX6_requireLine cX6_requireLine 3 none 2 := ⟨TW_of 875 (by decide +kernel) (by decide +kernel), TW_of 30 (by decide +kernel) (by decide +kernel), TW_of 72 (by decide +kernel) (by decide +kernel), TW_of 876 (by decide +kernel) (by decide +kernel), by decide +kernel, by decide +kernel, by decide +kernel⟩
theorem cvX6_layTable : CV yX6_layTable cX6_layTable 2 none 0 := ⟨TW_of 471 (by decide +kernel) (by decide +kernel), TW_of 14 (by decide +kernel) (by decide +kernel), TW_of 72 (by decide +kernel) (by decide +kernel), TW_of 472 (by decide +kernel) (by decide +kernel), by decide +kernel, by decide +kernel, by decide +kernel⟩
theorem cvX6_layAxis : CV yX6_layAxis cX6_layAxis 3 none 1 := ⟨TW_of 475 (by decide +kernel) (by decide +kernel), TW_of 15 (by decide +kernel) (by decide +kernel), TW_of 72 (by decide +kernel) (by decide +kernel), TW_of 476 (by decide +kernel) (by decide +kernel), by decide +kernel, by decide +kernel, by decide +kernel⟩
theorem cvX6_clearCells : CV yX6_clearCells cX6_clearCells 3 none 0 := ⟨TW_of 483 (by decide +kernel) (by decide +kernel), TW_of 16 (by decide +kernel) (by decide +kernel), TW_of 72 (by decide +kernel) (by decide +kernel), TW_of 484 (by decide +kernel) (by decide +kernel), by decide +kernel, by decide +kernel, by decide +kernel⟩
theorem cvX6_putIntoCell : CV yX6_putIntoCell cX6_putIntoCell 4 none 1 := ⟨TW_of 487 (by decide +kernel) (by decide +kernel), TW_of 17 (by decide +kernel) (by decide +kernel), TW_of 72 (by decide +kernel) (by decide +kernel), TW_of 488 (by decide +kernel) (by decide +kernel), by decide +kernel, by decide +kernel, by decide +kernel⟩
theorem cvX6_placeOnAxis : CV yX6_placeOnAxis cX6_placeOnAxis 4 (some .int) 2 := ⟨TW_of 491 (by decide +kernel) (by decide +kernel), TW_of 18 (by decide +kernel) (by decide +kernel), TW_of 72 (by decide +kernel) (by decide +kernel), TW_of 492 (by decide +kernel) (by decide +kernel), by decide +kernel, by decide +kernel, by decide +kernel⟩
theorem cvX6_cellOfLines : CV yX6_cellOfLines cX6_cellOfLines 3 (some .int) 2 := ⟨TW_of 507 (by decide +kernel) (by decide +kernel), TW_of 19 (by decide +kernel) (by decide +kernel), TW_of 72 (by decide +kernel) (by decide +kernel), TW_of 508 (by decide +kernel) (by decide +kernel), by decide +kernel, by decide +kernel, by decide +kernel⟩
theorem csX6_bitsBehind : CS yX6_bitsBehind cX6_bitsBehind 1 (some .int) 1 := ⟨TW_of 346 (by decide +kernel) (by decide +kernel), TW_of 72 (by decide +kernel) (by decide +kernel), TW_of 347 (by decide +kernel) (by decide +kernel), by decide +kernel, by decide +kernel, by decide +kernel⟩
theorem csX6_levelIn : CS yX6_levelIn cX6_levelIn 2 (some .int) 2 := ⟨TW_of 343 (by decide +kernel) (by decide +kernel), TW_of 72 (by decide +kernel) (by decide +kernel), TW_of 344 (by decide +kernel) (by decide +kernel), by decide +kernel, by decide +kernel, by decide +kernel⟩
theorem csX6_reach : CS yX6_reach cX6_reach 3 (some .boolean) 2 := ⟨TW_of 373 (by decide +kernel) (by decide +kernel), TW_of 72 (by decide +kernel) (by decide +kernel), TW_of 374 (by decide +kernel) (by decide +kernel), by decide +kernel, by decide +kernel, by decide +kernel⟩
theorem cvX6_areLevels : CV yX6_areLevels cX6_areLevels 3 (some .boolean) 1 := ⟨TW_of 400 (by decide +kernel) (by decide +kernel), TW_of 6 (by decide +kernel) (by decide +kernel), TW_of 72 (by decide +kernel) (by decide +kernel), TW_of 401 (by decide +kernel) (by decide +kernel), by decide +kernel, by decide +kernel, by decide +kernel⟩
theorem cvX6_cellsOf : CV yX6_cellsOf cX6_cellsOf 4 (some .int) 1 := ⟨TW_of 336 (by decide +kernel) (by decide +kernel), TW_of 1 (by decide +kernel) (by decide +kernel), TW_of 72 (by decide +kernel) (by decide +kernel), TW_of 337 (by decide +kernel) (by decide +kernel), by decide +kernel, by decide +kernel, by decide +kernel⟩
theorem cvX6_cellAround : CV yX6_cellAround cX6_cellAround 6 (some .int) 2 := ⟨TW_of 340 (by decide +kernel) (by decide +kernel), TW_of 2 (by decide +kernel) (by decide +kernel), TW_of 72 (by decide +kernel) (by decide +kernel), TW_of 341 (by decide +kernel) (by decide +kernel), by decide +kernel, by decide +kernel, by decide +kernel⟩
theorem cvX6_requireView : CV yX6_requireView cX6_requireView 2 none 1 := ⟨TW_of 928 (by decide +kernel) (by decide +kernel), TW_of 31 (by decide +kernel) (by decide +kernel), TW_of 72 (by decide +kernel) (by decide +kernel), TW_of 929 (by decide +kernel) (by decide +kernel), by decide +kernel, by decide +kernel, by decide +kernel⟩
theorem cvX6_viewFor : CV yX6_viewFor cX6_viewFor 5 (some .int) 1 := ⟨TW_of 370 (by decide +kernel) (by decide +kernel), TW_of 4 (by decide +kernel) (by decide +kernel), TW_of 72 (by decide +kernel) (by decide +kernel), TW_of 371 (by decide +kernel) (by decide +kernel), by decide +kernel, by decide +kernel, by decide +kernel⟩
theorem cvX6_costOf : CV yX6_costOf cX6_costOf 3 (some .int) 1 := ⟨TW_of 366 (by decide +kernel) (by decide +kernel), TW_of 3 (by decide +kernel) (by decide +kernel), TW_of 72 (by decide +kernel) (by decide +kernel), TW_of 367 (by decide +kernel) (by decide +kernel), by decide +kernel, by decide +kernel, by decide +kernel⟩
theorem cvX6_gainOf : CV yX6_gainOf cX6_gainOf 5 (some .int) 1 := ⟨TW_of 389 (by decide +kernel) (by decide +kernel), TW_of 5 (by decide +kernel) (by decide +kernel), TW_of 72 (by decide +kernel) (by decide +kernel), TW_of 390 (by decide +kernel) (by decide +kernel), by decide +kernel, by decide +kernel, by decide +kernel⟩
theorem csX6_mix : CS yX6_mix cX6_mix 4 (some .long) 2 := ⟨TW_of 408 (by decide +kernel) (by decide +kernel), TW_of 72 (by decide +kernel) (by decide +kernel), TW_of 409 (by decide +kernel) (by decide +kernel), by decide +kernel, by decide +kernel, by decide +kernel⟩
theorem cvX6_mixTree : CV yX6_mixTree cX6_mixTree 8 (some .long) 2 := ⟨TW_of 413 (by decide +kernel) (by decide +kernel), TW_of 7 (by decide +kernel) (by decide +kernel), TW_of 72 (by decide +kernel) (by decide +kernel), TW_of 414 (by decide +kernel) (by decide +kernel), by decide +kernel, by decide +kernel, by decide +kernel⟩
theorem cvX6_mixLineup : CV yX6_mixLineup cX6_mixLineup 7 (some .long) 2 := ⟨TW_of 419 (by decide +kernel) (by decide +kernel), TW_of 8 (by decide +kernel) (by decide +kernel), TW_of 72 (by decide +kernel) (by decide +kernel), TW_of 420 (by decide +kernel) (by decide +kernel), by decide +kernel, by decide +kernel, by decide +kernel⟩
theorem cvX6_mixTable : CV yX6_mixTable cX6_mixTable 7 (some .long) 1 := ⟨TW_of 467 (by decide +kernel) (by decide +kernel), TW_of 13 (by decide +kernel) (by decide +kernel), TW_of 72 (by decide +kernel) (by decide +kernel), TW_of 468 (by decide +kernel) (by decide +kernel), by decide +kernel, by decide +kernel, by decide +kernel⟩
theorem cvX6_mixViews : CV yX6_mixViews cX6_mixViews 6 (some .long) 1 := ⟨TW_of 512 (by decide +kernel) (by decide +kernel), TW_of 20 (by decide +kernel) (by decide +kernel), TW_of 72 (by decide +kernel) (by decide +kernel), TW_of 513 (by decide +kernel) (by decide +kernel), by decide +kernel, by decide +kernel, by decide +kernel⟩
theorem cvX7_thrown : CV yX7_thrown cX7_thrown 1 (some .int) 0 := ⟨TW_of 1025 (by decide +kernel) (by decide +kernel), TW_of 1026 (by decide +kernel) (by decide +kernel), TW_of 79 (by decide +kernel) (by decide +kernel), TW_of 1027 (by decide +kernel) (by decide +kernel), by decide +kernel, by decide +kernel, by decide +kernel⟩
theorem cvX7_refuse : CV yX7_refuse cX7_refuse 2 (some .int) 1 := ⟨TW_of 1037 (by decide +kernel) (by decide +kernel), TW_of 32 (by decide +kernel) (by decide +kernel), TW_of 79 (by decide +kernel) (by decide +kernel), TW_of 1038 (by decide +kernel) (by decide +kernel), by decide +kernel, by decide +kernel, by decide +kernel⟩
theorem csX7_is : CS yX7_is cX7_is 3 (some .boolean) 3 := ⟨TW_of 1033 (by decide +kernel) (by decide +kernel), TW_of 79 (by decide +kernel) (by decide +kernel), TW_of 1034 (by decide +kernel) (by decide +kernel), by decide +kernel, by decide +kernel, by decide +kernel⟩
theorem cvX7_isDimension : CV yX7_isDimension cX7_isDimension 2 (some .boolean) 1 := ⟨TW_of 1052 (by decide +kernel) (by decide +kernel), TW_of 34 (by decide +kernel) (by decide +kernel), TW_of 79 (by decide +kernel) (by decide +kernel), TW_of 1053 (by decide +kernel) (by decide +kernel), by decide +kernel, by decide +kernel, by decide +kernel⟩
theorem cvX7_isMember : CV yX7_isMember cX7_isMember 3 (some .boolean) 2 := ⟨TW_of 1048 (by decide +kernel) (by decide +kernel), TW_of 33 (by decide +kernel) (by decide +kernel), TW_of 79 (by decide +kernel) (by decide +kernel), TW_of 1049 (by decide +kernel) (by decide +kernel), by decide +kernel, by decide +kernel, by decide +kernel⟩
theorem cvX7_isLevel : CV yX7_isLevel cX7_isLevel 3 (some .boolean) 2 := ⟨TW_of 1092 (by decide +kernel) (by decide +kernel), TW_of 38 (by decide +kernel) (by decide +kernel), TW_of 79 (by decide +kernel) (by decide +kernel), TW_of 1093 (by decide +kernel) (by decide +kernel), by decide +kernel, by decide +kernel, by decide +kernel⟩
theorem cvX7_depth : CV yX7_depth cX7_depth 5 (some .int) 2 := ⟨TW_of 1056 (by decide +kernel) (by decide +kernel), TW_of 35 (by decide +kernel) (by decide +kernel), TW_of 79 (by decide +kernel) (by decide +kernel), TW_of 1057 (by decide +kernel) (by decide +kernel), by decide +kernel, by decide +kernel, by decide +kernel⟩
theorem cvX7_isBeneath : CV yX7_isBeneath cX7_isBeneath 5 (some .boolean) 3 := ⟨TW_of 1161 (by decide +kernel) (by decide +kernel), TW_of 43 (by decide +kernel) (by decide +kernel), TW_of 79 (by decide +kernel) (by decide +kernel), TW_of 1162 (by decide +kernel) (by decide +kernel), by decide +kernel, by decide +kernel, by decide +kernel⟩
theorem cvX7_walk : CV yX7_walk cX7_walk 8 (some .int) 5 := ⟨TW_of 1100 (by decide +kernel) (by decide +kernel), TW_of 40 (by decide +kernel) (by decide +kernel), TW_of 79 (by decide +kernel) (by decide +kernel), TW_of 1101 (by decide +kernel) (by decide +kernel), by decide +kernel, by decide +kernel, by decide +kernel⟩
theorem cvX7_membersOf : CV yX7_membersOf cX7_membersOf 5 (some (.array .int)) 3 := ⟨TW_of 1096 (by decide +kernel) (by decide +kernel), TW_of 39 (by decide +kernel) (by decide +kernel), TW_of 79 (by decide +kernel) (by decide +kernel), TW_of 1097 (by decide +kernel) (by decide +kernel), by decide +kernel, by decide +kernel, by decide +kernel⟩
theorem cvX7_stale : CV yX7_stale cX7_stale 1 none 0 := ⟨TW_of 1064 (by decide +kernel) (by decide +kernel), TW_of 36 (by decide +kernel) (by decide +kernel), TW_of 79 (by decide +kernel) (by decide +kernel), TW_of 1065 (by decide +kernel) (by decide +kernel), by decide +kernel, by decide +kernel, by decide +kernel⟩
theorem cvX7_addDimension : CV yX7_addDimension cX7_addDimension 6 (some .int) 1 := ⟨TW_of 1029 (by decide +kernel) (by decide +kernel), TW_of 1030 (by decide +kernel) (by decide +kernel), TW_of 79 (by decide +kernel) (by decide +kernel), TW_of 1031 (by decide +kernel) (by decide +kernel), by decide +kernel, by decide +kernel, by decide +kernel⟩
theorem cvX7_addMember : CV yX7_addMember cX7_addMember 3 (some .int) 2 := ⟨TW_of 1043 (by decide +kernel) (by decide +kernel), TW_of 1044 (by decide +kernel) (by decide +kernel), TW_of 79 (by decide +kernel) (by decide +kernel), TW_of 1045 (by decide +kernel) (by decide +kernel), by decide +kernel, by decide +kernel, by decide +kernel⟩
theorem cvX7_move : CV yX7_move cX7_move 5 (some .int) 3 := ⟨TW_of 1059 (by decide +kernel) (by decide +kernel), TW_of 1060 (by decide +kernel) (by decide +kernel), TW_of 79 (by decide +kernel) (by decide +kernel), TW_of 1061 (by decide +kernel) (by decide +kernel), by decide +kernel, by decide +kernel, by decide +kernel⟩
theorem cvX7_dimensions : CV yX7_dimensions cX7_dimensions 1 (some .int) 0 := ⟨TW_of 1067 (by decide +kernel) (by decide +kernel), TW_of 1068 (by decide +kernel) (by decide +kernel), TW_of 79 (by decide +kernel) (by decide +kernel), TW_of 1069 (by decide +kernel) (by decide +kernel), by decide +kernel, by decide +kernel, by decide +kernel⟩
theorem cvX7_members : CV yX7_members cX7_members 2 (some .int) 1 := ⟨TW_of 1071 (by decide +kernel) (by decide +kernel), TW_of 1072 (by decide +kernel) (by decide +kernel), TW_of 79 (by decide +kernel) (by decide +kernel), TW_of 1073 (by decide +kernel) (by decide +kernel), by decide +kernel, by decide +kernel, by decide +kernel⟩
theorem cvX7_parentNow : CV yX7_parentNow cX7_parentNow 3 (some .int) 2 := ⟨TW_of 1080 (by decide +kernel) (by decide +kernel), TW_of 37 (by decide +kernel) (by decide +kernel), TW_of 79 (by decide +kernel) (by decide +kernel), TW_of 1081 (by decide +kernel) (by decide +kernel), by decide +kernel, by decide +kernel, by decide +kernel⟩
theorem cvX7_parentOf : CV yX7_parentOf cX7_parentOf 3 (some .int) 2 := ⟨TW_of 1075 (by decide +kernel) (by decide +kernel), TW_of 1076 (by decide +kernel) (by decide +kernel), TW_of 79 (by decide +kernel) (by decide +kernel), TW_of 1077 (by decide +kernel) (by decide +kernel), by decide +kernel, by decide +kernel, by decide +kernel⟩
theorem cvX7_levelOf : CV yX7_levelOf cX7_levelOf 3 (some .int) 2 := ⟨TW_of 1083 (by decide +kernel) (by decide +kernel), TW_of 1084 (by decide +kernel) (by decide +kernel), TW_of 79 (by decide +kernel) (by decide +kernel), TW_of 1085 (by decide +kernel) (by decide +kernel), by decide +kernel, by decide +kernel, by decide +kernel⟩
theorem cvX7_memberAt : CV yX7_memberAt cX7_memberAt 5 (some .int) 3 := ⟨TW_of 1087 (by decide +kernel) (by decide +kernel), TW_of 1088 (by decide +kernel) (by decide +kernel), TW_of 79 (by decide +kernel) (by decide +kernel), TW_of 1089 (by decide +kernel) (by decide +kernel), by decide +kernel, by decide +kernel, by decide +kernel⟩
theorem cvX7_leaveOut : CV yX7_leaveOut cX7_leaveOut 5 (some .boolean) 3 := ⟨TW_of 1119 (by decide +kernel) (by decide +kernel), TW_of 1120 (by decide +kernel) (by decide +kernel), TW_of 79 (by decide +kernel) (by decide +kernel), TW_of 1121 (by decide +kernel) (by decide +kernel), by decide +kernel, by decide +kernel, by decide +kernel⟩
theorem cvX7_goTo : CV yX7_goTo cX7_goTo 4 (some .int) 2 := ⟨TW_of 1123 (by decide +kernel) (by decide +kernel), TW_of 1124 (by decide +kernel) (by decide +kernel), TW_of 79 (by decide +kernel) (by decide +kernel), TW_of 1125 (by decide +kernel) (by decide +kernel), by decide +kernel, by decide +kernel, by decide +kernel⟩
theorem cvX7_goUp : CV yX7_goUp cX7_goUp 2 (some .int) 1 := ⟨TW_of 1127 (by decide +kernel) (by decide +kernel), TW_of 1128 (by decide +kernel) (by decide +kernel), TW_of 79 (by decide +kernel) (by decide +kernel), TW_of 1129 (by decide +kernel) (by decide +kernel), by decide +kernel, by decide +kernel, by decide +kernel⟩
theorem cvX7_pointOf : CV yX7_pointOf cX7_pointOf 2 (some .int) 1 := ⟨TW_of 1131 (by decide +kernel) (by decide +kernel), TW_of 1132 (by decide +kernel) (by decide +kernel), TW_of 79 (by decide +kernel) (by decide +kernel), TW_of 1133 (by decide +kernel) (by decide +kernel), by decide +kernel, by decide +kernel, by decide +kernel⟩
theorem cvX7_add : CV yX7_add cX7_add 4 (some .int) 1 := ⟨TW_of 1135 (by decide +kernel) (by decide +kernel), TW_of 1136 (by decide +kernel) (by decide +kernel), TW_of 79 (by decide +kernel) (by decide +kernel), TW_of 1137 (by decide +kernel) (by decide +kernel), by decide +kernel, by decide +kernel, by decide +kernel⟩
theorem cvX7_drop : CV yX7_drop cX7_drop 4 (some .int) 1 := ⟨TW_of 1140 (by decide +kernel) (by decide +kernel), TW_of 1141 (by decide +kernel) (by decide +kernel), TW_of 79 (by decide +kernel) (by decide +kernel), TW_of 1142 (by decide +kernel) (by decide +kernel), by decide +kernel, by decide +kernel, by decide +kernel⟩
theorem cvX7_isOutAt : CV yX7_isOutAt cX7_isOutAt 4 (some .boolean) 2 := ⟨TW_of 1165 (by decide +kernel) (by decide +kernel), TW_of 44 (by decide +kernel) (by decide +kernel), TW_of 79 (by decide +kernel) (by decide +kernel), TW_of 1166 (by decide +kernel) (by decide +kernel), by decide +kernel, by decide +kernel, by decide +kernel⟩
theorem cvX7_counts : CV yX7_counts cX7_counts 4 (some .boolean) 1 := ⟨TW_of 1157 (by decide +kernel) (by decide +kernel), TW_of 42 (by decide +kernel) (by decide +kernel), TW_of 79 (by decide +kernel) (by decide +kernel), TW_of 1158 (by decide +kernel) (by decide +kernel), by decide +kernel, by decide +kernel, by decide +kernel⟩
theorem cvX7_facts : CV yX7_facts cX7_facts 1 (some .int) 0 := ⟨TW_of 1144 (by decide +kernel) (by decide +kernel), TW_of 1145 (by decide +kernel) (by decide +kernel), TW_of 79 (by decide +kernel) (by decide +kernel), TW_of 1146 (by decide +kernel) (by decide +kernel), by decide +kernel, by decide +kernel, by decide +kernel⟩
theorem cvX7_countNow : CV yX7_countNow cX7_countNow 3 (some .int) 0 := ⟨TW_of 1153 (by decide +kernel) (by decide +kernel), TW_of 41 (by decide +kernel) (by decide +kernel), TW_of 79 (by decide +kernel) (by decide +kernel), TW_of 1154 (by decide +kernel) (by decide +kernel), by decide +kernel, by decide +kernel, by decide +kernel⟩
theorem cvX7_sumNow : CV yX7_sumNow cX7_sumNow 3 (some .int) 0 := ⟨TW_of 1173 (by decide +kernel) (by decide +kernel), TW_of 45 (by decide +kernel) (by decide +kernel), TW_of 79 (by decide +kernel) (by decide +kernel), TW_of 1174 (by decide +kernel) (by decide +kernel), by decide +kernel, by decide +kernel, by decide +kernel⟩
theorem cvX7_end : CV yX7_end cX7_end 5 (some .int) 1 := ⟨TW_of 1181 (by decide +kernel) (by decide +kernel), TW_of 46 (by decide +kernel) (by decide +kernel), TW_of 79 (by decide +kernel) (by decide +kernel), TW_of 1182 (by decide +kernel) (by decide +kernel), by decide +kernel, by decide +kernel, by decide +kernel⟩
theorem cvX7_count : CV yX7_count cX7_count 1 (some .int) 0 := ⟨TW_of 1148 (by decide +kernel) (by decide +kernel), TW_of 1149 (by decide +kernel) (by decide +kernel), TW_of 79 (by decide +kernel) (by decide +kernel), TW_of 1150 (by decide +kernel) (by decide +kernel), by decide +kernel, by decide +kernel, by decide +kernel⟩
theorem cvX7_sum : CV yX7_sum cX7_sum 1 (some .int) 0 := ⟨TW_of 1168 (by decide +kernel) (by decide +kernel), TW_of 1169 (by decide +kernel) (by decide +kernel), TW_of 79 (by decide +kernel) (by decide +kernel), TW_of 1170 (by decide +kernel) (by decide +kernel), by decide +kernel, by decide +kernel, by decide +kernel⟩
theorem cvX7_least : CV yX7_least cX7_least 1 (some .int) 0 := ⟨TW_of 1176 (by decide +kernel) (by decide +kernel), TW_of 1177 (by decide +kernel) (by decide +kernel), TW_of 79 (by decide +kernel) (by decide +kernel), TW_of 1178 (by decide +kernel) (by decide +kernel), by decide +kernel, by decide +kernel, by decide +kernel⟩
theorem cvX7_greatest : CV yX7_greatest cX7_greatest 1 (some .int) 0 := ⟨TW_of 1184 (by decide +kernel) (by decide +kernel), TW_of 1185 (by decide +kernel) (by decide +kernel), TW_of 79 (by decide +kernel) (by decide +kernel), TW_of 1186 (by decide +kernel) (by decide +kernel), by decide +kernel, by decide +kernel, by decide +kernel⟩
theorem cvX7_mean : CV yX7_mean cX7_mean 1 (some .double) 0 := ⟨TW_of 1188 (by decide +kernel) (by decide +kernel), TW_of 1189 (by decide +kernel) (by decide +kernel), TW_of 79 (by decide +kernel) (by decide +kernel), TW_of 1190 (by decide +kernel) (by decide +kernel), by decide +kernel, by decide +kernel, by decide +kernel⟩
theorem cvX7_childrenOf : CV yX7_childrenOf cX7_childrenOf 2 (some (.array .int)) 1 := ⟨TW_of 1197 (by decide +kernel) (by decide +kernel), TW_of 47 (by decide +kernel) (by decide +kernel), TW_of 79 (by decide +kernel) (by decide +kernel), TW_of 1198 (by decide +kernel) (by decide +kernel), by decide +kernel, by decide +kernel, by decide +kernel⟩
theorem cvX7_sumAt : CV yX7_sumAt cX7_sumAt 5 (some .int) 2 := ⟨TW_of 1213 (by decide +kernel) (by decide +kernel), TW_of 50 (by decide +kernel) (by decide +kernel), TW_of 79 (by decide +kernel) (by decide +kernel), TW_of 1214 (by decide +kernel) (by decide +kernel), by decide +kernel, by decide +kernel, by decide +kernel⟩
theorem cvX7_sums : CV yX7_sums cX7_sums 5 (some (.array .int)) 1 := ⟨TW_of 1209 (by decide +kernel) (by decide +kernel), TW_of 49 (by decide +kernel) (by decide +kernel), TW_of 79 (by decide +kernel) (by decide +kernel), TW_of 1210 (by decide +kernel) (by decide +kernel), by decide +kernel, by decide +kernel, by decide +kernel⟩
theorem csX7_rankOf : CS yX7_rankOf cX7_rankOf 4 (some .int) 2 := ⟨TW_of 1223 (by decide +kernel) (by decide +kernel), TW_of 79 (by decide +kernel) (by decide +kernel), TW_of 1224 (by decide +kernel) (by decide +kernel), by decide +kernel, by decide +kernel, by decide +kernel⟩
theorem csX7_ofRank : CS yX7_ofRank cX7_ofRank 3 (some .int) 2 := ⟨TW_of 1220 (by decide +kernel) (by decide +kernel), TW_of 79 (by decide +kernel) (by decide +kernel), TW_of 1221 (by decide +kernel) (by decide +kernel), by decide +kernel, by decide +kernel, by decide +kernel⟩
theorem cvX7_children : CV yX7_children cX7_children 2 (some .int) 1 := ⟨TW_of 1192 (by decide +kernel) (by decide +kernel), TW_of 1193 (by decide +kernel) (by decide +kernel), TW_of 79 (by decide +kernel) (by decide +kernel), TW_of 1194 (by decide +kernel) (by decide +kernel), by decide +kernel, by decide +kernel, by decide +kernel⟩
theorem cvX7_hasChild : CV yX7_hasChild cX7_hasChild 3 (some .boolean) 2 := ⟨TW_of 1205 (by decide +kernel) (by decide +kernel), TW_of 48 (by decide +kernel) (by decide +kernel), TW_of 79 (by decide +kernel) (by decide +kernel), TW_of 1206 (by decide +kernel) (by decide +kernel), by decide +kernel, by decide +kernel, by decide +kernel⟩
theorem cvX7_sumOf : CV yX7_sumOf cX7_sumOf 3 (some .int) 2 := ⟨TW_of 1200 (by decide +kernel) (by decide +kernel), TW_of 1201 (by decide +kernel) (by decide +kernel), TW_of 79 (by decide +kernel) (by decide +kernel), TW_of 1202 (by decide +kernel) (by decide +kernel), by decide +kernel, by decide +kernel, by decide +kernel⟩
theorem cvX7_ranked : CV yX7_ranked cX7_ranked 3 (some .int) 2 := ⟨TW_of 1216 (by decide +kernel) (by decide +kernel), TW_of 1217 (by decide +kernel) (by decide +kernel), TW_of 79 (by decide +kernel) (by decide +kernel), TW_of 1218 (by decide +kernel) (by decide +kernel), by decide +kernel, by decide +kernel, by decide +kernel⟩
theorem cvX7_running : CV yX7_running cX7_running 5 (some .int) 2 := ⟨TW_of 1226 (by decide +kernel) (by decide +kernel), TW_of 1227 (by decide +kernel) (by decide +kernel), TW_of 79 (by decide +kernel) (by decide +kernel), TW_of 1228 (by decide +kernel) (by decide +kernel), by decide +kernel, by decide +kernel, by decide +kernel⟩
theorem cvX7_share : CV yX7_share cX7_share 3 (some .int) 2 := ⟨TW_of 1230 (by decide +kernel) (by decide +kernel), TW_of 1231 (by decide +kernel) (by decide +kernel), TW_of 79 (by decide +kernel) (by decide +kernel), TW_of 1232 (by decide +kernel) (by decide +kernel), by decide +kernel, by decide +kernel, by decide +kernel⟩
theorem cvX7_fewest : CV yX7_fewest cX7_fewest 6 (some .int) 2 := ⟨TW_of 1234 (by decide +kernel) (by decide +kernel), TW_of 1235 (by decide +kernel) (by decide +kernel), TW_of 79 (by decide +kernel) (by decide +kernel), TW_of 1236 (by decide +kernel) (by decide +kernel), by decide +kernel, by decide +kernel, by decide +kernel⟩
theorem cvX7_drill : CV yX7_drill cX7_drill 3 (some .int) 1 := ⟨TW_of 1238 (by decide +kernel) (by decide +kernel), TW_of 1239 (by decide +kernel) (by decide +kernel), TW_of 79 (by decide +kernel) (by decide +kernel), TW_of 1240 (by decide +kernel) (by decide +kernel), by decide +kernel, by decide +kernel, by decide +kernel⟩
theorem cvX7_setAxes : CV yX7_setAxes cX7_setAxes 6 (some .int) 4 := ⟨TW_of 1242 (by decide +kernel) (by decide +kernel), TW_of 1243 (by decide +kernel) (by decide +kernel), TW_of 79 (by decide +kernel) (by decide +kernel), TW_of 1244 (by decide +kernel) (by decide +kernel), by decide +kernel, by decide +kernel, by decide +kernel⟩
theorem cvX7_setBare : CV yX7_setBare cX7_setBare 3 (some .boolean) 1 := ⟨TW_of 1263 (by decide +kernel) (by decide +kernel), TW_of 1264 (by decide +kernel) (by decide +kernel), TW_of 79 (by decide +kernel) (by decide +kernel), TW_of 1265 (by decide +kernel) (by decide +kernel), by decide +kernel, by decide +kernel, by decide +kernel⟩
theorem cvX7_allLines : CV yX7_allLines cX7_allLines 2 (some (.array .int)) 1 := ⟨TW_of 1252 (by decide +kernel) (by decide +kernel), TW_of 52 (by decide +kernel) (by decide +kernel), TW_of 79 (by decide +kernel) (by decide +kernel), TW_of 1253 (by decide +kernel) (by decide +kernel), by decide +kernel, by decide +kernel, by decide +kernel⟩
theorem cvX7_isIn : CV yX7_isIn cX7_isIn 4 (some .boolean) 3 := ⟨TW_of 1260 (by decide +kernel) (by decide +kernel), TW_of 54 (by decide +kernel) (by decide +kernel), TW_of 79 (by decide +kernel) (by decide +kernel), TW_of 1261 (by decide +kernel) (by decide +kernel), by decide +kernel, by decide +kernel, by decide +kernel⟩
theorem cvX7_hasFact : CV yX7_hasFact cX7_hasFact 9 (some .boolean) 2 := ⟨TW_of 1256 (by decide +kernel) (by decide +kernel), TW_of 53 (by decide +kernel) (by decide +kernel), TW_of 79 (by decide +kernel) (by decide +kernel), TW_of 1257 (by decide +kernel) (by decide +kernel), by decide +kernel, by decide +kernel, by decide +kernel⟩
theorem cvX7_lines : CV yX7_lines cX7_lines 8 (some (.array .int)) 1 := ⟨TW_of 1248 (by decide +kernel) (by decide +kernel), TW_of 51 (by decide +kernel) (by decide +kernel), TW_of 79 (by decide +kernel) (by decide +kernel), TW_of 1249 (by decide +kernel) (by decide +kernel), by decide +kernel, by decide +kernel, by decide +kernel⟩
theorem cvX7_canLay : CV yX7_canLay cX7_canLay 1 (some .boolean) 0 := ⟨TW_of 1272 (by decide +kernel) (by decide +kernel), TW_of 55 (by decide +kernel) (by decide +kernel), TW_of 79 (by decide +kernel) (by decide +kernel), TW_of 1273 (by decide +kernel) (by decide +kernel), by decide +kernel, by decide +kernel, by decide +kernel⟩
theorem cvX7_rows : CV yX7_rows cX7_rows 1 (some .int) 0 := ⟨TW_of 1267 (by decide +kernel) (by decide +kernel), TW_of 1268 (by decide +kernel) (by decide +kernel), TW_of 79 (by decide +kernel) (by decide +kernel), TW_of 1269 (by decide +kernel) (by decide +kernel), by decide +kernel, by decide +kernel, by decide +kernel⟩
theorem cvX7_columns : CV yX7_columns cX7_columns 1 (some .int) 0 := ⟨TW_of 1275 (by decide +kernel) (by decide +kernel), TW_of 1276 (by decide +kernel) (by decide +kernel), TW_of 79 (by decide +kernel) (by decide +kernel), TW_of 1277 (by decide +kernel) (by decide +kernel), by decide +kernel, by decide +kernel, by decide +kernel⟩
theorem cvX7_line : CV yX7_line cX7_line 3 (some .int) 2 := ⟨TW_of 1284 (by decide +kernel) (by decide +kernel), TW_of 56 (by decide +kernel) (by decide +kernel), TW_of 79 (by decide +kernel) (by decide +kernel), TW_of 1285 (by decide +kernel) (by decide +kernel), by decide +kernel, by decide +kernel, by decide +kernel⟩
theorem cvX7_rowMember : CV yX7_rowMember cX7_rowMember 2 (some .int) 1 := ⟨TW_of 1279 (by decide +kernel) (by decide +kernel), TW_of 1280 (by decide +kernel) (by decide +kernel), TW_of 79 (by decide +kernel) (by decide +kernel), TW_of 1281 (by decide +kernel) (by decide +kernel), by decide +kernel, by decide +kernel, by decide +kernel⟩
theorem cvX7_columnMember : CV yX7_columnMember cX7_columnMember 2 (some .int) 1 := ⟨TW_of 1287 (by decide +kernel) (by decide +kernel), TW_of 1288 (by decide +kernel) (by decide +kernel), TW_of 79 (by decide +kernel) (by decide +kernel), TW_of 1289 (by decide +kernel) (by decide +kernel), by decide +kernel, by decide +kernel, by decide +kernel⟩
theorem cvX7_cellOf : CV yX7_cellOf cX7_cellOf 5 (some .int) 2 := ⟨TW_of 1296 (by decide +kernel) (by decide +kernel), TW_of 57 (by decide +kernel) (by decide +kernel), TW_of 79 (by decide +kernel) (by decide +kernel), TW_of 1297 (by decide +kernel) (by decide +kernel), by decide +kernel, by decide +kernel, by decide +kernel⟩
theorem cvX7_cell : CV yX7_cell cX7_cell 5 (some .int) 2 := ⟨TW_of 1291 (by decide +kernel) (by decide +kernel), TW_of 1292 (by decide +kernel) (by decide +kernel), TW_of 79 (by decide +kernel) (by decide +kernel), TW_of 1293 (by decide +kernel) (by decide +kernel), by decide +kernel, by decide +kernel, by decide +kernel⟩
theorem cvX7_peak : CV yX7_peak cX7_peak 8 (some .int) 1 := ⟨TW_of 1299 (by decide +kernel) (by decide +kernel), TW_of 1300 (by decide +kernel) (by decide +kernel), TW_of 79 (by decide +kernel) (by decide +kernel), TW_of 1301 (by decide +kernel) (by decide +kernel), by decide +kernel, by decide +kernel, by decide +kernel⟩
theorem cvX7_levelsNow : CV yX7_levelsNow cX7_levelsNow 3 (some .int) 0 := ⟨TW_of 1312 (by decide +kernel) (by decide +kernel), TW_of 58 (by decide +kernel) (by decide +kernel), TW_of 79 (by decide +kernel) (by decide +kernel), TW_of 1313 (by decide +kernel) (by decide +kernel), by decide +kernel, by decide +kernel, by decide +kernel⟩
theorem cvX7_digit : CV yX7_digit cX7_digit 3 (some .int) 2 := ⟨TW_of 1324 (by decide +kernel) (by decide +kernel), TW_of 61 (by decide +kernel) (by decide +kernel), TW_of 79 (by decide +kernel) (by decide +kernel), TW_of 1325 (by decide +kernel) (by decide +kernel), by decide +kernel, by decide +kernel, by decide +kernel⟩
theorem cvX7_areLevels : CV yX7_areLevels cX7_areLevels 4 (some .boolean) 1 := ⟨TW_of 1388 (by decide +kernel) (by decide +kernel), TW_of 68 (by decide +kernel) (by decide +kernel), TW_of 79 (by decide +kernel) (by decide +kernel), TW_of 1389 (by decide +kernel) (by decide +kernel), by decide +kernel, by decide +kernel, by decide +kernel⟩
theorem cvX7_answers : CV yX7_answers cX7_answers 5 (some .boolean) 2 := ⟨TW_of 1372 (by decide +kernel) (by decide +kernel), TW_of 66 (by decide +kernel) (by decide +kernel), TW_of 79 (by decide +kernel) (by decide +kernel), TW_of 1373 (by decide +kernel) (by decide +kernel), by decide +kernel, by decide +kernel, by decide +kernel⟩
theorem cvX7_memberOn : CV yX7_memberOn cX7_memberOn 5 (some .int) 3 := ⟨TW_of 1328 (by decide +kernel) (by decide +kernel), TW_of 62 (by decide +kernel) (by decide +kernel), TW_of 79 (by decide +kernel) (by decide +kernel), TW_of 1329 (by decide +kernel) (by decide +kernel), by decide +kernel, by decide +kernel, by decide +kernel⟩
theorem cvX7_areInOne : CV yX7_areInOne cX7_areInOne 6 (some .boolean) 3 := ⟨TW_of 1320 (by decide +kernel) (by decide +kernel), TW_of 60 (by decide +kernel) (by decide +kernel), TW_of 79 (by decide +kernel) (by decide +kernel), TW_of 1321 (by decide +kernel) (by decide +kernel), by decide +kernel, by decide +kernel, by decide +kernel⟩
theorem cvX7_cells : CV yX7_cells cX7_cells 6 (some .int) 1 := ⟨TW_of 1316 (by decide +kernel) (by decide +kernel), TW_of 59 (by decide +kernel) (by decide +kernel), TW_of 79 (by decide +kernel) (by decide +kernel), TW_of 1317 (by decide +kernel) (by decide +kernel), by decide +kernel, by decide +kernel, by decide +kernel⟩
theorem cvX7_answering : CV yX7_answering cX7_answering 4 (some .int) 1 := ⟨TW_of 1368 (by decide +kernel) (by decide +kernel), TW_of 65 (by decide +kernel) (by decide +kernel), TW_of 79 (by decide +kernel) (by decide +kernel), TW_of 1369 (by decide +kernel) (by decide +kernel), by decide +kernel, by decide +kernel, by decide +kernel⟩
theorem cvX7_costOf : CV yX7_costOf cX7_costOf 3 (some .int) 1 := ⟨TW_of 1364 (by decide +kernel) (by decide +kernel), TW_of 64 (by decide +kernel) (by decide +kernel), TW_of 79 (by decide +kernel) (by decide +kernel), TW_of 1365 (by decide +kernel) (by decide +kernel), by decide +kernel, by decide +kernel, by decide +kernel⟩
theorem cvX7_gainOf : CV yX7_gainOf cX7_gainOf 5 (some .int) 1 := ⟨TW_of 1384 (by decide +kernel) (by decide +kernel), TW_of 67 (by decide +kernel) (by decide +kernel), TW_of 79 (by decide +kernel) (by decide +kernel), TW_of 1385 (by decide +kernel) (by decide +kernel), by decide +kernel, by decide +kernel, by decide +kernel⟩
theorem cvX7_setLevel : CV yX7_setLevel cX7_setLevel 4 (some .int) 2 := ⟨TW_of 1303 (by decide +kernel) (by decide +kernel), TW_of 1304 (by decide +kernel) (by decide +kernel), TW_of 79 (by decide +kernel) (by decide +kernel), TW_of 1305 (by decide +kernel) (by decide +kernel), by decide +kernel, by decide +kernel, by decide +kernel⟩
theorem cvX7_cellCount : CV yX7_cellCount cX7_cellCount 1 (some .int) 0 := ⟨TW_of 1307 (by decide +kernel) (by decide +kernel), TW_of 1308 (by decide +kernel) (by decide +kernel), TW_of 79 (by decide +kernel) (by decide +kernel), TW_of 1309 (by decide +kernel) (by decide +kernel), by decide +kernel, by decide +kernel, by decide +kernel⟩
theorem cvX7_keep : CV yX7_keep cX7_keep 1 (some .int) 0 := ⟨TW_of 1331 (by decide +kernel) (by decide +kernel), TW_of 1332 (by decide +kernel) (by decide +kernel), TW_of 79 (by decide +kernel) (by decide +kernel), TW_of 1333 (by decide +kernel) (by decide +kernel), by decide +kernel, by decide +kernel, by decide +kernel⟩
theorem cvX7_isView : CV yX7_isView cX7_isView 2 (some .boolean) 1 := ⟨TW_of 1340 (by decide +kernel) (by decide +kernel), TW_of 63 (by decide +kernel) (by decide +kernel), TW_of 79 (by decide +kernel) (by decide +kernel), TW_of 1341 (by decide +kernel) (by decide +kernel), by decide +kernel, by decide +kernel, by decide +kernel⟩
theorem cvX7_dropView : CV yX7_dropView cX7_dropView 3 (some .int) 1 := ⟨TW_of 1335 (by decide +kernel) (by decide +kernel), TW_of 1336 (by decide +kernel) (by decide +kernel), TW_of 79 (by decide +kernel) (by decide +kernel), TW_of 1337 (by decide +kernel) (by decide +kernel), by decide +kernel, by decide +kernel, by decide +kernel⟩
theorem cvX7_refresh : CV yX7_refresh cX7_refresh 2 (some .int) 1 := ⟨TW_of 1343 (by decide +kernel) (by decide +kernel), TW_of 1344 (by decide +kernel) (by decide +kernel), TW_of 79 (by decide +kernel) (by decide +kernel), TW_of 1345 (by decide +kernel) (by decide +kernel), by decide +kernel, by decide +kernel, by decide +kernel⟩
theorem cvX7_views : CV yX7_views cX7_views 1 (some .int) 0 := ⟨TW_of 1347 (by decide +kernel) (by decide +kernel), TW_of 1348 (by decide +kernel) (by decide +kernel), TW_of 79 (by decide +kernel) (by decide +kernel), TW_of 1349 (by decide +kernel) (by decide +kernel), by decide +kernel, by decide +kernel, by decide +kernel⟩
theorem cvX7_rowsOf : CV yX7_rowsOf cX7_rowsOf 2 (some .int) 1 := ⟨TW_of 1351 (by decide +kernel) (by decide +kernel), TW_of 1352 (by decide +kernel) (by decide +kernel), TW_of 79 (by decide +kernel) (by decide +kernel), TW_of 1353 (by decide +kernel) (by decide +kernel), by decide +kernel, by decide +kernel, by decide +kernel⟩
theorem cvX7_isStale : CV yX7_isStale cX7_isStale 2 (some .boolean) 1 := ⟨TW_of 1355 (by decide +kernel) (by decide +kernel), TW_of 1356 (by decide +kernel) (by decide +kernel), TW_of 79 (by decide +kernel) (by decide +kernel), TW_of 1357 (by decide +kernel) (by decide +kernel), by decide +kernel, by decide +kernel, by decide +kernel⟩
theorem cvX7_cost : CV yX7_cost cX7_cost 1 (some .int) 0 := ⟨TW_of 1359 (by decide +kernel) (by decide +kernel), TW_of 1360 (by decide +kernel) (by decide +kernel), TW_of 79 (by decide +kernel) (by decide +kernel), TW_of 1361 (by decide +kernel) (by decide +kernel), by decide +kernel, by decide +kernel, by decide +kernel⟩
theorem cvX7_answeredBy : CV yX7_answeredBy cX7_answeredBy 1 (some .int) 0 := ⟨TW_of 1375 (by decide +kernel) (by decide +kernel), TW_of 1376 (by decide +kernel) (by decide +kernel), TW_of 79 (by decide +kernel) (by decide +kernel), TW_of 1377 (by decide +kernel) (by decide +kernel), by decide +kernel, by decide +kernel, by decide +kernel⟩
theorem cvX7_gain : CV yX7_gain cX7_gain 1 (some .int) 0 := ⟨TW_of 1379 (by decide +kernel) (by decide +kernel), TW_of 1380 (by decide +kernel) (by decide +kernel), TW_of 79 (by decide +kernel) (by decide +kernel), TW_of 1381 (by decide +kernel) (by decide +kernel), by decide +kernel, by decide +kernel, by decide +kernel⟩
theorem cvX7_advise : CV yX7_advise cX7_advise 4 (some .int) 0 := ⟨TW_of 1392 (by decide +kernel) (by decide +kernel), TW_of 1393 (by decide +kernel) (by decide +kernel), TW_of 79 (by decide +kernel) (by decide +kernel), TW_of 1394 (by decide +kernel) (by decide +kernel), by decide +kernel, by decide +kernel, by decide +kernel⟩
theorem cvX7_put : CV yX7_put cX7_put 2 none 1 := ⟨TW_of 1402 (by decide +kernel) (by decide +kernel), TW_of 69 (by decide +kernel) (by decide +kernel), TW_of 79 (by decide +kernel) (by decide +kernel), TW_of 1403 (by decide +kernel) (by decide +kernel), by decide +kernel, by decide +kernel, by decide +kernel⟩
theorem cvX7_putTable : CV yX7_putTable cX7_putTable 11 none 0 := ⟨TW_of 1407 (by decide +kernel) (by decide +kernel), TW_of 70 (by decide +kernel) (by decide +kernel), TW_of 79 (by decide +kernel) (by decide +kernel), TW_of 1408 (by decide +kernel) (by decide +kernel), by decide +kernel, by decide +kernel, by decide +kernel⟩
theorem cvX7_digest : CV yX7_digest cX7_digest 7 (some .long) 0 := ⟨TW_of 1396 (by decide +kernel) (by decide +kernel), TW_of 1397 (by decide +kernel) (by decide +kernel), TW_of 79 (by decide +kernel) (by decide +kernel), TW_of 1398 (by decide +kernel) (by decide +kernel), by decide +kernel, by decide +kernel, by decide +kernel⟩
theorem csJ9_max_7cf53 : CS yJ9_max_7cf53 cJ9_max_7cf53 2 (some .int) 2 := ⟨TW_of 392 (by decide +kernel) (by decide +kernel), TW_of 87 (by decide +kernel) (by decide +kernel), TW_of 393 (by decide +kernel) (by decide +kernel), by decide +kernel, by decide +kernel, by decide +kernel⟩
theorem csJ9_min_7cf53 : CS yJ9_min_7cf53 cJ9_min_7cf53 2 (some .int) 2 := ⟨TW_of 1113 (by decide +kernel) (by decide +kernel), TW_of 87 (by decide +kernel) (by decide +kernel), TW_of 1114 (by decide +kernel) (by decide +kernel), by decide +kernel, by decide +kernel, by decide +kernel⟩
theorem csJ7_fill_49daa : CS yJ7_fill_49daa cJ7_fill_49daa 4 none 2 := ⟨TW_of 1040 (by decide +kernel) (by decide +kernel), TW_of 85 (by decide +kernel) (by decide +kernel), TW_of 1041 (by decide +kernel) (by decide +kernel), by decide +kernel, by decide +kernel, by decide +kernel⟩
theorem csJ7_copyOf_59c91 : CS yJ7_copyOf_59c91 cJ7_copyOf_59c91 3 (some (.array .int)) 2 := ⟨TW_of 1103 (by decide +kernel) (by decide +kernel), TW_of 85 (by decide +kernel) (by decide +kernel), TW_of 1104 (by decide +kernel) (by decide +kernel), by decide +kernel, by decide +kernel, by decide +kernel⟩
end
section
/-! numbers: every int of the machine is written as iI of a whole number -/
def iI (z : Int) : Int32 := Int32.ofInt z
abbrev inR (z : Int) : Prop := -2147483648 ≤ z ∧ z < 2147483648
theorem iI_toInt {z : Int} (h : inR z) : (iI z).toInt = z := by
  unfold iI
  exact Int32.toInt_ofInt_of_le (by have := h.1; omega) (by have := h.2; omega)
theorem iI_of (x : Int32) : iI x.toInt = x := by
  unfold iI
  exact Int32.ofInt_toInt x
theorem inR_of (x : Int32) : inR x.toInt := ⟨by have := Int32.le_toInt x; omega, by have := Int32.toInt_lt x; omega⟩
theorem iI_add (a b : Int) : iI a + iI b = iI (a + b) := by unfold iI; exact (Int32.ofInt_add a b).symm
theorem iI_sub (a b : Int) : iI a - iI b = iI (a - b) := by unfold iI; exact (Int32.ofInt_sub a b).symm
theorem iI_mul (a b : Int) : iI a * iI b = iI (a * b) := by unfold iI; exact (Int32.ofInt_mul a b).symm
theorem iI_inj {a b : Int} (ha : inR a) (hb : inR b) (h : iI a = iI b) : a = b := by
  rw [← iI_toInt ha, ← iI_toInt hb, h]
theorem iI_le {a b : Int} (ha : inR a) (hb : inR b) : iI a ≤ iI b ↔ a ≤ b := by
  rw [Int32.le_iff_toInt_le, iI_toInt ha, iI_toInt hb]
theorem iI_lt {a b : Int} (ha : inR a) (hb : inR b) : iI a < iI b ↔ a < b := by
  rw [Int32.lt_iff_toInt_lt, iI_toInt ha, iI_toInt hb]
theorem iI_eq {a b : Int} (ha : inR a) (hb : inR b) : iI a = iI b ↔ a = b := ⟨iI_inj ha hb, fun h => by rw [h]⟩
theorem iI_nat (n : Nat) : iI (n : Int) = nI n := by
  unfold iI nI
  first | rfl | simp
theorem iI_0 : iI 0 = 0 := by decide +kernel
theorem iI_clamp {z : Int} (h0 : 0 ≤ z) (h : z < 2147483648) : (iI z).toNatClampNeg = z.toNat := by
  obtain ⟨n, rfl⟩ := Int.eq_ofNat_of_zero_le h0
  rw [iI_nat, nI_clamp (by omega)]
  rfl
theorem iI_in {z : Int} {n : Nat} (h0 : 0 ≤ z) (h : z < n) (hn : n < 2 ^ 31) : vp_in (iI z) n := by
  obtain ⟨k, rfl⟩ := Int.eq_ofNat_of_zero_le h0
  rw [iI_nat]
  exact vp_in_nI (by omega) hn
/-! the memory: kinds of places; ad k i: the address of place i of kind k; Z k i j: the whole number in its field or element j -/
abbrev ZT : Type := Nat → Int → Int → Int
def vK (k : Nat) : Int := match k with
  | 0 => 1 | 1 => 1 | 2 => 4 | 3 => 4 | 4 => 4 | 5 => 4 | 6 => 1 | 7 => 1 | 8 => 4 | 9 => 1 | 10 => 1 | 11 => 1 | 12 => 1 | 13 => 1 | 14 => 1 | 15 => 2 | 16 => 4 | 17 => 4 | 18 => 2 | 19 => 2 | 20 => 1 | 21 => 1 | 22 => 1 | 23 => 24
  | 24 => 1 | 25 => 1 | 26 => 1 | 27 => 1 | 28 => 4 | 29 => 1 | 30 => 4 | 31 => 1 | 32 => 1 | 34 => 1 | 35 => 1 | 36 => 1 | 37 => 1 | 38 => 1
  | _ => 0
abbrev vd (k : Nat) (i : Int) : Prop := 0 ≤ i ∧ i < vK k
abbrev eI (c : ClassId) (n : Nat) (z : Int → Int) : va_E := .inl (c, n, .inl (fun q => iI (z q)))
abbrev eQ (c : ClassId) (n : Nat) (f : Nat → Option Nat) : va_E := .inl (c, n, .inr (.inr (.inr (.inr f))))
abbrev fi (z : Int → Int) (k : Int) : Value := .int (iI (z k))
/-- what lies at place i of kind k -/
def cC (cys : Nat → ClassId) (ad : Nat → Int → Nat) (k : Nat) (i : Int) (X : Int64) (z : Int → Int) : va_E := match k with
  | 0 => .inr (6, [.ref (ad 1 0), .ref (ad 6 0), .ref (ad 11 0), .ref (ad 15 0), .ref (ad 15 1), fi z 5, fi z 6, fi z 7, fi z 8, .ref (ad 16 2), .ref (ad 20 0), .ref (ad 22 0)])
  | 1 => eQ (cys 3) 4 (fun j => some (ad 2 j))
  | 2 => .inr (4, [.ref (ad 3 i), .ref (ad 4 i), .ref (ad 5 i), fi z 3, fi z 4, fi z 5])
  | 3 => eI (cys 0) 24 z
  | 4 => eI (cys 0) 24 z
  | 5 => eI (cys 1) 24 z
  | 6 => .inr (1, [.ref (ad 7 0), .ref (ad 9 0), .ref (ad 10 0), fi z 3])
  | 7 => eQ (cys 4) 4 (fun j => some (ad 8 j))
  | 8 => eI (cys 0) 80 z
  | 9 => eI (cys 0) 80 z
  | 10 => eI (cys 0) 80 z
  | 11 => .inr (5, [.ref (ad 12 0), .ref (ad 13 0), .ref (ad 14 0), fi z 3])
  | 12 => eI (cys 0) 6 z
  | 13 => eI (cys 0) 6 z
  | 14 => eI (cys 1) 6 z
  | 15 => .inr (0, [.ref (ad 16 i), .ref (ad 18 i), .ref (ad 19 i), fi z 3, fi z 4, fi z 5])
  | 16 => .inr (3, [.ref (ad 17 i), fi z 1])
  | 17 => eI (cys 0) 24 z
  | 18 => eI (cys 1) 24 z
  | 19 => eI (cys 0) 24 z
  | 20 => .inr (2, [.ref (ad 16 3), .ref (ad 21 0)])
  | 21 => eI (cys 0) 24 z
  | 22 => eQ (cys 4) 24 (fun j => some (ad 23 j))
  | 23 => eI (cys 0) 24 z
  | 24 => .inr (7, [fi z 0, fi z 1, .ref (ad 25 0), .ref (ad 26 0), .ref (ad 27 0), .ref (ad 29 0), .ref (ad 31 0), .ref (ad 32 0), fi z 8, .ref (ad 33 0), .ref (ad 34 0), fi z 11, .ref (ad 35 0), fi z 13, fi z 14, .ref (ad 36 0), .ref (ad 37 0), .ref (ad 38 0), .long X])
  | 25 => eI (cys 0) 4 z
  | 26 => eI (cys 0) 4 z
  | 27 => eQ (cys 4) 4 (fun j => some (ad 28 j))
  | 28 => eI (cys 0) 24 z
  | 29 => eQ (cys 5) 4 (fun j => some (ad 30 j))
  | 30 => eI (cys 1) 24 z
  | 31 => eI (cys 0) 4 z
  | 32 => eI (cys 0) 4 z
  | 34 => eI (cys 0) 80 z
  | 35 => eI (cys 0) 4 z
  | 36 => eI (cys 0) 6 z
  | 37 => eI (cys 0) 6 z
  | 38 => eI (cys 1) 6 z
  | _ => .inr (0, [])
def injA (ad : Nat → Int → Nat) : Prop := ∀ (k : Nat) (i : Int) (k' : Nat) (i' : Int), vd k i → vd k' i' → ad k i = ad k' i' → k = k' ∧ i = i'
def isS (ad : Nat → Int → Nat) (a : Nat) : Prop := ∃ q : Nat × Int, vd q.1 q.2 ∧ ad q.1 q.2 = a
/-- the whole memory: the fixed places by Z and X, the other ones by g -/
noncomputable def ov (cys : Nat → ClassId) (ad : Nat → Int → Nat) (g : Nat → va_E) (X : Int64) (Z : ZT) : Nat → va_E := fun a =>
  @dite _ (isS ad a) (Classical.propDecidable _) (fun h => cC cys ad h.choose.1 h.choose.2 X (Z h.choose.1 h.choose.2)) (fun _ => g a)
theorem ov_at {cys : Nat → ClassId} {ad : Nat → Int → Nat} {g : Nat → va_E} {X : Int64} {Z : ZT} (hi : injA ad) {k : Nat} {i : Int} (h : vd k i) : ov cys ad g X Z (ad k i) = cC cys ad k i X (Z k i) := by
  have hs : isS ad (ad k i) := ⟨(k, i), h, rfl⟩
  have e := hi _ _ _ _ hs.choose_spec.1 h hs.choose_spec.2
  unfold ov
  rw [dif_pos hs, e.1, e.2]
theorem ov_dyn {cys : Nat → ClassId} {ad : Nat → Int → Nat} {g : Nat → va_E} {X : Int64} {Z : ZT} {a : Nat} (h : ¬ isS ad a) : ov cys ad g X Z a = g a := by
  unfold ov
  rw [dif_neg h]
/-- one place's row changes -/
def zR (Z : ZT) (k : Nat) (i : Int) (z : Int → Int) : ZT := fun k' i' => if k' = k ∧ i' = i then z else Z k' i'
def rS (z : Int → Int) (j : Int) (v : Int) : Int → Int := fun q => if q = j then v else z q
/-- one number changes -/
def zS (Z : ZT) (k : Nat) (i j v : Int) : ZT := zR Z k i (rS (Z k i) j v)
theorem zR_at {Z : ZT} {k : Nat} {i : Int} {z : Int → Int} : zR Z k i z k i = z := if_pos ⟨rfl, rfl⟩
theorem ov_set {cys : Nat → ClassId} {ad : Nat → Int → Nat} {g : Nat → va_E} {X : Int64} {Z : ZT} (hi : injA ad) {k : Nat} {i : Int} (h : vd k i) (z : Int → Int) : va_up (ov cys ad g X Z) (ad k i) (cC cys ad k i X z) = ov cys ad g X (zR Z k i z) := by
  funext a
  by_cases ha : a = ad k i
  · subst ha
    rw [va_up_self, ov_at hi h, zR_at]
  · rw [va_up_ne _ _ ha]
    by_cases hs : isS ad a
    · obtain ⟨⟨k', i'⟩, h1, rfl⟩ := hs
      rw [ov_at hi h1, ov_at hi h1]
      unfold zR
      rw [if_neg]
      rintro ⟨rfl, rfl⟩
      exact ha rfl
    · rw [ov_dyn hs, ov_dyn hs]
theorem ov_up {cys : Nat → ClassId} {ad : Nat → Int → Nat} {g : Nat → va_E} {X : Int64} {Z : ZT} {a : Nat} {x : va_E} (h : ¬ isS ad a) : va_up (ov cys ad g X Z) a x = ov cys ad (va_up g a x) X Z := by
  funext b
  by_cases hb : b = a
  · subst hb
    rw [va_up_self, ov_dyn h, va_up_self]
  · rw [va_up_ne _ _ hb]
    by_cases hs : isS ad b
    · obtain ⟨⟨k', i'⟩, h1, rfl⟩ := hs
      unfold ov
      have hs' : isS ad (ad k' i') := ⟨(k', i'), h1, rfl⟩
      rw [dif_pos hs', dif_pos hs']
    · rw [ov_dyn hs, ov_dyn hs, va_up_ne _ _ hb]
theorem ov_X {cys : Nat → ClassId} {ad : Nat → Int → Nat} {g : Nat → va_E} {X Y : Int64} {Z : ZT} (hi : injA ad) : va_up (ov cys ad g X Z) (ad 24 0) (cC cys ad 24 0 Y (Z 24 0)) = ov cys ad g Y Z := by
  have h0 : vd 24 0 := by decide
  funext a
  by_cases ha : a = ad 24 0
  · subst ha
    rw [va_up_self, ov_at hi h0]
  · rw [va_up_ne _ _ ha]
    by_cases hs : isS ad a
    · obtain ⟨⟨k', i'⟩, h1, rfl⟩ := hs
      rw [ov_at hi h1, ov_at hi h1]
      have hk : k' ≠ 24 := by
        rintro rfl
        have : i' = 0 := by
          have h1 : 0 ≤ i' ∧ i' < 1 := h1
          omega
        subst this
        exact ha rfl
      unfold cC
      split <;> first | rfl | contradiction | (exact (hk rfl).elim) | simp_all
    · rw [ov_dyn hs, ov_dyn hs]
theorem zS_k {Z : ZT} {k k' : Nat} {i j v : Int} (h : k' ≠ k) : zS Z k i j v k' = Z k' := by
  funext i'
  unfold zS zR
  rw [if_neg (fun q => h q.1)]
theorem zS_i {Z : ZT} {k : Nat} {i i' j v : Int} (h : i' ≠ i) : zS Z k i j v k i' = Z k i' := by
  unfold zS zR
  rw [if_neg (fun q => h q.2)]
theorem zS_j {Z : ZT} {k : Nat} {i j j' v : Int} (h : j' ≠ j) : zS Z k i j v k i j' = Z k i j' := by
  unfold zS zR
  rw [if_pos ⟨rfl, rfl⟩]
  unfold rS
  rw [if_neg h]
theorem zS_s {Z : ZT} {k : Nat} {i j v : Int} : zS Z k i j v k i j = v := by
  unfold zS zR
  rw [if_pos ⟨rfl, rfl⟩]
  unfold rS
  rw [if_pos rfl]
theorem zS_o {Z : ZT} {k k' : Nat} {i i' j v : Int} (h : ¬ (k' = k ∧ i' = i)) : zS Z k i j v k' i' = Z k' i' := by
  unfold zS zR
  rw [if_neg h]
theorem zS_v {Z : ZT} {k : Nat} {i j j' v : Int} : zS Z k i j v k i j' = if j' = j then v else Z k i j' := by
  unfold zS zR
  rw [if_pos ⟨rfl, rfl⟩]
  rfl
end
section
/-! the judgement JJ: the machine stands in a method's frame, the memory is (L, g, X, Z) -/
def tysC (cys : Nat → ClassId) : List (ClassId × FieldType) := [(cys 0, .int), (cys 1, .boolean), (cys 2, .long), (cys 3, .object "EbbTable$Tree"), (cys 4, .array .int), (cys 5, .array .boolean)]
def SL (ad : Nat → Int → Nat) (L : List Nat) : Prop := ∀ (k : Nat) (i : Int), vd k i → ad k i ∈ L
/-- words that the tables hold, but that no call's words may carry -/
def NGL : List Cond := [.castable "java/lang/IllegalArgumentException" "java/lang/IllegalArgumentException", .castable "java/lang/IllegalStateException" "java/lang/IllegalStateException", .castable "java/lang/IndexOutOfBoundsException" "java/lang/IndexOutOfBoundsException", .castable "[I" "java/lang/Cloneable", .declares ⟨"java/lang/RuntimeException", "<init>", "()V"⟩, .declares ⟨"java/lang/RuntimeException", "<init>", "(Ljava/lang/String;)V"⟩, .declares ⟨"java/lang/Exception", "<init>", "()V"⟩, .declares ⟨"java/lang/Exception", "<init>", "(Ljava/lang/String;)V"⟩, .declares ⟨"java/lang/Throwable", "<init>", "()V"⟩, .declares ⟨"java/lang/Throwable", "<init>", "(Ljava/lang/String;)V"⟩]
def STRL : List (String × Nat × String) := [("EbbTable", 61, "levels is not 1 to 3"), ("EbbTable", 72, "there are 4 dimensions"), ("EbbTable", 318, "no such dimension"), ("EbbTable", 320, "no such member"), ("EbbTable", 90, "the parent is a leaf"), ("EbbTable", 96, "the dimension has 24 members"), ("EbbTable", 107, "no such parent"), ("EbbTable", 110, "the root has no parent"), ("EbbTable", 116, "the parent is on another level than the one before"), ("EbbTable", 325, "no such level"), ("EbbTable", 141, "no such place"), ("EbbTable", 153, "value is not -10000 to 10000"), ("EbbTable", 158, "the point is not one of leaves"), ("EbbTable", 161, "there are 80 facts"), ("EbbTable", 170, "no such fact"), ("EbbTable", 340, "not so many children"), ("EbbTable", 202, "part is not 1 to 1000"), ("EbbTable", 214, "both dimensions are the same"), ("EbbTable", 342, "there are no axes"), ("EbbTable", 347, "no such row or column"), ("EbbTable", 262, "there are 6 views"), ("EbbTable", 387, "no such view")]
def NGS (U : State) : Prop := (∀ w ∈ NGL, va_Nw w U) ∧ ∀ q ∈ STRL, ∃ a, vk_R q.1 q.2.1 q.2.2 a U
theorem NGL_is {w : Cond} (h : w ∈ NGL) : (∃ a b, w = .castable a b) ∨ ∃ y, w = .declares y := by
  simp only [NGL, List.mem_cons, List.not_mem_nil, or_false] at h
  rcases h with rfl | rfl | rfl | rfl | rfl | rfl | rfl | rfl | rfl | rfl <;> first | exact Or.inl ⟨_, _, rfl⟩ | exact Or.inr ⟨_, rfl⟩
theorem NGS.warm {s U : State} (hW : s.WarmedH U.vm) (h : NGS s) : NGS U := by
  refine ⟨fun w hw => ?_, fun q hq => ?_⟩
  · rcases NGL_is hw with ⟨a, b, rfl⟩ | ⟨y, rfl⟩
    · exact va_Nw.warmC hW (h.1 _ hw)
    · exact va_Nw.warmD hW (h.1 _ hw)
  · obtain ⟨a, ha⟩ := h.2 q hq
    exact ⟨a, vk_R.warm hW ha⟩
theorem NGS.same {u U : State} (hv : U.vm = u.vm) (h : NGS u) : NGS U := by
  refine ⟨fun w hw => ?_, fun q hq => ?_⟩
  · rcases NGL_is hw with ⟨a, b, rfl⟩ | ⟨y, rfl⟩ <;> exact va_Nw.same rfl hv.symm (h.1 _ hw)
  · obtain ⟨a, ha⟩ := h.2 q hq
    exact ⟨a, vk_R.same hv ha⟩
def Amb (A : Nat → Prop) (U : State) (H : Heap) : Prop := vx_Zq Bundle.tN "UNASSIGNED_STACK" Bundle.steD A U H ∧ vx_Zq Bundle.tN "SUPPRESSED_SENTINEL" Bundle.listD A U H ∧ NGS U
noncomputable abbrev MW (cys : Nat → ClassId) (ad : Nat → Int → Nat) (L : List Nat) (g : Nat → va_E) (X : Int64) (Z : ZT) : va_W := va_pl L (ov cys ad g X Z)
section JJS
variable {p : Program} {l : Launch} {e : Env} {R : Room} {s : State} {m : MethodId} {args : Array Value} {below : List Frame} {meth : Method} {c : Code} {Q : State → Prop}
variable {D : va_G} {cys : Nat → ClassId} {ad : Nat → Int → Nat} {A : Nat → Prop} {cc : ByteArray} {own : String} {nL : Nat} {cells slots : Nat} {L : List Nat} {g : Nat → va_E} {X : Int64} {Z : ZT} {pc : Nat} {vs : List (Nat × Value)} {st : List Value}
def JJ (p : Program) (l : Launch) (e : Env) (R : Room) (s : State) (m : MethodId) (args : Array Value) (below : List Frame) (meth : Method) (c : Code) (D : va_G) (cys : Nat → ClassId) (ad : Nat → Int → Nat) (A : Nat → Prop) (Q : State → Prop) (nL : Nat) (cells slots : Nat) (L : List Nat) (g : Nat → va_E) (X : Int64) (Z : ZT) (pc : Nat) (vs : List (Nat × Value)) (st : List Value) : Prop :=
  ∀ (H : Heap) (locs : List Loc) (ls : Array Slot), SL ad L → va_P D vwCl (MW cys ad L g X Z) H → va_D A (MW cys ad L g X Z) → va_S A s.heap H locs → lv_has ls nL vs → W p l e R s m args below meth c H locs cells slots Q (F0 m pc ls st)
/-- what does not change in a method's run -/
def GG (p : Program) (l : Launch) (s : State) (m : MethodId) (args : Array Value) (meth : Method) (c : Code) (D : va_G) (cys : Nat → ClassId) (ad : Nat → Int → Nat) (A : Nat → Prop) (cc : ByteArray) (own : String) (nL : Nat) : Prop :=
  p.tables.exec = Jvm.exec ∧ c.code = cc ∧ c.maxLocals = nL ∧ s.vm.findClass own = some m.cls ∧ (∀ w ∈ TW, w.before args s = true) ∧ va_K D vwCl (tysC cys) s ∧ meth.locks = false ∧ (∀ q, s.heap.size ≤ q → A q) ∧ injA ad ∧ Amb A s s.heap
theorem GG.x (h : GG p l s m args meth c D cys ad A cc own nL) : p.tables.exec = Jvm.exec := h.1
theorem GG.b (h : GG p l s m args meth c D cys ad A cc own nL) : c.code = cc := h.2.1
theorem GG.ml (h : GG p l s m args meth c D cys ad A cc own nL) : c.maxLocals = nL := h.2.2.1
theorem GG.ow (h : GG p l s m args meth c D cys ad A cc own nL) : s.vm.findClass own = some m.cls := h.2.2.2.1
theorem GG.ts (h : GG p l s m args meth c D cys ad A cc own nL) : ∀ w ∈ TW, w.before args s = true := h.2.2.2.2.1
theorem GG.K (h : GG p l s m args meth c D cys ad A cc own nL) : va_K D vwCl (tysC cys) s := h.2.2.2.2.2.1
theorem GG.lk (h : GG p l s m args meth c D cys ad A cc own nL) : meth.locks = false := h.2.2.2.2.2.2.1
theorem GG.fr (h : GG p l s m args meth c D cys ad A cc own nL) : ∀ q, s.heap.size ≤ q → A q := h.2.2.2.2.2.2.2.1
theorem GG.inj (h : GG p l s m args meth c D cys ad A cc own nL) : injA ad := h.2.2.2.2.2.2.2.2.1
theorem GG.amb (h : GG p l s m args meth c D cys ad A cc own nL) : Amb A s s.heap := h.2.2.2.2.2.2.2.2.2
/-- a place of the world, found -/
theorem mw_get (hi : injA ad) (hL : SL ad L) {k : Nat} {i : Int} (h : vd k i) {x : va_E} (hx : cC cys ad k i X (Z k i) = x) : ∃ q : Nat, (MW cys ad L g X Z)[q]? = some (ad k i, x) := by
  obtain ⟨q, hq⟩ := va_pl_get (X := []) (f := ov cys ad g X Z) (hL k i h)
  refine ⟨q, ?_⟩
  rw [ov_at hi h, hx] at hq
  exact hq
theorem mw_set (hi : injA ad) (hL : SL ad L) {k : Nat} {i : Int} (h : vd k i) {x : va_E} (hx : cC cys ad k i X (Z k i) = x) {q : Nat} (hq : (MW cys ad L g X Z)[q]? = some (ad k i, x)) (hD : va_D A (MW cys ad L g X Z)) (z : Int → Int) : (MW cys ad L g X Z).set q (ad k i, cC cys ad k i X z) = MW cys ad L g X (zR Z k i z) := by
  have h1 : ([] ++ va_pl L (ov cys ad g X Z))[q]? = some (ad k i, ov cys ad g X Z (ad k i)) := by
    rw [ov_at hi h, hx]; exact hq
  have h2 := va_pl_set (X := []) (e := cC cys ad k i X z) hD (hL k i h) h1
  rw [ov_set hi h] at h2
  exact h2
/-! locals by their numbers -/
def lkp : List (Nat × Value) → Nat → Option Value
  | [], _ => none
  | (j, v) :: r, i => if j = i then some v else lkp r i
theorem lkp_mem {vs : List (Nat × Value)} {i : Nat} {v : Value} (h : lkp vs i = some v) : (i, v) ∈ vs := by
  induction vs with
  | nil => cases h
  | cons q r ih =>
    obtain ⟨j, w⟩ := q
    simp only [lkp] at h
    split at h
    · rename_i e
      cases h; subst e
      exact List.mem_cons_self
    · exact List.mem_cons_of_mem _ (ih h)
theorem lv_lk {ls : Array Slot} {vs : List (Nat × Value)} (h : lv_has ls nL vs) {i : Nat} {v : Value} (hv : lkp vs i = some v) : ls[i]? = some (.val v) := h.2.2 (i, v) (lkp_mem hv)
/-- a store: in its place, or at the end -/
def sto (vs : List (Nat × Value)) (i : Nat) (v : Value) : List (Nat × Value) := if vs.any (fun q => q.1 == i) then vs.map (fun q => if q.1 == i then (i, v) else q) else vs ++ [(i, v)]
def no2 (vs : List (Nat × Value)) (i : Nat) : Bool := vs.all (fun q => !(q.1 + 1 == i && q.2.category == 2))
theorem sto_has {ls : Array Slot} {vs : List (Nat × Value)} {i : Nat} {v : Value} (h : lv_has ls nL ((i, v) :: vs.filter (fun q => !(q.1 == i) && !(q.1 + 1 == i && q.2.category == 2)))) (h2 : no2 vs i = true) : lv_has ls nL (sto vs i v) := by
  refine ⟨h.1, h.2.1, fun q hq => h.2.2 q ?_⟩
  have key : ∀ q ∈ vs, ¬ (q.1 == i) = true → q ∈ (i, v) :: vs.filter (fun q => !(q.1 == i) && !(q.1 + 1 == i && q.2.category == 2)) := by
    intro q hm hne
    refine List.mem_cons_of_mem _ (List.mem_filter.mpr ⟨hm, ?_⟩)
    have := List.all_eq_true.mp h2 q hm
    rw [Bool.and_eq_true]
    exact ⟨by simpa using hne, this⟩
  unfold sto at hq
  split at hq
  · obtain ⟨q0, h0, rfl⟩ := List.mem_map.mp hq
    by_cases e : (q0.1 == i) = true
    · rw [if_pos e]; exact List.mem_cons_self
    · rw [if_neg e]; exact key q0 h0 e
  · rename_i hn
    rcases List.mem_append.mp hq with h0 | h0
    · refine key q h0 (fun e => hn (List.any_eq_true.mpr ⟨q, h0, e⟩))
    · rw [List.mem_singleton.mp h0]; exact List.mem_cons_self
theorem j_iload_n (G : GG p l s m args meth c D cys ad A cc own nL) {k : Fin 4} {x : Int32} (hd : decode cc pc = .ok (.iload_n k, 1)) (hk : lkp vs k = some (.int x)) (kk : JJ p l e R s m args below meth c D cys ad A Q nL cells slots L g X Z (pc + 1) vs (.int x :: st)) : JJ p l e R s m args below meth c D cys ad A Q nL cells slots L g X Z pc vs st :=
  fun H locs ls hL hP hD hS hl => lv_iload_n G.x G.b hd rfl (lv_lk hl hk) (kk H locs ls hL hP hD hS hl)
theorem j_iload (G : GG p l s m args meth c D cys ad A cc own nL) {k : Nat} {x : Int32} (hd : decode cc pc = .ok (.iload k, 2)) (hk : lkp vs k = some (.int x)) (kk : JJ p l e R s m args below meth c D cys ad A Q nL cells slots L g X Z (pc + 2) vs (.int x :: st)) : JJ p l e R s m args below meth c D cys ad A Q nL cells slots L g X Z pc vs st :=
  fun H locs ls hL hP hD hS hl => lv_iload G.x G.b hd (lv_lk hl hk) (kk H locs ls hL hP hD hS hl)
theorem j_lload_n (G : GG p l s m args meth c D cys ad A cc own nL) {k : Fin 4} {x : Int64} (hd : decode cc pc = .ok (.lload_n k, 1)) (hk : lkp vs k = some (.long x)) (kk : JJ p l e R s m args below meth c D cys ad A Q nL cells slots L g X Z (pc + 1) vs (.long x :: st)) : JJ p l e R s m args below meth c D cys ad A Q nL cells slots L g X Z pc vs st :=
  fun H locs ls hL hP hD hS hl => lv_lload_n G.x G.b hd rfl (lv_lk hl hk) (kk H locs ls hL hP hD hS hl)
theorem j_lload (G : GG p l s m args meth c D cys ad A cc own nL) {k : Nat} {x : Int64} (hd : decode cc pc = .ok (.lload k, 2)) (hk : lkp vs k = some (.long x)) (kk : JJ p l e R s m args below meth c D cys ad A Q nL cells slots L g X Z (pc + 2) vs (.long x :: st)) : JJ p l e R s m args below meth c D cys ad A Q nL cells slots L g X Z pc vs st :=
  fun H locs ls hL hP hD hS hl => lv_lload G.x G.b hd (lv_lk hl hk) (kk H locs ls hL hP hD hS hl)
theorem j_aload_n (G : GG p l s m args meth c D cys ad A cc own nL) {k : Fin 4} {x : Nat} (hd : decode cc pc = .ok (.aload_n k, 1)) (hk : lkp vs k = some (.ref x)) (kk : JJ p l e R s m args below meth c D cys ad A Q nL cells slots L g X Z (pc + 1) vs (.ref x :: st)) : JJ p l e R s m args below meth c D cys ad A Q nL cells slots L g X Z pc vs st :=
  fun H locs ls hL hP hD hS hl => lv_aload_n G.x G.b hd rfl (lv_lk hl hk) (kk H locs ls hL hP hD hS hl)
theorem j_aload (G : GG p l s m args meth c D cys ad A cc own nL) {k : Nat} {x : Nat} (hd : decode cc pc = .ok (.aload k, 2)) (hk : lkp vs k = some (.ref x)) (kk : JJ p l e R s m args below meth c D cys ad A Q nL cells slots L g X Z (pc + 2) vs (.ref x :: st)) : JJ p l e R s m args below meth c D cys ad A Q nL cells slots L g X Z pc vs st :=
  fun H locs ls hL hP hD hS hl => lv_aload G.x G.b hd (lv_lk hl hk) (kk H locs ls hL hP hD hS hl)
theorem j_istore_n (G : GG p l s m args meth c D cys ad A cc own nL) {k : Fin 4} {x : Int32} (hd : decode cc pc = .ok (.istore_n k, 1)) (hn : (k : Nat) < nL) (h2 : no2 vs k = true) (kk : JJ p l e R s m args below meth c D cys ad A Q nL cells slots L g X Z (pc + 1) (sto vs k (.int x)) st) : JJ p l e R s m args below meth c D cys ad A Q nL cells slots L g X Z pc vs (.int x :: st) :=
  fun H locs ls hL hP hD hS hl => lv_istore_n G.x G.b hd rfl hl hn rfl (fun ls' hl' => kk H locs ls' hL hP hD hS (sto_has hl' h2))
theorem j_istore (G : GG p l s m args meth c D cys ad A cc own nL) {k : Nat} {x : Int32} (hd : decode cc pc = .ok (.istore k, 2)) (hn : k < nL) (h2 : no2 vs k = true) (kk : JJ p l e R s m args below meth c D cys ad A Q nL cells slots L g X Z (pc + 2) (sto vs k (.int x)) st) : JJ p l e R s m args below meth c D cys ad A Q nL cells slots L g X Z pc vs (.int x :: st) :=
  fun H locs ls hL hP hD hS hl => lv_istore G.x G.b hd hl hn rfl (fun ls' hl' => kk H locs ls' hL hP hD hS (sto_has hl' h2))
theorem j_astore_n (G : GG p l s m args meth c D cys ad A cc own nL) {k : Fin 4} {x : Nat} (hd : decode cc pc = .ok (.astore_n k, 1)) (hn : (k : Nat) < nL) (h2 : no2 vs k = true) (kk : JJ p l e R s m args below meth c D cys ad A Q nL cells slots L g X Z (pc + 1) (sto vs k (.ref x)) st) : JJ p l e R s m args below meth c D cys ad A Q nL cells slots L g X Z pc vs (.ref x :: st) :=
  fun H locs ls hL hP hD hS hl => lv_astore_n G.x G.b hd rfl hl hn rfl (fun ls' hl' => kk H locs ls' hL hP hD hS (sto_has hl' h2))
theorem j_astore (G : GG p l s m args meth c D cys ad A cc own nL) {k : Nat} {x : Nat} (hd : decode cc pc = .ok (.astore k, 2)) (hn : k < nL) (h2 : no2 vs k = true) (kk : JJ p l e R s m args below meth c D cys ad A Q nL cells slots L g X Z (pc + 2) (sto vs k (.ref x)) st) : JJ p l e R s m args below meth c D cys ad A Q nL cells slots L g X Z pc vs (.ref x :: st) :=
  fun H locs ls hL hP hD hS hl => lv_astore G.x G.b hd hl hn rfl (fun ls' hl' => kk H locs ls' hL hP hD hS (sto_has hl' h2))
theorem j_iconst (G : GG p l s m args meth c D cys ad A cc own nL) {n : Int} (hd : decode cc pc = .ok (.iconst n, 1)) (kk : JJ p l e R s m args below meth c D cys ad A Q nL cells slots L g X Z (pc + 1) vs (.int (iI n) :: st)) : JJ p l e R s m args below meth c D cys ad A Q nL cells slots L g X Z pc vs st :=
  fun H locs ls hL hP hD hS hl => lv_iconst G.x G.b hd rfl (kk H locs ls hL hP hD hS hl)
theorem j_bipush (G : GG p l s m args meth c D cys ad A cc own nL) {n : Int} (hd : decode cc pc = .ok (.bipush n, 2)) (hv : (Int8.ofInt n).toInt32 = iI n) (kk : JJ p l e R s m args below meth c D cys ad A Q nL cells slots L g X Z (pc + 2) vs (.int (iI n) :: st)) : JJ p l e R s m args below meth c D cys ad A Q nL cells slots L g X Z pc vs st :=
  fun H locs ls hL hP hD hS hl => lv_bipush G.x G.b hd hv (kk H locs ls hL hP hD hS hl)
theorem j_sipush (G : GG p l s m args meth c D cys ad A cc own nL) {n : Int} (hd : decode cc pc = .ok (.sipush n, 3)) (hv : (Int16.ofInt n).toInt32 = iI n) (kk : JJ p l e R s m args below meth c D cys ad A Q nL cells slots L g X Z (pc + 3) vs (.int (iI n) :: st)) : JJ p l e R s m args below meth c D cys ad A Q nL cells slots L g X Z pc vs st :=
  fun H locs ls hL hP hD hS hl => lv_sipush G.x G.b hd hv (kk H locs ls hL hP hD hS hl)
theorem j_lconst (G : GG p l s m args meth c D cys ad A cc own nL) {n : Fin 2} {v : Int64} (hd : decode cc pc = .ok (.lconst n, 1)) (hv : Int64.ofNat n.val = v) (kk : JJ p l e R s m args below meth c D cys ad A Q nL cells slots L g X Z (pc + 1) vs (.long v :: st)) : JJ p l e R s m args below meth c D cys ad A Q nL cells slots L g X Z pc vs st :=
  fun H locs ls hL hP hD hS hl => lv_lconst G.x G.b hd (by first | exact hv | simpa using hv) (kk H locs ls hL hP hD hS hl)
theorem j_iadd (G : GG p l s m args meth c D cys ad A cc own nL) {a b : Int} (hd : decode cc pc = .ok (.iadd, 1)) (kk : JJ p l e R s m args below meth c D cys ad A Q nL cells slots L g X Z (pc + 1) vs (.int (iI (a + b)) :: st)) : JJ p l e R s m args below meth c D cys ad A Q nL cells slots L g X Z pc vs (.int (iI b) :: .int (iI a) :: st) :=
  fun H locs ls hL hP hD hS hl => lv_iadd G.x G.b hd (by rw [iI_add]; exact kk H locs ls hL hP hD hS hl)
theorem j_isub (G : GG p l s m args meth c D cys ad A cc own nL) {a b : Int} (hd : decode cc pc = .ok (.isub, 1)) (kk : JJ p l e R s m args below meth c D cys ad A Q nL cells slots L g X Z (pc + 1) vs (.int (iI (a - b)) :: st)) : JJ p l e R s m args below meth c D cys ad A Q nL cells slots L g X Z pc vs (.int (iI b) :: .int (iI a) :: st) :=
  fun H locs ls hL hP hD hS hl => lv_isub G.x G.b hd (by rw [iI_sub]; exact kk H locs ls hL hP hD hS hl)
theorem j_imul (G : GG p l s m args meth c D cys ad A cc own nL) {a b : Int} (hd : decode cc pc = .ok (.imul, 1)) (kk : JJ p l e R s m args below meth c D cys ad A Q nL cells slots L g X Z (pc + 1) vs (.int (iI (a * b)) :: st)) : JJ p l e R s m args below meth c D cys ad A Q nL cells slots L g X Z pc vs (.int (iI b) :: .int (iI a) :: st) :=
  fun H locs ls hL hP hD hS hl => lv_imul G.x G.b hd (by rw [iI_mul]; exact kk H locs ls hL hP hD hS hl)
theorem j_idiv (G : GG p l s m args meth c D cys ad A cc own nL) {x y z : Int32} (hd : decode cc pc = .ok (.idiv, 1)) (hne : ¬ y = 0) (hz : x / y = z) (kk : JJ p l e R s m args below meth c D cys ad A Q nL cells slots L g X Z (pc + 1) vs (.int z :: st)) : JJ p l e R s m args below meth c D cys ad A Q nL cells slots L g X Z pc vs (.int y :: .int x :: st) :=
  fun H locs ls hL hP hD hS hl => lv_idiv G.x G.b hd hne (by rw [hz]; exact kk H locs ls hL hP hD hS hl)
theorem j_iand (G : GG p l s m args meth c D cys ad A cc own nL) {x y z : Int32} (hd : decode cc pc = .ok (.iand, 1)) (hz : x &&& y = z) (kk : JJ p l e R s m args below meth c D cys ad A Q nL cells slots L g X Z (pc + 1) vs (.int z :: st)) : JJ p l e R s m args below meth c D cys ad A Q nL cells slots L g X Z pc vs (.int y :: .int x :: st) :=
  fun H locs ls hL hP hD hS hl => lv_iand G.x G.b hd (by rw [hz]; exact kk H locs ls hL hP hD hS hl)
theorem j_ior (G : GG p l s m args meth c D cys ad A cc own nL) {x y z : Int32} (hd : decode cc pc = .ok (.ior, 1)) (hz : x ||| y = z) (kk : JJ p l e R s m args below meth c D cys ad A Q nL cells slots L g X Z (pc + 1) vs (.int z :: st)) : JJ p l e R s m args below meth c D cys ad A Q nL cells slots L g X Z pc vs (.int y :: .int x :: st) :=
  fun H locs ls hL hP hD hS hl => lv_ior G.x G.b hd (by rw [hz]; exact kk H locs ls hL hP hD hS hl)
theorem j_ishl (G : GG p l s m args meth c D cys ad A cc own nL) {x y z : Int32} (hd : decode cc pc = .ok (.ishl, 1)) (hz : x <<< (y &&& 31) = z) (kk : JJ p l e R s m args below meth c D cys ad A Q nL cells slots L g X Z (pc + 1) vs (.int z :: st)) : JJ p l e R s m args below meth c D cys ad A Q nL cells slots L g X Z pc vs (.int y :: .int x :: st) :=
  fun H locs ls hL hP hD hS hl => lv_ishl G.x G.b hd (by rw [hz]; exact kk H locs ls hL hP hD hS hl)
theorem j_ishr (G : GG p l s m args meth c D cys ad A cc own nL) {x y z : Int32} (hd : decode cc pc = .ok (.ishr, 1)) (hz : x >>> (y &&& 31) = z) (kk : JJ p l e R s m args below meth c D cys ad A Q nL cells slots L g X Z (pc + 1) vs (.int z :: st)) : JJ p l e R s m args below meth c D cys ad A Q nL cells slots L g X Z pc vs (.int y :: .int x :: st) :=
  fun H locs ls hL hP hD hS hl => lv_ishr G.x G.b hd (by rw [hz]; exact kk H locs ls hL hP hD hS hl)
theorem j_ladd (G : GG p l s m args meth c D cys ad A cc own nL) {x y : Int64} (hd : decode cc pc = .ok (.ladd, 1)) (kk : JJ p l e R s m args below meth c D cys ad A Q nL cells slots L g X Z (pc + 1) vs (.long (x + y) :: st)) : JJ p l e R s m args below meth c D cys ad A Q nL cells slots L g X Z pc vs (.long y :: .long x :: st) :=
  fun H locs ls hL hP hD hS hl => lv_ladd G.x G.b hd (kk H locs ls hL hP hD hS hl)
theorem j_lmul (G : GG p l s m args meth c D cys ad A cc own nL) {x y : Int64} (hd : decode cc pc = .ok (.lmul, 1)) (kk : JJ p l e R s m args below meth c D cys ad A Q nL cells slots L g X Z (pc + 1) vs (.long (x * y) :: st)) : JJ p l e R s m args below meth c D cys ad A Q nL cells slots L g X Z pc vs (.long y :: .long x :: st) :=
  fun H locs ls hL hP hD hS hl => lv_lmul G.x G.b hd (kk H locs ls hL hP hD hS hl)
theorem j_i2l (G : GG p l s m args meth c D cys ad A cc own nL) {x : Int32} (hd : decode cc pc = .ok (.i2l, 1)) (kk : JJ p l e R s m args below meth c D cys ad A Q nL cells slots L g X Z (pc + 1) vs (.long x.toInt64 :: st)) : JJ p l e R s m args below meth c D cys ad A Q nL cells slots L g X Z pc vs (.int x :: st) :=
  fun H locs ls hL hP hD hS hl => lv_i2l G.x G.b hd rfl (kk H locs ls hL hP hD hS hl)
theorem j_dup (G : GG p l s m args meth c D cys ad A cc own nL) {v : Value} (hd : decode cc pc = .ok (.dup, 1)) (hv : v.category = 1) (kk : JJ p l e R s m args below meth c D cys ad A Q nL cells slots L g X Z (pc + 1) vs (v :: v :: st)) : JJ p l e R s m args below meth c D cys ad A Q nL cells slots L g X Z pc vs (v :: st) :=
  fun H locs ls hL hP hD hS hl => lv_dup G.x G.b hd hv (kk H locs ls hL hP hD hS hl)
theorem j_dup2 (G : GG p l s m args meth c D cys ad A cc own nL) {v w : Value} (hd : decode cc pc = .ok (.dup2, 1)) (hv : v.category = 1) (hw : w.category = 1) (kk : JJ p l e R s m args below meth c D cys ad A Q nL cells slots L g X Z (pc + 1) vs (v :: w :: v :: w :: st)) : JJ p l e R s m args below meth c D cys ad A Q nL cells slots L g X Z pc vs (v :: w :: st) :=
  fun H locs ls hL hP hD hS hl => lv_dup2_11 G.x G.b hd hv hw (kk H locs ls hL hP hD hS hl)
theorem j_pop (G : GG p l s m args meth c D cys ad A cc own nL) {v : Value} (hd : decode cc pc = .ok (.pop, 1)) (hv : v.category = 1) (kk : JJ p l e R s m args below meth c D cys ad A Q nL cells slots L g X Z (pc + 1) vs st) : JJ p l e R s m args below meth c D cys ad A Q nL cells slots L g X Z pc vs (v :: st) :=
  fun H locs ls hL hP hD hS hl => lv_pop G.x G.b hd hv (kk H locs ls hL hP hD hS hl)
theorem j_goto (G : GG p l s m args meth c D cys ad A cc own nL) {off : Int} (tgt : Nat) (hd : decode cc pc = .ok (.goto off, 3)) (ht : (pc : Int) + off = (tgt : Int)) (kk : JJ p l e R s m args below meth c D cys ad A Q nL cells slots L g X Z tgt vs st) : JJ p l e R s m args below meth c D cys ad A Q nL cells slots L g X Z pc vs st :=
  fun H locs ls hL hP hD hS hl => lv_goto G.x G.b hd ht (kk H locs ls hL hP hD hS hl)
theorem j_iinc (G : GG p l s m args meth c D cys ad A cc own nL) {k : Nat} {n a : Int} (hd : decode cc pc = .ok (.iinc k n, 3)) (hk : lkp vs k = some (.int (iI a))) (hn : k < nL) (h2 : no2 vs k = true) (kk : JJ p l e R s m args below meth c D cys ad A Q nL cells slots L g X Z (pc + 3) (sto vs k (.int (iI (a + n)))) st) : JJ p l e R s m args below meth c D cys ad A Q nL cells slots L g X Z pc vs st := by
  intro H locs ls hL hP hD hS hl
  obtain ⟨q, hq⟩ := List.getElem?_of_mem (lkp_mem hk)
  refine lv_iinc (v := iI (a + n)) G.x G.b hd hl (k := q) hq (by rw [← iI_add]; rfl) hn rfl (fun ls' hl' => ?_)
  exact kk H locs ls' hL hP hD hS (sto_has hl' h2)
theorem j_icmp_eq (G : GG p l s m args meth c D cys ad A cc own nL) {a b off : Int} (tgt : Nat) (hd : decode cc pc = .ok (.if_icmp .eq off, 3)) (ht : (pc : Int) + off = (tgt : Int)) (ha : inR a) (hb : inR b) (kt : a = b → JJ p l e R s m args below meth c D cys ad A Q nL cells slots L g X Z tgt vs st) (kf : a ≠ b → JJ p l e R s m args below meth c D cys ad A Q nL cells slots L g X Z (pc + 3) vs st) : JJ p l e R s m args below meth c D cys ad A Q nL cells slots L g X Z pc vs (.int (iI b) :: .int (iI a) :: st) :=
  fun H locs ls hL hP hD hS hl => lv_icmp_eq G.x G.b hd ht (fun h => kt ((iI_eq ha hb).mp h) H locs ls hL hP hD hS hl) (fun h => kf (fun z => h ((iI_eq ha hb).mpr z)) H locs ls hL hP hD hS hl)
theorem j_if_eq (G : GG p l s m args meth c D cys ad A cc own nL) {a off : Int} (tgt : Nat) (hd : decode cc pc = .ok (.ifCond .eq off, 3)) (ht : (pc : Int) + off = (tgt : Int)) (ha : inR a) (kt : a = 0 → JJ p l e R s m args below meth c D cys ad A Q nL cells slots L g X Z tgt vs st) (kf : a ≠ 0 → JJ p l e R s m args below meth c D cys ad A Q nL cells slots L g X Z (pc + 3) vs st) : JJ p l e R s m args below meth c D cys ad A Q nL cells slots L g X Z pc vs (.int (iI a) :: st) := by
  have h00 : inR 0 := ⟨by decide, by decide⟩
  intro H locs ls hL hP hD hS hl
  refine lv_if_eq G.x G.b hd ht (fun h => ?_) (fun h => ?_)
  · rw [← iI_0] at h
    exact kt ((iI_eq ha h00).mp h) H locs ls hL hP hD hS hl
  · rw [← iI_0] at h
    exact kf (fun z => h ((iI_eq ha h00).mpr z)) H locs ls hL hP hD hS hl
theorem j_icmp_ne (G : GG p l s m args meth c D cys ad A cc own nL) {a b off : Int} (tgt : Nat) (hd : decode cc pc = .ok (.if_icmp .ne off, 3)) (ht : (pc : Int) + off = (tgt : Int)) (ha : inR a) (hb : inR b) (kt : a ≠ b → JJ p l e R s m args below meth c D cys ad A Q nL cells slots L g X Z tgt vs st) (kf : a = b → JJ p l e R s m args below meth c D cys ad A Q nL cells slots L g X Z (pc + 3) vs st) : JJ p l e R s m args below meth c D cys ad A Q nL cells slots L g X Z pc vs (.int (iI b) :: .int (iI a) :: st) :=
  fun H locs ls hL hP hD hS hl => lv_icmp_ne G.x G.b hd ht (fun h => kt (fun z => h ((iI_eq ha hb).mpr z)) H locs ls hL hP hD hS hl) (fun h => kf ((iI_eq ha hb).mp h) H locs ls hL hP hD hS hl)
theorem j_if_ne (G : GG p l s m args meth c D cys ad A cc own nL) {a off : Int} (tgt : Nat) (hd : decode cc pc = .ok (.ifCond .ne off, 3)) (ht : (pc : Int) + off = (tgt : Int)) (ha : inR a) (kt : a ≠ 0 → JJ p l e R s m args below meth c D cys ad A Q nL cells slots L g X Z tgt vs st) (kf : a = 0 → JJ p l e R s m args below meth c D cys ad A Q nL cells slots L g X Z (pc + 3) vs st) : JJ p l e R s m args below meth c D cys ad A Q nL cells slots L g X Z pc vs (.int (iI a) :: st) := by
  have h00 : inR 0 := ⟨by decide, by decide⟩
  intro H locs ls hL hP hD hS hl
  refine lv_if_ne G.x G.b hd ht (fun h => ?_) (fun h => ?_)
  · rw [← iI_0] at h
    exact kt (fun z => h ((iI_eq ha h00).mpr z)) H locs ls hL hP hD hS hl
  · rw [← iI_0] at h
    exact kf ((iI_eq ha h00).mp h) H locs ls hL hP hD hS hl
theorem j_icmp_lt (G : GG p l s m args meth c D cys ad A cc own nL) {a b off : Int} (tgt : Nat) (hd : decode cc pc = .ok (.if_icmp .lt off, 3)) (ht : (pc : Int) + off = (tgt : Int)) (ha : inR a) (hb : inR b) (kt : a < b → JJ p l e R s m args below meth c D cys ad A Q nL cells slots L g X Z tgt vs st) (kf : b ≤ a → JJ p l e R s m args below meth c D cys ad A Q nL cells slots L g X Z (pc + 3) vs st) : JJ p l e R s m args below meth c D cys ad A Q nL cells slots L g X Z pc vs (.int (iI b) :: .int (iI a) :: st) :=
  fun H locs ls hL hP hD hS hl => lv_icmp_lt G.x G.b hd ht (fun h => kt ((iI_lt ha hb).mp h) H locs ls hL hP hD hS hl) (fun h => kf (by have := mt (iI_lt ha hb).mpr h; omega) H locs ls hL hP hD hS hl)
theorem j_if_lt (G : GG p l s m args meth c D cys ad A cc own nL) {a off : Int} (tgt : Nat) (hd : decode cc pc = .ok (.ifCond .lt off, 3)) (ht : (pc : Int) + off = (tgt : Int)) (ha : inR a) (kt : a < 0 → JJ p l e R s m args below meth c D cys ad A Q nL cells slots L g X Z tgt vs st) (kf : 0 ≤ a → JJ p l e R s m args below meth c D cys ad A Q nL cells slots L g X Z (pc + 3) vs st) : JJ p l e R s m args below meth c D cys ad A Q nL cells slots L g X Z pc vs (.int (iI a) :: st) := by
  have h00 : inR 0 := ⟨by decide, by decide⟩
  intro H locs ls hL hP hD hS hl
  refine lv_if_lt G.x G.b hd ht (fun h => ?_) (fun h => ?_)
  · rw [← iI_0] at h
    exact kt ((iI_lt ha h00).mp h) H locs ls hL hP hD hS hl
  · rw [← iI_0] at h
    exact kf (by have := mt (iI_lt ha h00).mpr h; omega) H locs ls hL hP hD hS hl
theorem j_icmp_ge (G : GG p l s m args meth c D cys ad A cc own nL) {a b off : Int} (tgt : Nat) (hd : decode cc pc = .ok (.if_icmp .ge off, 3)) (ht : (pc : Int) + off = (tgt : Int)) (ha : inR a) (hb : inR b) (kt : b ≤ a → JJ p l e R s m args below meth c D cys ad A Q nL cells slots L g X Z tgt vs st) (kf : a < b → JJ p l e R s m args below meth c D cys ad A Q nL cells slots L g X Z (pc + 3) vs st) : JJ p l e R s m args below meth c D cys ad A Q nL cells slots L g X Z pc vs (.int (iI b) :: .int (iI a) :: st) :=
  fun H locs ls hL hP hD hS hl => lv_icmp_ge G.x G.b hd ht (fun h => kt ((iI_le hb ha).mp h) H locs ls hL hP hD hS hl) (fun h => kf (by have := mt (iI_le hb ha).mpr h; omega) H locs ls hL hP hD hS hl)
theorem j_if_ge (G : GG p l s m args meth c D cys ad A cc own nL) {a off : Int} (tgt : Nat) (hd : decode cc pc = .ok (.ifCond .ge off, 3)) (ht : (pc : Int) + off = (tgt : Int)) (ha : inR a) (kt : 0 ≤ a → JJ p l e R s m args below meth c D cys ad A Q nL cells slots L g X Z tgt vs st) (kf : a < 0 → JJ p l e R s m args below meth c D cys ad A Q nL cells slots L g X Z (pc + 3) vs st) : JJ p l e R s m args below meth c D cys ad A Q nL cells slots L g X Z pc vs (.int (iI a) :: st) := by
  have h00 : inR 0 := ⟨by decide, by decide⟩
  intro H locs ls hL hP hD hS hl
  refine lv_if_ge G.x G.b hd ht (fun h => ?_) (fun h => ?_)
  · rw [← iI_0] at h
    exact kt ((iI_le h00 ha).mp h) H locs ls hL hP hD hS hl
  · rw [← iI_0] at h
    exact kf (by have := mt (iI_le h00 ha).mpr h; omega) H locs ls hL hP hD hS hl
theorem j_icmp_gt (G : GG p l s m args meth c D cys ad A cc own nL) {a b off : Int} (tgt : Nat) (hd : decode cc pc = .ok (.if_icmp .gt off, 3)) (ht : (pc : Int) + off = (tgt : Int)) (ha : inR a) (hb : inR b) (kt : b < a → JJ p l e R s m args below meth c D cys ad A Q nL cells slots L g X Z tgt vs st) (kf : a ≤ b → JJ p l e R s m args below meth c D cys ad A Q nL cells slots L g X Z (pc + 3) vs st) : JJ p l e R s m args below meth c D cys ad A Q nL cells slots L g X Z pc vs (.int (iI b) :: .int (iI a) :: st) :=
  fun H locs ls hL hP hD hS hl => lv_icmp_gt G.x G.b hd ht (fun h => kt ((iI_lt hb ha).mp h) H locs ls hL hP hD hS hl) (fun h => kf (by have := mt (iI_lt hb ha).mpr h; omega) H locs ls hL hP hD hS hl)
theorem j_if_gt (G : GG p l s m args meth c D cys ad A cc own nL) {a off : Int} (tgt : Nat) (hd : decode cc pc = .ok (.ifCond .gt off, 3)) (ht : (pc : Int) + off = (tgt : Int)) (ha : inR a) (kt : 0 < a → JJ p l e R s m args below meth c D cys ad A Q nL cells slots L g X Z tgt vs st) (kf : a ≤ 0 → JJ p l e R s m args below meth c D cys ad A Q nL cells slots L g X Z (pc + 3) vs st) : JJ p l e R s m args below meth c D cys ad A Q nL cells slots L g X Z pc vs (.int (iI a) :: st) := by
  have h00 : inR 0 := ⟨by decide, by decide⟩
  intro H locs ls hL hP hD hS hl
  refine lv_if_gt G.x G.b hd ht (fun h => ?_) (fun h => ?_)
  · rw [← iI_0] at h
    exact kt ((iI_lt h00 ha).mp h) H locs ls hL hP hD hS hl
  · rw [← iI_0] at h
    exact kf (by have := mt (iI_lt h00 ha).mpr h; omega) H locs ls hL hP hD hS hl
theorem j_icmp_le (G : GG p l s m args meth c D cys ad A cc own nL) {a b off : Int} (tgt : Nat) (hd : decode cc pc = .ok (.if_icmp .le off, 3)) (ht : (pc : Int) + off = (tgt : Int)) (ha : inR a) (hb : inR b) (kt : a ≤ b → JJ p l e R s m args below meth c D cys ad A Q nL cells slots L g X Z tgt vs st) (kf : b < a → JJ p l e R s m args below meth c D cys ad A Q nL cells slots L g X Z (pc + 3) vs st) : JJ p l e R s m args below meth c D cys ad A Q nL cells slots L g X Z pc vs (.int (iI b) :: .int (iI a) :: st) :=
  fun H locs ls hL hP hD hS hl => lv_icmp_le G.x G.b hd ht (fun h => kt ((iI_le ha hb).mp h) H locs ls hL hP hD hS hl) (fun h => kf (by have := mt (iI_le ha hb).mpr h; omega) H locs ls hL hP hD hS hl)
theorem j_if_le (G : GG p l s m args meth c D cys ad A cc own nL) {a off : Int} (tgt : Nat) (hd : decode cc pc = .ok (.ifCond .le off, 3)) (ht : (pc : Int) + off = (tgt : Int)) (ha : inR a) (kt : a ≤ 0 → JJ p l e R s m args below meth c D cys ad A Q nL cells slots L g X Z tgt vs st) (kf : 0 < a → JJ p l e R s m args below meth c D cys ad A Q nL cells slots L g X Z (pc + 3) vs st) : JJ p l e R s m args below meth c D cys ad A Q nL cells slots L g X Z pc vs (.int (iI a) :: st) := by
  have h00 : inR 0 := ⟨by decide, by decide⟩
  intro H locs ls hL hP hD hS hl
  refine lv_if_le G.x G.b hd ht (fun h => ?_) (fun h => ?_)
  · rw [← iI_0] at h
    exact kt ((iI_le ha h00).mp h) H locs ls hL hP hD hS hl
  · rw [← iI_0] at h
    exact kf (by have := mt (iI_le ha h00).mpr h; omega) H locs ls hL hP hD hS hl
theorem j_top  {x y : Int32} (h : x = y) (kk : JJ p l e R s m args below meth c D cys ad A Q nL cells slots L g X Z pc vs (.int y :: st)) : JJ p l e R s m args below meth c D cys ad A Q nL cells slots L g X Z pc vs (.int x :: st) := by subst h; exact kk
theorem j_get (G : GG p l s m args meth c D cys ad A cc own nL) (k : Nat) (i : Int) {ci N : Nat} {C : String} {T : u_T} {fs : List Value} {v : Value} {idx : Nat} (n : Nat) (hd : decode cc pc = .ok (.getfield idx, 3)) (hc : cC cys ad k i X (Z k i) = .inr (ci, fs)) (hcl : vwCl[ci]? = some (C, T, N)) (hf : fs[n]? = some v) (hn : n < N) (hlink : Cond.fieldLink own idx C (T n).2.1 (T n).2.2.1 ∈ TW) (hTC : (T n).1 = C) (hin : ∀ w ∈ u_ws C T N, w ∈ TW) (h : vd k i) (kk : JJ p l e R s m args below meth c D cys ad A Q nL cells slots L g X Z (pc + 3) vs (v :: st)) : JJ p l e R s m args below meth c D cys ad A Q nL cells slots L g X Z pc vs (.ref (ad k i) :: st) := by
  intro H locs ls hL hP hD hS hl
  obtain ⟨q, hq⟩ := mw_get G.inj hL h hc
  refine va_get (D := D) (ci := ci) (v := v) (C := C) (T := T) (N := N) G.x G.b G.ts hin G.ow G.K hP q hq hcl n hn (G.ts _ hlink) (fun _ h9 => by rw [hTC] at h9; exact h9) hf hd ?_
  exact kk H locs ls hL hP hD hS hl
theorem j_put (G : GG p l s m args meth c D cys ad A cc own nL) (k : Nat) (i : Int) {ci N : Nat} {C : String} {T : u_T} {ty0 : Nat → FieldType} {fs : List Value} {a : Int} {idx : Nat} (n : Nat) (ty : FieldType) (hd : decode cc pc = .ok (.putfield idx, 3)) (hc : cC cys ad k i X (Z k i) = .inr (ci, fs)) (hc2 : cC cys ad k i X (rS (Z k i) n a) = .inr (ci, fs.set n (.int (iI a)))) (hcl : vwCl[ci]? = some (C, T, N)) (hn : n < N) (hlen : n < fs.length) (hlink : Cond.fieldLink own idx C (T n).2.1 (T n).2.2.1 ∈ TW) (hTC : (T n).1 = C) (hfin : (T n).2.2.2 = false) (hin : ∀ w ∈ u_ws C T N, w ∈ TW) (hty : ∀ k, k < N → parseFieldDescriptor (T k).2.2.1 = some (ty0 k)) (hnm : ∀ a, a < N → ∀ b, b < N → a ≠ b → (T a).2.1 ≠ (T b).2.1) (hpd : parseFieldDescriptor (T n).2.2.1 = some ty) (hnar : narrow ty (.int (iI a)) = .int (iI a)) (hfit : fits ty (.int (iI a)) = true) (h : vd k i) (kk : JJ p l e R s m args below meth c D cys ad A Q nL cells slots L g X (zS Z k i n a) (pc + 3) vs st) : JJ p l e R s m args below meth c D cys ad A Q nL cells slots L g X Z pc vs (.int (iI a) :: .ref (ad k i) :: st) := by
  intro H locs ls hL hP hD hS hl
  obtain ⟨q, hq⟩ := mw_get G.inj hL h hc
  refine va_put (D := D) (ci := ci) (v := .int (iI a)) (ty := ty) (C := C) (T := T) (N := N) G.x G.b G.ts hin ty0 hty hnm G.ow G.K hP hD hS q hq hcl n hn (G.ts _ hlink) (fun _ h9 => by rw [hTC] at h9; exact h9) hfin hpd hnar hfit hlen hd (fun H1 locs1 hP1 hD1 hS1 => ?_)
  have e := mw_set (z := rS (Z k i) n a) G.inj hL h hc hq hD
  rw [hc2] at e
  rw [e] at hP1 hD1
  exact kk H1 locs1 ls hL hP1 hD1 hS1 hl
theorem j_iald (G : GG p l s m args meth c D cys ad A cc own nL) (k : Nat) (i : Int) {N : Nat} {j : Int} (hd : decode cc pc = .ok (.iaload, 1)) (hc : ∀ z, cC cys ad k i X z = eI (cys 0) N z) (hN : N < 2 ^ 31) (h : vd k i) (h0 : 0 ≤ j) (h1 : j < N) (kk : JJ p l e R s m args below meth c D cys ad A Q nL cells slots L g X Z (pc + 1) vs (.int (iI (Z k i j)) :: st)) : JJ p l e R s m args below meth c D cys ad A Q nL cells slots L g X Z pc vs (.int (iI j) :: .ref (ad k i) :: st) := by
  intro H locs ls hL hP hD hS hl
  obtain ⟨q, hq⟩ := mw_get G.inj hL h (hc (Z k i))
  refine va_iald (D := D) G.x G.b G.K hP q 0 hq rfl (iI_in h0 h1 hN) hd ?_
  have e : (((iI j).toNatClampNeg : Nat) : Int) = j := by rw [iI_clamp h0 (by omega)]; omega
  rw [e]
  exact kk H locs ls hL hP hD hS hl
theorem j_zald (G : GG p l s m args meth c D cys ad A cc own nL) (k : Nat) (i : Int) {N : Nat} {j : Int} (hd : decode cc pc = .ok (.baload, 1)) (hc : ∀ z, cC cys ad k i X z = eI (cys 1) N z) (hN : N < 2 ^ 31) (h : vd k i) (h0 : 0 ≤ j) (h1 : j < N) (kk : JJ p l e R s m args below meth c D cys ad A Q nL cells slots L g X Z (pc + 1) vs (.int (iI (Z k i j)) :: st)) : JJ p l e R s m args below meth c D cys ad A Q nL cells slots L g X Z pc vs (.int (iI j) :: .ref (ad k i) :: st) := by
  intro H locs ls hL hP hD hS hl
  obtain ⟨q, hq⟩ := mw_get G.inj hL h (hc (Z k i))
  refine va_zald (D := D) G.x G.b G.K hP q 1 hq rfl (iI_in h0 h1 hN) hd ?_
  have e : (((iI j).toNatClampNeg : Nat) : Int) = j := by rw [iI_clamp h0 (by omega)]; omega
  rw [e]
  exact kk H locs ls hL hP hD hS hl
theorem j_iast (G : GG p l s m args meth c D cys ad A cc own nL) (k : Nat) (i : Int) {N : Nat} {j a : Int} (hd : decode cc pc = .ok (.iastore, 1)) (hc : ∀ z, cC cys ad k i X z = eI (cys 0) N z) (hN : N < 2 ^ 31) (h : vd k i) (h0 : 0 ≤ j) (h1 : j < N) (kk : JJ p l e R s m args below meth c D cys ad A Q nL cells slots L g X (zS Z k i j a) (pc + 1) vs st) : JJ p l e R s m args below meth c D cys ad A Q nL cells slots L g X Z pc vs (.int (iI a) :: .int (iI j) :: .ref (ad k i) :: st) := by
  intro H locs ls hL hP hD hS hl
  obtain ⟨q, hq⟩ := mw_get G.inj hL h (hc (Z k i))
  refine va_iast (D := D) G.x G.b G.K hP hD hS q 0 hq rfl (iI_in h0 h1 hN) hd (fun H1 locs1 hP1 hD1 hS1 => ?_)
  have e := mw_set (z := rS (Z k i) j a) G.inj hL h (hc (Z k i)) hq hD
  have e2 : cC cys ad k i X (rS (Z k i) j a) = .inl (cys 0, N, .inl (upd (fun q => iI (Z k i q)) (iI j).toNatClampNeg (iI a))) := by
    rw [hc]
    refine congrArg (fun f => Sum.inl (cys 0, N, Sum.inl f)) (funext fun q => ?_)
    have ec : (iI j).toNatClampNeg = j.toNat := iI_clamp h0 (by omega)
    rw [ec]
    unfold rS upd
    by_cases hq : q = j.toNat
    · rw [if_pos (by omega), if_pos hq]
    · rw [if_neg (by omega), if_neg hq]
  rw [e2] at e
  rw [e] at hP1 hD1
  exact kk H1 locs1 ls hL hP1 hD1 hS1 hl
theorem j_zast (G : GG p l s m args meth c D cys ad A cc own nL) (k : Nat) (i : Int) {N : Nat} {j a : Int} (hd : decode cc pc = .ok (.bastore, 1)) (hc : ∀ z, cC cys ad k i X z = eI (cys 1) N z) (hN : N < 2 ^ 31) (h : vd k i) (h0 : 0 ≤ j) (h1 : j < N) (ha : a = 0 ∨ a = 1) (kk : JJ p l e R s m args below meth c D cys ad A Q nL cells slots L g X (zS Z k i j a) (pc + 1) vs st) : JJ p l e R s m args below meth c D cys ad A Q nL cells slots L g X Z pc vs (.int (iI a) :: .int (iI j) :: .ref (ad k i) :: st) := by
  intro H locs ls hL hP hD hS hl
  obtain ⟨q, hq⟩ := mw_get G.inj hL h (hc (Z k i))
  refine va_zast (D := D) G.x G.b G.K hP hD hS q 1 hq rfl (iI_in h0 h1 hN) hd (fun H1 locs1 hP1 hD1 hS1 => ?_)
  have e := mw_set (z := rS (Z k i) j a) G.inj hL h (hc (Z k i)) hq hD
  have e2 : cC cys ad k i X (rS (Z k i) j a) = .inl (cys 1, N, .inl (upd (fun q => iI (Z k i q)) (iI j).toNatClampNeg (vp_nar .boolean (iI a)))) := by
    rw [hc]
    refine congrArg (fun f => Sum.inl (cys 1, N, Sum.inl f)) (funext fun q => ?_)
    have ec : (iI j).toNatClampNeg = j.toNat := iI_clamp h0 (by omega)
    rw [ec]
    unfold rS upd
    by_cases hq : q = j.toNat
    · rw [if_pos (by omega), if_pos hq]
      rcases ha with rfl | rfl <;> decide +kernel
    · rw [if_neg (by omega), if_neg hq]
  rw [e2] at e
  rw [e] at hP1 hD1
  exact kk H1 locs1 ls hL hP1 hD1 hS1 hl
theorem j_aald (G : GG p l s m args meth c D cys ad A cc own nL) (k : Nat) (i : Int) (t0 : Nat) {N : Nat} {cA : ClassId} {f : Nat → Option Nat} {C : String} {j : Int} (hd : decode cc pc = .ok (.aaload, 1)) (hc : cC cys ad k i X (Z k i) = eQ cA N f) (ht : (tysC cys)[t0]? = some (cA, .object C)) (hN : N < 2 ^ 31) (h : vd k i) (h0 : 0 ≤ j) (h1 : j < N) {b : Nat} (hf : f j.toNat = some b) (kk : JJ p l e R s m args below meth c D cys ad A Q nL cells slots L g X Z (pc + 1) vs (.ref b :: st)) : JJ p l e R s m args below meth c D cys ad A Q nL cells slots L g X Z pc vs (.int (iI j) :: .ref (ad k i) :: st) := by
  intro H locs ls hL hP hD hS hl
  obtain ⟨q, hq⟩ := mw_get G.inj hL h hc
  refine va_aldq (D := D) G.x G.b G.K hP q t0 hq ht (iI_in h0 h1 hN) hd ?_
  rw [iI_clamp h0 (by omega), hf]
  exact kk H locs ls hL hP hD hS hl
theorem j_aaldA (G : GG p l s m args meth c D cys ad A cc own nL) (k : Nat) (i : Int) (t0 : Nat) {N : Nat} {cA : ClassId} {f : Nat → Option Nat} {t : FieldType} {j : Int} (hd : decode cc pc = .ok (.aaload, 1)) (hc : cC cys ad k i X (Z k i) = eQ cA N f) (ht : (tysC cys)[t0]? = some (cA, .array t)) (hN : N < 2 ^ 31) (h : vd k i) (h0 : 0 ≤ j) (h1 : j < N) {b : Nat} (hf : f j.toNat = some b) (kk : JJ p l e R s m args below meth c D cys ad A Q nL cells slots L g X Z (pc + 1) vs (.ref b :: st)) : JJ p l e R s m args below meth c D cys ad A Q nL cells slots L g X Z pc vs (.int (iI j) :: .ref (ad k i) :: st) := by
  intro H locs ls hL hP hD hS hl
  obtain ⟨q, hq⟩ := mw_get G.inj hL h hc
  have hin : vp_in (iI j) N := iI_in h0 h1 hN
  have hlt : (iI j).toNatClampNeg < N := Nat.not_le.mp fun q => hin (Or.inr q)
  refine W.aald (v := va_rf (f (iI j).toNatClampNeg)) (ty := .array t) G.x G.b (hP q _ hq) ((G.K.2 t0 _ ht).1 N (fun j => va_rf (f j))) rfl (fun q => by cases q) (by show ¬ (iI j < 0 ∨ (arrV _ _ _).slots.size ≤ _); rw [arrV_size]; exact hin) (by show (arrV _ _ _).slots[_]? = _; rw [arrV_read _ _ hlt]) rfl rfl hd ?_
  rw [iI_clamp h0 (by omega), hf]
  exact kk H locs ls hL hP hD hS hl
/-- fewer locals, by their numbers -/
def kep (vs : List (Nat × Value)) (ks : List Nat) : List (Nat × Value) := ks.filterMap (fun k => (lkp vs k).map (fun v => (k, v)))
theorem j_keep (ks : List Nat) (kk : JJ p l e R s m args below meth c D cys ad A Q nL cells slots L g X Z pc (kep vs ks) st) : JJ p l e R s m args below meth c D cys ad A Q nL cells slots L g X Z pc vs st := by
  intro H locs ls hL hP hD hS hl
  refine kk H locs ls hL hP hD hS ⟨hl.1, hl.2.1, fun q hq => ?_⟩
  obtain ⟨k, -, hk⟩ := List.mem_filterMap.mp hq
  cases hv : lkp vs k with
  | none => rw [hv] at hk; cases hk
  | some v =>
    rw [hv] at hk
    cases hk
    exact lv_lk hl hv
end JJS
end
section
/-! contracts -/
abbrev PT : Type := Option Value → List Nat → (Nat → va_E) → Int64 → ZT → Prop
/-- the world at a state -/
def WU (D : va_G) (cys : Nat → ClassId) (ad : Nat → Int → Nat) (L : List Nat) (g : Nat → va_E) (X : Int64) (Z : ZT) (sz : Nat) (U : State) : Prop :=
  U.heap.size = sz ∧ SL ad L ∧ va_P D vwCl (MW cys ad L g X Z) U.heap ∧ va_K D vwCl (tysC cys) U ∧ va_D (fun _ => True) (MW cys ad L g X Z) ∧ Amb (va_A (MW cys ad L g X Z) sz) U U.heap
def Qm (D : va_G) (cys : Nat → ClassId) (ad : Nat → Int → Nat) (A : Nat → Prop) (post : PT) : Array Value → State → Outcome → State → Prop := fun _ st oc t =>
  (∃ (v : Option Value) (L : List Nat) (g : Nat → va_E) (X : Int64) (Z : ZT), oc = .returned v ∧ post v L g X Z ∧ SL ad L ∧ va_P D vwCl (MW cys ad L g X Z) t.heap ∧ va_D A (MW cys ad L g X Z)) ∧ va_F A st t
/-- a contract: from the memory (L, g, X, Z) the method returns, and post tells what and which memory -/
def CM (l : Launch) (D : va_G) (cys : Nat → ClassId) (ad : Nat → Int → Nat) (y : MethodName) (cc : ByteArray) (nL : Nat) (ret : Option FieldType) (fr lo mc ms : Nat) (av : List Value) (L : List Nat) (g : Nat → va_E) (X : Int64) (Z : ZT) (post : PT) : Prop :=
  ∀ sz : Nat, Met l y (.code y cc nL ret :: TW) ({ frames := fr, cells := mc, slots := ms, locals := lo }) (va_Pc av (WU D cys ad L g X Z sz)) (Qm D cys ad (va_A (MW cys ad L g X Z) sz) post) mc ms (va_A (MW cys ad L g X Z) sz)
theorem Amb.warm {A : Nat → Prop} {u U : State} {H : Heap} (hW : u.WarmedH U.vm) (h : Amb A u H) : Amb A U H := ⟨vx_Zq.moved hW.alike h.1, vx_Zq.moved hW.alike h.2.1, h.2.2.warm hW⟩
theorem Amb.same {A : Nat → Prop} {u U : State} {H : Heap} (hv : U.vm = u.vm) (h : Amb A u H) : Amb A U H := ⟨vx_Zq.moved (by rw [hv]; exact Vm.Alike.refl _) h.1, vx_Zq.moved (by rw [hv]; exact Vm.Alike.refl _) h.2.1, h.2.2.same hv⟩
theorem Amb.kept {A : Nat → Prop} {U : State} {H H1 : Heap} (h : Amb A U H) (hq : ∀ a : Nat, a < H.size → ¬ A a → H1[a]? = H[a]?) : Amb A U H1 := ⟨vx_Zq.kept h.1 hq, vx_Zq.kept h.2.1 hq, h.2.2⟩
theorem Amb.narrow {A B : Nat → Prop} {U : State} {H : Heap} (h : Amb A U H) (hAB : ∀ q, B q → A q) : Amb B U H := ⟨vx_Zq.narrow h.1 hAB, vx_Zq.narrow h.2.1 hAB, h.2.2⟩
theorem WU.blind {D : va_G} {cys : Nat → ClassId} {ad : Nat → Int → Nat} {L : List Nat} {g : Nat → va_E} {X : Int64} {Z : ZT} {sz : Nat} {av : List Value} : FrameBlind (va_Pc av (WU D cys ad L g X Z sz)) := by
  intro a U f mk h
  obtain ⟨h0, h1, h2, h3, h4, h5, h6⟩ := h
  exact ⟨h0, h1, h2, h3, va_K.moved (u := U) (U := U.calling f mk a) (Vm.Alike.refl U.vm) h4, h5, Amb.same (u := U) (U := U.calling f mk a) rfl h6⟩
section CTS
variable {p : Program} {l : Launch} {e : Env} {R : Room} {s : State} {m : MethodId} {args : Array Value} {below : List Frame} {meth : Method} {c : Code} {Q : State → Prop}
variable {D : va_G} {cys : Nat → ClassId} {ad : Nat → Int → Nat} {A : Nat → Prop} {cc : ByteArray} {own : String} {nL : Nat} {cells slots : Nat} {L : List Nat} {g : Nat → va_E} {X : Int64} {Z : ZT} {pc : Nat} {vs : List (Nat × Value)} {st : List Value}
/-- a method's proof begins here -/
theorem cm_start {y : MethodName} {ret : Option FieldType} {fr lo mc ms : Nat} {av : List Value} {post : PT} (hi : injA ad) (hy : plainName y.cls = true) (hn : (lg_sl av).length ≤ nL)
    (body : ∀ (p : Program) (e : Env) (s : State) (m : MethodId) (args : Array Value) (below : List Frame) (meth : Method) (c : Code) (A : Nat → Prop) (Q : State → Prop), (∀ t, MQ below (Qm D cys ad A post) args s mc ms A t → Q t) → GG p l s m args meth c D cys ad A cc y.cls nL → meth.sig.returnType = ret → (y.name = "<init>" → meth.name = "<init>") →
      JJ p l e { frames := fr, cells := mc, slots := ms, locals := lo } s m args below meth c D cys ad A Q nL 0 0 L g X Z 0 (lv_args 0 av) []) : CM l D cys ad y cc nL ret fr lo mc ms av L g X Z post := by
  intro sz
  refine Met.ofW (cc := cc) (maxL := nL) (ret := ret) hy rfl ?_
  intro p e s m args below meth c s₁ B hml hv
  obtain ⟨rfl, hsz, hSL, hP, hK, hD0, hA0⟩ := hv
  subst hsz
  have hts := atoms_spec (ws := Cond.code y cc nL ret :: TW) B.pre
  have hown : s.vm.findClass y.cls = some m.cls := findClass_of_methodNamed B.named
  have hD := hD0.self (sz := s.heap.size)
  rw [lg_entry_eq]
  exact body p e s m _ below meth c _ _ (fun _ h => h) ⟨B.exec, B.bytes, hml, hown, fun w hw => hts w (List.mem_cons_of_mem _ hw), hK, B.notSynchronized, fun q h => Or.inr h, hi, hA0⟩ B.returns (fun h => by rw [← h]; exact (name_of_methodNamed B.named B.method).1)
    s.heap [] _ hSL hP hD va_S.rf (lv_entry av hn)
/-- returning -/
theorem jr_int (G : GG p l s m args meth c D cys ad A cc own nL) {ty : FieldType} {x : Int32} {post : PT} {mc ms : Nat} (hr : meth.sig.returnType = some ty) (hnar : narrow ty (.int x) = .int x) (hd : decode cc pc = .ok (.ireturn, 1)) (hc : cells ≤ mc) (hs : slots ≤ ms) (hp : post (some (.int x)) L g X Z) :
    JJ p l e R s m args below meth c D cys ad A (MQ below (Qm D cys ad A post) args s mc ms A) nL cells slots L g X Z pc vs [.int x] :=
  fun H locs ls hL hP hD hS hl => W.widen hc hs (W.zret G.x G.b hr hnar (fun t ht hW => ⟨⟨_, L, g, X, Z, rfl, hp, hL, by rw [ht]; exact hP, hD⟩, hS.F ht⟩) hS.2.2 hd G.lk)
theorem jr_void (G : GG p l s m args meth c D cys ad A cc own nL) {post : PT} {mc ms : Nat} (hr : meth.sig.returnType = none) (hd : decode cc pc = .ok (.return_, 1)) (hc : cells ≤ mc) (hs : slots ≤ ms) (hp : post none L g X Z) :
    JJ p l e R s m args below meth c D cys ad A (MQ below (Qm D cys ad A post) args s mc ms A) nL cells slots L g X Z pc vs [] :=
  fun H locs ls hL hP hD hS hl => W.widen hc hs (W.vret G.x G.b hr (fun t ht hW => ⟨⟨_, L, g, X, Z, rfl, hp, hL, by rw [ht]; exact hP, hD⟩, hS.F ht⟩) hS.2.2 hd G.lk)
theorem jr_long (G : GG p l s m args meth c D cys ad A cc own nL) {x : Int64} {post : PT} {mc ms : Nat} (hr : meth.sig.returnType = some .long) (hd : decode cc pc = .ok (.lreturn, 1)) (hc : cells ≤ mc) (hs : slots ≤ ms) (hp : post (some (.long x)) L g X Z) :
    JJ p l e R s m args below meth c D cys ad A (MQ below (Qm D cys ad A post) args s mc ms A) nL cells slots L g X Z pc vs [.long x] :=
  fun H locs ls hL hP hD hS hl => W.widen hc hs (W.lret G.x G.b hr (fun t ht hW => ⟨⟨_, L, g, X, Z, rfl, hp, hL, by rw [ht]; exact hP, hD⟩, hS.F ht⟩) hS.2.2 hd G.lk)
theorem jr_ref (G : GG p l s m args meth c D cys ad A cc own nL) {a : Nat} {ty : FieldType} {post : PT} {mc ms : Nat} (hr : meth.sig.returnType = some ty) (hty : (∃ n, ty = .object n) ∨ ∃ t, ty = .array t) (hd : decode cc pc = .ok (.areturn, 1)) (hc : cells ≤ mc) (hs : slots ≤ ms) (hp : post (some (.ref a)) L g X Z) :
    JJ p l e R s m args below meth c D cys ad A (MQ below (Qm D cys ad A post) args s mc ms A) nL cells slots L g X Z pc vs [.ref a] :=
  fun H locs ls hL hP hD hS hl => W.widen hc hs (W.aret G.x G.b hr hty (Or.inr ⟨_, rfl⟩) (fun t ht hW => ⟨⟨_, L, g, X, Z, rfl, hp, hL, by rw [ht]; exact hP, hD⟩, hS.F ht⟩) hS.2.2 hd G.lk)
/-- the world where a call begins, from the caller's -/
theorem wu_call (G : GG p l s m args meth c D cys ad A cc own nL) {H : Heap} {locs : List Loc} (hL : SL ad L) (hP : va_P D vwCl (MW cys ad L g X Z) H) (hD : va_D A (MW cys ad L g X Z)) (hS : va_S A s.heap H locs) {U : State} (hU : U.heap = H) (hW : s.WarmedH U.vm) : WU D cys ad L g X Z H.size U := by
  have hAA : ∀ q, va_A (MW cys ad L g X Z) H.size q → A q := by
    intro q hq
    rcases hq with ⟨k, x, hk⟩ | hq
    · exact hD.2 k (q, x) hk
    · exact G.fr q (Nat.le_trans hS.1 hq)
  refine ⟨by rw [hU], hL, by rw [hU]; exact hP, va_K.moved hW.alike G.K, hD.weaken (fun _ _ _ _ => trivial), ?_⟩
  rw [hU]
  exact Amb.narrow (Amb.kept (Amb.warm hW G.amb) (fun a h1 h2 => hS.2.1 a h1 h2)) hAA
/-- the caller goes on with the callee's world -/
theorem j_run (G : GG p l s m args meth c D cys ad A cc own nL) {H : Heap} {locs : List Loc} {ls : Array Slot} {mc ms : Nat} {rest st0 : List Value} {av : Array Value} {post : PT} (hL : SL ad L) (hD : va_D A (MW cys ad L g X Z)) (hS : va_S A s.heap H locs) (hl : lv_has ls nL vs)
    (hr : va_Run p l e R s m args below meth c H locs cells slots mc ms (F0 m pc ls st0) rest (Qm D cys ad (va_A (MW cys ad L g X Z) H.size) post av) (va_A (MW cys ad L g X Z) H.size))
    (kk : ∀ (v : Option Value) (L1 : List Nat) (g1 : Nat → va_E) (X1 : Int64) (Z1 : ZT), post v L1 g1 X1 Z1 → JJ p l e R s m args below meth c D cys ad A Q nL (cells + mc) (slots + ms) L1 g1 X1 Z1 (pc + 3) vs (v.toList ++ rest)) : W p l e R s m args below meth c H locs cells slots Q (F0 m pc ls st0) := by
  have hAA : ∀ q, va_A (MW cys ad L g X Z) H.size q → A q := by
    intro q hq
    rcases hq with ⟨k, x, hk⟩ | hq
    · exact hD.2 k (q, x) hk
    · exact G.fr q (Nat.le_trans hS.1 hq)
  intro T hT Xs
  obtain ⟨v, st₀, t, T', L0, h0, X', hL0, e1, e2, ⟨⟨v', L1, g1, X1, Z1, hv, hp, hL1, hP1, hD1⟩, hz, hk⟩, stp⟩ := hr T hT Xs
  cases hv
  rw [h0] at hz hk
  obtain ⟨t2, a1, b1⟩ := kk v L1 g1 X1 Z1 hp T'.heap (locs ++ L0) ls hL1 (by rw [e1]; exact hP1) (hD1.weaken (fun _ _ _ h => hAA _ h))
    ⟨Nat.le_trans hS.1 (by rw [e1]; exact hz), fun q h1 h2 => by rw [e1, hk q (Nat.lt_of_lt_of_le h1 hS.1) (fun z => h2 (hAA q z))]; exact hS.2.1 q h1 h2, fun q hq => by
      rcases List.mem_append.mp hq with h | h
      · exact hS.2.2 q h
      · exact hAA _ (hL0 q h)⟩ hl T' rfl X'
  exact ⟨t2, stp t2 a1, b1⟩
/-- a virtual call of a method of a class of ours, its receiver a fixed place -/
theorem j_callV (G : GG p l s m args meth c D cys ad A cc own nL) {y : MethodName} {cc1 : ByteArray} {nL1 n fr lo mc ms idx : Nat} {ret : Option FieldType} {As rest : List Value} {k : Nat} {i : Int} {ci : Nat} {fs : List Value} {q1 : vw_C} {post : PT}
    (cv : CV y cc1 nL1 ret n) (hlk : Cond.methodLink own idx y ∈ TW) (hM : CM l D cys ad y cc1 nL1 ret fr lo mc ms (.ref (ad k i) :: As) L g X Z post) (hd : decode cc pc = .ok (.invokevirtual idx, 3))
    (hR : fr + 1 ≤ R.frames ∧ 8 + (nL1 + 11) + lo ≤ R.locals) (hcs : cells + mc ≤ R.cells ∧ slots + ms ≤ R.slots) (hst : st = As.reverse ++ .ref (ad k i) :: rest) (hn : As.length = n) (hrest : (rest.map fun v => v.category).sum ≤ 8)
    (hv : vd k i) (hc : cC cys ad k i X (Z k i) = .inr (ci, fs)) (hq1 : vwCl[ci]? = some q1) (hq2 : q1.1 = y.cls)
    (kk : ∀ (v : Option Value) (L1 : List Nat) (g1 : Nat → va_E) (X1 : Int64) (Z1 : ZT), post v L1 g1 X1 Z1 → JJ p l e R s m args below meth c D cys ad A Q nL (cells + mc) (slots + ms) L1 g1 X1 Z1 (pc + 3) vs (v.toList ++ rest)) :
    JJ p l e R s m args below meth c D cys ad A Q nL cells slots L g X Z pc vs st := by
  intro H locs ls hL hP hD hS hl
  obtain ⟨c1, c2, c3, c4, c5, c6, c7⟩ := cv
  obtain ⟨q, hq⟩ := mw_get G.inj hL hv hc
  have hG : GoodIn TW (wsV own idx y.cls y (.code y cc1 nL1 ret :: TW)) := TW_sub (fun w hw => by
    rcases List.mem_append.mp hw with h | h
    · simp only [List.mem_cons, List.not_mem_nil, or_false] at h
      rcases h with rfl | rfl | rfl | rfl <;> assumption
    · rcases List.mem_cons.mp h with rfl | h
      · exact c4
      · exact h)
  refine j_run G hL hD hS hl (va_runV (C := y.cls) (As := As) (rest := rest) (b := ad k i) ⟨G.x, G.b, G.ml, G.ow, G.ts⟩ (hM H.size) (cwV (bytes := cc1) (maxL := nL1) (ret := ret) (ws' := TW) n G.ts hG rfl rfl rfl ⟨rfl, c5, c6, c7⟩ hR) ⟨WU.blind, ?_, fun U hU hW => ⟨rfl, wu_call G hL hP hD hS hU hW⟩⟩ rfl hn hl.1 hst (lv_room hrest) hd hcs) kk
  have h9 := va_recv G.K hP hq1 hq
  rw [hq2] at h9
  exact h9
theorem j_callS (G : GG p l s m args meth c D cys ad A cc own nL) {y : MethodName} {cc1 : ByteArray} {nL1 n fr lo mc ms idx : Nat} {ret : Option FieldType} {As rest : List Value} {post : PT}
    (cv : CS y cc1 nL1 ret n) (hlk : Cond.methodLink own idx y ∈ TW) (hown : y.cls = own) (hM : CM l D cys ad y cc1 nL1 ret fr lo mc ms As L g X Z post) (hd : decode cc pc = .ok (.invokestatic idx, 3))
    (hR : fr + 1 ≤ R.frames ∧ 8 + (nL1 + 11) + lo ≤ R.locals) (hcs : cells + mc ≤ R.cells ∧ slots + ms ≤ R.slots) (hst : st = As.reverse ++ rest) (hn : As.length = n) (hrest : (rest.map fun v => v.category).sum ≤ 8)
    (kk : ∀ (v : Option Value) (L1 : List Nat) (g1 : Nat → va_E) (X1 : Int64) (Z1 : ZT), post v L1 g1 X1 Z1 → JJ p l e R s m args below meth c D cys ad A Q nL (cells + mc) (slots + ms) L1 g1 X1 Z1 (pc + 3) vs (v.toList ++ rest)) :
    JJ p l e R s m args below meth c D cys ad A Q nL cells slots L g X Z pc vs st := by
  intro H locs ls hL hP hD hS hl
  obtain ⟨c1, c3, c4, c5, c6, c7⟩ := cv
  have hG : GoodIn TW (wsS own idx y (.code y cc1 nL1 ret :: TW)) := TW_sub (fun w hw => by
    rcases List.mem_append.mp hw with h | h
    · simp only [List.mem_cons, List.not_mem_nil, or_false] at h
      rcases h with rfl | rfl | rfl
      · assumption
      · assumption
      · rw [← hown]; assumption
    · rcases List.mem_cons.mp h with rfl | h
      · exact c4
      · exact h)
  exact j_run G hL hD hS hl (va_runS (As := As) (rest := rest) ⟨G.x, G.b, G.ml, G.ow, G.ts⟩ (hM H.size) (cwS (bytes := cc1) (maxL := nL1) (ret := ret) (ws' := TW) n G.ts hG rfl rfl rfl ⟨hown, c5, c6, c7⟩ hR) ⟨WU.blind, fun U hU hW => ⟨rfl, wu_call G hL hP hD hS hU hW⟩⟩ rfl hn hl.1 hst (lv_room hrest) hd hcs) kk
def PI (L : List Nat) (g : Nat → va_E) (X : Int64) (Z : ZT) (P : Int → Prop) : PT := fun v L9 g9 X9 Z9 => ∃ r : Int, v = some (.int (iI r)) ∧ P r ∧ L9 = L ∧ g9 = g ∧ X9 = X ∧ Z9 = Z
def PIZ (L : List Nat) (g : Nat → va_E) (X : Int64) (Z : ZT) (P : Int → ZT → Prop) : PT := fun v L9 g9 X9 Z9 => ∃ r : Int, v = some (.int (iI r)) ∧ P r Z9 ∧ L9 = L ∧ g9 = g ∧ X9 = X
def PVZ (L : List Nat) (g : Nat → va_E) (X : Int64) (Z : ZT) (P : ZT → Prop) : PT := fun v L9 g9 X9 Z9 => v = none ∧ P Z9 ∧ L9 = L ∧ g9 = g ∧ X9 = X
def PR (L : List Nat) (g : Nat → va_E) (X : Int64) (Z : ZT) (P : Nat → Prop) : PT := fun v L9 g9 X9 Z9 => ∃ r : Nat, v = some (.ref r) ∧ P r ∧ L9 = L ∧ g9 = g ∧ X9 = X ∧ Z9 = Z
def PJ (L : List Nat) (g : Nat → va_E) (X : Int64) (Z : ZT) (P : Int64 → Prop) : PT := fun v L9 g9 X9 Z9 => ∃ r : Int64, v = some (.long r) ∧ P r ∧ L9 = L ∧ g9 = g ∧ X9 = X ∧ Z9 = Z
def PJZ (L : List Nat) (g : Nat → va_E) (X : Int64) (Z : ZT) (P : Int64 → ZT → Prop) : PT := fun v L9 g9 X9 Z9 => ∃ r : Int64, v = some (.long r) ∧ P r Z9 ∧ L9 = L ∧ g9 = g ∧ X9 = X
theorem j_cVI (G : GG p l s m args meth c D cys ad A cc own nL) {y : MethodName} {cc1 : ByteArray} {nL1 n fr lo idx : Nat} {ret : Option FieldType} {As rest : List Value} {P : Int → Prop} {k : Nat} {i : Int} {ci : Nat} {fs : List Value} {q1 : vw_C}
    (cv : CV y cc1 nL1 ret n) (hlk : Cond.methodLink own idx y ∈ TW) (hM : CM l D cys ad y cc1 nL1 ret fr lo 0 0 (.ref (ad k i) :: As) L g X Z (PI L g X Z P)) (hd : decode cc pc = .ok (.invokevirtual idx, 3))
    (hR : fr + 1 ≤ R.frames ∧ 8 + (nL1 + 11) + lo ≤ R.locals) (hcs : cells ≤ R.cells ∧ slots ≤ R.slots) (hst : st = As.reverse ++ .ref (ad k i) :: rest) (hn : As.length = n) (hrest : (rest.map fun v => v.category).sum ≤ 8)
    (hv : vd k i) (hc : cC cys ad k i X (Z k i) = .inr (ci, fs)) (hq1 : vwCl[ci]? = some q1) (hq2 : q1.1 = y.cls) (kk : ∀ r : Int, P r → JJ p l e R s m args below meth c D cys ad A Q nL cells slots L g X Z (pc + 3) vs (.int (iI r) :: rest)) : JJ p l e R s m args below meth c D cys ad A Q nL cells slots L g X Z pc vs st := by
  refine j_callV G cv hlk hM hd hR hcs hst hn hrest hv hc hq1 hq2 (fun v L1 g1 X1 Z1 h => ?_)
  obtain ⟨r, rfl, h2, rfl, rfl, rfl, rfl⟩ := h
  exact kk r h2
theorem j_cSI (G : GG p l s m args meth c D cys ad A cc own nL) {y : MethodName} {cc1 : ByteArray} {nL1 n fr lo idx : Nat} {ret : Option FieldType} {As rest : List Value} {P : Int → Prop}
    (cv : CS y cc1 nL1 ret n) (hlk : Cond.methodLink own idx y ∈ TW) (hown : y.cls = own) (hM : CM l D cys ad y cc1 nL1 ret fr lo 0 0 As L g X Z (PI L g X Z P)) (hd : decode cc pc = .ok (.invokestatic idx, 3))
    (hR : fr + 1 ≤ R.frames ∧ 8 + (nL1 + 11) + lo ≤ R.locals) (hcs : cells ≤ R.cells ∧ slots ≤ R.slots) (hst : st = As.reverse ++ rest) (hn : As.length = n) (hrest : (rest.map fun v => v.category).sum ≤ 8) (kk : ∀ r : Int, P r → JJ p l e R s m args below meth c D cys ad A Q nL cells slots L g X Z (pc + 3) vs (.int (iI r) :: rest)) : JJ p l e R s m args below meth c D cys ad A Q nL cells slots L g X Z pc vs st := by
  refine j_callS G cv hlk hown hM hd hR hcs hst hn hrest (fun v L1 g1 X1 Z1 h => ?_)
  obtain ⟨r, rfl, h2, rfl, rfl, rfl, rfl⟩ := h
  exact kk r h2
theorem j_cVIZ (G : GG p l s m args meth c D cys ad A cc own nL) {y : MethodName} {cc1 : ByteArray} {nL1 n fr lo idx : Nat} {ret : Option FieldType} {As rest : List Value} {P : Int → ZT → Prop} {k : Nat} {i : Int} {ci : Nat} {fs : List Value} {q1 : vw_C}
    (cv : CV y cc1 nL1 ret n) (hlk : Cond.methodLink own idx y ∈ TW) (hM : CM l D cys ad y cc1 nL1 ret fr lo 0 0 (.ref (ad k i) :: As) L g X Z (PIZ L g X Z P)) (hd : decode cc pc = .ok (.invokevirtual idx, 3))
    (hR : fr + 1 ≤ R.frames ∧ 8 + (nL1 + 11) + lo ≤ R.locals) (hcs : cells ≤ R.cells ∧ slots ≤ R.slots) (hst : st = As.reverse ++ .ref (ad k i) :: rest) (hn : As.length = n) (hrest : (rest.map fun v => v.category).sum ≤ 8)
    (hv : vd k i) (hc : cC cys ad k i X (Z k i) = .inr (ci, fs)) (hq1 : vwCl[ci]? = some q1) (hq2 : q1.1 = y.cls) (kk : ∀ (r : Int) (Z1 : ZT), P r Z1 → JJ p l e R s m args below meth c D cys ad A Q nL cells slots L g X Z1 (pc + 3) vs (.int (iI r) :: rest)) : JJ p l e R s m args below meth c D cys ad A Q nL cells slots L g X Z pc vs st := by
  refine j_callV G cv hlk hM hd hR hcs hst hn hrest hv hc hq1 hq2 (fun v L1 g1 X1 Z1 h => ?_)
  obtain ⟨r, rfl, h2, rfl, rfl, rfl⟩ := h
  exact kk r _ h2
theorem j_cSIZ (G : GG p l s m args meth c D cys ad A cc own nL) {y : MethodName} {cc1 : ByteArray} {nL1 n fr lo idx : Nat} {ret : Option FieldType} {As rest : List Value} {P : Int → ZT → Prop}
    (cv : CS y cc1 nL1 ret n) (hlk : Cond.methodLink own idx y ∈ TW) (hown : y.cls = own) (hM : CM l D cys ad y cc1 nL1 ret fr lo 0 0 As L g X Z (PIZ L g X Z P)) (hd : decode cc pc = .ok (.invokestatic idx, 3))
    (hR : fr + 1 ≤ R.frames ∧ 8 + (nL1 + 11) + lo ≤ R.locals) (hcs : cells ≤ R.cells ∧ slots ≤ R.slots) (hst : st = As.reverse ++ rest) (hn : As.length = n) (hrest : (rest.map fun v => v.category).sum ≤ 8) (kk : ∀ (r : Int) (Z1 : ZT), P r Z1 → JJ p l e R s m args below meth c D cys ad A Q nL cells slots L g X Z1 (pc + 3) vs (.int (iI r) :: rest)) : JJ p l e R s m args below meth c D cys ad A Q nL cells slots L g X Z pc vs st := by
  refine j_callS G cv hlk hown hM hd hR hcs hst hn hrest (fun v L1 g1 X1 Z1 h => ?_)
  obtain ⟨r, rfl, h2, rfl, rfl, rfl⟩ := h
  exact kk r _ h2
theorem j_cVVZ (G : GG p l s m args meth c D cys ad A cc own nL) {y : MethodName} {cc1 : ByteArray} {nL1 n fr lo idx : Nat} {ret : Option FieldType} {As rest : List Value} {P : ZT → Prop} {k : Nat} {i : Int} {ci : Nat} {fs : List Value} {q1 : vw_C}
    (cv : CV y cc1 nL1 ret n) (hlk : Cond.methodLink own idx y ∈ TW) (hM : CM l D cys ad y cc1 nL1 ret fr lo 0 0 (.ref (ad k i) :: As) L g X Z (PVZ L g X Z P)) (hd : decode cc pc = .ok (.invokevirtual idx, 3))
    (hR : fr + 1 ≤ R.frames ∧ 8 + (nL1 + 11) + lo ≤ R.locals) (hcs : cells ≤ R.cells ∧ slots ≤ R.slots) (hst : st = As.reverse ++ .ref (ad k i) :: rest) (hn : As.length = n) (hrest : (rest.map fun v => v.category).sum ≤ 8)
    (hv : vd k i) (hc : cC cys ad k i X (Z k i) = .inr (ci, fs)) (hq1 : vwCl[ci]? = some q1) (hq2 : q1.1 = y.cls) (kk : ∀ Z1 : ZT, P Z1 → JJ p l e R s m args below meth c D cys ad A Q nL cells slots L g X Z1 (pc + 3) vs rest) : JJ p l e R s m args below meth c D cys ad A Q nL cells slots L g X Z pc vs st := by
  refine j_callV G cv hlk hM hd hR hcs hst hn hrest hv hc hq1 hq2 (fun v L1 g1 X1 Z1 h => ?_)
  obtain ⟨rfl, h2, rfl, rfl, rfl⟩ := h
  exact kk _ h2
theorem j_cSVZ (G : GG p l s m args meth c D cys ad A cc own nL) {y : MethodName} {cc1 : ByteArray} {nL1 n fr lo idx : Nat} {ret : Option FieldType} {As rest : List Value} {P : ZT → Prop}
    (cv : CS y cc1 nL1 ret n) (hlk : Cond.methodLink own idx y ∈ TW) (hown : y.cls = own) (hM : CM l D cys ad y cc1 nL1 ret fr lo 0 0 As L g X Z (PVZ L g X Z P)) (hd : decode cc pc = .ok (.invokestatic idx, 3))
    (hR : fr + 1 ≤ R.frames ∧ 8 + (nL1 + 11) + lo ≤ R.locals) (hcs : cells ≤ R.cells ∧ slots ≤ R.slots) (hst : st = As.reverse ++ rest) (hn : As.length = n) (hrest : (rest.map fun v => v.category).sum ≤ 8) (kk : ∀ Z1 : ZT, P Z1 → JJ p l e R s m args below meth c D cys ad A Q nL cells slots L g X Z1 (pc + 3) vs rest) : JJ p l e R s m args below meth c D cys ad A Q nL cells slots L g X Z pc vs st := by
  refine j_callS G cv hlk hown hM hd hR hcs hst hn hrest (fun v L1 g1 X1 Z1 h => ?_)
  obtain ⟨rfl, h2, rfl, rfl, rfl⟩ := h
  exact kk _ h2
theorem j_cVR (G : GG p l s m args meth c D cys ad A cc own nL) {y : MethodName} {cc1 : ByteArray} {nL1 n fr lo idx : Nat} {ret : Option FieldType} {As rest : List Value} {P : Nat → Prop} {k : Nat} {i : Int} {ci : Nat} {fs : List Value} {q1 : vw_C}
    (cv : CV y cc1 nL1 ret n) (hlk : Cond.methodLink own idx y ∈ TW) (hM : CM l D cys ad y cc1 nL1 ret fr lo 0 0 (.ref (ad k i) :: As) L g X Z (PR L g X Z P)) (hd : decode cc pc = .ok (.invokevirtual idx, 3))
    (hR : fr + 1 ≤ R.frames ∧ 8 + (nL1 + 11) + lo ≤ R.locals) (hcs : cells ≤ R.cells ∧ slots ≤ R.slots) (hst : st = As.reverse ++ .ref (ad k i) :: rest) (hn : As.length = n) (hrest : (rest.map fun v => v.category).sum ≤ 8)
    (hv : vd k i) (hc : cC cys ad k i X (Z k i) = .inr (ci, fs)) (hq1 : vwCl[ci]? = some q1) (hq2 : q1.1 = y.cls) (kk : ∀ r : Nat, P r → JJ p l e R s m args below meth c D cys ad A Q nL cells slots L g X Z (pc + 3) vs (.ref r :: rest)) : JJ p l e R s m args below meth c D cys ad A Q nL cells slots L g X Z pc vs st := by
  refine j_callV G cv hlk hM hd hR hcs hst hn hrest hv hc hq1 hq2 (fun v L1 g1 X1 Z1 h => ?_)
  obtain ⟨r, rfl, h2, rfl, rfl, rfl, rfl⟩ := h
  exact kk r h2
theorem j_cSR (G : GG p l s m args meth c D cys ad A cc own nL) {y : MethodName} {cc1 : ByteArray} {nL1 n fr lo idx : Nat} {ret : Option FieldType} {As rest : List Value} {P : Nat → Prop}
    (cv : CS y cc1 nL1 ret n) (hlk : Cond.methodLink own idx y ∈ TW) (hown : y.cls = own) (hM : CM l D cys ad y cc1 nL1 ret fr lo 0 0 As L g X Z (PR L g X Z P)) (hd : decode cc pc = .ok (.invokestatic idx, 3))
    (hR : fr + 1 ≤ R.frames ∧ 8 + (nL1 + 11) + lo ≤ R.locals) (hcs : cells ≤ R.cells ∧ slots ≤ R.slots) (hst : st = As.reverse ++ rest) (hn : As.length = n) (hrest : (rest.map fun v => v.category).sum ≤ 8) (kk : ∀ r : Nat, P r → JJ p l e R s m args below meth c D cys ad A Q nL cells slots L g X Z (pc + 3) vs (.ref r :: rest)) : JJ p l e R s m args below meth c D cys ad A Q nL cells slots L g X Z pc vs st := by
  refine j_callS G cv hlk hown hM hd hR hcs hst hn hrest (fun v L1 g1 X1 Z1 h => ?_)
  obtain ⟨r, rfl, h2, rfl, rfl, rfl, rfl⟩ := h
  exact kk r h2
theorem j_cVJ (G : GG p l s m args meth c D cys ad A cc own nL) {y : MethodName} {cc1 : ByteArray} {nL1 n fr lo idx : Nat} {ret : Option FieldType} {As rest : List Value} {P : Int64 → Prop} {k : Nat} {i : Int} {ci : Nat} {fs : List Value} {q1 : vw_C}
    (cv : CV y cc1 nL1 ret n) (hlk : Cond.methodLink own idx y ∈ TW) (hM : CM l D cys ad y cc1 nL1 ret fr lo 0 0 (.ref (ad k i) :: As) L g X Z (PJ L g X Z P)) (hd : decode cc pc = .ok (.invokevirtual idx, 3))
    (hR : fr + 1 ≤ R.frames ∧ 8 + (nL1 + 11) + lo ≤ R.locals) (hcs : cells ≤ R.cells ∧ slots ≤ R.slots) (hst : st = As.reverse ++ .ref (ad k i) :: rest) (hn : As.length = n) (hrest : (rest.map fun v => v.category).sum ≤ 8)
    (hv : vd k i) (hc : cC cys ad k i X (Z k i) = .inr (ci, fs)) (hq1 : vwCl[ci]? = some q1) (hq2 : q1.1 = y.cls) (kk : ∀ r : Int64, P r → JJ p l e R s m args below meth c D cys ad A Q nL cells slots L g X Z (pc + 3) vs (.long r :: rest)) : JJ p l e R s m args below meth c D cys ad A Q nL cells slots L g X Z pc vs st := by
  refine j_callV G cv hlk hM hd hR hcs hst hn hrest hv hc hq1 hq2 (fun v L1 g1 X1 Z1 h => ?_)
  obtain ⟨r, rfl, h2, rfl, rfl, rfl, rfl⟩ := h
  exact kk r h2
theorem j_cSJ (G : GG p l s m args meth c D cys ad A cc own nL) {y : MethodName} {cc1 : ByteArray} {nL1 n fr lo idx : Nat} {ret : Option FieldType} {As rest : List Value} {P : Int64 → Prop}
    (cv : CS y cc1 nL1 ret n) (hlk : Cond.methodLink own idx y ∈ TW) (hown : y.cls = own) (hM : CM l D cys ad y cc1 nL1 ret fr lo 0 0 As L g X Z (PJ L g X Z P)) (hd : decode cc pc = .ok (.invokestatic idx, 3))
    (hR : fr + 1 ≤ R.frames ∧ 8 + (nL1 + 11) + lo ≤ R.locals) (hcs : cells ≤ R.cells ∧ slots ≤ R.slots) (hst : st = As.reverse ++ rest) (hn : As.length = n) (hrest : (rest.map fun v => v.category).sum ≤ 8) (kk : ∀ r : Int64, P r → JJ p l e R s m args below meth c D cys ad A Q nL cells slots L g X Z (pc + 3) vs (.long r :: rest)) : JJ p l e R s m args below meth c D cys ad A Q nL cells slots L g X Z pc vs st := by
  refine j_callS G cv hlk hown hM hd hR hcs hst hn hrest (fun v L1 g1 X1 Z1 h => ?_)
  obtain ⟨r, rfl, h2, rfl, rfl, rfl, rfl⟩ := h
  exact kk r h2
theorem j_cVJZ (G : GG p l s m args meth c D cys ad A cc own nL) {y : MethodName} {cc1 : ByteArray} {nL1 n fr lo idx : Nat} {ret : Option FieldType} {As rest : List Value} {P : Int64 → ZT → Prop} {k : Nat} {i : Int} {ci : Nat} {fs : List Value} {q1 : vw_C}
    (cv : CV y cc1 nL1 ret n) (hlk : Cond.methodLink own idx y ∈ TW) (hM : CM l D cys ad y cc1 nL1 ret fr lo 0 0 (.ref (ad k i) :: As) L g X Z (PJZ L g X Z P)) (hd : decode cc pc = .ok (.invokevirtual idx, 3))
    (hR : fr + 1 ≤ R.frames ∧ 8 + (nL1 + 11) + lo ≤ R.locals) (hcs : cells ≤ R.cells ∧ slots ≤ R.slots) (hst : st = As.reverse ++ .ref (ad k i) :: rest) (hn : As.length = n) (hrest : (rest.map fun v => v.category).sum ≤ 8)
    (hv : vd k i) (hc : cC cys ad k i X (Z k i) = .inr (ci, fs)) (hq1 : vwCl[ci]? = some q1) (hq2 : q1.1 = y.cls) (kk : ∀ (r : Int64) (Z1 : ZT), P r Z1 → JJ p l e R s m args below meth c D cys ad A Q nL cells slots L g X Z1 (pc + 3) vs (.long r :: rest)) : JJ p l e R s m args below meth c D cys ad A Q nL cells slots L g X Z pc vs st := by
  refine j_callV G cv hlk hM hd hR hcs hst hn hrest hv hc hq1 hq2 (fun v L1 g1 X1 Z1 h => ?_)
  obtain ⟨r, rfl, h2, rfl, rfl, rfl⟩ := h
  exact kk r _ h2
theorem j_cSJZ (G : GG p l s m args meth c D cys ad A cc own nL) {y : MethodName} {cc1 : ByteArray} {nL1 n fr lo idx : Nat} {ret : Option FieldType} {As rest : List Value} {P : Int64 → ZT → Prop}
    (cv : CS y cc1 nL1 ret n) (hlk : Cond.methodLink own idx y ∈ TW) (hown : y.cls = own) (hM : CM l D cys ad y cc1 nL1 ret fr lo 0 0 As L g X Z (PJZ L g X Z P)) (hd : decode cc pc = .ok (.invokestatic idx, 3))
    (hR : fr + 1 ≤ R.frames ∧ 8 + (nL1 + 11) + lo ≤ R.locals) (hcs : cells ≤ R.cells ∧ slots ≤ R.slots) (hst : st = As.reverse ++ rest) (hn : As.length = n) (hrest : (rest.map fun v => v.category).sum ≤ 8) (kk : ∀ (r : Int64) (Z1 : ZT), P r Z1 → JJ p l e R s m args below meth c D cys ad A Q nL cells slots L g X Z1 (pc + 3) vs (.long r :: rest)) : JJ p l e R s m args below meth c D cys ad A Q nL cells slots L g X Z pc vs st := by
  refine j_callS G cv hlk hown hM hd hR hcs hst hn hrest (fun v L1 g1 X1 Z1 h => ?_)
  obtain ⟨r, rfl, h2, rfl, rfl, rfl⟩ := h
  exact kk r _ h2
variable {L0 : List Nat} {g0 : Nat → va_E} {X0 : Int64} {Z0 : ZT} {mc ms : Nat}
theorem j_mono {Q0 : State → Prop} (hQ : ∀ t, Q0 t → Q t) (h : JJ p l e R s m args below meth c D cys ad A Q0 nL cells slots L g X Z pc vs st) : JJ p l e R s m args below meth c D cys ad A Q nL cells slots L g X Z pc vs st := by
  intro H locs ls hL hP hD hS hl T hT Xs
  obtain ⟨t, a, b⟩ := h H locs ls hL hP hD hS hl T hT Xs
  exact ⟨t, a, hQ t b⟩
theorem jr_I (G : GG p l s m args meth c D cys ad A cc own nL) {P : Int → Prop} {r : Int} (hQ : ∀ t, MQ below (Qm D cys ad A (PI L g X Z P)) args s mc ms A t → Q t) (hr : meth.sig.returnType = some .int) (hd : decode cc pc = .ok (.ireturn, 1)) (hc : cells ≤ mc) (hs : slots ≤ ms) (hp : P r) : JJ p l e R s m args below meth c D cys ad A Q nL cells slots L g X Z pc vs [.int (iI r)] :=
  j_mono hQ (jr_int G hr rfl hd hc hs ⟨r, rfl, hp, rfl, rfl, rfl, rfl⟩)
theorem jr_B (G : GG p l s m args meth c D cys ad A cc own nL) {P : Int → Prop} {r : Int} (hQ : ∀ t, MQ below (Qm D cys ad A (PI L g X Z P)) args s mc ms A t → Q t) (hr : meth.sig.returnType = some .boolean) (hd : decode cc pc = .ok (.ireturn, 1)) (hc : cells ≤ mc) (hs : slots ≤ ms) (hb : r = 0 ∨ r = 1) (hp : P r) : JJ p l e R s m args below meth c D cys ad A Q nL cells slots L g X Z pc vs [.int (iI r)] :=
  j_mono hQ (jr_int G hr (by rcases hb with rfl | rfl <;> decide +kernel) hd hc hs ⟨r, rfl, hp, rfl, rfl, rfl, rfl⟩)
theorem jr_IZ (G : GG p l s m args meth c D cys ad A cc own nL) {P : Int → ZT → Prop} {r : Int} (hQ : ∀ t, MQ below (Qm D cys ad A (PIZ L g X Z0 P)) args s mc ms A t → Q t) (hr : meth.sig.returnType = some .int) (hd : decode cc pc = .ok (.ireturn, 1)) (hc : cells ≤ mc) (hs : slots ≤ ms) (hp : P r Z) : JJ p l e R s m args below meth c D cys ad A Q nL cells slots L g X Z pc vs [.int (iI r)] :=
  j_mono hQ (jr_int G hr rfl hd hc hs ⟨r, rfl, hp, rfl, rfl, rfl⟩)
theorem jr_BZ (G : GG p l s m args meth c D cys ad A cc own nL) {P : Int → ZT → Prop} {r : Int} (hQ : ∀ t, MQ below (Qm D cys ad A (PIZ L g X Z0 P)) args s mc ms A t → Q t) (hr : meth.sig.returnType = some .boolean) (hd : decode cc pc = .ok (.ireturn, 1)) (hc : cells ≤ mc) (hs : slots ≤ ms) (hb : r = 0 ∨ r = 1) (hp : P r Z) : JJ p l e R s m args below meth c D cys ad A Q nL cells slots L g X Z pc vs [.int (iI r)] :=
  j_mono hQ (jr_int G hr (by rcases hb with rfl | rfl <;> decide +kernel) hd hc hs ⟨r, rfl, hp, rfl, rfl, rfl⟩)
theorem jr_VZ (G : GG p l s m args meth c D cys ad A cc own nL) {P : ZT → Prop} (hQ : ∀ t, MQ below (Qm D cys ad A (PVZ L g X Z0 P)) args s mc ms A t → Q t) (hr : meth.sig.returnType = none) (hd : decode cc pc = .ok (.return_, 1)) (hc : cells ≤ mc) (hs : slots ≤ ms) (hp : P Z) : JJ p l e R s m args below meth c D cys ad A Q nL cells slots L g X Z pc vs [] :=
  j_mono hQ (jr_void G hr hd hc hs ⟨rfl, hp, rfl, rfl, rfl⟩)
theorem jr_R (G : GG p l s m args meth c D cys ad A cc own nL) {P : Nat → Prop} {r : Nat} (hQ : ∀ t, MQ below (Qm D cys ad A (PR L g X Z P)) args s mc ms A t → Q t) {ty : FieldType} (hr : meth.sig.returnType = some ty) (hty : (∃ n, ty = .object n) ∨ ∃ t, ty = .array t) (hd : decode cc pc = .ok (.areturn, 1)) (hc : cells ≤ mc) (hs : slots ≤ ms) (hp : P r) : JJ p l e R s m args below meth c D cys ad A Q nL cells slots L g X Z pc vs [.ref r] :=
  j_mono hQ (jr_ref G hr hty hd hc hs ⟨r, rfl, hp, rfl, rfl, rfl, rfl⟩)
theorem jr_J (G : GG p l s m args meth c D cys ad A cc own nL) {P : Int64 → Prop} {r : Int64} (hQ : ∀ t, MQ below (Qm D cys ad A (PJ L g X Z P)) args s mc ms A t → Q t) (hr : meth.sig.returnType = some .long) (hd : decode cc pc = .ok (.lreturn, 1)) (hc : cells ≤ mc) (hs : slots ≤ ms) (hp : P r) : JJ p l e R s m args below meth c D cys ad A Q nL cells slots L g X Z pc vs [.long r] :=
  j_mono hQ (jr_long G hr hd hc hs ⟨r, rfl, hp, rfl, rfl, rfl, rfl⟩)
theorem jr_JZ (G : GG p l s m args meth c D cys ad A cc own nL) {P : Int64 → ZT → Prop} {r : Int64} (hQ : ∀ t, MQ below (Qm D cys ad A (PJZ L g X Z0 P)) args s mc ms A t → Q t) (hr : meth.sig.returnType = some .long) (hd : decode cc pc = .ok (.lreturn, 1)) (hc : cells ≤ mc) (hs : slots ≤ ms) (hp : P r Z) : JJ p l e R s m args below meth c D cys ad A Q nL cells slots L g X Z pc vs [.long r] :=
  j_mono hQ (jr_long G hr hd hc hs ⟨r, rfl, hp, rfl, rfl, rfl⟩)
/-- Math.max of two ints -/
theorem j_max (G : GG p l s m args meth c D cys ad A cc own nL) {a b : Int} {idx : Nat} (hlink : Cond.methodLink own idx Lib.Math.max.name ∈ TW) (h1 : Cond.static Lib.Math.max.name ∈ TW) (h2 : Cond.initialized "java/lang/Math" ∈ TW) (h3 : Cond.code Lib.Math.max.name Lib.Math.max.code 2 (some .int) ∈ TW) (hd : decode cc pc = .ok (.invokestatic idx, 3)) (hf : 1 ≤ R.frames) (hlo : (st.map fun v => v.category).sum + 13 ≤ R.locals) (hc : cells ≤ R.cells) (hs : slots ≤ R.slots) (ha : inR a) (hb : inR b)
    (kk : JJ p l e R s m args below meth c D cys ad A Q nL cells slots L g X Z (pc + 3) vs (.int (iI (if a < b then b else a)) :: st)) : JJ p l e R s m args below meth c D cys ad A Q nL cells slots L g X Z pc vs (.int (iI b) :: .int (iI a) :: st) := by
  intro H locs ls hL hP hD hS hl
  refine va_mmax G.x G.b (by rw [G.ml]; exact hl.1.symm) G.ow (G.ts _ hlink) (G.ts _ h1) (G.ts _ h2) (G.ts _ h3) hf hlo hc hs hd ?_
  have e : (if iI a < iI b then iI b else iI a) = iI (if a < b then b else a) := by
    by_cases h : a < b
    · rw [if_pos ((iI_lt ha hb).mpr h), if_pos h]
    · rw [if_neg (fun z => h ((iI_lt ha hb).mp z)), if_neg h]
  rw [e]
  exact kk H locs ls hL hP hD hS hl
/-- a long is stored: its second half's place is no int's any more -/
def sto2 (vs : List (Nat × Value)) (i : Nat) (v : Value) : List (Nat × Value) := sto (vs.filter (fun q => !(q.1 == i + 1))) i v
theorem sto2_has {ls : Array Slot} {vs : List (Nat × Value)} {i : Nat} {v : Value} (h : lv_has ls nL ((i, v) :: vs.filter (fun q => !(q.1 == i) && (!(q.1 == i + 1) && !(q.1 + 1 == i && q.2.category == 2))))) (h2 : no2 vs i = true) : lv_has ls nL (sto2 vs i v) := by
  refine sto_has (vs := vs.filter (fun q => !(q.1 == i + 1))) ⟨h.1, h.2.1, fun q hq => h.2.2 q ?_⟩ ?_
  · rcases List.mem_cons.mp hq with e | hq
    · rw [e]; exact List.mem_cons_self
    · obtain ⟨a, b⟩ := List.mem_filter.mp hq
      obtain ⟨a1, a2⟩ := List.mem_filter.mp a
      refine List.mem_cons_of_mem _ (List.mem_filter.mpr ⟨a1, ?_⟩)
      rw [Bool.and_eq_true] at b ⊢
      exact ⟨b.1, by rw [Bool.and_eq_true]; exact ⟨a2, b.2⟩⟩
  · refine List.all_eq_true.mpr (fun q hq => ?_)
    exact List.all_eq_true.mp h2 q (List.mem_filter.mp hq).1
theorem j_lstore_n (G : GG p l s m args meth c D cys ad A cc own nL) {k : Fin 4} {x : Int64} (hd : decode cc pc = .ok (.lstore_n k, 1)) (hn : (k : Nat) + 1 < nL) (h2 : no2 vs k = true) (kk : JJ p l e R s m args below meth c D cys ad A Q nL cells slots L g X Z (pc + 1) (sto2 vs k (.long x)) st) : JJ p l e R s m args below meth c D cys ad A Q nL cells slots L g X Z pc vs (.long x :: st) :=
  fun H locs ls hL hP hD hS hl => lv_lstore_n G.x G.b hd rfl hl hn rfl (fun ls' hl' => kk H locs ls' hL hP hD hS (sto2_has hl' h2))
theorem j_lstore (G : GG p l s m args meth c D cys ad A cc own nL) {k : Nat} {x : Int64} (hd : decode cc pc = .ok (.lstore k, 2)) (hn : k + 1 < nL) (h2 : no2 vs k = true) (kk : JJ p l e R s m args below meth c D cys ad A Q nL cells slots L g X Z (pc + 2) (sto2 vs k (.long x)) st) : JJ p l e R s m args below meth c D cys ad A Q nL cells slots L g X Z pc vs (.long x :: st) :=
  fun H locs ls hL hP hD hS hl => lv_lstore G.x G.b hd hl hn rfl (fun ls' hl' => kk H locs ls' hL hP hD hS (sto2_has hl' h2))
theorem j_ldc2 (G : GG p l s m args meth c D cys ad A cc own nL) {idx : Nat} {v : Int64} (hd : decode cc pc = .ok (.ldc2_w idx, 3)) (hk : Cond.constantLong own idx v ∈ TW) (kk : JJ p l e R s m args below meth c D cys ad A Q nL cells slots L g X Z (pc + 3) vs (.long v :: st)) : JJ p l e R s m args below meth c D cys ad A Q nL cells slots L g X Z pc vs st :=
  fun H locs ls hL hP hD hS hl => lv_ldc2 G.x G.b G.ow (G.ts _ hk) hd (kk H locs ls hL hP hD hS hl)
end CTS
end
section
section WDS
variable {p : Program} {l : Launch} {e : Env} {R : Room} {s : State} {m : MethodId} {args : Array Value} {below : List Frame} {meth : Method} {c : Code} {Q : State → Prop}
variable {D : va_G} {cys : Nat → ClassId} {ad : Nat → Int → Nat} {A : Nat → Prop} {cc : ByteArray} {own : String} {nL : Nat} {cells slots : Nat} {L : List Nat} {g : Nat → va_E} {X : Int64} {Z : ZT} {pc : Nat} {vs : List (Nat × Value)} {st : List Value}
theorem gf_0_0 (G : GG p l s m args meth c D cys ad A cc own nL) {i : Int} {idx : Nat} (hd : decode cc pc = .ok (.getfield idx, 3)) (hk : Cond.fieldLink own idx "EbbTable" "trees" "[LEbbTable$Tree;" ∈ TW) (h : vd 0 i) (kk : JJ p l e R s m args below meth c D cys ad A Q nL cells slots L g X Z (pc + 3) vs (.ref (ad 1 0) :: st)) : JJ p l e R s m args below meth c D cys ad A Q nL cells slots L g X Z pc vs (.ref (ad 0 i) :: st) :=
  j_get G 0 i 0 hd rfl rfl rfl (by decide) hk rfl inT6 h kk
theorem gf_0_1 (G : GG p l s m args meth c D cys ad A cc own nL) {i : Int} {idx : Nat} (hd : decode cc pc = .ok (.getfield idx, 3)) (hk : Cond.fieldLink own idx "EbbTable" "factList" "LEbbTable$FactList;" ∈ TW) (h : vd 0 i) (kk : JJ p l e R s m args below meth c D cys ad A Q nL cells slots L g X Z (pc + 3) vs (.ref (ad 6 0) :: st)) : JJ p l e R s m args below meth c D cys ad A Q nL cells slots L g X Z pc vs (.ref (ad 0 i) :: st) :=
  j_get G 0 i 1 hd rfl rfl rfl (by decide) hk rfl inT6 h kk
theorem gf_0_2 (G : GG p l s m args meth c D cys ad A cc own nL) {i : Int} {idx : Nat} (hd : decode cc pc = .ok (.getfield idx, 3)) (hk : Cond.fieldLink own idx "EbbTable" "viewList" "LEbbTable$ViewList;" ∈ TW) (h : vd 0 i) (kk : JJ p l e R s m args below meth c D cys ad A Q nL cells slots L g X Z (pc + 3) vs (.ref (ad 11 0) :: st)) : JJ p l e R s m args below meth c D cys ad A Q nL cells slots L g X Z pc vs (.ref (ad 0 i) :: st) :=
  j_get G 0 i 2 hd rfl rfl rfl (by decide) hk rfl inT6 h kk
theorem gf_0_3 (G : GG p l s m args meth c D cys ad A cc own nL) {i : Int} {idx : Nat} (hd : decode cc pc = .ok (.getfield idx, 3)) (hk : Cond.fieldLink own idx "EbbTable" "rowAxis" "LEbbTable$Axis;" ∈ TW) (h : vd 0 i) (kk : JJ p l e R s m args below meth c D cys ad A Q nL cells slots L g X Z (pc + 3) vs (.ref (ad 15 0) :: st)) : JJ p l e R s m args below meth c D cys ad A Q nL cells slots L g X Z pc vs (.ref (ad 0 i) :: st) :=
  j_get G 0 i 3 hd rfl rfl rfl (by decide) hk rfl inT6 h kk
theorem gf_0_4 (G : GG p l s m args meth c D cys ad A cc own nL) {i : Int} {idx : Nat} (hd : decode cc pc = .ok (.getfield idx, 3)) (hk : Cond.fieldLink own idx "EbbTable" "columnAxis" "LEbbTable$Axis;" ∈ TW) (h : vd 0 i) (kk : JJ p l e R s m args below meth c D cys ad A Q nL cells slots L g X Z (pc + 3) vs (.ref (ad 15 1) :: st)) : JJ p l e R s m args below meth c D cys ad A Q nL cells slots L g X Z pc vs (.ref (ad 0 i) :: st) :=
  j_get G 0 i 4 hd rfl rfl rfl (by decide) hk rfl inT6 h kk
theorem gf_0_5 (G : GG p l s m args meth c D cys ad A cc own nL) {i : Int} {idx : Nat} (hd : decode cc pc = .ok (.getfield idx, 3)) (hk : Cond.fieldLink own idx "EbbTable" "treeCount" "I" ∈ TW) (h : vd 0 i) (kk : JJ p l e R s m args below meth c D cys ad A Q nL cells slots L g X Z (pc + 3) vs (.int (iI (Z 0 i 5)) :: st)) : JJ p l e R s m args below meth c D cys ad A Q nL cells slots L g X Z pc vs (.ref (ad 0 i) :: st) :=
  j_get G 0 i 5 hd rfl rfl rfl (by decide) hk rfl inT6 h kk
theorem pf_0_5 (G : GG p l s m args meth c D cys ad A cc own nL) {i a : Int} {idx : Nat} (hd : decode cc pc = .ok (.putfield idx, 3)) (hk : Cond.fieldLink own idx "EbbTable" "treeCount" "I" ∈ TW) (h : vd 0 i) (kk : JJ p l e R s m args below meth c D cys ad A Q nL cells slots L g X (zS Z 0 i 5 a) (pc + 3) vs st) : JJ p l e R s m args below meth c D cys ad A Q nL cells slots L g X Z pc vs (.int (iI a) :: .ref (ad 0 i) :: st) :=
  j_put G 0 i 5 .int hd rfl rfl rfl (by decide) (Nat.le_of_ble_eq_true rfl) hk rfl rfl inT6 tyX6_ok nmX6 (by decide +kernel) rfl rfl h kk
theorem gf_0_6 (G : GG p l s m args meth c D cys ad A cc own nL) {i : Int} {idx : Nat} (hd : decode cc pc = .ok (.getfield idx, 3)) (hk : Cond.fieldLink own idx "EbbTable" "chosenLevels" "I" ∈ TW) (h : vd 0 i) (kk : JJ p l e R s m args below meth c D cys ad A Q nL cells slots L g X Z (pc + 3) vs (.int (iI (Z 0 i 6)) :: st)) : JJ p l e R s m args below meth c D cys ad A Q nL cells slots L g X Z pc vs (.ref (ad 0 i) :: st) :=
  j_get G 0 i 6 hd rfl rfl rfl (by decide) hk rfl inT6 h kk
theorem pf_0_6 (G : GG p l s m args meth c D cys ad A cc own nL) {i a : Int} {idx : Nat} (hd : decode cc pc = .ok (.putfield idx, 3)) (hk : Cond.fieldLink own idx "EbbTable" "chosenLevels" "I" ∈ TW) (h : vd 0 i) (kk : JJ p l e R s m args below meth c D cys ad A Q nL cells slots L g X (zS Z 0 i 6 a) (pc + 3) vs st) : JJ p l e R s m args below meth c D cys ad A Q nL cells slots L g X Z pc vs (.int (iI a) :: .ref (ad 0 i) :: st) :=
  j_put G 0 i 6 .int hd rfl rfl rfl (by decide) (Nat.le_of_ble_eq_true rfl) hk rfl rfl inT6 tyX6_ok nmX6 (by decide +kernel) rfl rfl h kk
theorem gf_0_7 (G : GG p l s m args meth c D cys ad A cc own nL) {i : Int} {idx : Nat} (hd : decode cc pc = .ok (.getfield idx, 3)) (hk : Cond.fieldLink own idx "EbbTable" "hasAxes" "Z" ∈ TW) (h : vd 0 i) (kk : JJ p l e R s m args below meth c D cys ad A Q nL cells slots L g X Z (pc + 3) vs (.int (iI (Z 0 i 7)) :: st)) : JJ p l e R s m args below meth c D cys ad A Q nL cells slots L g X Z pc vs (.ref (ad 0 i) :: st) :=
  j_get G 0 i 7 hd rfl rfl rfl (by decide) hk rfl inT6 h kk
theorem pf_0_7 (G : GG p l s m args meth c D cys ad A cc own nL) {i a : Int} {idx : Nat} (hd : decode cc pc = .ok (.putfield idx, 3)) (hk : Cond.fieldLink own idx "EbbTable" "hasAxes" "Z" ∈ TW) (h : vd 0 i) (ha : a = 0 ∨ a = 1) (kk : JJ p l e R s m args below meth c D cys ad A Q nL cells slots L g X (zS Z 0 i 7 a) (pc + 3) vs st) : JJ p l e R s m args below meth c D cys ad A Q nL cells slots L g X Z pc vs (.int (iI a) :: .ref (ad 0 i) :: st) :=
  j_put G 0 i 7 .boolean hd rfl rfl rfl (by decide) (Nat.le_of_ble_eq_true rfl) hk rfl rfl inT6 tyX6_ok nmX6 (by decide +kernel) (by rcases ha with rfl | rfl <;> decide +kernel) (by rcases ha with rfl | rfl <;> decide +kernel) h kk
theorem gf_0_8 (G : GG p l s m args meth c D cys ad A cc own nL) {i : Int} {idx : Nat} (hd : decode cc pc = .ok (.getfield idx, 3)) (hk : Cond.fieldLink own idx "EbbTable" "bareIsOut" "Z" ∈ TW) (h : vd 0 i) (kk : JJ p l e R s m args below meth c D cys ad A Q nL cells slots L g X Z (pc + 3) vs (.int (iI (Z 0 i 8)) :: st)) : JJ p l e R s m args below meth c D cys ad A Q nL cells slots L g X Z pc vs (.ref (ad 0 i) :: st) :=
  j_get G 0 i 8 hd rfl rfl rfl (by decide) hk rfl inT6 h kk
theorem pf_0_8 (G : GG p l s m args meth c D cys ad A cc own nL) {i a : Int} {idx : Nat} (hd : decode cc pc = .ok (.putfield idx, 3)) (hk : Cond.fieldLink own idx "EbbTable" "bareIsOut" "Z" ∈ TW) (h : vd 0 i) (ha : a = 0 ∨ a = 1) (kk : JJ p l e R s m args below meth c D cys ad A Q nL cells slots L g X (zS Z 0 i 8 a) (pc + 3) vs st) : JJ p l e R s m args below meth c D cys ad A Q nL cells slots L g X Z pc vs (.int (iI a) :: .ref (ad 0 i) :: st) :=
  j_put G 0 i 8 .boolean hd rfl rfl rfl (by decide) (Nat.le_of_ble_eq_true rfl) hk rfl rfl inT6 tyX6_ok nmX6 (by decide +kernel) (by rcases ha with rfl | rfl <;> decide +kernel) (by rcases ha with rfl | rfl <;> decide +kernel) h kk
theorem gf_0_9 (G : GG p l s m args meth c D cys ad A cc own nL) {i : Int} {idx : Nat} (hd : decode cc pc = .ok (.getfield idx, 3)) (hk : Cond.fieldLink own idx "EbbTable" "levelList" "LEbbTable$MemberList;" ∈ TW) (h : vd 0 i) (kk : JJ p l e R s m args below meth c D cys ad A Q nL cells slots L g X Z (pc + 3) vs (.ref (ad 16 2) :: st)) : JJ p l e R s m args below meth c D cys ad A Q nL cells slots L g X Z pc vs (.ref (ad 0 i) :: st) :=
  j_get G 0 i 9 hd rfl rfl rfl (by decide) hk rfl inT6 h kk
theorem gf_0_10 (G : GG p l s m args meth c D cys ad A cc own nL) {i : Int} {idx : Nat} (hd : decode cc pc = .ok (.getfield idx, 3)) (hk : Cond.fieldLink own idx "EbbTable" "lineup" "LEbbTable$Lineup;" ∈ TW) (h : vd 0 i) (kk : JJ p l e R s m args below meth c D cys ad A Q nL cells slots L g X Z (pc + 3) vs (.ref (ad 20 0) :: st)) : JJ p l e R s m args below meth c D cys ad A Q nL cells slots L g X Z pc vs (.ref (ad 0 i) :: st) :=
  j_get G 0 i 10 hd rfl rfl rfl (by decide) hk rfl inT6 h kk
theorem gf_0_11 (G : GG p l s m args meth c D cys ad A cc own nL) {i : Int} {idx : Nat} (hd : decode cc pc = .ok (.getfield idx, 3)) (hk : Cond.fieldLink own idx "EbbTable" "cellSums" "[[I" ∈ TW) (h : vd 0 i) (kk : JJ p l e R s m args below meth c D cys ad A Q nL cells slots L g X Z (pc + 3) vs (.ref (ad 22 0) :: st)) : JJ p l e R s m args below meth c D cys ad A Q nL cells slots L g X Z pc vs (.ref (ad 0 i) :: st) :=
  j_get G 0 i 11 hd rfl rfl rfl (by decide) hk rfl inT6 h kk
theorem gf_2_0 (G : GG p l s m args meth c D cys ad A cc own nL) {i : Int} {idx : Nat} (hd : decode cc pc = .ok (.getfield idx, 3)) (hk : Cond.fieldLink own idx "EbbTable$Tree" "parents" "[I" ∈ TW) (h : vd 2 i) (kk : JJ p l e R s m args below meth c D cys ad A Q nL cells slots L g X Z (pc + 3) vs (.ref (ad 3 i) :: st)) : JJ p l e R s m args below meth c D cys ad A Q nL cells slots L g X Z pc vs (.ref (ad 2 i) :: st) :=
  j_get G 2 i 0 hd rfl rfl rfl (by decide) hk rfl inT4 h kk
theorem gf_2_1 (G : GG p l s m args meth c D cys ad A cc own nL) {i : Int} {idx : Nat} (hd : decode cc pc = .ok (.getfield idx, 3)) (hk : Cond.fieldLink own idx "EbbTable$Tree" "depths" "[I" ∈ TW) (h : vd 2 i) (kk : JJ p l e R s m args below meth c D cys ad A Q nL cells slots L g X Z (pc + 3) vs (.ref (ad 4 i) :: st)) : JJ p l e R s m args below meth c D cys ad A Q nL cells slots L g X Z pc vs (.ref (ad 2 i) :: st) :=
  j_get G 2 i 1 hd rfl rfl rfl (by decide) hk rfl inT4 h kk
theorem gf_2_2 (G : GG p l s m args meth c D cys ad A cc own nL) {i : Int} {idx : Nat} (hd : decode cc pc = .ok (.getfield idx, 3)) (hk : Cond.fieldLink own idx "EbbTable$Tree" "outs" "[Z" ∈ TW) (h : vd 2 i) (kk : JJ p l e R s m args below meth c D cys ad A Q nL cells slots L g X Z (pc + 3) vs (.ref (ad 5 i) :: st)) : JJ p l e R s m args below meth c D cys ad A Q nL cells slots L g X Z pc vs (.ref (ad 2 i) :: st) :=
  j_get G 2 i 2 hd rfl rfl rfl (by decide) hk rfl inT4 h kk
theorem gf_2_3 (G : GG p l s m args meth c D cys ad A cc own nL) {i : Int} {idx : Nat} (hd : decode cc pc = .ok (.getfield idx, 3)) (hk : Cond.fieldLink own idx "EbbTable$Tree" "leafDepth" "I" ∈ TW) (h : vd 2 i) (kk : JJ p l e R s m args below meth c D cys ad A Q nL cells slots L g X Z (pc + 3) vs (.int (iI (Z 2 i 3)) :: st)) : JJ p l e R s m args below meth c D cys ad A Q nL cells slots L g X Z pc vs (.ref (ad 2 i) :: st) :=
  j_get G 2 i 3 hd rfl rfl rfl (by decide) hk rfl inT4 h kk
theorem pf_2_3 (G : GG p l s m args meth c D cys ad A cc own nL) {i a : Int} {idx : Nat} (hd : decode cc pc = .ok (.putfield idx, 3)) (hk : Cond.fieldLink own idx "EbbTable$Tree" "leafDepth" "I" ∈ TW) (h : vd 2 i) (kk : JJ p l e R s m args below meth c D cys ad A Q nL cells slots L g X (zS Z 2 i 3 a) (pc + 3) vs st) : JJ p l e R s m args below meth c D cys ad A Q nL cells slots L g X Z pc vs (.int (iI a) :: .ref (ad 2 i) :: st) :=
  j_put G 2 i 3 .int hd rfl rfl rfl (by decide) (Nat.le_of_ble_eq_true rfl) hk rfl rfl inT4 tyX4_ok nmX4 (by decide +kernel) rfl rfl h kk
theorem gf_2_4 (G : GG p l s m args meth c D cys ad A cc own nL) {i : Int} {idx : Nat} (hd : decode cc pc = .ok (.getfield idx, 3)) (hk : Cond.fieldLink own idx "EbbTable$Tree" "size" "I" ∈ TW) (h : vd 2 i) (kk : JJ p l e R s m args below meth c D cys ad A Q nL cells slots L g X Z (pc + 3) vs (.int (iI (Z 2 i 4)) :: st)) : JJ p l e R s m args below meth c D cys ad A Q nL cells slots L g X Z pc vs (.ref (ad 2 i) :: st) :=
  j_get G 2 i 4 hd rfl rfl rfl (by decide) hk rfl inT4 h kk
theorem pf_2_4 (G : GG p l s m args meth c D cys ad A cc own nL) {i a : Int} {idx : Nat} (hd : decode cc pc = .ok (.putfield idx, 3)) (hk : Cond.fieldLink own idx "EbbTable$Tree" "size" "I" ∈ TW) (h : vd 2 i) (kk : JJ p l e R s m args below meth c D cys ad A Q nL cells slots L g X (zS Z 2 i 4 a) (pc + 3) vs st) : JJ p l e R s m args below meth c D cys ad A Q nL cells slots L g X Z pc vs (.int (iI a) :: .ref (ad 2 i) :: st) :=
  j_put G 2 i 4 .int hd rfl rfl rfl (by decide) (Nat.le_of_ble_eq_true rfl) hk rfl rfl inT4 tyX4_ok nmX4 (by decide +kernel) rfl rfl h kk
theorem gf_2_5 (G : GG p l s m args meth c D cys ad A cc own nL) {i : Int} {idx : Nat} (hd : decode cc pc = .ok (.getfield idx, 3)) (hk : Cond.fieldLink own idx "EbbTable$Tree" "point" "I" ∈ TW) (h : vd 2 i) (kk : JJ p l e R s m args below meth c D cys ad A Q nL cells slots L g X Z (pc + 3) vs (.int (iI (Z 2 i 5)) :: st)) : JJ p l e R s m args below meth c D cys ad A Q nL cells slots L g X Z pc vs (.ref (ad 2 i) :: st) :=
  j_get G 2 i 5 hd rfl rfl rfl (by decide) hk rfl inT4 h kk
theorem pf_2_5 (G : GG p l s m args meth c D cys ad A cc own nL) {i a : Int} {idx : Nat} (hd : decode cc pc = .ok (.putfield idx, 3)) (hk : Cond.fieldLink own idx "EbbTable$Tree" "point" "I" ∈ TW) (h : vd 2 i) (kk : JJ p l e R s m args below meth c D cys ad A Q nL cells slots L g X (zS Z 2 i 5 a) (pc + 3) vs st) : JJ p l e R s m args below meth c D cys ad A Q nL cells slots L g X Z pc vs (.int (iI a) :: .ref (ad 2 i) :: st) :=
  j_put G 2 i 5 .int hd rfl rfl rfl (by decide) (Nat.le_of_ble_eq_true rfl) hk rfl rfl inT4 tyX4_ok nmX4 (by decide +kernel) rfl rfl h kk
theorem gf_6_0 (G : GG p l s m args meth c D cys ad A cc own nL) {i : Int} {idx : Nat} (hd : decode cc pc = .ok (.getfield idx, 3)) (hk : Cond.fieldLink own idx "EbbTable$FactList" "leaves" "[[I" ∈ TW) (h : vd 6 i) (kk : JJ p l e R s m args below meth c D cys ad A Q nL cells slots L g X Z (pc + 3) vs (.ref (ad 7 0) :: st)) : JJ p l e R s m args below meth c D cys ad A Q nL cells slots L g X Z pc vs (.ref (ad 6 i) :: st) :=
  j_get G 6 i 0 hd rfl rfl rfl (by decide) hk rfl inT1 h kk
theorem gf_6_1 (G : GG p l s m args meth c D cys ad A cc own nL) {i : Int} {idx : Nat} (hd : decode cc pc = .ok (.getfield idx, 3)) (hk : Cond.fieldLink own idx "EbbTable$FactList" "values" "[I" ∈ TW) (h : vd 6 i) (kk : JJ p l e R s m args below meth c D cys ad A Q nL cells slots L g X Z (pc + 3) vs (.ref (ad 9 0) :: st)) : JJ p l e R s m args below meth c D cys ad A Q nL cells slots L g X Z pc vs (.ref (ad 6 i) :: st) :=
  j_get G 6 i 1 hd rfl rfl rfl (by decide) hk rfl inT1 h kk
theorem gf_6_2 (G : GG p l s m args meth c D cys ad A cc own nL) {i : Int} {idx : Nat} (hd : decode cc pc = .ok (.getfield idx, 3)) (hk : Cond.fieldLink own idx "EbbTable$FactList" "cells" "[I" ∈ TW) (h : vd 6 i) (kk : JJ p l e R s m args below meth c D cys ad A Q nL cells slots L g X Z (pc + 3) vs (.ref (ad 10 0) :: st)) : JJ p l e R s m args below meth c D cys ad A Q nL cells slots L g X Z pc vs (.ref (ad 6 i) :: st) :=
  j_get G 6 i 2 hd rfl rfl rfl (by decide) hk rfl inT1 h kk
theorem gf_6_3 (G : GG p l s m args meth c D cys ad A cc own nL) {i : Int} {idx : Nat} (hd : decode cc pc = .ok (.getfield idx, 3)) (hk : Cond.fieldLink own idx "EbbTable$FactList" "size" "I" ∈ TW) (h : vd 6 i) (kk : JJ p l e R s m args below meth c D cys ad A Q nL cells slots L g X Z (pc + 3) vs (.int (iI (Z 6 i 3)) :: st)) : JJ p l e R s m args below meth c D cys ad A Q nL cells slots L g X Z pc vs (.ref (ad 6 i) :: st) :=
  j_get G 6 i 3 hd rfl rfl rfl (by decide) hk rfl inT1 h kk
theorem pf_6_3 (G : GG p l s m args meth c D cys ad A cc own nL) {i a : Int} {idx : Nat} (hd : decode cc pc = .ok (.putfield idx, 3)) (hk : Cond.fieldLink own idx "EbbTable$FactList" "size" "I" ∈ TW) (h : vd 6 i) (kk : JJ p l e R s m args below meth c D cys ad A Q nL cells slots L g X (zS Z 6 i 3 a) (pc + 3) vs st) : JJ p l e R s m args below meth c D cys ad A Q nL cells slots L g X Z pc vs (.int (iI a) :: .ref (ad 6 i) :: st) :=
  j_put G 6 i 3 .int hd rfl rfl rfl (by decide) (Nat.le_of_ble_eq_true rfl) hk rfl rfl inT1 tyX1_ok nmX1 (by decide +kernel) rfl rfl h kk
theorem gf_11_0 (G : GG p l s m args meth c D cys ad A cc own nL) {i : Int} {idx : Nat} (hd : decode cc pc = .ok (.getfield idx, 3)) (hk : Cond.fieldLink own idx "EbbTable$ViewList" "levels" "[I" ∈ TW) (h : vd 11 i) (kk : JJ p l e R s m args below meth c D cys ad A Q nL cells slots L g X Z (pc + 3) vs (.ref (ad 12 0) :: st)) : JJ p l e R s m args below meth c D cys ad A Q nL cells slots L g X Z pc vs (.ref (ad 11 i) :: st) :=
  j_get G 11 i 0 hd rfl rfl rfl (by decide) hk rfl inT5 h kk
theorem gf_11_1 (G : GG p l s m args meth c D cys ad A cc own nL) {i : Int} {idx : Nat} (hd : decode cc pc = .ok (.getfield idx, 3)) (hk : Cond.fieldLink own idx "EbbTable$ViewList" "lines" "[I" ∈ TW) (h : vd 11 i) (kk : JJ p l e R s m args below meth c D cys ad A Q nL cells slots L g X Z (pc + 3) vs (.ref (ad 13 0) :: st)) : JJ p l e R s m args below meth c D cys ad A Q nL cells slots L g X Z pc vs (.ref (ad 11 i) :: st) :=
  j_get G 11 i 1 hd rfl rfl rfl (by decide) hk rfl inT5 h kk
theorem gf_11_2 (G : GG p l s m args meth c D cys ad A cc own nL) {i : Int} {idx : Nat} (hd : decode cc pc = .ok (.getfield idx, 3)) (hk : Cond.fieldLink own idx "EbbTable$ViewList" "stale" "[Z" ∈ TW) (h : vd 11 i) (kk : JJ p l e R s m args below meth c D cys ad A Q nL cells slots L g X Z (pc + 3) vs (.ref (ad 14 0) :: st)) : JJ p l e R s m args below meth c D cys ad A Q nL cells slots L g X Z pc vs (.ref (ad 11 i) :: st) :=
  j_get G 11 i 2 hd rfl rfl rfl (by decide) hk rfl inT5 h kk
theorem gf_11_3 (G : GG p l s m args meth c D cys ad A cc own nL) {i : Int} {idx : Nat} (hd : decode cc pc = .ok (.getfield idx, 3)) (hk : Cond.fieldLink own idx "EbbTable$ViewList" "size" "I" ∈ TW) (h : vd 11 i) (kk : JJ p l e R s m args below meth c D cys ad A Q nL cells slots L g X Z (pc + 3) vs (.int (iI (Z 11 i 3)) :: st)) : JJ p l e R s m args below meth c D cys ad A Q nL cells slots L g X Z pc vs (.ref (ad 11 i) :: st) :=
  j_get G 11 i 3 hd rfl rfl rfl (by decide) hk rfl inT5 h kk
theorem pf_11_3 (G : GG p l s m args meth c D cys ad A cc own nL) {i a : Int} {idx : Nat} (hd : decode cc pc = .ok (.putfield idx, 3)) (hk : Cond.fieldLink own idx "EbbTable$ViewList" "size" "I" ∈ TW) (h : vd 11 i) (kk : JJ p l e R s m args below meth c D cys ad A Q nL cells slots L g X (zS Z 11 i 3 a) (pc + 3) vs st) : JJ p l e R s m args below meth c D cys ad A Q nL cells slots L g X Z pc vs (.int (iI a) :: .ref (ad 11 i) :: st) :=
  j_put G 11 i 3 .int hd rfl rfl rfl (by decide) (Nat.le_of_ble_eq_true rfl) hk rfl rfl inT5 tyX5_ok nmX5 (by decide +kernel) rfl rfl h kk
theorem gf_15_0 (G : GG p l s m args meth c D cys ad A cc own nL) {i : Int} {idx : Nat} (hd : decode cc pc = .ok (.getfield idx, 3)) (hk : Cond.fieldLink own idx "EbbTable$Axis" "list" "LEbbTable$MemberList;" ∈ TW) (h : vd 15 i) (kk : JJ p l e R s m args below meth c D cys ad A Q nL cells slots L g X Z (pc + 3) vs (.ref (ad 16 i) :: st)) : JJ p l e R s m args below meth c D cys ad A Q nL cells slots L g X Z pc vs (.ref (ad 15 i) :: st) :=
  j_get G 15 i 0 hd rfl rfl rfl (by decide) hk rfl inT0 h kk
theorem gf_15_1 (G : GG p l s m args meth c D cys ad A cc own nL) {i : Int} {idx : Nat} (hd : decode cc pc = .ok (.getfield idx, 3)) (hk : Cond.fieldLink own idx "EbbTable$Axis" "used" "[Z" ∈ TW) (h : vd 15 i) (kk : JJ p l e R s m args below meth c D cys ad A Q nL cells slots L g X Z (pc + 3) vs (.ref (ad 18 i) :: st)) : JJ p l e R s m args below meth c D cys ad A Q nL cells slots L g X Z pc vs (.ref (ad 15 i) :: st) :=
  j_get G 15 i 1 hd rfl rfl rfl (by decide) hk rfl inT0 h kk
theorem gf_15_2 (G : GG p l s m args meth c D cys ad A cc own nL) {i : Int} {idx : Nat} (hd : decode cc pc = .ok (.getfield idx, 3)) (hk : Cond.fieldLink own idx "EbbTable$Axis" "shown" "[I" ∈ TW) (h : vd 15 i) (kk : JJ p l e R s m args below meth c D cys ad A Q nL cells slots L g X Z (pc + 3) vs (.ref (ad 19 i) :: st)) : JJ p l e R s m args below meth c D cys ad A Q nL cells slots L g X Z pc vs (.ref (ad 15 i) :: st) :=
  j_get G 15 i 2 hd rfl rfl rfl (by decide) hk rfl inT0 h kk
theorem gf_15_3 (G : GG p l s m args meth c D cys ad A cc own nL) {i : Int} {idx : Nat} (hd : decode cc pc = .ok (.getfield idx, 3)) (hk : Cond.fieldLink own idx "EbbTable$Axis" "shownCount" "I" ∈ TW) (h : vd 15 i) (kk : JJ p l e R s m args below meth c D cys ad A Q nL cells slots L g X Z (pc + 3) vs (.int (iI (Z 15 i 3)) :: st)) : JJ p l e R s m args below meth c D cys ad A Q nL cells slots L g X Z pc vs (.ref (ad 15 i) :: st) :=
  j_get G 15 i 3 hd rfl rfl rfl (by decide) hk rfl inT0 h kk
theorem pf_15_3 (G : GG p l s m args meth c D cys ad A cc own nL) {i a : Int} {idx : Nat} (hd : decode cc pc = .ok (.putfield idx, 3)) (hk : Cond.fieldLink own idx "EbbTable$Axis" "shownCount" "I" ∈ TW) (h : vd 15 i) (kk : JJ p l e R s m args below meth c D cys ad A Q nL cells slots L g X (zS Z 15 i 3 a) (pc + 3) vs st) : JJ p l e R s m args below meth c D cys ad A Q nL cells slots L g X Z pc vs (.int (iI a) :: .ref (ad 15 i) :: st) :=
  j_put G 15 i 3 .int hd rfl rfl rfl (by decide) (Nat.le_of_ble_eq_true rfl) hk rfl rfl inT0 tyX0_ok nmX0 (by decide +kernel) rfl rfl h kk
theorem gf_15_4 (G : GG p l s m args meth c D cys ad A cc own nL) {i : Int} {idx : Nat} (hd : decode cc pc = .ok (.getfield idx, 3)) (hk : Cond.fieldLink own idx "EbbTable$Axis" "dimension" "I" ∈ TW) (h : vd 15 i) (kk : JJ p l e R s m args below meth c D cys ad A Q nL cells slots L g X Z (pc + 3) vs (.int (iI (Z 15 i 4)) :: st)) : JJ p l e R s m args below meth c D cys ad A Q nL cells slots L g X Z pc vs (.ref (ad 15 i) :: st) :=
  j_get G 15 i 4 hd rfl rfl rfl (by decide) hk rfl inT0 h kk
theorem pf_15_4 (G : GG p l s m args meth c D cys ad A cc own nL) {i a : Int} {idx : Nat} (hd : decode cc pc = .ok (.putfield idx, 3)) (hk : Cond.fieldLink own idx "EbbTable$Axis" "dimension" "I" ∈ TW) (h : vd 15 i) (kk : JJ p l e R s m args below meth c D cys ad A Q nL cells slots L g X (zS Z 15 i 4 a) (pc + 3) vs st) : JJ p l e R s m args below meth c D cys ad A Q nL cells slots L g X Z pc vs (.int (iI a) :: .ref (ad 15 i) :: st) :=
  j_put G 15 i 4 .int hd rfl rfl rfl (by decide) (Nat.le_of_ble_eq_true rfl) hk rfl rfl inT0 tyX0_ok nmX0 (by decide +kernel) rfl rfl h kk
theorem gf_15_5 (G : GG p l s m args meth c D cys ad A cc own nL) {i : Int} {idx : Nat} (hd : decode cc pc = .ok (.getfield idx, 3)) (hk : Cond.fieldLink own idx "EbbTable$Axis" "level" "I" ∈ TW) (h : vd 15 i) (kk : JJ p l e R s m args below meth c D cys ad A Q nL cells slots L g X Z (pc + 3) vs (.int (iI (Z 15 i 5)) :: st)) : JJ p l e R s m args below meth c D cys ad A Q nL cells slots L g X Z pc vs (.ref (ad 15 i) :: st) :=
  j_get G 15 i 5 hd rfl rfl rfl (by decide) hk rfl inT0 h kk
theorem pf_15_5 (G : GG p l s m args meth c D cys ad A cc own nL) {i a : Int} {idx : Nat} (hd : decode cc pc = .ok (.putfield idx, 3)) (hk : Cond.fieldLink own idx "EbbTable$Axis" "level" "I" ∈ TW) (h : vd 15 i) (kk : JJ p l e R s m args below meth c D cys ad A Q nL cells slots L g X (zS Z 15 i 5 a) (pc + 3) vs st) : JJ p l e R s m args below meth c D cys ad A Q nL cells slots L g X Z pc vs (.int (iI a) :: .ref (ad 15 i) :: st) :=
  j_put G 15 i 5 .int hd rfl rfl rfl (by decide) (Nat.le_of_ble_eq_true rfl) hk rfl rfl inT0 tyX0_ok nmX0 (by decide +kernel) rfl rfl h kk
theorem gf_16_0 (G : GG p l s m args meth c D cys ad A cc own nL) {i : Int} {idx : Nat} (hd : decode cc pc = .ok (.getfield idx, 3)) (hk : Cond.fieldLink own idx "EbbTable$MemberList" "members" "[I" ∈ TW) (h : vd 16 i) (kk : JJ p l e R s m args below meth c D cys ad A Q nL cells slots L g X Z (pc + 3) vs (.ref (ad 17 i) :: st)) : JJ p l e R s m args below meth c D cys ad A Q nL cells slots L g X Z pc vs (.ref (ad 16 i) :: st) :=
  j_get G 16 i 0 hd rfl rfl rfl (by decide) hk rfl inT3 h kk
theorem gf_16_1 (G : GG p l s m args meth c D cys ad A cc own nL) {i : Int} {idx : Nat} (hd : decode cc pc = .ok (.getfield idx, 3)) (hk : Cond.fieldLink own idx "EbbTable$MemberList" "size" "I" ∈ TW) (h : vd 16 i) (kk : JJ p l e R s m args below meth c D cys ad A Q nL cells slots L g X Z (pc + 3) vs (.int (iI (Z 16 i 1)) :: st)) : JJ p l e R s m args below meth c D cys ad A Q nL cells slots L g X Z pc vs (.ref (ad 16 i) :: st) :=
  j_get G 16 i 1 hd rfl rfl rfl (by decide) hk rfl inT3 h kk
theorem pf_16_1 (G : GG p l s m args meth c D cys ad A cc own nL) {i a : Int} {idx : Nat} (hd : decode cc pc = .ok (.putfield idx, 3)) (hk : Cond.fieldLink own idx "EbbTable$MemberList" "size" "I" ∈ TW) (h : vd 16 i) (kk : JJ p l e R s m args below meth c D cys ad A Q nL cells slots L g X (zS Z 16 i 1 a) (pc + 3) vs st) : JJ p l e R s m args below meth c D cys ad A Q nL cells slots L g X Z pc vs (.int (iI a) :: .ref (ad 16 i) :: st) :=
  j_put G 16 i 1 .int hd rfl rfl rfl (by decide) (Nat.le_of_ble_eq_true rfl) hk rfl rfl inT3 tyX3_ok nmX3 (by decide +kernel) rfl rfl h kk
theorem gf_20_0 (G : GG p l s m args meth c D cys ad A cc own nL) {i : Int} {idx : Nat} (hd : decode cc pc = .ok (.getfield idx, 3)) (hk : Cond.fieldLink own idx "EbbTable$Lineup" "list" "LEbbTable$MemberList;" ∈ TW) (h : vd 20 i) (kk : JJ p l e R s m args below meth c D cys ad A Q nL cells slots L g X Z (pc + 3) vs (.ref (ad 16 3) :: st)) : JJ p l e R s m args below meth c D cys ad A Q nL cells slots L g X Z pc vs (.ref (ad 20 i) :: st) :=
  j_get G 20 i 0 hd rfl rfl rfl (by decide) hk rfl inT2 h kk
theorem gf_20_1 (G : GG p l s m args meth c D cys ad A cc own nL) {i : Int} {idx : Nat} (hd : decode cc pc = .ok (.getfield idx, 3)) (hk : Cond.fieldLink own idx "EbbTable$Lineup" "sums" "[I" ∈ TW) (h : vd 20 i) (kk : JJ p l e R s m args below meth c D cys ad A Q nL cells slots L g X Z (pc + 3) vs (.ref (ad 21 0) :: st)) : JJ p l e R s m args below meth c D cys ad A Q nL cells slots L g X Z pc vs (.ref (ad 20 i) :: st) :=
  j_get G 20 i 1 hd rfl rfl rfl (by decide) hk rfl inT2 h kk
theorem gf_24_0 (G : GG p l s m args meth c D cys ad A cc own nL) {i : Int} {idx : Nat} (hd : decode cc pc = .ok (.getfield idx, 3)) (hk : Cond.fieldLink own idx "EbbTableModel" "thrown" "I" ∈ TW) (h : vd 24 i) (kk : JJ p l e R s m args below meth c D cys ad A Q nL cells slots L g X Z (pc + 3) vs (.int (iI (Z 24 i 0)) :: st)) : JJ p l e R s m args below meth c D cys ad A Q nL cells slots L g X Z pc vs (.ref (ad 24 i) :: st) :=
  j_get G 24 i 0 hd rfl rfl rfl (by decide) hk rfl inT7 h kk
theorem pf_24_0 (G : GG p l s m args meth c D cys ad A cc own nL) {i a : Int} {idx : Nat} (hd : decode cc pc = .ok (.putfield idx, 3)) (hk : Cond.fieldLink own idx "EbbTableModel" "thrown" "I" ∈ TW) (h : vd 24 i) (kk : JJ p l e R s m args below meth c D cys ad A Q nL cells slots L g X (zS Z 24 i 0 a) (pc + 3) vs st) : JJ p l e R s m args below meth c D cys ad A Q nL cells slots L g X Z pc vs (.int (iI a) :: .ref (ad 24 i) :: st) :=
  j_put G 24 i 0 .int hd rfl rfl rfl (by decide) (Nat.le_of_ble_eq_true rfl) hk rfl rfl inT7 tyX7_ok nmX7 (by decide +kernel) rfl rfl h kk
theorem gf_24_1 (G : GG p l s m args meth c D cys ad A cc own nL) {i : Int} {idx : Nat} (hd : decode cc pc = .ok (.getfield idx, 3)) (hk : Cond.fieldLink own idx "EbbTableModel" "dimensions" "I" ∈ TW) (h : vd 24 i) (kk : JJ p l e R s m args below meth c D cys ad A Q nL cells slots L g X Z (pc + 3) vs (.int (iI (Z 24 i 1)) :: st)) : JJ p l e R s m args below meth c D cys ad A Q nL cells slots L g X Z pc vs (.ref (ad 24 i) :: st) :=
  j_get G 24 i 1 hd rfl rfl rfl (by decide) hk rfl inT7 h kk
theorem pf_24_1 (G : GG p l s m args meth c D cys ad A cc own nL) {i a : Int} {idx : Nat} (hd : decode cc pc = .ok (.putfield idx, 3)) (hk : Cond.fieldLink own idx "EbbTableModel" "dimensions" "I" ∈ TW) (h : vd 24 i) (kk : JJ p l e R s m args below meth c D cys ad A Q nL cells slots L g X (zS Z 24 i 1 a) (pc + 3) vs st) : JJ p l e R s m args below meth c D cys ad A Q nL cells slots L g X Z pc vs (.int (iI a) :: .ref (ad 24 i) :: st) :=
  j_put G 24 i 1 .int hd rfl rfl rfl (by decide) (Nat.le_of_ble_eq_true rfl) hk rfl rfl inT7 tyX7_ok nmX7 (by decide +kernel) rfl rfl h kk
theorem gf_24_2 (G : GG p l s m args meth c D cys ad A cc own nL) {i : Int} {idx : Nat} (hd : decode cc pc = .ok (.getfield idx, 3)) (hk : Cond.fieldLink own idx "EbbTableModel" "deepest" "[I" ∈ TW) (h : vd 24 i) (kk : JJ p l e R s m args below meth c D cys ad A Q nL cells slots L g X Z (pc + 3) vs (.ref (ad 25 0) :: st)) : JJ p l e R s m args below meth c D cys ad A Q nL cells slots L g X Z pc vs (.ref (ad 24 i) :: st) :=
  j_get G 24 i 2 hd rfl rfl rfl (by decide) hk rfl inT7 h kk
theorem gf_24_3 (G : GG p l s m args meth c D cys ad A cc own nL) {i : Int} {idx : Nat} (hd : decode cc pc = .ok (.getfield idx, 3)) (hk : Cond.fieldLink own idx "EbbTableModel" "members" "[I" ∈ TW) (h : vd 24 i) (kk : JJ p l e R s m args below meth c D cys ad A Q nL cells slots L g X Z (pc + 3) vs (.ref (ad 26 0) :: st)) : JJ p l e R s m args below meth c D cys ad A Q nL cells slots L g X Z pc vs (.ref (ad 24 i) :: st) :=
  j_get G 24 i 3 hd rfl rfl rfl (by decide) hk rfl inT7 h kk
theorem gf_24_4 (G : GG p l s m args meth c D cys ad A cc own nL) {i : Int} {idx : Nat} (hd : decode cc pc = .ok (.getfield idx, 3)) (hk : Cond.fieldLink own idx "EbbTableModel" "parent" "[[I" ∈ TW) (h : vd 24 i) (kk : JJ p l e R s m args below meth c D cys ad A Q nL cells slots L g X Z (pc + 3) vs (.ref (ad 27 0) :: st)) : JJ p l e R s m args below meth c D cys ad A Q nL cells slots L g X Z pc vs (.ref (ad 24 i) :: st) :=
  j_get G 24 i 4 hd rfl rfl rfl (by decide) hk rfl inT7 h kk
theorem gf_24_5 (G : GG p l s m args meth c D cys ad A cc own nL) {i : Int} {idx : Nat} (hd : decode cc pc = .ok (.getfield idx, 3)) (hk : Cond.fieldLink own idx "EbbTableModel" "isOut" "[[Z" ∈ TW) (h : vd 24 i) (kk : JJ p l e R s m args below meth c D cys ad A Q nL cells slots L g X Z (pc + 3) vs (.ref (ad 29 0) :: st)) : JJ p l e R s m args below meth c D cys ad A Q nL cells slots L g X Z pc vs (.ref (ad 24 i) :: st) :=
  j_get G 24 i 5 hd rfl rfl rfl (by decide) hk rfl inT7 h kk
theorem gf_24_6 (G : GG p l s m args meth c D cys ad A cc own nL) {i : Int} {idx : Nat} (hd : decode cc pc = .ok (.getfield idx, 3)) (hk : Cond.fieldLink own idx "EbbTableModel" "point" "[I" ∈ TW) (h : vd 24 i) (kk : JJ p l e R s m args below meth c D cys ad A Q nL cells slots L g X Z (pc + 3) vs (.ref (ad 31 0) :: st)) : JJ p l e R s m args below meth c D cys ad A Q nL cells slots L g X Z pc vs (.ref (ad 24 i) :: st) :=
  j_get G 24 i 6 hd rfl rfl rfl (by decide) hk rfl inT7 h kk
theorem gf_24_7 (G : GG p l s m args meth c D cys ad A cc own nL) {i : Int} {idx : Nat} (hd : decode cc pc = .ok (.getfield idx, 3)) (hk : Cond.fieldLink own idx "EbbTableModel" "level" "[I" ∈ TW) (h : vd 24 i) (kk : JJ p l e R s m args below meth c D cys ad A Q nL cells slots L g X Z (pc + 3) vs (.ref (ad 32 0) :: st)) : JJ p l e R s m args below meth c D cys ad A Q nL cells slots L g X Z pc vs (.ref (ad 24 i) :: st) :=
  j_get G 24 i 7 hd rfl rfl rfl (by decide) hk rfl inT7 h kk
theorem gf_24_8 (G : GG p l s m args meth c D cys ad A cc own nL) {i : Int} {idx : Nat} (hd : decode cc pc = .ok (.getfield idx, 3)) (hk : Cond.fieldLink own idx "EbbTableModel" "facts" "I" ∈ TW) (h : vd 24 i) (kk : JJ p l e R s m args below meth c D cys ad A Q nL cells slots L g X Z (pc + 3) vs (.int (iI (Z 24 i 8)) :: st)) : JJ p l e R s m args below meth c D cys ad A Q nL cells slots L g X Z pc vs (.ref (ad 24 i) :: st) :=
  j_get G 24 i 8 hd rfl rfl rfl (by decide) hk rfl inT7 h kk
theorem pf_24_8 (G : GG p l s m args meth c D cys ad A cc own nL) {i a : Int} {idx : Nat} (hd : decode cc pc = .ok (.putfield idx, 3)) (hk : Cond.fieldLink own idx "EbbTableModel" "facts" "I" ∈ TW) (h : vd 24 i) (kk : JJ p l e R s m args below meth c D cys ad A Q nL cells slots L g X (zS Z 24 i 8 a) (pc + 3) vs st) : JJ p l e R s m args below meth c D cys ad A Q nL cells slots L g X Z pc vs (.int (iI a) :: .ref (ad 24 i) :: st) :=
  j_put G 24 i 8 .int hd rfl rfl rfl (by decide) (Nat.le_of_ble_eq_true rfl) hk rfl rfl inT7 tyX7_ok nmX7 (by decide +kernel) rfl rfl h kk
theorem gf_24_9 (G : GG p l s m args meth c D cys ad A cc own nL) {i : Int} {idx : Nat} (hd : decode cc pc = .ok (.getfield idx, 3)) (hk : Cond.fieldLink own idx "EbbTableModel" "leaf" "[[I" ∈ TW) (h : vd 24 i) (kk : JJ p l e R s m args below meth c D cys ad A Q nL cells slots L g X Z (pc + 3) vs (.ref (ad 33 0) :: st)) : JJ p l e R s m args below meth c D cys ad A Q nL cells slots L g X Z pc vs (.ref (ad 24 i) :: st) :=
  j_get G 24 i 9 hd rfl rfl rfl (by decide) hk rfl inT7 h kk
theorem gf_24_10 (G : GG p l s m args meth c D cys ad A cc own nL) {i : Int} {idx : Nat} (hd : decode cc pc = .ok (.getfield idx, 3)) (hk : Cond.fieldLink own idx "EbbTableModel" "value" "[I" ∈ TW) (h : vd 24 i) (kk : JJ p l e R s m args below meth c D cys ad A Q nL cells slots L g X Z (pc + 3) vs (.ref (ad 34 0) :: st)) : JJ p l e R s m args below meth c D cys ad A Q nL cells slots L g X Z pc vs (.ref (ad 24 i) :: st) :=
  j_get G 24 i 10 hd rfl rfl rfl (by decide) hk rfl inT7 h kk
theorem gf_24_11 (G : GG p l s m args meth c D cys ad A cc own nL) {i : Int} {idx : Nat} (hd : decode cc pc = .ok (.getfield idx, 3)) (hk : Cond.fieldLink own idx "EbbTableModel" "hasAxes" "Z" ∈ TW) (h : vd 24 i) (kk : JJ p l e R s m args below meth c D cys ad A Q nL cells slots L g X Z (pc + 3) vs (.int (iI (Z 24 i 11)) :: st)) : JJ p l e R s m args below meth c D cys ad A Q nL cells slots L g X Z pc vs (.ref (ad 24 i) :: st) :=
  j_get G 24 i 11 hd rfl rfl rfl (by decide) hk rfl inT7 h kk
theorem pf_24_11 (G : GG p l s m args meth c D cys ad A cc own nL) {i a : Int} {idx : Nat} (hd : decode cc pc = .ok (.putfield idx, 3)) (hk : Cond.fieldLink own idx "EbbTableModel" "hasAxes" "Z" ∈ TW) (h : vd 24 i) (ha : a = 0 ∨ a = 1) (kk : JJ p l e R s m args below meth c D cys ad A Q nL cells slots L g X (zS Z 24 i 11 a) (pc + 3) vs st) : JJ p l e R s m args below meth c D cys ad A Q nL cells slots L g X Z pc vs (.int (iI a) :: .ref (ad 24 i) :: st) :=
  j_put G 24 i 11 .boolean hd rfl rfl rfl (by decide) (Nat.le_of_ble_eq_true rfl) hk rfl rfl inT7 tyX7_ok nmX7 (by decide +kernel) (by rcases ha with rfl | rfl <;> decide +kernel) (by rcases ha with rfl | rfl <;> decide +kernel) h kk
theorem gf_24_12 (G : GG p l s m args meth c D cys ad A cc own nL) {i : Int} {idx : Nat} (hd : decode cc pc = .ok (.getfield idx, 3)) (hk : Cond.fieldLink own idx "EbbTableModel" "axis" "[I" ∈ TW) (h : vd 24 i) (kk : JJ p l e R s m args below meth c D cys ad A Q nL cells slots L g X Z (pc + 3) vs (.ref (ad 35 0) :: st)) : JJ p l e R s m args below meth c D cys ad A Q nL cells slots L g X Z pc vs (.ref (ad 24 i) :: st) :=
  j_get G 24 i 12 hd rfl rfl rfl (by decide) hk rfl inT7 h kk
theorem gf_24_13 (G : GG p l s m args meth c D cys ad A cc own nL) {i : Int} {idx : Nat} (hd : decode cc pc = .ok (.getfield idx, 3)) (hk : Cond.fieldLink own idx "EbbTableModel" "isBare" "Z" ∈ TW) (h : vd 24 i) (kk : JJ p l e R s m args below meth c D cys ad A Q nL cells slots L g X Z (pc + 3) vs (.int (iI (Z 24 i 13)) :: st)) : JJ p l e R s m args below meth c D cys ad A Q nL cells slots L g X Z pc vs (.ref (ad 24 i) :: st) :=
  j_get G 24 i 13 hd rfl rfl rfl (by decide) hk rfl inT7 h kk
theorem pf_24_13 (G : GG p l s m args meth c D cys ad A cc own nL) {i a : Int} {idx : Nat} (hd : decode cc pc = .ok (.putfield idx, 3)) (hk : Cond.fieldLink own idx "EbbTableModel" "isBare" "Z" ∈ TW) (h : vd 24 i) (ha : a = 0 ∨ a = 1) (kk : JJ p l e R s m args below meth c D cys ad A Q nL cells slots L g X (zS Z 24 i 13 a) (pc + 3) vs st) : JJ p l e R s m args below meth c D cys ad A Q nL cells slots L g X Z pc vs (.int (iI a) :: .ref (ad 24 i) :: st) :=
  j_put G 24 i 13 .boolean hd rfl rfl rfl (by decide) (Nat.le_of_ble_eq_true rfl) hk rfl rfl inT7 tyX7_ok nmX7 (by decide +kernel) (by rcases ha with rfl | rfl <;> decide +kernel) (by rcases ha with rfl | rfl <;> decide +kernel) h kk
theorem gf_24_14 (G : GG p l s m args meth c D cys ad A cc own nL) {i : Int} {idx : Nat} (hd : decode cc pc = .ok (.getfield idx, 3)) (hk : Cond.fieldLink own idx "EbbTableModel" "views" "I" ∈ TW) (h : vd 24 i) (kk : JJ p l e R s m args below meth c D cys ad A Q nL cells slots L g X Z (pc + 3) vs (.int (iI (Z 24 i 14)) :: st)) : JJ p l e R s m args below meth c D cys ad A Q nL cells slots L g X Z pc vs (.ref (ad 24 i) :: st) :=
  j_get G 24 i 14 hd rfl rfl rfl (by decide) hk rfl inT7 h kk
theorem pf_24_14 (G : GG p l s m args meth c D cys ad A cc own nL) {i a : Int} {idx : Nat} (hd : decode cc pc = .ok (.putfield idx, 3)) (hk : Cond.fieldLink own idx "EbbTableModel" "views" "I" ∈ TW) (h : vd 24 i) (kk : JJ p l e R s m args below meth c D cys ad A Q nL cells slots L g X (zS Z 24 i 14 a) (pc + 3) vs st) : JJ p l e R s m args below meth c D cys ad A Q nL cells slots L g X Z pc vs (.int (iI a) :: .ref (ad 24 i) :: st) :=
  j_put G 24 i 14 .int hd rfl rfl rfl (by decide) (Nat.le_of_ble_eq_true rfl) hk rfl rfl inT7 tyX7_ok nmX7 (by decide +kernel) rfl rfl h kk
theorem gf_24_15 (G : GG p l s m args meth c D cys ad A cc own nL) {i : Int} {idx : Nat} (hd : decode cc pc = .ok (.getfield idx, 3)) (hk : Cond.fieldLink own idx "EbbTableModel" "viewLevels" "[I" ∈ TW) (h : vd 24 i) (kk : JJ p l e R s m args below meth c D cys ad A Q nL cells slots L g X Z (pc + 3) vs (.ref (ad 36 0) :: st)) : JJ p l e R s m args below meth c D cys ad A Q nL cells slots L g X Z pc vs (.ref (ad 24 i) :: st) :=
  j_get G 24 i 15 hd rfl rfl rfl (by decide) hk rfl inT7 h kk
theorem gf_24_16 (G : GG p l s m args meth c D cys ad A cc own nL) {i : Int} {idx : Nat} (hd : decode cc pc = .ok (.getfield idx, 3)) (hk : Cond.fieldLink own idx "EbbTableModel" "viewRows" "[I" ∈ TW) (h : vd 24 i) (kk : JJ p l e R s m args below meth c D cys ad A Q nL cells slots L g X Z (pc + 3) vs (.ref (ad 37 0) :: st)) : JJ p l e R s m args below meth c D cys ad A Q nL cells slots L g X Z pc vs (.ref (ad 24 i) :: st) :=
  j_get G 24 i 16 hd rfl rfl rfl (by decide) hk rfl inT7 h kk
theorem gf_24_17 (G : GG p l s m args meth c D cys ad A cc own nL) {i : Int} {idx : Nat} (hd : decode cc pc = .ok (.getfield idx, 3)) (hk : Cond.fieldLink own idx "EbbTableModel" "isStale" "[Z" ∈ TW) (h : vd 24 i) (kk : JJ p l e R s m args below meth c D cys ad A Q nL cells slots L g X Z (pc + 3) vs (.ref (ad 38 0) :: st)) : JJ p l e R s m args below meth c D cys ad A Q nL cells slots L g X Z pc vs (.ref (ad 24 i) :: st) :=
  j_get G 24 i 17 hd rfl rfl rfl (by decide) hk rfl inT7 h kk
theorem gf_24_18 (G : GG p l s m args meth c D cys ad A cc own nL) {i : Int} {idx : Nat} (hd : decode cc pc = .ok (.getfield idx, 3)) (hk : Cond.fieldLink own idx "EbbTableModel" "checksum" "J" ∈ TW) (h : vd 24 i) (kk : JJ p l e R s m args below meth c D cys ad A Q nL cells slots L g X Z (pc + 3) vs (.long X :: st)) : JJ p l e R s m args below meth c D cys ad A Q nL cells slots L g X Z pc vs (.ref (ad 24 i) :: st) :=
  j_get G 24 i 18 hd rfl rfl rfl (by decide) hk rfl inT7 h kk
theorem al_3 (G : GG p l s m args meth c D cys ad A cc own nL) {i j : Int} (hd : decode cc pc = .ok (.iaload, 1)) (h : vd 3 i) (h0 : 0 ≤ j) (h1 : j < 24) (kk : JJ p l e R s m args below meth c D cys ad A Q nL cells slots L g X Z (pc + 1) vs (.int (iI (Z 3 i j)) :: st)) : JJ p l e R s m args below meth c D cys ad A Q nL cells slots L g X Z pc vs (.int (iI j) :: .ref (ad 3 i) :: st) :=
  j_iald G 3 i hd (fun _ => rfl) (by decide) h h0 h1 kk
theorem as_3 (G : GG p l s m args meth c D cys ad A cc own nL) {i j a : Int} (hd : decode cc pc = .ok (.iastore, 1)) (h : vd 3 i) (h0 : 0 ≤ j) (h1 : j < 24) (kk : JJ p l e R s m args below meth c D cys ad A Q nL cells slots L g X (zS Z 3 i j a) (pc + 1) vs st) : JJ p l e R s m args below meth c D cys ad A Q nL cells slots L g X Z pc vs (.int (iI a) :: .int (iI j) :: .ref (ad 3 i) :: st) :=
  j_iast G 3 i hd (fun _ => rfl) (by decide) h h0 h1 kk
theorem al_4 (G : GG p l s m args meth c D cys ad A cc own nL) {i j : Int} (hd : decode cc pc = .ok (.iaload, 1)) (h : vd 4 i) (h0 : 0 ≤ j) (h1 : j < 24) (kk : JJ p l e R s m args below meth c D cys ad A Q nL cells slots L g X Z (pc + 1) vs (.int (iI (Z 4 i j)) :: st)) : JJ p l e R s m args below meth c D cys ad A Q nL cells slots L g X Z pc vs (.int (iI j) :: .ref (ad 4 i) :: st) :=
  j_iald G 4 i hd (fun _ => rfl) (by decide) h h0 h1 kk
theorem as_4 (G : GG p l s m args meth c D cys ad A cc own nL) {i j a : Int} (hd : decode cc pc = .ok (.iastore, 1)) (h : vd 4 i) (h0 : 0 ≤ j) (h1 : j < 24) (kk : JJ p l e R s m args below meth c D cys ad A Q nL cells slots L g X (zS Z 4 i j a) (pc + 1) vs st) : JJ p l e R s m args below meth c D cys ad A Q nL cells slots L g X Z pc vs (.int (iI a) :: .int (iI j) :: .ref (ad 4 i) :: st) :=
  j_iast G 4 i hd (fun _ => rfl) (by decide) h h0 h1 kk
theorem al_5 (G : GG p l s m args meth c D cys ad A cc own nL) {i j : Int} (hd : decode cc pc = .ok (.baload, 1)) (h : vd 5 i) (h0 : 0 ≤ j) (h1 : j < 24) (kk : JJ p l e R s m args below meth c D cys ad A Q nL cells slots L g X Z (pc + 1) vs (.int (iI (Z 5 i j)) :: st)) : JJ p l e R s m args below meth c D cys ad A Q nL cells slots L g X Z pc vs (.int (iI j) :: .ref (ad 5 i) :: st) :=
  j_zald G 5 i hd (fun _ => rfl) (by decide) h h0 h1 kk
theorem as_5 (G : GG p l s m args meth c D cys ad A cc own nL) {i j a : Int} (hd : decode cc pc = .ok (.bastore, 1)) (h : vd 5 i) (h0 : 0 ≤ j) (h1 : j < 24) (ha : a = 0 ∨ a = 1) (kk : JJ p l e R s m args below meth c D cys ad A Q nL cells slots L g X (zS Z 5 i j a) (pc + 1) vs st) : JJ p l e R s m args below meth c D cys ad A Q nL cells slots L g X Z pc vs (.int (iI a) :: .int (iI j) :: .ref (ad 5 i) :: st) :=
  j_zast G 5 i hd (fun _ => rfl) (by decide) h h0 h1 ha kk
theorem al_8 (G : GG p l s m args meth c D cys ad A cc own nL) {i j : Int} (hd : decode cc pc = .ok (.iaload, 1)) (h : vd 8 i) (h0 : 0 ≤ j) (h1 : j < 80) (kk : JJ p l e R s m args below meth c D cys ad A Q nL cells slots L g X Z (pc + 1) vs (.int (iI (Z 8 i j)) :: st)) : JJ p l e R s m args below meth c D cys ad A Q nL cells slots L g X Z pc vs (.int (iI j) :: .ref (ad 8 i) :: st) :=
  j_iald G 8 i hd (fun _ => rfl) (by decide) h h0 h1 kk
theorem as_8 (G : GG p l s m args meth c D cys ad A cc own nL) {i j a : Int} (hd : decode cc pc = .ok (.iastore, 1)) (h : vd 8 i) (h0 : 0 ≤ j) (h1 : j < 80) (kk : JJ p l e R s m args below meth c D cys ad A Q nL cells slots L g X (zS Z 8 i j a) (pc + 1) vs st) : JJ p l e R s m args below meth c D cys ad A Q nL cells slots L g X Z pc vs (.int (iI a) :: .int (iI j) :: .ref (ad 8 i) :: st) :=
  j_iast G 8 i hd (fun _ => rfl) (by decide) h h0 h1 kk
theorem al_9 (G : GG p l s m args meth c D cys ad A cc own nL) {i j : Int} (hd : decode cc pc = .ok (.iaload, 1)) (h : vd 9 i) (h0 : 0 ≤ j) (h1 : j < 80) (kk : JJ p l e R s m args below meth c D cys ad A Q nL cells slots L g X Z (pc + 1) vs (.int (iI (Z 9 i j)) :: st)) : JJ p l e R s m args below meth c D cys ad A Q nL cells slots L g X Z pc vs (.int (iI j) :: .ref (ad 9 i) :: st) :=
  j_iald G 9 i hd (fun _ => rfl) (by decide) h h0 h1 kk
theorem as_9 (G : GG p l s m args meth c D cys ad A cc own nL) {i j a : Int} (hd : decode cc pc = .ok (.iastore, 1)) (h : vd 9 i) (h0 : 0 ≤ j) (h1 : j < 80) (kk : JJ p l e R s m args below meth c D cys ad A Q nL cells slots L g X (zS Z 9 i j a) (pc + 1) vs st) : JJ p l e R s m args below meth c D cys ad A Q nL cells slots L g X Z pc vs (.int (iI a) :: .int (iI j) :: .ref (ad 9 i) :: st) :=
  j_iast G 9 i hd (fun _ => rfl) (by decide) h h0 h1 kk
theorem al_10 (G : GG p l s m args meth c D cys ad A cc own nL) {i j : Int} (hd : decode cc pc = .ok (.iaload, 1)) (h : vd 10 i) (h0 : 0 ≤ j) (h1 : j < 80) (kk : JJ p l e R s m args below meth c D cys ad A Q nL cells slots L g X Z (pc + 1) vs (.int (iI (Z 10 i j)) :: st)) : JJ p l e R s m args below meth c D cys ad A Q nL cells slots L g X Z pc vs (.int (iI j) :: .ref (ad 10 i) :: st) :=
  j_iald G 10 i hd (fun _ => rfl) (by decide) h h0 h1 kk
theorem as_10 (G : GG p l s m args meth c D cys ad A cc own nL) {i j a : Int} (hd : decode cc pc = .ok (.iastore, 1)) (h : vd 10 i) (h0 : 0 ≤ j) (h1 : j < 80) (kk : JJ p l e R s m args below meth c D cys ad A Q nL cells slots L g X (zS Z 10 i j a) (pc + 1) vs st) : JJ p l e R s m args below meth c D cys ad A Q nL cells slots L g X Z pc vs (.int (iI a) :: .int (iI j) :: .ref (ad 10 i) :: st) :=
  j_iast G 10 i hd (fun _ => rfl) (by decide) h h0 h1 kk
theorem al_12 (G : GG p l s m args meth c D cys ad A cc own nL) {i j : Int} (hd : decode cc pc = .ok (.iaload, 1)) (h : vd 12 i) (h0 : 0 ≤ j) (h1 : j < 6) (kk : JJ p l e R s m args below meth c D cys ad A Q nL cells slots L g X Z (pc + 1) vs (.int (iI (Z 12 i j)) :: st)) : JJ p l e R s m args below meth c D cys ad A Q nL cells slots L g X Z pc vs (.int (iI j) :: .ref (ad 12 i) :: st) :=
  j_iald G 12 i hd (fun _ => rfl) (by decide) h h0 h1 kk
theorem as_12 (G : GG p l s m args meth c D cys ad A cc own nL) {i j a : Int} (hd : decode cc pc = .ok (.iastore, 1)) (h : vd 12 i) (h0 : 0 ≤ j) (h1 : j < 6) (kk : JJ p l e R s m args below meth c D cys ad A Q nL cells slots L g X (zS Z 12 i j a) (pc + 1) vs st) : JJ p l e R s m args below meth c D cys ad A Q nL cells slots L g X Z pc vs (.int (iI a) :: .int (iI j) :: .ref (ad 12 i) :: st) :=
  j_iast G 12 i hd (fun _ => rfl) (by decide) h h0 h1 kk
theorem al_13 (G : GG p l s m args meth c D cys ad A cc own nL) {i j : Int} (hd : decode cc pc = .ok (.iaload, 1)) (h : vd 13 i) (h0 : 0 ≤ j) (h1 : j < 6) (kk : JJ p l e R s m args below meth c D cys ad A Q nL cells slots L g X Z (pc + 1) vs (.int (iI (Z 13 i j)) :: st)) : JJ p l e R s m args below meth c D cys ad A Q nL cells slots L g X Z pc vs (.int (iI j) :: .ref (ad 13 i) :: st) :=
  j_iald G 13 i hd (fun _ => rfl) (by decide) h h0 h1 kk
theorem as_13 (G : GG p l s m args meth c D cys ad A cc own nL) {i j a : Int} (hd : decode cc pc = .ok (.iastore, 1)) (h : vd 13 i) (h0 : 0 ≤ j) (h1 : j < 6) (kk : JJ p l e R s m args below meth c D cys ad A Q nL cells slots L g X (zS Z 13 i j a) (pc + 1) vs st) : JJ p l e R s m args below meth c D cys ad A Q nL cells slots L g X Z pc vs (.int (iI a) :: .int (iI j) :: .ref (ad 13 i) :: st) :=
  j_iast G 13 i hd (fun _ => rfl) (by decide) h h0 h1 kk
theorem al_14 (G : GG p l s m args meth c D cys ad A cc own nL) {i j : Int} (hd : decode cc pc = .ok (.baload, 1)) (h : vd 14 i) (h0 : 0 ≤ j) (h1 : j < 6) (kk : JJ p l e R s m args below meth c D cys ad A Q nL cells slots L g X Z (pc + 1) vs (.int (iI (Z 14 i j)) :: st)) : JJ p l e R s m args below meth c D cys ad A Q nL cells slots L g X Z pc vs (.int (iI j) :: .ref (ad 14 i) :: st) :=
  j_zald G 14 i hd (fun _ => rfl) (by decide) h h0 h1 kk
theorem as_14 (G : GG p l s m args meth c D cys ad A cc own nL) {i j a : Int} (hd : decode cc pc = .ok (.bastore, 1)) (h : vd 14 i) (h0 : 0 ≤ j) (h1 : j < 6) (ha : a = 0 ∨ a = 1) (kk : JJ p l e R s m args below meth c D cys ad A Q nL cells slots L g X (zS Z 14 i j a) (pc + 1) vs st) : JJ p l e R s m args below meth c D cys ad A Q nL cells slots L g X Z pc vs (.int (iI a) :: .int (iI j) :: .ref (ad 14 i) :: st) :=
  j_zast G 14 i hd (fun _ => rfl) (by decide) h h0 h1 ha kk
theorem al_17 (G : GG p l s m args meth c D cys ad A cc own nL) {i j : Int} (hd : decode cc pc = .ok (.iaload, 1)) (h : vd 17 i) (h0 : 0 ≤ j) (h1 : j < 24) (kk : JJ p l e R s m args below meth c D cys ad A Q nL cells slots L g X Z (pc + 1) vs (.int (iI (Z 17 i j)) :: st)) : JJ p l e R s m args below meth c D cys ad A Q nL cells slots L g X Z pc vs (.int (iI j) :: .ref (ad 17 i) :: st) :=
  j_iald G 17 i hd (fun _ => rfl) (by decide) h h0 h1 kk
theorem as_17 (G : GG p l s m args meth c D cys ad A cc own nL) {i j a : Int} (hd : decode cc pc = .ok (.iastore, 1)) (h : vd 17 i) (h0 : 0 ≤ j) (h1 : j < 24) (kk : JJ p l e R s m args below meth c D cys ad A Q nL cells slots L g X (zS Z 17 i j a) (pc + 1) vs st) : JJ p l e R s m args below meth c D cys ad A Q nL cells slots L g X Z pc vs (.int (iI a) :: .int (iI j) :: .ref (ad 17 i) :: st) :=
  j_iast G 17 i hd (fun _ => rfl) (by decide) h h0 h1 kk
theorem al_18 (G : GG p l s m args meth c D cys ad A cc own nL) {i j : Int} (hd : decode cc pc = .ok (.baload, 1)) (h : vd 18 i) (h0 : 0 ≤ j) (h1 : j < 24) (kk : JJ p l e R s m args below meth c D cys ad A Q nL cells slots L g X Z (pc + 1) vs (.int (iI (Z 18 i j)) :: st)) : JJ p l e R s m args below meth c D cys ad A Q nL cells slots L g X Z pc vs (.int (iI j) :: .ref (ad 18 i) :: st) :=
  j_zald G 18 i hd (fun _ => rfl) (by decide) h h0 h1 kk
theorem as_18 (G : GG p l s m args meth c D cys ad A cc own nL) {i j a : Int} (hd : decode cc pc = .ok (.bastore, 1)) (h : vd 18 i) (h0 : 0 ≤ j) (h1 : j < 24) (ha : a = 0 ∨ a = 1) (kk : JJ p l e R s m args below meth c D cys ad A Q nL cells slots L g X (zS Z 18 i j a) (pc + 1) vs st) : JJ p l e R s m args below meth c D cys ad A Q nL cells slots L g X Z pc vs (.int (iI a) :: .int (iI j) :: .ref (ad 18 i) :: st) :=
  j_zast G 18 i hd (fun _ => rfl) (by decide) h h0 h1 ha kk
theorem al_19 (G : GG p l s m args meth c D cys ad A cc own nL) {i j : Int} (hd : decode cc pc = .ok (.iaload, 1)) (h : vd 19 i) (h0 : 0 ≤ j) (h1 : j < 24) (kk : JJ p l e R s m args below meth c D cys ad A Q nL cells slots L g X Z (pc + 1) vs (.int (iI (Z 19 i j)) :: st)) : JJ p l e R s m args below meth c D cys ad A Q nL cells slots L g X Z pc vs (.int (iI j) :: .ref (ad 19 i) :: st) :=
  j_iald G 19 i hd (fun _ => rfl) (by decide) h h0 h1 kk
theorem as_19 (G : GG p l s m args meth c D cys ad A cc own nL) {i j a : Int} (hd : decode cc pc = .ok (.iastore, 1)) (h : vd 19 i) (h0 : 0 ≤ j) (h1 : j < 24) (kk : JJ p l e R s m args below meth c D cys ad A Q nL cells slots L g X (zS Z 19 i j a) (pc + 1) vs st) : JJ p l e R s m args below meth c D cys ad A Q nL cells slots L g X Z pc vs (.int (iI a) :: .int (iI j) :: .ref (ad 19 i) :: st) :=
  j_iast G 19 i hd (fun _ => rfl) (by decide) h h0 h1 kk
theorem al_21 (G : GG p l s m args meth c D cys ad A cc own nL) {i j : Int} (hd : decode cc pc = .ok (.iaload, 1)) (h : vd 21 i) (h0 : 0 ≤ j) (h1 : j < 24) (kk : JJ p l e R s m args below meth c D cys ad A Q nL cells slots L g X Z (pc + 1) vs (.int (iI (Z 21 i j)) :: st)) : JJ p l e R s m args below meth c D cys ad A Q nL cells slots L g X Z pc vs (.int (iI j) :: .ref (ad 21 i) :: st) :=
  j_iald G 21 i hd (fun _ => rfl) (by decide) h h0 h1 kk
theorem as_21 (G : GG p l s m args meth c D cys ad A cc own nL) {i j a : Int} (hd : decode cc pc = .ok (.iastore, 1)) (h : vd 21 i) (h0 : 0 ≤ j) (h1 : j < 24) (kk : JJ p l e R s m args below meth c D cys ad A Q nL cells slots L g X (zS Z 21 i j a) (pc + 1) vs st) : JJ p l e R s m args below meth c D cys ad A Q nL cells slots L g X Z pc vs (.int (iI a) :: .int (iI j) :: .ref (ad 21 i) :: st) :=
  j_iast G 21 i hd (fun _ => rfl) (by decide) h h0 h1 kk
theorem al_23 (G : GG p l s m args meth c D cys ad A cc own nL) {i j : Int} (hd : decode cc pc = .ok (.iaload, 1)) (h : vd 23 i) (h0 : 0 ≤ j) (h1 : j < 24) (kk : JJ p l e R s m args below meth c D cys ad A Q nL cells slots L g X Z (pc + 1) vs (.int (iI (Z 23 i j)) :: st)) : JJ p l e R s m args below meth c D cys ad A Q nL cells slots L g X Z pc vs (.int (iI j) :: .ref (ad 23 i) :: st) :=
  j_iald G 23 i hd (fun _ => rfl) (by decide) h h0 h1 kk
theorem as_23 (G : GG p l s m args meth c D cys ad A cc own nL) {i j a : Int} (hd : decode cc pc = .ok (.iastore, 1)) (h : vd 23 i) (h0 : 0 ≤ j) (h1 : j < 24) (kk : JJ p l e R s m args below meth c D cys ad A Q nL cells slots L g X (zS Z 23 i j a) (pc + 1) vs st) : JJ p l e R s m args below meth c D cys ad A Q nL cells slots L g X Z pc vs (.int (iI a) :: .int (iI j) :: .ref (ad 23 i) :: st) :=
  j_iast G 23 i hd (fun _ => rfl) (by decide) h h0 h1 kk
theorem al_25 (G : GG p l s m args meth c D cys ad A cc own nL) {i j : Int} (hd : decode cc pc = .ok (.iaload, 1)) (h : vd 25 i) (h0 : 0 ≤ j) (h1 : j < 4) (kk : JJ p l e R s m args below meth c D cys ad A Q nL cells slots L g X Z (pc + 1) vs (.int (iI (Z 25 i j)) :: st)) : JJ p l e R s m args below meth c D cys ad A Q nL cells slots L g X Z pc vs (.int (iI j) :: .ref (ad 25 i) :: st) :=
  j_iald G 25 i hd (fun _ => rfl) (by decide) h h0 h1 kk
theorem as_25 (G : GG p l s m args meth c D cys ad A cc own nL) {i j a : Int} (hd : decode cc pc = .ok (.iastore, 1)) (h : vd 25 i) (h0 : 0 ≤ j) (h1 : j < 4) (kk : JJ p l e R s m args below meth c D cys ad A Q nL cells slots L g X (zS Z 25 i j a) (pc + 1) vs st) : JJ p l e R s m args below meth c D cys ad A Q nL cells slots L g X Z pc vs (.int (iI a) :: .int (iI j) :: .ref (ad 25 i) :: st) :=
  j_iast G 25 i hd (fun _ => rfl) (by decide) h h0 h1 kk
theorem al_26 (G : GG p l s m args meth c D cys ad A cc own nL) {i j : Int} (hd : decode cc pc = .ok (.iaload, 1)) (h : vd 26 i) (h0 : 0 ≤ j) (h1 : j < 4) (kk : JJ p l e R s m args below meth c D cys ad A Q nL cells slots L g X Z (pc + 1) vs (.int (iI (Z 26 i j)) :: st)) : JJ p l e R s m args below meth c D cys ad A Q nL cells slots L g X Z pc vs (.int (iI j) :: .ref (ad 26 i) :: st) :=
  j_iald G 26 i hd (fun _ => rfl) (by decide) h h0 h1 kk
theorem as_26 (G : GG p l s m args meth c D cys ad A cc own nL) {i j a : Int} (hd : decode cc pc = .ok (.iastore, 1)) (h : vd 26 i) (h0 : 0 ≤ j) (h1 : j < 4) (kk : JJ p l e R s m args below meth c D cys ad A Q nL cells slots L g X (zS Z 26 i j a) (pc + 1) vs st) : JJ p l e R s m args below meth c D cys ad A Q nL cells slots L g X Z pc vs (.int (iI a) :: .int (iI j) :: .ref (ad 26 i) :: st) :=
  j_iast G 26 i hd (fun _ => rfl) (by decide) h h0 h1 kk
theorem al_28 (G : GG p l s m args meth c D cys ad A cc own nL) {i j : Int} (hd : decode cc pc = .ok (.iaload, 1)) (h : vd 28 i) (h0 : 0 ≤ j) (h1 : j < 24) (kk : JJ p l e R s m args below meth c D cys ad A Q nL cells slots L g X Z (pc + 1) vs (.int (iI (Z 28 i j)) :: st)) : JJ p l e R s m args below meth c D cys ad A Q nL cells slots L g X Z pc vs (.int (iI j) :: .ref (ad 28 i) :: st) :=
  j_iald G 28 i hd (fun _ => rfl) (by decide) h h0 h1 kk
theorem as_28 (G : GG p l s m args meth c D cys ad A cc own nL) {i j a : Int} (hd : decode cc pc = .ok (.iastore, 1)) (h : vd 28 i) (h0 : 0 ≤ j) (h1 : j < 24) (kk : JJ p l e R s m args below meth c D cys ad A Q nL cells slots L g X (zS Z 28 i j a) (pc + 1) vs st) : JJ p l e R s m args below meth c D cys ad A Q nL cells slots L g X Z pc vs (.int (iI a) :: .int (iI j) :: .ref (ad 28 i) :: st) :=
  j_iast G 28 i hd (fun _ => rfl) (by decide) h h0 h1 kk
theorem al_30 (G : GG p l s m args meth c D cys ad A cc own nL) {i j : Int} (hd : decode cc pc = .ok (.baload, 1)) (h : vd 30 i) (h0 : 0 ≤ j) (h1 : j < 24) (kk : JJ p l e R s m args below meth c D cys ad A Q nL cells slots L g X Z (pc + 1) vs (.int (iI (Z 30 i j)) :: st)) : JJ p l e R s m args below meth c D cys ad A Q nL cells slots L g X Z pc vs (.int (iI j) :: .ref (ad 30 i) :: st) :=
  j_zald G 30 i hd (fun _ => rfl) (by decide) h h0 h1 kk
theorem as_30 (G : GG p l s m args meth c D cys ad A cc own nL) {i j a : Int} (hd : decode cc pc = .ok (.bastore, 1)) (h : vd 30 i) (h0 : 0 ≤ j) (h1 : j < 24) (ha : a = 0 ∨ a = 1) (kk : JJ p l e R s m args below meth c D cys ad A Q nL cells slots L g X (zS Z 30 i j a) (pc + 1) vs st) : JJ p l e R s m args below meth c D cys ad A Q nL cells slots L g X Z pc vs (.int (iI a) :: .int (iI j) :: .ref (ad 30 i) :: st) :=
  j_zast G 30 i hd (fun _ => rfl) (by decide) h h0 h1 ha kk
theorem al_31 (G : GG p l s m args meth c D cys ad A cc own nL) {i j : Int} (hd : decode cc pc = .ok (.iaload, 1)) (h : vd 31 i) (h0 : 0 ≤ j) (h1 : j < 4) (kk : JJ p l e R s m args below meth c D cys ad A Q nL cells slots L g X Z (pc + 1) vs (.int (iI (Z 31 i j)) :: st)) : JJ p l e R s m args below meth c D cys ad A Q nL cells slots L g X Z pc vs (.int (iI j) :: .ref (ad 31 i) :: st) :=
  j_iald G 31 i hd (fun _ => rfl) (by decide) h h0 h1 kk
theorem as_31 (G : GG p l s m args meth c D cys ad A cc own nL) {i j a : Int} (hd : decode cc pc = .ok (.iastore, 1)) (h : vd 31 i) (h0 : 0 ≤ j) (h1 : j < 4) (kk : JJ p l e R s m args below meth c D cys ad A Q nL cells slots L g X (zS Z 31 i j a) (pc + 1) vs st) : JJ p l e R s m args below meth c D cys ad A Q nL cells slots L g X Z pc vs (.int (iI a) :: .int (iI j) :: .ref (ad 31 i) :: st) :=
  j_iast G 31 i hd (fun _ => rfl) (by decide) h h0 h1 kk
theorem al_32 (G : GG p l s m args meth c D cys ad A cc own nL) {i j : Int} (hd : decode cc pc = .ok (.iaload, 1)) (h : vd 32 i) (h0 : 0 ≤ j) (h1 : j < 4) (kk : JJ p l e R s m args below meth c D cys ad A Q nL cells slots L g X Z (pc + 1) vs (.int (iI (Z 32 i j)) :: st)) : JJ p l e R s m args below meth c D cys ad A Q nL cells slots L g X Z pc vs (.int (iI j) :: .ref (ad 32 i) :: st) :=
  j_iald G 32 i hd (fun _ => rfl) (by decide) h h0 h1 kk
theorem as_32 (G : GG p l s m args meth c D cys ad A cc own nL) {i j a : Int} (hd : decode cc pc = .ok (.iastore, 1)) (h : vd 32 i) (h0 : 0 ≤ j) (h1 : j < 4) (kk : JJ p l e R s m args below meth c D cys ad A Q nL cells slots L g X (zS Z 32 i j a) (pc + 1) vs st) : JJ p l e R s m args below meth c D cys ad A Q nL cells slots L g X Z pc vs (.int (iI a) :: .int (iI j) :: .ref (ad 32 i) :: st) :=
  j_iast G 32 i hd (fun _ => rfl) (by decide) h h0 h1 kk
theorem al_34 (G : GG p l s m args meth c D cys ad A cc own nL) {i j : Int} (hd : decode cc pc = .ok (.iaload, 1)) (h : vd 34 i) (h0 : 0 ≤ j) (h1 : j < 80) (kk : JJ p l e R s m args below meth c D cys ad A Q nL cells slots L g X Z (pc + 1) vs (.int (iI (Z 34 i j)) :: st)) : JJ p l e R s m args below meth c D cys ad A Q nL cells slots L g X Z pc vs (.int (iI j) :: .ref (ad 34 i) :: st) :=
  j_iald G 34 i hd (fun _ => rfl) (by decide) h h0 h1 kk
theorem as_34 (G : GG p l s m args meth c D cys ad A cc own nL) {i j a : Int} (hd : decode cc pc = .ok (.iastore, 1)) (h : vd 34 i) (h0 : 0 ≤ j) (h1 : j < 80) (kk : JJ p l e R s m args below meth c D cys ad A Q nL cells slots L g X (zS Z 34 i j a) (pc + 1) vs st) : JJ p l e R s m args below meth c D cys ad A Q nL cells slots L g X Z pc vs (.int (iI a) :: .int (iI j) :: .ref (ad 34 i) :: st) :=
  j_iast G 34 i hd (fun _ => rfl) (by decide) h h0 h1 kk
theorem al_35 (G : GG p l s m args meth c D cys ad A cc own nL) {i j : Int} (hd : decode cc pc = .ok (.iaload, 1)) (h : vd 35 i) (h0 : 0 ≤ j) (h1 : j < 4) (kk : JJ p l e R s m args below meth c D cys ad A Q nL cells slots L g X Z (pc + 1) vs (.int (iI (Z 35 i j)) :: st)) : JJ p l e R s m args below meth c D cys ad A Q nL cells slots L g X Z pc vs (.int (iI j) :: .ref (ad 35 i) :: st) :=
  j_iald G 35 i hd (fun _ => rfl) (by decide) h h0 h1 kk
theorem as_35 (G : GG p l s m args meth c D cys ad A cc own nL) {i j a : Int} (hd : decode cc pc = .ok (.iastore, 1)) (h : vd 35 i) (h0 : 0 ≤ j) (h1 : j < 4) (kk : JJ p l e R s m args below meth c D cys ad A Q nL cells slots L g X (zS Z 35 i j a) (pc + 1) vs st) : JJ p l e R s m args below meth c D cys ad A Q nL cells slots L g X Z pc vs (.int (iI a) :: .int (iI j) :: .ref (ad 35 i) :: st) :=
  j_iast G 35 i hd (fun _ => rfl) (by decide) h h0 h1 kk
theorem al_36 (G : GG p l s m args meth c D cys ad A cc own nL) {i j : Int} (hd : decode cc pc = .ok (.iaload, 1)) (h : vd 36 i) (h0 : 0 ≤ j) (h1 : j < 6) (kk : JJ p l e R s m args below meth c D cys ad A Q nL cells slots L g X Z (pc + 1) vs (.int (iI (Z 36 i j)) :: st)) : JJ p l e R s m args below meth c D cys ad A Q nL cells slots L g X Z pc vs (.int (iI j) :: .ref (ad 36 i) :: st) :=
  j_iald G 36 i hd (fun _ => rfl) (by decide) h h0 h1 kk
theorem as_36 (G : GG p l s m args meth c D cys ad A cc own nL) {i j a : Int} (hd : decode cc pc = .ok (.iastore, 1)) (h : vd 36 i) (h0 : 0 ≤ j) (h1 : j < 6) (kk : JJ p l e R s m args below meth c D cys ad A Q nL cells slots L g X (zS Z 36 i j a) (pc + 1) vs st) : JJ p l e R s m args below meth c D cys ad A Q nL cells slots L g X Z pc vs (.int (iI a) :: .int (iI j) :: .ref (ad 36 i) :: st) :=
  j_iast G 36 i hd (fun _ => rfl) (by decide) h h0 h1 kk
theorem al_37 (G : GG p l s m args meth c D cys ad A cc own nL) {i j : Int} (hd : decode cc pc = .ok (.iaload, 1)) (h : vd 37 i) (h0 : 0 ≤ j) (h1 : j < 6) (kk : JJ p l e R s m args below meth c D cys ad A Q nL cells slots L g X Z (pc + 1) vs (.int (iI (Z 37 i j)) :: st)) : JJ p l e R s m args below meth c D cys ad A Q nL cells slots L g X Z pc vs (.int (iI j) :: .ref (ad 37 i) :: st) :=
  j_iald G 37 i hd (fun _ => rfl) (by decide) h h0 h1 kk
theorem as_37 (G : GG p l s m args meth c D cys ad A cc own nL) {i j a : Int} (hd : decode cc pc = .ok (.iastore, 1)) (h : vd 37 i) (h0 : 0 ≤ j) (h1 : j < 6) (kk : JJ p l e R s m args below meth c D cys ad A Q nL cells slots L g X (zS Z 37 i j a) (pc + 1) vs st) : JJ p l e R s m args below meth c D cys ad A Q nL cells slots L g X Z pc vs (.int (iI a) :: .int (iI j) :: .ref (ad 37 i) :: st) :=
  j_iast G 37 i hd (fun _ => rfl) (by decide) h h0 h1 kk
theorem al_38 (G : GG p l s m args meth c D cys ad A cc own nL) {i j : Int} (hd : decode cc pc = .ok (.baload, 1)) (h : vd 38 i) (h0 : 0 ≤ j) (h1 : j < 6) (kk : JJ p l e R s m args below meth c D cys ad A Q nL cells slots L g X Z (pc + 1) vs (.int (iI (Z 38 i j)) :: st)) : JJ p l e R s m args below meth c D cys ad A Q nL cells slots L g X Z pc vs (.int (iI j) :: .ref (ad 38 i) :: st) :=
  j_zald G 38 i hd (fun _ => rfl) (by decide) h h0 h1 kk
theorem as_38 (G : GG p l s m args meth c D cys ad A cc own nL) {i j a : Int} (hd : decode cc pc = .ok (.bastore, 1)) (h : vd 38 i) (h0 : 0 ≤ j) (h1 : j < 6) (ha : a = 0 ∨ a = 1) (kk : JJ p l e R s m args below meth c D cys ad A Q nL cells slots L g X (zS Z 38 i j a) (pc + 1) vs st) : JJ p l e R s m args below meth c D cys ad A Q nL cells slots L g X Z pc vs (.int (iI a) :: .int (iI j) :: .ref (ad 38 i) :: st) :=
  j_zast G 38 i hd (fun _ => rfl) (by decide) h h0 h1 ha kk
theorem al_1 (G : GG p l s m args meth c D cys ad A cc own nL) {i j : Int} (hd : decode cc pc = .ok (.aaload, 1)) (h : vd 1 i) (h0 : 0 ≤ j) (h1 : j < 4) (kk : JJ p l e R s m args below meth c D cys ad A Q nL cells slots L g X Z (pc + 1) vs (.ref (ad 2 j) :: st)) : JJ p l e R s m args below meth c D cys ad A Q nL cells slots L g X Z pc vs (.int (iI j) :: .ref (ad 1 i) :: st) :=
  j_aald G 1 i 3 hd rfl rfl (by decide) h h0 h1 (congrArg (fun q => some (ad 2 q)) (Int.toNat_of_nonneg h0)) kk
theorem al_7 (G : GG p l s m args meth c D cys ad A cc own nL) {i j : Int} (hd : decode cc pc = .ok (.aaload, 1)) (h : vd 7 i) (h0 : 0 ≤ j) (h1 : j < 4) (kk : JJ p l e R s m args below meth c D cys ad A Q nL cells slots L g X Z (pc + 1) vs (.ref (ad 8 j) :: st)) : JJ p l e R s m args below meth c D cys ad A Q nL cells slots L g X Z pc vs (.int (iI j) :: .ref (ad 7 i) :: st) :=
  j_aaldA G 7 i 4 hd rfl rfl (by decide) h h0 h1 (congrArg (fun q => some (ad 8 q)) (Int.toNat_of_nonneg h0)) kk
theorem al_22 (G : GG p l s m args meth c D cys ad A cc own nL) {i j : Int} (hd : decode cc pc = .ok (.aaload, 1)) (h : vd 22 i) (h0 : 0 ≤ j) (h1 : j < 24) (kk : JJ p l e R s m args below meth c D cys ad A Q nL cells slots L g X Z (pc + 1) vs (.ref (ad 23 j) :: st)) : JJ p l e R s m args below meth c D cys ad A Q nL cells slots L g X Z pc vs (.int (iI j) :: .ref (ad 22 i) :: st) :=
  j_aaldA G 22 i 4 hd rfl rfl (by decide) h h0 h1 (congrArg (fun q => some (ad 23 q)) (Int.toNat_of_nonneg h0)) kk
theorem al_27 (G : GG p l s m args meth c D cys ad A cc own nL) {i j : Int} (hd : decode cc pc = .ok (.aaload, 1)) (h : vd 27 i) (h0 : 0 ≤ j) (h1 : j < 4) (kk : JJ p l e R s m args below meth c D cys ad A Q nL cells slots L g X Z (pc + 1) vs (.ref (ad 28 j) :: st)) : JJ p l e R s m args below meth c D cys ad A Q nL cells slots L g X Z pc vs (.int (iI j) :: .ref (ad 27 i) :: st) :=
  j_aaldA G 27 i 4 hd rfl rfl (by decide) h h0 h1 (congrArg (fun q => some (ad 28 q)) (Int.toNat_of_nonneg h0)) kk
theorem al_29 (G : GG p l s m args meth c D cys ad A cc own nL) {i j : Int} (hd : decode cc pc = .ok (.aaload, 1)) (h : vd 29 i) (h0 : 0 ≤ j) (h1 : j < 4) (kk : JJ p l e R s m args below meth c D cys ad A Q nL cells slots L g X Z (pc + 1) vs (.ref (ad 30 j) :: st)) : JJ p l e R s m args below meth c D cys ad A Q nL cells slots L g X Z pc vs (.int (iI j) :: .ref (ad 29 i) :: st) :=
  j_aaldA G 29 i 5 hd rfl rfl (by decide) h h0 h1 (congrArg (fun q => some (ad 30 q)) (Int.toNat_of_nonneg h0)) kk
end WDS
end
section
/-! what the document's words mean, over the numbers of the fixed places (kinds 0 to 15): trees, facts, what is seen -/
def ancF (par : Int → Int) : Nat → Int → Int
  | 0, m => m
  | n + 1, m => ancF par n (par m)
/-- a member, or an ancestor of it -/
def bel (S : ZT) (d m a : Int) : Prop := S 4 d a ≤ S 4 d m ∧ ancF (S 3 d) (S 4 d m - S 4 d a).toNat m = a
def abv (S : ZT) (d m lv : Int) : Int := ancF (S 3 d) (S 4 d m - lv).toNat m
/-- a tree is well formed -/
def MOK (S : ZT) (d m : Int) : Prop := 0 ≤ S 4 d m ∧ S 4 d m ≤ S 2 d 3 ∧ (S 4 d m = 0 ↔ m = 0) ∧ (0 < m → 0 ≤ S 3 d m ∧ S 3 d m < S 2 d 4 ∧ S 4 d m = S 4 d (S 3 d m) + 1)
def TOK (S : ZT) (d : Int) : Prop := (1 ≤ S 2 d 4 ∧ S 2 d 4 ≤ 24 ∧ 1 ≤ S 2 d 3 ∧ S 2 d 3 ≤ 3 ∧ 0 ≤ S 2 d 5 ∧ S 2 d 5 < S 2 d 4 ∧ S 3 d 0 = -1) ∧ (∀ m, 0 ≤ m → m < S 2 d 4 → MOK S d m) ∧ (∀ m, 0 ≤ m → m < 24 → S 5 d m = 0 ∨ S 5 d m = 1)
theorem TOK.at {S : ZT} {d m : Int} (h : TOK S d) (h0 : 0 ≤ m) (h1 : m < S 2 d 4) : MOK S d m := h.2.1 m h0 h1
/-- the parent's bounds, root or not -/
theorem TOK.par {S : ZT} {d m : Int} (h : TOK S d) (h0 : 0 ≤ m) (h1 : m < S 2 d 4) : -1 ≤ S 3 d m ∧ S 3 d m < 24 := by
  have a := h.at h0 h1
  have b := h.1
  unfold MOK at a
  by_cases e : m = 0
  · subst e; omega
  · have := a.2.2.2 (by omega); omega
/-- a fact is well formed -/
def FOK (S : ZT) (k : Int) : Prop := (∀ d, 0 ≤ d → d < S 0 0 5 → 0 ≤ S 8 d k ∧ S 8 d k < S 2 d 4 ∧ S 4 d (S 8 d k) = S 2 d 3) ∧ -10000 ≤ S 9 0 k ∧ S 9 0 k ≤ 10000
def seenT (S : ZT) (d m : Int) : Prop := bel S d m (S 2 d 5) ∧ ∀ a, 0 ≤ a → a < S 2 d 4 → S 5 d a = 1 → ¬ bel S d m a
def seen (S : ZT) (k : Int) : Prop := ∀ d, 0 ≤ d → d < S 0 0 5 → seenT S d (S 8 d k)
noncomputable def iv (p : Prop) : Int := @ite _ p (Classical.propDecidable _) 1 0
theorem iv_t {p : Prop} (h : p) : iv p = 1 := by unfold iv; rw [if_pos h]
theorem iv_f {p : Prop} (h : ¬ p) : iv p = 0 := by unfold iv; rw [if_neg h]
theorem iv_01 (p : Prop) : iv p = 0 ∨ iv p = 1 := by
  by_cases h : p
  · exact Or.inr (iv_t h)
  · exact Or.inl (iv_f h)
def sumTo (f : Int → Int) : Nat → Int
  | 0 => 0
  | n + 1 => sumTo f n + f n
theorem sumTo_congr {f h : Int → Int} {n : Nat} (e : ∀ k : Int, 0 ≤ k → k < n → f k = h k) : sumTo f n = sumTo h n := by
  induction n with
  | zero => rfl
  | succ n ih =>
    show sumTo f n + f n = sumTo h n + h n
    rw [ih (fun k h0 h1 => e k h0 (by omega)), e n (by omega) (by omega)]
theorem sumTo_bd {f : Int → Int} {n : Nat} {B : Int} (e : ∀ k : Int, 0 ≤ k → k < n → -B ≤ f k ∧ f k ≤ B) : -(B * n) ≤ sumTo f n ∧ sumTo f n ≤ B * n := by
  induction n with
  | zero => simp [sumTo]
  | succ n ih =>
    have h1 := ih (fun k h0 h1 => e k h0 (by omega))
    have h2 := e n (by omega) (by omega)
    have h3 : B * ((n + 1 : Nat) : Int) = B * n + B := by rw [Int.natCast_add, Int.mul_add]; simp
    show -(B * ((n + 1 : Nat) : Int)) ≤ sumTo f n + f n ∧ sumTo f n + f n ≤ B * ((n + 1 : Nat) : Int)
    rw [h3]
    omega
theorem ancF_add (par : Int → Int) (a b : Nat) (m : Int) : ancF par (a + b) m = ancF par b (ancF par a m) := by
  induction a generalizing m with
  | zero => simp [ancF]
  | succ a ih =>
    rw [show a + 1 + b = (a + b) + 1 by omega]
    exact ih (par m)
/-- going up n steps in a tree -/
theorem anc_dep {S : ZT} {d : Int} (h : TOK S d) : ∀ (n : Nat) (m : Int), 0 ≤ m → m < S 2 d 4 → (n : Int) ≤ S 4 d m → 0 ≤ ancF (S 3 d) n m ∧ ancF (S 3 d) n m < S 2 d 4 ∧ S 4 d (ancF (S 3 d) n m) = S 4 d m - n
  | 0, m, h0, h1, _ => ⟨h0, h1, by simp [ancF]⟩
  | n + 1, m, h0, h1, h2 => by
    have a := h.at h0 h1
    unfold MOK at a
    have hm : 0 < m := by
      rcases Int.lt_or_eq_of_le h0 with q | q
      · exact q
      · have := a.2.2.1.mpr q.symm; omega
    have b := a.2.2.2 hm
    have := anc_dep h n (S 3 d m) b.1 b.2.1 (by omega)
    refine ⟨this.1, this.2.1, ?_⟩
    show S 4 d (ancF (S 3 d) n (S 3 d m)) = _
    omega
theorem abv_ok {S : ZT} {d m lv : Int} (h : TOK S d) (h0 : 0 ≤ m) (h1 : m < S 2 d 4) (hl : 0 ≤ lv) : 0 ≤ abv S d m lv ∧ abv S d m lv < S 2 d 4 ∧ (lv ≤ S 4 d m → S 4 d (abv S d m lv) = lv) ∧ (S 4 d m ≤ lv → abv S d m lv = m) := by
  have a := h.at h0 h1
  unfold MOK at a
  unfold abv
  by_cases e : lv ≤ S 4 d m
  · have := anc_dep h (S 4 d m - lv).toNat m h0 h1 (by omega)
    refine ⟨this.1, this.2.1, fun _ => by omega, fun _ => ?_⟩
    rw [show (S 4 d m - lv).toNat = 0 by omega]; rfl
  · rw [show (S 4 d m - lv).toNat = 0 by omega]
    exact ⟨h0, h1, fun q => absurd q e, fun _ => rfl⟩
/-- what a call may leave behind in the places that are no state -/
def scr (k : Nat) : Bool := k == 10 || k == 15 || k == 16 || k == 17 || k == 18 || k == 19 || k == 21 || k == 23
def SP (Z Z' : ZT) : Prop := (∀ k : Nat, scr k = false → Z' k = Z k) ∧ ∀ i, Z' 15 i 4 = Z 15 i 4 ∧ Z' 15 i 5 = Z 15 i 5
theorem SP.rf (Z : ZT) : SP Z Z := ⟨fun _ _ => rfl, fun _ => ⟨rfl, rfl⟩⟩
theorem SP.tr {Z Z1 Z2 : ZT} (h : SP Z Z1) (h2 : SP Z1 Z2) : SP Z Z2 := ⟨fun k hk => (h2.1 k hk).trans (h.1 k hk), fun i => ⟨(h2.2 i).1.trans (h.2 i).1, (h2.2 i).2.trans (h.2 i).2⟩⟩
theorem sumTo_s {f : Int → Int} {a : Int} (h : 0 ≤ a) : sumTo f (a + 1).toNat = sumTo f a.toNat + f a := by
  rw [show (a + 1).toNat = a.toNat + 1 by omega]
  show sumTo f a.toNat + f (a.toNat : Int) = _
  rw [Int.toNat_of_nonneg h]
/-- how many are ahead of c, by their numbers s -/
noncomputable def ahd (s : Int → Int) (c : Int) (n : Nat) : Int := sumTo (fun o => iv (s c < s o ∨ (s o = s c ∧ o < c))) n
theorem ahd_bd (s : Int → Int) (c : Int) (n : Nat) : 0 ≤ ahd s c n ∧ ahd s c n ≤ n := by
  unfold ahd
  induction n with
  | zero => simp [sumTo]
  | succ n ih =>
    show 0 ≤ sumTo _ n + _ ∧ sumTo _ n + _ ≤ _
    have := iv_01 (s c < s n ∨ (s n = s c ∧ (n : Int) < c))
    simp only at ih ⊢
    omega
/-- the places that are shown -/
def shwF (used : Int → Int) (b : Int) : Nat → List Int
  | 0 => []
  | n + 1 => shwF used b n ++ (if used n = 1 ∨ b = 0 then [(n : Int)] else [])
theorem shwF_in {used : Int → Int} {b x : Int} : ∀ {n : Nat}, x ∈ shwF used b n → 0 ≤ x ∧ x < n ∧ (used x = 1 ∨ b = 0)
  | 0, h => by cases h
  | n + 1, h => by
    rcases List.mem_append.mp h with q | q
    · have := shwF_in q; exact ⟨this.1, by omega, this.2.2⟩
    · by_cases e : used n = 1 ∨ b = 0
      · rw [if_pos e] at q
        rw [List.mem_singleton.mp q]
        exact ⟨by omega, by omega, e⟩
      · rw [if_neg e] at q; cases q
theorem shwF_len {used : Int → Int} {b : Int} : ∀ (n : Nat), (shwF used b n).length ≤ n
  | 0 => Nat.le_refl _
  | n + 1 => by
    have := shwF_len (used := used) (b := b) n
    show (_ ++ _ : List Int).length ≤ _
    rw [List.length_append]
    by_cases e : used n = 1 ∨ b = 0
    · rw [if_pos e]; simp; omega
    · rw [if_neg e]; simp; omega
/-- one place falls out of a row -/
def gapF (gap n : Int) (f : Int → Int) : Int → Int := fun k => if gap ≤ k ∧ k < n then f (k + 1) else f k
end
section
/-! the walk through a tree: children one behind the other, each ahead of what is beneath it -/
def sibG (par : Int → Int) (f : Int → List Int) (p : Int) : Nat → Int → List Int
  | 0, _ => []
  | n + 1, k => (if par k = p then f k else []) ++ sibG par f p n (k + 1)
def preF (par : Int → Int) (sz : Int) : Nat → Int → List Int
  | 0, m => [m]
  | n + 1, m => m :: sibG par (preF par sz n) m sz.toNat 0
def pre (S : ZT) (d m : Int) : List Int := preF (S 3 d) (S 2 d 4) (3 - S 4 d m).toNat m
def sibs (S : ZT) (d p st : Int) : List Int := sibG (S 3 d) (pre S d) p (S 2 d 4 - st).toNat st
def aftF (S : ZT) (d : Int) : Nat → Int → List Int
  | 0, _ => []
  | n + 1, m => sibs S d (S 3 d m) (m + 1) ++ aftF S d n (S 3 d m)
def aft (S : ZT) (d top m : Int) : List Int := aftF S d (S 4 d m - S 4 d top).toNat m
def nxt (S : ZT) (d top m : Int) : List Int := sibs S d m 0 ++ aft S d top m
def wk (S : ZT) (d top lv : Int) : List Int := (pre S d top).filter (fun x => decide (S 4 d x = lv))
theorem sibG_congr {par : Int → Int} {f h : Int → List Int} {p : Int} : ∀ (n : Nat) (k : Int), (∀ j, k ≤ j → j < k + n → par j = p → f j = h j) → sibG par f p n k = sibG par h p n k
  | 0, _, _ => rfl
  | n + 1, k, e => by
    show _ ++ _ = _ ++ _
    rw [sibG_congr n (k + 1) (fun j a b c => e j (by omega) (by omega) c)]
    by_cases q : par k = p
    · rw [if_pos q, if_pos q, e k (by omega) (by omega) q]
    · rw [if_neg q, if_neg q]
theorem sibG_nil {par : Int → Int} {f : Int → List Int} {p : Int} : ∀ (n : Nat) (k : Int), (∀ j, k ≤ j → j < k + n → par j ≠ p) → sibG par f p n k = []
  | 0, _, _ => rfl
  | n + 1, k, e => by
    show _ ++ _ = _
    rw [sibG_nil n (k + 1) (fun j a b => e j (by omega) (by omega)), if_neg (e k (by omega) (by omega))]
    rfl
theorem sibG_mem {par : Int → Int} {f : Int → List Int} {p x : Int} : ∀ (n : Nat) (k : Int), x ∈ sibG par f p n k → ∃ j, k ≤ j ∧ j < k + n ∧ par j = p ∧ x ∈ f j
  | 0, _, h => by cases h
  | n + 1, k, h => by
    rcases List.mem_append.mp h with q | q
    · by_cases e : par k = p
      · rw [if_pos e] at q
        exact ⟨k, by omega, by omega, e, q⟩
      · rw [if_neg e] at q
        cases q
    · obtain ⟨j, a, b, c, e⟩ := sibG_mem n (k + 1) q
      exact ⟨j, by omega, by omega, c, e⟩
/-- the first child from st on, and what is behind it -/
theorem sibG_first {par : Int → Int} {f : Int → List Int} {p c : Int} : ∀ (n : Nat) (k : Int), k ≤ c → c < k + n → par c = p → (∀ j, k ≤ j → j < c → par j ≠ p) → sibG par f p n k = f c ++ sibG par f p (k + n - c - 1).toNat (c + 1)
  | 0, k, h0, h1, _, _ => by omega
  | n + 1, k, h0, h1, h2, h3 => by
    show _ ++ _ = _
    by_cases e : k = c
    · subst e
      rw [if_pos h2, show (k + ((n + 1 : Nat) : Int) - k - 1).toNat = n by omega]
    · rw [if_neg (h3 k (by omega) (by omega)), sibG_first n (k + 1) (by omega) (by omega) h2 (fun j a b => h3 j (by omega) b), List.nil_append, show k + 1 + (n : Int) - c - 1 = k + ((n + 1 : Nat) : Int) - c - 1 by omega]
theorem sibs_nil {S : ZT} {d p st : Int} (h : ∀ j, st ≤ j → j < S 2 d 4 → S 3 d j ≠ p) : sibs S d p st = [] := sibG_nil _ _ (fun j a b => h j a (by omega))
theorem sibs_first {S : ZT} {d p st c : Int} (h0 : st ≤ c) (h1 : c < S 2 d 4) (h2 : S 3 d c = p) (h3 : ∀ j, st ≤ j → j < c → S 3 d j ≠ p) : sibs S d p st = pre S d c ++ sibs S d p (c + 1) := by
  unfold sibs
  rw [sibG_first _ _ h0 (by omega) h2 h3, show st + ((S 2 d 4 - st).toNat : Int) - c - 1 = S 2 d 4 - (c + 1) by omega]
theorem kid_dep {S : ZT} {d m k : Int} (h : TOK S d) (hm : 0 ≤ m) (h0 : 0 ≤ k) (h1 : k < S 2 d 4) (e : S 3 d k = m) : 0 < k ∧ m < S 2 d 4 ∧ S 4 d k = S 4 d m + 1 := by
  have a := h.at h0 h1
  unfold MOK at a
  have b := h.1
  have hk : 0 < k := by
    rcases Int.lt_or_eq_of_le h0 with q | q
    · exact q
    · exfalso
      rw [← q] at e
      omega
  have c := a.2.2.2 hk
  rw [e] at c
  exact ⟨hk, c.2.1, c.2.2⟩
theorem pre_unf {S : ZT} {d m : Int} (h : TOK S d) (h0 : 0 ≤ m) (h1 : m < S 2 d 4) : pre S d m = m :: sibs S d m 0 := by
  have a := h.at h0 h1
  unfold MOK at a
  have b := h.1
  unfold pre
  by_cases e : S 4 d m = 3
  · rw [show (3 - S 4 d m).toNat = 0 by omega, sibs_nil (fun j q0 q1 q2 => by
      have c := kid_dep h h0 q0 q1 q2
      have := h.at q0 q1
      unfold MOK at this
      omega)]
    rfl
  · obtain ⟨n, hn⟩ : ∃ n : Nat, (3 - S 4 d m).toNat = n + 1 := ⟨(2 - S 4 d m).toNat, by omega⟩
    rw [hn]
    show m :: _ = m :: _
    unfold sibs
    rw [Int.sub_zero]
    congr 1
    refine sibG_congr _ _ (fun j q0 q1 q2 => ?_)
    have c := kid_dep h h0 q0 (by omega) q2
    unfold pre
    rw [show (3 - S 4 d j).toNat = n by omega]
theorem bel_rf (S : ZT) (d m : Int) : bel S d m m := by
  refine ⟨Int.le_refl _, ?_⟩
  rw [Int.sub_self]; rfl
/-- beneath a child, beneath its parent -/
theorem bel_up {S : ZT} {d x k m : Int} (h : TOK S d) (hm : 0 ≤ m) (h0 : 0 ≤ k) (h1 : k < S 2 d 4) (e : S 3 d k = m) (hb : bel S d x k) : bel S d x m ∧ S 4 d m < S 4 d x := by
  have c := kid_dep h hm h0 h1 e
  refine ⟨⟨by have := hb.1; omega, ?_⟩, by have := hb.1; omega⟩
  rw [show (S 4 d x - S 4 d m).toNat = (S 4 d x - S 4 d k).toNat + 1 by have := hb.1; omega, ancF_add, hb.2]
  exact e
theorem bel_lt {S : ZT} {d x m : Int} (h : TOK S d) (hx0 : 0 ≤ x) (hx1 : x < S 2 d 4) (hm : 0 ≤ S 4 d m) (hb : bel S d x m) : 0 ≤ m ∧ m < S 2 d 4 := by
  have := anc_dep h (S 4 d x - S 4 d m).toNat x hx0 hx1 (by have := hb.1; omega)
  rw [hb.2] at this
  exact ⟨this.1, this.2.1⟩
theorem pre_in {S : ZT} {d : Int} (h : TOK S d) : ∀ (n : Nat) (m : Int), 0 ≤ m → m < S 2 d 4 → (3 - S 4 d m).toNat = n → ∀ x ∈ pre S d m, (0 ≤ x ∧ x < S 2 d 4) ∧ bel S d x m := by
  intro n
  induction n with
  | zero =>
    intro m h0 h1 h2 x hx
    rw [pre_unf h h0 h1, sibs_nil (fun j q0 q1 q2 => by
      have c := kid_dep h h0 q0 q1 q2
      have := h.at q0 q1
      have b := h.1
      unfold MOK at this
      omega)] at hx
    rw [List.mem_singleton.mp hx]
    exact ⟨⟨h0, h1⟩, bel_rf S d m⟩
  | succ n ih =>
    intro m h0 h1 h2 x hx
    rw [pre_unf h h0 h1] at hx
    rcases List.mem_cons.mp hx with q | q
    · rw [q]
      exact ⟨⟨h0, h1⟩, bel_rf S d m⟩
    · obtain ⟨k, k0, k1, k2, k3⟩ := sibG_mem _ _ q
      have c := kid_dep h h0 k0 (by omega) k2
      have r := ih k k0 (by omega) (by omega) x k3
      exact ⟨r.1, (bel_up h h0 k0 (by omega) k2 r.2).1⟩
theorem pre_mem {S : ZT} {d m : Int} (h : TOK S d) (h0 : 0 ≤ m) (h1 : m < S 2 d 4) {x : Int} (hx : x ∈ pre S d m) : (0 ≤ x ∧ x < S 2 d 4) ∧ bel S d x m := pre_in h _ m h0 h1 rfl x hx
theorem bel_uniq {S : ZT} {d x a b : Int} (ha : bel S d x a) (hb : bel S d x b) (e : S 4 d a = S 4 d b) : a = b := by
  rw [← ha.2, ← hb.2, e]
theorem pre_nd {S : ZT} {d : Int} (h : TOK S d) : ∀ (n : Nat) (m : Int), 0 ≤ m → m < S 2 d 4 → (3 - S 4 d m).toNat = n → (pre S d m).Nodup := by
  intro n
  induction n with
  | zero =>
    intro m h0 h1 h2
    rw [pre_unf h h0 h1, sibs_nil (fun j q0 q1 q2 => by
      have c := kid_dep h h0 q0 q1 q2
      have := h.at q0 q1
      have b := h.1
      unfold MOK at this
      omega)]
    simp
  | succ n ih =>
    intro m h0 h1 h2
    rw [pre_unf h h0 h1]
    have hs : ∀ (j : Nat) (k : Int), 0 ≤ k → k + j ≤ S 2 d 4 → (sibG (S 3 d) (pre S d) m j k).Nodup := by
      intro j
      induction j with
      | zero => intro k _ _; exact List.nodup_nil
      | succ j ihj =>
        intro k k0 k1
        show List.Nodup (_ ++ _)
        by_cases e : S 3 d k = m
        · rw [if_pos e]
          have c := kid_dep h h0 k0 (by omega) e
          refine List.nodup_append.mpr ⟨ih k k0 (by omega) (by omega), ihj (k + 1) (by omega) (by omega), fun x hx y hy hxy => ?_⟩
          subst hxy
          have a := (pre_mem h k0 (by omega) hx).2
          obtain ⟨k', q0, q1, q2, q3⟩ := sibG_mem _ _ hy
          have b := (pre_mem h (by omega) (by omega) q3).2
          have c' := kid_dep h h0 (by omega) (by omega) q2
          have := bel_uniq a b (by omega)
          omega
        · rw [if_neg e, List.nil_append]
          exact ihj (k + 1) (by omega) (by omega)
    refine List.nodup_cons.mpr ⟨fun hm => ?_, hs _ 0 (by omega) (by omega)⟩
    obtain ⟨k, q0, q1, q2, q3⟩ := sibG_mem _ _ hm
    have b := (pre_mem h q0 (by omega) q3).2
    have := (bel_up h h0 q0 (by omega) q2 b).2
    omega
theorem nd_len : ∀ (n : Nat) (l : List Int), l.Nodup → (∀ x ∈ l, 0 ≤ x ∧ x < n) → l.length ≤ n
  | 0, l, _, h => by
    cases l with
    | nil => exact Nat.le_refl _
    | cons a r => have := h a List.mem_cons_self; omega
  | n + 1, l, hn, h => by
    have h1 := nd_len n (l.filter (fun x : Int => decide (x ≠ (n : Int)))) (hn.filter _) (fun x hx => by
      obtain ⟨a, b⟩ := List.mem_filter.mp hx
      have := h x a
      have b := of_decide_eq_true b
      omega)
    have h2 : l.length ≤ (l.filter (fun x : Int => decide (x ≠ (n : Int)))).length + 1 := by
      clear h h1
      induction l with
      | nil => simp
      | cons a r ih =>
        have hr := List.nodup_cons.mp hn
        by_cases e : a = (n : Int)
        · have : r.filter (fun x : Int => decide (x ≠ (n : Int))) = r := List.filter_eq_self.mpr (fun x hx => by
            refine decide_eq_true (fun z => ?_)
            rw [z, ← e] at hx
            exact hr.1 hx)
          rw [List.filter_cons_of_neg (by simp [e]), this]
          simp
        · rw [List.filter_cons_of_pos (by simp [e])]
          have := ih hr.2
          simp only [List.length_cons]
          omega
    omega
theorem pre_len {S : ZT} {d m : Int} (h : TOK S d) (h0 : 0 ≤ m) (h1 : m < S 2 d 4) : ((pre S d m).length : Int) ≤ S 2 d 4 := by
  have := nd_len (S 2 d 4).toNat (pre S d m) (pre_nd h _ m h0 h1 rfl) (fun x hx => by have := (pre_mem h h0 h1 hx).1; omega)
  omega
theorem bel_iff {S : ZT} {d m x : Int} (h : TOK S d) (h0 : 0 ≤ m) (h1 : m < S 2 d 4) (hx0 : 0 ≤ x) (hx1 : x < S 2 d 4) : bel S d m x ↔ ∃ j : Nat, (j : Int) ≤ S 4 d m ∧ ancF (S 3 d) j m = x := by
  have hx := h.at hx0 hx1
  unfold MOK at hx
  constructor
  · intro hb
    exact ⟨(S 4 d m - S 4 d x).toNat, by have := hb.1; omega, hb.2⟩
  · rintro ⟨j, hj, rfl⟩
    have := anc_dep h j m h0 h1 hj
    refine ⟨by omega, ?_⟩
    rw [show (S 4 d m - S 4 d (ancF (S 3 d) j m)).toNat = j by omega]
/-- the step of the walk, down or up -/
theorem nxt_kid {S : ZT} {d top m c : Int} (h : TOK S d) (hm : 0 ≤ m) (ht : S 4 d top ≤ S 4 d m) (c0 : 0 ≤ c) (c1 : c < S 2 d 4) (c2 : S 3 d c = m) (c3 : ∀ j, 0 ≤ j → j < c → S 3 d j ≠ m) : nxt S d top m = pre S d c ++ aft S d top c := by
  have k := kid_dep h hm c0 c1 c2
  unfold nxt aft
  rw [sibs_first c0 c1 c2 c3, show (S 4 d c - S 4 d top).toNat = (S 4 d m - S 4 d top).toNat + 1 by omega, List.append_assoc]
  show _ = _ ++ (sibs S d (S 3 d c) (c + 1) ++ aftF S d _ (S 3 d c))
  rw [c2]
theorem aft_sib {S : ZT} {d top m c : Int} (h : TOK S d) (h0 : 0 < m) (h1 : m < S 2 d 4) (ht : S 4 d top < S 4 d m) (c0 : m + 1 ≤ c) (c1 : c < S 2 d 4) (c2 : S 3 d c = S 3 d m) (c3 : ∀ j, m + 1 ≤ j → j < c → S 3 d j ≠ S 3 d m) : aft S d top m = pre S d c ++ aft S d top c := by
  have a := (h.at (by omega : 0 ≤ m) h1).2.2.2 h0
  have k := kid_dep h a.1 (by omega) c1 c2
  unfold aft
  rw [show (S 4 d m - S 4 d top).toNat = (S 4 d (S 3 d m) - S 4 d top).toNat + 1 by omega, show (S 4 d c - S 4 d top).toNat = (S 4 d (S 3 d m) - S 4 d top).toNat + 1 by omega]
  show sibs S d (S 3 d m) (m + 1) ++ aftF S d _ (S 3 d m) = _ ++ (sibs S d (S 3 d c) (c + 1) ++ aftF S d _ (S 3 d c))
  rw [c2, sibs_first c0 c1 c2 c3, List.append_assoc]
theorem aft_up {S : ZT} {d top m : Int} (h : TOK S d) (h0 : 0 < m) (h1 : m < S 2 d 4) (ht : S 4 d top < S 4 d m) (c3 : ∀ j, m + 1 ≤ j → j < S 2 d 4 → S 3 d j ≠ S 3 d m) : aft S d top m = aft S d top (S 3 d m) := by
  have a := (h.at (by omega : 0 ≤ m) h1).2.2.2 h0
  unfold aft
  rw [show (S 4 d m - S 4 d top).toNat = (S 4 d (S 3 d m) - S 4 d top).toNat + 1 by omega]
  show sibs S d (S 3 d m) (m + 1) ++ aftF S d _ (S 3 d m) = _
  rw [sibs_nil c3]
  rfl
theorem aft_top {S : ZT} {d top : Int} : aft S d top top = [] := by
  unfold aft
  rw [Int.sub_self]; rfl
/-! the same tree in another memory -/
def TE (Y Z : ZT) (d : Int) : Prop := Y 2 d = Z 2 d ∧ Y 3 d = Z 3 d ∧ Y 4 d = Z 4 d ∧ Y 5 d = Z 5 d
theorem TE.rf (Z : ZT) (d : Int) : TE Z Z d := ⟨rfl, rfl, rfl, rfl⟩
theorem TE.sym {Y Z : ZT} {d : Int} (h : TE Y Z d) : TE Z Y d := ⟨h.1.symm, h.2.1.symm, h.2.2.1.symm, h.2.2.2.symm⟩
theorem TE.of {S Z : ZT} (h : SP S Z) (d : Int) : TE Z S d := ⟨congrFun (h.1 2 rfl) d, congrFun (h.1 3 rfl) d, congrFun (h.1 4 rfl) d, congrFun (h.1 5 rfl) d⟩
theorem TE.ok {Y Z : ZT} {d : Int} (h : TE Y Z d) (t : TOK Z d) : TOK Y d := by
  unfold TOK MOK at *
  rw [h.1, h.2.1, h.2.2.1, h.2.2.2]
  exact t
theorem TE.e_bel {Y Z : ZT} {d : Int} (h : TE Y Z d) (m a : Int) : bel Y d m a ↔ bel Z d m a := by
  unfold bel
  rw [h.2.1, h.2.2.1]
theorem TE.e_abv {Y Z : ZT} {d : Int} (h : TE Y Z d) (m a : Int) : abv Y d m a = abv Z d m a := by
  unfold abv
  rw [h.2.1, h.2.2.1]
theorem TE.e_pre {Y Z : ZT} {d : Int} (h : TE Y Z d) : pre Y d = pre Z d := by
  funext m
  unfold pre
  rw [h.1, h.2.1, h.2.2.1]
theorem TE.e_sibs {Y Z : ZT} {d : Int} (h : TE Y Z d) (p st : Int) : sibs Y d p st = sibs Z d p st := by
  unfold sibs
  rw [h.e_pre, h.1, h.2.1]
theorem TE.e_aft {Y Z : ZT} {d : Int} (h : TE Y Z d) (top m : Int) : aft Y d top m = aft Z d top m := by
  have key : ∀ (n : Nat) (m : Int), aftF Y d n m = aftF Z d n m := by
    intro n
    induction n with
    | zero => intro m; rfl
    | succ n ih =>
      intro m
      show _ ++ _ = _ ++ _
      rw [h.e_sibs, h.2.1, ih]
  unfold aft
  rw [key, h.2.2.1]
theorem TE.e_nxt {Y Z : ZT} {d : Int} (h : TE Y Z d) (top m : Int) : nxt Y d top m = nxt Z d top m := by
  unfold nxt
  rw [h.e_sibs, h.e_aft]
theorem TE.e_wk {Y Z : ZT} {d : Int} (h : TE Y Z d) (top lv : Int) : wk Y d top lv = wk Z d top lv := by
  unfold wk
  rw [h.e_pre, h.2.2.1]
theorem TE.e_seenT {Y Z : ZT} {d : Int} (h : TE Y Z d) (m : Int) : seenT Y d m ↔ seenT Z d m := by
  unfold seenT
  rw [h.1, h.2.2.2]
  constructor
  · exact fun q => ⟨(h.e_bel _ _).mp q.1, fun a a0 a1 a2 a3 => q.2 a a0 a1 a2 ((h.e_bel _ _).mpr a3)⟩
  · exact fun q => ⟨(h.e_bel _ _).mpr q.1, fun a a0 a1 a2 a3 => q.2 a a0 a1 a2 ((h.e_bel _ _).mp a3)⟩
/-- a list of members, in its places -/
def LST (Z : ZT) (i : Int) (W : List Int) : Prop := Z 16 i 1 = W.length ∧ ∀ j : Nat, j < W.length → W[j]? = some (Z 17 i j)
theorem wk_in {S : ZT} {d top lv x : Int} (h : TOK S d) (h0 : 0 ≤ top) (h1 : top < S 2 d 4) (hx : x ∈ wk S d top lv) : (0 ≤ x ∧ x < S 2 d 4) ∧ bel S d x top ∧ S 4 d x = lv := by
  obtain ⟨a, b⟩ := List.mem_filter.mp hx
  have := pre_mem h h0 h1 a
  exact ⟨this.1, this.2, of_decide_eq_true b⟩
theorem wk_len {S : ZT} {d top : Int} (lv : Int) (h : TOK S d) (h0 : 0 ≤ top) (h1 : top < S 2 d 4) : ((wk S d top lv).length : Int) ≤ S 2 d 4 := by
  have := pre_len h h0 h1
  have := List.length_filter_le (fun x => decide (S 4 d x = lv)) (pre S d top)
  unfold wk
  omega
theorem suf_pre {S : ZT} {d top m : Int} (h : TOK S d) (h0 : 0 ≤ m) (h1 : m < S 2 d 4) : pre S d m ++ aft S d top m = m :: nxt S d top m := by
  rw [pre_unf h h0 h1]
  rfl
end
section
/-! levels as one number, views, cells; what is well formed -/
def lvl (L d : Int) : Int := if d = 0 then L / 64 % 4 else if d = 1 then L / 16 % 4 else if d = 2 then L / 4 % 4 else L % 4
theorem lvl_in (L d : Int) : 0 ≤ lvl L d ∧ lvl L d < 4 := by
  unfold lvl
  split
  · omega
  · split
    · omega
    · split <;> omega
def LOK (S : ZT) (L : Int) : Prop := 0 ≤ L ∧ L < 256 ∧ ∀ d, 0 ≤ d → d < 4 → lvl L d ≤ S 2 d 3
def UOK (S : ZT) (d : Int) : Prop := S 2 d 3 = 0 ∧ S 2 d 4 = 0 ∧ S 2 d 5 = 0 ∧ S 4 d 0 = 0
def WF (S : ZT) : Prop :=
  (0 ≤ S 0 0 5 ∧ S 0 0 5 ≤ 4) ∧ (∀ d, 0 ≤ d → d < S 0 0 5 → TOK S d) ∧ (∀ d, S 0 0 5 ≤ d → d < 4 → UOK S d) ∧ (0 ≤ S 6 0 3 ∧ S 6 0 3 ≤ 80) ∧ (∀ k, 0 ≤ k → k < S 6 0 3 → FOK S k) ∧
  (0 ≤ S 11 0 3 ∧ S 11 0 3 ≤ 6) ∧ (∀ v, 0 ≤ v → v < 6 → S 14 0 v = 0 ∨ S 14 0 v = 1) ∧ (∀ v, 0 ≤ v → v < S 11 0 3 → LOK S (S 12 0 v) ∧ 0 ≤ S 13 0 v ∧ S 13 0 v ≤ 80) ∧ LOK S (S 0 0 6) ∧ (S 0 0 7 = 0 ∨ S 0 0 7 = 1) ∧ (S 0 0 8 = 0 ∨ S 0 0 8 = 1) ∧
  (S 0 0 7 = 1 → ∀ i, 0 ≤ i → i < 2 → 0 ≤ S 15 i 4 ∧ S 15 i 4 < S 0 0 5 ∧ 0 ≤ S 15 i 5 ∧ S 15 i 5 ≤ S 2 (S 15 i 4) 3) ∧ (S 0 0 7 = 1 → S 15 0 4 ≠ S 15 1 4)
theorem WF.n {S : ZT} (h : WF S) : 0 ≤ S 0 0 5 ∧ S 0 0 5 ≤ 4 := h.1
theorem WF.t {S : ZT} (h : WF S) {d : Int} (h0 : 0 ≤ d) (h1 : d < S 0 0 5) : TOK S d := h.2.1 d h0 h1
theorem WF.f {S : ZT} (h : WF S) : 0 ≤ S 6 0 3 ∧ S 6 0 3 ≤ 80 := h.2.2.2.1
theorem WF.fk {S : ZT} (h : WF S) {k : Int} (h0 : 0 ≤ k) (h1 : k < S 6 0 3) : FOK S k := h.2.2.2.2.1 k h0 h1
theorem WF.v {S : ZT} (h : WF S) : 0 ≤ S 11 0 3 ∧ S 11 0 3 ≤ 6 := h.2.2.2.2.2.1
theorem WF.st {S : ZT} (h : WF S) {v : Int} (h0 : 0 ≤ v) (h1 : v < 6) : S 14 0 v = 0 ∨ S 14 0 v = 1 := h.2.2.2.2.2.2.1 v h0 h1
theorem WF.vw {S : ZT} (h : WF S) {v : Int} (h0 : 0 ≤ v) (h1 : v < S 11 0 3) : LOK S (S 12 0 v) ∧ 0 ≤ S 13 0 v ∧ S 13 0 v ≤ 80 := h.2.2.2.2.2.2.2.1 v h0 h1
theorem WF.lv {S : ZT} (h : WF S) : LOK S (S 0 0 6) := h.2.2.2.2.2.2.2.2.1
theorem WF.ax {S : ZT} (h : WF S) : S 0 0 7 = 0 ∨ S 0 0 7 = 1 := h.2.2.2.2.2.2.2.2.2.1
theorem WF.ba {S : ZT} (h : WF S) : S 0 0 8 = 0 ∨ S 0 0 8 = 1 := h.2.2.2.2.2.2.2.2.2.2.1
theorem WF.ai {S : ZT} (h : WF S) (ha : S 0 0 7 = 1) {i : Int} (h0 : 0 ≤ i) (h1 : i < 2) : 0 ≤ S 15 i 4 ∧ S 15 i 4 < S 0 0 5 ∧ 0 ≤ S 15 i 5 ∧ S 15 i 5 ≤ S 2 (S 15 i 4) 3 := h.2.2.2.2.2.2.2.2.2.2.2.1 ha i h0 h1
theorem WF.ad {S : ZT} (h : WF S) (ha : S 0 0 7 = 1) : S 15 0 4 ≠ S 15 1 4 := h.2.2.2.2.2.2.2.2.2.2.2.2 ha
theorem WF.deep {S : ZT} (h : WF S) {d : Int} (h0 : 0 ≤ d) (h1 : d < 4) : 0 ≤ S 2 d 3 ∧ S 2 d 3 ≤ 3 := by
  by_cases e : d < S 0 0 5
  · have := (h.t h0 e).1; omega
  · have := h.2.2.1 d (by omega) h1
    unfold UOK at this; omega
def reachP (A B : Int) : Prop := lvl B 0 ≤ lvl A 0 ∧ lvl B 1 ≤ lvl A 1 ∧ lvl B 2 ≤ lvl A 2 ∧ lvl B 3 ≤ lvl A 3
def sameC (S : ZT) (L j k : Int) : Prop := ∀ d, 0 ≤ d → d < S 0 0 5 → abv S d (S 8 d j) (lvl L d) = abv S d (S 8 d k) (lvl L d)
noncomputable def CELLS (S : ZT) (L : Int) : Int := sumTo (fun k => iv (∀ j, 0 ≤ j → j < k → ¬ sameC S L j k)) (S 6 0 3).toNat
def cnF (S : ZT) (L k : Int) : Nat → Int
  | 0 => 0
  | n + 1 => cnF S L k n * 24 + abv S n (S 8 n k) (lvl L n)
def prc (S : ZT) (b : Int) : Int := if b = -1 then S 6 0 3 else S 13 0 b
noncomputable def vfF (S : ZT) (L : Int) : Nat → Int
  | 0 => -1
  | n + 1 => @ite _ (S 13 0 n < prc S (vfF S L n) ∧ S 14 0 n = 0 ∧ reachP (S 12 0 n) L) (Classical.propDecidable _) (n : Int) (vfF S L n)
noncomputable def VFOR (S : ZT) (L : Int) : Int := vfF S L (S 11 0 3).toNat
noncomputable def COST (S : ZT) (L : Int) : Int := prc S (VFOR S L)
def mx (a : Int) : Int := if a < 0 then 0 else a
noncomputable def GAIN (S : ZT) (L : Int) : Int := sumTo (fun a => iv (reachP L a) * mx (COST S a - CELLS S L)) (L + 1).toNat
theorem vfF_in (S : ZT) (L : Int) (n : Nat) : -1 ≤ vfF S L n ∧ vfF S L n < n := by
  induction n with
  | zero => exact ⟨Int.le_refl _, by show (-1 : Int) < 0; decide⟩
  | succ n ih =>
    unfold vfF
    split <;> omega
theorem sumTo_iv (f : Int → Prop) (n : Nat) : 0 ≤ sumTo (fun k => iv (f k)) n ∧ sumTo (fun k => iv (f k)) n ≤ n := by
  induction n with
  | zero => simp [sumTo]
  | succ n ih =>
    show 0 ≤ sumTo _ n + _ ∧ sumTo _ n + _ ≤ _
    have := iv_01 (f n)
    simp only at ih ⊢
    omega
theorem CELLS_in {S : ZT} (h : WF S) (L : Int) : 0 ≤ CELLS S L ∧ CELLS S L ≤ S 6 0 3 := by
  have := sumTo_iv (fun k => ∀ j, 0 ≤ j → j < k → ¬ sameC S L j k) (S 6 0 3).toNat
  have := h.f
  unfold CELLS
  omega
theorem COST_in {S : ZT} (h : WF S) (L : Int) : 0 ≤ COST S L ∧ COST S L ≤ 80 := by
  have a := vfF_in S L (S 11 0 3).toNat
  have b := h.f
  have c := h.v
  unfold COST VFOR prc
  split
  · omega
  · have := h.vw (v := vfF S L (S 11 0 3).toNat) (by omega) (by omega)
    omega
theorem shr_lvl {L d : Int} (h0 : 0 ≤ L) (h1 : L < 256) (d0 : 0 ≤ d) (d1 : d < 4) : ∃ z, 0 ≤ z ∧ z < 256 ∧ iI L >>> (iI ((3 - d) * 2) &&& 31) = iI z ∧ iI z &&& iI 3 = iI (lvl L d) := by
  have key : ∀ (L : Fin 256) (d : Fin 4), iI (L.val : Int) >>> (iI ((3 - (d.val : Int)) * 2) &&& 31) = iI ((L.val : Int) / 4 ^ (3 - d.val)) ∧ iI ((L.val : Int) / 4 ^ (3 - d.val)) &&& iI 3 = iI (lvl (L.val : Int) (d.val : Int)) ∧ 0 ≤ (L.val : Int) / 4 ^ (3 - d.val) ∧ (L.val : Int) / 4 ^ (3 - d.val) < 256 := by decide +kernel
  have := key ⟨L.toNat, by omega⟩ ⟨d.toNat, by omega⟩
  simp only [Int.toNat_of_nonneg h0, Int.toNat_of_nonneg d0] at this
  exact ⟨_, this.2.2.1, this.2.2.2, this.1, this.2.1⟩
def mk4 : Nat → Int
  | 0 => 3
  | n + 1 => mk4 n * 4
theorem and_mk {L : Int} (h0 : 0 ≤ L) (h1 : L < 256) : ∀ j : Nat, j < 4 → iI L &&& iI (mk4 j) = iI (lvl L (3 - j) * 4 ^ j) := by
  have key : ∀ (L : Fin 256) (j : Fin 4), iI (L.val : Int) &&& iI (mk4 j.val) = iI (lvl (L.val : Int) (3 - j.val) * 4 ^ j.val) := by decide +kernel
  intro j hj
  have := key ⟨L.toNat, by omega⟩ ⟨j, hj⟩
  simp only [Int.toNat_of_nonneg h0] at this
  exact this
theorem cnF_bd {S : ZT} (h : WF S) {L k : Int} (h0 : 0 ≤ k) (h1 : k < S 6 0 3) : ∀ n : Nat, (n : Int) ≤ S 0 0 5 → 0 ≤ cnF S L k n ∧ cnF S L k n < 24 ^ n
  | 0, _ => ⟨Int.le_refl _, by show (0 : Int) < 1; decide⟩
  | n + 1, hn => by
    have ih := cnF_bd h (L := L) h0 h1 n (by omega)
    have ht := h.t (d := n) (by omega) (by omega)
    have hf := (h.fk h0 h1).1 n (by omega) (by omega)
    have ha := abv_ok ht hf.1 hf.2.1 (lvl_in L n).1
    have h24 := ht.1
    show 0 ≤ cnF S L k n * 24 + _ ∧ cnF S L k n * 24 + _ < 24 ^ (n + 1)
    rw [Int.pow_succ]
    omega
theorem cnF_inj {S : ZT} (h : WF S) {L j k : Int} (j0 : 0 ≤ j) (j1 : j < S 6 0 3) (k0 : 0 ≤ k) (k1 : k < S 6 0 3) : ∀ n : Nat, (n : Int) ≤ S 0 0 5 → (cnF S L j n = cnF S L k n ↔ ∀ d, 0 ≤ d → d < (n : Int) → abv S d (S 8 d j) (lvl L d) = abv S d (S 8 d k) (lvl L d))
  | 0, _ => ⟨fun _ d a b => by omega, fun _ => rfl⟩
  | n + 1, hn => by
    have ih := cnF_inj h (L := L) j0 j1 k0 k1 n (by omega)
    have ht := h.t (d := n) (by omega) (by omega)
    have hf := (h.fk k0 k1).1 n (by omega) (by omega)
    have hg := (h.fk j0 j1).1 n (by omega) (by omega)
    have ha := abv_ok ht hf.1 hf.2.1 (lvl_in L n).1
    have hb := abv_ok ht hg.1 hg.2.1 (lvl_in L n).1
    have h24 := ht.1
    constructor
    · intro e d d0 d1
      have e : cnF S L j n * 24 + abv S n (S 8 n j) (lvl L n) = cnF S L k n * 24 + abv S n (S 8 n k) (lvl L n) := e
      by_cases q : d = n
      · subst q; omega
      · exact ih.mp (by omega) d d0 (by omega)
    · intro e
      show cnF S L j n * 24 + abv S n (S 8 n j) (lvl L n) = cnF S L k n * 24 + abv S n (S 8 n k) (lvl L n)
      rw [ih.mpr (fun d d0 d1 => e d d0 (by omega)), e n (by omega) (by omega)]
end
section
theorem dX3_hasPlace_0 : decode cX3_hasPlace 0 = .ok (.iload_n 1, 1) := by decide +kernel
theorem dX3_hasPlace_1 : decode cX3_hasPlace 1 = .ok (.ifCond .lt 15, 3) := by decide +kernel
theorem dX3_hasPlace_4 : decode cX3_hasPlace 4 = .ok (.iload_n 1, 1) := by decide +kernel
theorem dX3_hasPlace_5 : decode cX3_hasPlace 5 = .ok (.aload_n 0, 1) := by decide +kernel
theorem dX3_hasPlace_6 : decode cX3_hasPlace 6 = .ok (.getfield 15, 3) := by decide +kernel
theorem dX3_hasPlace_9 : decode cX3_hasPlace 9 = .ok (.if_icmp .ge 7, 3) := by decide +kernel
theorem dX3_hasPlace_12 : decode cX3_hasPlace 12 = .ok (.iconst 1, 1) := by decide +kernel
theorem dX3_hasPlace_13 : decode cX3_hasPlace 13 = .ok (.goto 4, 3) := by decide +kernel
theorem dX3_hasPlace_16 : decode cX3_hasPlace 16 = .ok (.iconst 0, 1) := by decide +kernel
theorem dX3_hasPlace_17 : decode cX3_hasPlace 17 = .ok (.ireturn, 1) := by decide +kernel
theorem dX3_append_0 : decode cX3_append 0 = .ok (.aload_n 0, 1) := by decide +kernel
theorem dX3_append_1 : decode cX3_append 1 = .ok (.getfield 15, 3) := by decide +kernel
theorem dX3_append_4 : decode cX3_append 4 = .ok (.bipush 24, 2) := by decide +kernel
theorem dX3_append_6 : decode cX3_append 6 = .ok (.if_icmp .ge 23, 3) := by decide +kernel
theorem dX3_append_9 : decode cX3_append 9 = .ok (.aload_n 0, 1) := by decide +kernel
theorem dX3_append_10 : decode cX3_append 10 = .ok (.getfield 9, 3) := by decide +kernel
theorem dX3_append_13 : decode cX3_append 13 = .ok (.aload_n 0, 1) := by decide +kernel
theorem dX3_append_14 : decode cX3_append 14 = .ok (.getfield 15, 3) := by decide +kernel
theorem dX3_append_17 : decode cX3_append 17 = .ok (.iload_n 1, 1) := by decide +kernel
theorem dX3_append_18 : decode cX3_append 18 = .ok (.iastore, 1) := by decide +kernel
theorem dX3_append_19 : decode cX3_append 19 = .ok (.aload_n 0, 1) := by decide +kernel
theorem dX3_append_20 : decode cX3_append 20 = .ok (.dup, 1) := by decide +kernel
theorem dX3_append_21 : decode cX3_append 21 = .ok (.getfield 15, 3) := by decide +kernel
theorem dX3_append_24 : decode cX3_append 24 = .ok (.iconst 1, 1) := by decide +kernel
theorem dX3_append_25 : decode cX3_append 25 = .ok (.iadd, 1) := by decide +kernel
theorem dX3_append_26 : decode cX3_append 26 = .ok (.putfield 15, 3) := by decide +kernel
theorem dX3_append_29 : decode cX3_append 29 = .ok (.return_, 1) := by decide +kernel
theorem dX3_placeOf_0 : decode cX3_placeOf 0 = .ok (.iconst 0, 1) := by decide +kernel
theorem dX3_placeOf_1 : decode cX3_placeOf 1 = .ok (.istore_n 2, 1) := by decide +kernel
theorem dX3_placeOf_2 : decode cX3_placeOf 2 = .ok (.iload_n 2, 1) := by decide +kernel
theorem dX3_placeOf_3 : decode cX3_placeOf 3 = .ok (.aload_n 0, 1) := by decide +kernel
theorem dX3_placeOf_4 : decode cX3_placeOf 4 = .ok (.getfield 15, 3) := by decide +kernel
theorem dX3_placeOf_7 : decode cX3_placeOf 7 = .ok (.if_icmp .ge 21, 3) := by decide +kernel
theorem dX3_placeOf_10 : decode cX3_placeOf 10 = .ok (.aload_n 0, 1) := by decide +kernel
theorem dX3_placeOf_11 : decode cX3_placeOf 11 = .ok (.getfield 9, 3) := by decide +kernel
theorem dX3_placeOf_14 : decode cX3_placeOf 14 = .ok (.iload_n 2, 1) := by decide +kernel
theorem dX3_placeOf_15 : decode cX3_placeOf 15 = .ok (.iaload, 1) := by decide +kernel
theorem dX3_placeOf_16 : decode cX3_placeOf 16 = .ok (.iload_n 1, 1) := by decide +kernel
theorem dX3_placeOf_17 : decode cX3_placeOf 17 = .ok (.if_icmp .ne 5, 3) := by decide +kernel
theorem dX3_placeOf_20 : decode cX3_placeOf 20 = .ok (.iload_n 2, 1) := by decide +kernel
theorem dX3_placeOf_21 : decode cX3_placeOf 21 = .ok (.ireturn, 1) := by decide +kernel
theorem dX3_placeOf_22 : decode cX3_placeOf 22 = .ok (.iinc 2 1, 3) := by decide +kernel
theorem dX3_placeOf_25 : decode cX3_placeOf 25 = .ok (.goto (-23), 3) := by decide +kernel
theorem dX3_placeOf_28 : decode cX3_placeOf 28 = .ok (.iconst (-1), 1) := by decide +kernel
theorem dX3_placeOf_29 : decode cX3_placeOf 29 = .ok (.ireturn, 1) := by decide +kernel
/-! by program: wip/whole/gen.py out of wip/whole/src/10.lists.eb -/
/-! MemberList: place i of kind 16, its row of kind 17 -/
set_option maxRecDepth 100000 in
set_option maxHeartbeats 8000000 in
theorem c_X3_hasPlace {l : Launch} {D : va_G} {cys : Nat → ClassId} {ad : Nat → Int → Nat} {L : List Nat} {g : Nat → va_E} {X : Int64} {Z : ZT} (hi : injA ad) {i q : Int} (hi16 : vd 16 i) (hq : inR q) (hs : inR (Z 16 i 1)) : CM l D cys ad yX3_hasPlace cX3_hasPlace 2 (some .boolean) 0 0 0 0 [.ref (ad 16 i), .int (iI q)] L g X Z (PI L g X Z (fun r => (r = 1 ∧ 0 ≤ q ∧ q < Z 16 i 1) ∨ (r = 0 ∧ ¬ (0 ≤ q ∧ q < Z 16 i 1)))) := by
  refine cm_start hi (by decide +kernel) (Nat.le_of_ble_eq_true rfl) ?_
  intro p_ e_ s_ m_ args_ below_ meth_ c_ A_ Q_ hQ G hr hin
  refine j_iload_n G dX3_hasPlace_0 rfl ?_
  refine j_if_lt G 16 dX3_hasPlace_1 (by decide) (by omega) (fun c1 => ?_) (fun c1 => ?_)
  · refine j_iconst G dX3_hasPlace_16 ?_
    refine jr_B G hQ hr dX3_hasPlace_17 (by decide) (by decide) (by omega) ?_
    first | omega | (refine ⟨?_, ?_⟩ <;> (try intros) <;> first | rfl | omega | (exfalso; omega)) | simp
  · refine j_iload_n G dX3_hasPlace_4 rfl ?_
    refine j_aload_n G dX3_hasPlace_5 rfl ?_
    refine gf_16_1 G dX3_hasPlace_6 lf3_15 (by first | assumption | decide) ?_
    refine j_icmp_ge G 16 dX3_hasPlace_9 (by decide) (by omega) (by omega) (fun c9 => ?_) (fun c9 => ?_)
    · refine j_iconst G dX3_hasPlace_16 ?_
      refine jr_B G hQ hr dX3_hasPlace_17 (by decide) (by decide) (by omega) ?_
      first | omega | (refine ⟨?_, ?_⟩ <;> (try intros) <;> first | rfl | omega | (exfalso; omega)) | simp
    · refine j_iconst G dX3_hasPlace_12 ?_
      refine j_goto G 17 dX3_hasPlace_13 (by decide) ?_
      refine jr_B G hQ hr dX3_hasPlace_17 (by decide) (by decide) (by omega) ?_
      first | omega | (refine ⟨?_, ?_⟩ <;> (try intros) <;> first | rfl | omega | (exfalso; omega)) | simp
set_option maxRecDepth 100000 in
set_option maxHeartbeats 8000000 in
theorem c_X3_append {l : Launch} {D : va_G} {cys : Nat → ClassId} {ad : Nat → Int → Nat} {L : List Nat} {g : Nat → va_E} {X : Int64} {Z : ZT} (hi : injA ad) {i q : Int} (hi16 : vd 16 i) (hs : 0 ≤ Z 16 i 1 ∧ Z 16 i 1 ≤ 24) : CM l D cys ad yX3_append cX3_append 2 none 0 0 0 0 [.ref (ad 16 i), .int (iI q)] L g X Z (PVZ L g X Z (fun Z' => (Z 16 i 1 < 24 → Z' = zS (zS Z 17 i (Z 16 i 1) q) 16 i 1 (Z 16 i 1 + 1)) ∧ (Z 16 i 1 = 24 → Z' = Z))) := by
  refine cm_start hi (by decide +kernel) (Nat.le_of_ble_eq_true rfl) ?_
  intro p_ e_ s_ m_ args_ below_ meth_ c_ A_ Q_ hQ G hr hin
  refine j_aload_n G dX3_append_0 rfl ?_
  refine gf_16_1 G dX3_append_1 lf3_15 (by first | assumption | decide) ?_
  refine j_bipush G dX3_append_4 (by decide +kernel) ?_
  refine j_icmp_ge G 29 dX3_append_6 (by decide) (by omega) (by omega) (fun c6 => ?_) (fun c6 => ?_)
  · refine jr_VZ G hQ hr dX3_append_29 (by decide) (by decide) ?_

    refine ⟨fun hh => ?_, fun hh => ?_⟩
    · first | trivial | rfl | (exfalso; omega)
    · first | trivial | rfl | (exfalso; omega)
  · refine j_aload_n G dX3_append_9 rfl ?_
    refine gf_16_0 G dX3_append_10 lf3_9 (by first | assumption | decide) ?_
    refine j_aload_n G dX3_append_13 rfl ?_
    refine gf_16_1 G dX3_append_14 lf3_15 (by first | assumption | decide) ?_
    refine j_iload_n G dX3_append_17 rfl ?_
    refine as_17 G dX3_append_18 (by first | assumption | decide) (by omega) (by omega) ?_
    refine j_aload_n G dX3_append_19 rfl ?_
    refine j_dup G dX3_append_20 rfl ?_
    refine gf_16_1 G dX3_append_21 lf3_15 (by first | assumption | decide) ?_
    try simp (config := { decide := true }) only [zS_k, zS_s, zS_j, ne_eq]
    refine j_iconst G dX3_append_24 ?_
    refine j_iadd G dX3_append_25 ?_
    refine pf_16_1 G dX3_append_26 lf3_15 (by first | assumption | decide) ?_
    refine jr_VZ G hQ hr dX3_append_29 (by decide) (by decide) ?_
    try simp (config := { decide := true }) only [zS_k, zS_s, zS_j, ne_eq]

    refine ⟨fun hh => ?_, fun hh => ?_⟩
    · first | trivial | rfl | (exfalso; omega)
    · first | trivial | rfl | (exfalso; omega)
set_option maxRecDepth 100000 in
set_option maxHeartbeats 8000000 in
theorem c_X3_placeOf {l : Launch} {D : va_G} {cys : Nat → ClassId} {ad : Nat → Int → Nat} {L : List Nat} {g : Nat → va_E} {X : Int64} {Z : ZT} (hi : injA ad) {i q : Int} (hi16 : vd 16 i) (hs : 0 ≤ Z 16 i 1 ∧ Z 16 i 1 ≤ 24) (hq : inR q) (hv : ∀ j, 0 ≤ j → j < Z 16 i 1 → inR (Z 17 i j)) : CM l D cys ad yX3_placeOf cX3_placeOf 3 (some .int) 0 0 0 0 [.ref (ad 16 i), .int (iI q)] L g X Z (PI L g X Z (fun r => (0 ≤ r ∧ r < Z 16 i 1 ∧ Z 17 i r = q ∧ ∀ j, 0 ≤ j → j < r → Z 17 i j ≠ q) ∨ (r = -1 ∧ ∀ j, 0 ≤ j → j < Z 16 i 1 → Z 17 i j ≠ q))) := by
  refine cm_start hi (by decide +kernel) (Nat.le_of_ble_eq_true rfl) ?_
  intro p_ e_ s_ m_ args_ below_ meth_ c_ A_ Q_ hQ G hr hin
  have loop : ∀ (n : Nat) (a : Int), 0 ≤ a → a ≤ Z 16 i 1 → (Z 16 i 1 - a).toNat = n → (∀ j, 0 ≤ j → j < a → Z 17 i j ≠ q) → JJ p_ l e_ { frames := 0, cells := 0, slots := 0, locals := 0 } s_ m_ args_ below_ meth_ c_ D cys ad A_ Q_ 3 0 0 L g X Z 2 [(0, .ref (ad 16 i)), (1, .int (iI q)), (2, .int (iI a))] [] := by
    intro n
    induction n with
    | zero =>
      intro a h0 h1 h2 h3
      refine j_iload_n G dX3_placeOf_2 rfl ?_
      refine j_aload_n G dX3_placeOf_3 rfl ?_
      refine gf_16_1 G dX3_placeOf_4 lf3_15 (by first | assumption | decide) ?_
      refine j_icmp_ge G 28 dX3_placeOf_7 (by decide) (by omega) (by omega) (fun c7 => ?_) (fun c7 => ?_)
      · refine j_iconst G dX3_placeOf_28 ?_
        refine jr_I G hQ hr dX3_placeOf_29 (by decide) (by decide) ?_
        exact Or.inr ⟨rfl, fun j h4 h5 => h3 j h4 (by omega)⟩
      · exfalso; omega
    | succ n ih =>
      intro a h0 h1 h2 h3
      have hva := hv a h0
      refine j_iload_n G dX3_placeOf_2 rfl ?_
      refine j_aload_n G dX3_placeOf_3 rfl ?_
      refine gf_16_1 G dX3_placeOf_4 lf3_15 (by first | assumption | decide) ?_
      refine j_icmp_ge G 28 dX3_placeOf_7 (by decide) (by omega) (by omega) (fun c7 => ?_) (fun c7 => ?_)
      · exfalso; omega
      · refine j_aload_n G dX3_placeOf_10 rfl ?_
        refine gf_16_0 G dX3_placeOf_11 lf3_9 (by first | assumption | decide) ?_
        refine j_iload_n G dX3_placeOf_14 rfl ?_
        refine al_17 G dX3_placeOf_15 (by first | assumption | decide) (by omega) (by omega) ?_
        refine j_iload_n G dX3_placeOf_16 rfl ?_
        refine j_icmp_ne G 22 dX3_placeOf_17 (by decide) (by omega) (by omega) (fun c17 => ?_) (fun c17 => ?_)
        · refine j_iinc G dX3_placeOf_22 rfl (by decide) rfl ?_
          refine j_goto G 2 dX3_placeOf_25 (by decide) ?_
          refine ih (a + 1) (by omega) (by omega) (by omega) (fun j h4 h5 => ?_)
          by_cases e : j = a
          · subst e; assumption
          · exact h3 j h4 (by omega)
        · refine j_iload_n G dX3_placeOf_20 rfl ?_
          refine jr_I G hQ hr dX3_placeOf_21 (by decide) (by decide) ?_
          exact Or.inl ⟨h0, by omega, by omega, h3⟩
  refine j_iconst G dX3_placeOf_0 ?_
  refine j_istore_n G dX3_placeOf_1 (by decide) rfl ?_
  exact loop _ 0 (by omega) (by omega) rfl (fun j h4 h5 => by omega)
end
section
theorem dX4_has_0 : decode cX4_has 0 = .ok (.iload_n 1, 1) := by decide +kernel
theorem dX4_has_1 : decode cX4_has 1 = .ok (.ifCond .lt 15, 3) := by decide +kernel
theorem dX4_has_4 : decode cX4_has 4 = .ok (.iload_n 1, 1) := by decide +kernel
theorem dX4_has_5 : decode cX4_has 5 = .ok (.aload_n 0, 1) := by decide +kernel
theorem dX4_has_6 : decode cX4_has 6 = .ok (.getfield 26, 3) := by decide +kernel
theorem dX4_has_9 : decode cX4_has 9 = .ok (.if_icmp .ge 7, 3) := by decide +kernel
theorem dX4_has_12 : decode cX4_has 12 = .ok (.iconst 1, 1) := by decide +kernel
theorem dX4_has_13 : decode cX4_has 13 = .ok (.goto 4, 3) := by decide +kernel
theorem dX4_has_16 : decode cX4_has 16 = .ok (.iconst 0, 1) := by decide +kernel
theorem dX4_has_17 : decode cX4_has 17 = .ok (.ireturn, 1) := by decide +kernel
theorem dX4_isFull_0 : decode cX4_isFull 0 = .ok (.aload_n 0, 1) := by decide +kernel
theorem dX4_isFull_1 : decode cX4_isFull 1 = .ok (.getfield 26, 3) := by decide +kernel
theorem dX4_isFull_4 : decode cX4_isFull 4 = .ok (.bipush 24, 2) := by decide +kernel
theorem dX4_isFull_6 : decode cX4_isFull 6 = .ok (.if_icmp .lt 7, 3) := by decide +kernel
theorem dX4_isFull_9 : decode cX4_isFull 9 = .ok (.iconst 1, 1) := by decide +kernel
theorem dX4_isFull_10 : decode cX4_isFull 10 = .ok (.goto 4, 3) := by decide +kernel
theorem dX4_isFull_13 : decode cX4_isFull 13 = .ok (.iconst 0, 1) := by decide +kernel
theorem dX4_isFull_14 : decode cX4_isFull 14 = .ok (.ireturn, 1) := by decide +kernel
theorem dX4_aboveOn_0 : decode cX4_aboveOn 0 = .ok (.iload_n 1, 1) := by decide +kernel
theorem dX4_aboveOn_1 : decode cX4_aboveOn 1 = .ok (.istore_n 3, 1) := by decide +kernel
theorem dX4_aboveOn_2 : decode cX4_aboveOn 2 = .ok (.iconst 0, 1) := by decide +kernel
theorem dX4_aboveOn_3 : decode cX4_aboveOn 3 = .ok (.istore 4, 2) := by decide +kernel
theorem dX4_aboveOn_5 : decode cX4_aboveOn 5 = .ok (.iload 4, 2) := by decide +kernel
theorem dX4_aboveOn_7 : decode cX4_aboveOn 7 = .ok (.iconst 3, 1) := by decide +kernel
theorem dX4_aboveOn_8 : decode cX4_aboveOn 8 = .ok (.if_icmp .ge 34, 3) := by decide +kernel
theorem dX4_aboveOn_11 : decode cX4_aboveOn 11 = .ok (.aload_n 0, 1) := by decide +kernel
theorem dX4_aboveOn_12 : decode cX4_aboveOn 12 = .ok (.iload_n 3, 1) := by decide +kernel
theorem dX4_aboveOn_13 : decode cX4_aboveOn 13 = .ok (.invokevirtual 29, 3) := by decide +kernel
theorem dX4_aboveOn_16 : decode cX4_aboveOn 16 = .ok (.ifCond .eq 26, 3) := by decide +kernel
theorem dX4_aboveOn_19 : decode cX4_aboveOn 19 = .ok (.aload_n 0, 1) := by decide +kernel
theorem dX4_aboveOn_20 : decode cX4_aboveOn 20 = .ok (.getfield 15, 3) := by decide +kernel
theorem dX4_aboveOn_23 : decode cX4_aboveOn 23 = .ok (.iload_n 3, 1) := by decide +kernel
theorem dX4_aboveOn_24 : decode cX4_aboveOn 24 = .ok (.iaload, 1) := by decide +kernel
theorem dX4_aboveOn_25 : decode cX4_aboveOn 25 = .ok (.iload_n 2, 1) := by decide +kernel
theorem dX4_aboveOn_26 : decode cX4_aboveOn 26 = .ok (.if_icmp .le 16, 3) := by decide +kernel
theorem dX4_aboveOn_29 : decode cX4_aboveOn 29 = .ok (.aload_n 0, 1) := by decide +kernel
theorem dX4_aboveOn_30 : decode cX4_aboveOn 30 = .ok (.getfield 9, 3) := by decide +kernel
theorem dX4_aboveOn_33 : decode cX4_aboveOn 33 = .ok (.iload_n 3, 1) := by decide +kernel
theorem dX4_aboveOn_34 : decode cX4_aboveOn 34 = .ok (.iaload, 1) := by decide +kernel
theorem dX4_aboveOn_35 : decode cX4_aboveOn 35 = .ok (.istore_n 3, 1) := by decide +kernel
theorem dX4_aboveOn_36 : decode cX4_aboveOn 36 = .ok (.iinc 4 1, 3) := by decide +kernel
theorem dX4_aboveOn_39 : decode cX4_aboveOn 39 = .ok (.goto (-34), 3) := by decide +kernel
theorem dX4_aboveOn_42 : decode cX4_aboveOn 42 = .ok (.iload_n 3, 1) := by decide +kernel
theorem dX4_aboveOn_43 : decode cX4_aboveOn 43 = .ok (.ireturn, 1) := by decide +kernel
theorem dX4_plant_0 : decode cX4_plant 0 = .ok (.aload_n 0, 1) := by decide +kernel
theorem dX4_plant_1 : decode cX4_plant 1 = .ok (.iload_n 1, 1) := by decide +kernel
theorem dX4_plant_2 : decode cX4_plant 2 = .ok (.putfield 22, 3) := by decide +kernel
theorem dX4_plant_5 : decode cX4_plant 5 = .ok (.aload_n 0, 1) := by decide +kernel
theorem dX4_plant_6 : decode cX4_plant 6 = .ok (.getfield 9, 3) := by decide +kernel
theorem dX4_plant_9 : decode cX4_plant 9 = .ok (.iconst 0, 1) := by decide +kernel
theorem dX4_plant_10 : decode cX4_plant 10 = .ok (.iconst (-1), 1) := by decide +kernel
theorem dX4_plant_11 : decode cX4_plant 11 = .ok (.iastore, 1) := by decide +kernel
theorem dX4_plant_12 : decode cX4_plant 12 = .ok (.aload_n 0, 1) := by decide +kernel
theorem dX4_plant_13 : decode cX4_plant 13 = .ok (.iconst 1, 1) := by decide +kernel
theorem dX4_plant_14 : decode cX4_plant 14 = .ok (.putfield 26, 3) := by decide +kernel
theorem dX4_plant_17 : decode cX4_plant 17 = .ok (.return_, 1) := by decide +kernel
theorem dX4_isLeaf_0 : decode cX4_isLeaf 0 = .ok (.aload_n 0, 1) := by decide +kernel
theorem dX4_isLeaf_1 : decode cX4_isLeaf 1 = .ok (.iload_n 1, 1) := by decide +kernel
theorem dX4_isLeaf_2 : decode cX4_isLeaf 2 = .ok (.invokevirtual 29, 3) := by decide +kernel
theorem dX4_isLeaf_5 : decode cX4_isLeaf 5 = .ok (.ifCond .eq 20, 3) := by decide +kernel
theorem dX4_isLeaf_8 : decode cX4_isLeaf 8 = .ok (.aload_n 0, 1) := by decide +kernel
theorem dX4_isLeaf_9 : decode cX4_isLeaf 9 = .ok (.getfield 15, 3) := by decide +kernel
theorem dX4_isLeaf_12 : decode cX4_isLeaf 12 = .ok (.iload_n 1, 1) := by decide +kernel
theorem dX4_isLeaf_13 : decode cX4_isLeaf 13 = .ok (.iaload, 1) := by decide +kernel
theorem dX4_isLeaf_14 : decode cX4_isLeaf 14 = .ok (.aload_n 0, 1) := by decide +kernel
theorem dX4_isLeaf_15 : decode cX4_isLeaf 15 = .ok (.getfield 22, 3) := by decide +kernel
theorem dX4_isLeaf_18 : decode cX4_isLeaf 18 = .ok (.if_icmp .ne 7, 3) := by decide +kernel
theorem dX4_isLeaf_21 : decode cX4_isLeaf 21 = .ok (.iconst 1, 1) := by decide +kernel
theorem dX4_isLeaf_22 : decode cX4_isLeaf 22 = .ok (.goto 4, 3) := by decide +kernel
theorem dX4_isLeaf_25 : decode cX4_isLeaf 25 = .ok (.iconst 0, 1) := by decide +kernel
theorem dX4_isLeaf_26 : decode cX4_isLeaf 26 = .ok (.ireturn, 1) := by decide +kernel
theorem dX4_grow_0 : decode cX4_grow 0 = .ok (.aload_n 0, 1) := by decide +kernel
theorem dX4_grow_1 : decode cX4_grow 1 = .ok (.iload_n 1, 1) := by decide +kernel
theorem dX4_grow_2 : decode cX4_grow 2 = .ok (.invokevirtual 29, 3) := by decide +kernel
theorem dX4_grow_5 : decode cX4_grow 5 = .ok (.ifCond .eq 10, 3) := by decide +kernel
theorem dX4_grow_8 : decode cX4_grow 8 = .ok (.aload_n 0, 1) := by decide +kernel
theorem dX4_grow_9 : decode cX4_grow 9 = .ok (.invokevirtual 33, 3) := by decide +kernel
theorem dX4_grow_12 : decode cX4_grow 12 = .ok (.ifCond .eq 5, 3) := by decide +kernel
theorem dX4_grow_15 : decode cX4_grow 15 = .ok (.iconst (-1), 1) := by decide +kernel
theorem dX4_grow_16 : decode cX4_grow 16 = .ok (.ireturn, 1) := by decide +kernel
theorem dX4_grow_17 : decode cX4_grow 17 = .ok (.aload_n 0, 1) := by decide +kernel
theorem dX4_grow_18 : decode cX4_grow 18 = .ok (.getfield 26, 3) := by decide +kernel
theorem dX4_grow_21 : decode cX4_grow 21 = .ok (.istore_n 2, 1) := by decide +kernel
theorem dX4_grow_22 : decode cX4_grow 22 = .ok (.aload_n 0, 1) := by decide +kernel
theorem dX4_grow_23 : decode cX4_grow 23 = .ok (.getfield 9, 3) := by decide +kernel
theorem dX4_grow_26 : decode cX4_grow 26 = .ok (.iload_n 2, 1) := by decide +kernel
theorem dX4_grow_27 : decode cX4_grow 27 = .ok (.iload_n 1, 1) := by decide +kernel
theorem dX4_grow_28 : decode cX4_grow 28 = .ok (.iastore, 1) := by decide +kernel
theorem dX4_grow_29 : decode cX4_grow 29 = .ok (.aload_n 0, 1) := by decide +kernel
theorem dX4_grow_30 : decode cX4_grow 30 = .ok (.getfield 15, 3) := by decide +kernel
theorem dX4_grow_33 : decode cX4_grow 33 = .ok (.iload_n 2, 1) := by decide +kernel
theorem dX4_grow_34 : decode cX4_grow 34 = .ok (.aload_n 0, 1) := by decide +kernel
theorem dX4_grow_35 : decode cX4_grow 35 = .ok (.getfield 15, 3) := by decide +kernel
theorem dX4_grow_38 : decode cX4_grow 38 = .ok (.iload_n 1, 1) := by decide +kernel
theorem dX4_grow_39 : decode cX4_grow 39 = .ok (.iaload, 1) := by decide +kernel
theorem dX4_grow_40 : decode cX4_grow 40 = .ok (.iconst 1, 1) := by decide +kernel
theorem dX4_grow_41 : decode cX4_grow 41 = .ok (.iadd, 1) := by decide +kernel
theorem dX4_grow_42 : decode cX4_grow 42 = .ok (.iastore, 1) := by decide +kernel
theorem dX4_grow_43 : decode cX4_grow 43 = .ok (.aload_n 0, 1) := by decide +kernel
theorem dX4_grow_44 : decode cX4_grow 44 = .ok (.dup, 1) := by decide +kernel
theorem dX4_grow_45 : decode cX4_grow 45 = .ok (.getfield 26, 3) := by decide +kernel
theorem dX4_grow_48 : decode cX4_grow 48 = .ok (.iconst 1, 1) := by decide +kernel
theorem dX4_grow_49 : decode cX4_grow 49 = .ok (.iadd, 1) := by decide +kernel
theorem dX4_grow_50 : decode cX4_grow 50 = .ok (.putfield 26, 3) := by decide +kernel
theorem dX4_grow_53 : decode cX4_grow 53 = .ok (.iload_n 2, 1) := by decide +kernel
theorem dX4_grow_54 : decode cX4_grow 54 = .ok (.ireturn, 1) := by decide +kernel
theorem dX4_leaveNothingOut_0 : decode cX4_leaveNothingOut 0 = .ok (.iconst 0, 1) := by decide +kernel
theorem dX4_leaveNothingOut_1 : decode cX4_leaveNothingOut 1 = .ok (.istore_n 1, 1) := by decide +kernel
theorem dX4_leaveNothingOut_2 : decode cX4_leaveNothingOut 2 = .ok (.iload_n 1, 1) := by decide +kernel
theorem dX4_leaveNothingOut_3 : decode cX4_leaveNothingOut 3 = .ok (.bipush 24, 2) := by decide +kernel
theorem dX4_leaveNothingOut_5 : decode cX4_leaveNothingOut 5 = .ok (.if_icmp .ge 16, 3) := by decide +kernel
theorem dX4_leaveNothingOut_8 : decode cX4_leaveNothingOut 8 = .ok (.aload_n 0, 1) := by decide +kernel
theorem dX4_leaveNothingOut_9 : decode cX4_leaveNothingOut 9 = .ok (.getfield 18, 3) := by decide +kernel
theorem dX4_leaveNothingOut_12 : decode cX4_leaveNothingOut 12 = .ok (.iload_n 1, 1) := by decide +kernel
theorem dX4_leaveNothingOut_13 : decode cX4_leaveNothingOut 13 = .ok (.iconst 0, 1) := by decide +kernel
theorem dX4_leaveNothingOut_14 : decode cX4_leaveNothingOut 14 = .ok (.bastore, 1) := by decide +kernel
theorem dX4_leaveNothingOut_15 : decode cX4_leaveNothingOut 15 = .ok (.iinc 1 1, 3) := by decide +kernel
theorem dX4_leaveNothingOut_18 : decode cX4_leaveNothingOut 18 = .ok (.goto (-16), 3) := by decide +kernel
theorem dX4_leaveNothingOut_21 : decode cX4_leaveNothingOut 21 = .ok (.return_, 1) := by decide +kernel
theorem dX4_depthOfChildren_0 : decode cX4_depthOfChildren 0 = .ok (.aload_n 0, 1) := by decide +kernel
theorem dX4_depthOfChildren_1 : decode cX4_depthOfChildren 1 = .ok (.aload_n 0, 1) := by decide +kernel
theorem dX4_depthOfChildren_2 : decode cX4_depthOfChildren 2 = .ok (.getfield 37, 3) := by decide +kernel
theorem dX4_depthOfChildren_5 : decode cX4_depthOfChildren 5 = .ok (.invokevirtual 29, 3) := by decide +kernel
theorem dX4_depthOfChildren_8 : decode cX4_depthOfChildren 8 = .ok (.ifCond .eq 17, 3) := by decide +kernel
theorem dX4_depthOfChildren_11 : decode cX4_depthOfChildren 11 = .ok (.aload_n 0, 1) := by decide +kernel
theorem dX4_depthOfChildren_12 : decode cX4_depthOfChildren 12 = .ok (.getfield 15, 3) := by decide +kernel
theorem dX4_depthOfChildren_15 : decode cX4_depthOfChildren 15 = .ok (.aload_n 0, 1) := by decide +kernel
theorem dX4_depthOfChildren_16 : decode cX4_depthOfChildren 16 = .ok (.getfield 37, 3) := by decide +kernel
theorem dX4_depthOfChildren_19 : decode cX4_depthOfChildren 19 = .ok (.iaload, 1) := by decide +kernel
theorem dX4_depthOfChildren_20 : decode cX4_depthOfChildren 20 = .ok (.iconst 1, 1) := by decide +kernel
theorem dX4_depthOfChildren_21 : decode cX4_depthOfChildren 21 = .ok (.iadd, 1) := by decide +kernel
theorem dX4_depthOfChildren_22 : decode cX4_depthOfChildren 22 = .ok (.goto 4, 3) := by decide +kernel
theorem dX4_depthOfChildren_25 : decode cX4_depthOfChildren 25 = .ok (.iconst 0, 1) := by decide +kernel
theorem dX4_depthOfChildren_26 : decode cX4_depthOfChildren 26 = .ok (.ireturn, 1) := by decide +kernel
theorem dX4_childFrom_0 : decode cX4_childFrom 0 = .ok (.iload_n 2, 1) := by decide +kernel
theorem dX4_childFrom_1 : decode cX4_childFrom 1 = .ok (.istore_n 3, 1) := by decide +kernel
theorem dX4_childFrom_2 : decode cX4_childFrom 2 = .ok (.iload_n 3, 1) := by decide +kernel
theorem dX4_childFrom_3 : decode cX4_childFrom 3 = .ok (.aload_n 0, 1) := by decide +kernel
theorem dX4_childFrom_4 : decode cX4_childFrom 4 = .ok (.getfield 26, 3) := by decide +kernel
theorem dX4_childFrom_7 : decode cX4_childFrom 7 = .ok (.if_icmp .ge 21, 3) := by decide +kernel
theorem dX4_childFrom_10 : decode cX4_childFrom 10 = .ok (.aload_n 0, 1) := by decide +kernel
theorem dX4_childFrom_11 : decode cX4_childFrom 11 = .ok (.getfield 9, 3) := by decide +kernel
theorem dX4_childFrom_14 : decode cX4_childFrom 14 = .ok (.iload_n 3, 1) := by decide +kernel
theorem dX4_childFrom_15 : decode cX4_childFrom 15 = .ok (.iaload, 1) := by decide +kernel
theorem dX4_childFrom_16 : decode cX4_childFrom 16 = .ok (.iload_n 1, 1) := by decide +kernel
theorem dX4_childFrom_17 : decode cX4_childFrom 17 = .ok (.if_icmp .ne 5, 3) := by decide +kernel
theorem dX4_childFrom_20 : decode cX4_childFrom 20 = .ok (.iload_n 3, 1) := by decide +kernel
theorem dX4_childFrom_21 : decode cX4_childFrom 21 = .ok (.ireturn, 1) := by decide +kernel
theorem dX4_childFrom_22 : decode cX4_childFrom 22 = .ok (.iinc 3 1, 3) := by decide +kernel
theorem dX4_childFrom_25 : decode cX4_childFrom 25 = .ok (.goto (-23), 3) := by decide +kernel
theorem dX4_childFrom_28 : decode cX4_childFrom 28 = .ok (.iconst (-1), 1) := by decide +kernel
theorem dX4_childFrom_29 : decode cX4_childFrom 29 = .ok (.ireturn, 1) := by decide +kernel
theorem dX4_nextInWalk_0 : decode cX4_nextInWalk 0 = .ok (.aload_n 0, 1) := by decide +kernel
theorem dX4_nextInWalk_1 : decode cX4_nextInWalk 1 = .ok (.iload_n 1, 1) := by decide +kernel
theorem dX4_nextInWalk_2 : decode cX4_nextInWalk 2 = .ok (.iconst 0, 1) := by decide +kernel
theorem dX4_nextInWalk_3 : decode cX4_nextInWalk 3 = .ok (.invokevirtual 51, 3) := by decide +kernel
theorem dX4_nextInWalk_6 : decode cX4_nextInWalk 6 = .ok (.istore_n 3, 1) := by decide +kernel
theorem dX4_nextInWalk_7 : decode cX4_nextInWalk 7 = .ok (.iload_n 1, 1) := by decide +kernel
theorem dX4_nextInWalk_8 : decode cX4_nextInWalk 8 = .ok (.istore 4, 2) := by decide +kernel
theorem dX4_nextInWalk_10 : decode cX4_nextInWalk 10 = .ok (.iconst 0, 1) := by decide +kernel
theorem dX4_nextInWalk_11 : decode cX4_nextInWalk 11 = .ok (.istore 5, 2) := by decide +kernel
theorem dX4_nextInWalk_13 : decode cX4_nextInWalk 13 = .ok (.iload 5, 2) := by decide +kernel
theorem dX4_nextInWalk_15 : decode cX4_nextInWalk 15 = .ok (.iconst 3, 1) := by decide +kernel
theorem dX4_nextInWalk_16 : decode cX4_nextInWalk 16 = .ok (.if_icmp .ge 54, 3) := by decide +kernel
theorem dX4_nextInWalk_19 : decode cX4_nextInWalk 19 = .ok (.iload_n 3, 1) := by decide +kernel
theorem dX4_nextInWalk_20 : decode cX4_nextInWalk 20 = .ok (.iconst (-1), 1) := by decide +kernel
theorem dX4_nextInWalk_21 : decode cX4_nextInWalk 21 = .ok (.if_icmp .ne 49, 3) := by decide +kernel
theorem dX4_nextInWalk_24 : decode cX4_nextInWalk 24 = .ok (.iload 4, 2) := by decide +kernel
theorem dX4_nextInWalk_26 : decode cX4_nextInWalk 26 = .ok (.iload_n 2, 1) := by decide +kernel
theorem dX4_nextInWalk_27 : decode cX4_nextInWalk 27 = .ok (.if_icmp .eq 43, 3) := by decide +kernel
theorem dX4_nextInWalk_30 : decode cX4_nextInWalk 30 = .ok (.aload_n 0, 1) := by decide +kernel
theorem dX4_nextInWalk_31 : decode cX4_nextInWalk 31 = .ok (.iload 4, 2) := by decide +kernel
theorem dX4_nextInWalk_33 : decode cX4_nextInWalk 33 = .ok (.invokevirtual 29, 3) := by decide +kernel
theorem dX4_nextInWalk_36 : decode cX4_nextInWalk 36 = .ok (.ifCond .eq 34, 3) := by decide +kernel
theorem dX4_nextInWalk_39 : decode cX4_nextInWalk 39 = .ok (.aload_n 0, 1) := by decide +kernel
theorem dX4_nextInWalk_40 : decode cX4_nextInWalk 40 = .ok (.aload_n 0, 1) := by decide +kernel
theorem dX4_nextInWalk_41 : decode cX4_nextInWalk 41 = .ok (.getfield 9, 3) := by decide +kernel
theorem dX4_nextInWalk_44 : decode cX4_nextInWalk 44 = .ok (.iload 4, 2) := by decide +kernel
theorem dX4_nextInWalk_46 : decode cX4_nextInWalk 46 = .ok (.iaload, 1) := by decide +kernel
theorem dX4_nextInWalk_47 : decode cX4_nextInWalk 47 = .ok (.iload 4, 2) := by decide +kernel
theorem dX4_nextInWalk_49 : decode cX4_nextInWalk 49 = .ok (.iconst 1, 1) := by decide +kernel
theorem dX4_nextInWalk_50 : decode cX4_nextInWalk 50 = .ok (.iadd, 1) := by decide +kernel
theorem dX4_nextInWalk_51 : decode cX4_nextInWalk 51 = .ok (.invokevirtual 51, 3) := by decide +kernel
theorem dX4_nextInWalk_54 : decode cX4_nextInWalk 54 = .ok (.istore_n 3, 1) := by decide +kernel
theorem dX4_nextInWalk_55 : decode cX4_nextInWalk 55 = .ok (.aload_n 0, 1) := by decide +kernel
theorem dX4_nextInWalk_56 : decode cX4_nextInWalk 56 = .ok (.getfield 9, 3) := by decide +kernel
theorem dX4_nextInWalk_59 : decode cX4_nextInWalk 59 = .ok (.iload 4, 2) := by decide +kernel
theorem dX4_nextInWalk_61 : decode cX4_nextInWalk 61 = .ok (.iaload, 1) := by decide +kernel
theorem dX4_nextInWalk_62 : decode cX4_nextInWalk 62 = .ok (.istore 4, 2) := by decide +kernel
theorem dX4_nextInWalk_64 : decode cX4_nextInWalk 64 = .ok (.iinc 5 1, 3) := by decide +kernel
theorem dX4_nextInWalk_67 : decode cX4_nextInWalk 67 = .ok (.goto (-54), 3) := by decide +kernel
theorem dX4_nextInWalk_70 : decode cX4_nextInWalk 70 = .ok (.iload_n 3, 1) := by decide +kernel
theorem dX4_nextInWalk_71 : decode cX4_nextInWalk 71 = .ok (.ireturn, 1) := by decide +kernel
/-! by program: wip/whole/gen.py out of wip/whole/src/11.tree.eb -/
/-! Tree: place d of kind 2 -/
set_option maxRecDepth 100000 in
set_option maxHeartbeats 8000000 in
theorem c_X4_has {l : Launch} {D : va_G} {cys : Nat → ClassId} {ad : Nat → Int → Nat} {L : List Nat} {g : Nat → va_E} {X : Int64} {Z : ZT} (hi : injA ad) {d q : Int} (hd : vd 2 d) (hq : inR q) (hs : inR (Z 2 d 4)) : CM l D cys ad yX4_has cX4_has 2 (some .boolean) 0 0 0 0 [.ref (ad 2 d), .int (iI q)] L g X Z (PI L g X Z (fun r => (r = 1 ∧ 0 ≤ q ∧ q < Z 2 d 4) ∨ (r = 0 ∧ ¬ (0 ≤ q ∧ q < Z 2 d 4)))) := by
  refine cm_start hi (by decide +kernel) (Nat.le_of_ble_eq_true rfl) ?_
  intro p_ e_ s_ m_ args_ below_ meth_ c_ A_ Q_ hQ G hr hin
  refine j_iload_n G dX4_has_0 rfl ?_
  refine j_if_lt G 16 dX4_has_1 (by decide) (by omega) (fun c1 => ?_) (fun c1 => ?_)
  · refine j_iconst G dX4_has_16 ?_
    refine jr_B G hQ hr dX4_has_17 (by decide) (by decide) (by omega) ?_
    first | omega | (refine ⟨?_, ?_⟩ <;> (try intros) <;> first | rfl | omega | (exfalso; omega)) | simp
  · refine j_iload_n G dX4_has_4 rfl ?_
    refine j_aload_n G dX4_has_5 rfl ?_
    refine gf_2_4 G dX4_has_6 lf4_26 (by first | assumption | decide) ?_
    refine j_icmp_ge G 16 dX4_has_9 (by decide) (by omega) (by omega) (fun c9 => ?_) (fun c9 => ?_)
    · refine j_iconst G dX4_has_16 ?_
      refine jr_B G hQ hr dX4_has_17 (by decide) (by decide) (by omega) ?_
      first | omega | (refine ⟨?_, ?_⟩ <;> (try intros) <;> first | rfl | omega | (exfalso; omega)) | simp
    · refine j_iconst G dX4_has_12 ?_
      refine j_goto G 17 dX4_has_13 (by decide) ?_
      refine jr_B G hQ hr dX4_has_17 (by decide) (by decide) (by omega) ?_
      first | omega | (refine ⟨?_, ?_⟩ <;> (try intros) <;> first | rfl | omega | (exfalso; omega)) | simp
set_option maxRecDepth 100000 in
set_option maxHeartbeats 8000000 in
theorem c_X4_isFull {l : Launch} {D : va_G} {cys : Nat → ClassId} {ad : Nat → Int → Nat} {L : List Nat} {g : Nat → va_E} {X : Int64} {Z : ZT} (hi : injA ad) {d : Int} (hd : vd 2 d) (hs : inR (Z 2 d 4)) : CM l D cys ad yX4_isFull cX4_isFull 1 (some .boolean) 0 0 0 0 [.ref (ad 2 d)] L g X Z (PI L g X Z (fun r => (r = 1 ∧ 24 ≤ Z 2 d 4) ∨ (r = 0 ∧ Z 2 d 4 < 24))) := by
  refine cm_start hi (by decide +kernel) (Nat.le_of_ble_eq_true rfl) ?_
  intro p_ e_ s_ m_ args_ below_ meth_ c_ A_ Q_ hQ G hr hin
  refine j_aload_n G dX4_isFull_0 rfl ?_
  refine gf_2_4 G dX4_isFull_1 lf4_26 (by first | assumption | decide) ?_
  refine j_bipush G dX4_isFull_4 (by decide +kernel) ?_
  refine j_icmp_lt G 13 dX4_isFull_6 (by decide) (by omega) (by omega) (fun c6 => ?_) (fun c6 => ?_)
  · refine j_iconst G dX4_isFull_13 ?_
    refine jr_B G hQ hr dX4_isFull_14 (by decide) (by decide) (by omega) ?_
    first | omega | (refine ⟨?_, ?_⟩ <;> (try intros) <;> first | rfl | omega | (exfalso; omega)) | simp
  · refine j_iconst G dX4_isFull_9 ?_
    refine j_goto G 14 dX4_isFull_10 (by decide) ?_
    refine jr_B G hQ hr dX4_isFull_14 (by decide) (by decide) (by omega) ?_
    first | omega | (refine ⟨?_, ?_⟩ <;> (try intros) <;> first | rfl | omega | (exfalso; omega)) | simp
set_option maxRecDepth 100000 in
set_option maxHeartbeats 8000000 in
theorem c_X4_aboveOn {l : Launch} {D : va_G} {cys : Nat → ClassId} {ad : Nat → Int → Nat} {L : List Nat} {g : Nat → va_E} {X : Int64} {Z : ZT} (hi : injA ad) {d q lv : Int} (hd : vd 2 d) (hT : TOK Z d) (hq : 0 ≤ q ∧ q < Z 2 d 4) (hlv : 0 ≤ lv ∧ lv < 1000) : CM l D cys ad yX4_aboveOn cX4_aboveOn 5 (some .int) 1 21 0 0 [.ref (ad 2 d), .int (iI q), .int (iI lv)] L g X Z (PI L g X Z (fun r => r = abv Z d q lv)) := by
  refine cm_start hi (by decide +kernel) (Nat.le_of_ble_eq_true rfl) ?_
  intro p_ e_ s_ m_ args_ below_ meth_ c_ A_ Q_ hQ G hr hin
  have hT1 := hT.1
  have loop : ∀ (n : Nat) (a st : Int), 0 ≤ a → a < Z 2 d 4 → 0 ≤ st → st + Z 4 d a ≤ 3 → (Z 4 d a - lv).toNat = n → ancF (Z 3 d) n a = abv Z d q lv → JJ p_ l e_ { frames := 1, cells := 0, slots := 0, locals := 21 } s_ m_ args_ below_ meth_ c_ D cys ad A_ Q_ 5 0 0 L g X Z 5 [(0, .ref (ad 2 d)), (1, .int (iI q)), (2, .int (iI lv)), (3, .int (iI a)), (4, .int (iI st))] [] := by
    intro n
    induction n with
    | zero =>
      intro a st h0 h1 h2 h3 h4 h5
      have hm := hT.at h0 h1
      unfold MOK at hm
      refine j_iload G dX4_aboveOn_5 rfl ?_
      refine j_iconst G dX4_aboveOn_7 ?_
      refine j_icmp_ge G 42 dX4_aboveOn_8 (by decide) (by omega) (by omega) (fun c8 => ?_) (fun c8 => ?_)
      · refine j_iload_n G dX4_aboveOn_42 rfl ?_
        refine jr_I G hQ hr dX4_aboveOn_43 (by decide) (by decide) ?_
        exact h5
      · refine j_aload_n G dX4_aboveOn_11 rfl ?_
        refine j_iload_n G dX4_aboveOn_12 rfl ?_
        refine j_cVI G cvX4_has ml4_29 (c_X4_has hi (by first | assumption | omega | decide) (by first | assumption | omega | decide) (by first | assumption | omega | decide)) dX4_aboveOn_13 ⟨by decide, by decide⟩ ⟨by decide, by decide⟩ rfl rfl (by decide) (by first | assumption | decide) rfl rfl rfl (fun r13 h13 => ?_)
        refine j_if_eq G 42 dX4_aboveOn_16 (by decide) (by omega) (fun c16 => ?_) (fun c16 => ?_)
        · refine j_iload_n G dX4_aboveOn_42 rfl ?_
          refine jr_I G hQ hr dX4_aboveOn_43 (by decide) (by decide) ?_
          exact h5
        · refine j_aload_n G dX4_aboveOn_19 rfl ?_
          refine gf_2_1 G dX4_aboveOn_20 lf4_15 (by first | assumption | decide) ?_
          refine j_iload_n G dX4_aboveOn_23 rfl ?_
          refine al_4 G dX4_aboveOn_24 (by first | assumption | decide) (by omega) (by omega) ?_
          refine j_iload_n G dX4_aboveOn_25 rfl ?_
          refine j_icmp_le G 42 dX4_aboveOn_26 (by decide) (by omega) (by omega) (fun c26 => ?_) (fun c26 => ?_)
          · refine j_iload_n G dX4_aboveOn_42 rfl ?_
            refine jr_I G hQ hr dX4_aboveOn_43 (by decide) (by decide) ?_
            exact h5
          · exfalso; omega
    | succ n ih =>
      intro a st h0 h1 h2 h3 h4 h5
      have hm := hT.at h0 h1
      unfold MOK at hm
      have hp := hm.2.2.2 (by have := hm.2.2.1; omega)
      refine j_iload G dX4_aboveOn_5 rfl ?_
      refine j_iconst G dX4_aboveOn_7 ?_
      refine j_icmp_ge G 42 dX4_aboveOn_8 (by decide) (by omega) (by omega) (fun c8 => ?_) (fun c8 => ?_)
      · exfalso; omega
      · refine j_aload_n G dX4_aboveOn_11 rfl ?_
        refine j_iload_n G dX4_aboveOn_12 rfl ?_
        refine j_cVI G cvX4_has ml4_29 (c_X4_has hi (by first | assumption | omega | decide) (by first | assumption | omega | decide) (by first | assumption | omega | decide)) dX4_aboveOn_13 ⟨by decide, by decide⟩ ⟨by decide, by decide⟩ rfl rfl (by decide) (by first | assumption | decide) rfl rfl rfl (fun r13 h13 => ?_)
        refine j_if_eq G 42 dX4_aboveOn_16 (by decide) (by omega) (fun c16 => ?_) (fun c16 => ?_)
        · exfalso; omega
        · refine j_aload_n G dX4_aboveOn_19 rfl ?_
          refine gf_2_1 G dX4_aboveOn_20 lf4_15 (by first | assumption | decide) ?_
          refine j_iload_n G dX4_aboveOn_23 rfl ?_
          refine al_4 G dX4_aboveOn_24 (by first | assumption | decide) (by omega) (by omega) ?_
          refine j_iload_n G dX4_aboveOn_25 rfl ?_
          refine j_icmp_le G 42 dX4_aboveOn_26 (by decide) (by omega) (by omega) (fun c26 => ?_) (fun c26 => ?_)
          · exfalso; omega
          · refine j_aload_n G dX4_aboveOn_29 rfl ?_
            refine gf_2_0 G dX4_aboveOn_30 lf4_9 (by first | assumption | decide) ?_
            refine j_iload_n G dX4_aboveOn_33 rfl ?_
            refine al_3 G dX4_aboveOn_34 (by first | assumption | decide) (by omega) (by omega) ?_
            refine j_istore_n G dX4_aboveOn_35 (by decide) rfl ?_
            refine j_iinc G dX4_aboveOn_36 rfl (by decide) rfl ?_
            refine j_goto G 5 dX4_aboveOn_39 (by decide) ?_
            exact ih (Z 3 d a) (st + 1) hp.1 hp.2.1 (by omega) (by omega) (by omega) h5
  have hm := hT.at hq.1 hq.2
  unfold MOK at hm
  refine j_iload_n G dX4_aboveOn_0 rfl ?_
  refine j_istore_n G dX4_aboveOn_1 (by decide) rfl ?_
  refine j_iconst G dX4_aboveOn_2 ?_
  refine j_istore G dX4_aboveOn_3 (by decide) rfl ?_
  exact loop _ q 0 hq.1 hq.2 (by omega) (by omega) rfl rfl
set_option maxRecDepth 100000 in
set_option maxHeartbeats 8000000 in
theorem c_X4_plant {l : Launch} {D : va_G} {cys : Nat → ClassId} {ad : Nat → Int → Nat} {L : List Nat} {g : Nat → va_E} {X : Int64} {Z : ZT} (hi : injA ad) {d lv : Int} (hd : vd 2 d) : CM l D cys ad yX4_plant cX4_plant 2 none 0 0 0 0 [.ref (ad 2 d), .int (iI lv)] L g X Z (PVZ L g X Z (fun Z' => Z' = zS (zS (zS Z 2 d 3 lv) 3 d 0 (-1)) 2 d 4 1)) := by
  refine cm_start hi (by decide +kernel) (Nat.le_of_ble_eq_true rfl) ?_
  intro p_ e_ s_ m_ args_ below_ meth_ c_ A_ Q_ hQ G hr hin
  refine j_aload_n G dX4_plant_0 rfl ?_
  refine j_iload_n G dX4_plant_1 rfl ?_
  refine pf_2_3 G dX4_plant_2 lf4_22 (by first | assumption | decide) ?_
  refine j_aload_n G dX4_plant_5 rfl ?_
  refine gf_2_0 G dX4_plant_6 lf4_9 (by first | assumption | decide) ?_
  refine j_iconst G dX4_plant_9 ?_
  refine j_iconst G dX4_plant_10 ?_
  refine as_3 G dX4_plant_11 (by first | assumption | decide) (by omega) (by omega) ?_
  refine j_aload_n G dX4_plant_12 rfl ?_
  refine j_iconst G dX4_plant_13 ?_
  refine pf_2_4 G dX4_plant_14 lf4_26 (by first | assumption | decide) ?_
  refine jr_VZ G hQ hr dX4_plant_17 (by decide) (by decide) ?_
  try simp (config := { decide := true }) only [zS_k, zS_s, zS_j, ne_eq]
  all_goals rfl
set_option maxRecDepth 100000 in
set_option maxHeartbeats 8000000 in
theorem c_X4_isLeaf {l : Launch} {D : va_G} {cys : Nat → ClassId} {ad : Nat → Int → Nat} {L : List Nat} {g : Nat → va_E} {X : Int64} {Z : ZT} (hi : injA ad) {d q : Int} (hd : vd 2 d) (hT : TOK Z d) (hq : inR q) : CM l D cys ad yX4_isLeaf cX4_isLeaf 2 (some .boolean) 1 21 0 0 [.ref (ad 2 d), .int (iI q)] L g X Z (PI L g X Z (fun r => (r = 1 ∧ 0 ≤ q ∧ q < Z 2 d 4 ∧ Z 4 d q = Z 2 d 3) ∨ (r = 0 ∧ ¬ (0 ≤ q ∧ q < Z 2 d 4 ∧ Z 4 d q = Z 2 d 3)))) := by
  refine cm_start hi (by decide +kernel) (Nat.le_of_ble_eq_true rfl) ?_
  intro p_ e_ s_ m_ args_ below_ meth_ c_ A_ Q_ hQ G hr hin
  have hT1 := hT.1
  have hm := hT.at (m := q)
  unfold MOK at hm
  refine j_aload_n G dX4_isLeaf_0 rfl ?_
  refine j_iload_n G dX4_isLeaf_1 rfl ?_
  refine j_cVI G cvX4_has ml4_29 (c_X4_has hi (by first | assumption | omega | decide) (by first | assumption | omega | decide) (by first | assumption | omega | decide)) dX4_isLeaf_2 ⟨by decide, by decide⟩ ⟨by decide, by decide⟩ rfl rfl (by decide) (by first | assumption | decide) rfl rfl rfl (fun r2 h2 => ?_)
  refine j_if_eq G 25 dX4_isLeaf_5 (by decide) (by omega) (fun c5 => ?_) (fun c5 => ?_)
  · refine j_iconst G dX4_isLeaf_25 ?_
    refine jr_B G hQ hr dX4_isLeaf_26 (by decide) (by decide) (by omega) ?_
    first | omega | (refine ⟨?_, ?_⟩ <;> (try intros) <;> first | rfl | omega | (exfalso; omega)) | simp
  · have hm := hm (by omega) (by omega)
    refine j_aload_n G dX4_isLeaf_8 rfl ?_
    refine gf_2_1 G dX4_isLeaf_9 lf4_15 (by first | assumption | decide) ?_
    refine j_iload_n G dX4_isLeaf_12 rfl ?_
    refine al_4 G dX4_isLeaf_13 (by first | assumption | decide) (by omega) (by omega) ?_
    refine j_aload_n G dX4_isLeaf_14 rfl ?_
    refine gf_2_3 G dX4_isLeaf_15 lf4_22 (by first | assumption | decide) ?_
    refine j_icmp_ne G 25 dX4_isLeaf_18 (by decide) (by omega) (by omega) (fun c18 => ?_) (fun c18 => ?_)
    · refine j_iconst G dX4_isLeaf_25 ?_
      refine jr_B G hQ hr dX4_isLeaf_26 (by decide) (by decide) (by omega) ?_
      first | omega | (refine ⟨?_, ?_⟩ <;> (try intros) <;> first | rfl | omega | (exfalso; omega)) | simp
    · refine j_iconst G dX4_isLeaf_21 ?_
      refine j_goto G 26 dX4_isLeaf_22 (by decide) ?_
      refine jr_B G hQ hr dX4_isLeaf_26 (by decide) (by decide) (by omega) ?_
      first | omega | (refine ⟨?_, ?_⟩ <;> (try intros) <;> first | rfl | omega | (exfalso; omega)) | simp
set_option maxRecDepth 100000 in
set_option maxHeartbeats 8000000 in
theorem c_X4_grow {l : Launch} {D : va_G} {cys : Nat → ClassId} {ad : Nat → Int → Nat} {L : List Nat} {g : Nat → va_E} {X : Int64} {Z : ZT} (hi : injA ad) {d q : Int} (hd : vd 2 d) (hT : TOK Z d) (hq : 0 ≤ q ∧ q < Z 2 d 4) (hf : Z 2 d 4 < 24) : CM l D cys ad yX4_grow cX4_grow 3 (some .int) 1 21 0 0 [.ref (ad 2 d), .int (iI q)] L g X Z (PIZ L g X Z (fun r Z' => r = Z 2 d 4 ∧ Z' = zS (zS (zS Z 3 d (Z 2 d 4) q) 4 d (Z 2 d 4) (Z 4 d q + 1)) 2 d 4 (Z 2 d 4 + 1))) := by
  refine cm_start hi (by decide +kernel) (Nat.le_of_ble_eq_true rfl) ?_
  intro p_ e_ s_ m_ args_ below_ meth_ c_ A_ Q_ hQ G hr hin
  have hT1 := hT.1
  refine j_aload_n G dX4_grow_0 rfl ?_
  refine j_iload_n G dX4_grow_1 rfl ?_
  refine j_cVI G cvX4_has ml4_29 (c_X4_has hi (by first | assumption | omega | decide) (by first | assumption | omega | decide) (by first | assumption | omega | decide)) dX4_grow_2 ⟨by decide, by decide⟩ ⟨by decide, by decide⟩ rfl rfl (by decide) (by first | assumption | decide) rfl rfl rfl (fun r2 h2 => ?_)
  refine j_if_eq G 15 dX4_grow_5 (by decide) (by omega) (fun c5 => ?_) (fun c5 => ?_)
  · exfalso; omega
  · refine j_aload_n G dX4_grow_8 rfl ?_
    refine j_cVI G cvX4_isFull ml4_33 (c_X4_isFull hi (by first | assumption | omega | decide) (by first | assumption | omega | decide)) dX4_grow_9 ⟨by decide, by decide⟩ ⟨by decide, by decide⟩ rfl rfl (by decide) (by first | assumption | decide) rfl rfl rfl (fun r9 h9 => ?_)
    refine j_if_eq G 17 dX4_grow_12 (by decide) (by omega) (fun c12 => ?_) (fun c12 => ?_)
    · refine j_aload_n G dX4_grow_17 rfl ?_
      refine gf_2_4 G dX4_grow_18 lf4_26 (by first | assumption | decide) ?_
      refine j_istore_n G dX4_grow_21 (by decide) rfl ?_
      refine j_aload_n G dX4_grow_22 rfl ?_
      refine gf_2_0 G dX4_grow_23 lf4_9 (by first | assumption | decide) ?_
      refine j_iload_n G dX4_grow_26 rfl ?_
      refine j_iload_n G dX4_grow_27 rfl ?_
      refine as_3 G dX4_grow_28 (by first | assumption | decide) (by omega) (by omega) ?_
      refine j_aload_n G dX4_grow_29 rfl ?_
      refine gf_2_1 G dX4_grow_30 lf4_15 (by first | assumption | decide) ?_
      refine j_iload_n G dX4_grow_33 rfl ?_
      refine j_aload_n G dX4_grow_34 rfl ?_
      refine gf_2_1 G dX4_grow_35 lf4_15 (by first | assumption | decide) ?_
      refine j_iload_n G dX4_grow_38 rfl ?_
      refine al_4 G dX4_grow_39 (by first | assumption | decide) (by omega) (by omega) ?_
      try simp (config := { decide := true }) only [zS_k, zS_s, zS_j, ne_eq]
      refine j_iconst G dX4_grow_40 ?_
      refine j_iadd G dX4_grow_41 ?_
      refine as_4 G dX4_grow_42 (by first | assumption | decide) (by omega) (by omega) ?_
      refine j_aload_n G dX4_grow_43 rfl ?_
      refine j_dup G dX4_grow_44 rfl ?_
      refine gf_2_4 G dX4_grow_45 lf4_26 (by first | assumption | decide) ?_
      try simp (config := { decide := true }) only [zS_k, zS_s, zS_j, ne_eq]
      refine j_iconst G dX4_grow_48 ?_
      refine j_iadd G dX4_grow_49 ?_
      refine pf_2_4 G dX4_grow_50 lf4_26 (by first | assumption | decide) ?_
      refine j_iload_n G dX4_grow_53 rfl ?_
      refine jr_IZ G hQ hr dX4_grow_54 (by decide) (by decide) ?_
      try simp (config := { decide := true }) only [zS_k, zS_s, zS_j, ne_eq]
      all_goals exact ⟨rfl, rfl⟩
    · exfalso; omega
set_option maxRecDepth 100000 in
set_option maxHeartbeats 8000000 in
theorem c_X4_leaveNothingOut {l : Launch} {D : va_G} {cys : Nat → ClassId} {ad : Nat → Int → Nat} {L : List Nat} {g : Nat → va_E} {X : Int64} {Z : ZT} (hi : injA ad) {d : Int} (hd : vd 2 d) : CM l D cys ad yX4_leaveNothingOut cX4_leaveNothingOut 2 none 0 0 0 0 [.ref (ad 2 d)] L g X Z (PVZ L g X Z (fun Z' => (∀ k i, ¬ (k = 5 ∧ i = d) → Z' k i = Z k i) ∧ ∀ j, 0 ≤ j → j < 24 → Z' 5 d j = 0)) := by
  refine cm_start hi (by decide +kernel) (Nat.le_of_ble_eq_true rfl) ?_
  intro p_ e_ s_ m_ args_ below_ meth_ c_ A_ Q_ hQ G hr hin
  have loop : ∀ (n : Nat) (a : Int) (Y : ZT), 0 ≤ a → a ≤ 24 → (24 - a).toNat = n → (∀ k i, ¬ (k = 5 ∧ i = d) → Y k i = Z k i) → (∀ j, 0 ≤ j → j < a → Y 5 d j = 0) → JJ p_ l e_ { frames := 0, cells := 0, slots := 0, locals := 0 } s_ m_ args_ below_ meth_ c_ D cys ad A_ Q_ 2 0 0 L g X Y 2 [(0, .ref (ad 2 d)), (1, .int (iI a))] [] := by
    intro n
    induction n with
    | zero =>
      intro a Y h0 h1 h2 h3 h4
      refine j_iload_n G dX4_leaveNothingOut_2 rfl ?_
      refine j_bipush G dX4_leaveNothingOut_3 (by decide +kernel) ?_
      refine j_icmp_ge G 21 dX4_leaveNothingOut_5 (by decide) (by omega) (by omega) (fun c5 => ?_) (fun c5 => ?_)
      · refine jr_VZ G hQ hr dX4_leaveNothingOut_21 (by decide) (by decide) ?_
        exact ⟨h3, fun j j0 j1 => h4 j j0 (by omega)⟩
      · exfalso; omega
    | succ n ih =>
      intro a Y h0 h1 h2 h3 h4
      refine j_iload_n G dX4_leaveNothingOut_2 rfl ?_
      refine j_bipush G dX4_leaveNothingOut_3 (by decide +kernel) ?_
      refine j_icmp_ge G 21 dX4_leaveNothingOut_5 (by decide) (by omega) (by omega) (fun c5 => ?_) (fun c5 => ?_)
      · exfalso; omega
      · refine j_aload_n G dX4_leaveNothingOut_8 rfl ?_
        refine gf_2_2 G dX4_leaveNothingOut_9 lf4_18 (by first | assumption | decide) ?_
        refine j_iload_n G dX4_leaveNothingOut_12 rfl ?_
        refine j_iconst G dX4_leaveNothingOut_13 ?_
        refine as_5 G dX4_leaveNothingOut_14 (by first | assumption | decide) (by omega) (by omega) (by omega) ?_
        refine j_iinc G dX4_leaveNothingOut_15 rfl (by decide) rfl ?_
        refine j_goto G 2 dX4_leaveNothingOut_18 (by decide) ?_
        refine ih (a + 1) _ (by omega) (by omega) (by omega) (fun k i hk => ?_) (fun j j0 j1 => ?_)
        · rw [zS_o hk]; exact h3 k i hk
        · rw [zS_v]
          split
          · rfl
          · exact h4 j j0 (by omega)
  refine j_iconst G dX4_leaveNothingOut_0 ?_
  refine j_istore_n G dX4_leaveNothingOut_1 (by decide) rfl ?_
  exact loop _ 0 Z (by omega) (by omega) rfl (fun _ _ _ => rfl) (fun j a b => by omega)
set_option maxRecDepth 100000 in
set_option maxHeartbeats 8000000 in
theorem c_X4_depthOfChildren {l : Launch} {D : va_G} {cys : Nat → ClassId} {ad : Nat → Int → Nat} {L : List Nat} {g : Nat → va_E} {X : Int64} {Z : ZT} (hi : injA ad) {d : Int} (hd : vd 2 d) (hT : TOK Z d) : CM l D cys ad yX4_depthOfChildren cX4_depthOfChildren 1 (some .int) 1 21 0 0 [.ref (ad 2 d)] L g X Z (PI L g X Z (fun r => r = Z 4 d (Z 2 d 5) + 1)) := by
  refine cm_start hi (by decide +kernel) (Nat.le_of_ble_eq_true rfl) ?_
  intro p_ e_ s_ m_ args_ below_ meth_ c_ A_ Q_ hQ G hr hin
  have hT1 := hT.1
  refine j_aload_n G dX4_depthOfChildren_0 rfl ?_
  refine j_aload_n G dX4_depthOfChildren_1 rfl ?_
  refine gf_2_5 G dX4_depthOfChildren_2 lf4_37 (by first | assumption | decide) ?_
  refine j_cVI G cvX4_has ml4_29 (c_X4_has hi (by first | assumption | omega | decide) (by first | assumption | omega | decide) (by first | assumption | omega | decide)) dX4_depthOfChildren_5 ⟨by decide, by decide⟩ ⟨by decide, by decide⟩ rfl rfl (by decide) (by first | assumption | decide) rfl rfl rfl (fun r5 h5 => ?_)
  refine j_if_eq G 25 dX4_depthOfChildren_8 (by decide) (by omega) (fun c8 => ?_) (fun c8 => ?_)
  · exfalso; omega
  · refine j_aload_n G dX4_depthOfChildren_11 rfl ?_
    refine gf_2_1 G dX4_depthOfChildren_12 lf4_15 (by first | assumption | decide) ?_
    refine j_aload_n G dX4_depthOfChildren_15 rfl ?_
    refine gf_2_5 G dX4_depthOfChildren_16 lf4_37 (by first | assumption | decide) ?_
    refine al_4 G dX4_depthOfChildren_19 (by first | assumption | decide) (by omega) (by omega) ?_
    refine j_iconst G dX4_depthOfChildren_20 ?_
    refine j_iadd G dX4_depthOfChildren_21 ?_
    refine j_goto G 26 dX4_depthOfChildren_22 (by decide) ?_
    refine jr_I G hQ hr dX4_depthOfChildren_26 (by decide) (by decide) ?_
    first | omega | (refine ⟨?_, ?_⟩ <;> (try intros) <;> first | rfl | omega | (exfalso; omega)) | simp
set_option maxRecDepth 100000 in
set_option maxHeartbeats 8000000 in
theorem c_X4_childFrom {l : Launch} {D : va_G} {cys : Nat → ClassId} {ad : Nat → Int → Nat} {L : List Nat} {g : Nat → va_E} {X : Int64} {Z : ZT} (hi : injA ad) {d q st : Int} (hd : vd 2 d) (hT : TOK Z d) (hq : inR q) (hs : 0 ≤ st ∧ st ≤ 24) : CM l D cys ad yX4_childFrom cX4_childFrom 4 (some .int) 0 0 0 0 [.ref (ad 2 d), .int (iI q), .int (iI st)] L g X Z (PI L g X Z (fun r => (st ≤ r ∧ r < Z 2 d 4 ∧ Z 3 d r = q ∧ ∀ j, st ≤ j → j < r → Z 3 d j ≠ q) ∨ (r = -1 ∧ ∀ j, st ≤ j → j < Z 2 d 4 → Z 3 d j ≠ q))) := by
  refine cm_start hi (by decide +kernel) (Nat.le_of_ble_eq_true rfl) ?_
  intro p_ e_ s_ m_ args_ below_ meth_ c_ A_ Q_ hQ G hr hin
  have hT1 := hT.1
  have loop : ∀ (n : Nat) (a : Int), st ≤ a → a ≤ 24 → (24 - a).toNat = n → (∀ j, st ≤ j → j < a → Z 3 d j ≠ q) → JJ p_ l e_ { frames := 0, cells := 0, slots := 0, locals := 0 } s_ m_ args_ below_ meth_ c_ D cys ad A_ Q_ 4 0 0 L g X Z 2 [(0, .ref (ad 2 d)), (1, .int (iI q)), (2, .int (iI st)), (3, .int (iI a))] [] := by
    intro n
    induction n with
    | zero =>
      intro a h0 h1 h2 h3
      refine j_iload_n G dX4_childFrom_2 rfl ?_
      refine j_aload_n G dX4_childFrom_3 rfl ?_
      refine gf_2_4 G dX4_childFrom_4 lf4_26 (by first | assumption | decide) ?_
      refine j_icmp_ge G 28 dX4_childFrom_7 (by decide) (by omega) (by omega) (fun c7 => ?_) (fun c7 => ?_)
      · refine j_iconst G dX4_childFrom_28 ?_
        refine jr_I G hQ hr dX4_childFrom_29 (by decide) (by decide) ?_
        exact Or.inr ⟨rfl, fun j h4 h5 => h3 j h4 (by omega)⟩
      · exfalso; omega
    | succ n ih =>
      intro a h0 h1 h2 h3
      have hp := hT.par (m := a)
      refine j_iload_n G dX4_childFrom_2 rfl ?_
      refine j_aload_n G dX4_childFrom_3 rfl ?_
      refine gf_2_4 G dX4_childFrom_4 lf4_26 (by first | assumption | decide) ?_
      refine j_icmp_ge G 28 dX4_childFrom_7 (by decide) (by omega) (by omega) (fun c7 => ?_) (fun c7 => ?_)
      · refine j_iconst G dX4_childFrom_28 ?_
        refine jr_I G hQ hr dX4_childFrom_29 (by decide) (by decide) ?_
        exact Or.inr ⟨rfl, fun j h4 h5 => h3 j h4 (by omega)⟩
      · have hp := hp (by omega) (by omega)
        refine j_aload_n G dX4_childFrom_10 rfl ?_
        refine gf_2_0 G dX4_childFrom_11 lf4_9 (by first | assumption | decide) ?_
        refine j_iload_n G dX4_childFrom_14 rfl ?_
        refine al_3 G dX4_childFrom_15 (by first | assumption | decide) (by omega) (by omega) ?_
        refine j_iload_n G dX4_childFrom_16 rfl ?_
        refine j_icmp_ne G 22 dX4_childFrom_17 (by decide) (by omega) (by omega) (fun c17 => ?_) (fun c17 => ?_)
        · refine j_iinc G dX4_childFrom_22 rfl (by decide) rfl ?_
          refine j_goto G 2 dX4_childFrom_25 (by decide) ?_
          refine ih (a + 1) (by omega) (by omega) (by omega) (fun j h4 h5 => ?_)
          by_cases e : j = a
          · subst e; assumption
          · exact h3 j h4 (by omega)
        · refine j_iload_n G dX4_childFrom_20 rfl ?_
          skip
          refine jr_I G hQ hr dX4_childFrom_21 (by decide) (by decide) ?_
          exact Or.inl ⟨h0, by omega, by omega, h3⟩
  refine j_iload_n G dX4_childFrom_0 rfl ?_
  refine j_istore_n G dX4_childFrom_1 (by decide) rfl ?_
  exact loop _ st (by omega) (by omega) rfl (fun j h4 h5 => by omega)
set_option maxRecDepth 100000 in
set_option maxHeartbeats 8000000 in
theorem c_X4_nextInWalk {l : Launch} {D : va_G} {cys : Nat → ClassId} {ad : Nat → Int → Nat} {L : List Nat} {g : Nat → va_E} {X : Int64} {Z : ZT} (hi : injA ad) {d q top : Int} (hd : vd 2 d) (hT : TOK Z d) (hq : 0 ≤ q ∧ q < Z 2 d 4) (htop : 0 ≤ top ∧ top < Z 2 d 4) (hb : bel Z d q top) : CM l D cys ad yX4_nextInWalk cX4_nextInWalk 6 (some .int) 1 23 0 0 [.ref (ad 2 d), .int (iI q), .int (iI top)] L g X Z (PI L g X Z (fun r => (0 ≤ r ∧ r < Z 2 d 4 ∧ bel Z d r top ∧ nxt Z d top q = pre Z d r ++ aft Z d top r) ∨ (r = -1 ∧ nxt Z d top q = []))) := by
  refine cm_start hi (by decide +kernel) (Nat.le_of_ble_eq_true rfl) ?_
  intro p_ e_ s_ m_ args_ below_ meth_ c_ A_ Q_ hQ G hr hin
  have hT1 := hT.1
  have loop : ∀ (n : Nat) (a r st : Int), 0 ≤ a → a < Z 2 d 4 → bel Z d a top → 0 ≤ st → st + Z 4 d a ≤ 3 → (Z 4 d a).toNat = n → ((0 ≤ r ∧ r < Z 2 d 4 ∧ bel Z d r top ∧ nxt Z d top q = pre Z d r ++ aft Z d top r) ∨ (r = -1 ∧ nxt Z d top q = aft Z d top a)) → JJ p_ l e_ { frames := 1, cells := 0, slots := 0, locals := 23 } s_ m_ args_ below_ meth_ c_ D cys ad A_ Q_ 6 0 0 L g X Z 13 [(0, .ref (ad 2 d)), (1, .int (iI q)), (2, .int (iI top)), (3, .int (iI r)), (4, .int (iI a)), (5, .int (iI st))] [] := by
    intro n
    induction n with
    | zero =>
      intro a r st h0 h1 h2 h3 h4 h5 h6
      have hm := hT.at h0 h1
      have ht := hT.at htop.1 htop.2
      unfold MOK at hm ht
      have ha : a = 0 := by omega
      have hr6 : inR r := by rcases h6 with h6 | h6 <;> omega
      have htt : top = a := by
        have := h2.1
        omega
      refine j_iload G dX4_nextInWalk_13 rfl ?_
      refine j_iconst G dX4_nextInWalk_15 ?_
      refine j_icmp_ge G 70 dX4_nextInWalk_16 (by decide) (by omega) (by omega) (fun c16 => ?_) (fun c16 => ?_)
      · have h7 : ((0 ≤ r ∧ r < Z 2 d 4 ∧ bel Z d r top ∧ nxt Z d top q = pre Z d r ++ aft Z d top r) ∨ (r = -1 ∧ nxt Z d top q = [])) := by
          rcases h6 with h6 | h6
          · exact Or.inl h6
          · refine Or.inr ⟨h6.1, ?_⟩
            rw [h6.2, htt]; exact aft_top
        refine j_iload_n G dX4_nextInWalk_70 rfl ?_
        refine jr_I G hQ hr dX4_nextInWalk_71 (by decide) (by decide) ?_
        exact h7
      · refine j_iload_n G dX4_nextInWalk_19 rfl ?_
        refine j_iconst G dX4_nextInWalk_20 ?_
        refine j_icmp_ne G 70 dX4_nextInWalk_21 (by decide) (by omega) (by omega) (fun c21 => ?_) (fun c21 => ?_)
        · have h7 : ((0 ≤ r ∧ r < Z 2 d 4 ∧ bel Z d r top ∧ nxt Z d top q = pre Z d r ++ aft Z d top r) ∨ (r = -1 ∧ nxt Z d top q = [])) := by
            rcases h6 with h6 | h6
            · exact Or.inl h6
            · refine Or.inr ⟨h6.1, ?_⟩
              rw [h6.2, htt]; exact aft_top
          refine j_iload_n G dX4_nextInWalk_70 rfl ?_
          refine jr_I G hQ hr dX4_nextInWalk_71 (by decide) (by decide) ?_
          exact h7
        · refine j_iload G dX4_nextInWalk_24 rfl ?_
          refine j_iload_n G dX4_nextInWalk_26 rfl ?_
          refine j_icmp_eq G 70 dX4_nextInWalk_27 (by decide) (by omega) (by omega) (fun c27 => ?_) (fun c27 => ?_)
          · have h7 : ((0 ≤ r ∧ r < Z 2 d 4 ∧ bel Z d r top ∧ nxt Z d top q = pre Z d r ++ aft Z d top r) ∨ (r = -1 ∧ nxt Z d top q = [])) := by
              rcases h6 with h6 | h6
              · exact Or.inl h6
              · refine Or.inr ⟨h6.1, ?_⟩
                rw [h6.2, htt]; exact aft_top
            refine j_iload_n G dX4_nextInWalk_70 rfl ?_
            refine jr_I G hQ hr dX4_nextInWalk_71 (by decide) (by decide) ?_
            exact h7
          · exfalso; omega
    | succ n ih =>
      intro a r st h0 h1 h2 h3 h4 h5 h6
      have hm := hT.at h0 h1
      unfold MOK at hm
      have hr6 : inR r := by rcases h6 with h6 | h6 <;> omega
      have ha : 0 < a := by omega
      have hp := hm.2.2.2 ha
      have hdep : top ≠ a → Z 4 d top < Z 4 d a := by
        intro z
        rcases Int.lt_or_eq_of_le h2.1 with w | w
        · exact w
        · exact absurd (bel_uniq h2 (bel_rf Z d a) w) z
      have hbp : top ≠ a → bel Z d (Z 3 d a) top := by
        intro z
        have w := hdep z
        refine ⟨by omega, ?_⟩
        have e := h2.2
        rw [show (Z 4 d a - Z 4 d top).toNat = (Z 4 d (Z 3 d a) - Z 4 d top).toNat + 1 by omega] at e
        exact e
      refine j_iload G dX4_nextInWalk_13 rfl ?_
      refine j_iconst G dX4_nextInWalk_15 ?_
      refine j_icmp_ge G 70 dX4_nextInWalk_16 (by decide) (by omega) (by omega) (fun c16 => ?_) (fun c16 => ?_)
      · have h7 : ((0 ≤ r ∧ r < Z 2 d 4 ∧ bel Z d r top ∧ nxt Z d top q = pre Z d r ++ aft Z d top r) ∨ (r = -1 ∧ nxt Z d top q = [])) := by
          rcases h6 with h6 | h6
          · exact Or.inl h6
          · first
            | (exfalso; omega)
            | (refine Or.inr ⟨h6.1, ?_⟩
               rw [h6.2, show top = a by omega]; exact aft_top)
        refine j_iload_n G dX4_nextInWalk_70 rfl ?_
        refine jr_I G hQ hr dX4_nextInWalk_71 (by decide) (by decide) ?_
        exact h7
      · refine j_iload_n G dX4_nextInWalk_19 rfl ?_
        refine j_iconst G dX4_nextInWalk_20 ?_
        refine j_icmp_ne G 70 dX4_nextInWalk_21 (by decide) (by omega) (by omega) (fun c21 => ?_) (fun c21 => ?_)
        · have h7 : ((0 ≤ r ∧ r < Z 2 d 4 ∧ bel Z d r top ∧ nxt Z d top q = pre Z d r ++ aft Z d top r) ∨ (r = -1 ∧ nxt Z d top q = [])) := by
            rcases h6 with h6 | h6
            · exact Or.inl h6
            · first
              | (exfalso; omega)
              | (refine Or.inr ⟨h6.1, ?_⟩
                 rw [h6.2, show top = a by omega]; exact aft_top)
          refine j_iload_n G dX4_nextInWalk_70 rfl ?_
          refine jr_I G hQ hr dX4_nextInWalk_71 (by decide) (by decide) ?_
          exact h7
        · refine j_iload G dX4_nextInWalk_24 rfl ?_
          refine j_iload_n G dX4_nextInWalk_26 rfl ?_
          refine j_icmp_eq G 70 dX4_nextInWalk_27 (by decide) (by omega) (by omega) (fun c27 => ?_) (fun c27 => ?_)
          · have h7 : ((0 ≤ r ∧ r < Z 2 d 4 ∧ bel Z d r top ∧ nxt Z d top q = pre Z d r ++ aft Z d top r) ∨ (r = -1 ∧ nxt Z d top q = [])) := by
              rcases h6 with h6 | h6
              · exact Or.inl h6
              · first
                | (exfalso; omega)
                | (refine Or.inr ⟨h6.1, ?_⟩
                   rw [h6.2, show top = a by omega]; exact aft_top)
            refine j_iload_n G dX4_nextInWalk_70 rfl ?_
            refine jr_I G hQ hr dX4_nextInWalk_71 (by decide) (by decide) ?_
            exact h7
          · have h7 : r = -1 ∧ nxt Z d top q = aft Z d top a := by
              rcases h6 with h6 | h6
              · exfalso; omega
              · exact h6
            have hta : top ≠ a := by omega
            have hdep := hdep hta
            have hbp := hbp hta
            refine j_aload_n G dX4_nextInWalk_30 rfl ?_
            refine j_iload G dX4_nextInWalk_31 rfl ?_
            refine j_cVI G cvX4_has ml4_29 (c_X4_has hi (by first | assumption | omega | decide) (by first | assumption | omega | decide) (by first | assumption | omega | decide)) dX4_nextInWalk_33 ⟨by decide, by decide⟩ ⟨by decide, by decide⟩ rfl rfl (by decide) (by first | assumption | decide) rfl rfl rfl (fun r33 h33 => ?_)
            refine j_if_eq G 70 dX4_nextInWalk_36 (by decide) (by omega) (fun c36 => ?_) (fun c36 => ?_)
            · have h7 : ((0 ≤ r ∧ r < Z 2 d 4 ∧ bel Z d r top ∧ nxt Z d top q = pre Z d r ++ aft Z d top r) ∨ (r = -1 ∧ nxt Z d top q = [])) := by
                rcases h6 with h6 | h6
                · exact Or.inl h6
                · first
                  | (exfalso; omega)
                  | (refine Or.inr ⟨h6.1, ?_⟩
                     rw [h6.2, show top = a by omega]; exact aft_top)
              refine j_iload_n G dX4_nextInWalk_70 rfl ?_
              refine jr_I G hQ hr dX4_nextInWalk_71 (by decide) (by decide) ?_
              exact h7
            · refine j_aload_n G dX4_nextInWalk_39 rfl ?_
              refine j_aload_n G dX4_nextInWalk_40 rfl ?_
              refine gf_2_0 G dX4_nextInWalk_41 lf4_9 (by first | assumption | decide) ?_
              refine j_iload G dX4_nextInWalk_44 rfl ?_
              refine al_3 G dX4_nextInWalk_46 (by first | assumption | decide) (by omega) (by omega) ?_
              refine j_iload G dX4_nextInWalk_47 rfl ?_
              refine j_iconst G dX4_nextInWalk_49 ?_
              refine j_iadd G dX4_nextInWalk_50 ?_
              refine j_cVI G cvX4_childFrom ml4_51 (c_X4_childFrom hi (by first | assumption | omega | decide) (by first | assumption | omega | decide) (by first | assumption | omega | decide) (by first | assumption | omega | decide)) dX4_nextInWalk_51 ⟨by decide, by decide⟩ ⟨by decide, by decide⟩ rfl rfl (by decide) (by first | assumption | decide) rfl rfl rfl (fun r51 h51 => ?_)
              refine j_istore_n G dX4_nextInWalk_54 (by decide) rfl ?_
              refine j_aload_n G dX4_nextInWalk_55 rfl ?_
              refine gf_2_0 G dX4_nextInWalk_56 lf4_9 (by first | assumption | decide) ?_
              refine j_iload G dX4_nextInWalk_59 rfl ?_
              refine al_3 G dX4_nextInWalk_61 (by first | assumption | decide) (by omega) (by omega) ?_
              refine j_istore G dX4_nextInWalk_62 (by decide) rfl ?_
              refine j_iinc G dX4_nextInWalk_64 rfl (by decide) rfl ?_
              refine j_goto G 13 dX4_nextInWalk_67 (by decide) ?_
              refine ih (Z 3 d a) r51 (st + 1) hp.1 hp.2.1 hbp (by omega) (by omega) (by omega) ?_
              rcases h51 with w | w
              · refine Or.inl ⟨by omega, w.2.1, ?_, ?_⟩
                · have k := kid_dep hT hp.1 (by omega) w.2.1 w.2.2.1
                  refine ⟨by omega, ?_⟩
                  rw [show (Z 4 d r51 - Z 4 d top).toNat = (Z 4 d (Z 3 d a) - Z 4 d top).toNat + 1 by omega]
                  show ancF _ _ (Z 3 d r51) = _
                  rw [w.2.2.1]
                  exact hbp.2
                · rw [h7.2]
                  exact aft_sib hT ha h1 hdep w.1 w.2.1 w.2.2.1 w.2.2.2
              · refine Or.inr ⟨w.1, ?_⟩
                rw [h7.2]
                exact aft_up hT ha h1 hdep w.2
  have hm := hT.at hq.1 hq.2
  unfold MOK at hm
  refine j_aload_n G dX4_nextInWalk_0 rfl ?_
  refine j_iload_n G dX4_nextInWalk_1 rfl ?_
  refine j_iconst G dX4_nextInWalk_2 ?_
  refine j_cVI G cvX4_childFrom ml4_51 (c_X4_childFrom hi (by first | assumption | omega | decide) (by first | assumption | omega | decide) (by first | assumption | omega | decide) (by first | assumption | omega | decide)) dX4_nextInWalk_3 ⟨by decide, by decide⟩ ⟨by decide, by decide⟩ rfl rfl (by decide) (by first | assumption | decide) rfl rfl rfl (fun r3 h3 => ?_)
  refine j_istore_n G dX4_nextInWalk_6 (by decide) rfl ?_
  refine j_iload_n G dX4_nextInWalk_7 rfl ?_
  refine j_istore G dX4_nextInWalk_8 (by decide) rfl ?_
  refine j_iconst G dX4_nextInWalk_10 ?_
  refine j_istore G dX4_nextInWalk_11 (by decide) rfl ?_
  refine loop _ q r3 0 hq.1 hq.2 hb (by omega) (by omega) rfl ?_
  rcases h3 with w | w
  · refine Or.inl ⟨by omega, w.2.1, ?_, ?_⟩
    · have k := kid_dep hT hq.1 (by omega) w.2.1 w.2.2.1
      refine ⟨by have := hb.1; omega, ?_⟩
      rw [show (Z 4 d r3 - Z 4 d top).toNat = (Z 4 d q - Z 4 d top).toNat + 1 by have := hb.1; omega]
      show ancF _ _ (Z 3 d r3) = _
      rw [w.2.2.1]
      exact hb.2
    · exact nxt_kid hT hq.1 hb.1 (by omega) w.2.1 w.2.2.1 (fun j j0 j1 => w.2.2.2 j j0 j1)
  · refine Or.inr ⟨w.1, ?_⟩
    unfold nxt
    rw [sibs_nil w.2]
    rfl
end
section
theorem dX4_isSeen_0 : decode cX4_isSeen 0 = .ok (.iconst 0, 1) := by decide +kernel
theorem dX4_isSeen_1 : decode cX4_isSeen 1 = .ok (.istore_n 2, 1) := by decide +kernel
theorem dX4_isSeen_2 : decode cX4_isSeen 2 = .ok (.iload_n 1, 1) := by decide +kernel
theorem dX4_isSeen_3 : decode cX4_isSeen 3 = .ok (.istore_n 3, 1) := by decide +kernel
theorem dX4_isSeen_4 : decode cX4_isSeen 4 = .ok (.iconst 0, 1) := by decide +kernel
theorem dX4_isSeen_5 : decode cX4_isSeen 5 = .ok (.istore 4, 2) := by decide +kernel
theorem dX4_isSeen_7 : decode cX4_isSeen 7 = .ok (.iload 4, 2) := by decide +kernel
theorem dX4_isSeen_9 : decode cX4_isSeen 9 = .ok (.iconst 3, 1) := by decide +kernel
theorem dX4_isSeen_10 : decode cX4_isSeen 10 = .ok (.if_icmp .gt 45, 3) := by decide +kernel
theorem dX4_isSeen_13 : decode cX4_isSeen 13 = .ok (.aload_n 0, 1) := by decide +kernel
theorem dX4_isSeen_14 : decode cX4_isSeen 14 = .ok (.iload_n 3, 1) := by decide +kernel
theorem dX4_isSeen_15 : decode cX4_isSeen 15 = .ok (.invokevirtual 29, 3) := by decide +kernel
theorem dX4_isSeen_18 : decode cX4_isSeen 18 = .ok (.ifCond .eq 37, 3) := by decide +kernel
theorem dX4_isSeen_21 : decode cX4_isSeen 21 = .ok (.aload_n 0, 1) := by decide +kernel
theorem dX4_isSeen_22 : decode cX4_isSeen 22 = .ok (.getfield 18, 3) := by decide +kernel
theorem dX4_isSeen_25 : decode cX4_isSeen 25 = .ok (.iload_n 3, 1) := by decide +kernel
theorem dX4_isSeen_26 : decode cX4_isSeen 26 = .ok (.baload, 1) := by decide +kernel
theorem dX4_isSeen_27 : decode cX4_isSeen 27 = .ok (.ifCond .eq 5, 3) := by decide +kernel
theorem dX4_isSeen_30 : decode cX4_isSeen 30 = .ok (.iconst 0, 1) := by decide +kernel
theorem dX4_isSeen_31 : decode cX4_isSeen 31 = .ok (.ireturn, 1) := by decide +kernel
theorem dX4_isSeen_32 : decode cX4_isSeen 32 = .ok (.iload_n 3, 1) := by decide +kernel
theorem dX4_isSeen_33 : decode cX4_isSeen 33 = .ok (.aload_n 0, 1) := by decide +kernel
theorem dX4_isSeen_34 : decode cX4_isSeen 34 = .ok (.getfield 37, 3) := by decide +kernel
theorem dX4_isSeen_37 : decode cX4_isSeen 37 = .ok (.if_icmp .ne 5, 3) := by decide +kernel
theorem dX4_isSeen_40 : decode cX4_isSeen 40 = .ok (.iconst 1, 1) := by decide +kernel
theorem dX4_isSeen_41 : decode cX4_isSeen 41 = .ok (.istore_n 2, 1) := by decide +kernel
theorem dX4_isSeen_42 : decode cX4_isSeen 42 = .ok (.aload_n 0, 1) := by decide +kernel
theorem dX4_isSeen_43 : decode cX4_isSeen 43 = .ok (.getfield 9, 3) := by decide +kernel
theorem dX4_isSeen_46 : decode cX4_isSeen 46 = .ok (.iload_n 3, 1) := by decide +kernel
theorem dX4_isSeen_47 : decode cX4_isSeen 47 = .ok (.iaload, 1) := by decide +kernel
theorem dX4_isSeen_48 : decode cX4_isSeen 48 = .ok (.istore_n 3, 1) := by decide +kernel
theorem dX4_isSeen_49 : decode cX4_isSeen 49 = .ok (.iinc 4 1, 3) := by decide +kernel
theorem dX4_isSeen_52 : decode cX4_isSeen 52 = .ok (.goto (-45), 3) := by decide +kernel
theorem dX4_isSeen_55 : decode cX4_isSeen 55 = .ok (.iload_n 2, 1) := by decide +kernel
theorem dX4_isSeen_56 : decode cX4_isSeen 56 = .ok (.ireturn, 1) := by decide +kernel
theorem dX4_listBeneath_0 : decode cX4_listBeneath 0 = .ok (.aload_n 3, 1) := by decide +kernel
theorem dX4_listBeneath_1 : decode cX4_listBeneath 1 = .ok (.iconst 0, 1) := by decide +kernel
theorem dX4_listBeneath_2 : decode cX4_listBeneath 2 = .ok (.putfield 40, 3) := by decide +kernel
theorem dX4_listBeneath_5 : decode cX4_listBeneath 5 = .ok (.iload_n 1, 1) := by decide +kernel
theorem dX4_listBeneath_6 : decode cX4_listBeneath 6 = .ok (.istore 4, 2) := by decide +kernel
theorem dX4_listBeneath_8 : decode cX4_listBeneath 8 = .ok (.iconst 0, 1) := by decide +kernel
theorem dX4_listBeneath_9 : decode cX4_listBeneath 9 = .ok (.istore 5, 2) := by decide +kernel
theorem dX4_listBeneath_11 : decode cX4_listBeneath 11 = .ok (.iload 5, 2) := by decide +kernel
theorem dX4_listBeneath_13 : decode cX4_listBeneath 13 = .ok (.aload_n 0, 1) := by decide +kernel
theorem dX4_listBeneath_14 : decode cX4_listBeneath 14 = .ok (.getfield 26, 3) := by decide +kernel
theorem dX4_listBeneath_17 : decode cX4_listBeneath 17 = .ok (.if_icmp .ge 44, 3) := by decide +kernel
theorem dX4_listBeneath_20 : decode cX4_listBeneath 20 = .ok (.aload_n 0, 1) := by decide +kernel
theorem dX4_listBeneath_21 : decode cX4_listBeneath 21 = .ok (.iload 4, 2) := by decide +kernel
theorem dX4_listBeneath_23 : decode cX4_listBeneath 23 = .ok (.invokevirtual 29, 3) := by decide +kernel
theorem dX4_listBeneath_26 : decode cX4_listBeneath 26 = .ok (.ifCond .eq 35, 3) := by decide +kernel
theorem dX4_listBeneath_29 : decode cX4_listBeneath 29 = .ok (.aload_n 0, 1) := by decide +kernel
theorem dX4_listBeneath_30 : decode cX4_listBeneath 30 = .ok (.getfield 15, 3) := by decide +kernel
theorem dX4_listBeneath_33 : decode cX4_listBeneath 33 = .ok (.iload 4, 2) := by decide +kernel
theorem dX4_listBeneath_35 : decode cX4_listBeneath 35 = .ok (.iaload, 1) := by decide +kernel
theorem dX4_listBeneath_36 : decode cX4_listBeneath 36 = .ok (.iload_n 2, 1) := by decide +kernel
theorem dX4_listBeneath_37 : decode cX4_listBeneath 37 = .ok (.if_icmp .ne 9, 3) := by decide +kernel
theorem dX4_listBeneath_40 : decode cX4_listBeneath 40 = .ok (.aload_n 3, 1) := by decide +kernel
theorem dX4_listBeneath_41 : decode cX4_listBeneath 41 = .ok (.iload 4, 2) := by decide +kernel
theorem dX4_listBeneath_43 : decode cX4_listBeneath 43 = .ok (.invokevirtual 43, 3) := by decide +kernel
theorem dX4_listBeneath_46 : decode cX4_listBeneath 46 = .ok (.aload_n 0, 1) := by decide +kernel
theorem dX4_listBeneath_47 : decode cX4_listBeneath 47 = .ok (.iload 4, 2) := by decide +kernel
theorem dX4_listBeneath_49 : decode cX4_listBeneath 49 = .ok (.iload_n 1, 1) := by decide +kernel
theorem dX4_listBeneath_50 : decode cX4_listBeneath 50 = .ok (.invokevirtual 47, 3) := by decide +kernel
theorem dX4_listBeneath_53 : decode cX4_listBeneath 53 = .ok (.istore 4, 2) := by decide +kernel
theorem dX4_listBeneath_55 : decode cX4_listBeneath 55 = .ok (.iinc 5 1, 3) := by decide +kernel
theorem dX4_listBeneath_58 : decode cX4_listBeneath 58 = .ok (.goto (-47), 3) := by decide +kernel
theorem dX4_listBeneath_61 : decode cX4_listBeneath 61 = .ok (.return_, 1) := by decide +kernel
/-! by program: wip/whole/gen.py out of wip/whole/src/12.tree2.eb -/
/-! Tree: what is seen; the list of a level -/
set_option maxRecDepth 100000 in
set_option maxHeartbeats 8000000 in
theorem c_X4_isSeen {l : Launch} {D : va_G} {cys : Nat → ClassId} {ad : Nat → Int → Nat} {L : List Nat} {g : Nat → va_E} {X : Int64} {Z : ZT} (hi : injA ad) {d q : Int} (hd : vd 2 d) (hT : TOK Z d) (hq : 0 ≤ q ∧ q < Z 2 d 4) : CM l D cys ad yX4_isSeen cX4_isSeen 5 (some .boolean) 1 21 0 0 [.ref (ad 2 d), .int (iI q)] L g X Z (PI L g X Z (fun r => (r = 1 ∧ seenT Z d q) ∨ (r = 0 ∧ ¬ seenT Z d q))) := by
  refine cm_start hi (by decide +kernel) (Nat.le_of_ble_eq_true rfl) ?_
  intro p_ e_ s_ m_ args_ below_ meth_ c_ A_ Q_ hQ G hr hin
  have hT1 := hT.1
  have hm := hT.at hq.1 hq.2
  unfold MOK at hm
  have hup : ∀ s : Nat, (s : Int) ≤ Z 4 d q → 0 ≤ ancF (Z 3 d) s q ∧ ancF (Z 3 d) s q < Z 2 d 4 ∧ Z 4 d (ancF (Z 3 d) s q) = Z 4 d q - s := fun s hs => anc_dep hT s q hq.1 hq.2 hs
  have loop : ∀ (n s : Nat) (a b st : Int), st = s → (s : Int) + n = Z 4 d q + 1 → (n ≠ 0 → a = ancF (Z 3 d) s q) → (n = 0 → a = -1) → ((b = 1 ∧ ∃ j : Nat, j < s ∧ ancF (Z 3 d) j q = Z 2 d 5) ∨ (b = 0 ∧ ∀ j : Nat, j < s → ancF (Z 3 d) j q ≠ Z 2 d 5)) → (∀ j : Nat, j < s → Z 5 d (ancF (Z 3 d) j q) = 0) → JJ p_ l e_ { frames := 1, cells := 0, slots := 0, locals := 21 } s_ m_ args_ below_ meth_ c_ D cys ad A_ Q_ 5 0 0 L g X Z 7 [(0, .ref (ad 2 d)), (1, .int (iI q)), (2, .int (iI b)), (3, .int (iI a)), (4, .int (iI st))] [] := by
    intro n
    induction n with
    | zero =>
      intro s a b st h0 h1 h2 h3 h4 h5
      have ha := h3 rfl
      have hb : b = 0 ∨ b = 1 := by rcases h4 with w | w <;> omega
      refine j_iload G dX4_isSeen_7 rfl ?_
      refine j_iconst G dX4_isSeen_9 ?_
      refine j_icmp_gt G 55 dX4_isSeen_10 (by decide) (by omega) (by omega) (fun c10 => ?_) (fun c10 => ?_)
      · refine j_iload_n G dX4_isSeen_55 rfl ?_
        refine jr_B G hQ hr dX4_isSeen_56 (by decide) (by decide) (by omega) ?_
        have hno : ∀ x, 0 ≤ x → x < Z 2 d 4 → Z 5 d x = 1 → ¬ bel Z d q x := by
          intro x x0 x1 x2 x3
          obtain ⟨j, j1, j2⟩ := (bel_iff hT hq.1 hq.2 x0 x1).mp x3
          have := h5 j (by omega)
          rw [j2] at this
          omega
        rcases h4 with ⟨w, j, j1, j2⟩ | ⟨w, w2⟩
        · refine Or.inl ⟨w, ?_, hno⟩
          exact (bel_iff hT hq.1 hq.2 (by omega) (by omega)).mpr ⟨j, by omega, j2⟩
        · refine Or.inr ⟨w, fun hs => ?_⟩
          obtain ⟨j, j1, j2⟩ := (bel_iff hT hq.1 hq.2 (by omega) (by omega)).mp hs.1
          exact w2 j (by omega) j2
      · refine j_aload_n G dX4_isSeen_13 rfl ?_
        refine j_iload_n G dX4_isSeen_14 rfl ?_
        refine j_cVI G cvX4_has ml4_29 (c_X4_has hi (by first | assumption | omega | decide) (by first | assumption | omega | decide) (by first | assumption | omega | decide)) dX4_isSeen_15 ⟨by decide, by decide⟩ ⟨by decide, by decide⟩ rfl rfl (by decide) (by first | assumption | decide) rfl rfl rfl (fun r15 h15 => ?_)
        refine j_if_eq G 55 dX4_isSeen_18 (by decide) (by omega) (fun c18 => ?_) (fun c18 => ?_)
        · refine j_iload_n G dX4_isSeen_55 rfl ?_
          refine jr_B G hQ hr dX4_isSeen_56 (by decide) (by decide) (by omega) ?_
          have hno : ∀ x, 0 ≤ x → x < Z 2 d 4 → Z 5 d x = 1 → ¬ bel Z d q x := by
            intro x x0 x1 x2 x3
            obtain ⟨j, j1, j2⟩ := (bel_iff hT hq.1 hq.2 x0 x1).mp x3
            have := h5 j (by omega)
            rw [j2] at this
            omega
          rcases h4 with ⟨w, j, j1, j2⟩ | ⟨w, w2⟩
          · refine Or.inl ⟨w, ?_, hno⟩
            exact (bel_iff hT hq.1 hq.2 (by omega) (by omega)).mpr ⟨j, by omega, j2⟩
          · refine Or.inr ⟨w, fun hs => ?_⟩
            obtain ⟨j, j1, j2⟩ := (bel_iff hT hq.1 hq.2 (by omega) (by omega)).mp hs.1
            exact w2 j (by omega) j2
        · exfalso; omega
    | succ n ih =>
      intro s a b st h0 h1 h2 h3 h4 h5
      have ha := h2 (by omega)
      have hu := hup s (by omega)
      rw [← ha] at hu
      have hma := hT.at hu.1 hu.2.1
      unfold MOK at hma
      have ho := hT.2.2 a hu.1 (by omega)
      refine j_iload G dX4_isSeen_7 rfl ?_
      refine j_iconst G dX4_isSeen_9 ?_
      refine j_icmp_gt G 55 dX4_isSeen_10 (by decide) (by omega) (by omega) (fun c10 => ?_) (fun c10 => ?_)
      · exfalso; omega
      · refine j_aload_n G dX4_isSeen_13 rfl ?_
        refine j_iload_n G dX4_isSeen_14 rfl ?_
        refine j_cVI G cvX4_has ml4_29 (c_X4_has hi (by first | assumption | omega | decide) (by first | assumption | omega | decide) (by first | assumption | omega | decide)) dX4_isSeen_15 ⟨by decide, by decide⟩ ⟨by decide, by decide⟩ rfl rfl (by decide) (by first | assumption | decide) rfl rfl rfl (fun r15 h15 => ?_)
        refine j_if_eq G 55 dX4_isSeen_18 (by decide) (by omega) (fun c18 => ?_) (fun c18 => ?_)
        · exfalso; omega
        · refine j_aload_n G dX4_isSeen_21 rfl ?_
          refine gf_2_2 G dX4_isSeen_22 lf4_18 (by first | assumption | decide) ?_
          refine j_iload_n G dX4_isSeen_25 rfl ?_
          refine al_5 G dX4_isSeen_26 (by first | assumption | decide) (by omega) (by omega) ?_
          refine j_if_eq G 32 dX4_isSeen_27 (by decide) (by omega) (fun c27 => ?_) (fun c27 => ?_)
          · refine j_iload_n G dX4_isSeen_32 rfl ?_
            refine j_aload_n G dX4_isSeen_33 rfl ?_
            refine gf_2_5 G dX4_isSeen_34 lf4_37 (by first | assumption | decide) ?_
            refine j_icmp_ne G 42 dX4_isSeen_37 (by decide) (by omega) (by omega) (fun c37 => ?_) (fun c37 => ?_)
            · refine j_aload_n G dX4_isSeen_42 rfl ?_
              refine gf_2_0 G dX4_isSeen_43 lf4_9 (by first | assumption | decide) ?_
              refine j_iload_n G dX4_isSeen_46 rfl ?_
              refine al_3 G dX4_isSeen_47 (by first | assumption | decide) (by omega) (by omega) ?_
              refine j_istore_n G dX4_isSeen_48 (by decide) rfl ?_
              refine j_iinc G dX4_isSeen_49 rfl (by decide) rfl ?_
              refine j_goto G 7 dX4_isSeen_52 (by decide) ?_
              refine ih (s + 1) (Z 3 d a) _ (st + 1) (by omega) (by omega) (fun hn => ?_) (fun hn => ?_) ?_ (fun j j1 => ?_)
              · rw [ha, ancF_add]; rfl
              · have : a = 0 := hma.2.2.1.mp (by omega)
                rw [this]; exact hT1.2.2.2.2.2.2
              · first
                | (refine Or.inl ⟨rfl, s, by omega, ?_⟩
                   rw [← ha]; assumption)
                | (rcases h4 with ⟨w, j, j1, j2⟩ | ⟨w, w2⟩
                   · exact Or.inl ⟨w, j, by omega, j2⟩
                   · refine Or.inr ⟨w, fun j j1 => ?_⟩
                     by_cases e : j = s
                     · rw [e, ← ha]; assumption
                     · exact w2 j (by omega))
              · by_cases e : j = s
                · rw [e, ← ha]; omega
                · exact h5 j (by omega)
            · refine j_iconst G dX4_isSeen_40 ?_
              refine j_istore_n G dX4_isSeen_41 (by decide) rfl ?_
              refine j_aload_n G dX4_isSeen_42 rfl ?_
              refine gf_2_0 G dX4_isSeen_43 lf4_9 (by first | assumption | decide) ?_
              refine j_iload_n G dX4_isSeen_46 rfl ?_
              refine al_3 G dX4_isSeen_47 (by first | assumption | decide) (by omega) (by omega) ?_
              refine j_istore_n G dX4_isSeen_48 (by decide) rfl ?_
              refine j_iinc G dX4_isSeen_49 rfl (by decide) rfl ?_
              refine j_goto G 7 dX4_isSeen_52 (by decide) ?_
              refine ih (s + 1) (Z 3 d a) _ (st + 1) (by omega) (by omega) (fun hn => ?_) (fun hn => ?_) ?_ (fun j j1 => ?_)
              · rw [ha, ancF_add]; rfl
              · have : a = 0 := hma.2.2.1.mp (by omega)
                rw [this]; exact hT1.2.2.2.2.2.2
              · first
                | (refine Or.inl ⟨rfl, s, by omega, ?_⟩
                   rw [← ha]; assumption)
                | (rcases h4 with ⟨w, j, j1, j2⟩ | ⟨w, w2⟩
                   · exact Or.inl ⟨w, j, by omega, j2⟩
                   · refine Or.inr ⟨w, fun j j1 => ?_⟩
                     by_cases e : j = s
                     · rw [e, ← ha]; assumption
                     · exact w2 j (by omega))
              · by_cases e : j = s
                · rw [e, ← ha]; omega
                · exact h5 j (by omega)
          · refine j_iconst G dX4_isSeen_30 ?_
            refine jr_B G hQ hr dX4_isSeen_31 (by decide) (by decide) (by omega) ?_
            refine Or.inr ⟨rfl, fun hs => ?_⟩
            refine hs.2 a hu.1 hu.2.1 (by omega) ?_
            exact (bel_iff hT hq.1 hq.2 hu.1 hu.2.1).mpr ⟨s, by omega, ha.symm⟩
  refine j_iconst G dX4_isSeen_0 ?_
  refine j_istore_n G dX4_isSeen_1 (by decide) rfl ?_
  refine j_iload_n G dX4_isSeen_2 rfl ?_
  refine j_istore_n G dX4_isSeen_3 (by decide) rfl ?_
  refine j_iconst G dX4_isSeen_4 ?_
  refine j_istore G dX4_isSeen_5 (by decide) rfl ?_
  exact loop (Z 4 d q + 1).toNat 0 q 0 0 rfl (by omega) (fun _ => rfl) (fun h => by omega) (Or.inr ⟨rfl, fun j h => by omega⟩) (fun j h => by omega)
set_option maxRecDepth 100000 in
set_option maxHeartbeats 8000000 in
theorem c_X4_listBeneath {l : Launch} {D : va_G} {cys : Nat → ClassId} {ad : Nat → Int → Nat} {L : List Nat} {g : Nat → va_E} {X : Int64} {Z : ZT} (hi : injA ad) {d top lv i : Int} (hd : vd 2 d) (hi16 : vd 16 i) (hT : TOK Z d) (htop : 0 ≤ top ∧ top < Z 2 d 4) (hlv : inR lv) : CM l D cys ad yX4_listBeneath cX4_listBeneath 6 none 2 48 0 0 [.ref (ad 2 d), .int (iI top), .int (iI lv), .ref (ad 16 i)] L g X Z (PVZ L g X Z (fun Z' => LST Z' i (wk Z d top lv) ∧ (∀ k, k ≠ 16 → k ≠ 17 → Z' k = Z k) ∧ (∀ k i', i' ≠ i → Z' k i' = Z k i'))) := by
  refine cm_start hi (by decide +kernel) (Nat.le_of_ble_eq_true rfl) ?_
  intro p_ e_ s_ m_ args_ below_ meth_ c_ A_ Q_ hQ G hr hin
  have hT1 := hT.1
  have hwl := wk_len lv hT htop.1 htop.2
  have loop : ∀ (n : Nat) (R W : List Int) (Y : ZT) (a st : Int), R.length = n → 0 ≤ st → st + n ≤ Z 2 d 4 → (R = [] ∧ a = -1 ∨ (0 ≤ a ∧ a < Z 2 d 4 ∧ bel Z d a top ∧ R = pre Z d a ++ aft Z d top a)) → W ++ R.filter (fun x => decide (Z 4 d x = lv)) = wk Z d top lv → LST Y i W → (∀ k, k ≠ 16 → k ≠ 17 → Y k = Z k) → (∀ k i', i' ≠ i → Y k i' = Z k i') → JJ p_ l e_ { frames := 2, cells := 0, slots := 0, locals := 48 } s_ m_ args_ below_ meth_ c_ D cys ad A_ Q_ 6 0 0 L g X Y 11 [(0, .ref (ad 2 d)), (1, .int (iI top)), (2, .int (iI lv)), (3, .ref (ad 16 i)), (4, .int (iI a)), (5, .int (iI st))] [] := by
    intro n
    induction n with
    | zero =>
      intro R W Y a st h0 h1 h2 h3 h4 h5 h6 h7
      have hR : R = [] := List.eq_nil_of_length_eq_zero h0
      have e2 := h6 2 (by decide) (by decide)
      have ha : a = -1 := by
        rcases h3 with w | w
        · exact w.2
        · rw [hR, suf_pre hT w.1 w.2.1] at w
          exact absurd w.2.2.2 (by simp)
      rw [hR, List.filter_nil, List.append_nil] at h4
      have e24 : Y 2 d 4 = Z 2 d 4 := by rw [e2]
      refine j_iload G dX4_listBeneath_11 rfl ?_
      refine j_aload_n G dX4_listBeneath_13 rfl ?_
      refine gf_2_4 G dX4_listBeneath_14 lf4_26 (by first | assumption | decide) ?_
      refine j_icmp_ge G 61 dX4_listBeneath_17 (by decide) (by omega) (by omega) (fun c17 => ?_) (fun c17 => ?_)
      · refine jr_VZ G hQ hr dX4_listBeneath_61 (by decide) (by decide) ?_
        exact ⟨h4 ▸ h5, h6, h7⟩
      · refine j_aload_n G dX4_listBeneath_20 rfl ?_
        refine j_iload G dX4_listBeneath_21 rfl ?_
        refine j_cVI G cvX4_has ml4_29 (c_X4_has hi (by first | assumption | omega | decide) (by first | assumption | omega | decide) (by first | assumption | omega | decide)) dX4_listBeneath_23 ⟨by decide, by decide⟩ ⟨by decide, by decide⟩ rfl rfl (by decide) (by first | assumption | decide) rfl rfl rfl (fun r23 h23 => ?_)
        refine j_if_eq G 61 dX4_listBeneath_26 (by decide) (by omega) (fun c26 => ?_) (fun c26 => ?_)
        · refine jr_VZ G hQ hr dX4_listBeneath_61 (by decide) (by decide) ?_
          exact ⟨h4 ▸ h5, h6, h7⟩
        · exfalso; omega
    | succ n ih =>
      intro R W Y a st h0 h1 h2 h3 h4 h5 h6 h7
      have e2 := h6 2 (by decide) (by decide)
      have e4 := h6 4 (by decide) (by decide)
      have e24 : Y 2 d 4 = Z 2 d 4 := by rw [e2]
      have e4a : Y 4 d a = Z 4 d a := by rw [e4]
      have hte : TE Y Z d := ⟨by rw [e2], by rw [h6 3 (by decide) (by decide)], by rw [e4], by rw [h6 5 (by decide) (by decide)]⟩
      have hTY := hte.ok hT
      have h3' : 0 ≤ a ∧ a < Z 2 d 4 ∧ bel Z d a top ∧ R = a :: nxt Z d top a := by
        rcases h3 with w | w
        · rw [w.1] at h0; cases h0
        · rw [suf_pre hT w.1 w.2.1] at w
          exact w
      obtain ⟨a0, a1, a2, a3⟩ := h3'
      have hba : bel Y d a top := (hte.e_bel a top).mpr a2
      have hma := hT.at a0 a1
      unfold MOK at hma
      rw [a3] at h0 h4
      have h0 : (nxt Z d top a).length = n := by simpa using h0
      have hW : W.length + ((a :: nxt Z d top a).filter (fun x => decide (Z 4 d x = lv))).length = (wk Z d top lv).length := by rw [← h4, List.length_append]
      refine j_iload G dX4_listBeneath_11 rfl ?_
      refine j_aload_n G dX4_listBeneath_13 rfl ?_
      refine gf_2_4 G dX4_listBeneath_14 lf4_26 (by first | assumption | decide) ?_
      refine j_icmp_ge G 61 dX4_listBeneath_17 (by decide) (by omega) (by omega) (fun c17 => ?_) (fun c17 => ?_)
      · exfalso; omega
      · refine j_aload_n G dX4_listBeneath_20 rfl ?_
        refine j_iload G dX4_listBeneath_21 rfl ?_
        refine j_cVI G cvX4_has ml4_29 (c_X4_has hi (by first | assumption | omega | decide) (by first | assumption | omega | decide) (by first | assumption | omega | decide)) dX4_listBeneath_23 ⟨by decide, by decide⟩ ⟨by decide, by decide⟩ rfl rfl (by decide) (by first | assumption | decide) rfl rfl rfl (fun r23 h23 => ?_)
        refine j_if_eq G 61 dX4_listBeneath_26 (by decide) (by omega) (fun c26 => ?_) (fun c26 => ?_)
        · exfalso; omega
        · refine j_aload_n G dX4_listBeneath_29 rfl ?_
          refine gf_2_1 G dX4_listBeneath_30 lf4_15 (by first | assumption | decide) ?_
          refine j_iload G dX4_listBeneath_33 rfl ?_
          refine al_4 G dX4_listBeneath_35 (by first | assumption | decide) (by omega) (by omega) ?_
          refine j_iload_n G dX4_listBeneath_36 rfl ?_
          refine j_icmp_ne G 46 dX4_listBeneath_37 (by decide) (by omega) (by omega) (fun c37 => ?_) (fun c37 => ?_)
          · first
            | (have hin : Z 4 d a = lv := by omega
               have hYW := h43.1 (by omega)
               have e16 : ∀ k, k ≠ 16 → k ≠ 17 → Z43 k = Z k := by
                 intro k k1 k2
                 rw [hYW, zS_k k1, zS_k k2]
                 exact h6 k k1 k2
               have e17 : ∀ k i', i' ≠ i → Z43 k i' = Z k i' := by
                 intro k i' k1
                 rw [hYW, zS_o (fun q => k1 q.2), zS_o (fun q => k1 q.2)]
                 exact h7 k i' k1
               have hL5 : LST Z43 i (W ++ [a]) := by
                 refine ⟨?_, fun j hj => ?_⟩
                 · rw [hYW, zS_s, List.length_append, h51]
                   rfl
                 · rw [hYW, zS_k (by decide), zS_v]
                   rw [List.length_append, List.length_singleton] at hj
                   by_cases e : j = W.length
                   · rw [if_pos (by omega), e]
                     simp
                   · rw [if_neg (by omega), List.getElem?_append_left (by omega)]
                     exact h5.2 j (by omega)
               obtain ⟨Y1, hY1⟩ : ∃ y, y = Z43 := ⟨_, rfl⟩
               obtain ⟨W1, hW1⟩ : ∃ w, w = W ++ [a] := ⟨_, rfl⟩
               have h4' : W1 ++ (nxt Z d top a).filter (fun x => decide (Z 4 d x = lv)) = wk Z d top lv := by
                 rw [hW1, List.append_assoc]; exact h4
               rw [← hW1] at hL5
               rw [← hY1] at hL5 e16 e17 ⊢)
            | (have hin : ¬ Z 4 d a = lv := by omega
               rw [List.filter_cons_of_neg (by simpa using hin)] at h4
               obtain ⟨Y1, hY1⟩ : ∃ y, y = Y := ⟨_, rfl⟩
               obtain ⟨W1, hW1⟩ : ∃ w, w = W := ⟨_, rfl⟩
               have h4' := h4
               have hL5 := h5
               have e16 := h6
               have e17 := h7
               rw [← hW1] at hL5 h4'
               rw [← hY1] at hL5 e16 e17 ⊢)
            have hte1 : TE Y1 Z d := ⟨by rw [e16 2 (by decide) (by decide)], by rw [e16 3 (by decide) (by decide)], by rw [e16 4 (by decide) (by decide)], by rw [e16 5 (by decide) (by decide)]⟩
            have hT2 := hte1.ok hT
            have hb2 : bel Y1 d a top := (hte1.e_bel a top).mpr a2
            have e24' : Y1 2 d 4 = Z 2 d 4 := by rw [e16 2 (by decide) (by decide)]
            have ha2 : 0 ≤ a ∧ a < Y1 2 d 4 := by omega
            have ht2 : 0 ≤ top ∧ top < Y1 2 d 4 := by omega
            refine j_aload_n G dX4_listBeneath_46 rfl ?_
            refine j_iload G dX4_listBeneath_47 rfl ?_
            refine j_iload_n G dX4_listBeneath_49 rfl ?_
            refine j_cVI G cvX4_nextInWalk ml4_47 (c_X4_nextInWalk hi (by first | assumption | omega | decide) (by first | assumption | omega | decide) (by first | assumption | omega | decide) (by first | assumption | omega | decide) (by first | assumption | omega | decide)) dX4_listBeneath_50 ⟨by decide, by decide⟩ ⟨by decide, by decide⟩ rfl rfl (by decide) (by first | assumption | decide) rfl rfl rfl (fun r50 h50 => ?_)
            refine j_istore G dX4_listBeneath_53 (by decide) rfl ?_
            refine j_iinc G dX4_listBeneath_55 rfl (by decide) rfl ?_
            refine j_goto G 11 dX4_listBeneath_58 (by decide) ?_
            refine ih (nxt Z d top a) W1 Y1 r50 (st + 1) h0 (by omega) (by omega) ?_ h4' hL5 e16 e17
            rw [hte1.e_nxt, hte1.e_pre, hte1.e_aft, hte1.e_bel] at h50
            rcases h50 with w | w
            · exact Or.inr ⟨w.1, by omega, w.2.2.1, w.2.2.2⟩
            · exact Or.inl ⟨w.2, w.1⟩
          · have hin : Z 4 d a = lv := by omega
            rw [List.filter_cons_of_pos (by simpa using hin)] at h4 hW
            rw [List.length_cons] at hW
            have h51 := h5.1
            refine j_aload_n G dX4_listBeneath_40 rfl ?_
            refine j_iload G dX4_listBeneath_41 rfl ?_
            refine j_cVVZ G cvX3_append ml4_43 (c_X3_append hi (by first | assumption | omega | decide) (by first | assumption | omega | decide)) dX4_listBeneath_43 ⟨by decide, by decide⟩ ⟨by decide, by decide⟩ rfl rfl (by decide) (by first | assumption | decide) rfl rfl rfl (fun Z43 h43 => ?_)
            first
            | (have hin : Z 4 d a = lv := by omega
               have hYW := h43.1 (by omega)
               have e16 : ∀ k, k ≠ 16 → k ≠ 17 → Z43 k = Z k := by
                 intro k k1 k2
                 rw [hYW, zS_k k1, zS_k k2]
                 exact h6 k k1 k2
               have e17 : ∀ k i', i' ≠ i → Z43 k i' = Z k i' := by
                 intro k i' k1
                 rw [hYW, zS_o (fun q => k1 q.2), zS_o (fun q => k1 q.2)]
                 exact h7 k i' k1
               have hL5 : LST Z43 i (W ++ [a]) := by
                 refine ⟨?_, fun j hj => ?_⟩
                 · rw [hYW, zS_s, List.length_append, h51]
                   rfl
                 · rw [hYW, zS_k (by decide), zS_v]
                   rw [List.length_append, List.length_singleton] at hj
                   by_cases e : j = W.length
                   · rw [if_pos (by omega), e]
                     simp
                   · rw [if_neg (by omega), List.getElem?_append_left (by omega)]
                     exact h5.2 j (by omega)
               obtain ⟨Y1, hY1⟩ : ∃ y, y = Z43 := ⟨_, rfl⟩
               obtain ⟨W1, hW1⟩ : ∃ w, w = W ++ [a] := ⟨_, rfl⟩
               have h4' : W1 ++ (nxt Z d top a).filter (fun x => decide (Z 4 d x = lv)) = wk Z d top lv := by
                 rw [hW1, List.append_assoc]; exact h4
               rw [← hW1] at hL5
               rw [← hY1] at hL5 e16 e17 ⊢)
            | (have hin : ¬ Z 4 d a = lv := by omega
               rw [List.filter_cons_of_neg (by simpa using hin)] at h4
               obtain ⟨Y1, hY1⟩ : ∃ y, y = Y := ⟨_, rfl⟩
               obtain ⟨W1, hW1⟩ : ∃ w, w = W := ⟨_, rfl⟩
               have h4' := h4
               have hL5 := h5
               have e16 := h6
               have e17 := h7
               rw [← hW1] at hL5 h4'
               rw [← hY1] at hL5 e16 e17 ⊢)
            have hte1 : TE Y1 Z d := ⟨by rw [e16 2 (by decide) (by decide)], by rw [e16 3 (by decide) (by decide)], by rw [e16 4 (by decide) (by decide)], by rw [e16 5 (by decide) (by decide)]⟩
            have hT2 := hte1.ok hT
            have hb2 : bel Y1 d a top := (hte1.e_bel a top).mpr a2
            have e24' : Y1 2 d 4 = Z 2 d 4 := by rw [e16 2 (by decide) (by decide)]
            have ha2 : 0 ≤ a ∧ a < Y1 2 d 4 := by omega
            have ht2 : 0 ≤ top ∧ top < Y1 2 d 4 := by omega
            refine j_aload_n G dX4_listBeneath_46 rfl ?_
            refine j_iload G dX4_listBeneath_47 rfl ?_
            refine j_iload_n G dX4_listBeneath_49 rfl ?_
            refine j_cVI G cvX4_nextInWalk ml4_47 (c_X4_nextInWalk hi (by first | assumption | omega | decide) (by first | assumption | omega | decide) (by first | assumption | omega | decide) (by first | assumption | omega | decide) (by first | assumption | omega | decide)) dX4_listBeneath_50 ⟨by decide, by decide⟩ ⟨by decide, by decide⟩ rfl rfl (by decide) (by first | assumption | decide) rfl rfl rfl (fun r50 h50 => ?_)
            refine j_istore G dX4_listBeneath_53 (by decide) rfl ?_
            refine j_iinc G dX4_listBeneath_55 rfl (by decide) rfl ?_
            refine j_goto G 11 dX4_listBeneath_58 (by decide) ?_
            refine ih (nxt Z d top a) W1 Y1 r50 (st + 1) h0 (by omega) (by omega) ?_ h4' hL5 e16 e17
            rw [hte1.e_nxt, hte1.e_pre, hte1.e_aft, hte1.e_bel] at h50
            rcases h50 with w | w
            · exact Or.inr ⟨w.1, by omega, w.2.2.1, w.2.2.2⟩
            · exact Or.inl ⟨w.2, w.1⟩
  have hpl := pre_len hT htop.1 htop.2
  refine j_aload_n G dX4_listBeneath_0 rfl ?_
  refine j_iconst G dX4_listBeneath_1 ?_
  refine pf_16_1 G dX4_listBeneath_2 lf4_40 (by first | assumption | decide) ?_
  refine j_iload_n G dX4_listBeneath_5 rfl ?_
  refine j_istore G dX4_listBeneath_6 (by decide) rfl ?_
  refine j_iconst G dX4_listBeneath_8 ?_
  refine j_istore G dX4_listBeneath_9 (by decide) rfl ?_
  refine loop (pre Z d top).length (pre Z d top) [] _ top 0 rfl (by omega) (by omega) (Or.inr ⟨htop.1, htop.2, bel_rf Z d top, ?_⟩) rfl ⟨?_, fun j hj => ?_⟩ (fun k k1 k2 => ?_) (fun k i' k1 => ?_)
  · rw [aft_top, List.append_nil]
  · rw [zS_s]; rfl
  · exact absurd hj (Nat.not_lt_zero _)
  · exact zS_k k1
  · exact zS_o (fun q => k1 q.2)
end
section
theorem dX1_has_0 : decode cX1_has 0 = .ok (.iload_n 1, 1) := by decide +kernel
theorem dX1_has_1 : decode cX1_has 1 = .ok (.ifCond .lt 15, 3) := by decide +kernel
theorem dX1_has_4 : decode cX1_has 4 = .ok (.iload_n 1, 1) := by decide +kernel
theorem dX1_has_5 : decode cX1_has 5 = .ok (.aload_n 0, 1) := by decide +kernel
theorem dX1_has_6 : decode cX1_has 6 = .ok (.getfield 23, 3) := by decide +kernel
theorem dX1_has_9 : decode cX1_has 9 = .ok (.if_icmp .ge 7, 3) := by decide +kernel
theorem dX1_has_12 : decode cX1_has 12 = .ok (.iconst 1, 1) := by decide +kernel
theorem dX1_has_13 : decode cX1_has 13 = .ok (.goto 4, 3) := by decide +kernel
theorem dX1_has_16 : decode cX1_has 16 = .ok (.iconst 0, 1) := by decide +kernel
theorem dX1_has_17 : decode cX1_has 17 = .ok (.ireturn, 1) := by decide +kernel
theorem dX1_closeGapAt_0 : decode cX1_closeGapAt 0 = .ok (.iload_n 1, 1) := by decide +kernel
theorem dX1_closeGapAt_1 : decode cX1_closeGapAt 1 = .ok (.istore_n 2, 1) := by decide +kernel
theorem dX1_closeGapAt_2 : decode cX1_closeGapAt 2 = .ok (.iload_n 2, 1) := by decide +kernel
theorem dX1_closeGapAt_3 : decode cX1_closeGapAt 3 = .ok (.iconst 1, 1) := by decide +kernel
theorem dX1_closeGapAt_4 : decode cX1_closeGapAt 4 = .ok (.iadd, 1) := by decide +kernel
theorem dX1_closeGapAt_5 : decode cX1_closeGapAt 5 = .ok (.aload_n 0, 1) := by decide +kernel
theorem dX1_closeGapAt_6 : decode cX1_closeGapAt 6 = .ok (.getfield 23, 3) := by decide +kernel
theorem dX1_closeGapAt_9 : decode cX1_closeGapAt 9 = .ok (.if_icmp .ge 54, 3) := by decide +kernel
theorem dX1_closeGapAt_12 : decode cX1_closeGapAt 12 = .ok (.aload_n 0, 1) := by decide +kernel
theorem dX1_closeGapAt_13 : decode cX1_closeGapAt 13 = .ok (.getfield 16, 3) := by decide +kernel
theorem dX1_closeGapAt_16 : decode cX1_closeGapAt 16 = .ok (.iload_n 2, 1) := by decide +kernel
theorem dX1_closeGapAt_17 : decode cX1_closeGapAt 17 = .ok (.aload_n 0, 1) := by decide +kernel
theorem dX1_closeGapAt_18 : decode cX1_closeGapAt 18 = .ok (.getfield 16, 3) := by decide +kernel
theorem dX1_closeGapAt_21 : decode cX1_closeGapAt 21 = .ok (.iload_n 2, 1) := by decide +kernel
theorem dX1_closeGapAt_22 : decode cX1_closeGapAt 22 = .ok (.iconst 1, 1) := by decide +kernel
theorem dX1_closeGapAt_23 : decode cX1_closeGapAt 23 = .ok (.iadd, 1) := by decide +kernel
theorem dX1_closeGapAt_24 : decode cX1_closeGapAt 24 = .ok (.iaload, 1) := by decide +kernel
theorem dX1_closeGapAt_25 : decode cX1_closeGapAt 25 = .ok (.iastore, 1) := by decide +kernel
theorem dX1_closeGapAt_26 : decode cX1_closeGapAt 26 = .ok (.iconst 0, 1) := by decide +kernel
theorem dX1_closeGapAt_27 : decode cX1_closeGapAt 27 = .ok (.istore_n 3, 1) := by decide +kernel
theorem dX1_closeGapAt_28 : decode cX1_closeGapAt 28 = .ok (.iload_n 3, 1) := by decide +kernel
theorem dX1_closeGapAt_29 : decode cX1_closeGapAt 29 = .ok (.iconst 4, 1) := by decide +kernel
theorem dX1_closeGapAt_30 : decode cX1_closeGapAt 30 = .ok (.if_icmp .ge 27, 3) := by decide +kernel
theorem dX1_closeGapAt_33 : decode cX1_closeGapAt 33 = .ok (.aload_n 0, 1) := by decide +kernel
theorem dX1_closeGapAt_34 : decode cX1_closeGapAt 34 = .ok (.getfield 11, 3) := by decide +kernel
theorem dX1_closeGapAt_37 : decode cX1_closeGapAt 37 = .ok (.iload_n 3, 1) := by decide +kernel
theorem dX1_closeGapAt_38 : decode cX1_closeGapAt 38 = .ok (.aaload, 1) := by decide +kernel
theorem dX1_closeGapAt_39 : decode cX1_closeGapAt 39 = .ok (.iload_n 2, 1) := by decide +kernel
theorem dX1_closeGapAt_40 : decode cX1_closeGapAt 40 = .ok (.aload_n 0, 1) := by decide +kernel
theorem dX1_closeGapAt_41 : decode cX1_closeGapAt 41 = .ok (.getfield 11, 3) := by decide +kernel
theorem dX1_closeGapAt_44 : decode cX1_closeGapAt 44 = .ok (.iload_n 3, 1) := by decide +kernel
theorem dX1_closeGapAt_45 : decode cX1_closeGapAt 45 = .ok (.aaload, 1) := by decide +kernel
theorem dX1_closeGapAt_46 : decode cX1_closeGapAt 46 = .ok (.iload_n 2, 1) := by decide +kernel
theorem dX1_closeGapAt_47 : decode cX1_closeGapAt 47 = .ok (.iconst 1, 1) := by decide +kernel
theorem dX1_closeGapAt_48 : decode cX1_closeGapAt 48 = .ok (.iadd, 1) := by decide +kernel
theorem dX1_closeGapAt_49 : decode cX1_closeGapAt 49 = .ok (.iaload, 1) := by decide +kernel
theorem dX1_closeGapAt_50 : decode cX1_closeGapAt 50 = .ok (.iastore, 1) := by decide +kernel
theorem dX1_closeGapAt_51 : decode cX1_closeGapAt 51 = .ok (.iinc 3 1, 3) := by decide +kernel
theorem dX1_closeGapAt_54 : decode cX1_closeGapAt 54 = .ok (.goto (-26), 3) := by decide +kernel
theorem dX1_closeGapAt_57 : decode cX1_closeGapAt 57 = .ok (.iinc 2 1, 3) := by decide +kernel
theorem dX1_closeGapAt_60 : decode cX1_closeGapAt 60 = .ok (.goto (-58), 3) := by decide +kernel
theorem dX1_closeGapAt_63 : decode cX1_closeGapAt 63 = .ok (.aload_n 0, 1) := by decide +kernel
theorem dX1_closeGapAt_64 : decode cX1_closeGapAt 64 = .ok (.dup, 1) := by decide +kernel
theorem dX1_closeGapAt_65 : decode cX1_closeGapAt 65 = .ok (.getfield 23, 3) := by decide +kernel
theorem dX1_closeGapAt_68 : decode cX1_closeGapAt 68 = .ok (.iconst 1, 1) := by decide +kernel
theorem dX1_closeGapAt_69 : decode cX1_closeGapAt 69 = .ok (.isub, 1) := by decide +kernel
theorem dX1_closeGapAt_70 : decode cX1_closeGapAt 70 = .ok (.putfield 23, 3) := by decide +kernel
theorem dX1_closeGapAt_73 : decode cX1_closeGapAt 73 = .ok (.return_, 1) := by decide +kernel
theorem dX1_isFirstOfItsCell_0 : decode cX1_isFirstOfItsCell 0 = .ok (.iconst 0, 1) := by decide +kernel
theorem dX1_isFirstOfItsCell_1 : decode cX1_isFirstOfItsCell 1 = .ok (.istore_n 2, 1) := by decide +kernel
theorem dX1_isFirstOfItsCell_2 : decode cX1_isFirstOfItsCell 2 = .ok (.iload_n 2, 1) := by decide +kernel
theorem dX1_isFirstOfItsCell_3 : decode cX1_isFirstOfItsCell 3 = .ok (.iload_n 1, 1) := by decide +kernel
theorem dX1_isFirstOfItsCell_4 : decode cX1_isFirstOfItsCell 4 = .ok (.if_icmp .ge 26, 3) := by decide +kernel
theorem dX1_isFirstOfItsCell_7 : decode cX1_isFirstOfItsCell 7 = .ok (.aload_n 0, 1) := by decide +kernel
theorem dX1_isFirstOfItsCell_8 : decode cX1_isFirstOfItsCell 8 = .ok (.getfield 20, 3) := by decide +kernel
theorem dX1_isFirstOfItsCell_11 : decode cX1_isFirstOfItsCell 11 = .ok (.iload_n 2, 1) := by decide +kernel
theorem dX1_isFirstOfItsCell_12 : decode cX1_isFirstOfItsCell 12 = .ok (.iaload, 1) := by decide +kernel
theorem dX1_isFirstOfItsCell_13 : decode cX1_isFirstOfItsCell 13 = .ok (.aload_n 0, 1) := by decide +kernel
theorem dX1_isFirstOfItsCell_14 : decode cX1_isFirstOfItsCell 14 = .ok (.getfield 20, 3) := by decide +kernel
theorem dX1_isFirstOfItsCell_17 : decode cX1_isFirstOfItsCell 17 = .ok (.iload_n 1, 1) := by decide +kernel
theorem dX1_isFirstOfItsCell_18 : decode cX1_isFirstOfItsCell 18 = .ok (.iaload, 1) := by decide +kernel
theorem dX1_isFirstOfItsCell_19 : decode cX1_isFirstOfItsCell 19 = .ok (.if_icmp .ne 5, 3) := by decide +kernel
theorem dX1_isFirstOfItsCell_22 : decode cX1_isFirstOfItsCell 22 = .ok (.iconst 0, 1) := by decide +kernel
theorem dX1_isFirstOfItsCell_23 : decode cX1_isFirstOfItsCell 23 = .ok (.ireturn, 1) := by decide +kernel
theorem dX1_isFirstOfItsCell_24 : decode cX1_isFirstOfItsCell 24 = .ok (.iinc 2 1, 3) := by decide +kernel
theorem dX1_isFirstOfItsCell_27 : decode cX1_isFirstOfItsCell 27 = .ok (.goto (-25), 3) := by decide +kernel
theorem dX1_isFirstOfItsCell_30 : decode cX1_isFirstOfItsCell 30 = .ok (.iconst 1, 1) := by decide +kernel
theorem dX1_isFirstOfItsCell_31 : decode cX1_isFirstOfItsCell 31 = .ok (.ireturn, 1) := by decide +kernel
theorem dX5_has_0 : decode cX5_has 0 = .ok (.iload_n 1, 1) := by decide +kernel
theorem dX5_has_1 : decode cX5_has 1 = .ok (.ifCond .lt 15, 3) := by decide +kernel
theorem dX5_has_4 : decode cX5_has 4 = .ok (.iload_n 1, 1) := by decide +kernel
theorem dX5_has_5 : decode cX5_has 5 = .ok (.aload_n 0, 1) := by decide +kernel
theorem dX5_has_6 : decode cX5_has 6 = .ok (.getfield 22, 3) := by decide +kernel
theorem dX5_has_9 : decode cX5_has 9 = .ok (.if_icmp .ge 7, 3) := by decide +kernel
theorem dX5_has_12 : decode cX5_has 12 = .ok (.iconst 1, 1) := by decide +kernel
theorem dX5_has_13 : decode cX5_has 13 = .ok (.goto 4, 3) := by decide +kernel
theorem dX5_has_16 : decode cX5_has 16 = .ok (.iconst 0, 1) := by decide +kernel
theorem dX5_has_17 : decode cX5_has 17 = .ok (.ireturn, 1) := by decide +kernel
theorem dX5_fill_0 : decode cX5_fill 0 = .ok (.aload_n 0, 1) := by decide +kernel
theorem dX5_fill_1 : decode cX5_fill 1 = .ok (.iload_n 1, 1) := by decide +kernel
theorem dX5_fill_2 : decode cX5_fill 2 = .ok (.invokevirtual 26, 3) := by decide +kernel
theorem dX5_fill_5 : decode cX5_fill 5 = .ok (.ifCond .eq 17, 3) := by decide +kernel
theorem dX5_fill_8 : decode cX5_fill 8 = .ok (.aload_n 0, 1) := by decide +kernel
theorem dX5_fill_9 : decode cX5_fill 9 = .ok (.getfield 15, 3) := by decide +kernel
theorem dX5_fill_12 : decode cX5_fill 12 = .ok (.iload_n 1, 1) := by decide +kernel
theorem dX5_fill_13 : decode cX5_fill 13 = .ok (.iload_n 2, 1) := by decide +kernel
theorem dX5_fill_14 : decode cX5_fill 14 = .ok (.iastore, 1) := by decide +kernel
theorem dX5_fill_15 : decode cX5_fill 15 = .ok (.aload_n 0, 1) := by decide +kernel
theorem dX5_fill_16 : decode cX5_fill 16 = .ok (.getfield 18, 3) := by decide +kernel
theorem dX5_fill_19 : decode cX5_fill 19 = .ok (.iload_n 1, 1) := by decide +kernel
theorem dX5_fill_20 : decode cX5_fill 20 = .ok (.iconst 0, 1) := by decide +kernel
theorem dX5_fill_21 : decode cX5_fill 21 = .ok (.bastore, 1) := by decide +kernel
theorem dX5_fill_22 : decode cX5_fill 22 = .ok (.return_, 1) := by decide +kernel
theorem dX5_makeAllStale_0 : decode cX5_makeAllStale 0 = .ok (.iconst 0, 1) := by decide +kernel
theorem dX5_makeAllStale_1 : decode cX5_makeAllStale 1 = .ok (.istore_n 1, 1) := by decide +kernel
theorem dX5_makeAllStale_2 : decode cX5_makeAllStale 2 = .ok (.iload_n 1, 1) := by decide +kernel
theorem dX5_makeAllStale_3 : decode cX5_makeAllStale 3 = .ok (.aload_n 0, 1) := by decide +kernel
theorem dX5_makeAllStale_4 : decode cX5_makeAllStale 4 = .ok (.getfield 22, 3) := by decide +kernel
theorem dX5_makeAllStale_7 : decode cX5_makeAllStale 7 = .ok (.if_icmp .ge 16, 3) := by decide +kernel
theorem dX5_makeAllStale_10 : decode cX5_makeAllStale 10 = .ok (.aload_n 0, 1) := by decide +kernel
theorem dX5_makeAllStale_11 : decode cX5_makeAllStale 11 = .ok (.getfield 18, 3) := by decide +kernel
theorem dX5_makeAllStale_14 : decode cX5_makeAllStale 14 = .ok (.iload_n 1, 1) := by decide +kernel
theorem dX5_makeAllStale_15 : decode cX5_makeAllStale 15 = .ok (.iconst 1, 1) := by decide +kernel
theorem dX5_makeAllStale_16 : decode cX5_makeAllStale 16 = .ok (.bastore, 1) := by decide +kernel
theorem dX5_makeAllStale_17 : decode cX5_makeAllStale 17 = .ok (.iinc 1 1, 3) := by decide +kernel
theorem dX5_makeAllStale_20 : decode cX5_makeAllStale 20 = .ok (.goto (-18), 3) := by decide +kernel
theorem dX5_makeAllStale_23 : decode cX5_makeAllStale 23 = .ok (.return_, 1) := by decide +kernel
theorem dX5_closeGapAt_0 : decode cX5_closeGapAt 0 = .ok (.iload_n 1, 1) := by decide +kernel
theorem dX5_closeGapAt_1 : decode cX5_closeGapAt 1 = .ok (.istore_n 2, 1) := by decide +kernel
theorem dX5_closeGapAt_2 : decode cX5_closeGapAt 2 = .ok (.iload_n 2, 1) := by decide +kernel
theorem dX5_closeGapAt_3 : decode cX5_closeGapAt 3 = .ok (.iconst 1, 1) := by decide +kernel
theorem dX5_closeGapAt_4 : decode cX5_closeGapAt 4 = .ok (.iadd, 1) := by decide +kernel
theorem dX5_closeGapAt_5 : decode cX5_closeGapAt 5 = .ok (.aload_n 0, 1) := by decide +kernel
theorem dX5_closeGapAt_6 : decode cX5_closeGapAt 6 = .ok (.getfield 22, 3) := by decide +kernel
theorem dX5_closeGapAt_9 : decode cX5_closeGapAt 9 = .ok (.if_icmp .ge 51, 3) := by decide +kernel
theorem dX5_closeGapAt_12 : decode cX5_closeGapAt 12 = .ok (.aload_n 0, 1) := by decide +kernel
theorem dX5_closeGapAt_13 : decode cX5_closeGapAt 13 = .ok (.getfield 9, 3) := by decide +kernel
theorem dX5_closeGapAt_16 : decode cX5_closeGapAt 16 = .ok (.iload_n 2, 1) := by decide +kernel
theorem dX5_closeGapAt_17 : decode cX5_closeGapAt 17 = .ok (.aload_n 0, 1) := by decide +kernel
theorem dX5_closeGapAt_18 : decode cX5_closeGapAt 18 = .ok (.getfield 9, 3) := by decide +kernel
theorem dX5_closeGapAt_21 : decode cX5_closeGapAt 21 = .ok (.iload_n 2, 1) := by decide +kernel
theorem dX5_closeGapAt_22 : decode cX5_closeGapAt 22 = .ok (.iconst 1, 1) := by decide +kernel
theorem dX5_closeGapAt_23 : decode cX5_closeGapAt 23 = .ok (.iadd, 1) := by decide +kernel
theorem dX5_closeGapAt_24 : decode cX5_closeGapAt 24 = .ok (.iaload, 1) := by decide +kernel
theorem dX5_closeGapAt_25 : decode cX5_closeGapAt 25 = .ok (.iastore, 1) := by decide +kernel
theorem dX5_closeGapAt_26 : decode cX5_closeGapAt 26 = .ok (.aload_n 0, 1) := by decide +kernel
theorem dX5_closeGapAt_27 : decode cX5_closeGapAt 27 = .ok (.getfield 15, 3) := by decide +kernel
theorem dX5_closeGapAt_30 : decode cX5_closeGapAt 30 = .ok (.iload_n 2, 1) := by decide +kernel
theorem dX5_closeGapAt_31 : decode cX5_closeGapAt 31 = .ok (.aload_n 0, 1) := by decide +kernel
theorem dX5_closeGapAt_32 : decode cX5_closeGapAt 32 = .ok (.getfield 15, 3) := by decide +kernel
theorem dX5_closeGapAt_35 : decode cX5_closeGapAt 35 = .ok (.iload_n 2, 1) := by decide +kernel
theorem dX5_closeGapAt_36 : decode cX5_closeGapAt 36 = .ok (.iconst 1, 1) := by decide +kernel
theorem dX5_closeGapAt_37 : decode cX5_closeGapAt 37 = .ok (.iadd, 1) := by decide +kernel
theorem dX5_closeGapAt_38 : decode cX5_closeGapAt 38 = .ok (.iaload, 1) := by decide +kernel
theorem dX5_closeGapAt_39 : decode cX5_closeGapAt 39 = .ok (.iastore, 1) := by decide +kernel
theorem dX5_closeGapAt_40 : decode cX5_closeGapAt 40 = .ok (.aload_n 0, 1) := by decide +kernel
theorem dX5_closeGapAt_41 : decode cX5_closeGapAt 41 = .ok (.getfield 18, 3) := by decide +kernel
theorem dX5_closeGapAt_44 : decode cX5_closeGapAt 44 = .ok (.iload_n 2, 1) := by decide +kernel
theorem dX5_closeGapAt_45 : decode cX5_closeGapAt 45 = .ok (.aload_n 0, 1) := by decide +kernel
theorem dX5_closeGapAt_46 : decode cX5_closeGapAt 46 = .ok (.getfield 18, 3) := by decide +kernel
theorem dX5_closeGapAt_49 : decode cX5_closeGapAt 49 = .ok (.iload_n 2, 1) := by decide +kernel
theorem dX5_closeGapAt_50 : decode cX5_closeGapAt 50 = .ok (.iconst 1, 1) := by decide +kernel
theorem dX5_closeGapAt_51 : decode cX5_closeGapAt 51 = .ok (.iadd, 1) := by decide +kernel
theorem dX5_closeGapAt_52 : decode cX5_closeGapAt 52 = .ok (.baload, 1) := by decide +kernel
theorem dX5_closeGapAt_53 : decode cX5_closeGapAt 53 = .ok (.bastore, 1) := by decide +kernel
theorem dX5_closeGapAt_54 : decode cX5_closeGapAt 54 = .ok (.iinc 2 1, 3) := by decide +kernel
theorem dX5_closeGapAt_57 : decode cX5_closeGapAt 57 = .ok (.goto (-55), 3) := by decide +kernel
theorem dX5_closeGapAt_60 : decode cX5_closeGapAt 60 = .ok (.aload_n 0, 1) := by decide +kernel
theorem dX5_closeGapAt_61 : decode cX5_closeGapAt 61 = .ok (.dup, 1) := by decide +kernel
theorem dX5_closeGapAt_62 : decode cX5_closeGapAt 62 = .ok (.getfield 22, 3) := by decide +kernel
theorem dX5_closeGapAt_65 : decode cX5_closeGapAt 65 = .ok (.iconst 1, 1) := by decide +kernel
theorem dX5_closeGapAt_66 : decode cX5_closeGapAt 66 = .ok (.isub, 1) := by decide +kernel
theorem dX5_closeGapAt_67 : decode cX5_closeGapAt 67 = .ok (.putfield 22, 3) := by decide +kernel
theorem dX5_closeGapAt_70 : decode cX5_closeGapAt 70 = .ok (.return_, 1) := by decide +kernel
theorem dX0_forgetUse_0 : decode cX0_forgetUse 0 = .ok (.iconst 0, 1) := by decide +kernel
theorem dX0_forgetUse_1 : decode cX0_forgetUse 1 = .ok (.istore_n 1, 1) := by decide +kernel
theorem dX0_forgetUse_2 : decode cX0_forgetUse 2 = .ok (.iload_n 1, 1) := by decide +kernel
theorem dX0_forgetUse_3 : decode cX0_forgetUse 3 = .ok (.bipush 24, 2) := by decide +kernel
theorem dX0_forgetUse_5 : decode cX0_forgetUse 5 = .ok (.if_icmp .ge 16, 3) := by decide +kernel
theorem dX0_forgetUse_8 : decode cX0_forgetUse 8 = .ok (.aload_n 0, 1) := by decide +kernel
theorem dX0_forgetUse_9 : decode cX0_forgetUse 9 = .ok (.getfield 18, 3) := by decide +kernel
theorem dX0_forgetUse_12 : decode cX0_forgetUse 12 = .ok (.iload_n 1, 1) := by decide +kernel
theorem dX0_forgetUse_13 : decode cX0_forgetUse 13 = .ok (.iconst 0, 1) := by decide +kernel
theorem dX0_forgetUse_14 : decode cX0_forgetUse 14 = .ok (.bastore, 1) := by decide +kernel
theorem dX0_forgetUse_15 : decode cX0_forgetUse 15 = .ok (.iinc 1 1, 3) := by decide +kernel
theorem dX0_forgetUse_18 : decode cX0_forgetUse 18 = .ok (.goto (-16), 3) := by decide +kernel
theorem dX0_forgetUse_21 : decode cX0_forgetUse 21 = .ok (.return_, 1) := by decide +kernel
theorem dX0_showLines_0 : decode cX0_showLines 0 = .ok (.aload_n 0, 1) := by decide +kernel
theorem dX0_showLines_1 : decode cX0_showLines 1 = .ok (.iconst 0, 1) := by decide +kernel
theorem dX0_showLines_2 : decode cX0_showLines 2 = .ok (.putfield 26, 3) := by decide +kernel
theorem dX0_showLines_5 : decode cX0_showLines 5 = .ok (.iconst 0, 1) := by decide +kernel
theorem dX0_showLines_6 : decode cX0_showLines 6 = .ok (.istore_n 2, 1) := by decide +kernel
theorem dX0_showLines_7 : decode cX0_showLines 7 = .ok (.iload_n 2, 1) := by decide +kernel
theorem dX0_showLines_8 : decode cX0_showLines 8 = .ok (.aload_n 0, 1) := by decide +kernel
theorem dX0_showLines_9 : decode cX0_showLines 9 = .ok (.getfield 12, 3) := by decide +kernel
theorem dX0_showLines_12 : decode cX0_showLines 12 = .ok (.getfield 30, 3) := by decide +kernel
theorem dX0_showLines_15 : decode cX0_showLines 15 = .ok (.if_icmp .ge 42, 3) := by decide +kernel
theorem dX0_showLines_18 : decode cX0_showLines 18 = .ok (.aload_n 0, 1) := by decide +kernel
theorem dX0_showLines_19 : decode cX0_showLines 19 = .ok (.getfield 18, 3) := by decide +kernel
theorem dX0_showLines_22 : decode cX0_showLines 22 = .ok (.iload_n 2, 1) := by decide +kernel
theorem dX0_showLines_23 : decode cX0_showLines 23 = .ok (.baload, 1) := by decide +kernel
theorem dX0_showLines_24 : decode cX0_showLines 24 = .ok (.ifCond .ne 7, 3) := by decide +kernel
theorem dX0_showLines_27 : decode cX0_showLines 27 = .ok (.iload_n 1, 1) := by decide +kernel
theorem dX0_showLines_28 : decode cX0_showLines 28 = .ok (.ifCond .ne 23, 3) := by decide +kernel
theorem dX0_showLines_31 : decode cX0_showLines 31 = .ok (.aload_n 0, 1) := by decide +kernel
theorem dX0_showLines_32 : decode cX0_showLines 32 = .ok (.getfield 22, 3) := by decide +kernel
theorem dX0_showLines_35 : decode cX0_showLines 35 = .ok (.aload_n 0, 1) := by decide +kernel
theorem dX0_showLines_36 : decode cX0_showLines 36 = .ok (.getfield 26, 3) := by decide +kernel
theorem dX0_showLines_39 : decode cX0_showLines 39 = .ok (.iload_n 2, 1) := by decide +kernel
theorem dX0_showLines_40 : decode cX0_showLines 40 = .ok (.iastore, 1) := by decide +kernel
theorem dX0_showLines_41 : decode cX0_showLines 41 = .ok (.aload_n 0, 1) := by decide +kernel
theorem dX0_showLines_42 : decode cX0_showLines 42 = .ok (.dup, 1) := by decide +kernel
theorem dX0_showLines_43 : decode cX0_showLines 43 = .ok (.getfield 26, 3) := by decide +kernel
theorem dX0_showLines_46 : decode cX0_showLines 46 = .ok (.iconst 1, 1) := by decide +kernel
theorem dX0_showLines_47 : decode cX0_showLines 47 = .ok (.iadd, 1) := by decide +kernel
theorem dX0_showLines_48 : decode cX0_showLines 48 = .ok (.putfield 26, 3) := by decide +kernel
theorem dX0_showLines_51 : decode cX0_showLines 51 = .ok (.iinc 2 1, 3) := by decide +kernel
theorem dX0_showLines_54 : decode cX0_showLines 54 = .ok (.goto (-47), 3) := by decide +kernel
theorem dX0_showLines_57 : decode cX0_showLines 57 = .ok (.return_, 1) := by decide +kernel
theorem dX0_hasLine_0 : decode cX0_hasLine 0 = .ok (.iload_n 1, 1) := by decide +kernel
theorem dX0_hasLine_1 : decode cX0_hasLine 1 = .ok (.ifCond .lt 15, 3) := by decide +kernel
theorem dX0_hasLine_4 : decode cX0_hasLine 4 = .ok (.iload_n 1, 1) := by decide +kernel
theorem dX0_hasLine_5 : decode cX0_hasLine 5 = .ok (.aload_n 0, 1) := by decide +kernel
theorem dX0_hasLine_6 : decode cX0_hasLine 6 = .ok (.getfield 26, 3) := by decide +kernel
theorem dX0_hasLine_9 : decode cX0_hasLine 9 = .ok (.if_icmp .ge 7, 3) := by decide +kernel
theorem dX0_hasLine_12 : decode cX0_hasLine 12 = .ok (.iconst 1, 1) := by decide +kernel
theorem dX0_hasLine_13 : decode cX0_hasLine 13 = .ok (.goto 4, 3) := by decide +kernel
theorem dX0_hasLine_16 : decode cX0_hasLine 16 = .ok (.iconst 0, 1) := by decide +kernel
theorem dX0_hasLine_17 : decode cX0_hasLine 17 = .ok (.ireturn, 1) := by decide +kernel
theorem dX0_memberOfLine_0 : decode cX0_memberOfLine 0 = .ok (.aload_n 0, 1) := by decide +kernel
theorem dX0_memberOfLine_1 : decode cX0_memberOfLine 1 = .ok (.iload_n 1, 1) := by decide +kernel
theorem dX0_memberOfLine_2 : decode cX0_memberOfLine 2 = .ok (.invokevirtual 33, 3) := by decide +kernel
theorem dX0_memberOfLine_5 : decode cX0_memberOfLine 5 = .ok (.ifCond .eq 20, 3) := by decide +kernel
theorem dX0_memberOfLine_8 : decode cX0_memberOfLine 8 = .ok (.aload_n 0, 1) := by decide +kernel
theorem dX0_memberOfLine_9 : decode cX0_memberOfLine 9 = .ok (.getfield 12, 3) := by decide +kernel
theorem dX0_memberOfLine_12 : decode cX0_memberOfLine 12 = .ok (.getfield 37, 3) := by decide +kernel
theorem dX0_memberOfLine_15 : decode cX0_memberOfLine 15 = .ok (.aload_n 0, 1) := by decide +kernel
theorem dX0_memberOfLine_16 : decode cX0_memberOfLine 16 = .ok (.getfield 22, 3) := by decide +kernel
theorem dX0_memberOfLine_19 : decode cX0_memberOfLine 19 = .ok (.iload_n 1, 1) := by decide +kernel
theorem dX0_memberOfLine_20 : decode cX0_memberOfLine 20 = .ok (.iaload, 1) := by decide +kernel
theorem dX0_memberOfLine_21 : decode cX0_memberOfLine 21 = .ok (.iaload, 1) := by decide +kernel
theorem dX0_memberOfLine_22 : decode cX0_memberOfLine 22 = .ok (.goto 4, 3) := by decide +kernel
theorem dX0_memberOfLine_25 : decode cX0_memberOfLine 25 = .ok (.iconst (-1), 1) := by decide +kernel
theorem dX0_memberOfLine_26 : decode cX0_memberOfLine 26 = .ok (.ireturn, 1) := by decide +kernel
theorem dX2_clearSums_0 : decode cX2_clearSums 0 = .ok (.iconst 0, 1) := by decide +kernel
theorem dX2_clearSums_1 : decode cX2_clearSums 1 = .ok (.istore_n 1, 1) := by decide +kernel
theorem dX2_clearSums_2 : decode cX2_clearSums 2 = .ok (.iload_n 1, 1) := by decide +kernel
theorem dX2_clearSums_3 : decode cX2_clearSums 3 = .ok (.bipush 24, 2) := by decide +kernel
theorem dX2_clearSums_5 : decode cX2_clearSums 5 = .ok (.if_icmp .ge 16, 3) := by decide +kernel
theorem dX2_clearSums_8 : decode cX2_clearSums 8 = .ok (.aload_n 0, 1) := by decide +kernel
theorem dX2_clearSums_9 : decode cX2_clearSums 9 = .ok (.getfield 18, 3) := by decide +kernel
theorem dX2_clearSums_12 : decode cX2_clearSums 12 = .ok (.iload_n 1, 1) := by decide +kernel
theorem dX2_clearSums_13 : decode cX2_clearSums 13 = .ok (.iconst 0, 1) := by decide +kernel
theorem dX2_clearSums_14 : decode cX2_clearSums 14 = .ok (.iastore, 1) := by decide +kernel
theorem dX2_clearSums_15 : decode cX2_clearSums 15 = .ok (.iinc 1 1, 3) := by decide +kernel
theorem dX2_clearSums_18 : decode cX2_clearSums 18 = .ok (.goto (-16), 3) := by decide +kernel
theorem dX2_clearSums_21 : decode cX2_clearSums 21 = .ok (.return_, 1) := by decide +kernel
theorem dX2_childrenAheadOf_0 : decode cX2_childrenAheadOf 0 = .ok (.iconst 0, 1) := by decide +kernel
theorem dX2_childrenAheadOf_1 : decode cX2_childrenAheadOf 1 = .ok (.istore_n 2, 1) := by decide +kernel
theorem dX2_childrenAheadOf_2 : decode cX2_childrenAheadOf 2 = .ok (.iconst 0, 1) := by decide +kernel
theorem dX2_childrenAheadOf_3 : decode cX2_childrenAheadOf 3 = .ok (.istore_n 3, 1) := by decide +kernel
theorem dX2_childrenAheadOf_4 : decode cX2_childrenAheadOf 4 = .ok (.iload_n 3, 1) := by decide +kernel
theorem dX2_childrenAheadOf_5 : decode cX2_childrenAheadOf 5 = .ok (.aload_n 0, 1) := by decide +kernel
theorem dX2_childrenAheadOf_6 : decode cX2_childrenAheadOf 6 = .ok (.getfield 12, 3) := by decide +kernel
theorem dX2_childrenAheadOf_9 : decode cX2_childrenAheadOf 9 = .ok (.getfield 22, 3) := by decide +kernel
theorem dX2_childrenAheadOf_12 : decode cX2_childrenAheadOf 12 = .ok (.if_icmp .ge 59, 3) := by decide +kernel
theorem dX2_childrenAheadOf_15 : decode cX2_childrenAheadOf 15 = .ok (.aload_n 0, 1) := by decide +kernel
theorem dX2_childrenAheadOf_16 : decode cX2_childrenAheadOf 16 = .ok (.getfield 18, 3) := by decide +kernel
theorem dX2_childrenAheadOf_19 : decode cX2_childrenAheadOf 19 = .ok (.iload_n 3, 1) := by decide +kernel
theorem dX2_childrenAheadOf_20 : decode cX2_childrenAheadOf 20 = .ok (.iaload, 1) := by decide +kernel
theorem dX2_childrenAheadOf_21 : decode cX2_childrenAheadOf 21 = .ok (.aload_n 0, 1) := by decide +kernel
theorem dX2_childrenAheadOf_22 : decode cX2_childrenAheadOf 22 = .ok (.getfield 18, 3) := by decide +kernel
theorem dX2_childrenAheadOf_25 : decode cX2_childrenAheadOf 25 = .ok (.iload_n 1, 1) := by decide +kernel
theorem dX2_childrenAheadOf_26 : decode cX2_childrenAheadOf 26 = .ok (.iaload, 1) := by decide +kernel
theorem dX2_childrenAheadOf_27 : decode cX2_childrenAheadOf 27 = .ok (.if_icmp .ne 7, 3) := by decide +kernel
theorem dX2_childrenAheadOf_30 : decode cX2_childrenAheadOf 30 = .ok (.iconst 1, 1) := by decide +kernel
theorem dX2_childrenAheadOf_31 : decode cX2_childrenAheadOf 31 = .ok (.goto 4, 3) := by decide +kernel
theorem dX2_childrenAheadOf_34 : decode cX2_childrenAheadOf 34 = .ok (.iconst 0, 1) := by decide +kernel
theorem dX2_childrenAheadOf_35 : decode cX2_childrenAheadOf 35 = .ok (.istore 4, 2) := by decide +kernel
theorem dX2_childrenAheadOf_37 : decode cX2_childrenAheadOf 37 = .ok (.aload_n 0, 1) := by decide +kernel
theorem dX2_childrenAheadOf_38 : decode cX2_childrenAheadOf 38 = .ok (.getfield 18, 3) := by decide +kernel
theorem dX2_childrenAheadOf_41 : decode cX2_childrenAheadOf 41 = .ok (.iload_n 3, 1) := by decide +kernel
theorem dX2_childrenAheadOf_42 : decode cX2_childrenAheadOf 42 = .ok (.iaload, 1) := by decide +kernel
theorem dX2_childrenAheadOf_43 : decode cX2_childrenAheadOf 43 = .ok (.aload_n 0, 1) := by decide +kernel
theorem dX2_childrenAheadOf_44 : decode cX2_childrenAheadOf 44 = .ok (.getfield 18, 3) := by decide +kernel
theorem dX2_childrenAheadOf_47 : decode cX2_childrenAheadOf 47 = .ok (.iload_n 1, 1) := by decide +kernel
theorem dX2_childrenAheadOf_48 : decode cX2_childrenAheadOf 48 = .ok (.iaload, 1) := by decide +kernel
theorem dX2_childrenAheadOf_49 : decode cX2_childrenAheadOf 49 = .ok (.if_icmp .gt 13, 3) := by decide +kernel
theorem dX2_childrenAheadOf_52 : decode cX2_childrenAheadOf 52 = .ok (.iload 4, 2) := by decide +kernel
theorem dX2_childrenAheadOf_54 : decode cX2_childrenAheadOf 54 = .ok (.ifCond .eq 11, 3) := by decide +kernel
theorem dX2_childrenAheadOf_57 : decode cX2_childrenAheadOf 57 = .ok (.iload_n 3, 1) := by decide +kernel
theorem dX2_childrenAheadOf_58 : decode cX2_childrenAheadOf 58 = .ok (.iload_n 1, 1) := by decide +kernel
theorem dX2_childrenAheadOf_59 : decode cX2_childrenAheadOf 59 = .ok (.if_icmp .ge 6, 3) := by decide +kernel
theorem dX2_childrenAheadOf_62 : decode cX2_childrenAheadOf 62 = .ok (.iinc 2 1, 3) := by decide +kernel
theorem dX2_childrenAheadOf_65 : decode cX2_childrenAheadOf 65 = .ok (.iinc 3 1, 3) := by decide +kernel
theorem dX2_childrenAheadOf_68 : decode cX2_childrenAheadOf 68 = .ok (.goto (-64), 3) := by decide +kernel
theorem dX2_childrenAheadOf_71 : decode cX2_childrenAheadOf 71 = .ok (.iload_n 2, 1) := by decide +kernel
theorem dX2_childrenAheadOf_72 : decode cX2_childrenAheadOf 72 = .ok (.ireturn, 1) := by decide +kernel
theorem dX2_childOfRank_0 : decode cX2_childOfRank 0 = .ok (.iconst 0, 1) := by decide +kernel
theorem dX2_childOfRank_1 : decode cX2_childOfRank 1 = .ok (.istore_n 2, 1) := by decide +kernel
theorem dX2_childOfRank_2 : decode cX2_childOfRank 2 = .ok (.iload_n 2, 1) := by decide +kernel
theorem dX2_childOfRank_3 : decode cX2_childOfRank 3 = .ok (.aload_n 0, 1) := by decide +kernel
theorem dX2_childOfRank_4 : decode cX2_childOfRank 4 = .ok (.getfield 12, 3) := by decide +kernel
theorem dX2_childOfRank_7 : decode cX2_childOfRank 7 = .ok (.getfield 22, 3) := by decide +kernel
theorem dX2_childOfRank_10 : decode cX2_childOfRank 10 = .ok (.if_icmp .ge 20, 3) := by decide +kernel
theorem dX2_childOfRank_13 : decode cX2_childOfRank 13 = .ok (.aload_n 0, 1) := by decide +kernel
theorem dX2_childOfRank_14 : decode cX2_childOfRank 14 = .ok (.iload_n 2, 1) := by decide +kernel
theorem dX2_childOfRank_15 : decode cX2_childOfRank 15 = .ok (.invokevirtual 26, 3) := by decide +kernel
theorem dX2_childOfRank_18 : decode cX2_childOfRank 18 = .ok (.iload_n 1, 1) := by decide +kernel
theorem dX2_childOfRank_19 : decode cX2_childOfRank 19 = .ok (.if_icmp .ne 5, 3) := by decide +kernel
theorem dX2_childOfRank_22 : decode cX2_childOfRank 22 = .ok (.iload_n 2, 1) := by decide +kernel
theorem dX2_childOfRank_23 : decode cX2_childOfRank 23 = .ok (.ireturn, 1) := by decide +kernel
theorem dX2_childOfRank_24 : decode cX2_childOfRank 24 = .ok (.iinc 2 1, 3) := by decide +kernel
theorem dX2_childOfRank_27 : decode cX2_childOfRank 27 = .ok (.goto (-25), 3) := by decide +kernel
theorem dX2_childOfRank_30 : decode cX2_childOfRank 30 = .ok (.iconst (-1), 1) := by decide +kernel
theorem dX2_childOfRank_31 : decode cX2_childOfRank 31 = .ok (.ireturn, 1) := by decide +kernel
theorem dX2_sumOfRank_0 : decode cX2_sumOfRank 0 = .ok (.aload_n 0, 1) := by decide +kernel
theorem dX2_sumOfRank_1 : decode cX2_sumOfRank 1 = .ok (.iload_n 1, 1) := by decide +kernel
theorem dX2_sumOfRank_2 : decode cX2_sumOfRank 2 = .ok (.invokevirtual 30, 3) := by decide +kernel
theorem dX2_sumOfRank_5 : decode cX2_sumOfRank 5 = .ok (.istore_n 2, 1) := by decide +kernel
theorem dX2_sumOfRank_6 : decode cX2_sumOfRank 6 = .ok (.aload_n 0, 1) := by decide +kernel
theorem dX2_sumOfRank_7 : decode cX2_sumOfRank 7 = .ok (.getfield 12, 3) := by decide +kernel
theorem dX2_sumOfRank_10 : decode cX2_sumOfRank 10 = .ok (.iload_n 2, 1) := by decide +kernel
theorem dX2_sumOfRank_11 : decode cX2_sumOfRank 11 = .ok (.invokevirtual 33, 3) := by decide +kernel
theorem dX2_sumOfRank_14 : decode cX2_sumOfRank 14 = .ok (.ifCond .eq 12, 3) := by decide +kernel
theorem dX2_sumOfRank_17 : decode cX2_sumOfRank 17 = .ok (.aload_n 0, 1) := by decide +kernel
theorem dX2_sumOfRank_18 : decode cX2_sumOfRank 18 = .ok (.getfield 18, 3) := by decide +kernel
theorem dX2_sumOfRank_21 : decode cX2_sumOfRank 21 = .ok (.iload_n 2, 1) := by decide +kernel
theorem dX2_sumOfRank_22 : decode cX2_sumOfRank 22 = .ok (.iaload, 1) := by decide +kernel
theorem dX2_sumOfRank_23 : decode cX2_sumOfRank 23 = .ok (.goto 4, 3) := by decide +kernel
theorem dX2_sumOfRank_26 : decode cX2_sumOfRank 26 = .ok (.iconst 0, 1) := by decide +kernel
theorem dX2_sumOfRank_27 : decode cX2_sumOfRank 27 = .ok (.ireturn, 1) := by decide +kernel
/-! by program: wip/whole/gen.py out of wip/whole/src/13.parts.eb -/
/-! FactList (6), ViewList (11), Axis (15), Lineup (20) -/
set_option maxRecDepth 100000 in
set_option maxHeartbeats 8000000 in
theorem c_X1_has {l : Launch} {D : va_G} {cys : Nat → ClassId} {ad : Nat → Int → Nat} {L : List Nat} {g : Nat → va_E} {X : Int64} {Z : ZT} (hi : injA ad) {q : Int} (hq : inR q) (hs : inR (Z 6 0 3)) : CM l D cys ad yX1_has cX1_has 2 (some .boolean) 0 0 0 0 [.ref (ad 6 0), .int (iI q)] L g X Z (PI L g X Z (fun r => (r = 1 ∧ 0 ≤ q ∧ q < Z 6 0 3) ∨ (r = 0 ∧ ¬ (0 ≤ q ∧ q < Z 6 0 3)))) := by
  refine cm_start hi (by decide +kernel) (Nat.le_of_ble_eq_true rfl) ?_
  intro p_ e_ s_ m_ args_ below_ meth_ c_ A_ Q_ hQ G hr hin
  refine j_iload_n G dX1_has_0 rfl ?_
  refine j_if_lt G 16 dX1_has_1 (by decide) (by omega) (fun c1 => ?_) (fun c1 => ?_)
  · refine j_iconst G dX1_has_16 ?_
    refine jr_B G hQ hr dX1_has_17 (by decide) (by decide) (by omega) ?_
    first | omega | (refine ⟨?_, ?_⟩ <;> (try intros) <;> first | rfl | omega | (exfalso; omega)) | simp
  · refine j_iload_n G dX1_has_4 rfl ?_
    refine j_aload_n G dX1_has_5 rfl ?_
    refine gf_6_3 G dX1_has_6 lf1_23 (by first | assumption | decide) ?_
    refine j_icmp_ge G 16 dX1_has_9 (by decide) (by omega) (by omega) (fun c9 => ?_) (fun c9 => ?_)
    · refine j_iconst G dX1_has_16 ?_
      refine jr_B G hQ hr dX1_has_17 (by decide) (by decide) (by omega) ?_
      first | omega | (refine ⟨?_, ?_⟩ <;> (try intros) <;> first | rfl | omega | (exfalso; omega)) | simp
    · refine j_iconst G dX1_has_12 ?_
      refine j_goto G 17 dX1_has_13 (by decide) ?_
      refine jr_B G hQ hr dX1_has_17 (by decide) (by decide) (by omega) ?_
      first | omega | (refine ⟨?_, ?_⟩ <;> (try intros) <;> first | rfl | omega | (exfalso; omega)) | simp
set_option maxRecDepth 100000 in
set_option maxHeartbeats 8000000 in
theorem c_X1_closeGapAt {l : Launch} {D : va_G} {cys : Nat → ClassId} {ad : Nat → Int → Nat} {L : List Nat} {g : Nat → va_E} {X : Int64} {Z : ZT} (hi : injA ad) {gap : Int} (hg : 0 ≤ gap ∧ gap < Z 6 0 3) (hs : Z 6 0 3 ≤ 80) : CM l D cys ad yX1_closeGapAt cX1_closeGapAt 4 none 0 0 0 0 [.ref (ad 6 0), .int (iI gap)] L g X Z (PVZ L g X Z (fun Z' => (∀ k, k ≠ 6 → k ≠ 8 → k ≠ 9 → Z' k = Z k) ∧ Z' 6 0 3 = Z 6 0 3 - 1 ∧ (∀ k, Z' 9 0 k = gapF gap (Z 6 0 3 - 1) (Z 9 0) k) ∧ (∀ d, 0 ≤ d → d < 4 → ∀ k, Z' 8 d k = gapF gap (Z 6 0 3 - 1) (Z 8 d) k))) := by
  refine cm_start hi (by decide +kernel) (Nat.le_of_ble_eq_true rfl) ?_
  intro p_ e_ s_ m_ args_ below_ meth_ c_ A_ Q_ hQ G hr hin
  have loop : ∀ (n : Nat) (a : Int) (Y : ZT), gap ≤ a → a < Z 6 0 3 → (Z 6 0 3 - 1 - a).toNat = n → (∀ k, k ≠ 8 → k ≠ 9 → Y k = Z k) → (∀ k, Y 9 0 k = gapF gap a (Z 9 0) k) → (∀ d, 0 ≤ d → d < 4 → ∀ k, Y 8 d k = gapF gap a (Z 8 d) k) → JJ p_ l e_ { frames := 0, cells := 0, slots := 0, locals := 0 } s_ m_ args_ below_ meth_ c_ D cys ad A_ Q_ 4 0 0 L g X Y 2 [(0, .ref (ad 6 0)), (1, .int (iI gap)), (2, .int (iI a))] [] := by
    have hfin : ∀ (a : Int) (Y : ZT) , a = Z 6 0 3 - 1 → (∀ k, k ≠ 8 → k ≠ 9 → Y k = Z k) → (∀ k, Y 9 0 k = gapF gap a (Z 9 0) k) → (∀ d, 0 ≤ d → d < 4 → ∀ k, Y 8 d k = gapF gap a (Z 8 d) k) → (∀ k, k ≠ 6 → k ≠ 8 → k ≠ 9 → zS Y 6 0 3 (Y 6 0 3 - 1) k = Z k) ∧ zS Y 6 0 3 (Y 6 0 3 - 1) 6 0 3 = Z 6 0 3 - 1 ∧ (∀ k, zS Y 6 0 3 (Y 6 0 3 - 1) 9 0 k = gapF gap (Z 6 0 3 - 1) (Z 9 0) k) ∧ (∀ d, 0 ≤ d → d < 4 → ∀ k, zS Y 6 0 3 (Y 6 0 3 - 1) 8 d k = gapF gap (Z 6 0 3 - 1) (Z 8 d) k) := by
      intro a Y h0 h3 h4 h5
      subst h0
      refine ⟨fun k k1 k2 k3 => ?_, ?_, fun k => ?_, fun d d0 d1 k => ?_⟩
      · rw [zS_k k1]; exact h3 k k2 k3
      · rw [zS_s, h3 6 (by decide) (by decide)]
      · rw [zS_k (by decide)]; exact h4 k
      · rw [zS_k (by decide)]; exact h5 d d0 d1 k
    intro n
    induction n with
    | zero =>
      intro a Y h0 h1 h2 h3 h4 h5
      have e6 : Y 6 0 3 = Z 6 0 3 := by rw [h3 6 (by decide) (by decide)]
      have hf := hfin a Y (by omega) h3 h4 h5
      refine j_iload_n G dX1_closeGapAt_2 rfl ?_
      refine j_iconst G dX1_closeGapAt_3 ?_
      refine j_iadd G dX1_closeGapAt_4 ?_
      refine j_aload_n G dX1_closeGapAt_5 rfl ?_
      refine gf_6_3 G dX1_closeGapAt_6 lf1_23 (by first | assumption | decide) ?_
      refine j_icmp_ge G 63 dX1_closeGapAt_9 (by decide) (by omega) (by omega) (fun c9 => ?_) (fun c9 => ?_)
      · refine j_aload_n G dX1_closeGapAt_63 rfl ?_
        refine j_dup G dX1_closeGapAt_64 rfl ?_
        refine gf_6_3 G dX1_closeGapAt_65 lf1_23 (by first | assumption | decide) ?_
        refine j_iconst G dX1_closeGapAt_68 ?_
        refine j_isub G dX1_closeGapAt_69 ?_
        refine pf_6_3 G dX1_closeGapAt_70 lf1_23 (by first | assumption | decide) ?_
        refine jr_VZ G hQ hr dX1_closeGapAt_73 (by decide) (by decide) ?_
        try simp (config := { decide := true }) only [zS_k, zS_s, zS_j, ne_eq]
        exact hf
      · exfalso; omega
    | succ n ih =>
      intro a Y h0 h1 h2 h3 h4 h5
      have e6 : Y 6 0 3 = Z 6 0 3 := by rw [h3 6 (by decide) (by decide)]
      refine j_iload_n G dX1_closeGapAt_2 rfl ?_
      refine j_iconst G dX1_closeGapAt_3 ?_
      refine j_iadd G dX1_closeGapAt_4 ?_
      refine j_aload_n G dX1_closeGapAt_5 rfl ?_
      refine gf_6_3 G dX1_closeGapAt_6 lf1_23 (by first | assumption | decide) ?_
      refine j_icmp_ge G 63 dX1_closeGapAt_9 (by decide) (by omega) (by omega) (fun c9 => ?_) (fun c9 => ?_)
      · exfalso; omega
      · refine j_aload_n G dX1_closeGapAt_12 rfl ?_
        refine gf_6_1 G dX1_closeGapAt_13 lf1_16 (by first | assumption | decide) ?_
        refine j_iload_n G dX1_closeGapAt_16 rfl ?_
        refine j_aload_n G dX1_closeGapAt_17 rfl ?_
        refine gf_6_1 G dX1_closeGapAt_18 lf1_16 (by first | assumption | decide) ?_
        refine j_iload_n G dX1_closeGapAt_21 rfl ?_
        refine j_iconst G dX1_closeGapAt_22 ?_
        refine j_iadd G dX1_closeGapAt_23 ?_
        refine al_9 G dX1_closeGapAt_24 (by first | assumption | decide) (by omega) (by omega) ?_
        refine as_9 G dX1_closeGapAt_25 (by first | assumption | decide) (by omega) (by omega) ?_
        refine j_iconst G dX1_closeGapAt_26 ?_
        refine j_istore_n G dX1_closeGapAt_27 (by decide) rfl ?_
        have inner : ∀ (n : Nat) (b : Int) (V : ZT), 0 ≤ b → b ≤ 4 → (4 - b).toNat = n → (∀ k, k ≠ 8 → k ≠ 9 → V k = Z k) → (∀ k, V 9 0 k = gapF gap (a + 1) (Z 9 0) k) → (∀ d, 0 ≤ d → d < b → ∀ k, V 8 d k = gapF gap (a + 1) (Z 8 d) k) → (∀ d, b ≤ d → d < 4 → ∀ k, V 8 d k = gapF gap a (Z 8 d) k) → JJ p_ l e_ { frames := 0, cells := 0, slots := 0, locals := 0 } s_ m_ args_ below_ meth_ c_ D cys ad A_ Q_ 4 0 0 L g X V 28 [(0, .ref (ad 6 0)), (1, .int (iI gap)), (2, .int (iI a)), (3, .int (iI b))] [] := by
          intro n2
          induction n2 with
          | zero =>
            intro b V g0 g1 g2 g3 g4 g5 g6
            refine j_iload_n G dX1_closeGapAt_28 rfl ?_
            refine j_iconst G dX1_closeGapAt_29 ?_
            refine j_icmp_ge G 57 dX1_closeGapAt_30 (by decide) (by omega) (by omega) (fun c30 => ?_) (fun c30 => ?_)
            · refine j_iinc G dX1_closeGapAt_57 rfl (by decide) rfl ?_
              refine j_goto G 2 dX1_closeGapAt_60 (by decide) ?_
              refine j_keep [0, 1, 2] ?_
              exact ih (a + 1) V (by omega) (by omega) (by omega) g3 g4 (fun d d0 d1 => g5 d d0 (by omega))
            · exfalso; omega
          | succ n2 ih2 =>
            intro b V g0 g1 g2 g3 g4 g5 g6
            have hb8 : vd 8 b := ⟨g0, show b < 4 by omega⟩
            refine j_iload_n G dX1_closeGapAt_28 rfl ?_
            refine j_iconst G dX1_closeGapAt_29 ?_
            refine j_icmp_ge G 57 dX1_closeGapAt_30 (by decide) (by omega) (by omega) (fun c30 => ?_) (fun c30 => ?_)
            · exfalso; omega
            · refine j_aload_n G dX1_closeGapAt_33 rfl ?_
              refine gf_6_0 G dX1_closeGapAt_34 lf1_11 (by first | assumption | decide) ?_
              refine j_iload_n G dX1_closeGapAt_37 rfl ?_
              refine al_7 G dX1_closeGapAt_38 (by first | assumption | decide) (by omega) (by omega) ?_
              refine j_iload_n G dX1_closeGapAt_39 rfl ?_
              refine j_aload_n G dX1_closeGapAt_40 rfl ?_
              refine gf_6_0 G dX1_closeGapAt_41 lf1_11 (by first | assumption | decide) ?_
              refine j_iload_n G dX1_closeGapAt_44 rfl ?_
              refine al_7 G dX1_closeGapAt_45 (by first | assumption | decide) (by omega) (by omega) ?_
              refine j_iload_n G dX1_closeGapAt_46 rfl ?_
              refine j_iconst G dX1_closeGapAt_47 ?_
              refine j_iadd G dX1_closeGapAt_48 ?_
              refine al_8 G dX1_closeGapAt_49 (by first | assumption | decide) (by omega) (by omega) ?_
              refine as_8 G dX1_closeGapAt_50 (by first | assumption | decide) (by omega) (by omega) ?_
              refine j_iinc G dX1_closeGapAt_51 rfl (by decide) rfl ?_
              refine j_goto G 28 dX1_closeGapAt_54 (by decide) ?_
              refine ih2 (b + 1) _ (by omega) (by omega) (by omega) (fun k k1 k2 => ?_) (fun k => ?_) (fun d d0 d1 k => ?_) (fun d d0 d1 k => ?_)
              · rw [zS_k k1]; exact g3 k k1 k2
              · rw [zS_k (by decide)]; exact g4 k
              · by_cases e : d = b
                · subst e
                  rw [zS_v, g6 d (by omega) (by omega), g6 d (by omega) (by omega)]
                  unfold gapF
                  by_cases e2 : k = a
                  · subst e2
                    rw [if_pos rfl, if_neg (by omega), if_pos (by omega)]
                  · rw [if_neg e2]
                    by_cases e3 : gap ≤ k ∧ k < a
                    · rw [if_pos e3, if_pos (by omega)]
                    · rw [if_neg e3, if_neg (by omega)]
                · rw [zS_o (fun q => e q.2)]; exact g5 d d0 (by omega) k
              · rw [zS_o (by omega)]; exact g6 d (by omega) d1 k
        refine inner 4 0 _ (by omega) (by omega) rfl (fun k k1 k2 => ?_) (fun k => ?_) (fun d d0 d1 => by omega) (fun d d0 d1 k => ?_)
        · rw [zS_k k2]; exact h3 k k1 k2
        · rw [zS_v, h4, h4]
          unfold gapF
          by_cases e2 : k = a
          · subst e2
            rw [if_pos rfl, if_neg (by omega), if_pos (by omega)]
          · rw [if_neg e2]
            by_cases e3 : gap ≤ k ∧ k < a
            · rw [if_pos e3, if_pos (by omega)]
            · rw [if_neg e3, if_neg (by omega)]
        · rw [zS_k (by decide)]; exact h5 d d0 d1 k
  refine j_iload_n G dX1_closeGapAt_0 rfl ?_
  refine j_istore_n G dX1_closeGapAt_1 (by decide) rfl ?_
  refine loop _ gap Z (by omega) hg.2 rfl (fun _ _ _ => rfl) (fun k => ?_) (fun d _ _ k => ?_)
  · unfold gapF; rw [if_neg (by omega)]
  · unfold gapF; rw [if_neg (by omega)]
set_option maxRecDepth 100000 in
set_option maxHeartbeats 8000000 in
theorem c_X1_isFirstOfItsCell {l : Launch} {D : va_G} {cys : Nat → ClassId} {ad : Nat → Int → Nat} {L : List Nat} {g : Nat → va_E} {X : Int64} {Z : ZT} (hi : injA ad) {q : Int} (hq : 0 ≤ q ∧ q < 80) (hv : ∀ j, 0 ≤ j → j ≤ q → inR (Z 10 0 j)) : CM l D cys ad yX1_isFirstOfItsCell cX1_isFirstOfItsCell 3 (some .boolean) 0 0 0 0 [.ref (ad 6 0), .int (iI q)] L g X Z (PI L g X Z (fun r => (r = 1 ∧ ∀ j, 0 ≤ j → j < q → Z 10 0 j ≠ Z 10 0 q) ∨ (r = 0 ∧ ∃ j, 0 ≤ j ∧ j < q ∧ Z 10 0 j = Z 10 0 q))) := by
  refine cm_start hi (by decide +kernel) (Nat.le_of_ble_eq_true rfl) ?_
  intro p_ e_ s_ m_ args_ below_ meth_ c_ A_ Q_ hQ G hr hin
  have hvq := hv q hq.1 (by omega)
  have loop : ∀ (n : Nat) (a : Int), 0 ≤ a → a ≤ q → (q - a).toNat = n → (∀ j, 0 ≤ j → j < a → Z 10 0 j ≠ Z 10 0 q) → JJ p_ l e_ { frames := 0, cells := 0, slots := 0, locals := 0 } s_ m_ args_ below_ meth_ c_ D cys ad A_ Q_ 3 0 0 L g X Z 2 [(0, .ref (ad 6 0)), (1, .int (iI q)), (2, .int (iI a))] [] := by
    intro n
    induction n with
    | zero =>
      intro a h0 h1 h2 h3
      refine j_iload_n G dX1_isFirstOfItsCell_2 rfl ?_
      refine j_iload_n G dX1_isFirstOfItsCell_3 rfl ?_
      refine j_icmp_ge G 30 dX1_isFirstOfItsCell_4 (by decide) (by omega) (by omega) (fun c4 => ?_) (fun c4 => ?_)
      · refine j_iconst G dX1_isFirstOfItsCell_30 ?_
        refine jr_B G hQ hr dX1_isFirstOfItsCell_31 (by decide) (by decide) (by omega) ?_
        exact Or.inl ⟨rfl, fun j h4 h5 => h3 j h4 (by omega)⟩
      · exfalso; omega
    | succ n ih =>
      intro a h0 h1 h2 h3
      have hva := hv a h0 h1
      refine j_iload_n G dX1_isFirstOfItsCell_2 rfl ?_
      refine j_iload_n G dX1_isFirstOfItsCell_3 rfl ?_
      refine j_icmp_ge G 30 dX1_isFirstOfItsCell_4 (by decide) (by omega) (by omega) (fun c4 => ?_) (fun c4 => ?_)
      · exfalso; omega
      · refine j_aload_n G dX1_isFirstOfItsCell_7 rfl ?_
        refine gf_6_2 G dX1_isFirstOfItsCell_8 lf1_20 (by first | assumption | decide) ?_
        refine j_iload_n G dX1_isFirstOfItsCell_11 rfl ?_
        refine al_10 G dX1_isFirstOfItsCell_12 (by first | assumption | decide) (by omega) (by omega) ?_
        refine j_aload_n G dX1_isFirstOfItsCell_13 rfl ?_
        refine gf_6_2 G dX1_isFirstOfItsCell_14 lf1_20 (by first | assumption | decide) ?_
        refine j_iload_n G dX1_isFirstOfItsCell_17 rfl ?_
        refine al_10 G dX1_isFirstOfItsCell_18 (by first | assumption | decide) (by omega) (by omega) ?_
        refine j_icmp_ne G 24 dX1_isFirstOfItsCell_19 (by decide) (by omega) (by omega) (fun c19 => ?_) (fun c19 => ?_)
        · refine j_iinc G dX1_isFirstOfItsCell_24 rfl (by decide) rfl ?_
          refine j_goto G 2 dX1_isFirstOfItsCell_27 (by decide) ?_
          refine ih (a + 1) (by omega) (by omega) (by omega) (fun j h4 h5 => ?_)
          by_cases e : j = a
          · subst e; assumption
          · exact h3 j h4 (by omega)
        · refine j_iconst G dX1_isFirstOfItsCell_22 ?_
          refine jr_B G hQ hr dX1_isFirstOfItsCell_23 (by decide) (by decide) (by omega) ?_
          exact Or.inr ⟨rfl, a, h0, by omega, by omega⟩
  refine j_iconst G dX1_isFirstOfItsCell_0 ?_
  refine j_istore_n G dX1_isFirstOfItsCell_1 (by decide) rfl ?_
  exact loop _ 0 (by omega) (by omega) rfl (fun j h4 h5 => by omega)
set_option maxRecDepth 100000 in
set_option maxHeartbeats 8000000 in
theorem c_X5_has {l : Launch} {D : va_G} {cys : Nat → ClassId} {ad : Nat → Int → Nat} {L : List Nat} {g : Nat → va_E} {X : Int64} {Z : ZT} (hi : injA ad) {q : Int} (hq : inR q) (hs : inR (Z 11 0 3)) : CM l D cys ad yX5_has cX5_has 2 (some .boolean) 0 0 0 0 [.ref (ad 11 0), .int (iI q)] L g X Z (PI L g X Z (fun r => (r = 1 ∧ 0 ≤ q ∧ q < Z 11 0 3) ∨ (r = 0 ∧ ¬ (0 ≤ q ∧ q < Z 11 0 3)))) := by
  refine cm_start hi (by decide +kernel) (Nat.le_of_ble_eq_true rfl) ?_
  intro p_ e_ s_ m_ args_ below_ meth_ c_ A_ Q_ hQ G hr hin
  refine j_iload_n G dX5_has_0 rfl ?_
  refine j_if_lt G 16 dX5_has_1 (by decide) (by omega) (fun c1 => ?_) (fun c1 => ?_)
  · refine j_iconst G dX5_has_16 ?_
    refine jr_B G hQ hr dX5_has_17 (by decide) (by decide) (by omega) ?_
    first | omega | (refine ⟨?_, ?_⟩ <;> (try intros) <;> first | rfl | omega | (exfalso; omega)) | simp
  · refine j_iload_n G dX5_has_4 rfl ?_
    refine j_aload_n G dX5_has_5 rfl ?_
    refine gf_11_3 G dX5_has_6 lf5_22 (by first | assumption | decide) ?_
    refine j_icmp_ge G 16 dX5_has_9 (by decide) (by omega) (by omega) (fun c9 => ?_) (fun c9 => ?_)
    · refine j_iconst G dX5_has_16 ?_
      refine jr_B G hQ hr dX5_has_17 (by decide) (by decide) (by omega) ?_
      first | omega | (refine ⟨?_, ?_⟩ <;> (try intros) <;> first | rfl | omega | (exfalso; omega)) | simp
    · refine j_iconst G dX5_has_12 ?_
      refine j_goto G 17 dX5_has_13 (by decide) ?_
      refine jr_B G hQ hr dX5_has_17 (by decide) (by decide) (by omega) ?_
      first | omega | (refine ⟨?_, ?_⟩ <;> (try intros) <;> first | rfl | omega | (exfalso; omega)) | simp
set_option maxRecDepth 100000 in
set_option maxHeartbeats 8000000 in
theorem c_X5_fill {l : Launch} {D : va_G} {cys : Nat → ClassId} {ad : Nat → Int → Nat} {L : List Nat} {g : Nat → va_E} {X : Int64} {Z : ZT} (hi : injA ad) {q n : Int} (hq : 0 ≤ q ∧ q < Z 11 0 3) (hs : Z 11 0 3 ≤ 6) : CM l D cys ad yX5_fill cX5_fill 3 none 1 21 0 0 [.ref (ad 11 0), .int (iI q), .int (iI n)] L g X Z (PVZ L g X Z (fun Z' => Z' = zS (zS Z 13 0 q n) 14 0 q 0)) := by
  refine cm_start hi (by decide +kernel) (Nat.le_of_ble_eq_true rfl) ?_
  intro p_ e_ s_ m_ args_ below_ meth_ c_ A_ Q_ hQ G hr hin
  refine j_aload_n G dX5_fill_0 rfl ?_
  refine j_iload_n G dX5_fill_1 rfl ?_
  refine j_cVI G cvX5_has ml5_26 (c_X5_has hi (by first | assumption | omega | decide) (by first | assumption | omega | decide)) dX5_fill_2 ⟨by decide, by decide⟩ ⟨by decide, by decide⟩ rfl rfl (by decide) (by first | assumption | decide) rfl rfl rfl (fun r2 h2 => ?_)
  refine j_if_eq G 22 dX5_fill_5 (by decide) (by omega) (fun c5 => ?_) (fun c5 => ?_)
  · exfalso; omega
  · refine j_aload_n G dX5_fill_8 rfl ?_
    refine gf_11_1 G dX5_fill_9 lf5_15 (by first | assumption | decide) ?_
    refine j_iload_n G dX5_fill_12 rfl ?_
    refine j_iload_n G dX5_fill_13 rfl ?_
    refine as_13 G dX5_fill_14 (by first | assumption | decide) (by omega) (by omega) ?_
    refine j_aload_n G dX5_fill_15 rfl ?_
    refine gf_11_2 G dX5_fill_16 lf5_18 (by first | assumption | decide) ?_
    refine j_iload_n G dX5_fill_19 rfl ?_
    refine j_iconst G dX5_fill_20 ?_
    refine as_14 G dX5_fill_21 (by first | assumption | decide) (by omega) (by omega) (by omega) ?_
    refine jr_VZ G hQ hr dX5_fill_22 (by decide) (by decide) ?_
    try simp (config := { decide := true }) only [zS_k, zS_s, zS_j, ne_eq]
    all_goals rfl
set_option maxRecDepth 100000 in
set_option maxHeartbeats 8000000 in
theorem c_X5_makeAllStale {l : Launch} {D : va_G} {cys : Nat → ClassId} {ad : Nat → Int → Nat} {L : List Nat} {g : Nat → va_E} {X : Int64} {Z : ZT} (hi : injA ad)  (hs : 0 ≤ Z 11 0 3 ∧ Z 11 0 3 ≤ 6) : CM l D cys ad yX5_makeAllStale cX5_makeAllStale 2 none 0 0 0 0 [.ref (ad 11 0)] L g X Z (PVZ L g X Z (fun Z' => (∀ k, k ≠ 14 → Z' k = Z k) ∧ ∀ v, Z' 14 0 v = if 0 ≤ v ∧ v < Z 11 0 3 then 1 else Z 14 0 v)) := by
  refine cm_start hi (by decide +kernel) (Nat.le_of_ble_eq_true rfl) ?_
  intro p_ e_ s_ m_ args_ below_ meth_ c_ A_ Q_ hQ G hr hin
  have loop : ∀ (n : Nat) (a : Int) (Y : ZT), 0 ≤ a → a ≤ Z 11 0 3 → (Z 11 0 3 - a).toNat = n → (∀ k, k ≠ 14 → Y k = Z k) → (∀ v, Y 14 0 v = if 0 ≤ v ∧ v < a then 1 else Z 14 0 v) → JJ p_ l e_ { frames := 0, cells := 0, slots := 0, locals := 0 } s_ m_ args_ below_ meth_ c_ D cys ad A_ Q_ 2 0 0 L g X Y 2 [(0, .ref (ad 11 0)), (1, .int (iI a))] [] := by
    intro n
    induction n with
    | zero =>
      intro a Y h0 h1 h2 h3 h4
      have e : Y 11 0 3 = Z 11 0 3 := by rw [h3 11 (by decide)]
      have ea : a = Z 11 0 3 := by omega
      refine j_iload_n G dX5_makeAllStale_2 rfl ?_
      refine j_aload_n G dX5_makeAllStale_3 rfl ?_
      refine gf_11_3 G dX5_makeAllStale_4 lf5_22 (by first | assumption | decide) ?_
      refine j_icmp_ge G 23 dX5_makeAllStale_7 (by decide) (by omega) (by omega) (fun c7 => ?_) (fun c7 => ?_)
      · refine jr_VZ G hQ hr dX5_makeAllStale_23 (by decide) (by decide) ?_
        exact ⟨h3, fun v => by rw [h4 v, ea]⟩
      · exfalso; omega
    | succ n ih =>
      intro a Y h0 h1 h2 h3 h4
      have e : Y 11 0 3 = Z 11 0 3 := by rw [h3 11 (by decide)]
      refine j_iload_n G dX5_makeAllStale_2 rfl ?_
      refine j_aload_n G dX5_makeAllStale_3 rfl ?_
      refine gf_11_3 G dX5_makeAllStale_4 lf5_22 (by first | assumption | decide) ?_
      refine j_icmp_ge G 23 dX5_makeAllStale_7 (by decide) (by omega) (by omega) (fun c7 => ?_) (fun c7 => ?_)
      · exfalso; omega
      · refine j_aload_n G dX5_makeAllStale_10 rfl ?_
        refine gf_11_2 G dX5_makeAllStale_11 lf5_18 (by first | assumption | decide) ?_
        refine j_iload_n G dX5_makeAllStale_14 rfl ?_
        refine j_iconst G dX5_makeAllStale_15 ?_
        refine as_14 G dX5_makeAllStale_16 (by first | assumption | decide) (by omega) (by omega) (by omega) ?_
        refine j_iinc G dX5_makeAllStale_17 rfl (by decide) rfl ?_
        refine j_goto G 2 dX5_makeAllStale_20 (by decide) ?_
        refine ih (a + 1) _ (by omega) (by omega) (by omega) (fun k hk => ?_) (fun v => ?_)
        · rw [zS_k hk]; exact h3 k hk
        · rw [zS_v, h4 v]
          by_cases e1 : v = a
          · rw [if_pos e1, if_pos (by omega)]
          · rw [if_neg e1]
            by_cases e2 : 0 ≤ v ∧ v < a
            · rw [if_pos e2, if_pos (by omega)]
            · rw [if_neg e2, if_neg (by omega)]
  refine j_iconst G dX5_makeAllStale_0 ?_
  refine j_istore_n G dX5_makeAllStale_1 (by decide) rfl ?_
  refine loop _ 0 Z (by omega) (by omega) rfl (fun _ _ => rfl) (fun v => ?_)
  rw [if_neg (by omega)]
set_option maxRecDepth 100000 in
set_option maxHeartbeats 8000000 in
theorem c_X5_closeGapAt {l : Launch} {D : va_G} {cys : Nat → ClassId} {ad : Nat → Int → Nat} {L : List Nat} {g : Nat → va_E} {X : Int64} {Z : ZT} (hi : injA ad) {gap : Int} (hg : 0 ≤ gap ∧ gap < Z 11 0 3) (hs : Z 11 0 3 ≤ 6) (hb : ∀ v, 0 ≤ v → v < 6 → Z 14 0 v = 0 ∨ Z 14 0 v = 1) : CM l D cys ad yX5_closeGapAt cX5_closeGapAt 3 none 0 0 0 0 [.ref (ad 11 0), .int (iI gap)] L g X Z (PVZ L g X Z (fun Z' => (∀ k, k ≠ 11 → k ≠ 12 → k ≠ 13 → k ≠ 14 → Z' k = Z k) ∧ Z' 11 0 3 = Z 11 0 3 - 1 ∧ (∀ k, Z' 12 0 k = gapF gap (Z 11 0 3 - 1) (Z 12 0) k) ∧ (∀ k, Z' 13 0 k = gapF gap (Z 11 0 3 - 1) (Z 13 0) k) ∧ (∀ k, Z' 14 0 k = gapF gap (Z 11 0 3 - 1) (Z 14 0) k))) := by
  refine cm_start hi (by decide +kernel) (Nat.le_of_ble_eq_true rfl) ?_
  intro p_ e_ s_ m_ args_ below_ meth_ c_ A_ Q_ hQ G hr hin
  have hstep : ∀ (a : Int) (f h : Int → Int), gap ≤ a → (∀ k, f k = gapF gap a h k) → ∀ k, (if k = a then f (a + 1) else f k) = gapF gap (a + 1) h k := by
    intro a f h h0 h1 k
    rw [h1, h1]
    unfold gapF
    by_cases e2 : k = a
    · subst e2
      rw [if_pos rfl, if_neg (by omega), if_pos (by omega)]
    · rw [if_neg e2]
      by_cases e3 : gap ≤ k ∧ k < a
      · rw [if_pos e3, if_pos (by omega)]
      · rw [if_neg e3, if_neg (by omega)]
  have loop : ∀ (n : Nat) (a : Int) (Y : ZT), gap ≤ a → a < Z 11 0 3 → (Z 11 0 3 - 1 - a).toNat = n → (∀ k, k ≠ 12 → k ≠ 13 → k ≠ 14 → Y k = Z k) → (∀ k, Y 12 0 k = gapF gap a (Z 12 0) k) → (∀ k, Y 13 0 k = gapF gap a (Z 13 0) k) → (∀ k, Y 14 0 k = gapF gap a (Z 14 0) k) → JJ p_ l e_ { frames := 0, cells := 0, slots := 0, locals := 0 } s_ m_ args_ below_ meth_ c_ D cys ad A_ Q_ 3 0 0 L g X Y 2 [(0, .ref (ad 11 0)), (1, .int (iI gap)), (2, .int (iI a))] [] := by
    intro n
    induction n with
    | zero =>
      intro a Y h0 h1 h2 h3 h4 h5 h6
      have e : Y 11 0 3 = Z 11 0 3 := by rw [h3 11 (by decide) (by decide) (by decide)]
      have ea : a = Z 11 0 3 - 1 := by omega
      subst ea
      have hf : (∀ k, k ≠ 11 → k ≠ 12 → k ≠ 13 → k ≠ 14 → zS Y 11 0 3 (Y 11 0 3 - 1) k = Z k) ∧ zS Y 11 0 3 (Y 11 0 3 - 1) 11 0 3 = Z 11 0 3 - 1 ∧ (∀ k, zS Y 11 0 3 (Y 11 0 3 - 1) 12 0 k = gapF gap (Z 11 0 3 - 1) (Z 12 0) k) ∧ (∀ k, zS Y 11 0 3 (Y 11 0 3 - 1) 13 0 k = gapF gap (Z 11 0 3 - 1) (Z 13 0) k) ∧ (∀ k, zS Y 11 0 3 (Y 11 0 3 - 1) 14 0 k = gapF gap (Z 11 0 3 - 1) (Z 14 0) k) := by
        refine ⟨fun k k1 k2 k3 k4 => ?_, ?_, fun k => ?_, fun k => ?_, fun k => ?_⟩
        · rw [zS_k k1]; exact h3 k k2 k3 k4
        · rw [zS_s, e]
        · rw [zS_k (by decide)]; exact h4 k
        · rw [zS_k (by decide)]; exact h5 k
        · rw [zS_k (by decide)]; exact h6 k
      refine j_iload_n G dX5_closeGapAt_2 rfl ?_
      refine j_iconst G dX5_closeGapAt_3 ?_
      refine j_iadd G dX5_closeGapAt_4 ?_
      refine j_aload_n G dX5_closeGapAt_5 rfl ?_
      refine gf_11_3 G dX5_closeGapAt_6 lf5_22 (by first | assumption | decide) ?_
      refine j_icmp_ge G 60 dX5_closeGapAt_9 (by decide) (by omega) (by omega) (fun c9 => ?_) (fun c9 => ?_)
      · refine j_aload_n G dX5_closeGapAt_60 rfl ?_
        refine j_dup G dX5_closeGapAt_61 rfl ?_
        refine gf_11_3 G dX5_closeGapAt_62 lf5_22 (by first | assumption | decide) ?_
        refine j_iconst G dX5_closeGapAt_65 ?_
        refine j_isub G dX5_closeGapAt_66 ?_
        refine pf_11_3 G dX5_closeGapAt_67 lf5_22 (by first | assumption | decide) ?_
        refine jr_VZ G hQ hr dX5_closeGapAt_70 (by decide) (by decide) ?_
        try simp (config := { decide := true }) only [zS_k, zS_s, zS_j, ne_eq]
        exact hf
      · exfalso; omega
    | succ n ih =>
      intro a Y h0 h1 h2 h3 h4 h5 h6
      have e : Y 11 0 3 = Z 11 0 3 := by rw [h3 11 (by decide) (by decide) (by decide)]
      have hbv : Y 14 0 (a + 1) = 0 ∨ Y 14 0 (a + 1) = 1 := by
        rw [h6]
        unfold gapF
        rw [if_neg (by omega)]
        exact hb _ (by omega) (by omega)
      refine j_iload_n G dX5_closeGapAt_2 rfl ?_
      refine j_iconst G dX5_closeGapAt_3 ?_
      refine j_iadd G dX5_closeGapAt_4 ?_
      refine j_aload_n G dX5_closeGapAt_5 rfl ?_
      refine gf_11_3 G dX5_closeGapAt_6 lf5_22 (by first | assumption | decide) ?_
      refine j_icmp_ge G 60 dX5_closeGapAt_9 (by decide) (by omega) (by omega) (fun c9 => ?_) (fun c9 => ?_)
      · exfalso; omega
      · refine j_aload_n G dX5_closeGapAt_12 rfl ?_
        refine gf_11_0 G dX5_closeGapAt_13 lf5_9 (by first | assumption | decide) ?_
        refine j_iload_n G dX5_closeGapAt_16 rfl ?_
        refine j_aload_n G dX5_closeGapAt_17 rfl ?_
        refine gf_11_0 G dX5_closeGapAt_18 lf5_9 (by first | assumption | decide) ?_
        refine j_iload_n G dX5_closeGapAt_21 rfl ?_
        refine j_iconst G dX5_closeGapAt_22 ?_
        refine j_iadd G dX5_closeGapAt_23 ?_
        refine al_12 G dX5_closeGapAt_24 (by first | assumption | decide) (by omega) (by omega) ?_
        refine as_12 G dX5_closeGapAt_25 (by first | assumption | decide) (by omega) (by omega) ?_
        refine j_aload_n G dX5_closeGapAt_26 rfl ?_
        refine gf_11_1 G dX5_closeGapAt_27 lf5_15 (by first | assumption | decide) ?_
        refine j_iload_n G dX5_closeGapAt_30 rfl ?_
        refine j_aload_n G dX5_closeGapAt_31 rfl ?_
        refine gf_11_1 G dX5_closeGapAt_32 lf5_15 (by first | assumption | decide) ?_
        refine j_iload_n G dX5_closeGapAt_35 rfl ?_
        refine j_iconst G dX5_closeGapAt_36 ?_
        refine j_iadd G dX5_closeGapAt_37 ?_
        refine al_13 G dX5_closeGapAt_38 (by first | assumption | decide) (by omega) (by omega) ?_
        try simp (config := { decide := true }) only [zS_k, zS_s, zS_j, ne_eq]
        refine as_13 G dX5_closeGapAt_39 (by first | assumption | decide) (by omega) (by omega) ?_
        refine j_aload_n G dX5_closeGapAt_40 rfl ?_
        refine gf_11_2 G dX5_closeGapAt_41 lf5_18 (by first | assumption | decide) ?_
        refine j_iload_n G dX5_closeGapAt_44 rfl ?_
        refine j_aload_n G dX5_closeGapAt_45 rfl ?_
        refine gf_11_2 G dX5_closeGapAt_46 lf5_18 (by first | assumption | decide) ?_
        refine j_iload_n G dX5_closeGapAt_49 rfl ?_
        refine j_iconst G dX5_closeGapAt_50 ?_
        refine j_iadd G dX5_closeGapAt_51 ?_
        refine al_14 G dX5_closeGapAt_52 (by first | assumption | decide) (by omega) (by omega) ?_
        try simp (config := { decide := true }) only [zS_k, zS_s, zS_j, ne_eq]
        refine as_14 G dX5_closeGapAt_53 (by first | assumption | decide) (by omega) (by omega) (by omega) ?_
        refine j_iinc G dX5_closeGapAt_54 rfl (by decide) rfl ?_
        refine j_goto G 2 dX5_closeGapAt_57 (by decide) ?_
        refine ih (a + 1) _ (by omega) (by omega) (by omega) (fun k k1 k2 k3 => ?_) (fun k => ?_) (fun k => ?_) (fun k => ?_)
        · rw [zS_k k3, zS_k k2, zS_k k1]; exact h3 k k1 k2 k3
        · rw [zS_k (by decide), zS_k (by decide), zS_v]; exact hstep a _ _ h0 h4 k
        · rw [zS_k (by decide), zS_v, zS_k (by decide)]; exact hstep a _ _ h0 h5 k
        · rw [zS_v, zS_k (by decide), zS_k (by decide)]; exact hstep a _ _ h0 h6 k
  refine j_iload_n G dX5_closeGapAt_0 rfl ?_
  refine j_istore_n G dX5_closeGapAt_1 (by decide) rfl ?_
  refine loop _ gap Z (by omega) hg.2 rfl (fun _ _ _ _ => rfl) (fun k => ?_) (fun k => ?_) (fun k => ?_)
  · unfold gapF; rw [if_neg (by omega)]
  · unfold gapF; rw [if_neg (by omega)]
  · unfold gapF; rw [if_neg (by omega)]
set_option maxRecDepth 100000 in
set_option maxHeartbeats 8000000 in
theorem c_X0_forgetUse {l : Launch} {D : va_G} {cys : Nat → ClassId} {ad : Nat → Int → Nat} {L : List Nat} {g : Nat → va_E} {X : Int64} {Z : ZT} (hi : injA ad) {i : Int} (hi15 : vd 15 i) : CM l D cys ad yX0_forgetUse cX0_forgetUse 2 none 0 0 0 0 [.ref (ad 15 i)] L g X Z (PVZ L g X Z (fun Z' => (∀ k i', ¬ (k = 18 ∧ i' = i) → Z' k i' = Z k i') ∧ ∀ j, 0 ≤ j → j < 24 → Z' 18 i j = 0)) := by
  refine cm_start hi (by decide +kernel) (Nat.le_of_ble_eq_true rfl) ?_
  intro p_ e_ s_ m_ args_ below_ meth_ c_ A_ Q_ hQ G hr hin
  have loop : ∀ (n : Nat) (a : Int) (Y : ZT), 0 ≤ a → a ≤ 24 → (24 - a).toNat = n → (∀ k i', ¬ (k = 18 ∧ i' = i) → Y k i' = Z k i') → (∀ j, 0 ≤ j → j < a → Y 18 i j = 0) → JJ p_ l e_ { frames := 0, cells := 0, slots := 0, locals := 0 } s_ m_ args_ below_ meth_ c_ D cys ad A_ Q_ 2 0 0 L g X Y 2 [(0, .ref (ad 15 i)), (1, .int (iI a))] [] := by
    intro n
    induction n with
    | zero =>
      intro a Y h0 h1 h2 h3 h4
      refine j_iload_n G dX0_forgetUse_2 rfl ?_
      refine j_bipush G dX0_forgetUse_3 (by decide +kernel) ?_
      refine j_icmp_ge G 21 dX0_forgetUse_5 (by decide) (by omega) (by omega) (fun c5 => ?_) (fun c5 => ?_)
      · refine jr_VZ G hQ hr dX0_forgetUse_21 (by decide) (by decide) ?_
        exact ⟨h3, fun j j0 j1 => h4 j j0 (by omega)⟩
      · exfalso; omega
    | succ n ih =>
      intro a Y h0 h1 h2 h3 h4
      refine j_iload_n G dX0_forgetUse_2 rfl ?_
      refine j_bipush G dX0_forgetUse_3 (by decide +kernel) ?_
      refine j_icmp_ge G 21 dX0_forgetUse_5 (by decide) (by omega) (by omega) (fun c5 => ?_) (fun c5 => ?_)
      · exfalso; omega
      · refine j_aload_n G dX0_forgetUse_8 rfl ?_
        refine gf_15_1 G dX0_forgetUse_9 lf0_18 (by first | assumption | decide) ?_
        refine j_iload_n G dX0_forgetUse_12 rfl ?_
        refine j_iconst G dX0_forgetUse_13 ?_
        refine as_18 G dX0_forgetUse_14 (by first | assumption | decide) (by omega) (by omega) (by omega) ?_
        refine j_iinc G dX0_forgetUse_15 rfl (by decide) rfl ?_
        refine j_goto G 2 dX0_forgetUse_18 (by decide) ?_
        refine ih (a + 1) _ (by omega) (by omega) (by omega) (fun k i hk => ?_) (fun j j0 j1 => ?_)
        · rw [zS_o hk]; exact h3 k i hk
        · rw [zS_v]
          split
          · rfl
          · exact h4 j j0 (by omega)
  refine j_iconst G dX0_forgetUse_0 ?_
  refine j_istore_n G dX0_forgetUse_1 (by decide) rfl ?_
  exact loop _ 0 Z (by omega) (by omega) rfl (fun _ _ _ => rfl) (fun j a b => by omega)
set_option maxRecDepth 100000 in
set_option maxHeartbeats 8000000 in
theorem c_X0_showLines {l : Launch} {D : va_G} {cys : Nat → ClassId} {ad : Nat → Int → Nat} {L : List Nat} {g : Nat → va_E} {X : Int64} {Z : ZT} (hi : injA ad) {i b : Int} (hi15 : vd 15 i) (hi16 : vd 16 i) (hb : b = 0 ∨ b = 1) (hn : 0 ≤ Z 16 i 1 ∧ Z 16 i 1 ≤ 24) (hu : ∀ j, 0 ≤ j → j < Z 16 i 1 → Z 18 i j = 0 ∨ Z 18 i j = 1) : CM l D cys ad yX0_showLines cX0_showLines 3 none 0 0 0 0 [.ref (ad 15 i), .int (iI b)] L g X Z (PVZ L g X Z (fun Z' => (∀ k i', ¬ ((k = 15 ∨ k = 19) ∧ i' = i) → Z' k i' = Z k i') ∧ (∀ j, j ≠ 3 → Z' 15 i j = Z 15 i j) ∧ Z' 15 i 3 = (shwF (Z 18 i) b (Z 16 i 1).toNat).length ∧ (∀ j : Nat, j < (shwF (Z 18 i) b (Z 16 i 1).toNat).length → (shwF (Z 18 i) b (Z 16 i 1).toNat)[j]? = some (Z' 19 i j)))) := by
  refine cm_start hi (by decide +kernel) (Nat.le_of_ble_eq_true rfl) ?_
  intro p_ e_ s_ m_ args_ below_ meth_ c_ A_ Q_ hQ G hr hin
  have loop : ∀ (n : Nat) (a : Int) (Y : ZT), 0 ≤ a → a ≤ Z 16 i 1 → (Z 16 i 1 - a).toNat = n → (∀ k i', ¬ ((k = 15 ∨ k = 19) ∧ i' = i) → Y k i' = Z k i') → (∀ j, j ≠ 3 → Y 15 i j = Z 15 i j) → Y 15 i 3 = (shwF (Z 18 i) b a.toNat).length → (∀ j : Nat, j < (shwF (Z 18 i) b a.toNat).length → (shwF (Z 18 i) b a.toNat)[j]? = some (Y 19 i j)) → JJ p_ l e_ { frames := 0, cells := 0, slots := 0, locals := 0 } s_ m_ args_ below_ meth_ c_ D cys ad A_ Q_ 3 0 0 L g X Y 7 [(0, .ref (ad 15 i)), (1, .int (iI b)), (2, .int (iI a))] [] := by
    intro n
    induction n with
    | zero =>
      intro a Y h0 h1 h2 h3 h4 h5 h6
      have e : Y 16 i 1 = Z 16 i 1 := by rw [h3 16 i (by omega)]
      have ea : a = Z 16 i 1 := by omega
      subst ea
      refine j_iload_n G dX0_showLines_7 rfl ?_
      refine j_aload_n G dX0_showLines_8 rfl ?_
      refine gf_15_0 G dX0_showLines_9 lf0_12 (by first | assumption | decide) ?_
      refine gf_16_1 G dX0_showLines_12 lf0_30 (by first | assumption | decide) ?_
      refine j_icmp_ge G 57 dX0_showLines_15 (by decide) (by omega) (by omega) (fun c15 => ?_) (fun c15 => ?_)
      · refine jr_VZ G hQ hr dX0_showLines_57 (by decide) (by decide) ?_
        exact ⟨h3, h4, h5, h6⟩
      · exfalso; omega
    | succ n ih =>
      intro a Y h0 h1 h2 h3 h4 h5 h6
      have e : Y 16 i 1 = Z 16 i 1 := by rw [h3 16 i (by omega)]
      have e18 : Y 18 i a = Z 18 i a := by rw [h3 18 i (by omega)]
      have hua := hu a h0 (by omega)
      have hl := shwF_len (used := Z 18 i) (b := b) a.toNat
      have hsa : shwF (Z 18 i) b (a + 1).toNat = shwF (Z 18 i) b a.toNat ++ (if Z 18 i a = 1 ∨ b = 0 then [a] else []) := by
        rw [show (a + 1).toNat = a.toNat + 1 by omega]
        show _ ++ (if Z 18 i (a.toNat : Int) = 1 ∨ b = 0 then [(a.toNat : Int)] else []) = _
        rw [Int.toNat_of_nonneg h0]
      refine j_iload_n G dX0_showLines_7 rfl ?_
      refine j_aload_n G dX0_showLines_8 rfl ?_
      refine gf_15_0 G dX0_showLines_9 lf0_12 (by first | assumption | decide) ?_
      refine gf_16_1 G dX0_showLines_12 lf0_30 (by first | assumption | decide) ?_
      refine j_icmp_ge G 57 dX0_showLines_15 (by decide) (by omega) (by omega) (fun c15 => ?_) (fun c15 => ?_)
      · exfalso; omega
      · refine j_aload_n G dX0_showLines_18 rfl ?_
        refine gf_15_1 G dX0_showLines_19 lf0_18 (by first | assumption | decide) ?_
        refine j_iload_n G dX0_showLines_22 rfl ?_
        refine al_18 G dX0_showLines_23 (by first | assumption | decide) (by omega) (by omega) ?_
        refine j_if_ne G 31 dX0_showLines_24 (by decide) (by omega) (fun c24 => ?_) (fun c24 => ?_)
        · have hc : Z 18 i a = 1 ∨ b = 0 := by omega
          rw [if_pos hc] at hsa
          refine j_aload_n G dX0_showLines_31 rfl ?_
          refine gf_15_2 G dX0_showLines_32 lf0_22 (by first | assumption | decide) ?_
          refine j_aload_n G dX0_showLines_35 rfl ?_
          refine gf_15_3 G dX0_showLines_36 lf0_26 (by first | assumption | decide) ?_
          refine j_iload_n G dX0_showLines_39 rfl ?_
          refine as_19 G dX0_showLines_40 (by first | assumption | decide) (by omega) (by omega) ?_
          refine j_aload_n G dX0_showLines_41 rfl ?_
          refine j_dup G dX0_showLines_42 rfl ?_
          refine gf_15_3 G dX0_showLines_43 lf0_26 (by first | assumption | decide) ?_
          try simp (config := { decide := true }) only [zS_k, zS_s, zS_j, ne_eq]
          refine j_iconst G dX0_showLines_46 ?_
          refine j_iadd G dX0_showLines_47 ?_
          refine pf_15_3 G dX0_showLines_48 lf0_26 (by first | assumption | decide) ?_
          first
          | (have hc : ¬ (Z 18 i a = 1 ∨ b = 0) := by omega
             rw [if_neg hc, List.append_nil] at hsa)
          | skip
          refine j_iinc G dX0_showLines_51 rfl (by decide) rfl ?_
          refine j_goto G 7 dX0_showLines_54 (by decide) ?_
          first
          | (refine ih (a + 1) Y (by omega) (by omega) (by omega) h3 h4 (by rw [hsa]; exact h5) (by rw [hsa]; exact h6))
          | (refine ih (a + 1) _ (by omega) (by omega) (by omega) (fun k i' hk => ?_) (fun j hj => ?_) ?_ (fun j hj => ?_)
             · rw [zS_o (by omega), zS_o (by omega)]; exact h3 k i' hk
             · rw [zS_v, if_neg hj, zS_k (by decide)]; exact h4 j hj
             · rw [zS_s, hsa, List.length_append, h5]; rfl
             · rw [hsa] at hj ⊢
               rw [zS_k (by decide), zS_v]
               rw [List.length_append, List.length_singleton] at hj
               by_cases e1 : j = (shwF (Z 18 i) b a.toNat).length
               · rw [if_pos (by omega), e1]; simp
               · rw [if_neg (by omega), List.getElem?_append_left (by omega)]
                 exact h6 j (by omega))
        · refine j_iload_n G dX0_showLines_27 rfl ?_
          refine j_if_ne G 51 dX0_showLines_28 (by decide) (by omega) (fun c28 => ?_) (fun c28 => ?_)
          · first
            | (have hc : ¬ (Z 18 i a = 1 ∨ b = 0) := by omega
               rw [if_neg hc, List.append_nil] at hsa)
            | skip
            refine j_iinc G dX0_showLines_51 rfl (by decide) rfl ?_
            refine j_goto G 7 dX0_showLines_54 (by decide) ?_
            first
            | (refine ih (a + 1) Y (by omega) (by omega) (by omega) h3 h4 (by rw [hsa]; exact h5) (by rw [hsa]; exact h6))
            | (refine ih (a + 1) _ (by omega) (by omega) (by omega) (fun k i' hk => ?_) (fun j hj => ?_) ?_ (fun j hj => ?_)
               · rw [zS_o (by omega), zS_o (by omega)]; exact h3 k i' hk
               · rw [zS_v, if_neg hj, zS_k (by decide)]; exact h4 j hj
               · rw [zS_s, hsa, List.length_append, h5]; rfl
               · rw [hsa] at hj ⊢
                 rw [zS_k (by decide), zS_v]
                 rw [List.length_append, List.length_singleton] at hj
                 by_cases e1 : j = (shwF (Z 18 i) b a.toNat).length
                 · rw [if_pos (by omega), e1]; simp
                 · rw [if_neg (by omega), List.getElem?_append_left (by omega)]
                   exact h6 j (by omega))
          · have hc : Z 18 i a = 1 ∨ b = 0 := by omega
            rw [if_pos hc] at hsa
            refine j_aload_n G dX0_showLines_31 rfl ?_
            refine gf_15_2 G dX0_showLines_32 lf0_22 (by first | assumption | decide) ?_
            refine j_aload_n G dX0_showLines_35 rfl ?_
            refine gf_15_3 G dX0_showLines_36 lf0_26 (by first | assumption | decide) ?_
            refine j_iload_n G dX0_showLines_39 rfl ?_
            refine as_19 G dX0_showLines_40 (by first | assumption | decide) (by omega) (by omega) ?_
            refine j_aload_n G dX0_showLines_41 rfl ?_
            refine j_dup G dX0_showLines_42 rfl ?_
            refine gf_15_3 G dX0_showLines_43 lf0_26 (by first | assumption | decide) ?_
            try simp (config := { decide := true }) only [zS_k, zS_s, zS_j, ne_eq]
            refine j_iconst G dX0_showLines_46 ?_
            refine j_iadd G dX0_showLines_47 ?_
            refine pf_15_3 G dX0_showLines_48 lf0_26 (by first | assumption | decide) ?_
            first
            | (have hc : ¬ (Z 18 i a = 1 ∨ b = 0) := by omega
               rw [if_neg hc, List.append_nil] at hsa)
            | skip
            refine j_iinc G dX0_showLines_51 rfl (by decide) rfl ?_
            refine j_goto G 7 dX0_showLines_54 (by decide) ?_
            first
            | (refine ih (a + 1) Y (by omega) (by omega) (by omega) h3 h4 (by rw [hsa]; exact h5) (by rw [hsa]; exact h6))
            | (refine ih (a + 1) _ (by omega) (by omega) (by omega) (fun k i' hk => ?_) (fun j hj => ?_) ?_ (fun j hj => ?_)
               · rw [zS_o (by omega), zS_o (by omega)]; exact h3 k i' hk
               · rw [zS_v, if_neg hj, zS_k (by decide)]; exact h4 j hj
               · rw [zS_s, hsa, List.length_append, h5]; rfl
               · rw [hsa] at hj ⊢
                 rw [zS_k (by decide), zS_v]
                 rw [List.length_append, List.length_singleton] at hj
                 by_cases e1 : j = (shwF (Z 18 i) b a.toNat).length
                 · rw [if_pos (by omega), e1]; simp
                 · rw [if_neg (by omega), List.getElem?_append_left (by omega)]
                   exact h6 j (by omega))
  refine j_aload_n G dX0_showLines_0 rfl ?_
  refine j_iconst G dX0_showLines_1 ?_
  refine pf_15_3 G dX0_showLines_2 lf0_26 (by first | assumption | decide) ?_
  refine j_iconst G dX0_showLines_5 ?_
  refine j_istore_n G dX0_showLines_6 (by decide) rfl ?_
  refine loop _ 0 _ (by omega) (by omega) rfl (fun k i' hk => ?_) (fun j hj => ?_) ?_ (fun j hj => ?_)
  · exact zS_o (by omega)
  · exact zS_j hj
  · rw [zS_s]; rfl
  · exact absurd hj (Nat.not_lt_zero _)
set_option maxRecDepth 100000 in
set_option maxHeartbeats 8000000 in
theorem c_X0_hasLine {l : Launch} {D : va_G} {cys : Nat → ClassId} {ad : Nat → Int → Nat} {L : List Nat} {g : Nat → va_E} {X : Int64} {Z : ZT} (hi : injA ad) {i q : Int} (hi15 : vd 15 i) (hq : inR q) (hs : inR (Z 15 i 3)) : CM l D cys ad yX0_hasLine cX0_hasLine 2 (some .boolean) 0 0 0 0 [.ref (ad 15 i), .int (iI q)] L g X Z (PI L g X Z (fun r => (r = 1 ∧ 0 ≤ q ∧ q < Z 15 i 3) ∨ (r = 0 ∧ ¬ (0 ≤ q ∧ q < Z 15 i 3)))) := by
  refine cm_start hi (by decide +kernel) (Nat.le_of_ble_eq_true rfl) ?_
  intro p_ e_ s_ m_ args_ below_ meth_ c_ A_ Q_ hQ G hr hin
  refine j_iload_n G dX0_hasLine_0 rfl ?_
  refine j_if_lt G 16 dX0_hasLine_1 (by decide) (by omega) (fun c1 => ?_) (fun c1 => ?_)
  · refine j_iconst G dX0_hasLine_16 ?_
    refine jr_B G hQ hr dX0_hasLine_17 (by decide) (by decide) (by omega) ?_
    first | omega | (refine ⟨?_, ?_⟩ <;> (try intros) <;> first | rfl | omega | (exfalso; omega)) | simp
  · refine j_iload_n G dX0_hasLine_4 rfl ?_
    refine j_aload_n G dX0_hasLine_5 rfl ?_
    refine gf_15_3 G dX0_hasLine_6 lf0_26 (by first | assumption | decide) ?_
    refine j_icmp_ge G 16 dX0_hasLine_9 (by decide) (by omega) (by omega) (fun c9 => ?_) (fun c9 => ?_)
    · refine j_iconst G dX0_hasLine_16 ?_
      refine jr_B G hQ hr dX0_hasLine_17 (by decide) (by decide) (by omega) ?_
      first | omega | (refine ⟨?_, ?_⟩ <;> (try intros) <;> first | rfl | omega | (exfalso; omega)) | simp
    · refine j_iconst G dX0_hasLine_12 ?_
      refine j_goto G 17 dX0_hasLine_13 (by decide) ?_
      refine jr_B G hQ hr dX0_hasLine_17 (by decide) (by decide) (by omega) ?_
      first | omega | (refine ⟨?_, ?_⟩ <;> (try intros) <;> first | rfl | omega | (exfalso; omega)) | simp
set_option maxRecDepth 100000 in
set_option maxHeartbeats 8000000 in
theorem c_X0_memberOfLine {l : Launch} {D : va_G} {cys : Nat → ClassId} {ad : Nat → Int → Nat} {L : List Nat} {g : Nat → va_E} {X : Int64} {Z : ZT} (hi : injA ad) {i q : Int} (hi15 : vd 15 i) (hi16 : vd 16 i) (hq : inR q) (hs : 0 ≤ Z 15 i 3 ∧ Z 15 i 3 ≤ 24) (hv : ∀ j, 0 ≤ j → j < Z 15 i 3 → 0 ≤ Z 19 i j ∧ Z 19 i j < 24) : CM l D cys ad yX0_memberOfLine cX0_memberOfLine 2 (some .int) 1 21 0 0 [.ref (ad 15 i), .int (iI q)] L g X Z (PI L g X Z (fun r => (0 ≤ q ∧ q < Z 15 i 3 ∧ r = Z 17 i (Z 19 i q)) ∨ (¬ (0 ≤ q ∧ q < Z 15 i 3) ∧ r = -1))) := by
  refine cm_start hi (by decide +kernel) (Nat.le_of_ble_eq_true rfl) ?_
  intro p_ e_ s_ m_ args_ below_ meth_ c_ A_ Q_ hQ G hr hin
  have hvq := hv q
  refine j_aload_n G dX0_memberOfLine_0 rfl ?_
  refine j_iload_n G dX0_memberOfLine_1 rfl ?_
  refine j_cVI G cvX0_hasLine ml0_33 (c_X0_hasLine hi (by first | assumption | omega | decide) (by first | assumption | omega | decide) (by first | assumption | omega | decide)) dX0_memberOfLine_2 ⟨by decide, by decide⟩ ⟨by decide, by decide⟩ rfl rfl (by decide) (by first | assumption | decide) rfl rfl rfl (fun r2 h2 => ?_)
  refine j_if_eq G 25 dX0_memberOfLine_5 (by decide) (by omega) (fun c5 => ?_) (fun c5 => ?_)
  · refine j_iconst G dX0_memberOfLine_25 ?_
    refine jr_I G hQ hr dX0_memberOfLine_26 (by decide) (by decide) ?_
    first | omega | (refine ⟨?_, ?_⟩ <;> (try intros) <;> first | rfl | omega | (exfalso; omega)) | simp
  · have hvq := hvq (by omega) (by omega)
    refine j_aload_n G dX0_memberOfLine_8 rfl ?_
    refine gf_15_0 G dX0_memberOfLine_9 lf0_12 (by first | assumption | decide) ?_
    refine gf_16_0 G dX0_memberOfLine_12 lf0_37 (by first | assumption | decide) ?_
    refine j_aload_n G dX0_memberOfLine_15 rfl ?_
    refine gf_15_2 G dX0_memberOfLine_16 lf0_22 (by first | assumption | decide) ?_
    refine j_iload_n G dX0_memberOfLine_19 rfl ?_
    refine al_19 G dX0_memberOfLine_20 (by first | assumption | decide) (by omega) (by omega) ?_
    refine al_17 G dX0_memberOfLine_21 (by first | assumption | decide) (by omega) (by omega) ?_
    refine j_goto G 26 dX0_memberOfLine_22 (by decide) ?_
    refine jr_I G hQ hr dX0_memberOfLine_26 (by decide) (by decide) ?_
    first | omega | (refine ⟨?_, ?_⟩ <;> (try intros) <;> first | rfl | omega | (exfalso; omega)) | simp
set_option maxRecDepth 100000 in
set_option maxHeartbeats 8000000 in
theorem c_X2_clearSums {l : Launch} {D : va_G} {cys : Nat → ClassId} {ad : Nat → Int → Nat} {L : List Nat} {g : Nat → va_E} {X : Int64} {Z : ZT} (hi : injA ad)   : CM l D cys ad yX2_clearSums cX2_clearSums 2 none 0 0 0 0 [.ref (ad 20 0)] L g X Z (PVZ L g X Z (fun Z' => (∀ k, k ≠ 21 → Z' k = Z k) ∧ ∀ j, 0 ≤ j → j < 24 → Z' 21 0 j = 0)) := by
  refine cm_start hi (by decide +kernel) (Nat.le_of_ble_eq_true rfl) ?_
  intro p_ e_ s_ m_ args_ below_ meth_ c_ A_ Q_ hQ G hr hin
  have loop : ∀ (n : Nat) (a : Int) (Y : ZT), 0 ≤ a → a ≤ 24 → (24 - a).toNat = n → (∀ k, k ≠ 21 → Y k = Z k) → (∀ j, 0 ≤ j → j < a → Y 21 0 j = 0) → JJ p_ l e_ { frames := 0, cells := 0, slots := 0, locals := 0 } s_ m_ args_ below_ meth_ c_ D cys ad A_ Q_ 2 0 0 L g X Y 2 [(0, .ref (ad 20 0)), (1, .int (iI a))] [] := by
    intro n
    induction n with
    | zero =>
      intro a Y h0 h1 h2 h3 h4
      refine j_iload_n G dX2_clearSums_2 rfl ?_
      refine j_bipush G dX2_clearSums_3 (by decide +kernel) ?_
      refine j_icmp_ge G 21 dX2_clearSums_5 (by decide) (by omega) (by omega) (fun c5 => ?_) (fun c5 => ?_)
      · refine jr_VZ G hQ hr dX2_clearSums_21 (by decide) (by decide) ?_
        exact ⟨h3, fun j j0 j1 => h4 j j0 (by omega)⟩
      · exfalso; omega
    | succ n ih =>
      intro a Y h0 h1 h2 h3 h4
      refine j_iload_n G dX2_clearSums_2 rfl ?_
      refine j_bipush G dX2_clearSums_3 (by decide +kernel) ?_
      refine j_icmp_ge G 21 dX2_clearSums_5 (by decide) (by omega) (by omega) (fun c5 => ?_) (fun c5 => ?_)
      · exfalso; omega
      · refine j_aload_n G dX2_clearSums_8 rfl ?_
        refine gf_20_1 G dX2_clearSums_9 lf2_18 (by first | assumption | decide) ?_
        refine j_iload_n G dX2_clearSums_12 rfl ?_
        refine j_iconst G dX2_clearSums_13 ?_
        refine as_21 G dX2_clearSums_14 (by first | assumption | decide) (by omega) (by omega) ?_
        refine j_iinc G dX2_clearSums_15 rfl (by decide) rfl ?_
        refine j_goto G 2 dX2_clearSums_18 (by decide) ?_
        refine ih (a + 1) _ (by omega) (by omega) (by omega) (fun k hk => ?_) (fun j j0 j1 => ?_)
        · rw [zS_k hk]; exact h3 k hk
        · rw [zS_v]
          split
          · rfl
          · exact h4 j j0 (by omega)
  refine j_iconst G dX2_clearSums_0 ?_
  refine j_istore_n G dX2_clearSums_1 (by decide) rfl ?_
  exact loop _ 0 Z (by omega) (by omega) rfl (fun _ _ => rfl) (fun j a b => by omega)
set_option maxRecDepth 100000 in
set_option maxHeartbeats 8000000 in
theorem c_X2_childrenAheadOf {l : Launch} {D : va_G} {cys : Nat → ClassId} {ad : Nat → Int → Nat} {L : List Nat} {g : Nat → va_E} {X : Int64} {Z : ZT} (hi : injA ad) {q : Int} (hn : 0 ≤ Z 16 3 1 ∧ Z 16 3 1 ≤ 24) (hq : 0 ≤ q ∧ q < 24) (hv : ∀ j, 0 ≤ j → j < 24 → inR (Z 21 0 j)) : CM l D cys ad yX2_childrenAheadOf cX2_childrenAheadOf 5 (some .int) 0 0 0 0 [.ref (ad 20 0), .int (iI q)] L g X Z (PI L g X Z (fun r => r = ahd (Z 21 0) q (Z 16 3 1).toNat)) := by
  refine cm_start hi (by decide +kernel) (Nat.le_of_ble_eq_true rfl) ?_
  intro p_ e_ s_ m_ args_ below_ meth_ c_ A_ Q_ hQ G hr hin
  have hvq := hv q hq.1 hq.2
  have loop : ∀ (n : Nat) (a cnt : Int), 0 ≤ a → a ≤ Z 16 3 1 → (Z 16 3 1 - a).toNat = n → cnt = ahd (Z 21 0) q a.toNat → JJ p_ l e_ { frames := 0, cells := 0, slots := 0, locals := 0 } s_ m_ args_ below_ meth_ c_ D cys ad A_ Q_ 5 0 0 L g X Z 4 [(0, .ref (ad 20 0)), (1, .int (iI q)), (2, .int (iI cnt)), (3, .int (iI a))] [] := by
    intro n
    induction n with
    | zero =>
      intro a cnt h0 h1 h2 h3
      have ea : a = Z 16 3 1 := by omega
      subst ea
      refine j_iload_n G dX2_childrenAheadOf_4 rfl ?_
      refine j_aload_n G dX2_childrenAheadOf_5 rfl ?_
      refine gf_20_0 G dX2_childrenAheadOf_6 lf2_12 (by first | assumption | decide) ?_
      refine gf_16_1 G dX2_childrenAheadOf_9 lf2_22 (by first | assumption | decide) ?_
      refine j_icmp_ge G 71 dX2_childrenAheadOf_12 (by decide) (by omega) (by omega) (fun c12 => ?_) (fun c12 => ?_)
      · refine j_iload_n G dX2_childrenAheadOf_71 rfl ?_
        refine jr_I G hQ hr dX2_childrenAheadOf_72 (by decide) (by decide) ?_
        exact h3
      · exfalso; omega
    | succ n ih =>
      intro a cnt h0 h1 h2 h3
      have hva := hv a h0 (by omega)
      have hs : ahd (Z 21 0) q (a + 1).toNat = cnt + iv (Z 21 0 q < Z 21 0 a ∨ (Z 21 0 a = Z 21 0 q ∧ a < q)) := by
        rw [h3]; unfold ahd; rw [sumTo_s h0]
      refine j_iload_n G dX2_childrenAheadOf_4 rfl ?_
      refine j_aload_n G dX2_childrenAheadOf_5 rfl ?_
      refine gf_20_0 G dX2_childrenAheadOf_6 lf2_12 (by first | assumption | decide) ?_
      refine gf_16_1 G dX2_childrenAheadOf_9 lf2_22 (by first | assumption | decide) ?_
      refine j_icmp_ge G 71 dX2_childrenAheadOf_12 (by decide) (by omega) (by omega) (fun c12 => ?_) (fun c12 => ?_)
      · exfalso; omega
      · refine j_aload_n G dX2_childrenAheadOf_15 rfl ?_
        refine gf_20_1 G dX2_childrenAheadOf_16 lf2_18 (by first | assumption | decide) ?_
        refine j_iload_n G dX2_childrenAheadOf_19 rfl ?_
        refine al_21 G dX2_childrenAheadOf_20 (by first | assumption | decide) (by omega) (by omega) ?_
        refine j_aload_n G dX2_childrenAheadOf_21 rfl ?_
        refine gf_20_1 G dX2_childrenAheadOf_22 lf2_18 (by first | assumption | decide) ?_
        refine j_iload_n G dX2_childrenAheadOf_25 rfl ?_
        refine al_21 G dX2_childrenAheadOf_26 (by first | assumption | decide) (by omega) (by omega) ?_
        refine j_icmp_ne G 34 dX2_childrenAheadOf_27 (by decide) (by omega) (by omega) (fun c27 => ?_) (fun c27 => ?_)
        · refine j_iconst G dX2_childrenAheadOf_34 ?_
          refine j_istore G dX2_childrenAheadOf_35 (by decide) rfl ?_
          refine j_aload_n G dX2_childrenAheadOf_37 rfl ?_
          refine gf_20_1 G dX2_childrenAheadOf_38 lf2_18 (by first | assumption | decide) ?_
          refine j_iload_n G dX2_childrenAheadOf_41 rfl ?_
          refine al_21 G dX2_childrenAheadOf_42 (by first | assumption | decide) (by omega) (by omega) ?_
          refine j_aload_n G dX2_childrenAheadOf_43 rfl ?_
          refine gf_20_1 G dX2_childrenAheadOf_44 lf2_18 (by first | assumption | decide) ?_
          refine j_iload_n G dX2_childrenAheadOf_47 rfl ?_
          refine al_21 G dX2_childrenAheadOf_48 (by first | assumption | decide) (by omega) (by omega) ?_
          refine j_icmp_gt G 62 dX2_childrenAheadOf_49 (by decide) (by omega) (by omega) (fun c49 => ?_) (fun c49 => ?_)
          · refine j_iinc G dX2_childrenAheadOf_62 rfl (by decide) rfl ?_
            refine j_iinc G dX2_childrenAheadOf_65 rfl (by decide) rfl ?_
            refine j_goto G 4 dX2_childrenAheadOf_68 (by decide) ?_
            refine j_keep [0, 1, 2, 3] ?_
            refine ih (a + 1) _ (by omega) (by omega) (by omega) ?_
            rw [hs]
            first
            | (exfalso; omega)
            | rw [iv_t (by omega)]
            | (rw [iv_f (by omega)]; omega)
          · refine j_iload G dX2_childrenAheadOf_52 rfl ?_
            refine j_if_eq G 65 dX2_childrenAheadOf_54 (by decide) (by omega) (fun c54 => ?_) (fun c54 => ?_)
            · refine j_iinc G dX2_childrenAheadOf_65 rfl (by decide) rfl ?_
              refine j_goto G 4 dX2_childrenAheadOf_68 (by decide) ?_
              refine j_keep [0, 1, 2, 3] ?_
              refine ih (a + 1) _ (by omega) (by omega) (by omega) ?_
              rw [hs]
              first
              | (exfalso; omega)
              | rw [iv_t (by omega)]
              | (rw [iv_f (by omega)]; omega)
            · refine j_iload_n G dX2_childrenAheadOf_57 rfl ?_
              refine j_iload_n G dX2_childrenAheadOf_58 rfl ?_
              refine j_icmp_ge G 65 dX2_childrenAheadOf_59 (by decide) (by omega) (by omega) (fun c59 => ?_) (fun c59 => ?_)
              · refine j_iinc G dX2_childrenAheadOf_65 rfl (by decide) rfl ?_
                refine j_goto G 4 dX2_childrenAheadOf_68 (by decide) ?_
                refine j_keep [0, 1, 2, 3] ?_
                refine ih (a + 1) _ (by omega) (by omega) (by omega) ?_
                rw [hs]
                first
                | (exfalso; omega)
                | rw [iv_t (by omega)]
                | (rw [iv_f (by omega)]; omega)
              · refine j_iinc G dX2_childrenAheadOf_62 rfl (by decide) rfl ?_
                refine j_iinc G dX2_childrenAheadOf_65 rfl (by decide) rfl ?_
                refine j_goto G 4 dX2_childrenAheadOf_68 (by decide) ?_
                refine j_keep [0, 1, 2, 3] ?_
                refine ih (a + 1) _ (by omega) (by omega) (by omega) ?_
                rw [hs]
                first
                | (exfalso; omega)
                | rw [iv_t (by omega)]
                | (rw [iv_f (by omega)]; omega)
        · refine j_iconst G dX2_childrenAheadOf_30 ?_
          refine j_goto G 35 dX2_childrenAheadOf_31 (by decide) ?_
          refine j_istore G dX2_childrenAheadOf_35 (by decide) rfl ?_
          refine j_aload_n G dX2_childrenAheadOf_37 rfl ?_
          refine gf_20_1 G dX2_childrenAheadOf_38 lf2_18 (by first | assumption | decide) ?_
          refine j_iload_n G dX2_childrenAheadOf_41 rfl ?_
          refine al_21 G dX2_childrenAheadOf_42 (by first | assumption | decide) (by omega) (by omega) ?_
          refine j_aload_n G dX2_childrenAheadOf_43 rfl ?_
          refine gf_20_1 G dX2_childrenAheadOf_44 lf2_18 (by first | assumption | decide) ?_
          refine j_iload_n G dX2_childrenAheadOf_47 rfl ?_
          refine al_21 G dX2_childrenAheadOf_48 (by first | assumption | decide) (by omega) (by omega) ?_
          refine j_icmp_gt G 62 dX2_childrenAheadOf_49 (by decide) (by omega) (by omega) (fun c49 => ?_) (fun c49 => ?_)
          · refine j_iinc G dX2_childrenAheadOf_62 rfl (by decide) rfl ?_
            refine j_iinc G dX2_childrenAheadOf_65 rfl (by decide) rfl ?_
            refine j_goto G 4 dX2_childrenAheadOf_68 (by decide) ?_
            refine j_keep [0, 1, 2, 3] ?_
            refine ih (a + 1) _ (by omega) (by omega) (by omega) ?_
            rw [hs]
            first
            | (exfalso; omega)
            | rw [iv_t (by omega)]
            | (rw [iv_f (by omega)]; omega)
          · refine j_iload G dX2_childrenAheadOf_52 rfl ?_
            refine j_if_eq G 65 dX2_childrenAheadOf_54 (by decide) (by omega) (fun c54 => ?_) (fun c54 => ?_)
            · refine j_iinc G dX2_childrenAheadOf_65 rfl (by decide) rfl ?_
              refine j_goto G 4 dX2_childrenAheadOf_68 (by decide) ?_
              refine j_keep [0, 1, 2, 3] ?_
              refine ih (a + 1) _ (by omega) (by omega) (by omega) ?_
              rw [hs]
              first
              | (exfalso; omega)
              | rw [iv_t (by omega)]
              | (rw [iv_f (by omega)]; omega)
            · refine j_iload_n G dX2_childrenAheadOf_57 rfl ?_
              refine j_iload_n G dX2_childrenAheadOf_58 rfl ?_
              refine j_icmp_ge G 65 dX2_childrenAheadOf_59 (by decide) (by omega) (by omega) (fun c59 => ?_) (fun c59 => ?_)
              · refine j_iinc G dX2_childrenAheadOf_65 rfl (by decide) rfl ?_
                refine j_goto G 4 dX2_childrenAheadOf_68 (by decide) ?_
                refine j_keep [0, 1, 2, 3] ?_
                refine ih (a + 1) _ (by omega) (by omega) (by omega) ?_
                rw [hs]
                first
                | (exfalso; omega)
                | rw [iv_t (by omega)]
                | (rw [iv_f (by omega)]; omega)
              · refine j_iinc G dX2_childrenAheadOf_62 rfl (by decide) rfl ?_
                refine j_iinc G dX2_childrenAheadOf_65 rfl (by decide) rfl ?_
                refine j_goto G 4 dX2_childrenAheadOf_68 (by decide) ?_
                refine j_keep [0, 1, 2, 3] ?_
                refine ih (a + 1) _ (by omega) (by omega) (by omega) ?_
                rw [hs]
                first
                | (exfalso; omega)
                | rw [iv_t (by omega)]
                | (rw [iv_f (by omega)]; omega)
  refine j_iconst G dX2_childrenAheadOf_0 ?_
  refine j_istore_n G dX2_childrenAheadOf_1 (by decide) rfl ?_
  refine j_iconst G dX2_childrenAheadOf_2 ?_
  refine j_istore_n G dX2_childrenAheadOf_3 (by decide) rfl ?_
  exact loop _ 0 0 (by omega) (by omega) rfl rfl
set_option maxRecDepth 100000 in
set_option maxHeartbeats 8000000 in
theorem c_X2_childOfRank {l : Launch} {D : va_G} {cys : Nat → ClassId} {ad : Nat → Int → Nat} {L : List Nat} {g : Nat → va_E} {X : Int64} {Z : ZT} (hi : injA ad) {q : Int} (hn : 0 ≤ Z 16 3 1 ∧ Z 16 3 1 ≤ 24) (hq : inR q) (hv : ∀ j, 0 ≤ j → j < 24 → inR (Z 21 0 j)) : CM l D cys ad yX2_childOfRank cX2_childOfRank 3 (some .int) 1 24 0 0 [.ref (ad 20 0), .int (iI q)] L g X Z (PI L g X Z (fun r => (0 ≤ r ∧ r < Z 16 3 1 ∧ ahd (Z 21 0) r (Z 16 3 1).toNat = q ∧ ∀ j, 0 ≤ j → j < r → ahd (Z 21 0) j (Z 16 3 1).toNat ≠ q) ∨ (r = -1 ∧ ∀ j, 0 ≤ j → j < Z 16 3 1 → ahd (Z 21 0) j (Z 16 3 1).toNat ≠ q))) := by
  refine cm_start hi (by decide +kernel) (Nat.le_of_ble_eq_true rfl) ?_
  intro p_ e_ s_ m_ args_ below_ meth_ c_ A_ Q_ hQ G hr hin
  have loop : ∀ (n : Nat) (a : Int), 0 ≤ a → a ≤ Z 16 3 1 → (Z 16 3 1 - a).toNat = n → (∀ j, 0 ≤ j → j < a → ahd (Z 21 0) j (Z 16 3 1).toNat ≠ q) → JJ p_ l e_ { frames := 1, cells := 0, slots := 0, locals := 24 } s_ m_ args_ below_ meth_ c_ D cys ad A_ Q_ 3 0 0 L g X Z 2 [(0, .ref (ad 20 0)), (1, .int (iI q)), (2, .int (iI a))] [] := by
    intro n
    induction n with
    | zero =>
      intro a h0 h1 h2 h3
      refine j_iload_n G dX2_childOfRank_2 rfl ?_
      refine j_aload_n G dX2_childOfRank_3 rfl ?_
      refine gf_20_0 G dX2_childOfRank_4 lf2_12 (by first | assumption | decide) ?_
      refine gf_16_1 G dX2_childOfRank_7 lf2_22 (by first | assumption | decide) ?_
      refine j_icmp_ge G 30 dX2_childOfRank_10 (by decide) (by omega) (by omega) (fun c10 => ?_) (fun c10 => ?_)
      · refine j_iconst G dX2_childOfRank_30 ?_
        refine jr_I G hQ hr dX2_childOfRank_31 (by decide) (by decide) ?_
        exact Or.inr ⟨rfl, fun j h4 h5 => h3 j h4 (by omega)⟩
      · exfalso; omega
    | succ n ih =>
      intro a h0 h1 h2 h3
      have hb := ahd_bd (Z 21 0) a (Z 16 3 1).toNat
      refine j_iload_n G dX2_childOfRank_2 rfl ?_
      refine j_aload_n G dX2_childOfRank_3 rfl ?_
      refine gf_20_0 G dX2_childOfRank_4 lf2_12 (by first | assumption | decide) ?_
      refine gf_16_1 G dX2_childOfRank_7 lf2_22 (by first | assumption | decide) ?_
      refine j_icmp_ge G 30 dX2_childOfRank_10 (by decide) (by omega) (by omega) (fun c10 => ?_) (fun c10 => ?_)
      · exfalso; omega
      · refine j_aload_n G dX2_childOfRank_13 rfl ?_
        refine j_iload_n G dX2_childOfRank_14 rfl ?_
        refine j_cVI G cvX2_childrenAheadOf ml2_26 (c_X2_childrenAheadOf hi (by first | assumption | omega | decide) (by first | assumption | omega | decide) (by first | assumption | omega | decide)) dX2_childOfRank_15 ⟨by decide, by decide⟩ ⟨by decide, by decide⟩ rfl rfl (by decide) (by first | assumption | decide) rfl rfl rfl (fun r15 h15 => ?_)
        refine j_iload_n G dX2_childOfRank_18 rfl ?_
        refine j_icmp_ne G 24 dX2_childOfRank_19 (by decide) (by omega) (by omega) (fun c19 => ?_) (fun c19 => ?_)
        · refine j_iinc G dX2_childOfRank_24 rfl (by decide) rfl ?_
          refine j_goto G 2 dX2_childOfRank_27 (by decide) ?_
          refine ih (a + 1) (by omega) (by omega) (by omega) (fun j h4 h5 => ?_)
          by_cases e : j = a
          · subst e; omega
          · exact h3 j h4 (by omega)
        · refine j_iload_n G dX2_childOfRank_22 rfl ?_
          refine jr_I G hQ hr dX2_childOfRank_23 (by decide) (by decide) ?_
          exact Or.inl ⟨h0, by omega, by omega, h3⟩
  refine j_iconst G dX2_childOfRank_0 ?_
  refine j_istore_n G dX2_childOfRank_1 (by decide) rfl ?_
  exact loop _ 0 (by omega) (by omega) rfl (fun j h4 h5 => by omega)
set_option maxRecDepth 100000 in
set_option maxHeartbeats 8000000 in
theorem c_X2_sumOfRank {l : Launch} {D : va_G} {cys : Nat → ClassId} {ad : Nat → Int → Nat} {L : List Nat} {g : Nat → va_E} {X : Int64} {Z : ZT} (hi : injA ad) {q : Int} (hn : 0 ≤ Z 16 3 1 ∧ Z 16 3 1 ≤ 24) (hq : inR q) (hv : ∀ j, 0 ≤ j → j < 24 → inR (Z 21 0 j)) : CM l D cys ad yX2_sumOfRank cX2_sumOfRank 3 (some .int) 2 46 0 0 [.ref (ad 20 0), .int (iI q)] L g X Z (PI L g X Z (fun r => (∃ c, 0 ≤ c ∧ c < Z 16 3 1 ∧ ahd (Z 21 0) c (Z 16 3 1).toNat = q ∧ (∀ j, 0 ≤ j → j < c → ahd (Z 21 0) j (Z 16 3 1).toNat ≠ q) ∧ r = Z 21 0 c) ∨ (r = 0 ∧ ∀ j, 0 ≤ j → j < Z 16 3 1 → ahd (Z 21 0) j (Z 16 3 1).toNat ≠ q))) := by
  refine cm_start hi (by decide +kernel) (Nat.le_of_ble_eq_true rfl) ?_
  intro p_ e_ s_ m_ args_ below_ meth_ c_ A_ Q_ hQ G hr hin
  refine j_aload_n G dX2_sumOfRank_0 rfl ?_
  refine j_iload_n G dX2_sumOfRank_1 rfl ?_
  refine j_cVI G cvX2_childOfRank ml2_30 (c_X2_childOfRank hi (by first | assumption | omega | decide) (by first | assumption | omega | decide) (by first | assumption | omega | decide)) dX2_sumOfRank_2 ⟨by decide, by decide⟩ ⟨by decide, by decide⟩ rfl rfl (by decide) (by first | assumption | decide) rfl rfl rfl (fun r2 h2 => ?_)
  have hr2 : inR r2 := by omega
  refine j_istore_n G dX2_sumOfRank_5 (by decide) rfl ?_
  refine j_aload_n G dX2_sumOfRank_6 rfl ?_
  refine gf_20_0 G dX2_sumOfRank_7 lf2_12 (by first | assumption | decide) ?_
  refine j_iload_n G dX2_sumOfRank_10 rfl ?_
  refine j_cVI G cvX3_hasPlace ml2_33 (c_X3_hasPlace hi (by first | assumption | omega | decide) (by first | assumption | omega | decide) (by first | assumption | omega | decide)) dX2_sumOfRank_11 ⟨by decide, by decide⟩ ⟨by decide, by decide⟩ rfl rfl (by decide) (by first | assumption | decide) rfl rfl rfl (fun r11 h11 => ?_)
  refine j_if_eq G 26 dX2_sumOfRank_14 (by decide) (by omega) (fun c14 => ?_) (fun c14 => ?_)
  · refine j_iconst G dX2_sumOfRank_26 ?_
    refine jr_I G hQ hr dX2_sumOfRank_27 (by decide) (by decide) ?_
    first
    | (rcases h2 with w | w
       · exact Or.inl ⟨r2, w.1, w.2.1, w.2.2.1, w.2.2.2, rfl⟩
       · exfalso; omega)
    | (rcases h2 with w | w
       · exfalso; omega
       · exact Or.inr ⟨rfl, w.2⟩)
  · refine j_aload_n G dX2_sumOfRank_17 rfl ?_
    refine gf_20_1 G dX2_sumOfRank_18 lf2_18 (by first | assumption | decide) ?_
    refine j_iload_n G dX2_sumOfRank_21 rfl ?_
    refine al_21 G dX2_sumOfRank_22 (by first | assumption | decide) (by omega) (by omega) ?_
    refine j_goto G 27 dX2_sumOfRank_23 (by decide) ?_
    refine jr_I G hQ hr dX2_sumOfRank_27 (by decide) (by decide) ?_
    first
    | (rcases h2 with w | w
       · exact Or.inl ⟨r2, w.1, w.2.1, w.2.2.1, w.2.2.2, rfl⟩
       · exfalso; omega)
    | (rcases h2 with w | w
       · exfalso; omega
       · exact Or.inr ⟨rfl, w.2⟩)
end
section
theorem dX6_isSeen_0 : decode cX6_isSeen 0 = .ok (.iconst 0, 1) := by decide +kernel
theorem dX6_isSeen_1 : decode cX6_isSeen 1 = .ok (.istore_n 2, 1) := by decide +kernel
theorem dX6_isSeen_2 : decode cX6_isSeen 2 = .ok (.iload_n 2, 1) := by decide +kernel
theorem dX6_isSeen_3 : decode cX6_isSeen 3 = .ok (.aload_n 0, 1) := by decide +kernel
theorem dX6_isSeen_4 : decode cX6_isSeen 4 = .ok (.getfield 66, 3) := by decide +kernel
theorem dX6_isSeen_7 : decode cX6_isSeen 7 = .ok (.if_icmp .ge 34, 3) := by decide +kernel
theorem dX6_isSeen_10 : decode cX6_isSeen 10 = .ok (.aload_n 0, 1) := by decide +kernel
theorem dX6_isSeen_11 : decode cX6_isSeen 11 = .ok (.getfield 11, 3) := by decide +kernel
theorem dX6_isSeen_14 : decode cX6_isSeen 14 = .ok (.iload_n 2, 1) := by decide +kernel
theorem dX6_isSeen_15 : decode cX6_isSeen 15 = .ok (.aaload, 1) := by decide +kernel
theorem dX6_isSeen_16 : decode cX6_isSeen 16 = .ok (.aload_n 0, 1) := by decide +kernel
theorem dX6_isSeen_17 : decode cX6_isSeen 17 = .ok (.getfield 18, 3) := by decide +kernel
theorem dX6_isSeen_20 : decode cX6_isSeen 20 = .ok (.getfield 166, 3) := by decide +kernel
theorem dX6_isSeen_23 : decode cX6_isSeen 23 = .ok (.iload_n 2, 1) := by decide +kernel
theorem dX6_isSeen_24 : decode cX6_isSeen 24 = .ok (.aaload, 1) := by decide +kernel
theorem dX6_isSeen_25 : decode cX6_isSeen 25 = .ok (.iload_n 1, 1) := by decide +kernel
theorem dX6_isSeen_26 : decode cX6_isSeen 26 = .ok (.iaload, 1) := by decide +kernel
theorem dX6_isSeen_27 : decode cX6_isSeen 27 = .ok (.invokevirtual 330, 3) := by decide +kernel
theorem dX6_isSeen_30 : decode cX6_isSeen 30 = .ok (.ifCond .ne 5, 3) := by decide +kernel
theorem dX6_isSeen_33 : decode cX6_isSeen 33 = .ok (.iconst 0, 1) := by decide +kernel
theorem dX6_isSeen_34 : decode cX6_isSeen 34 = .ok (.ireturn, 1) := by decide +kernel
theorem dX6_isSeen_35 : decode cX6_isSeen 35 = .ok (.iinc 2 1, 3) := by decide +kernel
theorem dX6_isSeen_38 : decode cX6_isSeen 38 = .ok (.goto (-36), 3) := by decide +kernel
theorem dX6_isSeen_41 : decode cX6_isSeen 41 = .ok (.iconst 1, 1) := by decide +kernel
theorem dX6_isSeen_42 : decode cX6_isSeen 42 = .ok (.ireturn, 1) := by decide +kernel
theorem dX6_isPointOfLeaves_0 : decode cX6_isPointOfLeaves 0 = .ok (.iconst 0, 1) := by decide +kernel
theorem dX6_isPointOfLeaves_1 : decode cX6_isPointOfLeaves 1 = .ok (.istore_n 1, 1) := by decide +kernel
theorem dX6_isPointOfLeaves_2 : decode cX6_isPointOfLeaves 2 = .ok (.iload_n 1, 1) := by decide +kernel
theorem dX6_isPointOfLeaves_3 : decode cX6_isPointOfLeaves 3 = .ok (.aload_n 0, 1) := by decide +kernel
theorem dX6_isPointOfLeaves_4 : decode cX6_isPointOfLeaves 4 = .ok (.getfield 66, 3) := by decide +kernel
theorem dX6_isPointOfLeaves_7 : decode cX6_isPointOfLeaves 7 = .ok (.if_icmp .ge 32, 3) := by decide +kernel
theorem dX6_isPointOfLeaves_10 : decode cX6_isPointOfLeaves 10 = .ok (.aload_n 0, 1) := by decide +kernel
theorem dX6_isPointOfLeaves_11 : decode cX6_isPointOfLeaves 11 = .ok (.getfield 11, 3) := by decide +kernel
theorem dX6_isPointOfLeaves_14 : decode cX6_isPointOfLeaves 14 = .ok (.iload_n 1, 1) := by decide +kernel
theorem dX6_isPointOfLeaves_15 : decode cX6_isPointOfLeaves 15 = .ok (.aaload, 1) := by decide +kernel
theorem dX6_isPointOfLeaves_16 : decode cX6_isPointOfLeaves 16 = .ok (.aload_n 0, 1) := by decide +kernel
theorem dX6_isPointOfLeaves_17 : decode cX6_isPointOfLeaves 17 = .ok (.getfield 11, 3) := by decide +kernel
theorem dX6_isPointOfLeaves_20 : decode cX6_isPointOfLeaves 20 = .ok (.iload_n 1, 1) := by decide +kernel
theorem dX6_isPointOfLeaves_21 : decode cX6_isPointOfLeaves 21 = .ok (.aaload, 1) := by decide +kernel
theorem dX6_isPointOfLeaves_22 : decode cX6_isPointOfLeaves 22 = .ok (.getfield 150, 3) := by decide +kernel
theorem dX6_isPointOfLeaves_25 : decode cX6_isPointOfLeaves 25 = .ok (.invokevirtual 86, 3) := by decide +kernel
theorem dX6_isPointOfLeaves_28 : decode cX6_isPointOfLeaves 28 = .ok (.ifCond .ne 5, 3) := by decide +kernel
theorem dX6_isPointOfLeaves_31 : decode cX6_isPointOfLeaves 31 = .ok (.iconst 0, 1) := by decide +kernel
theorem dX6_isPointOfLeaves_32 : decode cX6_isPointOfLeaves 32 = .ok (.ireturn, 1) := by decide +kernel
theorem dX6_isPointOfLeaves_33 : decode cX6_isPointOfLeaves 33 = .ok (.iinc 1 1, 3) := by decide +kernel
theorem dX6_isPointOfLeaves_36 : decode cX6_isPointOfLeaves 36 = .ok (.goto (-34), 3) := by decide +kernel
theorem dX6_isPointOfLeaves_39 : decode cX6_isPointOfLeaves 39 = .ok (.aload_n 0, 1) := by decide +kernel
theorem dX6_isPointOfLeaves_40 : decode cX6_isPointOfLeaves 40 = .ok (.getfield 66, 3) := by decide +kernel
theorem dX6_isPointOfLeaves_43 : decode cX6_isPointOfLeaves 43 = .ok (.ifCond .le 7, 3) := by decide +kernel
theorem dX6_isPointOfLeaves_46 : decode cX6_isPointOfLeaves 46 = .ok (.iconst 1, 1) := by decide +kernel
theorem dX6_isPointOfLeaves_47 : decode cX6_isPointOfLeaves 47 = .ok (.goto 4, 3) := by decide +kernel
theorem dX6_isPointOfLeaves_50 : decode cX6_isPointOfLeaves 50 = .ok (.iconst 0, 1) := by decide +kernel
theorem dX6_isPointOfLeaves_51 : decode cX6_isPointOfLeaves 51 = .ok (.ireturn, 1) := by decide +kernel
theorem dX6_bitsBehind_0 : decode cX6_bitsBehind 0 = .ok (.iconst 3, 1) := by decide +kernel
theorem dX6_bitsBehind_1 : decode cX6_bitsBehind 1 = .ok (.iload_n 0, 1) := by decide +kernel
theorem dX6_bitsBehind_2 : decode cX6_bitsBehind 2 = .ok (.isub, 1) := by decide +kernel
theorem dX6_bitsBehind_3 : decode cX6_bitsBehind 3 = .ok (.iconst 2, 1) := by decide +kernel
theorem dX6_bitsBehind_4 : decode cX6_bitsBehind 4 = .ok (.imul, 1) := by decide +kernel
theorem dX6_bitsBehind_5 : decode cX6_bitsBehind 5 = .ok (.ireturn, 1) := by decide +kernel
theorem dX6_levelIn_0 : decode cX6_levelIn 0 = .ok (.iload_n 0, 1) := by decide +kernel
theorem dX6_levelIn_1 : decode cX6_levelIn 1 = .ok (.iload_n 1, 1) := by decide +kernel
theorem dX6_levelIn_2 : decode cX6_levelIn 2 = .ok (.invokestatic 255, 3) := by decide +kernel
theorem dX6_levelIn_5 : decode cX6_levelIn 5 = .ok (.ishr, 1) := by decide +kernel
theorem dX6_levelIn_6 : decode cX6_levelIn 6 = .ok (.iconst 3, 1) := by decide +kernel
theorem dX6_levelIn_7 : decode cX6_levelIn 7 = .ok (.iand, 1) := by decide +kernel
theorem dX6_levelIn_8 : decode cX6_levelIn 8 = .ok (.ireturn, 1) := by decide +kernel
theorem dX6_reach_0 : decode cX6_reach 0 = .ok (.iconst 3, 1) := by decide +kernel
theorem dX6_reach_1 : decode cX6_reach 1 = .ok (.istore_n 2, 1) := by decide +kernel
theorem dX6_reach_2 : decode cX6_reach 2 = .ok (.iload_n 2, 1) := by decide +kernel
theorem dX6_reach_3 : decode cX6_reach 3 = .ok (.sipush 256, 3) := by decide +kernel
theorem dX6_reach_6 : decode cX6_reach 6 = .ok (.if_icmp .ge 21, 3) := by decide +kernel
theorem dX6_reach_9 : decode cX6_reach 9 = .ok (.iload_n 0, 1) := by decide +kernel
theorem dX6_reach_10 : decode cX6_reach 10 = .ok (.iload_n 2, 1) := by decide +kernel
theorem dX6_reach_11 : decode cX6_reach 11 = .ok (.iand, 1) := by decide +kernel
theorem dX6_reach_12 : decode cX6_reach 12 = .ok (.iload_n 1, 1) := by decide +kernel
theorem dX6_reach_13 : decode cX6_reach 13 = .ok (.iload_n 2, 1) := by decide +kernel
theorem dX6_reach_14 : decode cX6_reach 14 = .ok (.iand, 1) := by decide +kernel
theorem dX6_reach_15 : decode cX6_reach 15 = .ok (.if_icmp .ge 5, 3) := by decide +kernel
theorem dX6_reach_18 : decode cX6_reach 18 = .ok (.iconst 0, 1) := by decide +kernel
theorem dX6_reach_19 : decode cX6_reach 19 = .ok (.ireturn, 1) := by decide +kernel
theorem dX6_reach_20 : decode cX6_reach 20 = .ok (.iload_n 2, 1) := by decide +kernel
theorem dX6_reach_21 : decode cX6_reach 21 = .ok (.iconst 2, 1) := by decide +kernel
theorem dX6_reach_22 : decode cX6_reach 22 = .ok (.ishl, 1) := by decide +kernel
theorem dX6_reach_23 : decode cX6_reach 23 = .ok (.istore_n 2, 1) := by decide +kernel
theorem dX6_reach_24 : decode cX6_reach 24 = .ok (.goto (-22), 3) := by decide +kernel
theorem dX6_reach_27 : decode cX6_reach 27 = .ok (.iconst 1, 1) := by decide +kernel
theorem dX6_reach_28 : decode cX6_reach 28 = .ok (.ireturn, 1) := by decide +kernel
theorem dX6_areLevels_0 : decode cX6_areLevels 0 = .ok (.iconst 0, 1) := by decide +kernel
theorem dX6_areLevels_1 : decode cX6_areLevels 1 = .ok (.istore_n 2, 1) := by decide +kernel
theorem dX6_areLevels_2 : decode cX6_areLevels 2 = .ok (.iload_n 2, 1) := by decide +kernel
theorem dX6_areLevels_3 : decode cX6_areLevels 3 = .ok (.iconst 4, 1) := by decide +kernel
theorem dX6_areLevels_4 : decode cX6_areLevels 4 = .ok (.if_icmp .ge 28, 3) := by decide +kernel
theorem dX6_areLevels_7 : decode cX6_areLevels 7 = .ok (.iload_n 1, 1) := by decide +kernel
theorem dX6_areLevels_8 : decode cX6_areLevels 8 = .ok (.iload_n 2, 1) := by decide +kernel
theorem dX6_areLevels_9 : decode cX6_areLevels 9 = .ok (.invokestatic 252, 3) := by decide +kernel
theorem dX6_areLevels_12 : decode cX6_areLevels 12 = .ok (.aload_n 0, 1) := by decide +kernel
theorem dX6_areLevels_13 : decode cX6_areLevels 13 = .ok (.getfield 11, 3) := by decide +kernel
theorem dX6_areLevels_16 : decode cX6_areLevels 16 = .ok (.iload_n 2, 1) := by decide +kernel
theorem dX6_areLevels_17 : decode cX6_areLevels 17 = .ok (.aaload, 1) := by decide +kernel
theorem dX6_areLevels_18 : decode cX6_areLevels 18 = .ok (.getfield 322, 3) := by decide +kernel
theorem dX6_areLevels_21 : decode cX6_areLevels 21 = .ok (.if_icmp .le 5, 3) := by decide +kernel
theorem dX6_areLevels_24 : decode cX6_areLevels 24 = .ok (.iconst 0, 1) := by decide +kernel
theorem dX6_areLevels_25 : decode cX6_areLevels 25 = .ok (.ireturn, 1) := by decide +kernel
theorem dX6_areLevels_26 : decode cX6_areLevels 26 = .ok (.iinc 2 1, 3) := by decide +kernel
theorem dX6_areLevels_29 : decode cX6_areLevels 29 = .ok (.goto (-27), 3) := by decide +kernel
theorem dX6_areLevels_32 : decode cX6_areLevels 32 = .ok (.iconst 1, 1) := by decide +kernel
theorem dX6_areLevels_33 : decode cX6_areLevels 33 = .ok (.ireturn, 1) := by decide +kernel
theorem dX6_cellAround_0 : decode cX6_cellAround 0 = .ok (.iconst 0, 1) := by decide +kernel
theorem dX6_cellAround_1 : decode cX6_cellAround 1 = .ok (.istore_n 3, 1) := by decide +kernel
theorem dX6_cellAround_2 : decode cX6_cellAround 2 = .ok (.iconst 0, 1) := by decide +kernel
theorem dX6_cellAround_3 : decode cX6_cellAround 3 = .ok (.istore 4, 2) := by decide +kernel
theorem dX6_cellAround_5 : decode cX6_cellAround 5 = .ok (.iload 4, 2) := by decide +kernel
theorem dX6_cellAround_7 : decode cX6_cellAround 7 = .ok (.aload_n 0, 1) := by decide +kernel
theorem dX6_cellAround_8 : decode cX6_cellAround 8 = .ok (.getfield 66, 3) := by decide +kernel
theorem dX6_cellAround_11 : decode cX6_cellAround 11 = .ok (.if_icmp .ge 47, 3) := by decide +kernel
theorem dX6_cellAround_14 : decode cX6_cellAround 14 = .ok (.aload_n 0, 1) := by decide +kernel
theorem dX6_cellAround_15 : decode cX6_cellAround 15 = .ok (.getfield 18, 3) := by decide +kernel
theorem dX6_cellAround_18 : decode cX6_cellAround 18 = .ok (.getfield 166, 3) := by decide +kernel
theorem dX6_cellAround_21 : decode cX6_cellAround 21 = .ok (.iload 4, 2) := by decide +kernel
theorem dX6_cellAround_23 : decode cX6_cellAround 23 = .ok (.aaload, 1) := by decide +kernel
theorem dX6_cellAround_24 : decode cX6_cellAround 24 = .ok (.iload_n 1, 1) := by decide +kernel
theorem dX6_cellAround_25 : decode cX6_cellAround 25 = .ok (.iaload, 1) := by decide +kernel
theorem dX6_cellAround_26 : decode cX6_cellAround 26 = .ok (.istore 5, 2) := by decide +kernel
theorem dX6_cellAround_28 : decode cX6_cellAround 28 = .ok (.iload_n 3, 1) := by decide +kernel
theorem dX6_cellAround_29 : decode cX6_cellAround 29 = .ok (.bipush 24, 2) := by decide +kernel
theorem dX6_cellAround_31 : decode cX6_cellAround 31 = .ok (.imul, 1) := by decide +kernel
theorem dX6_cellAround_32 : decode cX6_cellAround 32 = .ok (.aload_n 0, 1) := by decide +kernel
theorem dX6_cellAround_33 : decode cX6_cellAround 33 = .ok (.getfield 11, 3) := by decide +kernel
theorem dX6_cellAround_36 : decode cX6_cellAround 36 = .ok (.iload 4, 2) := by decide +kernel
theorem dX6_cellAround_38 : decode cX6_cellAround 38 = .ok (.aaload, 1) := by decide +kernel
theorem dX6_cellAround_39 : decode cX6_cellAround 39 = .ok (.iload 5, 2) := by decide +kernel
theorem dX6_cellAround_41 : decode cX6_cellAround 41 = .ok (.iload_n 2, 1) := by decide +kernel
theorem dX6_cellAround_42 : decode cX6_cellAround 42 = .ok (.iload 4, 2) := by decide +kernel
theorem dX6_cellAround_44 : decode cX6_cellAround 44 = .ok (.invokestatic 252, 3) := by decide +kernel
theorem dX6_cellAround_47 : decode cX6_cellAround 47 = .ok (.invokevirtual 334, 3) := by decide +kernel
theorem dX6_cellAround_50 : decode cX6_cellAround 50 = .ok (.iadd, 1) := by decide +kernel
theorem dX6_cellAround_51 : decode cX6_cellAround 51 = .ok (.istore_n 3, 1) := by decide +kernel
theorem dX6_cellAround_52 : decode cX6_cellAround 52 = .ok (.iinc 4 1, 3) := by decide +kernel
theorem dX6_cellAround_55 : decode cX6_cellAround 55 = .ok (.goto (-50), 3) := by decide +kernel
theorem dX6_cellAround_58 : decode cX6_cellAround 58 = .ok (.iload_n 3, 1) := by decide +kernel
theorem dX6_cellAround_59 : decode cX6_cellAround 59 = .ok (.ireturn, 1) := by decide +kernel
theorem dX6_cellsOf_0 : decode cX6_cellsOf 0 = .ok (.iconst 0, 1) := by decide +kernel
theorem dX6_cellsOf_1 : decode cX6_cellsOf 1 = .ok (.istore_n 2, 1) := by decide +kernel
theorem dX6_cellsOf_2 : decode cX6_cellsOf 2 = .ok (.iconst 0, 1) := by decide +kernel
theorem dX6_cellsOf_3 : decode cX6_cellsOf 3 = .ok (.istore_n 3, 1) := by decide +kernel
theorem dX6_cellsOf_4 : decode cX6_cellsOf 4 = .ok (.iload_n 3, 1) := by decide +kernel
theorem dX6_cellsOf_5 : decode cX6_cellsOf 5 = .ok (.aload_n 0, 1) := by decide +kernel
theorem dX6_cellsOf_6 : decode cX6_cellsOf 6 = .ok (.getfield 18, 3) := by decide +kernel
theorem dX6_cellsOf_9 : decode cX6_cellsOf 9 = .ok (.getfield 160, 3) := by decide +kernel
theorem dX6_cellsOf_12 : decode cX6_cellsOf 12 = .ok (.if_icmp .ge 38, 3) := by decide +kernel
theorem dX6_cellsOf_15 : decode cX6_cellsOf 15 = .ok (.aload_n 0, 1) := by decide +kernel
theorem dX6_cellsOf_16 : decode cX6_cellsOf 16 = .ok (.getfield 18, 3) := by decide +kernel
theorem dX6_cellsOf_19 : decode cX6_cellsOf 19 = .ok (.getfield 377, 3) := by decide +kernel
theorem dX6_cellsOf_22 : decode cX6_cellsOf 22 = .ok (.iload_n 3, 1) := by decide +kernel
theorem dX6_cellsOf_23 : decode cX6_cellsOf 23 = .ok (.aload_n 0, 1) := by decide +kernel
theorem dX6_cellsOf_24 : decode cX6_cellsOf 24 = .ok (.iload_n 3, 1) := by decide +kernel
theorem dX6_cellsOf_25 : decode cX6_cellsOf 25 = .ok (.iload_n 1, 1) := by decide +kernel
theorem dX6_cellsOf_26 : decode cX6_cellsOf 26 = .ok (.invokevirtual 380, 3) := by decide +kernel
theorem dX6_cellsOf_29 : decode cX6_cellsOf 29 = .ok (.iastore, 1) := by decide +kernel
theorem dX6_cellsOf_30 : decode cX6_cellsOf 30 = .ok (.aload_n 0, 1) := by decide +kernel
theorem dX6_cellsOf_31 : decode cX6_cellsOf 31 = .ok (.getfield 18, 3) := by decide +kernel
theorem dX6_cellsOf_34 : decode cX6_cellsOf 34 = .ok (.iload_n 3, 1) := by decide +kernel
theorem dX6_cellsOf_35 : decode cX6_cellsOf 35 = .ok (.invokevirtual 383, 3) := by decide +kernel
theorem dX6_cellsOf_38 : decode cX6_cellsOf 38 = .ok (.ifCond .eq 6, 3) := by decide +kernel
theorem dX6_cellsOf_41 : decode cX6_cellsOf 41 = .ok (.iinc 2 1, 3) := by decide +kernel
theorem dX6_cellsOf_44 : decode cX6_cellsOf 44 = .ok (.iinc 3 1, 3) := by decide +kernel
theorem dX6_cellsOf_47 : decode cX6_cellsOf 47 = .ok (.goto (-43), 3) := by decide +kernel
theorem dX6_cellsOf_50 : decode cX6_cellsOf 50 = .ok (.iload_n 2, 1) := by decide +kernel
theorem dX6_cellsOf_51 : decode cX6_cellsOf 51 = .ok (.ireturn, 1) := by decide +kernel
theorem dX6_viewFor_0 : decode cX6_viewFor 0 = .ok (.iconst (-1), 1) := by decide +kernel
theorem dX6_viewFor_1 : decode cX6_viewFor 1 = .ok (.istore_n 2, 1) := by decide +kernel
theorem dX6_viewFor_2 : decode cX6_viewFor 2 = .ok (.aload_n 0, 1) := by decide +kernel
theorem dX6_viewFor_3 : decode cX6_viewFor 3 = .ok (.getfield 18, 3) := by decide +kernel
theorem dX6_viewFor_6 : decode cX6_viewFor 6 = .ok (.getfield 160, 3) := by decide +kernel
theorem dX6_viewFor_9 : decode cX6_viewFor 9 = .ok (.istore_n 3, 1) := by decide +kernel
theorem dX6_viewFor_10 : decode cX6_viewFor 10 = .ok (.iconst 0, 1) := by decide +kernel
theorem dX6_viewFor_11 : decode cX6_viewFor 11 = .ok (.istore 4, 2) := by decide +kernel
theorem dX6_viewFor_13 : decode cX6_viewFor 13 = .ok (.iload 4, 2) := by decide +kernel
theorem dX6_viewFor_15 : decode cX6_viewFor 15 = .ok (.aload_n 0, 1) := by decide +kernel
theorem dX6_viewFor_16 : decode cX6_viewFor 16 = .ok (.getfield 25, 3) := by decide +kernel
theorem dX6_viewFor_19 : decode cX6_viewFor 19 = .ok (.getfield 261, 3) := by decide +kernel
theorem dX6_viewFor_22 : decode cX6_viewFor 22 = .ok (.if_icmp .ge 67, 3) := by decide +kernel
theorem dX6_viewFor_25 : decode cX6_viewFor 25 = .ok (.aload_n 0, 1) := by decide +kernel
theorem dX6_viewFor_26 : decode cX6_viewFor 26 = .ok (.getfield 25, 3) := by decide +kernel
theorem dX6_viewFor_29 : decode cX6_viewFor 29 = .ok (.getfield 274, 3) := by decide +kernel
theorem dX6_viewFor_32 : decode cX6_viewFor 32 = .ok (.iload 4, 2) := by decide +kernel
theorem dX6_viewFor_34 : decode cX6_viewFor 34 = .ok (.iaload, 1) := by decide +kernel
theorem dX6_viewFor_35 : decode cX6_viewFor 35 = .ok (.iload_n 3, 1) := by decide +kernel
theorem dX6_viewFor_36 : decode cX6_viewFor 36 = .ok (.if_icmp .ge 47, 3) := by decide +kernel
theorem dX6_viewFor_39 : decode cX6_viewFor 39 = .ok (.aload_n 0, 1) := by decide +kernel
theorem dX6_viewFor_40 : decode cX6_viewFor 40 = .ok (.getfield 25, 3) := by decide +kernel
theorem dX6_viewFor_43 : decode cX6_viewFor 43 = .ok (.getfield 277, 3) := by decide +kernel
theorem dX6_viewFor_46 : decode cX6_viewFor 46 = .ok (.iload 4, 2) := by decide +kernel
theorem dX6_viewFor_48 : decode cX6_viewFor 48 = .ok (.baload, 1) := by decide +kernel
theorem dX6_viewFor_49 : decode cX6_viewFor 49 = .ok (.ifCond .ne 34, 3) := by decide +kernel
theorem dX6_viewFor_52 : decode cX6_viewFor 52 = .ok (.aload_n 0, 1) := by decide +kernel
theorem dX6_viewFor_53 : decode cX6_viewFor 53 = .ok (.getfield 25, 3) := by decide +kernel
theorem dX6_viewFor_56 : decode cX6_viewFor 56 = .ok (.getfield 264, 3) := by decide +kernel
theorem dX6_viewFor_59 : decode cX6_viewFor 59 = .ok (.iload 4, 2) := by decide +kernel
theorem dX6_viewFor_61 : decode cX6_viewFor 61 = .ok (.iaload, 1) := by decide +kernel
theorem dX6_viewFor_62 : decode cX6_viewFor 62 = .ok (.iload_n 1, 1) := by decide +kernel
theorem dX6_viewFor_63 : decode cX6_viewFor 63 = .ok (.invokestatic 389, 3) := by decide +kernel
theorem dX6_viewFor_66 : decode cX6_viewFor 66 = .ok (.ifCond .eq 17, 3) := by decide +kernel
theorem dX6_viewFor_69 : decode cX6_viewFor 69 = .ok (.iload 4, 2) := by decide +kernel
theorem dX6_viewFor_71 : decode cX6_viewFor 71 = .ok (.istore_n 2, 1) := by decide +kernel
theorem dX6_viewFor_72 : decode cX6_viewFor 72 = .ok (.aload_n 0, 1) := by decide +kernel
theorem dX6_viewFor_73 : decode cX6_viewFor 73 = .ok (.getfield 25, 3) := by decide +kernel
theorem dX6_viewFor_76 : decode cX6_viewFor 76 = .ok (.getfield 274, 3) := by decide +kernel
theorem dX6_viewFor_79 : decode cX6_viewFor 79 = .ok (.iload 4, 2) := by decide +kernel
theorem dX6_viewFor_81 : decode cX6_viewFor 81 = .ok (.iaload, 1) := by decide +kernel
theorem dX6_viewFor_82 : decode cX6_viewFor 82 = .ok (.istore_n 3, 1) := by decide +kernel
theorem dX6_viewFor_83 : decode cX6_viewFor 83 = .ok (.iinc 4 1, 3) := by decide +kernel
theorem dX6_viewFor_86 : decode cX6_viewFor 86 = .ok (.goto (-73), 3) := by decide +kernel
theorem dX6_viewFor_89 : decode cX6_viewFor 89 = .ok (.iload_n 2, 1) := by decide +kernel
theorem dX6_viewFor_90 : decode cX6_viewFor 90 = .ok (.ireturn, 1) := by decide +kernel
theorem dX6_costOf_0 : decode cX6_costOf 0 = .ok (.aload_n 0, 1) := by decide +kernel
theorem dX6_costOf_1 : decode cX6_costOf 1 = .ok (.iload_n 1, 1) := by decide +kernel
theorem dX6_costOf_2 : decode cX6_costOf 2 = .ok (.invokevirtual 283, 3) := by decide +kernel
theorem dX6_costOf_5 : decode cX6_costOf 5 = .ok (.istore_n 2, 1) := by decide +kernel
theorem dX6_costOf_6 : decode cX6_costOf 6 = .ok (.aload_n 0, 1) := by decide +kernel
theorem dX6_costOf_7 : decode cX6_costOf 7 = .ok (.getfield 25, 3) := by decide +kernel
theorem dX6_costOf_10 : decode cX6_costOf 10 = .ok (.iload_n 2, 1) := by decide +kernel
theorem dX6_costOf_11 : decode cX6_costOf 11 = .ok (.invokevirtual 386, 3) := by decide +kernel
theorem dX6_costOf_14 : decode cX6_costOf 14 = .ok (.ifCond .eq 15, 3) := by decide +kernel
theorem dX6_costOf_17 : decode cX6_costOf 17 = .ok (.aload_n 0, 1) := by decide +kernel
theorem dX6_costOf_18 : decode cX6_costOf 18 = .ok (.getfield 25, 3) := by decide +kernel
theorem dX6_costOf_21 : decode cX6_costOf 21 = .ok (.getfield 274, 3) := by decide +kernel
theorem dX6_costOf_24 : decode cX6_costOf 24 = .ok (.iload_n 2, 1) := by decide +kernel
theorem dX6_costOf_25 : decode cX6_costOf 25 = .ok (.iaload, 1) := by decide +kernel
theorem dX6_costOf_26 : decode cX6_costOf 26 = .ok (.goto 10, 3) := by decide +kernel
theorem dX6_costOf_29 : decode cX6_costOf 29 = .ok (.aload_n 0, 1) := by decide +kernel
theorem dX6_costOf_30 : decode cX6_costOf 30 = .ok (.getfield 18, 3) := by decide +kernel
theorem dX6_costOf_33 : decode cX6_costOf 33 = .ok (.getfield 160, 3) := by decide +kernel
theorem dX6_costOf_36 : decode cX6_costOf 36 = .ok (.ireturn, 1) := by decide +kernel
theorem dX6_gainOf_0 : decode cX6_gainOf 0 = .ok (.aload_n 0, 1) := by decide +kernel
theorem dX6_gainOf_1 : decode cX6_gainOf 1 = .ok (.iload_n 1, 1) := by decide +kernel
theorem dX6_gainOf_2 : decode cX6_gainOf 2 = .ok (.invokevirtual 258, 3) := by decide +kernel
theorem dX6_gainOf_5 : decode cX6_gainOf 5 = .ok (.istore_n 2, 1) := by decide +kernel
theorem dX6_gainOf_6 : decode cX6_gainOf 6 = .ok (.iconst 0, 1) := by decide +kernel
theorem dX6_gainOf_7 : decode cX6_gainOf 7 = .ok (.istore_n 3, 1) := by decide +kernel
theorem dX6_gainOf_8 : decode cX6_gainOf 8 = .ok (.iconst 0, 1) := by decide +kernel
theorem dX6_gainOf_9 : decode cX6_gainOf 9 = .ok (.istore 4, 2) := by decide +kernel
theorem dX6_gainOf_11 : decode cX6_gainOf 11 = .ok (.iload 4, 2) := by decide +kernel
theorem dX6_gainOf_13 : decode cX6_gainOf 13 = .ok (.iload_n 1, 1) := by decide +kernel
theorem dX6_gainOf_14 : decode cX6_gainOf 14 = .ok (.if_icmp .gt 33, 3) := by decide +kernel
theorem dX6_gainOf_17 : decode cX6_gainOf 17 = .ok (.iload_n 1, 1) := by decide +kernel
theorem dX6_gainOf_18 : decode cX6_gainOf 18 = .ok (.iload 4, 2) := by decide +kernel
theorem dX6_gainOf_20 : decode cX6_gainOf 20 = .ok (.invokestatic 389, 3) := by decide +kernel
theorem dX6_gainOf_23 : decode cX6_gainOf 23 = .ok (.ifCond .eq 18, 3) := by decide +kernel
theorem dX6_gainOf_26 : decode cX6_gainOf 26 = .ok (.iload_n 3, 1) := by decide +kernel
theorem dX6_gainOf_27 : decode cX6_gainOf 27 = .ok (.iconst 0, 1) := by decide +kernel
theorem dX6_gainOf_28 : decode cX6_gainOf 28 = .ok (.aload_n 0, 1) := by decide +kernel
theorem dX6_gainOf_29 : decode cX6_gainOf 29 = .ok (.iload 4, 2) := by decide +kernel
theorem dX6_gainOf_31 : decode cX6_gainOf 31 = .ok (.invokevirtual 280, 3) := by decide +kernel
theorem dX6_gainOf_34 : decode cX6_gainOf 34 = .ok (.iload_n 2, 1) := by decide +kernel
theorem dX6_gainOf_35 : decode cX6_gainOf 35 = .ok (.isub, 1) := by decide +kernel
theorem dX6_gainOf_36 : decode cX6_gainOf 36 = .ok (.invokestatic 393, 3) := by decide +kernel
theorem dX6_gainOf_39 : decode cX6_gainOf 39 = .ok (.iadd, 1) := by decide +kernel
theorem dX6_gainOf_40 : decode cX6_gainOf 40 = .ok (.istore_n 3, 1) := by decide +kernel
theorem dX6_gainOf_41 : decode cX6_gainOf 41 = .ok (.iinc 4 1, 3) := by decide +kernel
theorem dX6_gainOf_44 : decode cX6_gainOf 44 = .ok (.goto (-33), 3) := by decide +kernel
theorem dX6_gainOf_47 : decode cX6_gainOf 47 = .ok (.iload_n 3, 1) := by decide +kernel
theorem dX6_gainOf_48 : decode cX6_gainOf 48 = .ok (.ireturn, 1) := by decide +kernel
/-! by program: wip/whole/gen.py out of wip/whole/src/14.views.eb -/
/-! EbbTable: what is seen; levels, cells, costs -/
set_option maxRecDepth 100000 in
set_option maxHeartbeats 8000000 in
theorem c_X6_isSeen {l : Launch} {D : va_G} {cys : Nat → ClassId} {ad : Nat → Int → Nat} {L : List Nat} {g : Nat → va_E} {X : Int64} {Z : ZT} (hi : injA ad) {S : ZT} {k : Int} (hS : SP S Z) (hW : WF S) (hk : 0 ≤ k ∧ k < S 6 0 3) : CM l D cys ad yX6_isSeen cX6_isSeen 3 (some .boolean) 2 45 0 0 [.ref (ad 0 0), .int (iI k)] L g X Z (PI L g X Z (fun r => (r = 1 ∧ seen S k) ∨ (r = 0 ∧ ¬ seen S k))) := by
  refine cm_start hi (by decide +kernel) (Nat.le_of_ble_eq_true rfl) ?_
  intro p_ e_ s_ m_ args_ below_ meth_ c_ A_ Q_ hQ G hr hin
  have e0 := hS.1 0 rfl
  have e05 : Z 0 0 5 = S 0 0 5 := by rw [e0]
  have hn := hW.n
  have hf := hW.f
  have hfk := hW.fk hk.1 hk.2
  have loop : ∀ (n : Nat) (a : Int), 0 ≤ a → a ≤ S 0 0 5 → (S 0 0 5 - a).toNat = n → (∀ d, 0 ≤ d → d < a → seenT S d (S 8 d k)) → JJ p_ l e_ { frames := 2, cells := 0, slots := 0, locals := 45 } s_ m_ args_ below_ meth_ c_ D cys ad A_ Q_ 3 0 0 L g X Z 2 [(0, .ref (ad 0 0)), (1, .int (iI k)), (2, .int (iI a))] [] := by
    intro n
    induction n with
    | zero =>
      intro a h0 h1 h2 h3
      refine j_iload_n G dX6_isSeen_2 rfl ?_
      refine j_aload_n G dX6_isSeen_3 rfl ?_
      refine gf_0_5 G dX6_isSeen_4 lf6_66 (by first | assumption | decide) ?_
      refine j_icmp_ge G 41 dX6_isSeen_7 (by decide) (by omega) (by omega) (fun c7 => ?_) (fun c7 => ?_)
      · refine j_iconst G dX6_isSeen_41 ?_
        refine jr_B G hQ hr dX6_isSeen_42 (by decide) (by decide) (by omega) ?_
        exact Or.inl ⟨rfl, fun d d0 d1 => h3 d d0 (by omega)⟩
      · exfalso; omega
    | succ n ih =>
      intro a h0 h1 h2 h3
      have ht := hW.t h0 (by omega : a < S 0 0 5)
      have hte := TE.of hS a
      have hl := hfk.1 a h0 (by omega)
      have hTZ := hte.ok ht
      have hv2 : vd 2 a := ⟨h0, show a < 4 by omega⟩
      have hv8 : vd 8 a := ⟨h0, show a < 4 by omega⟩
      have e8 : Z 8 a k = S 8 a k := by rw [hS.1 8 rfl]
      have e24 : Z 2 a 4 = S 2 a 4 := by rw [hS.1 2 rfl]
      have hlz : 0 ≤ Z 8 a k ∧ Z 8 a k < Z 2 a 4 := by omega
      refine j_iload_n G dX6_isSeen_2 rfl ?_
      refine j_aload_n G dX6_isSeen_3 rfl ?_
      refine gf_0_5 G dX6_isSeen_4 lf6_66 (by first | assumption | decide) ?_
      refine j_icmp_ge G 41 dX6_isSeen_7 (by decide) (by omega) (by omega) (fun c7 => ?_) (fun c7 => ?_)
      · exfalso; omega
      · refine j_aload_n G dX6_isSeen_10 rfl ?_
        refine gf_0_0 G dX6_isSeen_11 lf6_11 (by first | assumption | decide) ?_
        refine j_iload_n G dX6_isSeen_14 rfl ?_
        refine al_1 G dX6_isSeen_15 (by first | assumption | decide) (by omega) (by omega) ?_
        refine j_aload_n G dX6_isSeen_16 rfl ?_
        refine gf_0_1 G dX6_isSeen_17 lf6_18 (by first | assumption | decide) ?_
        refine gf_6_0 G dX6_isSeen_20 lf6_166 (by first | assumption | decide) ?_
        refine j_iload_n G dX6_isSeen_23 rfl ?_
        refine al_7 G dX6_isSeen_24 (by first | assumption | decide) (by omega) (by omega) ?_
        refine j_iload_n G dX6_isSeen_25 rfl ?_
        refine al_8 G dX6_isSeen_26 (by first | assumption | decide) (by omega) (by omega) ?_
        refine j_cVI G cvX4_isSeen ml6_330 (c_X4_isSeen hi (by first | assumption | omega | decide) (by first | assumption | omega | decide) (by first | assumption | omega | decide)) dX6_isSeen_27 ⟨by decide, by decide⟩ ⟨by decide, by decide⟩ rfl rfl (Nat.le_of_ble_eq_true rfl) (by first | assumption | decide) rfl rfl rfl (fun r27 h27 => ?_)
        rw [hte.e_seenT, e8] at h27
        refine j_if_ne G 35 dX6_isSeen_30 (by decide) (by omega) (fun c30 => ?_) (fun c30 => ?_)
        · refine j_iinc G dX6_isSeen_35 rfl (by decide) rfl ?_
          refine j_goto G 2 dX6_isSeen_38 (by decide) ?_
          refine ih (a + 1) (by omega) (by omega) (by omega) (fun d d0 d1 => ?_)
          by_cases e : d = a
          · subst e
            rcases h27 with w | w
            · exact w.2
            · omega
          · exact h3 d d0 (by omega)
        · refine j_iconst G dX6_isSeen_33 ?_
          refine jr_B G hQ hr dX6_isSeen_34 (by decide) (by decide) (by omega) ?_
          refine Or.inr ⟨rfl, fun hs => ?_⟩
          rcases h27 with w | w
          · omega
          · exact w.2 (hs a h0 (by omega))
  refine j_iconst G dX6_isSeen_0 ?_
  refine j_istore_n G dX6_isSeen_1 (by decide) rfl ?_
  exact loop _ 0 (by omega) (by omega) rfl (fun d d0 d1 => by omega)
set_option maxRecDepth 100000 in
set_option maxHeartbeats 8000000 in
theorem c_X6_isPointOfLeaves {l : Launch} {D : va_G} {cys : Nat → ClassId} {ad : Nat → Int → Nat} {L : List Nat} {g : Nat → va_E} {X : Int64} {Z : ZT} (hi : injA ad) {S : ZT} (hS : SP S Z) (hW : WF S) : CM l D cys ad yX6_isPointOfLeaves cX6_isPointOfLeaves 2 (some .boolean) 2 42 0 0 [.ref (ad 0 0)] L g X Z (PI L g X Z (fun r => (r = 1 ∧ 0 < S 0 0 5 ∧ ∀ d, 0 ≤ d → d < S 0 0 5 → S 4 d (S 2 d 5) = S 2 d 3) ∨ (r = 0 ∧ ¬ (0 < S 0 0 5 ∧ ∀ d, 0 ≤ d → d < S 0 0 5 → S 4 d (S 2 d 5) = S 2 d 3)))) := by
  refine cm_start hi (by decide +kernel) (Nat.le_of_ble_eq_true rfl) ?_
  intro p_ e_ s_ m_ args_ below_ meth_ c_ A_ Q_ hQ G hr hin
  have e0 := hS.1 0 rfl
  have e05 : Z 0 0 5 = S 0 0 5 := by rw [e0]
  have hn := hW.n
  have loop : ∀ (n : Nat) (a : Int), 0 ≤ a → a ≤ S 0 0 5 → (S 0 0 5 - a).toNat = n → (∀ d, 0 ≤ d → d < a → S 4 d (S 2 d 5) = S 2 d 3) → JJ p_ l e_ { frames := 2, cells := 0, slots := 0, locals := 42 } s_ m_ args_ below_ meth_ c_ D cys ad A_ Q_ 2 0 0 L g X Z 2 [(0, .ref (ad 0 0)), (1, .int (iI a))] [] := by
    intro n
    induction n with
    | zero =>
      intro a h0 h1 h2 h3
      have h3' : ∀ d, 0 ≤ d → d < S 0 0 5 → S 4 d (S 2 d 5) = S 2 d 3 := fun d d0 d1 => h3 d d0 (by omega)
      refine j_iload_n G dX6_isPointOfLeaves_2 rfl ?_
      refine j_aload_n G dX6_isPointOfLeaves_3 rfl ?_
      refine gf_0_5 G dX6_isPointOfLeaves_4 lf6_66 (by first | assumption | decide) ?_
      refine j_icmp_ge G 39 dX6_isPointOfLeaves_7 (by decide) (by omega) (by omega) (fun c7 => ?_) (fun c7 => ?_)
      · refine j_aload_n G dX6_isPointOfLeaves_39 rfl ?_
        refine gf_0_5 G dX6_isPointOfLeaves_40 lf6_66 (by first | assumption | decide) ?_
        refine j_if_le G 50 dX6_isPointOfLeaves_43 (by decide) (by omega) (fun c43 => ?_) (fun c43 => ?_)
        · refine j_iconst G dX6_isPointOfLeaves_50 ?_
          refine jr_B G hQ hr dX6_isPointOfLeaves_51 (by decide) (by decide) (by omega) ?_
          first
          | exact Or.inl ⟨rfl, by omega, h3'⟩
          | (exact Or.inr ⟨rfl, fun w => by omega⟩)
        · refine j_iconst G dX6_isPointOfLeaves_46 ?_
          refine j_goto G 51 dX6_isPointOfLeaves_47 (by decide) ?_
          refine jr_B G hQ hr dX6_isPointOfLeaves_51 (by decide) (by decide) (by omega) ?_
          first
          | exact Or.inl ⟨rfl, by omega, h3'⟩
          | (exact Or.inr ⟨rfl, fun w => by omega⟩)
      · exfalso; omega
    | succ n ih =>
      intro a h0 h1 h2 h3
      have ht := hW.t h0 (by omega : a < S 0 0 5)
      have hte := TE.of hS a
      have hTZ := hte.ok ht
      have hv2 : vd 2 a := ⟨h0, show a < 4 by omega⟩
      have ht1 := hTZ.1
      have e2 : Z 2 = S 2 := hS.1 2 rfl
      have e4 : Z 4 = S 4 := hS.1 4 rfl
      have hpt : inR (Z 2 a 5) := by omega
      refine j_iload_n G dX6_isPointOfLeaves_2 rfl ?_
      refine j_aload_n G dX6_isPointOfLeaves_3 rfl ?_
      refine gf_0_5 G dX6_isPointOfLeaves_4 lf6_66 (by first | assumption | decide) ?_
      refine j_icmp_ge G 39 dX6_isPointOfLeaves_7 (by decide) (by omega) (by omega) (fun c7 => ?_) (fun c7 => ?_)
      · exfalso; omega
      · refine j_aload_n G dX6_isPointOfLeaves_10 rfl ?_
        refine gf_0_0 G dX6_isPointOfLeaves_11 lf6_11 (by first | assumption | decide) ?_
        refine j_iload_n G dX6_isPointOfLeaves_14 rfl ?_
        refine al_1 G dX6_isPointOfLeaves_15 (by first | assumption | decide) (by omega) (by omega) ?_
        refine j_aload_n G dX6_isPointOfLeaves_16 rfl ?_
        refine gf_0_0 G dX6_isPointOfLeaves_17 lf6_11 (by first | assumption | decide) ?_
        refine j_iload_n G dX6_isPointOfLeaves_20 rfl ?_
        refine al_1 G dX6_isPointOfLeaves_21 (by first | assumption | decide) (by omega) (by omega) ?_
        refine gf_2_5 G dX6_isPointOfLeaves_22 lf6_150 (by first | assumption | decide) ?_
        refine j_cVI G cvX4_isLeaf ml6_86 (c_X4_isLeaf hi (by first | assumption | omega | decide) (by first | assumption | omega | decide) (by first | assumption | omega | decide)) dX6_isPointOfLeaves_25 ⟨by decide, by decide⟩ ⟨by decide, by decide⟩ rfl rfl (Nat.le_of_ble_eq_true rfl) (by first | assumption | decide) rfl rfl rfl (fun r25 h25 => ?_)
        have h25' : (r25 = 1 ∧ S 4 a (S 2 a 5) = S 2 a 3) ∨ (r25 = 0 ∧ ¬ S 4 a (S 2 a 5) = S 2 a 3) := by
          rw [e2, e4] at h25
          rw [e2] at ht1
          omega
        refine j_if_ne G 33 dX6_isPointOfLeaves_28 (by decide) (by omega) (fun c28 => ?_) (fun c28 => ?_)
        · refine j_iinc G dX6_isPointOfLeaves_33 rfl (by decide) rfl ?_
          refine j_goto G 2 dX6_isPointOfLeaves_36 (by decide) ?_
          refine ih (a + 1) (by omega) (by omega) (by omega) (fun d d0 d1 => ?_)
          by_cases e : d = a
          · subst e; omega
          · exact h3 d d0 (by omega)
        · refine j_iconst G dX6_isPointOfLeaves_31 ?_
          refine jr_B G hQ hr dX6_isPointOfLeaves_32 (by decide) (by decide) (by omega) ?_
          exact Or.inr ⟨rfl, fun w => by have := w.2 a h0 (by omega); omega⟩
  refine j_iconst G dX6_isPointOfLeaves_0 ?_
  refine j_istore_n G dX6_isPointOfLeaves_1 (by decide) rfl ?_
  exact loop _ 0 (by omega) (by omega) rfl (fun d d0 d1 => by omega)
set_option maxRecDepth 100000 in
set_option maxHeartbeats 8000000 in
theorem c_X6_bitsBehind {l : Launch} {D : va_G} {cys : Nat → ClassId} {ad : Nat → Int → Nat} {L : List Nat} {g : Nat → va_E} {X : Int64} {Z : ZT} (hi : injA ad) {d : Int}  : CM l D cys ad yX6_bitsBehind cX6_bitsBehind 1 (some .int) 0 0 0 0 [.int (iI d)] L g X Z (PI L g X Z (fun r => r = (3 - d) * 2)) := by
  refine cm_start hi (by decide +kernel) (Nat.le_of_ble_eq_true rfl) ?_
  intro p_ e_ s_ m_ args_ below_ meth_ c_ A_ Q_ hQ G hr hin
  refine j_iconst G dX6_bitsBehind_0 ?_
  refine j_iload_n G dX6_bitsBehind_1 rfl ?_
  refine j_isub G dX6_bitsBehind_2 ?_
  refine j_iconst G dX6_bitsBehind_3 ?_
  refine j_imul G dX6_bitsBehind_4 ?_
  refine jr_I G hQ hr dX6_bitsBehind_5 (by decide) (by decide) ?_
  first | omega | (refine ⟨?_, ?_⟩ <;> (try intros) <;> first | rfl | omega | (exfalso; omega)) | simp
set_option maxRecDepth 100000 in
set_option maxHeartbeats 8000000 in
theorem c_X6_levelIn {l : Launch} {D : va_G} {cys : Nat → ClassId} {ad : Nat → Int → Nat} {L : List Nat} {g : Nat → va_E} {X : Int64} {Z : ZT} (hi : injA ad) {q d : Int} (hq : 0 ≤ q ∧ q < 256) (hd4 : 0 ≤ d ∧ d < 4) : CM l D cys ad yX6_levelIn cX6_levelIn 2 (some .int) 1 20 0 0 [.int (iI q), .int (iI d)] L g X Z (PI L g X Z (fun r => r = lvl q d)) := by
  refine cm_start hi (by decide +kernel) (Nat.le_of_ble_eq_true rfl) ?_
  intro p_ e_ s_ m_ args_ below_ meth_ c_ A_ Q_ hQ G hr hin
  obtain ⟨z, z0, z1, z2, z3⟩ := shr_lvl hq.1 hq.2 hd4.1 hd4.2
  refine j_iload_n G dX6_levelIn_0 rfl ?_
  refine j_iload_n G dX6_levelIn_1 rfl ?_
  refine j_cSI G csX6_bitsBehind ml6_255 rfl (c_X6_bitsBehind hi ) dX6_levelIn_2 ⟨by decide, by decide⟩ ⟨by decide, by decide⟩ rfl rfl (Nat.le_of_ble_eq_true rfl) (fun r2 h2 => ?_)
  rw [h2]
  refine j_ishr G dX6_levelIn_5 z2 ?_
  refine j_iconst G dX6_levelIn_6 ?_
  refine j_iand G dX6_levelIn_7 z3 ?_
  refine jr_I G hQ hr dX6_levelIn_8 (by decide) (by decide) ?_
  first | omega | (refine ⟨?_, ?_⟩ <;> (try intros) <;> first | rfl | omega | (exfalso; omega)) | simp
set_option maxRecDepth 100000 in
set_option maxHeartbeats 8000000 in
theorem c_X6_reach {l : Launch} {D : va_G} {cys : Nat → ClassId} {ad : Nat → Int → Nat} {L : List Nat} {g : Nat → va_E} {X : Int64} {Z : ZT} (hi : injA ad) {q b : Int} (hq : 0 ≤ q ∧ q < 256) (hb : 0 ≤ b ∧ b < 256) : CM l D cys ad yX6_reach cX6_reach 3 (some .boolean) 0 0 0 0 [.int (iI q), .int (iI b)] L g X Z (PI L g X Z (fun r => (r = 1 ∧ reachP q b) ∨ (r = 0 ∧ ¬ reachP q b))) := by
  refine cm_start hi (by decide +kernel) (Nat.le_of_ble_eq_true rfl) ?_
  intro p_ e_ s_ m_ args_ below_ meth_ c_ A_ Q_ hQ G hr hin
  have hone : ∀ j : Nat, j < 4 → ((lvl q (3 - j) * 4 ^ j < lvl b (3 - j) * 4 ^ j) ↔ lvl q (3 - j) < lvl b (3 - j)) := by
    intro j hj
    rcases (show j = 0 ∨ j = 1 ∨ j = 2 ∨ j = 3 by omega) with rfl | rfl | rfl | rfl <;> simp <;> omega
  have hbd : ∀ (x : Int) (j : Nat), j < 4 → inR (lvl x (3 - j) * 4 ^ j) := by
    intro x j hj
    have := lvl_in x (3 - j)
    rcases (show j = 0 ∨ j = 1 ∨ j = 2 ∨ j = 3 by omega) with rfl | rfl | rfl | rfl <;> simp at this ⊢ <;> omega
  have loop : ∀ (n j : Nat), j + n = 4 → (∀ i : Nat, i < j → lvl b (3 - i) ≤ lvl q (3 - i)) → JJ p_ l e_ { frames := 0, cells := 0, slots := 0, locals := 0 } s_ m_ args_ below_ meth_ c_ D cys ad A_ Q_ 3 0 0 L g X Z 2 [(0, .int (iI q)), (1, .int (iI b)), (2, .int (iI (mk4 j)))] [] := by
    intro n
    induction n with
    | zero =>
      intro j hj h3
      have e : j = 4 := by omega
      subst e
      have hm : mk4 4 = 768 := by decide
      rw [hm]
      refine j_iload_n G dX6_reach_2 rfl ?_
      refine j_sipush G dX6_reach_3 (by decide +kernel) ?_
      refine j_icmp_ge G 27 dX6_reach_6 (by decide) (by omega) (by omega) (fun c6 => ?_) (fun c6 => ?_)
      · refine j_iconst G dX6_reach_27 ?_
        refine jr_B G hQ hr dX6_reach_28 (by decide) (by decide) (by omega) ?_
        refine Or.inl ⟨rfl, ?_, ?_, ?_, ?_⟩
        · exact h3 3 (by decide)
        · exact h3 2 (by decide)
        · exact h3 1 (by decide)
        · exact h3 0 (by decide)
      · exfalso; omega
    | succ n ih =>
      intro j hj h3
      have h1 := and_mk hq.1 hq.2 j (by omega)
      have h2 := and_mk hb.1 hb.2 j (by omega)
      have hb1 := hbd q j (by omega)
      have hb2 := hbd b j (by omega)
      have h0 := hone j (by omega)
      have hm : mk4 j < 256 ∧ 0 < mk4 j ∧ iI (mk4 j) <<< (iI 2 &&& 31) = iI (mk4 (j + 1)) := by
        rcases (show j = 0 ∨ j = 1 ∨ j = 2 ∨ j = 3 by omega) with rfl | rfl | rfl | rfl <;> decide +kernel
      refine j_iload_n G dX6_reach_2 rfl ?_
      refine j_sipush G dX6_reach_3 (by decide +kernel) ?_
      refine j_icmp_ge G 27 dX6_reach_6 (by decide) (by omega) (by omega) (fun c6 => ?_) (fun c6 => ?_)
      · exfalso; omega
      · refine j_iload_n G dX6_reach_9 rfl ?_
        refine j_iload_n G dX6_reach_10 rfl ?_
        refine j_iand G dX6_reach_11 h1 ?_
        refine j_iload_n G dX6_reach_12 rfl ?_
        refine j_iload_n G dX6_reach_13 rfl ?_
        refine j_iand G dX6_reach_14 h2 ?_
        refine j_icmp_ge G 20 dX6_reach_15 (by decide) (by omega) (by omega) (fun c15 => ?_) (fun c15 => ?_)
        · refine j_iload_n G dX6_reach_20 rfl ?_
          refine j_iconst G dX6_reach_21 ?_
          refine j_ishl G dX6_reach_22 hm.2.2 ?_
          refine j_istore_n G dX6_reach_23 (by decide) rfl ?_
          refine j_goto G 2 dX6_reach_24 (by decide) ?_
          refine ih (j + 1) (by omega) (fun i hi => ?_)
          by_cases e : i = j
          · subst e; omega
          · exact h3 i (by omega)
        · refine j_iconst G dX6_reach_18 ?_
          refine jr_B G hQ hr dX6_reach_19 (by decide) (by decide) (by omega) ?_
          refine Or.inr ⟨rfl, fun w => ?_⟩
          have : lvl b (3 - j) ≤ lvl q (3 - j) := by
            rcases (show j = 0 ∨ j = 1 ∨ j = 2 ∨ j = 3 by omega) with rfl | rfl | rfl | rfl
            · exact w.2.2.2
            · exact w.2.2.1
            · exact w.2.1
            · exact w.1
          omega
  refine j_iconst G dX6_reach_0 ?_
  refine j_istore_n G dX6_reach_1 (by decide) rfl ?_
  exact loop 4 0 rfl (fun i hi => by omega)
set_option maxRecDepth 100000 in
set_option maxHeartbeats 8000000 in
theorem c_X6_areLevels {l : Launch} {D : va_G} {cys : Nat → ClassId} {ad : Nat → Int → Nat} {L : List Nat} {g : Nat → va_E} {X : Int64} {Z : ZT} (hi : injA ad) {S : ZT} {q : Int} (hS : SP S Z) (hW : WF S) (hq : 0 ≤ q ∧ q < 256) : CM l D cys ad yX6_areLevels cX6_areLevels 3 (some .boolean) 2 41 0 0 [.ref (ad 0 0), .int (iI q)] L g X Z (PI L g X Z (fun r => (r = 1 ∧ LOK S q) ∨ (r = 0 ∧ ¬ LOK S q))) := by
  refine cm_start hi (by decide +kernel) (Nat.le_of_ble_eq_true rfl) ?_
  intro p_ e_ s_ m_ args_ below_ meth_ c_ A_ Q_ hQ G hr hin
  have loop : ∀ (n : Nat) (a : Int), 0 ≤ a → a ≤ 4 → (4 - a).toNat = n → (∀ d, 0 ≤ d → d < a → lvl q d ≤ S 2 d 3) → JJ p_ l e_ { frames := 2, cells := 0, slots := 0, locals := 41 } s_ m_ args_ below_ meth_ c_ D cys ad A_ Q_ 3 0 0 L g X Z 2 [(0, .ref (ad 0 0)), (1, .int (iI q)), (2, .int (iI a))] [] := by
    intro n
    induction n with
    | zero =>
      intro a h0 h1 h2 h3
      refine j_iload_n G dX6_areLevels_2 rfl ?_
      refine j_iconst G dX6_areLevels_3 ?_
      refine j_icmp_ge G 32 dX6_areLevels_4 (by decide) (by omega) (by omega) (fun c4 => ?_) (fun c4 => ?_)
      · refine j_iconst G dX6_areLevels_32 ?_
        refine jr_B G hQ hr dX6_areLevels_33 (by decide) (by decide) (by omega) ?_
        exact Or.inl ⟨rfl, hq.1, hq.2, fun d d0 d1 => h3 d d0 (by omega)⟩
      · exfalso; omega
    | succ n ih =>
      intro a h0 h1 h2 h3
      have hv2 : vd 2 a := ⟨h0, show a < 4 by omega⟩
      have e23 : Z 2 a 3 = S 2 a 3 := by rw [hS.1 2 rfl]
      have hdp := hW.deep h0 (show a < 4 by omega)
      have hlv := lvl_in q a
      refine j_iload_n G dX6_areLevels_2 rfl ?_
      refine j_iconst G dX6_areLevels_3 ?_
      refine j_icmp_ge G 32 dX6_areLevels_4 (by decide) (by omega) (by omega) (fun c4 => ?_) (fun c4 => ?_)
      · exfalso; omega
      · refine j_iload_n G dX6_areLevels_7 rfl ?_
        refine j_iload_n G dX6_areLevels_8 rfl ?_
        refine j_cSI G csX6_levelIn ml6_252 rfl (c_X6_levelIn hi (by first | assumption | omega | decide) (by first | assumption | omega | decide)) dX6_areLevels_9 ⟨by decide, by decide⟩ ⟨by decide, by decide⟩ rfl rfl (Nat.le_of_ble_eq_true rfl) (fun r9 h9 => ?_)
        refine j_aload_n G dX6_areLevels_12 rfl ?_
        refine gf_0_0 G dX6_areLevels_13 lf6_11 (by first | assumption | decide) ?_
        refine j_iload_n G dX6_areLevels_16 rfl ?_
        refine al_1 G dX6_areLevels_17 (by first | assumption | decide) (by omega) (by omega) ?_
        refine gf_2_3 G dX6_areLevels_18 lf6_322 (by first | assumption | decide) ?_
        refine j_icmp_le G 26 dX6_areLevels_21 (by decide) (by omega) (by omega) (fun c21 => ?_) (fun c21 => ?_)
        · refine j_iinc G dX6_areLevels_26 rfl (by decide) rfl ?_
          refine j_goto G 2 dX6_areLevels_29 (by decide) ?_
          refine ih (a + 1) (by omega) (by omega) (by omega) (fun d d0 d1 => ?_)
          by_cases e : d = a
          · subst e; omega
          · exact h3 d d0 (by omega)
        · refine j_iconst G dX6_areLevels_24 ?_
          refine jr_B G hQ hr dX6_areLevels_25 (by decide) (by decide) (by omega) ?_
          exact Or.inr ⟨rfl, fun w => by have := w.2.2 a h0 (by omega); omega⟩
  refine j_iconst G dX6_areLevels_0 ?_
  refine j_istore_n G dX6_areLevels_1 (by decide) rfl ?_
  exact loop _ 0 (by omega) (by omega) rfl (fun d d0 d1 => by omega)
set_option maxRecDepth 100000 in
set_option maxHeartbeats 8000000 in
theorem c_X6_cellAround {l : Launch} {D : va_G} {cys : Nat → ClassId} {ad : Nat → Int → Nat} {L : List Nat} {g : Nat → va_E} {X : Int64} {Z : ZT} (hi : injA ad) {S : ZT} {k q : Int} (hS : SP S Z) (hW : WF S) (hk : 0 ≤ k ∧ k < S 6 0 3) (hq : 0 ≤ q ∧ q < 256) : CM l D cys ad yX6_cellAround cX6_cellAround 6 (some .int) 2 45 0 0 [.ref (ad 0 0), .int (iI k), .int (iI q)] L g X Z (PI L g X Z (fun r => r = cnF S q k (S 0 0 5).toNat)) := by
  refine cm_start hi (by decide +kernel) (Nat.le_of_ble_eq_true rfl) ?_
  intro p_ e_ s_ m_ args_ below_ meth_ c_ A_ Q_ hQ G hr hin
  have e05 : Z 0 0 5 = S 0 0 5 := by rw [hS.1 0 rfl]
  have hn := hW.n
  have hf := hW.f
  have hfk := hW.fk hk.1 hk.2
  have loop : ∀ (n : Nat) (a b : Int), 0 ≤ a → a ≤ S 0 0 5 → (S 0 0 5 - a).toNat = n → b = cnF S q k a.toNat → JJ p_ l e_ { frames := 2, cells := 0, slots := 0, locals := 45 } s_ m_ args_ below_ meth_ c_ D cys ad A_ Q_ 6 0 0 L g X Z 5 [(0, .ref (ad 0 0)), (1, .int (iI k)), (2, .int (iI q)), (3, .int (iI b)), (4, .int (iI a))] [] := by
    intro n
    induction n with
    | zero =>
      intro a b h0 h1 h2 h3
      have ea : a = S 0 0 5 := by omega
      subst ea
      refine j_iload G dX6_cellAround_5 rfl ?_
      refine j_aload_n G dX6_cellAround_7 rfl ?_
      refine gf_0_5 G dX6_cellAround_8 lf6_66 (by first | assumption | decide) ?_
      refine j_icmp_ge G 58 dX6_cellAround_11 (by decide) (by omega) (by omega) (fun c11 => ?_) (fun c11 => ?_)
      · refine j_iload_n G dX6_cellAround_58 rfl ?_
        refine jr_I G hQ hr dX6_cellAround_59 (by decide) (by decide) ?_
        exact h3
      · exfalso; omega
    | succ n ih =>
      intro a b h0 h1 h2 h3
      have ht := hW.t h0 (by omega : a < S 0 0 5)
      have hte := TE.of hS a
      have hl := hfk.1 a h0 (by omega)
      have hTZ := hte.ok ht
      have hv2 : vd 2 a := ⟨h0, show a < 4 by omega⟩
      have hv8 : vd 8 a := ⟨h0, show a < 4 by omega⟩
      have e8 : Z 8 a k = S 8 a k := by rw [hS.1 8 rfl]
      have e24 : Z 2 a 4 = S 2 a 4 := by rw [hS.1 2 rfl]
      have hlz : 0 ≤ Z 8 a k ∧ Z 8 a k < Z 2 a 4 := by omega
      have hlv := lvl_in q a
      refine j_iload G dX6_cellAround_5 rfl ?_
      refine j_aload_n G dX6_cellAround_7 rfl ?_
      refine gf_0_5 G dX6_cellAround_8 lf6_66 (by first | assumption | decide) ?_
      refine j_icmp_ge G 58 dX6_cellAround_11 (by decide) (by omega) (by omega) (fun c11 => ?_) (fun c11 => ?_)
      · exfalso; omega
      · refine j_aload_n G dX6_cellAround_14 rfl ?_
        refine gf_0_1 G dX6_cellAround_15 lf6_18 (by first | assumption | decide) ?_
        refine gf_6_0 G dX6_cellAround_18 lf6_166 (by first | assumption | decide) ?_
        refine j_iload G dX6_cellAround_21 rfl ?_
        refine al_7 G dX6_cellAround_23 (by first | assumption | decide) (by omega) (by omega) ?_
        refine j_iload_n G dX6_cellAround_24 rfl ?_
        refine al_8 G dX6_cellAround_25 (by first | assumption | decide) (by omega) (by omega) ?_
        refine j_istore G dX6_cellAround_26 (by decide) rfl ?_
        refine j_iload_n G dX6_cellAround_28 rfl ?_
        refine j_bipush G dX6_cellAround_29 (by decide +kernel) ?_
        refine j_imul G dX6_cellAround_31 ?_
        refine j_aload_n G dX6_cellAround_32 rfl ?_
        refine gf_0_0 G dX6_cellAround_33 lf6_11 (by first | assumption | decide) ?_
        refine j_iload G dX6_cellAround_36 rfl ?_
        refine al_1 G dX6_cellAround_38 (by first | assumption | decide) (by omega) (by omega) ?_
        refine j_iload G dX6_cellAround_39 rfl ?_
        refine j_iload_n G dX6_cellAround_41 rfl ?_
        refine j_iload G dX6_cellAround_42 rfl ?_
        refine j_cSI G csX6_levelIn ml6_252 rfl (c_X6_levelIn hi (by first | assumption | omega | decide) (by first | assumption | omega | decide)) dX6_cellAround_44 ⟨by decide, by decide⟩ ⟨by decide, by decide⟩ rfl rfl (Nat.le_of_ble_eq_true rfl) (fun r44 h44 => ?_)
        have hr44 : 0 ≤ r44 ∧ r44 < 1000 := by omega
        refine j_cVI G cvX4_aboveOn ml6_334 (c_X4_aboveOn hi (by first | assumption | omega | decide) (by first | assumption | omega | decide) (by first | assumption | omega | decide) (by first | assumption | omega | decide)) dX6_cellAround_47 ⟨by decide, by decide⟩ ⟨by decide, by decide⟩ rfl rfl (Nat.le_of_ble_eq_true rfl) (by first | assumption | decide) rfl rfl rfl (fun r47 h47 => ?_)
        refine j_iadd G dX6_cellAround_50 ?_
        refine j_istore_n G dX6_cellAround_51 (by decide) rfl ?_
        refine j_iinc G dX6_cellAround_52 rfl (by decide) rfl ?_
        refine j_goto G 5 dX6_cellAround_55 (by decide) ?_
        refine j_keep [0, 1, 2, 3, 4] ?_
        refine ih (a + 1) _ (by omega) (by omega) (by omega) ?_
        rw [show (a + 1).toNat = a.toNat + 1 by omega]
        show _ = cnF S q k a.toNat * 24 + abv S (a.toNat : Int) (S 8 (a.toNat : Int) k) (lvl q (a.toNat : Int))
        rw [Int.toNat_of_nonneg h0, ← h3, h47, h44, hte.e_abv, e8]
  refine j_iconst G dX6_cellAround_0 ?_
  refine j_istore_n G dX6_cellAround_1 (by decide) rfl ?_
  refine j_iconst G dX6_cellAround_2 ?_
  refine j_istore G dX6_cellAround_3 (by decide) rfl ?_
  exact loop _ 0 0 (by omega) (by omega) rfl rfl
set_option maxRecDepth 100000 in
set_option maxHeartbeats 8000000 in
theorem c_X6_cellsOf {l : Launch} {D : va_G} {cys : Nat → ClassId} {ad : Nat → Int → Nat} {L : List Nat} {g : Nat → va_E} {X : Int64} {Z : ZT} (hi : injA ad) {S : ZT} {q : Int} (hS : SP S Z) (hW : WF S) (hq : 0 ≤ q ∧ q < 256) : CM l D cys ad yX6_cellsOf cX6_cellsOf 4 (some .int) 3 70 0 0 [.ref (ad 0 0), .int (iI q)] L g X Z (PIZ L g X Z (fun r Z' => r = CELLS S q ∧ SP S Z')) := by
  refine cm_start hi (by decide +kernel) (Nat.le_of_ble_eq_true rfl) ?_
  intro p_ e_ s_ m_ args_ below_ meth_ c_ A_ Q_ hQ G hr hin
  have hn := hW.n
  have hf := hW.f
  have loop : ∀ (n : Nat) (a b : Int) (Y : ZT), 0 ≤ a → a ≤ S 6 0 3 → (S 6 0 3 - a).toNat = n → SP S Y → (∀ j, 0 ≤ j → j < a → Y 10 0 j = cnF S q j (S 0 0 5).toNat) → b = sumTo (fun k => iv (∀ j, 0 ≤ j → j < k → ¬ sameC S q j k)) a.toNat → JJ p_ l e_ { frames := 3, cells := 0, slots := 0, locals := 70 } s_ m_ args_ below_ meth_ c_ D cys ad A_ Q_ 4 0 0 L g X Y 4 [(0, .ref (ad 0 0)), (1, .int (iI q)), (2, .int (iI b)), (3, .int (iI a))] [] := by
    intro n
    induction n with
    | zero =>
      intro a b Y h0 h1 h2 h3 h4 h5
      have e63 : Y 6 0 3 = S 6 0 3 := by rw [h3.1 6 rfl]
      have ea : a = S 6 0 3 := by omega
      subst ea
      refine j_iload_n G dX6_cellsOf_4 rfl ?_
      refine j_aload_n G dX6_cellsOf_5 rfl ?_
      refine gf_0_1 G dX6_cellsOf_6 lf6_18 (by first | assumption | decide) ?_
      refine gf_6_3 G dX6_cellsOf_9 lf6_160 (by first | assumption | decide) ?_
      refine j_icmp_ge G 50 dX6_cellsOf_12 (by decide) (by omega) (by omega) (fun c12 => ?_) (fun c12 => ?_)
      · refine j_iload_n G dX6_cellsOf_50 rfl ?_
        refine jr_IZ G hQ hr dX6_cellsOf_51 (by decide) (by decide) ?_
        exact ⟨h5, h3⟩
      · exfalso; omega
    | succ n ih =>
      intro a b Y h0 h1 h2 h3 h4 h5
      have e63 : Y 6 0 3 = S 6 0 3 := by rw [h3.1 6 rfl]
      have ha : 0 ≤ a ∧ a < S 6 0 3 := by omega
      have hcb : ∀ j, 0 ≤ j → j < S 6 0 3 → 0 ≤ cnF S q j (S 0 0 5).toNat ∧ cnF S q j (S 0 0 5).toNat < 331777 := by
        intro j j0 j1
        have := cnF_bd hW (L := q) j0 j1 (S 0 0 5).toNat (by omega)
        refine ⟨this.1, Int.lt_of_lt_of_le this.2 ?_⟩
        rcases (show (S 0 0 5).toNat = 0 ∨ (S 0 0 5).toNat = 1 ∨ (S 0 0 5).toNat = 2 ∨ (S 0 0 5).toNat = 3 ∨ (S 0 0 5).toNat = 4 by omega) with e | e | e | e | e <;> rw [e] <;> decide
      have hS26 : ∀ v, SP S (zS Y 10 0 a v) := fun v => ⟨fun k hk => by rw [zS_k (by rintro rfl; cases hk)]; exact h3.1 k hk, fun i => by rw [zS_k (by decide)]; exact h3.2 i⟩
      have h10 : ∀ v j, zS Y 10 0 a v 10 0 j = if j = a then v else Y 10 0 j := fun v j => zS_v
      have hvals : ∀ j, 0 ≤ j → j < a + 1 → zS Y 10 0 a (cnF S q a (S 0 0 5).toNat) 10 0 j = cnF S q j (S 0 0 5).toNat := by
        intro j j0 j1
        rw [h10]
        split
        · rename_i e; rw [e]
        · exact h4 j j0 (by omega)
      have hsum := sumTo_s (f := fun k => iv (∀ j, 0 ≤ j → j < k → ¬ sameC S q j k)) h0
      have hiff : ∀ j, 0 ≤ j → j < a → (cnF S q j (S 0 0 5).toNat = cnF S q a (S 0 0 5).toNat ↔ sameC S q j a) := by
        intro j j0 j1
        have := cnF_inj hW (L := q) j0 (by omega) h0 ha.2 (S 0 0 5).toNat (by omega)
        rw [Int.toNat_of_nonneg hn.1] at this
        exact this
      refine j_iload_n G dX6_cellsOf_4 rfl ?_
      refine j_aload_n G dX6_cellsOf_5 rfl ?_
      refine gf_0_1 G dX6_cellsOf_6 lf6_18 (by first | assumption | decide) ?_
      refine gf_6_3 G dX6_cellsOf_9 lf6_160 (by first | assumption | decide) ?_
      refine j_icmp_ge G 50 dX6_cellsOf_12 (by decide) (by omega) (by omega) (fun c12 => ?_) (fun c12 => ?_)
      · exfalso; omega
      · refine j_aload_n G dX6_cellsOf_15 rfl ?_
        refine gf_0_1 G dX6_cellsOf_16 lf6_18 (by first | assumption | decide) ?_
        refine gf_6_2 G dX6_cellsOf_19 lf6_377 (by first | assumption | decide) ?_
        refine j_iload_n G dX6_cellsOf_22 rfl ?_
        refine j_aload_n G dX6_cellsOf_23 rfl ?_
        refine j_iload_n G dX6_cellsOf_24 rfl ?_
        refine j_iload_n G dX6_cellsOf_25 rfl ?_
        refine j_cVI G cvX6_cellAround ml6_380 (c_X6_cellAround hi (by first | assumption | omega | decide) (by first | assumption | omega | decide) (by first | assumption | omega | decide) (by first | assumption | omega | decide)) dX6_cellsOf_26 ⟨by decide, by decide⟩ ⟨by decide, by decide⟩ rfl rfl (Nat.le_of_ble_eq_true rfl) (by first | assumption | decide) rfl rfl rfl (fun r26 h26 => ?_)
        rw [h26]
        refine as_10 G dX6_cellsOf_29 (by first | assumption | decide) (by omega) (by omega) ?_
        refine j_aload_n G dX6_cellsOf_30 rfl ?_
        refine gf_0_1 G dX6_cellsOf_31 lf6_18 (by first | assumption | decide) ?_
        refine j_iload_n G dX6_cellsOf_34 rfl ?_
        refine j_cVI G cvX1_isFirstOfItsCell ml6_383 (c_X1_isFirstOfItsCell hi (by omega) (fun j j0 j1 => by rw [hvals j j0 (by omega)]; have := hcb j j0 (by omega); omega)) dX6_cellsOf_35 ⟨by decide, by decide⟩ ⟨by decide, by decide⟩ rfl rfl (Nat.le_of_ble_eq_true rfl) (by first | assumption | decide) rfl rfl rfl (fun r35 h35 => ?_)
        have h35' : (r35 = 1 ∧ (∀ j, 0 ≤ j → j < a → ¬ sameC S q j a)) ∨ (r35 = 0 ∧ ¬ (∀ j, 0 ≤ j → j < a → ¬ sameC S q j a)) := by
          rcases h35 with ⟨w, w2⟩ | ⟨w, j, j0, j1, j2⟩
          · refine Or.inl ⟨w, fun j j0 j1 => fun z => w2 j j0 j1 ?_⟩
            rw [hvals j j0 (by omega), hvals a h0 (by omega)]
            exact (hiff j j0 j1).mpr z
          · refine Or.inr ⟨w, fun z => z j j0 j1 ?_⟩
            rw [hvals j j0 (by omega), hvals a h0 (by omega)] at j2
            exact (hiff j j0 j1).mp j2
        clear h35
        refine j_if_eq G 44 dX6_cellsOf_38 (by decide) (by omega) (fun c38 => ?_) (fun c38 => ?_)
        · refine j_iinc G dX6_cellsOf_44 rfl (by decide) rfl ?_
          refine j_goto G 4 dX6_cellsOf_47 (by decide) ?_
          first
          | (refine ih (a + 1) b _ (by omega) (by omega) (by omega) (hS26 _) hvals ?_
             rw [hsum, h5]
             rcases h35' with w | w
             · exfalso; omega
             · rw [iv_f w.2]; omega)
          | (refine ih (a + 1) (b + 1) _ (by omega) (by omega) (by omega) (hS26 _) hvals ?_
             rw [hsum, h5]
             rcases h35' with w | w
             · rw [iv_t w.2]
             · exfalso; omega)
        · refine j_iinc G dX6_cellsOf_41 rfl (by decide) rfl ?_
          refine j_iinc G dX6_cellsOf_44 rfl (by decide) rfl ?_
          refine j_goto G 4 dX6_cellsOf_47 (by decide) ?_
          first
          | (refine ih (a + 1) b _ (by omega) (by omega) (by omega) (hS26 _) hvals ?_
             rw [hsum, h5]
             rcases h35' with w | w
             · exfalso; omega
             · rw [iv_f w.2]; omega)
          | (refine ih (a + 1) (b + 1) _ (by omega) (by omega) (by omega) (hS26 _) hvals ?_
             rw [hsum, h5]
             rcases h35' with w | w
             · rw [iv_t w.2]
             · exfalso; omega)
  refine j_iconst G dX6_cellsOf_0 ?_
  refine j_istore_n G dX6_cellsOf_1 (by decide) rfl ?_
  refine j_iconst G dX6_cellsOf_2 ?_
  refine j_istore_n G dX6_cellsOf_3 (by decide) rfl ?_
  exact loop _ 0 0 Z (by omega) (by omega) rfl hS (fun j a b => by omega) rfl
set_option maxRecDepth 100000 in
set_option maxHeartbeats 8000000 in
theorem c_X6_viewFor {l : Launch} {D : va_G} {cys : Nat → ClassId} {ad : Nat → Int → Nat} {L : List Nat} {g : Nat → va_E} {X : Int64} {Z : ZT} (hi : injA ad) {S : ZT} {q : Int} (hS : SP S Z) (hW : WF S) (hq : 0 ≤ q ∧ q < 256) : CM l D cys ad yX6_viewFor cX6_viewFor 5 (some .int) 1 22 0 0 [.ref (ad 0 0), .int (iI q)] L g X Z (PI L g X Z (fun r => r = VFOR S q)) := by
  refine cm_start hi (by decide +kernel) (Nat.le_of_ble_eq_true rfl) ?_
  intro p_ e_ s_ m_ args_ below_ meth_ c_ A_ Q_ hQ G hr hin
  have hv := hW.v
  have hf := hW.f
  have e63 : Z 6 0 3 = S 6 0 3 := by rw [hS.1 6 rfl]
  have e113 : Z 11 0 3 = S 11 0 3 := by rw [hS.1 11 rfl]
  have loop : ∀ (n : Nat) (a b c : Int), 0 ≤ a → a ≤ S 11 0 3 → (S 11 0 3 - a).toNat = n → b = vfF S q a.toNat → c = prc S b → JJ p_ l e_ { frames := 1, cells := 0, slots := 0, locals := 22 } s_ m_ args_ below_ meth_ c_ D cys ad A_ Q_ 5 0 0 L g X Z 13 [(0, .ref (ad 0 0)), (1, .int (iI q)), (2, .int (iI b)), (3, .int (iI c)), (4, .int (iI a))] [] := by
    intro n
    induction n with
    | zero =>
      intro a b c h0 h1 h2 h3 h4
      have ea : a = S 11 0 3 := by omega
      subst ea
      refine j_iload G dX6_viewFor_13 rfl ?_
      refine j_aload_n G dX6_viewFor_15 rfl ?_
      refine gf_0_2 G dX6_viewFor_16 lf6_25 (by first | assumption | decide) ?_
      refine gf_11_3 G dX6_viewFor_19 lf6_261 (by first | assumption | decide) ?_
      refine j_icmp_ge G 89 dX6_viewFor_22 (by decide) (by omega) (by omega) (fun c22 => ?_) (fun c22 => ?_)
      · refine j_iload_n G dX6_viewFor_89 rfl ?_
        refine jr_I G hQ hr dX6_viewFor_90 (by decide) (by decide) ?_
        exact h3
      · exfalso; omega
    | succ n ih =>
      intro a b c h0 h1 h2 h3 h4
      have hvw := hW.vw h0 (by omega : a < S 11 0 3)
      have hst := hW.st h0 (by omega : a < 6)
      have e12 : Z 12 0 a = S 12 0 a := by rw [hS.1 12 rfl]
      have e13 : Z 13 0 a = S 13 0 a := by rw [hS.1 13 rfl]
      have e14 : Z 14 0 a = S 14 0 a := by rw [hS.1 14 rfl]
      have hc : inR c := by
        have a1 := vfF_in S q a.toNat
        rw [← h3] at a1
        rw [h4]; unfold prc
        split
        · omega
        · have := hW.vw (v := b) (by omega) (by omega)
          omega
      have hl : 0 ≤ Z 12 0 a ∧ Z 12 0 a < 256 := by
        have := hvw.1.1
        have := hvw.1.2.1
        omega
      have hstep : vfF S q (a + 1).toNat = @ite _ (S 13 0 a < prc S b ∧ S 14 0 a = 0 ∧ reachP (S 12 0 a) q) (Classical.propDecidable _) a b := by
        rw [show (a + 1).toNat = a.toNat + 1 by omega]
        show @ite _ (S 13 0 (a.toNat : Int) < prc S (vfF S q a.toNat) ∧ S 14 0 (a.toNat : Int) = 0 ∧ reachP (S 12 0 (a.toNat : Int)) q) (Classical.propDecidable _) (a.toNat : Int) (vfF S q a.toNat) = _
        rw [Int.toNat_of_nonneg h0, ← h3]
      refine j_iload G dX6_viewFor_13 rfl ?_
      refine j_aload_n G dX6_viewFor_15 rfl ?_
      refine gf_0_2 G dX6_viewFor_16 lf6_25 (by first | assumption | decide) ?_
      refine gf_11_3 G dX6_viewFor_19 lf6_261 (by first | assumption | decide) ?_
      refine j_icmp_ge G 89 dX6_viewFor_22 (by decide) (by omega) (by omega) (fun c22 => ?_) (fun c22 => ?_)
      · exfalso; omega
      · refine j_aload_n G dX6_viewFor_25 rfl ?_
        refine gf_0_2 G dX6_viewFor_26 lf6_25 (by first | assumption | decide) ?_
        refine gf_11_1 G dX6_viewFor_29 lf6_274 (by first | assumption | decide) ?_
        refine j_iload G dX6_viewFor_32 rfl ?_
        refine al_13 G dX6_viewFor_34 (by first | assumption | decide) (by omega) (by omega) ?_
        refine j_iload_n G dX6_viewFor_35 rfl ?_
        refine j_icmp_ge G 83 dX6_viewFor_36 (by decide) (by omega) (by omega) (fun c36 => ?_) (fun c36 => ?_)
        · refine j_iinc G dX6_viewFor_83 rfl (by decide) rfl ?_
          refine j_goto G 13 dX6_viewFor_86 (by decide) ?_
          first
          | (refine ih (a + 1) b c (by omega) (by omega) (by omega) ?_ h4
             rw [hstep, if_neg]
             rintro ⟨w1, w2, w3⟩
             first
             | (exfalso; omega)
             | (rw [e12] at h63
                rcases h63 with w | w
                · omega
                · exact w.2 w3))
          | (refine ih (a + 1) a _ (by omega) (by omega) (by omega) ?_ ?_
             · rw [hstep, if_pos]
               rw [e12] at h63
               rcases h63 with w | w
               · exact ⟨by omega, by omega, w.2⟩
               · omega
             · unfold prc
               rw [if_neg (by omega)]; exact e13)
        · refine j_aload_n G dX6_viewFor_39 rfl ?_
          refine gf_0_2 G dX6_viewFor_40 lf6_25 (by first | assumption | decide) ?_
          refine gf_11_2 G dX6_viewFor_43 lf6_277 (by first | assumption | decide) ?_
          refine j_iload G dX6_viewFor_46 rfl ?_
          refine al_14 G dX6_viewFor_48 (by first | assumption | decide) (by omega) (by omega) ?_
          refine j_if_ne G 83 dX6_viewFor_49 (by decide) (by omega) (fun c49 => ?_) (fun c49 => ?_)
          · refine j_iinc G dX6_viewFor_83 rfl (by decide) rfl ?_
            refine j_goto G 13 dX6_viewFor_86 (by decide) ?_
            first
            | (refine ih (a + 1) b c (by omega) (by omega) (by omega) ?_ h4
               rw [hstep, if_neg]
               rintro ⟨w1, w2, w3⟩
               first
               | (exfalso; omega)
               | (rw [e12] at h63
                  rcases h63 with w | w
                  · omega
                  · exact w.2 w3))
            | (refine ih (a + 1) a _ (by omega) (by omega) (by omega) ?_ ?_
               · rw [hstep, if_pos]
                 rw [e12] at h63
                 rcases h63 with w | w
                 · exact ⟨by omega, by omega, w.2⟩
                 · omega
               · unfold prc
                 rw [if_neg (by omega)]; exact e13)
          · refine j_aload_n G dX6_viewFor_52 rfl ?_
            refine gf_0_2 G dX6_viewFor_53 lf6_25 (by first | assumption | decide) ?_
            refine gf_11_0 G dX6_viewFor_56 lf6_264 (by first | assumption | decide) ?_
            refine j_iload G dX6_viewFor_59 rfl ?_
            refine al_12 G dX6_viewFor_61 (by first | assumption | decide) (by omega) (by omega) ?_
            refine j_iload_n G dX6_viewFor_62 rfl ?_
            refine j_cSI G csX6_reach ml6_389 rfl (c_X6_reach hi (by first | assumption | omega | decide) (by first | assumption | omega | decide)) dX6_viewFor_63 ⟨by decide, by decide⟩ ⟨by decide, by decide⟩ rfl rfl (Nat.le_of_ble_eq_true rfl) (fun r63 h63 => ?_)
            refine j_if_eq G 83 dX6_viewFor_66 (by decide) (by omega) (fun c66 => ?_) (fun c66 => ?_)
            · refine j_iinc G dX6_viewFor_83 rfl (by decide) rfl ?_
              refine j_goto G 13 dX6_viewFor_86 (by decide) ?_
              first
              | (refine ih (a + 1) b c (by omega) (by omega) (by omega) ?_ h4
                 rw [hstep, if_neg]
                 rintro ⟨w1, w2, w3⟩
                 first
                 | (exfalso; omega)
                 | (rw [e12] at h63
                    rcases h63 with w | w
                    · omega
                    · exact w.2 w3))
              | (refine ih (a + 1) a _ (by omega) (by omega) (by omega) ?_ ?_
                 · rw [hstep, if_pos]
                   rw [e12] at h63
                   rcases h63 with w | w
                   · exact ⟨by omega, by omega, w.2⟩
                   · omega
                 · unfold prc
                   rw [if_neg (by omega)]; exact e13)
            · refine j_iload G dX6_viewFor_69 rfl ?_
              refine j_istore_n G dX6_viewFor_71 (by decide) rfl ?_
              refine j_aload_n G dX6_viewFor_72 rfl ?_
              refine gf_0_2 G dX6_viewFor_73 lf6_25 (by first | assumption | decide) ?_
              refine gf_11_1 G dX6_viewFor_76 lf6_274 (by first | assumption | decide) ?_
              refine j_iload G dX6_viewFor_79 rfl ?_
              refine al_13 G dX6_viewFor_81 (by first | assumption | decide) (by omega) (by omega) ?_
              refine j_istore_n G dX6_viewFor_82 (by decide) rfl ?_
              refine j_iinc G dX6_viewFor_83 rfl (by decide) rfl ?_
              refine j_goto G 13 dX6_viewFor_86 (by decide) ?_
              first
              | (refine ih (a + 1) b c (by omega) (by omega) (by omega) ?_ h4
                 rw [hstep, if_neg]
                 rintro ⟨w1, w2, w3⟩
                 first
                 | (exfalso; omega)
                 | (rw [e12] at h63
                    rcases h63 with w | w
                    · omega
                    · exact w.2 w3))
              | (refine ih (a + 1) a _ (by omega) (by omega) (by omega) ?_ ?_
                 · rw [hstep, if_pos]
                   rw [e12] at h63
                   rcases h63 with w | w
                   · exact ⟨by omega, by omega, w.2⟩
                   · omega
                 · unfold prc
                   rw [if_neg (by omega)]; exact e13)
  refine j_iconst G dX6_viewFor_0 ?_
  refine j_istore_n G dX6_viewFor_1 (by decide) rfl ?_
  refine j_aload_n G dX6_viewFor_2 rfl ?_
  refine gf_0_1 G dX6_viewFor_3 lf6_18 (by first | assumption | decide) ?_
  refine gf_6_3 G dX6_viewFor_6 lf6_160 (by first | assumption | decide) ?_
  refine j_istore_n G dX6_viewFor_9 (by decide) rfl ?_
  refine j_iconst G dX6_viewFor_10 ?_
  refine j_istore G dX6_viewFor_11 (by decide) rfl ?_
  exact loop _ 0 (-1) _ (by omega) (by omega) rfl rfl (by unfold prc; rw [if_pos rfl]; exact e63)
set_option maxRecDepth 100000 in
set_option maxHeartbeats 8000000 in
theorem c_X6_costOf {l : Launch} {D : va_G} {cys : Nat → ClassId} {ad : Nat → Int → Nat} {L : List Nat} {g : Nat → va_E} {X : Int64} {Z : ZT} (hi : injA ad) {S : ZT} {q : Int} (hS : SP S Z) (hW : WF S) (hq : 0 ≤ q ∧ q < 256) : CM l D cys ad yX6_costOf cX6_costOf 3 (some .int) 2 46 0 0 [.ref (ad 0 0), .int (iI q)] L g X Z (PI L g X Z (fun r => r = COST S q)) := by
  refine cm_start hi (by decide +kernel) (Nat.le_of_ble_eq_true rfl) ?_
  intro p_ e_ s_ m_ args_ below_ meth_ c_ A_ Q_ hQ G hr hin
  have hv := hW.v
  have hf := hW.f
  have e63 : Z 6 0 3 = S 6 0 3 := by rw [hS.1 6 rfl]
  have e113 : Z 11 0 3 = S 11 0 3 := by rw [hS.1 11 rfl]
  have hvi := vfF_in S q (S 11 0 3).toNat
  have e13 : Z 13 = S 13 := hS.1 13 rfl
  have hpr : ∀ b, b = -1 → prc S b = S 6 0 3 := fun b e => by unfold prc; rw [if_pos e]
  have hpr2 : ∀ b, b ≠ -1 → prc S b = S 13 0 b := fun b e => by unfold prc; rw [if_neg e]
  refine j_aload_n G dX6_costOf_0 rfl ?_
  refine j_iload_n G dX6_costOf_1 rfl ?_
  refine j_cVI G cvX6_viewFor ml6_283 (c_X6_viewFor hi (by first | assumption | omega | decide) (by first | assumption | omega | decide) (by first | assumption | omega | decide)) dX6_costOf_2 ⟨by decide, by decide⟩ ⟨by decide, by decide⟩ rfl rfl (Nat.le_of_ble_eq_true rfl) (by first | assumption | decide) rfl rfl rfl (fun r2 h2 => ?_)
  have hr2 : -1 ≤ r2 ∧ r2 < S 11 0 3 := by
    unfold VFOR at h2
    omega
  have hir2 : inR r2 := by omega
  have hp1 := hpr r2
  have hp2 := hpr2 r2
  refine j_istore_n G dX6_costOf_5 (by decide) rfl ?_
  refine j_aload_n G dX6_costOf_6 rfl ?_
  refine gf_0_2 G dX6_costOf_7 lf6_25 (by first | assumption | decide) ?_
  refine j_iload_n G dX6_costOf_10 rfl ?_
  refine j_cVI G cvX5_has ml6_386 (c_X5_has hi (by first | assumption | omega | decide) (by first | assumption | omega | decide)) dX6_costOf_11 ⟨by decide, by decide⟩ ⟨by decide, by decide⟩ rfl rfl (Nat.le_of_ble_eq_true rfl) (by first | assumption | decide) rfl rfl rfl (fun r11 h11 => ?_)
  refine j_if_eq G 29 dX6_costOf_14 (by decide) (by omega) (fun c14 => ?_) (fun c14 => ?_)
  · refine j_aload_n G dX6_costOf_29 rfl ?_
    refine gf_0_1 G dX6_costOf_30 lf6_18 (by first | assumption | decide) ?_
    refine gf_6_3 G dX6_costOf_33 lf6_160 (by first | assumption | decide) ?_
    refine jr_I G hQ hr dX6_costOf_36 (by decide) (by decide) ?_
    unfold COST
    rw [← h2]
    first
    | (rw [hp2 (by omega), e13])
    | (rw [hp1 (by omega)]; exact e63)
  · refine j_aload_n G dX6_costOf_17 rfl ?_
    refine gf_0_2 G dX6_costOf_18 lf6_25 (by first | assumption | decide) ?_
    refine gf_11_1 G dX6_costOf_21 lf6_274 (by first | assumption | decide) ?_
    refine j_iload_n G dX6_costOf_24 rfl ?_
    refine al_13 G dX6_costOf_25 (by first | assumption | decide) (by omega) (by omega) ?_
    refine j_goto G 36 dX6_costOf_26 (by decide) ?_
    refine jr_I G hQ hr dX6_costOf_36 (by decide) (by decide) ?_
    unfold COST
    rw [← h2]
    first
    | (rw [hp2 (by omega), e13])
    | (rw [hp1 (by omega)]; exact e63)
set_option maxRecDepth 100000 in
set_option maxHeartbeats 8000000 in
theorem c_X6_gainOf {l : Launch} {D : va_G} {cys : Nat → ClassId} {ad : Nat → Int → Nat} {L : List Nat} {g : Nat → va_E} {X : Int64} {Z : ZT} (hi : injA ad) {S : ZT} {q : Int} (hS : SP S Z) (hW : WF S) (hq : 0 ≤ q ∧ q < 256) : CM l D cys ad yX6_gainOf cX6_gainOf 5 (some .int) 4 93 0 0 [.ref (ad 0 0), .int (iI q)] L g X Z (PIZ L g X Z (fun r Z' => r = GAIN S q ∧ SP S Z')) := by
  refine cm_start hi (by decide +kernel) (Nat.le_of_ble_eq_true rfl) ?_
  intro p_ e_ s_ m_ args_ below_ meth_ c_ A_ Q_ hQ G hr hin
  refine j_aload_n G dX6_gainOf_0 rfl ?_
  refine j_iload_n G dX6_gainOf_1 rfl ?_
  refine j_cVIZ G cvX6_cellsOf ml6_258 (c_X6_cellsOf hi (by first | assumption | omega | decide) (by first | assumption | omega | decide) (by first | assumption | omega | decide)) dX6_gainOf_2 ⟨by decide, by decide⟩ ⟨by decide, by decide⟩ rfl rfl (Nat.le_of_ble_eq_true rfl) (by first | assumption | decide) rfl rfl rfl (fun r2 Z2 h2 => ?_)
  have hci := CELLS_in hW q
  have hf := hW.f
  have hc : 0 ≤ r2 ∧ r2 ≤ 80 := by omega
  refine j_istore_n G dX6_gainOf_5 (by decide) rfl ?_
  refine j_iconst G dX6_gainOf_6 ?_
  refine j_istore_n G dX6_gainOf_7 (by decide) rfl ?_
  have loop : ∀ (n : Nat) (a b : Int), 0 ≤ a → a ≤ q + 1 → (q + 1 - a).toNat = n → b = sumTo (fun a => iv (reachP q a) * mx (COST S a - CELLS S q)) a.toNat → JJ p_ l e_ { frames := 4, cells := 0, slots := 0, locals := 93 } s_ m_ args_ below_ meth_ c_ D cys ad A_ Q_ 5 0 0 L g X Z2 11 [(0, .ref (ad 0 0)), (1, .int (iI q)), (2, .int (iI r2)), (3, .int (iI b)), (4, .int (iI a))] [] := by
    intro n
    induction n with
    | zero =>
      intro a b h0 h1 h2' h3
      have ea : a = q + 1 := by omega
      subst ea
      refine j_iload G dX6_gainOf_11 rfl ?_
      refine j_iload_n G dX6_gainOf_13 rfl ?_
      refine j_icmp_gt G 47 dX6_gainOf_14 (by decide) (by omega) (by omega) (fun c14 => ?_) (fun c14 => ?_)
      · refine j_iload_n G dX6_gainOf_47 rfl ?_
        refine jr_IZ G hQ hr dX6_gainOf_48 (by decide) (by decide) ?_
        exact ⟨h3, h2.2⟩
      · exfalso; omega
    | succ n ih =>
      intro a b h0 h1 h2' h3
      have hsum := sumTo_s (f := fun a => iv (reachP q a) * mx (COST S a - CELLS S q)) h0
      have hco := COST_in hW a
      have hS2 := h2.2
      refine j_iload G dX6_gainOf_11 rfl ?_
      refine j_iload_n G dX6_gainOf_13 rfl ?_
      refine j_icmp_gt G 47 dX6_gainOf_14 (by decide) (by omega) (by omega) (fun c14 => ?_) (fun c14 => ?_)
      · exfalso; omega
      · refine j_iload_n G dX6_gainOf_17 rfl ?_
        refine j_iload G dX6_gainOf_18 rfl ?_
        refine j_cSI G csX6_reach ml6_389 rfl (c_X6_reach hi (by first | assumption | omega | decide) (by first | assumption | omega | decide)) dX6_gainOf_20 ⟨by decide, by decide⟩ ⟨by decide, by decide⟩ rfl rfl (Nat.le_of_ble_eq_true rfl) (fun r20 h20 => ?_)
        refine j_if_eq G 41 dX6_gainOf_23 (by decide) (by omega) (fun c23 => ?_) (fun c23 => ?_)
        · refine j_iinc G dX6_gainOf_41 rfl (by decide) rfl ?_
          refine j_goto G 11 dX6_gainOf_44 (by decide) ?_
          first
          | (refine ih (a + 1) b (by omega) (by omega) (by omega) ?_
             rcases h20 with w | w
             · exfalso; omega
             · rw [hsum, h3, iv_f w.2, Int.zero_mul, Int.add_zero])
          | (refine ih (a + 1) _ (by omega) (by omega) (by omega) ?_
             rcases h20 with w | w
             · rw [hsum, ← h3, iv_t w.2, Int.one_mul, h2.1]
               unfold mx
               congr 1
               split <;> split <;> omega
             · exfalso; omega)
        · refine j_iload_n G dX6_gainOf_26 rfl ?_
          refine j_iconst G dX6_gainOf_27 ?_
          refine j_aload_n G dX6_gainOf_28 rfl ?_
          refine j_iload G dX6_gainOf_29 rfl ?_
          refine j_cVI G cvX6_costOf ml6_280 (c_X6_costOf hi h2.2 (by assumption) (by omega)) dX6_gainOf_31 ⟨by decide, by decide⟩ ⟨by decide, by decide⟩ rfl rfl (Nat.le_of_ble_eq_true rfl) (by first | assumption | decide) rfl rfl rfl (fun r31 h31 => ?_)
          refine j_iload_n G dX6_gainOf_34 rfl ?_
          refine j_isub G dX6_gainOf_35 ?_
          subst h31
          refine j_max G (TW_of 391 (by decide +kernel) (by decide +kernel)) (TW_of 392 (by decide +kernel) (by decide +kernel)) (TW_of 87 (by decide +kernel) (by decide +kernel)) (TW_of 393 (by decide +kernel) (by decide +kernel)) dX6_gainOf_36 (by decide) (Nat.le_of_ble_eq_true rfl) (by decide) (by decide) (by omega) (by omega) ?_
          refine j_iadd G dX6_gainOf_39 ?_
          refine j_istore_n G dX6_gainOf_40 (by decide) rfl ?_
          refine j_iinc G dX6_gainOf_41 rfl (by decide) rfl ?_
          refine j_goto G 11 dX6_gainOf_44 (by decide) ?_
          first
          | (refine ih (a + 1) b (by omega) (by omega) (by omega) ?_
             rcases h20 with w | w
             · exfalso; omega
             · rw [hsum, h3, iv_f w.2, Int.zero_mul, Int.add_zero])
          | (refine ih (a + 1) _ (by omega) (by omega) (by omega) ?_
             rcases h20 with w | w
             · rw [hsum, ← h3, iv_t w.2, Int.one_mul, h2.1]
               unfold mx
               congr 1
               split <;> split <;> omega
             · exfalso; omega)
  refine j_iconst G dX6_gainOf_8 ?_
  refine j_istore G dX6_gainOf_9 (by decide) rfl ?_
  exact loop _ 0 0 (by omega) (by omega) rfl rfl
end
section
/-! sums, children, tables: what they are -/
noncomputable def CNT (S : ZT) : Int := sumTo (fun k => iv (seen S k)) (S 6 0 3).toNat
noncomputable def SUM (S : ZT) : Int := sumTo (fun k => iv (seen S k) * S 9 0 k) (S 6 0 3).toNat
def kids (S : ZT) (d : Int) : List Int := wk S d (S 2 d 5) (S 4 d (S 2 d 5) + 1)
noncomputable def csum (S : ZT) (d w : Int) : Int := sumTo (fun k => iv (seen S k ∧ bel S d (S 8 d k) w) * S 9 0 k) (S 6 0 3).toNat
noncomputable def lsum (S : ZT) (d : Int) : Int → Int := fun j => if 0 ≤ j ∧ j < (kids S d).length then csum S d ((kids S d).getD j.toNat 0) else 0
theorem ivm_bd {S : ZT} (h : WF S) (p : Int → Prop) {n : Nat} (hn : (n : Int) ≤ S 6 0 3) : -(10000 * n) ≤ sumTo (fun k => iv (p k) * S 9 0 k) n ∧ sumTo (fun k => iv (p k) * S 9 0 k) n ≤ 10000 * n :=
  sumTo_bd (fun k h0 h1 => by
    have := (h.fk h0 (by omega)).2
    rcases iv_01 (p k) with e | e <;> rw [e] <;> omega)
theorem csum_bd {S : ZT} (h : WF S) (d w : Int) : -800000 ≤ csum S d w ∧ csum S d w ≤ 800000 := by
  have hf := h.f
  have := ivm_bd h (fun k => seen S k ∧ bel S d (S 8 d k) w) (n := (S 6 0 3).toNat) (by omega)
  unfold csum
  try simp only at this ⊢
  omega
theorem SUM_bd {S : ZT} (h : WF S) : -800000 ≤ SUM S ∧ SUM S ≤ 800000 := by
  have hf := h.f
  have := ivm_bd h (fun k => seen S k) (n := (S 6 0 3).toNat) (by omega)
  unfold SUM
  try simp only at this ⊢
  omega
theorem CNT_bd {S : ZT} (h : WF S) : 0 ≤ CNT S ∧ CNT S ≤ 80 := by
  have hf := h.f
  have := sumTo_iv (fun k => seen S k) (S 6 0 3).toNat
  unfold CNT
  omega
theorem lsum_bd {S : ZT} (h : WF S) (d j : Int) : -800000 ≤ lsum S d j ∧ lsum S d j ≤ 800000 := by
  unfold lsum
  split
  · exact csum_bd h _ _
  · omega
theorem bel_abv {S : ZT} {d m w lv : Int} (hw : S 4 d w = lv) (hl : lv ≤ S 4 d m) : bel S d m w ↔ abv S d m lv = w := by
  unfold bel abv
  rw [hw]
  exact ⟨fun h => h.2, fun h => ⟨hl, h⟩⟩
theorem nd_inj {l : List Int} (h : l.Nodup) : ∀ {i j : Nat} {x : Int}, l[i]? = some x → l[j]? = some x → i = j := by
  induction l with
  | nil => intro i j x hi; simp at hi
  | cons a r ih =>
    have hr := List.nodup_cons.mp h
    intro i j x hi hj
    cases i with
    | zero =>
      cases j with
      | zero => rfl
      | succ j =>
        simp only [List.getElem?_cons_zero, List.getElem?_cons_succ] at hi hj
        cases hi
        exact absurd (List.mem_of_getElem? hj) hr.1
    | succ i =>
      cases j with
      | zero =>
        simp only [List.getElem?_cons_zero, List.getElem?_cons_succ] at hi hj
        cases hj
        exact absurd (List.mem_of_getElem? hi) hr.1
      | succ j =>
        simp only [List.getElem?_cons_succ] at hi hj
        rw [ih hr.2 hi hj]
theorem wk_nd {S : ZT} {d top : Int} (lv : Int) (h : TOK S d) (h0 : 0 ≤ top) (h1 : top < S 2 d 4) : (wk S d top lv).Nodup := (pre_nd h _ top h0 h1 rfl).filter _
theorem LST.at {Z : ZT} {i : Int} {W : List Int} (h : LST Z i W) {j : Int} (h0 : 0 ≤ j) (h1 : j < W.length) : W[j.toNat]? = some (Z 17 i j) ∧ Z 17 i j ∈ W ∧ W.getD j.toNat 0 = Z 17 i j := by
  have := h.2 j.toNat (by omega)
  rw [Int.toNat_of_nonneg h0] at this
  refine ⟨this, List.mem_of_getElem? this, ?_⟩
  rw [List.getD_eq_getElem?_getD, this]
  rfl
theorem LST.of {Z Y : ZT} {i : Int} {W : List Int} (h : LST Z i W) (e1 : Y 16 i 1 = Z 16 i 1) (e2 : Y 17 i = Z 17 i) : LST Y i W := ⟨by rw [e1]; exact h.1, fun j hj => by rw [e2]; exact h.2 j hj⟩
theorem LST.idx {Z : ZT} {i : Int} {W : List Int} (h : LST Z i W) {x : Int} (hx : x ∈ W) : ∃ j : Int, 0 ≤ j ∧ j < W.length ∧ Z 17 i j = x := by
  obtain ⟨n, hn⟩ := List.getElem?_of_mem hx
  have hl := (List.getElem?_eq_some_iff.mp hn).1
  have := h.2 n hl
  rw [hn] at this
  exact ⟨n, by omega, by omega, (Option.some.inj this).symm⟩
/-- the place where a member is found -/
theorem LST.found {Z : ZT} {i : Int} {W : List Int} (h : LST Z i W) {r x : Int} (hr : (0 ≤ r ∧ r < Z 16 i 1 ∧ Z 17 i r = x ∧ ∀ j, 0 ≤ j → j < r → Z 17 i j ≠ x) ∨ (r = -1 ∧ ∀ j, 0 ≤ j → j < Z 16 i 1 → Z 17 i j ≠ x)) : (0 ≤ r ∧ r < W.length ∧ W.getD r.toNat 0 = x ∧ x ∈ W) ∨ (r = -1 ∧ x ∉ W) := by
  rcases hr with w | w
  · have hl : r < W.length := by have := h.1; omega
    have := h.at w.1 hl
    rw [w.2.2.1] at this
    exact Or.inl ⟨w.1, hl, this.2.2, this.2.1⟩
  · refine Or.inr ⟨w.1, fun hx => ?_⟩
    obtain ⟨j, j0, j1, j2⟩ := h.idx hx
    exact w.2 j j0 (by have := h.1; omega) j2
theorem ahd_congr {s t : Int → Int} {c : Int} {n : Nat} (h : ∀ j : Int, 0 ≤ j → j < n → s j = t j) (hc : 0 ≤ c) (hc2 : c < n) : ahd s c n = ahd t c n := by
  unfold ahd
  refine sumTo_congr (fun k h0 h1 => ?_)
  rw [h k h0 h1, h c hc hc2]
/-- the lines of an axis: all, and those that are shown -/
def allL (S : ZT) (i : Int) : List Int := wk S (S 15 i 4) (S 2 (S 15 i 4) 5) (S 15 i 5)
def usedP (S : ZT) (i m : Int) : Prop := ∃ k, 0 ≤ k ∧ k < S 6 0 3 ∧ seen S k ∧ bel S (S 15 i 4) (S 8 (S 15 i 4) k) m ∧ ∃ w, w ∈ allL S (1 - i) ∧ bel S (S 15 (1 - i) 4) (S 8 (S 15 (1 - i) 4) k) w
noncomputable def LN (S : ZT) (i : Int) : List Int := (allL S i).filter (fun m => @decide (S 0 0 8 = 0 ∨ usedP S i m) (Classical.propDecidable _))
noncomputable def tsum (S : ZT) (r w : Int) : Int := sumTo (fun k => iv (seen S k ∧ bel S (S 15 0 4) (S 8 (S 15 0 4) k) r ∧ bel S (S 15 1 4) (S 8 (S 15 1 4) k) w) * S 9 0 k) (S 6 0 3).toNat
theorem tsum_bd {S : ZT} (h : WF S) (r w : Int) : -800000 ≤ tsum S r w ∧ tsum S r w ≤ 800000 := by
  have hf := h.f
  have := ivm_bd h (fun k => seen S k ∧ bel S (S 15 0 4) (S 8 (S 15 0 4) k) r ∧ bel S (S 15 1 4) (S 8 (S 15 1 4) k) w) (n := (S 6 0 3).toNat) (by omega)
  unfold tsum
  try simp only at this ⊢
  omega
theorem allL_ok {S : ZT} (h : WF S) (ha : S 0 0 7 = 1) {i : Int} (h0 : 0 ≤ i) (h1 : i < 2) : ((allL S i).length : Int) ≤ 24 ∧ (allL S i).Nodup ∧ ∀ x ∈ allL S i, (0 ≤ x ∧ x < S 2 (S 15 i 4) 4) ∧ S 4 (S 15 i 4) x = S 15 i 5 := by
  have a := h.ai ha h0 h1
  have t := h.t a.1 a.2.1
  have p := t.1
  have := wk_len (S 15 i 5) t p.2.2.2.2.1 p.2.2.2.2.2.1
  refine ⟨by unfold allL; omega, wk_nd _ t p.2.2.2.2.1 p.2.2.2.2.2.1, fun x hx => ?_⟩
  have := wk_in t p.2.2.2.2.1 p.2.2.2.2.2.1 hx
  exact ⟨this.1, this.2.2⟩
/-- a table that has been laid -/
def TAB (S Z : ZT) : Prop := SP S Z ∧ (∀ i, 0 ≤ i → i < 2 → LST Z i (allL S i) ∧ Z 15 i 3 = (LN S i).length ∧ ∀ j : Int, 0 ≤ j → j < Z 15 i 3 → 0 ≤ Z 19 i j ∧ Z 19 i j < (allL S i).length ∧ (LN S i).getD j.toNat 0 = (allL S i).getD (Z 19 i j).toNat 0) ∧
  ∀ r w : Int, 0 ≤ r → r < (allL S 0).length → 0 ≤ w → w < (allL S 1).length → Z 23 r w = tsum S ((allL S 0).getD r.toNat 0) ((allL S 1).getD w.toNat 0)
/-- the shown places are the shown lines -/
theorem shw_ln {u : Int → Int} {b : Int} (P : Int → Prop) : ∀ (W : List Int) (n : Nat), n ≤ W.length → (∀ j : Nat, j < n → ((u j = 1 ∨ b = 0) ↔ P (W.getD j 0))) → (shwF u b n).map (fun j => W.getD j.toNat 0) = (W.take n).filter (fun m => @decide (P m) (Classical.propDecidable _)) := by
  intro W n
  induction n with
  | zero => intro _ _; rfl
  | succ n ih =>
    intro hn h
    have h1 := ih (by omega) (fun j hj => h j (by omega))
    have hx : W.take (n + 1) = W.take n ++ [W.getD n 0] := by
      rw [List.take_succ, List.getD_eq_getElem?_getD, List.getElem?_eq_getElem (by omega)]
      rfl
    rw [hx, List.filter_append]
    show (shwF u b n ++ _).map _ = _
    rw [List.map_append, h1]
    congr 1
    have hp := h n (by omega)
    by_cases e : u n = 1 ∨ b = 0
    · rw [if_pos e, List.filter_cons_of_pos (by simpa using hp.mp e)]
      simp
    · rw [if_neg e, List.filter_cons_of_neg (by simpa using fun q => e (hp.mpr q))]
      rfl
end
section
theorem dX6_lineUp_0 : decode cX6_lineUp 0 = .ok (.aload_n 2, 1) := by decide +kernel
theorem dX6_lineUp_1 : decode cX6_lineUp 1 = .ok (.invokevirtual 185, 3) := by decide +kernel
theorem dX6_lineUp_4 : decode cX6_lineUp 4 = .ok (.istore_n 3, 1) := by decide +kernel
theorem dX6_lineUp_5 : decode cX6_lineUp 5 = .ok (.aload_n 2, 1) := by decide +kernel
theorem dX6_lineUp_6 : decode cX6_lineUp 6 = .ok (.aload_n 2, 1) := by decide +kernel
theorem dX6_lineUp_7 : decode cX6_lineUp 7 = .ok (.getfield 150, 3) := by decide +kernel
theorem dX6_lineUp_10 : decode cX6_lineUp 10 = .ok (.iload_n 3, 1) := by decide +kernel
theorem dX6_lineUp_11 : decode cX6_lineUp 11 = .ok (.aload_n 0, 1) := by decide +kernel
theorem dX6_lineUp_12 : decode cX6_lineUp 12 = .ok (.getfield 49, 3) := by decide +kernel
theorem dX6_lineUp_15 : decode cX6_lineUp 15 = .ok (.getfield 188, 3) := by decide +kernel
theorem dX6_lineUp_18 : decode cX6_lineUp 18 = .ok (.invokevirtual 134, 3) := by decide +kernel
theorem dX6_lineUp_21 : decode cX6_lineUp 21 = .ok (.aload_n 0, 1) := by decide +kernel
theorem dX6_lineUp_22 : decode cX6_lineUp 22 = .ok (.getfield 49, 3) := by decide +kernel
theorem dX6_lineUp_25 : decode cX6_lineUp 25 = .ok (.invokevirtual 331, 3) := by decide +kernel
theorem dX6_lineUp_28 : decode cX6_lineUp 28 = .ok (.iconst 0, 1) := by decide +kernel
theorem dX6_lineUp_29 : decode cX6_lineUp 29 = .ok (.istore 4, 2) := by decide +kernel
theorem dX6_lineUp_31 : decode cX6_lineUp 31 = .ok (.iload 4, 2) := by decide +kernel
theorem dX6_lineUp_33 : decode cX6_lineUp 33 = .ok (.aload_n 0, 1) := by decide +kernel
theorem dX6_lineUp_34 : decode cX6_lineUp 34 = .ok (.getfield 18, 3) := by decide +kernel
theorem dX6_lineUp_37 : decode cX6_lineUp 37 = .ok (.getfield 160, 3) := by decide +kernel
theorem dX6_lineUp_40 : decode cX6_lineUp 40 = .ok (.if_icmp .ge 85, 3) := by decide +kernel
theorem dX6_lineUp_43 : decode cX6_lineUp 43 = .ok (.aload_n 0, 1) := by decide +kernel
theorem dX6_lineUp_44 : decode cX6_lineUp 44 = .ok (.getfield 49, 3) := by decide +kernel
theorem dX6_lineUp_47 : decode cX6_lineUp 47 = .ok (.getfield 188, 3) := by decide +kernel
theorem dX6_lineUp_50 : decode cX6_lineUp 50 = .ok (.aload_n 2, 1) := by decide +kernel
theorem dX6_lineUp_51 : decode cX6_lineUp 51 = .ok (.aload_n 0, 1) := by decide +kernel
theorem dX6_lineUp_52 : decode cX6_lineUp 52 = .ok (.getfield 18, 3) := by decide +kernel
theorem dX6_lineUp_55 : decode cX6_lineUp 55 = .ok (.getfield 166, 3) := by decide +kernel
theorem dX6_lineUp_58 : decode cX6_lineUp 58 = .ok (.iload_n 1, 1) := by decide +kernel
theorem dX6_lineUp_59 : decode cX6_lineUp 59 = .ok (.aaload, 1) := by decide +kernel
theorem dX6_lineUp_60 : decode cX6_lineUp 60 = .ok (.iload 4, 2) := by decide +kernel
theorem dX6_lineUp_62 : decode cX6_lineUp 62 = .ok (.iaload, 1) := by decide +kernel
theorem dX6_lineUp_63 : decode cX6_lineUp 63 = .ok (.iload_n 3, 1) := by decide +kernel
theorem dX6_lineUp_64 : decode cX6_lineUp 64 = .ok (.invokevirtual 334, 3) := by decide +kernel
theorem dX6_lineUp_67 : decode cX6_lineUp 67 = .ok (.invokevirtual 337, 3) := by decide +kernel
theorem dX6_lineUp_70 : decode cX6_lineUp 70 = .ok (.istore 5, 2) := by decide +kernel
theorem dX6_lineUp_72 : decode cX6_lineUp 72 = .ok (.aload_n 0, 1) := by decide +kernel
theorem dX6_lineUp_73 : decode cX6_lineUp 73 = .ok (.getfield 49, 3) := by decide +kernel
theorem dX6_lineUp_76 : decode cX6_lineUp 76 = .ok (.getfield 188, 3) := by decide +kernel
theorem dX6_lineUp_79 : decode cX6_lineUp 79 = .ok (.iload 5, 2) := by decide +kernel
theorem dX6_lineUp_81 : decode cX6_lineUp 81 = .ok (.invokevirtual 138, 3) := by decide +kernel
theorem dX6_lineUp_84 : decode cX6_lineUp 84 = .ok (.ifCond .eq 35, 3) := by decide +kernel
theorem dX6_lineUp_87 : decode cX6_lineUp 87 = .ok (.aload_n 0, 1) := by decide +kernel
theorem dX6_lineUp_88 : decode cX6_lineUp 88 = .ok (.iload 4, 2) := by decide +kernel
theorem dX6_lineUp_90 : decode cX6_lineUp 90 = .ok (.invokevirtual 175, 3) := by decide +kernel
theorem dX6_lineUp_93 : decode cX6_lineUp 93 = .ok (.ifCond .eq 26, 3) := by decide +kernel
theorem dX6_lineUp_96 : decode cX6_lineUp 96 = .ok (.aload_n 0, 1) := by decide +kernel
theorem dX6_lineUp_97 : decode cX6_lineUp 97 = .ok (.getfield 49, 3) := by decide +kernel
theorem dX6_lineUp_100 : decode cX6_lineUp 100 = .ok (.getfield 196, 3) := by decide +kernel
theorem dX6_lineUp_103 : decode cX6_lineUp 103 = .ok (.iload 5, 2) := by decide +kernel
theorem dX6_lineUp_105 : decode cX6_lineUp 105 = .ok (.dup2, 1) := by decide +kernel
theorem dX6_lineUp_106 : decode cX6_lineUp 106 = .ok (.iaload, 1) := by decide +kernel
theorem dX6_lineUp_107 : decode cX6_lineUp 107 = .ok (.aload_n 0, 1) := by decide +kernel
theorem dX6_lineUp_108 : decode cX6_lineUp 108 = .ok (.getfield 18, 3) := by decide +kernel
theorem dX6_lineUp_111 : decode cX6_lineUp 111 = .ok (.getfield 163, 3) := by decide +kernel
theorem dX6_lineUp_114 : decode cX6_lineUp 114 = .ok (.iload 4, 2) := by decide +kernel
theorem dX6_lineUp_116 : decode cX6_lineUp 116 = .ok (.iaload, 1) := by decide +kernel
theorem dX6_lineUp_117 : decode cX6_lineUp 117 = .ok (.iadd, 1) := by decide +kernel
theorem dX6_lineUp_118 : decode cX6_lineUp 118 = .ok (.iastore, 1) := by decide +kernel
theorem dX6_lineUp_119 : decode cX6_lineUp 119 = .ok (.iinc 4 1, 3) := by decide +kernel
theorem dX6_lineUp_122 : decode cX6_lineUp 122 = .ok (.goto (-91), 3) := by decide +kernel
theorem dX6_lineUp_125 : decode cX6_lineUp 125 = .ok (.return_, 1) := by decide +kernel
/-! by program: wip/whole/gen.py out of wip/whole/src/15.lineup.eb -/
/-! EbbTable: the children of the point, tables -/
set_option maxRecDepth 100000 in
set_option maxHeartbeats 8000000 in
theorem c_X6_lineUp {l : Launch} {D : va_G} {cys : Nat → ClassId} {ad : Nat → Int → Nat} {L : List Nat} {g : Nat → va_E} {X : Int64} {Z : ZT} (hi : injA ad) {S : ZT} {d : Int} (hS : SP S Z) (hW : WF S) (hd : 0 ≤ d ∧ d < S 0 0 5) : CM l D cys ad yX6_lineUp cX6_lineUp 6 none 3 73 0 0 [.ref (ad 0 0), .int (iI d), .ref (ad 2 d)] L g X Z (PVZ L g X Z (fun Z' => SP S Z' ∧ LST Z' 3 (kids S d) ∧ ∀ j, 0 ≤ j → j < 24 → Z' 21 0 j = lsum S d j)) := by
  refine cm_start hi (by decide +kernel) (Nat.le_of_ble_eq_true rfl) ?_
  intro p_ e_ s_ m_ args_ below_ meth_ c_ A_ Q_ hQ G hr hin
  have hn := hW.n
  have hf := hW.f
  have ht := hW.t hd.1 hd.2
  have ht1 := ht.1
  have hte := TE.of hS d
  have hTZ := hte.ok ht
  have hv2 : vd 2 d := ⟨hd.1, show d < 4 by omega⟩
  have hv8 : vd 8 d := ⟨hd.1, show d < 4 by omega⟩
  have e2 : Z 2 = S 2 := hS.1 2 rfl
  have e4 : Z 4 = S 4 := hS.1 4 rfl
  have hpt := ht.at ht1.2.2.2.2.1 ht1.2.2.2.2.2.1
  unfold MOK at hpt
  have hkl : ((kids S d).length : Int) ≤ 24 := by
    have := wk_len (S 4 d (S 2 d 5) + 1) ht ht1.2.2.2.2.1 ht1.2.2.2.2.2.1
    unfold kids; omega
  have hki : ∀ x ∈ kids S d, (0 ≤ x ∧ x < S 2 d 4) ∧ S 4 d x = S 4 d (S 2 d 5) + 1 := fun x hx => by
    have := wk_in ht ht1.2.2.2.2.1 ht1.2.2.2.2.2.1 hx
    exact ⟨this.1, this.2.2⟩
  have htz : 0 ≤ Z 2 d 5 ∧ Z 2 d 5 < Z 2 d 4 := by rw [e2]; omega
  refine j_aload_n G dX6_lineUp_0 rfl ?_
  refine j_cVI G cvX4_depthOfChildren ml6_185 (c_X4_depthOfChildren hi (by first | assumption | omega | decide) (by first | assumption | omega | decide)) dX6_lineUp_1 ⟨by decide, by decide⟩ ⟨by decide, by decide⟩ rfl rfl (Nat.le_of_ble_eq_true rfl) (by first | assumption | decide) rfl rfl rfl (fun r1 h1 => ?_)
  rw [e2, e4] at h1
  have hr1 : 1 ≤ r1 ∧ r1 ≤ 4 := by omega
  have hir1 : inR r1 := by omega
  refine j_istore_n G dX6_lineUp_4 (by decide) rfl ?_
  refine j_aload_n G dX6_lineUp_5 rfl ?_
  refine j_aload_n G dX6_lineUp_6 rfl ?_
  refine gf_2_5 G dX6_lineUp_7 lf6_150 (by first | assumption | decide) ?_
  refine j_iload_n G dX6_lineUp_10 rfl ?_
  refine j_aload_n G dX6_lineUp_11 rfl ?_
  refine gf_0_10 G dX6_lineUp_12 lf6_49 (by first | assumption | decide) ?_
  refine gf_20_0 G dX6_lineUp_15 lf6_188 (by first | assumption | decide) ?_
  refine j_cVVZ G cvX4_listBeneath ml6_134 (c_X4_listBeneath hi hv2 (by decide) hTZ htz hir1) dX6_lineUp_18 ⟨by decide, by decide⟩ ⟨by decide, by decide⟩ rfl rfl (Nat.le_of_ble_eq_true rfl) (by first | assumption | decide) rfl rfl rfl (fun Z18 h18 => ?_)
  obtain ⟨hL18, hA18, hB18⟩ := h18
  rw [hte.e_wk, e2, h1] at hL18
  have hS18 : SP S Z18 := ⟨fun k hk => by rw [hA18 k (by rintro rfl; cases hk) (by rintro rfl; cases hk)]; exact hS.1 k hk, fun i => by rw [hA18 15 (by decide) (by decide)]; exact hS.2 i⟩
  have hL18 : LST Z18 3 (kids S d) := hL18
  refine j_aload_n G dX6_lineUp_21 rfl ?_
  refine gf_0_10 G dX6_lineUp_22 lf6_49 (by first | assumption | decide) ?_
  refine j_cVVZ G cvX2_clearSums ml6_331 (c_X2_clearSums hi ) dX6_lineUp_25 ⟨by decide, by decide⟩ ⟨by decide, by decide⟩ rfl rfl (Nat.le_of_ble_eq_true rfl) (by first | assumption | decide) rfl rfl rfl (fun Z25 h25 => ?_)
  obtain ⟨hA25, hB25⟩ := h25
  have hS25 : SP S Z25 := ⟨fun k hk => by rw [hA25 k (by rintro rfl; cases hk)]; exact hS18.1 k hk, fun i => by rw [hA25 15 (by decide)]; exact hS18.2 i⟩
  have hL25 : LST Z25 3 (kids S d) := hL18.of (by rw [hA25 16 (by decide)]) (by rw [hA25 17 (by decide)])
  have loop : ∀ (n : Nat) (a : Int) (Y : ZT), 0 ≤ a → a ≤ S 6 0 3 → (S 6 0 3 - a).toNat = n → SP S Y → LST Y 3 (kids S d) → (∀ j : Int, 0 ≤ j → j < 24 → Y 21 0 j = if j < (kids S d).length then sumTo (fun k => iv (seen S k ∧ bel S d (S 8 d k) ((kids S d).getD j.toNat 0)) * S 9 0 k) a.toNat else 0) → JJ p_ l e_ { frames := 3, cells := 0, slots := 0, locals := 73 } s_ m_ args_ below_ meth_ c_ D cys ad A_ Q_ 6 0 0 L g X Y 31 [(0, .ref (ad 0 0)), (1, .int (iI d)), (2, .ref (ad 2 d)), (3, .int (iI r1)), (4, .int (iI a))] [] := by
    intro n
    induction n with
    | zero =>
      intro a Y h0 h1' h2 h3 h4 h5
      have e63 : Y 6 0 3 = S 6 0 3 := by rw [h3.1 6 rfl]
      have ea : a = S 6 0 3 := by omega
      subst ea
      refine j_iload G dX6_lineUp_31 rfl ?_
      refine j_aload_n G dX6_lineUp_33 rfl ?_
      refine gf_0_1 G dX6_lineUp_34 lf6_18 (by first | assumption | decide) ?_
      refine gf_6_3 G dX6_lineUp_37 lf6_160 (by first | assumption | decide) ?_
      refine j_icmp_ge G 125 dX6_lineUp_40 (by decide) (by omega) (by omega) (fun c40 => ?_) (fun c40 => ?_)
      · refine jr_VZ G hQ hr dX6_lineUp_125 (by decide) (by decide) ?_
        refine ⟨h3, h4, fun j j0 j1 => ?_⟩
        rw [h5 j j0 j1]
        unfold lsum csum
        by_cases e : j < (kids S d).length
        · rw [if_pos e, if_pos ⟨j0, e⟩]
        · rw [if_neg e, if_neg (fun q => e q.2)]
      · exfalso; omega
    | succ n ih =>
      intro a Y h0 h1' h2 h3 h4 h5
      have e63 : Y 6 0 3 = S 6 0 3 := by rw [h3.1 6 rfl]
      have hteY := TE.of h3 d
      have hTY := hteY.ok ht
      have hfk := hW.fk h0 (by omega : a < S 6 0 3)
      have hl := hfk.1 d hd.1 hd.2
      have e8 : Y 8 d a = S 8 d a := by rw [h3.1 8 rfl]
      have e9 : Y 9 0 a = S 9 0 a := by rw [h3.1 9 rfl]
      have e24 : Y 2 d 4 = S 2 d 4 := by rw [h3.1 2 rfl]
      have hlz : 0 ≤ Y 8 d a ∧ Y 8 d a < Y 2 d 4 := by omega
      have hlen := h4.1
      have hvals : ∀ j, 0 ≤ j → j < Y 16 3 1 → inR (Y 17 3 j) := fun j j0 j1 => by
        have := (hki _ (h4.at j0 (by omega)).2.1).1
        omega
      have ha16 : 0 ≤ Y 16 3 1 ∧ Y 16 3 1 ≤ 24 := by omega
      have hS3 := h3
      have hak : 0 ≤ a ∧ a < S 6 0 3 := by omega
      have hsum : ∀ w, sumTo (fun k => iv (seen S k ∧ bel S d (S 8 d k) w) * S 9 0 k) (a + 1).toNat = sumTo (fun k => iv (seen S k ∧ bel S d (S 8 d k) w) * S 9 0 k) a.toNat + iv (seen S a ∧ bel S d (S 8 d a) w) * S 9 0 a := fun w => sumTo_s h0
      have hbel : ∀ w ∈ kids S d, bel S d (S 8 d a) w ↔ abv S d (S 8 d a) r1 = w := fun w hw => by
        have := (hki w hw)
        have hm := ht.at this.1.1 this.1.2
        unfold MOK at hm
        exact bel_abv (by omega) (by omega)
      refine j_iload G dX6_lineUp_31 rfl ?_
      refine j_aload_n G dX6_lineUp_33 rfl ?_
      refine gf_0_1 G dX6_lineUp_34 lf6_18 (by first | assumption | decide) ?_
      refine gf_6_3 G dX6_lineUp_37 lf6_160 (by first | assumption | decide) ?_
      refine j_icmp_ge G 125 dX6_lineUp_40 (by decide) (by omega) (by omega) (fun c40 => ?_) (fun c40 => ?_)
      · exfalso; omega
      · refine j_aload_n G dX6_lineUp_43 rfl ?_
        refine gf_0_10 G dX6_lineUp_44 lf6_49 (by first | assumption | decide) ?_
        refine gf_20_0 G dX6_lineUp_47 lf6_188 (by first | assumption | decide) ?_
        refine j_aload_n G dX6_lineUp_50 rfl ?_
        refine j_aload_n G dX6_lineUp_51 rfl ?_
        refine gf_0_1 G dX6_lineUp_52 lf6_18 (by first | assumption | decide) ?_
        refine gf_6_0 G dX6_lineUp_55 lf6_166 (by first | assumption | decide) ?_
        refine j_iload_n G dX6_lineUp_58 rfl ?_
        refine al_7 G dX6_lineUp_59 (by first | assumption | decide) (by omega) (by omega) ?_
        refine j_iload G dX6_lineUp_60 rfl ?_
        refine al_8 G dX6_lineUp_62 (by first | assumption | decide) (by omega) (by omega) ?_
        refine j_iload_n G dX6_lineUp_63 rfl ?_
        refine j_cVI G cvX4_aboveOn ml6_334 (c_X4_aboveOn hi hv2 hTY hlz (by omega)) dX6_lineUp_64 ⟨by decide, by decide⟩ ⟨by decide, by decide⟩ rfl rfl (Nat.le_of_ble_eq_true rfl) (by first | assumption | decide) rfl rfl rfl (fun r64 h64 => ?_)
        rw [hteY.e_abv, e8] at h64
        have hir64 : inR r64 := by
          have := abv_ok ht hl.1 hl.2.1 (show 0 ≤ r1 by omega)
          omega
        refine j_cVI G cvX3_placeOf ml6_337 (c_X3_placeOf hi (by decide) ha16 hir64 hvals) dX6_lineUp_67 ⟨by decide, by decide⟩ ⟨by decide, by decide⟩ rfl rfl (Nat.le_of_ble_eq_true rfl) (by first | assumption | decide) rfl rfl rfl (fun r67 h67 => ?_)
        have hfd := h4.found h67
        rw [h64] at hfd
        have hir67 : inR r67 := by omega
        have hir16 : inR (Y 16 3 1) := by omega
        refine j_istore G dX6_lineUp_70 (by decide) rfl ?_
        refine j_aload_n G dX6_lineUp_72 rfl ?_
        refine gf_0_10 G dX6_lineUp_73 lf6_49 (by first | assumption | decide) ?_
        refine gf_20_0 G dX6_lineUp_76 lf6_188 (by first | assumption | decide) ?_
        refine j_iload G dX6_lineUp_79 rfl ?_
        refine j_cVI G cvX3_hasPlace ml6_138 (c_X3_hasPlace hi (by first | assumption | omega | decide) (by first | assumption | omega | decide) (by first | assumption | omega | decide)) dX6_lineUp_81 ⟨by decide, by decide⟩ ⟨by decide, by decide⟩ rfl rfl (Nat.le_of_ble_eq_true rfl) (by first | assumption | decide) rfl rfl rfl (fun r81 h81 => ?_)
        refine j_if_eq G 119 dX6_lineUp_84 (by decide) (by omega) (fun c84 => ?_) (fun c84 => ?_)
        · first
          | (have hnone : ∀ w ∈ kids S d, ¬ (seen S a ∧ bel S d (S 8 d a) w) := by
               first
               | (intro w hw hc
                  rcases h90 with q | q
                  · exfalso; omega
                  · exact q.2 hc.1)
               | (intro w hw hc
                  rcases hfd with q | q
                  · exfalso; omega
                  · exact q.2 ((hbel w hw).mp hc.2 ▸ hw))
             refine j_keep [0, 1, 2, 3, 4] ?_
             obtain ⟨V, hV⟩ : ∃ y, y = Y := ⟨_, rfl⟩
             have hVS : SP S V := by rw [hV]; exact h3
             have hVL : LST V 3 (kids S d) := by rw [hV]; exact h4
             have hVv : ∀ j : Int, 0 ≤ j → j < 24 → V 21 0 j = if j < (kids S d).length then sumTo (fun k => iv (seen S k ∧ bel S d (S 8 d k) ((kids S d).getD j.toNat 0)) * S 9 0 k) (a + 1).toNat else 0 := by
               intro j j0 j1
               rw [hV, h5 j j0 j1]
               by_cases e : j < (kids S d).length
               · rw [if_pos e, if_pos e, hsum, iv_f (hnone _ (by rw [(h4.at j0 e).2.2]; exact (h4.at j0 e).2.1)), Int.zero_mul, Int.add_zero]
               · rw [if_neg e, if_neg e]
             rw [← hV])
          | (have hfd' : 0 ≤ r67 ∧ r67 < (kids S d).length ∧ (kids S d).getD r67.toNat 0 = abv S d (S 8 d a) r1 ∧ abv S d (S 8 d a) r1 ∈ kids S d := by
               rcases hfd with q | q
               · exact q
               · exfalso; omega
             have hseen : seen S a := by
               rcases h90 with q | q
               · exact q.2
               · exfalso; omega
             refine j_keep [0, 1, 2, 3, 4] ?_
             obtain ⟨V, hV⟩ : ∃ y, y = zS Y 21 0 r67 (Y 21 0 r67 + Y 9 0 a) := ⟨_, rfl⟩
             have hVS : SP S V := by
               rw [hV]
               exact ⟨fun k hk => by rw [zS_k (by rintro rfl; cases hk)]; exact h3.1 k hk, fun i => by rw [zS_k (by decide)]; exact h3.2 i⟩
             have hVL : LST V 3 (kids S d) := by
               rw [hV]
               exact h4.of (by rw [zS_k (by decide)]) (by rw [zS_k (by decide)])
             have hVv : ∀ j : Int, 0 ≤ j → j < 24 → V 21 0 j = if j < (kids S d).length then sumTo (fun k => iv (seen S k ∧ bel S d (S 8 d k) ((kids S d).getD j.toNat 0)) * S 9 0 k) (a + 1).toNat else 0 := by
               intro j j0 j1
               rw [hV, zS_v]
               by_cases e1 : j = r67
               · subst e1
                 rw [if_pos rfl, if_pos hfd'.2.1, h5 j j0 j1, if_pos hfd'.2.1, hsum, iv_t ⟨hseen, (hbel _ (by rw [hfd'.2.2.1]; exact hfd'.2.2.2)).mpr hfd'.2.2.1.symm⟩, Int.one_mul, e9]
               · rw [if_neg e1, h5 j j0 j1]
                 by_cases e : j < (kids S d).length
                 · rw [if_pos e, if_pos e, hsum, iv_f, Int.zero_mul, Int.add_zero]
                   rintro ⟨-, q⟩
                   have a1 := h4.at j0 e
                   have a2 := h4.at hfd'.1 hfd'.2.1
                   have q := (hbel _ (by rw [a1.2.2]; exact a1.2.1)).mp q
                   rw [← hfd'.2.2.1, a1.2.2, a2.2.2] at q
                   have := nd_inj (wk_nd _ ht ht1.2.2.2.2.1 ht1.2.2.2.2.2.1) (q ▸ a1.1) a2.1
                   omega
                 · rw [if_neg e, if_neg e]
             rw [← hV])
          refine j_iinc G dX6_lineUp_119 rfl (by decide) rfl ?_
          refine j_goto G 31 dX6_lineUp_122 (by decide) ?_
          exact ih (a + 1) V (by omega) (by omega) (by omega) hVS hVL hVv
        · refine j_aload_n G dX6_lineUp_87 rfl ?_
          refine j_iload G dX6_lineUp_88 rfl ?_
          refine j_cVI G cvX6_isSeen ml6_175 (c_X6_isSeen hi hS3 hW hak) dX6_lineUp_90 ⟨by decide, by decide⟩ ⟨by decide, by decide⟩ rfl rfl (Nat.le_of_ble_eq_true rfl) (by first | assumption | decide) rfl rfl rfl (fun r90 h90 => ?_)
          refine j_if_eq G 119 dX6_lineUp_93 (by decide) (by omega) (fun c93 => ?_) (fun c93 => ?_)
          · first
            | (have hnone : ∀ w ∈ kids S d, ¬ (seen S a ∧ bel S d (S 8 d a) w) := by
                 first
                 | (intro w hw hc
                    rcases h90 with q | q
                    · exfalso; omega
                    · exact q.2 hc.1)
                 | (intro w hw hc
                    rcases hfd with q | q
                    · exfalso; omega
                    · exact q.2 ((hbel w hw).mp hc.2 ▸ hw))
               refine j_keep [0, 1, 2, 3, 4] ?_
               obtain ⟨V, hV⟩ : ∃ y, y = Y := ⟨_, rfl⟩
               have hVS : SP S V := by rw [hV]; exact h3
               have hVL : LST V 3 (kids S d) := by rw [hV]; exact h4
               have hVv : ∀ j : Int, 0 ≤ j → j < 24 → V 21 0 j = if j < (kids S d).length then sumTo (fun k => iv (seen S k ∧ bel S d (S 8 d k) ((kids S d).getD j.toNat 0)) * S 9 0 k) (a + 1).toNat else 0 := by
                 intro j j0 j1
                 rw [hV, h5 j j0 j1]
                 by_cases e : j < (kids S d).length
                 · rw [if_pos e, if_pos e, hsum, iv_f (hnone _ (by rw [(h4.at j0 e).2.2]; exact (h4.at j0 e).2.1)), Int.zero_mul, Int.add_zero]
                 · rw [if_neg e, if_neg e]
               rw [← hV])
            | (have hfd' : 0 ≤ r67 ∧ r67 < (kids S d).length ∧ (kids S d).getD r67.toNat 0 = abv S d (S 8 d a) r1 ∧ abv S d (S 8 d a) r1 ∈ kids S d := by
                 rcases hfd with q | q
                 · exact q
                 · exfalso; omega
               have hseen : seen S a := by
                 rcases h90 with q | q
                 · exact q.2
                 · exfalso; omega
               refine j_keep [0, 1, 2, 3, 4] ?_
               obtain ⟨V, hV⟩ : ∃ y, y = zS Y 21 0 r67 (Y 21 0 r67 + Y 9 0 a) := ⟨_, rfl⟩
               have hVS : SP S V := by
                 rw [hV]
                 exact ⟨fun k hk => by rw [zS_k (by rintro rfl; cases hk)]; exact h3.1 k hk, fun i => by rw [zS_k (by decide)]; exact h3.2 i⟩
               have hVL : LST V 3 (kids S d) := by
                 rw [hV]
                 exact h4.of (by rw [zS_k (by decide)]) (by rw [zS_k (by decide)])
               have hVv : ∀ j : Int, 0 ≤ j → j < 24 → V 21 0 j = if j < (kids S d).length then sumTo (fun k => iv (seen S k ∧ bel S d (S 8 d k) ((kids S d).getD j.toNat 0)) * S 9 0 k) (a + 1).toNat else 0 := by
                 intro j j0 j1
                 rw [hV, zS_v]
                 by_cases e1 : j = r67
                 · subst e1
                   rw [if_pos rfl, if_pos hfd'.2.1, h5 j j0 j1, if_pos hfd'.2.1, hsum, iv_t ⟨hseen, (hbel _ (by rw [hfd'.2.2.1]; exact hfd'.2.2.2)).mpr hfd'.2.2.1.symm⟩, Int.one_mul, e9]
                 · rw [if_neg e1, h5 j j0 j1]
                   by_cases e : j < (kids S d).length
                   · rw [if_pos e, if_pos e, hsum, iv_f, Int.zero_mul, Int.add_zero]
                     rintro ⟨-, q⟩
                     have a1 := h4.at j0 e
                     have a2 := h4.at hfd'.1 hfd'.2.1
                     have q := (hbel _ (by rw [a1.2.2]; exact a1.2.1)).mp q
                     rw [← hfd'.2.2.1, a1.2.2, a2.2.2] at q
                     have := nd_inj (wk_nd _ ht ht1.2.2.2.2.1 ht1.2.2.2.2.2.1) (q ▸ a1.1) a2.1
                     omega
                   · rw [if_neg e, if_neg e]
               rw [← hV])
            refine j_iinc G dX6_lineUp_119 rfl (by decide) rfl ?_
            refine j_goto G 31 dX6_lineUp_122 (by decide) ?_
            exact ih (a + 1) V (by omega) (by omega) (by omega) hVS hVL hVv
          · refine j_aload_n G dX6_lineUp_96 rfl ?_
            refine gf_0_10 G dX6_lineUp_97 lf6_49 (by first | assumption | decide) ?_
            refine gf_20_1 G dX6_lineUp_100 lf6_196 (by first | assumption | decide) ?_
            refine j_iload G dX6_lineUp_103 rfl ?_
            have h67b : 0 ≤ r67 ∧ r67 < 24 := by omega
            refine j_dup2 G dX6_lineUp_105 rfl rfl ?_
            refine al_21 G dX6_lineUp_106 (by first | assumption | decide) (by omega) (by omega) ?_
            refine j_aload_n G dX6_lineUp_107 rfl ?_
            refine gf_0_1 G dX6_lineUp_108 lf6_18 (by first | assumption | decide) ?_
            refine gf_6_1 G dX6_lineUp_111 lf6_163 (by first | assumption | decide) ?_
            refine j_iload G dX6_lineUp_114 rfl ?_
            refine al_9 G dX6_lineUp_116 (by first | assumption | decide) (by omega) (by omega) ?_
            refine j_iadd G dX6_lineUp_117 ?_
            refine as_21 G dX6_lineUp_118 (by first | assumption | decide) (by omega) (by omega) ?_
            first
            | (have hnone : ∀ w ∈ kids S d, ¬ (seen S a ∧ bel S d (S 8 d a) w) := by
                 first
                 | (intro w hw hc
                    rcases h90 with q | q
                    · exfalso; omega
                    · exact q.2 hc.1)
                 | (intro w hw hc
                    rcases hfd with q | q
                    · exfalso; omega
                    · exact q.2 ((hbel w hw).mp hc.2 ▸ hw))
               refine j_keep [0, 1, 2, 3, 4] ?_
               obtain ⟨V, hV⟩ : ∃ y, y = Y := ⟨_, rfl⟩
               have hVS : SP S V := by rw [hV]; exact h3
               have hVL : LST V 3 (kids S d) := by rw [hV]; exact h4
               have hVv : ∀ j : Int, 0 ≤ j → j < 24 → V 21 0 j = if j < (kids S d).length then sumTo (fun k => iv (seen S k ∧ bel S d (S 8 d k) ((kids S d).getD j.toNat 0)) * S 9 0 k) (a + 1).toNat else 0 := by
                 intro j j0 j1
                 rw [hV, h5 j j0 j1]
                 by_cases e : j < (kids S d).length
                 · rw [if_pos e, if_pos e, hsum, iv_f (hnone _ (by rw [(h4.at j0 e).2.2]; exact (h4.at j0 e).2.1)), Int.zero_mul, Int.add_zero]
                 · rw [if_neg e, if_neg e]
               rw [← hV])
            | (have hfd' : 0 ≤ r67 ∧ r67 < (kids S d).length ∧ (kids S d).getD r67.toNat 0 = abv S d (S 8 d a) r1 ∧ abv S d (S 8 d a) r1 ∈ kids S d := by
                 rcases hfd with q | q
                 · exact q
                 · exfalso; omega
               have hseen : seen S a := by
                 rcases h90 with q | q
                 · exact q.2
                 · exfalso; omega
               refine j_keep [0, 1, 2, 3, 4] ?_
               obtain ⟨V, hV⟩ : ∃ y, y = zS Y 21 0 r67 (Y 21 0 r67 + Y 9 0 a) := ⟨_, rfl⟩
               have hVS : SP S V := by
                 rw [hV]
                 exact ⟨fun k hk => by rw [zS_k (by rintro rfl; cases hk)]; exact h3.1 k hk, fun i => by rw [zS_k (by decide)]; exact h3.2 i⟩
               have hVL : LST V 3 (kids S d) := by
                 rw [hV]
                 exact h4.of (by rw [zS_k (by decide)]) (by rw [zS_k (by decide)])
               have hVv : ∀ j : Int, 0 ≤ j → j < 24 → V 21 0 j = if j < (kids S d).length then sumTo (fun k => iv (seen S k ∧ bel S d (S 8 d k) ((kids S d).getD j.toNat 0)) * S 9 0 k) (a + 1).toNat else 0 := by
                 intro j j0 j1
                 rw [hV, zS_v]
                 by_cases e1 : j = r67
                 · subst e1
                   rw [if_pos rfl, if_pos hfd'.2.1, h5 j j0 j1, if_pos hfd'.2.1, hsum, iv_t ⟨hseen, (hbel _ (by rw [hfd'.2.2.1]; exact hfd'.2.2.2)).mpr hfd'.2.2.1.symm⟩, Int.one_mul, e9]
                 · rw [if_neg e1, h5 j j0 j1]
                   by_cases e : j < (kids S d).length
                   · rw [if_pos e, if_pos e, hsum, iv_f, Int.zero_mul, Int.add_zero]
                     rintro ⟨-, q⟩
                     have a1 := h4.at j0 e
                     have a2 := h4.at hfd'.1 hfd'.2.1
                     have q := (hbel _ (by rw [a1.2.2]; exact a1.2.1)).mp q
                     rw [← hfd'.2.2.1, a1.2.2, a2.2.2] at q
                     have := nd_inj (wk_nd _ ht ht1.2.2.2.2.1 ht1.2.2.2.2.2.1) (q ▸ a1.1) a2.1
                     omega
                   · rw [if_neg e, if_neg e]
               rw [← hV])
            refine j_iinc G dX6_lineUp_119 rfl (by decide) rfl ?_
            refine j_goto G 31 dX6_lineUp_122 (by decide) ?_
            exact ih (a + 1) V (by omega) (by omega) (by omega) hVS hVL hVv
  refine j_iconst G dX6_lineUp_28 ?_
  refine j_istore G dX6_lineUp_29 (by decide) rfl ?_
  refine loop _ 0 Z25 (by omega) (by omega) rfl hS25 hL25 (fun j j0 j1 => ?_)
  rw [hB25 j j0 j1]
  split <;> rfl
end
section
theorem dX6_layAxis_0 : decode cX6_layAxis 0 = .ok (.aload_n 0, 1) := by decide +kernel
theorem dX6_layAxis_1 : decode cX6_layAxis 1 = .ok (.getfield 11, 3) := by decide +kernel
theorem dX6_layAxis_4 : decode cX6_layAxis 4 = .ok (.aload_n 1, 1) := by decide +kernel
theorem dX6_layAxis_5 : decode cX6_layAxis 5 = .ok (.getfield 216, 3) := by decide +kernel
theorem dX6_layAxis_8 : decode cX6_layAxis 8 = .ok (.aaload, 1) := by decide +kernel
theorem dX6_layAxis_9 : decode cX6_layAxis 9 = .ok (.astore_n 2, 1) := by decide +kernel
theorem dX6_layAxis_10 : decode cX6_layAxis 10 = .ok (.aload_n 2, 1) := by decide +kernel
theorem dX6_layAxis_11 : decode cX6_layAxis 11 = .ok (.aload_n 2, 1) := by decide +kernel
theorem dX6_layAxis_12 : decode cX6_layAxis 12 = .ok (.getfield 150, 3) := by decide +kernel
theorem dX6_layAxis_15 : decode cX6_layAxis 15 = .ok (.aload_n 1, 1) := by decide +kernel
theorem dX6_layAxis_16 : decode cX6_layAxis 16 = .ok (.getfield 219, 3) := by decide +kernel
theorem dX6_layAxis_19 : decode cX6_layAxis 19 = .ok (.aload_n 1, 1) := by decide +kernel
theorem dX6_layAxis_20 : decode cX6_layAxis 20 = .ok (.getfield 363, 3) := by decide +kernel
theorem dX6_layAxis_23 : decode cX6_layAxis 23 = .ok (.invokevirtual 134, 3) := by decide +kernel
theorem dX6_layAxis_26 : decode cX6_layAxis 26 = .ok (.aload_n 1, 1) := by decide +kernel
theorem dX6_layAxis_27 : decode cX6_layAxis 27 = .ok (.invokevirtual 364, 3) := by decide +kernel
theorem dX6_layAxis_30 : decode cX6_layAxis 30 = .ok (.return_, 1) := by decide +kernel
theorem dX6_clearCells_0 : decode cX6_clearCells 0 = .ok (.iconst 0, 1) := by decide +kernel
theorem dX6_clearCells_1 : decode cX6_clearCells 1 = .ok (.istore_n 1, 1) := by decide +kernel
theorem dX6_clearCells_2 : decode cX6_clearCells 2 = .ok (.iload_n 1, 1) := by decide +kernel
theorem dX6_clearCells_3 : decode cX6_clearCells 3 = .ok (.aload_n 0, 1) := by decide +kernel
theorem dX6_clearCells_4 : decode cX6_clearCells 4 = .ok (.getfield 32, 3) := by decide +kernel
theorem dX6_clearCells_7 : decode cX6_clearCells 7 = .ok (.getfield 363, 3) := by decide +kernel
theorem dX6_clearCells_10 : decode cX6_clearCells 10 = .ok (.getfield 191, 3) := by decide +kernel
theorem dX6_clearCells_13 : decode cX6_clearCells 13 = .ok (.if_icmp .ge 40, 3) := by decide +kernel
theorem dX6_clearCells_16 : decode cX6_clearCells 16 = .ok (.iconst 0, 1) := by decide +kernel
theorem dX6_clearCells_17 : decode cX6_clearCells 17 = .ok (.istore_n 2, 1) := by decide +kernel
theorem dX6_clearCells_18 : decode cX6_clearCells 18 = .ok (.iload_n 2, 1) := by decide +kernel
theorem dX6_clearCells_19 : decode cX6_clearCells 19 = .ok (.aload_n 0, 1) := by decide +kernel
theorem dX6_clearCells_20 : decode cX6_clearCells 20 = .ok (.getfield 36, 3) := by decide +kernel
theorem dX6_clearCells_23 : decode cX6_clearCells 23 = .ok (.getfield 363, 3) := by decide +kernel
theorem dX6_clearCells_26 : decode cX6_clearCells 26 = .ok (.getfield 191, 3) := by decide +kernel
theorem dX6_clearCells_29 : decode cX6_clearCells 29 = .ok (.if_icmp .ge 18, 3) := by decide +kernel
theorem dX6_clearCells_32 : decode cX6_clearCells 32 = .ok (.aload_n 0, 1) := by decide +kernel
theorem dX6_clearCells_33 : decode cX6_clearCells 33 = .ok (.getfield 55, 3) := by decide +kernel
theorem dX6_clearCells_36 : decode cX6_clearCells 36 = .ok (.iload_n 1, 1) := by decide +kernel
theorem dX6_clearCells_37 : decode cX6_clearCells 37 = .ok (.aaload, 1) := by decide +kernel
theorem dX6_clearCells_38 : decode cX6_clearCells 38 = .ok (.iload_n 2, 1) := by decide +kernel
theorem dX6_clearCells_39 : decode cX6_clearCells 39 = .ok (.iconst 0, 1) := by decide +kernel
theorem dX6_clearCells_40 : decode cX6_clearCells 40 = .ok (.iastore, 1) := by decide +kernel
theorem dX6_clearCells_41 : decode cX6_clearCells 41 = .ok (.iinc 2 1, 3) := by decide +kernel
theorem dX6_clearCells_44 : decode cX6_clearCells 44 = .ok (.goto (-26), 3) := by decide +kernel
theorem dX6_clearCells_47 : decode cX6_clearCells 47 = .ok (.iinc 1 1, 3) := by decide +kernel
theorem dX6_clearCells_50 : decode cX6_clearCells 50 = .ok (.goto (-48), 3) := by decide +kernel
theorem dX6_clearCells_53 : decode cX6_clearCells 53 = .ok (.return_, 1) := by decide +kernel
theorem dX6_placeOnAxis_0 : decode cX6_placeOnAxis 0 = .ok (.aload_n 0, 1) := by decide +kernel
theorem dX6_placeOnAxis_1 : decode cX6_placeOnAxis 1 = .ok (.getfield 18, 3) := by decide +kernel
theorem dX6_placeOnAxis_4 : decode cX6_placeOnAxis 4 = .ok (.getfield 166, 3) := by decide +kernel
theorem dX6_placeOnAxis_7 : decode cX6_placeOnAxis 7 = .ok (.aload_n 2, 1) := by decide +kernel
theorem dX6_placeOnAxis_8 : decode cX6_placeOnAxis 8 = .ok (.getfield 216, 3) := by decide +kernel
theorem dX6_placeOnAxis_11 : decode cX6_placeOnAxis 11 = .ok (.aaload, 1) := by decide +kernel
theorem dX6_placeOnAxis_12 : decode cX6_placeOnAxis 12 = .ok (.iload_n 1, 1) := by decide +kernel
theorem dX6_placeOnAxis_13 : decode cX6_placeOnAxis 13 = .ok (.iaload, 1) := by decide +kernel
theorem dX6_placeOnAxis_14 : decode cX6_placeOnAxis 14 = .ok (.istore_n 3, 1) := by decide +kernel
theorem dX6_placeOnAxis_15 : decode cX6_placeOnAxis 15 = .ok (.aload_n 2, 1) := by decide +kernel
theorem dX6_placeOnAxis_16 : decode cX6_placeOnAxis 16 = .ok (.getfield 363, 3) := by decide +kernel
theorem dX6_placeOnAxis_19 : decode cX6_placeOnAxis 19 = .ok (.aload_n 0, 1) := by decide +kernel
theorem dX6_placeOnAxis_20 : decode cX6_placeOnAxis 20 = .ok (.getfield 11, 3) := by decide +kernel
theorem dX6_placeOnAxis_23 : decode cX6_placeOnAxis 23 = .ok (.aload_n 2, 1) := by decide +kernel
theorem dX6_placeOnAxis_24 : decode cX6_placeOnAxis 24 = .ok (.getfield 216, 3) := by decide +kernel
theorem dX6_placeOnAxis_27 : decode cX6_placeOnAxis 27 = .ok (.aaload, 1) := by decide +kernel
theorem dX6_placeOnAxis_28 : decode cX6_placeOnAxis 28 = .ok (.iload_n 3, 1) := by decide +kernel
theorem dX6_placeOnAxis_29 : decode cX6_placeOnAxis 29 = .ok (.aload_n 2, 1) := by decide +kernel
theorem dX6_placeOnAxis_30 : decode cX6_placeOnAxis 30 = .ok (.getfield 219, 3) := by decide +kernel
theorem dX6_placeOnAxis_33 : decode cX6_placeOnAxis 33 = .ok (.invokevirtual 334, 3) := by decide +kernel
theorem dX6_placeOnAxis_36 : decode cX6_placeOnAxis 36 = .ok (.invokevirtual 337, 3) := by decide +kernel
theorem dX6_placeOnAxis_39 : decode cX6_placeOnAxis 39 = .ok (.ireturn, 1) := by decide +kernel
theorem dX6_putIntoCell_0 : decode cX6_putIntoCell 0 = .ok (.aload_n 0, 1) := by decide +kernel
theorem dX6_putIntoCell_1 : decode cX6_putIntoCell 1 = .ok (.iload_n 1, 1) := by decide +kernel
theorem dX6_putIntoCell_2 : decode cX6_putIntoCell 2 = .ok (.aload_n 0, 1) := by decide +kernel
theorem dX6_putIntoCell_3 : decode cX6_putIntoCell 3 = .ok (.getfield 32, 3) := by decide +kernel
theorem dX6_putIntoCell_6 : decode cX6_putIntoCell 6 = .ok (.invokevirtual 367, 3) := by decide +kernel
theorem dX6_putIntoCell_9 : decode cX6_putIntoCell 9 = .ok (.istore_n 2, 1) := by decide +kernel
theorem dX6_putIntoCell_10 : decode cX6_putIntoCell 10 = .ok (.aload_n 0, 1) := by decide +kernel
theorem dX6_putIntoCell_11 : decode cX6_putIntoCell 11 = .ok (.iload_n 1, 1) := by decide +kernel
theorem dX6_putIntoCell_12 : decode cX6_putIntoCell 12 = .ok (.aload_n 0, 1) := by decide +kernel
theorem dX6_putIntoCell_13 : decode cX6_putIntoCell 13 = .ok (.getfield 36, 3) := by decide +kernel
theorem dX6_putIntoCell_16 : decode cX6_putIntoCell 16 = .ok (.invokevirtual 367, 3) := by decide +kernel
theorem dX6_putIntoCell_19 : decode cX6_putIntoCell 19 = .ok (.istore_n 3, 1) := by decide +kernel
theorem dX6_putIntoCell_20 : decode cX6_putIntoCell 20 = .ok (.aload_n 0, 1) := by decide +kernel
theorem dX6_putIntoCell_21 : decode cX6_putIntoCell 21 = .ok (.getfield 32, 3) := by decide +kernel
theorem dX6_putIntoCell_24 : decode cX6_putIntoCell 24 = .ok (.getfield 363, 3) := by decide +kernel
theorem dX6_putIntoCell_27 : decode cX6_putIntoCell 27 = .ok (.iload_n 2, 1) := by decide +kernel
theorem dX6_putIntoCell_28 : decode cX6_putIntoCell 28 = .ok (.invokevirtual 138, 3) := by decide +kernel
theorem dX6_putIntoCell_31 : decode cX6_putIntoCell 31 = .ok (.ifCond .eq 57, 3) := by decide +kernel
theorem dX6_putIntoCell_34 : decode cX6_putIntoCell 34 = .ok (.aload_n 0, 1) := by decide +kernel
theorem dX6_putIntoCell_35 : decode cX6_putIntoCell 35 = .ok (.getfield 36, 3) := by decide +kernel
theorem dX6_putIntoCell_38 : decode cX6_putIntoCell 38 = .ok (.getfield 363, 3) := by decide +kernel
theorem dX6_putIntoCell_41 : decode cX6_putIntoCell 41 = .ok (.iload_n 3, 1) := by decide +kernel
theorem dX6_putIntoCell_42 : decode cX6_putIntoCell 42 = .ok (.invokevirtual 138, 3) := by decide +kernel
theorem dX6_putIntoCell_45 : decode cX6_putIntoCell 45 = .ok (.ifCond .eq 43, 3) := by decide +kernel
theorem dX6_putIntoCell_48 : decode cX6_putIntoCell 48 = .ok (.aload_n 0, 1) := by decide +kernel
theorem dX6_putIntoCell_49 : decode cX6_putIntoCell 49 = .ok (.getfield 55, 3) := by decide +kernel
theorem dX6_putIntoCell_52 : decode cX6_putIntoCell 52 = .ok (.iload_n 2, 1) := by decide +kernel
theorem dX6_putIntoCell_53 : decode cX6_putIntoCell 53 = .ok (.aaload, 1) := by decide +kernel
theorem dX6_putIntoCell_54 : decode cX6_putIntoCell 54 = .ok (.iload_n 3, 1) := by decide +kernel
theorem dX6_putIntoCell_55 : decode cX6_putIntoCell 55 = .ok (.dup2, 1) := by decide +kernel
theorem dX6_putIntoCell_56 : decode cX6_putIntoCell 56 = .ok (.iaload, 1) := by decide +kernel
theorem dX6_putIntoCell_57 : decode cX6_putIntoCell 57 = .ok (.aload_n 0, 1) := by decide +kernel
theorem dX6_putIntoCell_58 : decode cX6_putIntoCell 58 = .ok (.getfield 18, 3) := by decide +kernel
theorem dX6_putIntoCell_61 : decode cX6_putIntoCell 61 = .ok (.getfield 163, 3) := by decide +kernel
theorem dX6_putIntoCell_64 : decode cX6_putIntoCell 64 = .ok (.iload_n 1, 1) := by decide +kernel
theorem dX6_putIntoCell_65 : decode cX6_putIntoCell 65 = .ok (.iaload, 1) := by decide +kernel
theorem dX6_putIntoCell_66 : decode cX6_putIntoCell 66 = .ok (.iadd, 1) := by decide +kernel
theorem dX6_putIntoCell_67 : decode cX6_putIntoCell 67 = .ok (.iastore, 1) := by decide +kernel
theorem dX6_putIntoCell_68 : decode cX6_putIntoCell 68 = .ok (.aload_n 0, 1) := by decide +kernel
theorem dX6_putIntoCell_69 : decode cX6_putIntoCell 69 = .ok (.getfield 32, 3) := by decide +kernel
theorem dX6_putIntoCell_72 : decode cX6_putIntoCell 72 = .ok (.getfield 371, 3) := by decide +kernel
theorem dX6_putIntoCell_75 : decode cX6_putIntoCell 75 = .ok (.iload_n 2, 1) := by decide +kernel
theorem dX6_putIntoCell_76 : decode cX6_putIntoCell 76 = .ok (.iconst 1, 1) := by decide +kernel
theorem dX6_putIntoCell_77 : decode cX6_putIntoCell 77 = .ok (.bastore, 1) := by decide +kernel
theorem dX6_putIntoCell_78 : decode cX6_putIntoCell 78 = .ok (.aload_n 0, 1) := by decide +kernel
theorem dX6_putIntoCell_79 : decode cX6_putIntoCell 79 = .ok (.getfield 36, 3) := by decide +kernel
theorem dX6_putIntoCell_82 : decode cX6_putIntoCell 82 = .ok (.getfield 371, 3) := by decide +kernel
theorem dX6_putIntoCell_85 : decode cX6_putIntoCell 85 = .ok (.iload_n 3, 1) := by decide +kernel
theorem dX6_putIntoCell_86 : decode cX6_putIntoCell 86 = .ok (.iconst 1, 1) := by decide +kernel
theorem dX6_putIntoCell_87 : decode cX6_putIntoCell 87 = .ok (.bastore, 1) := by decide +kernel
theorem dX6_putIntoCell_88 : decode cX6_putIntoCell 88 = .ok (.return_, 1) := by decide +kernel
/-! by program: wip/whole/gen.py out of wip/whole/src/16.tables.eb -/
/-! EbbTable: tables -/
set_option maxRecDepth 100000 in
set_option maxHeartbeats 8000000 in
theorem c_X6_layAxis {l : Launch} {D : va_G} {cys : Nat → ClassId} {ad : Nat → Int → Nat} {L : List Nat} {g : Nat → va_E} {X : Int64} {Z : ZT} (hi : injA ad) {S : ZT} {i : Int} (hS : SP S Z) (hW : WF S) (ha : S 0 0 7 = 1) (hi2 : 0 ≤ i ∧ i < 2) : CM l D cys ad yX6_layAxis cX6_layAxis 3 none 3 73 0 0 [.ref (ad 0 0), .ref (ad 15 i)] L g X Z (PVZ L g X Z (fun Z' => SP S Z' ∧ LST Z' i (allL S i) ∧ (∀ j, 0 ≤ j → j < 24 → Z' 18 i j = 0) ∧ (∀ k i', ¬ (i' = i ∧ (k = 16 ∨ k = 17 ∨ k = 18)) → Z' k i' = Z k i'))) := by
  refine cm_start hi (by decide +kernel) (Nat.le_of_ble_eq_true rfl) ?_
  intro p_ e_ s_ m_ args_ below_ meth_ c_ A_ Q_ hQ G hr hin
  have hn := hW.n
  have hai := hW.ai ha hi2.1 hi2.2
  have ht := hW.t hai.1 hai.2.1
  have ht1 := ht.1
  have hte := TE.of hS (S 15 i 4)
  have hTZ := hte.ok ht
  have e2 : Z 2 = S 2 := hS.1 2 rfl
  have e154 : Z 15 i 4 = S 15 i 4 := (hS.2 i).1
  have e155 : Z 15 i 5 = S 15 i 5 := (hS.2 i).2
  have hv15 : vd 15 i := ⟨hi2.1, show i < 2 by omega⟩
  have hv16 : vd 16 i := ⟨hi2.1, show i < 4 by omega⟩
  have hv2 : vd 2 (S 15 i 4) := ⟨hai.1, show S 15 i 4 < 4 by omega⟩
  have htz : 0 ≤ Z 2 (S 15 i 4) 5 ∧ Z 2 (S 15 i 4) 5 < Z 2 (S 15 i 4) 4 := by rw [e2]; omega
  have hlv : inR (S 15 i 5) := by omega
  refine j_aload_n G dX6_layAxis_0 rfl ?_
  refine gf_0_0 G dX6_layAxis_1 lf6_11 (by first | assumption | decide) ?_
  refine j_aload_n G dX6_layAxis_4 rfl ?_
  refine gf_15_4 G dX6_layAxis_5 lf6_216 (by first | assumption | decide) ?_
  rw [e154]
  refine al_1 G dX6_layAxis_8 (by first | assumption | decide) (by omega) (by omega) ?_
  refine j_astore_n G dX6_layAxis_9 (by decide) rfl ?_
  refine j_aload_n G dX6_layAxis_10 rfl ?_
  refine j_aload_n G dX6_layAxis_11 rfl ?_
  refine gf_2_5 G dX6_layAxis_12 lf6_150 (by first | assumption | decide) ?_
  refine j_aload_n G dX6_layAxis_15 rfl ?_
  refine gf_15_5 G dX6_layAxis_16 lf6_219 (by first | assumption | decide) ?_
  refine j_aload_n G dX6_layAxis_19 rfl ?_
  refine gf_15_0 G dX6_layAxis_20 lf6_363 (by first | assumption | decide) ?_
  rw [e155]
  refine j_cVVZ G cvX4_listBeneath ml6_134 (c_X4_listBeneath hi hv2 hv16 hTZ htz hlv) dX6_layAxis_23 ⟨by decide, by decide⟩ ⟨by decide, by decide⟩ rfl rfl (Nat.le_of_ble_eq_true rfl) (by first | assumption | decide) rfl rfl rfl (fun Z23 h23 => ?_)
  obtain ⟨hL, hA, hB⟩ := h23
  rw [hte.e_wk, e2] at hL
  have hL : LST Z23 i (allL S i) := hL
  have hS23 : SP S Z23 := ⟨fun k hk => by rw [hA k (by rintro rfl; cases hk) (by rintro rfl; cases hk)]; exact hS.1 k hk, fun i => by rw [hA 15 (by decide) (by decide)]; exact hS.2 i⟩
  refine j_aload_n G dX6_layAxis_26 rfl ?_
  refine j_cVVZ G cvX0_forgetUse ml6_364 (c_X0_forgetUse hi (by first | assumption | omega | decide)) dX6_layAxis_27 ⟨by decide, by decide⟩ ⟨by decide, by decide⟩ rfl rfl (Nat.le_of_ble_eq_true rfl) (by first | assumption | decide) rfl rfl rfl (fun Z27 h27 => ?_)
  refine jr_VZ G hQ hr dX6_layAxis_30 (by decide) (by decide) ?_
  obtain ⟨hA2, hB2⟩ := h27
  refine ⟨⟨fun k hk => ?_, fun i' => ?_⟩, ?_, hB2, fun k i' hk => ?_⟩
  · funext i'
    rw [hA2 k i' (by rintro ⟨rfl, -⟩; cases hk)]
    exact congrFun (hS23.1 k hk) i'
  · rw [hA2 15 i' (by omega)]; exact hS23.2 i'
  · exact hL.of (by rw [hA2 16 i (by omega)]) (by rw [hA2 17 i (by omega)])
  · rw [hA2 k i' (by omega)]
    by_cases e : i' = i
    · rw [hA k (by omega) (by omega)]
    · exact hB k i' e
set_option maxRecDepth 100000 in
set_option maxHeartbeats 8000000 in
theorem c_X6_clearCells {l : Launch} {D : va_G} {cys : Nat → ClassId} {ad : Nat → Int → Nat} {L : List Nat} {g : Nat → va_E} {X : Int64} {Z : ZT} (hi : injA ad)  (h16 : ∀ i, 0 ≤ i → i < 2 → 0 ≤ Z 16 i 1 ∧ Z 16 i 1 ≤ 24) : CM l D cys ad yX6_clearCells cX6_clearCells 3 none 0 0 0 0 [.ref (ad 0 0)] L g X Z (PVZ L g X Z (fun Z' => (∀ k, k ≠ 23 → Z' k = Z k) ∧ ∀ r w : Int, 0 ≤ r → r < Z 16 0 1 → 0 ≤ w → w < Z 16 1 1 → Z' 23 r w = 0)) := by
  refine cm_start hi (by decide +kernel) (Nat.le_of_ble_eq_true rfl) ?_
  intro p_ e_ s_ m_ args_ below_ meth_ c_ A_ Q_ hQ G hr hin
  have hrr := h16 0 (by omega) (by omega)
  have hcc := h16 1 (by omega) (by omega)
  have loop : ∀ (n : Nat) (a : Int) (Y : ZT), 0 ≤ a → a ≤ Z 16 0 1 → (Z 16 0 1 - a).toNat = n → (∀ k, k ≠ 23 → Y k = Z k) → (∀ r w, 0 ≤ r → r < a → 0 ≤ w → w < Z 16 1 1 → Y 23 r w = 0) → JJ p_ l e_ { frames := 0, cells := 0, slots := 0, locals := 0 } s_ m_ args_ below_ meth_ c_ D cys ad A_ Q_ 3 0 0 L g X Y 2 [(0, .ref (ad 0 0)), (1, .int (iI a))] [] := by
    intro n
    induction n with
    | zero =>
      intro a Y h0 h1 h2 h3 h4
      have e : Y 16 0 1 = Z 16 0 1 := by rw [h3 16 (by decide)]
      refine j_iload_n G dX6_clearCells_2 rfl ?_
      refine j_aload_n G dX6_clearCells_3 rfl ?_
      refine gf_0_3 G dX6_clearCells_4 lf6_32 (by first | assumption | decide) ?_
      refine gf_15_0 G dX6_clearCells_7 lf6_363 (by first | assumption | decide) ?_
      refine gf_16_1 G dX6_clearCells_10 lf6_191 (by first | assumption | decide) ?_
      refine j_icmp_ge G 53 dX6_clearCells_13 (by decide) (by omega) (by omega) (fun c13 => ?_) (fun c13 => ?_)
      · refine jr_VZ G hQ hr dX6_clearCells_53 (by decide) (by decide) ?_
        exact ⟨h3, fun r w r0 r1 => h4 r w r0 (by omega)⟩
      · exfalso; omega
    | succ n ih =>
      intro a Y h0 h1 h2 h3 h4
      have e : Y 16 0 1 = Z 16 0 1 := by rw [h3 16 (by decide)]
      refine j_iload_n G dX6_clearCells_2 rfl ?_
      refine j_aload_n G dX6_clearCells_3 rfl ?_
      refine gf_0_3 G dX6_clearCells_4 lf6_32 (by first | assumption | decide) ?_
      refine gf_15_0 G dX6_clearCells_7 lf6_363 (by first | assumption | decide) ?_
      refine gf_16_1 G dX6_clearCells_10 lf6_191 (by first | assumption | decide) ?_
      refine j_icmp_ge G 53 dX6_clearCells_13 (by decide) (by omega) (by omega) (fun c13 => ?_) (fun c13 => ?_)
      · exfalso; omega
      · refine j_iconst G dX6_clearCells_16 ?_
        refine j_istore_n G dX6_clearCells_17 (by decide) rfl ?_
        have hv23 : vd 23 a := ⟨h0, show a < 24 by omega⟩
        have inner : ∀ (n : Nat) (b : Int) (V : ZT), 0 ≤ b → b ≤ Z 16 1 1 → (Z 16 1 1 - b).toNat = n → (∀ k, k ≠ 23 → V k = Z k) → (∀ r w, 0 ≤ r → r < a → 0 ≤ w → w < Z 16 1 1 → V 23 r w = 0) → (∀ w, 0 ≤ w → w < b → V 23 a w = 0) → JJ p_ l e_ { frames := 0, cells := 0, slots := 0, locals := 0 } s_ m_ args_ below_ meth_ c_ D cys ad A_ Q_ 3 0 0 L g X V 18 [(0, .ref (ad 0 0)), (1, .int (iI a)), (2, .int (iI b))] [] := by
          intro n2
          induction n2 with
          | zero =>
            intro b V g0 g1 g2 g3 g4 g5
            have e1 : V 16 1 1 = Z 16 1 1 := by rw [g3 16 (by decide)]
            refine j_iload_n G dX6_clearCells_18 rfl ?_
            refine j_aload_n G dX6_clearCells_19 rfl ?_
            refine gf_0_4 G dX6_clearCells_20 lf6_36 (by first | assumption | decide) ?_
            refine gf_15_0 G dX6_clearCells_23 lf6_363 (by first | assumption | decide) ?_
            refine gf_16_1 G dX6_clearCells_26 lf6_191 (by first | assumption | decide) ?_
            refine j_icmp_ge G 47 dX6_clearCells_29 (by decide) (by omega) (by omega) (fun c29 => ?_) (fun c29 => ?_)
            · refine j_iinc G dX6_clearCells_47 rfl (by decide) rfl ?_
              refine j_goto G 2 dX6_clearCells_50 (by decide) ?_
              refine j_keep [0, 1] ?_
              refine ih (a + 1) V (by omega) (by omega) (by omega) g3 (fun r w r0 r1 w0 w1 => ?_)
              by_cases e : r = a
              · subst e; exact g5 w w0 (by omega)
              · exact g4 r w r0 (by omega) w0 w1
            · exfalso; omega
          | succ n2 ih2 =>
            intro b V g0 g1 g2 g3 g4 g5
            have e1 : V 16 1 1 = Z 16 1 1 := by rw [g3 16 (by decide)]
            refine j_iload_n G dX6_clearCells_18 rfl ?_
            refine j_aload_n G dX6_clearCells_19 rfl ?_
            refine gf_0_4 G dX6_clearCells_20 lf6_36 (by first | assumption | decide) ?_
            refine gf_15_0 G dX6_clearCells_23 lf6_363 (by first | assumption | decide) ?_
            refine gf_16_1 G dX6_clearCells_26 lf6_191 (by first | assumption | decide) ?_
            refine j_icmp_ge G 47 dX6_clearCells_29 (by decide) (by omega) (by omega) (fun c29 => ?_) (fun c29 => ?_)
            · exfalso; omega
            · refine j_aload_n G dX6_clearCells_32 rfl ?_
              refine gf_0_11 G dX6_clearCells_33 lf6_55 (by first | assumption | decide) ?_
              refine j_iload_n G dX6_clearCells_36 rfl ?_
              refine al_22 G dX6_clearCells_37 (by first | assumption | decide) (by omega) (by omega) ?_
              refine j_iload_n G dX6_clearCells_38 rfl ?_
              refine j_iconst G dX6_clearCells_39 ?_
              refine as_23 G dX6_clearCells_40 (by first | assumption | decide) (by omega) (by omega) ?_
              refine j_iinc G dX6_clearCells_41 rfl (by decide) rfl ?_
              refine j_goto G 18 dX6_clearCells_44 (by decide) ?_
              refine ih2 (b + 1) _ (by omega) (by omega) (by omega) (fun k hk => ?_) (fun r w r0 r1 w0 w1 => ?_) (fun w w0 w1 => ?_)
              · rw [zS_k hk]; exact g3 k hk
              · rw [zS_o (by omega)]; exact g4 r w r0 r1 w0 w1
              · rw [zS_v]
                split
                · rfl
                · exact g5 w w0 (by omega)
        exact inner _ 0 Y (by omega) (by omega) rfl h3 h4 (fun w w0 w1 => by omega)
  refine j_iconst G dX6_clearCells_0 ?_
  refine j_istore_n G dX6_clearCells_1 (by decide) rfl ?_
  exact loop _ 0 Z (by omega) (by omega) rfl (fun _ _ => rfl) (fun r w a b => by omega)
set_option maxRecDepth 100000 in
set_option maxHeartbeats 8000000 in
theorem c_X6_placeOnAxis {l : Launch} {D : va_G} {cys : Nat → ClassId} {ad : Nat → Int → Nat} {L : List Nat} {g : Nat → va_E} {X : Int64} {Z : ZT} (hi : injA ad) {S : ZT} {i k : Int} (hS : SP S Z) (hW : WF S) (ha : S 0 0 7 = 1) (hi2 : 0 ≤ i ∧ i < 2) (hk : 0 ≤ k ∧ k < S 6 0 3) (hL : LST Z i (allL S i)) : CM l D cys ad yX6_placeOnAxis cX6_placeOnAxis 4 (some .int) 2 45 0 0 [.ref (ad 0 0), .int (iI k), .ref (ad 15 i)] L g X Z (PI L g X Z (fun r => (0 ≤ r ∧ r < (allL S i).length ∧ bel S (S 15 i 4) (S 8 (S 15 i 4) k) ((allL S i).getD r.toNat 0) ∧ ∀ w ∈ allL S i, bel S (S 15 i 4) (S 8 (S 15 i 4) k) w → w = (allL S i).getD r.toNat 0) ∨ (r = -1 ∧ ∀ w ∈ allL S i, ¬ bel S (S 15 i 4) (S 8 (S 15 i 4) k) w))) := by
  refine cm_start hi (by decide +kernel) (Nat.le_of_ble_eq_true rfl) ?_
  intro p_ e_ s_ m_ args_ below_ meth_ c_ A_ Q_ hQ G hr hin
  have hn := hW.n
  have hf := hW.f
  have hai := hW.ai ha hi2.1 hi2.2
  have ht := hW.t hai.1 hai.2.1
  have ht1 := ht.1
  have hte := TE.of hS (S 15 i 4)
  have hTZ := hte.ok ht
  have hal := allL_ok hW ha hi2.1 hi2.2
  have e154 : Z 15 i 4 = S 15 i 4 := (hS.2 i).1
  have e155 : Z 15 i 5 = S 15 i 5 := (hS.2 i).2
  have hv15 : vd 15 i := ⟨hi2.1, show i < 2 by omega⟩
  have hv16 : vd 16 i := ⟨hi2.1, show i < 4 by omega⟩
  have hv2 : vd 2 (S 15 i 4) := ⟨hai.1, show S 15 i 4 < 4 by omega⟩
  have hv8 : vd 8 (S 15 i 4) := ⟨hai.1, show S 15 i 4 < 4 by omega⟩
  have hl := (hW.fk hk.1 hk.2).1 _ hai.1 hai.2.1
  have e8 : Z 8 (S 15 i 4) k = S 8 (S 15 i 4) k := by rw [hS.1 8 rfl]
  have e24 : Z 2 (S 15 i 4) 4 = S 2 (S 15 i 4) 4 := by rw [hS.1 2 rfl]
  have hlz : 0 ≤ Z 8 (S 15 i 4) k ∧ Z 8 (S 15 i 4) k < Z 2 (S 15 i 4) 4 := by omega
  have hlen := hL.1
  have h16 : 0 ≤ Z 16 i 1 ∧ Z 16 i 1 ≤ 24 := by omega
  have hvals : ∀ j, 0 ≤ j → j < Z 16 i 1 → inR (Z 17 i j) := fun j j0 j1 => by
    have := (hal.2.2 _ (hL.at j0 (by omega)).2.1).1
    omega
  have hbel : ∀ w ∈ allL S i, bel S (S 15 i 4) (S 8 (S 15 i 4) k) w ↔ abv S (S 15 i 4) (S 8 (S 15 i 4) k) (S 15 i 5) = w := fun w hw => by
    have := hal.2.2 w hw
    exact bel_abv this.2 (by omega)
  refine j_aload_n G dX6_placeOnAxis_0 rfl ?_
  refine gf_0_1 G dX6_placeOnAxis_1 lf6_18 (by first | assumption | decide) ?_
  refine gf_6_0 G dX6_placeOnAxis_4 lf6_166 (by first | assumption | decide) ?_
  refine j_aload_n G dX6_placeOnAxis_7 rfl ?_
  refine gf_15_4 G dX6_placeOnAxis_8 lf6_216 (by first | assumption | decide) ?_
  rw [e154]
  refine al_7 G dX6_placeOnAxis_11 (by first | assumption | decide) (by omega) (by omega) ?_
  refine j_iload_n G dX6_placeOnAxis_12 rfl ?_
  refine al_8 G dX6_placeOnAxis_13 (by first | assumption | decide) (by omega) (by omega) ?_
  refine j_istore_n G dX6_placeOnAxis_14 (by decide) rfl ?_
  refine j_aload_n G dX6_placeOnAxis_15 rfl ?_
  refine gf_15_0 G dX6_placeOnAxis_16 lf6_363 (by first | assumption | decide) ?_
  refine j_aload_n G dX6_placeOnAxis_19 rfl ?_
  refine gf_0_0 G dX6_placeOnAxis_20 lf6_11 (by first | assumption | decide) ?_
  refine j_aload_n G dX6_placeOnAxis_23 rfl ?_
  refine gf_15_4 G dX6_placeOnAxis_24 lf6_216 (by first | assumption | decide) ?_
  rw [e154]
  refine al_1 G dX6_placeOnAxis_27 (by first | assumption | decide) (by omega) (by omega) ?_
  refine j_iload_n G dX6_placeOnAxis_28 rfl ?_
  refine j_aload_n G dX6_placeOnAxis_29 rfl ?_
  refine gf_15_5 G dX6_placeOnAxis_30 lf6_219 (by first | assumption | decide) ?_
  rw [e155]
  refine j_cVI G cvX4_aboveOn ml6_334 (c_X4_aboveOn hi hv2 hTZ hlz (by omega)) dX6_placeOnAxis_33 ⟨by decide, by decide⟩ ⟨by decide, by decide⟩ rfl rfl (Nat.le_of_ble_eq_true rfl) (by first | assumption | decide) rfl rfl rfl (fun r33 h33 => ?_)
  rw [hte.e_abv, e8] at h33
  have hir : inR r33 := by
    have := abv_ok ht hl.1 hl.2.1 hai.2.2.1
    omega
  refine j_cVI G cvX3_placeOf ml6_337 (c_X3_placeOf hi hv16 h16 hir hvals) dX6_placeOnAxis_36 ⟨by decide, by decide⟩ ⟨by decide, by decide⟩ rfl rfl (Nat.le_of_ble_eq_true rfl) (by first | assumption | decide) rfl rfl rfl (fun r36 h36 => ?_)
  refine jr_I G hQ hr dX6_placeOnAxis_39 (by decide) (by decide) ?_
  have hfd := hL.found h36
  rw [h33] at hfd
  rcases hfd with q | q
  · refine Or.inl ⟨q.1, q.2.1, ?_, fun w hw hb => ?_⟩
    · rw [q.2.2.1]; exact (hbel _ q.2.2.2).mpr rfl
    · rw [q.2.2.1]; exact ((hbel w hw).mp hb).symm
  · exact Or.inr ⟨q.1, fun w hw hb => q.2 ((hbel w hw).mp hb ▸ hw)⟩
set_option maxRecDepth 100000 in
set_option maxHeartbeats 8000000 in
theorem c_X6_putIntoCell {l : Launch} {D : va_G} {cys : Nat → ClassId} {ad : Nat → Int → Nat} {L : List Nat} {g : Nat → va_E} {X : Int64} {Z : ZT} (hi : injA ad) {S : ZT} {k : Int} (hS : SP S Z) (hW : WF S) (ha : S 0 0 7 = 1) (hk : 0 ≤ k ∧ k < S 6 0 3) (hL0 : LST Z 0 (allL S 0)) (hL1 : LST Z 1 (allL S 1)) : CM l D cys ad yX6_putIntoCell cX6_putIntoCell 4 none 3 68 0 0 [.ref (ad 0 0), .int (iI k)] L g X Z (PVZ L g X Z (fun Z' => (∃ r w : Int, (0 ≤ r ∧ r < (allL S 0).length ∧ bel S (S 15 0 4) (S 8 (S 15 0 4) k) ((allL S 0).getD r.toNat 0) ∧ ∀ m ∈ allL S 0, bel S (S 15 0 4) (S 8 (S 15 0 4) k) m → m = (allL S 0).getD r.toNat 0) ∧ (0 ≤ w ∧ w < (allL S 1).length ∧ bel S (S 15 1 4) (S 8 (S 15 1 4) k) ((allL S 1).getD w.toNat 0) ∧ ∀ m ∈ allL S 1, bel S (S 15 1 4) (S 8 (S 15 1 4) k) m → m = (allL S 1).getD w.toNat 0) ∧ Z' = zS (zS (zS Z 23 r w (Z 23 r w + S 9 0 k)) 18 0 r 1) 18 1 w 1) ∨ (Z' = Z ∧ ((∀ m ∈ allL S 0, ¬ bel S (S 15 0 4) (S 8 (S 15 0 4) k) m) ∨ (∀ m ∈ allL S 1, ¬ bel S (S 15 1 4) (S 8 (S 15 1 4) k) m))))) := by
  refine cm_start hi (by decide +kernel) (Nat.le_of_ble_eq_true rfl) ?_
  intro p_ e_ s_ m_ args_ below_ meth_ c_ A_ Q_ hQ G hr hin
  have hf := hW.f
  have ha0 := allL_ok hW ha (i := 0) (by omega) (by omega)
  have ha1 := allL_ok hW ha (i := 1) (by omega) (by omega)
  have hl0 := hL0.1
  have hl1 := hL1.1
  have e9 : Z 9 0 k = S 9 0 k := by rw [hS.1 9 rfl]
  have hz : (0 : Int) ≤ 0 ∧ (0 : Int) < 2 := by omega
  have ho : (0 : Int) ≤ 1 ∧ (1 : Int) < 2 := by omega
  have hi0 : inR (Z 16 0 1) := by omega
  have hi1 : inR (Z 16 1 1) := by omega
  refine j_aload_n G dX6_putIntoCell_0 rfl ?_
  refine j_iload_n G dX6_putIntoCell_1 rfl ?_
  refine j_aload_n G dX6_putIntoCell_2 rfl ?_
  refine gf_0_3 G dX6_putIntoCell_3 lf6_32 (by first | assumption | decide) ?_
  refine j_cVI G cvX6_placeOnAxis ml6_367 (c_X6_placeOnAxis hi hS hW ha hz hk hL0) dX6_putIntoCell_6 ⟨by decide, by decide⟩ ⟨by decide, by decide⟩ rfl rfl (Nat.le_of_ble_eq_true rfl) (by first | assumption | decide) rfl rfl rfl (fun r6 h6 => ?_)
  have hr6 : inR r6 := by omega
  refine j_istore_n G dX6_putIntoCell_9 (by decide) rfl ?_
  refine j_aload_n G dX6_putIntoCell_10 rfl ?_
  refine j_iload_n G dX6_putIntoCell_11 rfl ?_
  refine j_aload_n G dX6_putIntoCell_12 rfl ?_
  refine gf_0_4 G dX6_putIntoCell_13 lf6_36 (by first | assumption | decide) ?_
  refine j_cVI G cvX6_placeOnAxis ml6_367 (c_X6_placeOnAxis hi hS hW ha ho hk hL1) dX6_putIntoCell_16 ⟨by decide, by decide⟩ ⟨by decide, by decide⟩ rfl rfl (Nat.le_of_ble_eq_true rfl) (by first | assumption | decide) rfl rfl rfl (fun r16 h16 => ?_)
  have hr16 : inR r16 := by omega
  refine j_istore_n G dX6_putIntoCell_19 (by decide) rfl ?_
  refine j_aload_n G dX6_putIntoCell_20 rfl ?_
  refine gf_0_3 G dX6_putIntoCell_21 lf6_32 (by first | assumption | decide) ?_
  refine gf_15_0 G dX6_putIntoCell_24 lf6_363 (by first | assumption | decide) ?_
  refine j_iload_n G dX6_putIntoCell_27 rfl ?_
  refine j_cVI G cvX3_hasPlace ml6_138 (c_X3_hasPlace hi (by first | assumption | omega | decide) (by first | assumption | omega | decide) (by first | assumption | omega | decide)) dX6_putIntoCell_28 ⟨by decide, by decide⟩ ⟨by decide, by decide⟩ rfl rfl (Nat.le_of_ble_eq_true rfl) (by first | assumption | decide) rfl rfl rfl (fun r28 h28 => ?_)
  refine j_if_eq G 88 dX6_putIntoCell_31 (by decide) (by omega) (fun c31 => ?_) (fun c31 => ?_)
  · refine jr_VZ G hQ hr dX6_putIntoCell_88 (by decide) (by decide) ?_
    first
    | (refine Or.inl ⟨r6, r16, ?_, ?_, by rw [e9]⟩
       · rcases h6 with q | q
         · exact q
         · exfalso; omega
       · rcases h16 with q | q
         · exact q
         · exfalso; omega)
    | (refine Or.inr ⟨rfl, ?_⟩
       rcases h6 with q | q
       · rcases h16 with q2 | q2
         · exfalso; omega
         · exact Or.inr q2.2
       · exact Or.inl q.2)
  · refine j_aload_n G dX6_putIntoCell_34 rfl ?_
    refine gf_0_4 G dX6_putIntoCell_35 lf6_36 (by first | assumption | decide) ?_
    refine gf_15_0 G dX6_putIntoCell_38 lf6_363 (by first | assumption | decide) ?_
    refine j_iload_n G dX6_putIntoCell_41 rfl ?_
    refine j_cVI G cvX3_hasPlace ml6_138 (c_X3_hasPlace hi (by first | assumption | omega | decide) (by first | assumption | omega | decide) (by first | assumption | omega | decide)) dX6_putIntoCell_42 ⟨by decide, by decide⟩ ⟨by decide, by decide⟩ rfl rfl (Nat.le_of_ble_eq_true rfl) (by first | assumption | decide) rfl rfl rfl (fun r42 h42 => ?_)
    refine j_if_eq G 88 dX6_putIntoCell_45 (by decide) (by omega) (fun c45 => ?_) (fun c45 => ?_)
    · refine jr_VZ G hQ hr dX6_putIntoCell_88 (by decide) (by decide) ?_
      first
      | (refine Or.inl ⟨r6, r16, ?_, ?_, by rw [e9]⟩
         · rcases h6 with q | q
           · exact q
           · exfalso; omega
         · rcases h16 with q | q
           · exact q
           · exfalso; omega)
      | (refine Or.inr ⟨rfl, ?_⟩
         rcases h6 with q | q
         · rcases h16 with q2 | q2
           · exfalso; omega
           · exact Or.inr q2.2
         · exact Or.inl q.2)
    · have h6' : 0 ≤ r6 ∧ r6 < 24 := by omega
      have h16' : 0 ≤ r16 ∧ r16 < 24 := by omega
      have hv23 : vd 23 r6 := ⟨h6'.1, show r6 < 24 by omega⟩
      refine j_aload_n G dX6_putIntoCell_48 rfl ?_
      refine gf_0_11 G dX6_putIntoCell_49 lf6_55 (by first | assumption | decide) ?_
      refine j_iload_n G dX6_putIntoCell_52 rfl ?_
      refine al_22 G dX6_putIntoCell_53 (by first | assumption | decide) (by omega) (by omega) ?_
      refine j_iload_n G dX6_putIntoCell_54 rfl ?_
      refine j_dup2 G dX6_putIntoCell_55 rfl rfl ?_
      refine al_23 G dX6_putIntoCell_56 (by first | assumption | decide) (by omega) (by omega) ?_
      refine j_aload_n G dX6_putIntoCell_57 rfl ?_
      refine gf_0_1 G dX6_putIntoCell_58 lf6_18 (by first | assumption | decide) ?_
      refine gf_6_1 G dX6_putIntoCell_61 lf6_163 (by first | assumption | decide) ?_
      refine j_iload_n G dX6_putIntoCell_64 rfl ?_
      refine al_9 G dX6_putIntoCell_65 (by first | assumption | decide) (by omega) (by omega) ?_
      refine j_iadd G dX6_putIntoCell_66 ?_
      refine as_23 G dX6_putIntoCell_67 (by first | assumption | decide) (by omega) (by omega) ?_
      refine j_aload_n G dX6_putIntoCell_68 rfl ?_
      refine gf_0_3 G dX6_putIntoCell_69 lf6_32 (by first | assumption | decide) ?_
      refine gf_15_1 G dX6_putIntoCell_72 lf6_371 (by first | assumption | decide) ?_
      refine j_iload_n G dX6_putIntoCell_75 rfl ?_
      refine j_iconst G dX6_putIntoCell_76 ?_
      refine as_18 G dX6_putIntoCell_77 (by first | assumption | decide) (by omega) (by omega) (by omega) ?_
      refine j_aload_n G dX6_putIntoCell_78 rfl ?_
      refine gf_0_4 G dX6_putIntoCell_79 lf6_36 (by first | assumption | decide) ?_
      refine gf_15_1 G dX6_putIntoCell_82 lf6_371 (by first | assumption | decide) ?_
      refine j_iload_n G dX6_putIntoCell_85 rfl ?_
      refine j_iconst G dX6_putIntoCell_86 ?_
      refine as_18 G dX6_putIntoCell_87 (by first | assumption | decide) (by omega) (by omega) (by omega) ?_
      refine jr_VZ G hQ hr dX6_putIntoCell_88 (by decide) (by decide) ?_
      try simp (config := { decide := true }) only [zS_k, zS_s, zS_j, ne_eq]
      first
      | (refine Or.inl ⟨r6, r16, ?_, ?_, by rw [e9]⟩
         · rcases h6 with q | q
           · exact q
           · exfalso; omega
         · rcases h16 with q | q
           · exact q
           · exfalso; omega)
      | (refine Or.inr ⟨rfl, ?_⟩
         rcases h6 with q | q
         · rcases h16 with q2 | q2
           · exfalso; omega
           · exact Or.inr q2.2
         · exact Or.inl q.2)
end
section
/-! a table while it is laid -/
theorem shw_tab {W : List Int} {u V : Int → Int} {b V3 : Int} (P : Int → Prop) (h : ∀ j : Int, 0 ≤ j → j < W.length → ((u j = 1 ∨ b = 0) ↔ P (W.getD j.toNat 0))) (h3 : V3 = (shwF u b W.length).length) (hV : ∀ j : Nat, j < (shwF u b W.length).length → (shwF u b W.length)[j]? = some (V j)) :
    V3 = (W.filter (fun m => @decide (P m) (Classical.propDecidable _))).length ∧ ∀ j : Int, 0 ≤ j → j < V3 → 0 ≤ V j ∧ V j < W.length ∧ (W.filter (fun m => @decide (P m) (Classical.propDecidable _))).getD j.toNat 0 = W.getD (V j).toNat 0 := by
  have e := shw_ln (u := u) (b := b) P W W.length (Nat.le_refl _) (fun j hj => by have := h j (by omega) (by omega); simpa using this)
  rw [List.take_length] at e
  refine ⟨by rw [← e, List.length_map]; exact h3, fun j j0 j1 => ?_⟩
  have a := hV j.toNat (by omega)
  rw [Int.toNat_of_nonneg j0] at a
  have m := shwF_in (List.mem_of_getElem? a)
  refine ⟨m.1, m.2.1, ?_⟩
  rw [← e, List.getD_eq_getElem?_getD, List.getElem?_map, a]
  rfl
def usedA (S : ZT) (i o a m : Int) : Prop := ∃ k, 0 ≤ k ∧ k < a ∧ seen S k ∧ bel S (S 15 i 4) (S 8 (S 15 i 4) k) m ∧ ∃ w, w ∈ allL S o ∧ bel S (S 15 o 4) (S 8 (S 15 o 4) k) w
theorem usedA_s {S : ZT} {i o a m : Int} (h : 0 ≤ a) : usedA S i o (a + 1) m ↔ usedA S i o a m ∨ (seen S a ∧ bel S (S 15 i 4) (S 8 (S 15 i 4) a) m ∧ ∃ w, w ∈ allL S o ∧ bel S (S 15 o 4) (S 8 (S 15 o 4) a) w) := by
  constructor
  · rintro ⟨k, k0, k1, k2⟩
    by_cases e : k = a
    · subst e; exact Or.inr k2
    · exact Or.inl ⟨k, k0, by omega, k2⟩
  · rintro (⟨k, k0, k1, k2⟩ | q)
    · exact ⟨k, k0, by omega, k2⟩
    · exact ⟨a, h, by omega, q⟩
def psum (S : ZT) (r w : Int) (n : Nat) : Int → Prop := fun z => z = sumTo (fun k => iv (seen S k ∧ bel S (S 15 0 4) (S 8 (S 15 0 4) k) r ∧ bel S (S 15 1 4) (S 8 (S 15 1 4) k) w) * S 9 0 k) n
/-- with the facts ahead of a laid -/
def LAY (S Y : ZT) (a : Int) : Prop := SP S Y ∧ LST Y 0 (allL S 0) ∧ LST Y 1 (allL S 1) ∧
  (∀ r w : Int, 0 ≤ r → r < (allL S 0).length → 0 ≤ w → w < (allL S 1).length → psum S ((allL S 0).getD r.toNat 0) ((allL S 1).getD w.toNat 0) a.toNat (Y 23 r w)) ∧
  (∀ i j, 0 ≤ i → i < 2 → 0 ≤ j → j < 24 → Y 18 i j = 0 ∨ Y 18 i j = 1) ∧
  (∀ j : Int, 0 ≤ j → j < (allL S 0).length → (Y 18 0 j = 1 ↔ usedA S 0 1 a ((allL S 0).getD j.toNat 0))) ∧
  (∀ j : Int, 0 ≤ j → j < (allL S 1).length → (Y 18 1 j = 1 ↔ usedA S 1 0 a ((allL S 1).getD j.toNat 0)))
theorem getD_mem {W : List Int} {j : Int} (h0 : 0 ≤ j) (h1 : j < W.length) : W.getD j.toNat 0 ∈ W := by
  rw [List.getD_eq_getElem?_getD, List.getElem?_eq_getElem (by omega)]
  exact List.getElem_mem _
theorem getD_inj {W : List Int} (hn : W.Nodup) {i j : Int} (i0 : 0 ≤ i) (i1 : i < W.length) (j0 : 0 ≤ j) (j1 : j < W.length) (e : W.getD i.toNat 0 = W.getD j.toNat 0) : i = j := by
  rw [List.getD_eq_getElem?_getD, List.getD_eq_getElem?_getD, List.getElem?_eq_getElem (by omega), List.getElem?_eq_getElem (by omega)] at e
  have := nd_inj hn (List.getElem?_eq_getElem (l := W) (i := i.toNat) (by omega)) (by rw [Option.getD_some, Option.getD_some] at e; rw [e]; exact List.getElem?_eq_getElem (l := W) (i := j.toNat) (by omega))
  omega
/-- a fact that goes into no cell -/
theorem LAY.none {S Y : ZT} {a : Int} (h : LAY S Y a) (h0 : 0 ≤ a) (hn : ¬ seen S a ∨ (∀ m ∈ allL S 0, ¬ bel S (S 15 0 4) (S 8 (S 15 0 4) a) m) ∨ (∀ m ∈ allL S 1, ¬ bel S (S 15 1 4) (S 8 (S 15 1 4) a) m)) : LAY S Y (a + 1) := by
  obtain ⟨h1, h2, h3, h4, h5, h6, h7⟩ := h
  refine ⟨h1, h2, h3, fun r w r0 r1 w0 w1 => ?_, h5, fun j j0 j1 => ?_, fun j j0 j1 => ?_⟩
  · unfold psum
    rw [sumTo_s h0, iv_f, Int.zero_mul, Int.add_zero]
    · exact h4 r w r0 r1 w0 w1
    · rintro ⟨q1, q2, q3⟩
      rcases hn with q | q | q
      · exact q q1
      · exact q _ (getD_mem r0 r1) q2
      · exact q _ (getD_mem w0 w1) q3
  · rw [usedA_s h0, h6 j j0 j1]
    refine ⟨Or.inl, fun q => q.elim id ?_⟩
    rintro ⟨q1, q2, w, q3, q4⟩
    rcases hn with q | q | q
    · exact absurd q1 q
    · exact absurd q2 (q _ (getD_mem j0 j1))
    · exact absurd q4 (q w q3)
  · rw [usedA_s h0, h7 j j0 j1]
    refine ⟨Or.inl, fun q => q.elim id ?_⟩
    rintro ⟨q1, q2, w, q3, q4⟩
    rcases hn with q | q | q
    · exact absurd q1 q
    · exact absurd q4 (q w q3)
    · exact absurd q2 (q _ (getD_mem j0 j1))
/-- a fact that goes into a cell -/
theorem LAY.some {S Y : ZT} {a r0 w0 : Int} (h : LAY S Y a) (h0 : 0 ≤ a) (hs : seen S a) (n0 : (allL S 0).Nodup) (n1 : (allL S 1).Nodup)
    (hr : 0 ≤ r0 ∧ r0 < (allL S 0).length ∧ bel S (S 15 0 4) (S 8 (S 15 0 4) a) ((allL S 0).getD r0.toNat 0) ∧ ∀ m ∈ allL S 0, bel S (S 15 0 4) (S 8 (S 15 0 4) a) m → m = (allL S 0).getD r0.toNat 0)
    (hw : 0 ≤ w0 ∧ w0 < (allL S 1).length ∧ bel S (S 15 1 4) (S 8 (S 15 1 4) a) ((allL S 1).getD w0.toNat 0) ∧ ∀ m ∈ allL S 1, bel S (S 15 1 4) (S 8 (S 15 1 4) a) m → m = (allL S 1).getD w0.toNat 0) :
    LAY S (zS (zS (zS Y 23 r0 w0 (Y 23 r0 w0 + S 9 0 a)) 18 0 r0 1) 18 1 w0 1) (a + 1) := by
  obtain ⟨h1, h2, h3, h4, h5, h6, h7⟩ := h
  refine ⟨⟨fun k hk => ?_, fun i => ?_⟩, ?_, ?_, fun r w q0 q1 q2 q3 => ?_, fun i j i0 i1 j0 j1 => ?_, fun j j0 j1 => ?_, fun j j0 j1 => ?_⟩
  · rw [zS_k (by rintro rfl; cases hk), zS_k (by rintro rfl; cases hk), zS_k (by rintro rfl; cases hk)]; exact h1.1 k hk
  · rw [zS_k (by decide), zS_k (by decide), zS_k (by decide)]; exact h1.2 i
  · exact h2.of (by rw [zS_k (by decide), zS_k (by decide), zS_k (by decide)]) (by rw [zS_k (by decide), zS_k (by decide), zS_k (by decide)])
  · exact h3.of (by rw [zS_k (by decide), zS_k (by decide), zS_k (by decide)]) (by rw [zS_k (by decide), zS_k (by decide), zS_k (by decide)])
  · unfold psum
    rw [sumTo_s h0, zS_k (by decide), zS_k (by decide)]
    have hp := h4 r w q0 q1 q2 q3
    unfold psum at hp
    by_cases e : r = r0
    · subst e
      rw [zS_v]
      by_cases e2 : w = w0
      · subst e2
        rw [if_pos rfl, hp, iv_t ⟨hs, hr.2.2.1, hw.2.2.1⟩, Int.one_mul]
      · rw [if_neg e2, hp, iv_f, Int.zero_mul, Int.add_zero]
        rintro ⟨-, -, z⟩
        exact e2 (getD_inj n1 q2 q3 hw.1 hw.2.1 (hw.2.2.2 _ (getD_mem q2 q3) z))
    · rw [zS_o (fun z => e z.2), hp, iv_f, Int.zero_mul, Int.add_zero]
      rintro ⟨-, z, -⟩
      exact e (getD_inj n0 q0 q1 hr.1 hr.2.1 (hr.2.2.2 _ (getD_mem q0 q1) z))
  · have := h5 i j i0 i1 j0 j1
    by_cases e1 : i = 1
    · subst e1
      rw [zS_v, zS_o (by omega), zS_k (by decide)]
      split
      · exact Or.inr rfl
      · exact this
    · have e0 : i = 0 := by omega
      subst e0
      rw [zS_o (by omega), zS_v, zS_k (by decide)]
      split
      · exact Or.inr rfl
      · exact this
  · rw [usedA_s h0, zS_o (by omega), zS_v, zS_k (by decide), ← h6 j j0 j1]
    by_cases e : j = r0
    · subst e
      rw [if_pos rfl]
      exact ⟨fun _ => Or.inr ⟨hs, hr.2.2.1, _, getD_mem hw.1 hw.2.1, hw.2.2.1⟩, fun _ => rfl⟩
    · rw [if_neg e]
      refine ⟨Or.inl, fun q => q.elim id ?_⟩
      rintro ⟨-, q2, -⟩
      exact absurd (getD_inj n0 j0 j1 hr.1 hr.2.1 (hr.2.2.2 _ (getD_mem j0 j1) q2)) e
  · rw [usedA_s h0, zS_v, zS_o (by omega), zS_k (by decide), ← h7 j j0 j1]
    by_cases e : j = w0
    · subst e
      rw [if_pos rfl]
      exact ⟨fun _ => Or.inr ⟨hs, hw.2.2.1, _, getD_mem hr.1 hr.2.1, hr.2.2.1⟩, fun _ => rfl⟩
    · rw [if_neg e]
      refine ⟨Or.inl, fun q => q.elim id ?_⟩
      rintro ⟨-, q2, -⟩
      exact absurd (getD_inj n1 j0 j1 hw.1 hw.2.1 (hw.2.2.2 _ (getD_mem j0 j1) q2)) e
end
section
theorem dX6_layTable_0 : decode cX6_layTable 0 = .ok (.aload_n 0, 1) := by decide +kernel
theorem dX6_layTable_1 : decode cX6_layTable 1 = .ok (.aload_n 0, 1) := by decide +kernel
theorem dX6_layTable_2 : decode cX6_layTable 2 = .ok (.getfield 32, 3) := by decide +kernel
theorem dX6_layTable_5 : decode cX6_layTable 5 = .ok (.invokevirtual 349, 3) := by decide +kernel
theorem dX6_layTable_8 : decode cX6_layTable 8 = .ok (.aload_n 0, 1) := by decide +kernel
theorem dX6_layTable_9 : decode cX6_layTable 9 = .ok (.aload_n 0, 1) := by decide +kernel
theorem dX6_layTable_10 : decode cX6_layTable 10 = .ok (.getfield 36, 3) := by decide +kernel
theorem dX6_layTable_13 : decode cX6_layTable 13 = .ok (.invokevirtual 349, 3) := by decide +kernel
theorem dX6_layTable_16 : decode cX6_layTable 16 = .ok (.aload_n 0, 1) := by decide +kernel
theorem dX6_layTable_17 : decode cX6_layTable 17 = .ok (.invokevirtual 353, 3) := by decide +kernel
theorem dX6_layTable_20 : decode cX6_layTable 20 = .ok (.iconst 0, 1) := by decide +kernel
theorem dX6_layTable_21 : decode cX6_layTable 21 = .ok (.istore_n 1, 1) := by decide +kernel
theorem dX6_layTable_22 : decode cX6_layTable 22 = .ok (.iload_n 1, 1) := by decide +kernel
theorem dX6_layTable_23 : decode cX6_layTable 23 = .ok (.aload_n 0, 1) := by decide +kernel
theorem dX6_layTable_24 : decode cX6_layTable 24 = .ok (.getfield 18, 3) := by decide +kernel
theorem dX6_layTable_27 : decode cX6_layTable 27 = .ok (.getfield 160, 3) := by decide +kernel
theorem dX6_layTable_30 : decode cX6_layTable 30 = .ok (.if_icmp .ge 22, 3) := by decide +kernel
theorem dX6_layTable_33 : decode cX6_layTable 33 = .ok (.aload_n 0, 1) := by decide +kernel
theorem dX6_layTable_34 : decode cX6_layTable 34 = .ok (.iload_n 1, 1) := by decide +kernel
theorem dX6_layTable_35 : decode cX6_layTable 35 = .ok (.invokevirtual 175, 3) := by decide +kernel
theorem dX6_layTable_38 : decode cX6_layTable 38 = .ok (.ifCond .eq 8, 3) := by decide +kernel
theorem dX6_layTable_41 : decode cX6_layTable 41 = .ok (.aload_n 0, 1) := by decide +kernel
theorem dX6_layTable_42 : decode cX6_layTable 42 = .ok (.iload_n 1, 1) := by decide +kernel
theorem dX6_layTable_43 : decode cX6_layTable 43 = .ok (.invokevirtual 356, 3) := by decide +kernel
theorem dX6_layTable_46 : decode cX6_layTable 46 = .ok (.iinc 1 1, 3) := by decide +kernel
theorem dX6_layTable_49 : decode cX6_layTable 49 = .ok (.goto (-27), 3) := by decide +kernel
theorem dX6_layTable_52 : decode cX6_layTable 52 = .ok (.aload_n 0, 1) := by decide +kernel
theorem dX6_layTable_53 : decode cX6_layTable 53 = .ok (.getfield 32, 3) := by decide +kernel
theorem dX6_layTable_56 : decode cX6_layTable 56 = .ok (.aload_n 0, 1) := by decide +kernel
theorem dX6_layTable_57 : decode cX6_layTable 57 = .ok (.getfield 232, 3) := by decide +kernel
theorem dX6_layTable_60 : decode cX6_layTable 60 = .ok (.invokevirtual 359, 3) := by decide +kernel
theorem dX6_layTable_63 : decode cX6_layTable 63 = .ok (.aload_n 0, 1) := by decide +kernel
theorem dX6_layTable_64 : decode cX6_layTable 64 = .ok (.getfield 36, 3) := by decide +kernel
theorem dX6_layTable_67 : decode cX6_layTable 67 = .ok (.aload_n 0, 1) := by decide +kernel
theorem dX6_layTable_68 : decode cX6_layTable 68 = .ok (.getfield 232, 3) := by decide +kernel
theorem dX6_layTable_71 : decode cX6_layTable 71 = .ok (.invokevirtual 359, 3) := by decide +kernel
theorem dX6_layTable_74 : decode cX6_layTable 74 = .ok (.return_, 1) := by decide +kernel
theorem dX6_cellOfLines_0 : decode cX6_cellOfLines 0 = .ok (.aload_n 0, 1) := by decide +kernel
theorem dX6_cellOfLines_1 : decode cX6_cellOfLines 1 = .ok (.getfield 32, 3) := by decide +kernel
theorem dX6_cellOfLines_4 : decode cX6_cellOfLines 4 = .ok (.iload_n 1, 1) := by decide +kernel
theorem dX6_cellOfLines_5 : decode cX6_cellOfLines 5 = .ok (.invokevirtual 344, 3) := by decide +kernel
theorem dX6_cellOfLines_8 : decode cX6_cellOfLines 8 = .ok (.ifCond .eq 14, 3) := by decide +kernel
theorem dX6_cellOfLines_11 : decode cX6_cellOfLines 11 = .ok (.aload_n 0, 1) := by decide +kernel
theorem dX6_cellOfLines_12 : decode cX6_cellOfLines 12 = .ok (.getfield 36, 3) := by decide +kernel
theorem dX6_cellOfLines_15 : decode cX6_cellOfLines 15 = .ok (.iload_n 2, 1) := by decide +kernel
theorem dX6_cellOfLines_16 : decode cX6_cellOfLines 16 = .ok (.invokevirtual 344, 3) := by decide +kernel
theorem dX6_cellOfLines_19 : decode cX6_cellOfLines 19 = .ok (.ifCond .ne 5, 3) := by decide +kernel
theorem dX6_cellOfLines_22 : decode cX6_cellOfLines 22 = .ok (.iconst 0, 1) := by decide +kernel
theorem dX6_cellOfLines_23 : decode cX6_cellOfLines 23 = .ok (.ireturn, 1) := by decide +kernel
theorem dX6_cellOfLines_24 : decode cX6_cellOfLines 24 = .ok (.aload_n 0, 1) := by decide +kernel
theorem dX6_cellOfLines_25 : decode cX6_cellOfLines 25 = .ok (.getfield 55, 3) := by decide +kernel
theorem dX6_cellOfLines_28 : decode cX6_cellOfLines 28 = .ok (.aload_n 0, 1) := by decide +kernel
theorem dX6_cellOfLines_29 : decode cX6_cellOfLines 29 = .ok (.getfield 32, 3) := by decide +kernel
theorem dX6_cellOfLines_32 : decode cX6_cellOfLines 32 = .ok (.getfield 374, 3) := by decide +kernel
theorem dX6_cellOfLines_35 : decode cX6_cellOfLines 35 = .ok (.iload_n 1, 1) := by decide +kernel
theorem dX6_cellOfLines_36 : decode cX6_cellOfLines 36 = .ok (.iaload, 1) := by decide +kernel
theorem dX6_cellOfLines_37 : decode cX6_cellOfLines 37 = .ok (.aaload, 1) := by decide +kernel
theorem dX6_cellOfLines_38 : decode cX6_cellOfLines 38 = .ok (.aload_n 0, 1) := by decide +kernel
theorem dX6_cellOfLines_39 : decode cX6_cellOfLines 39 = .ok (.getfield 36, 3) := by decide +kernel
theorem dX6_cellOfLines_42 : decode cX6_cellOfLines 42 = .ok (.getfield 374, 3) := by decide +kernel
theorem dX6_cellOfLines_45 : decode cX6_cellOfLines 45 = .ok (.iload_n 2, 1) := by decide +kernel
theorem dX6_cellOfLines_46 : decode cX6_cellOfLines 46 = .ok (.iaload, 1) := by decide +kernel
theorem dX6_cellOfLines_47 : decode cX6_cellOfLines 47 = .ok (.iaload, 1) := by decide +kernel
theorem dX6_cellOfLines_48 : decode cX6_cellOfLines 48 = .ok (.ireturn, 1) := by decide +kernel
/-! by program: wip/whole/gen.py out of wip/whole/src/17.lay.eb -/
set_option maxRecDepth 100000 in
set_option maxHeartbeats 8000000 in
theorem c_X6_layTable {l : Launch} {D : va_G} {cys : Nat → ClassId} {ad : Nat → Int → Nat} {L : List Nat} {g : Nat → va_E} {X : Int64} {Z : ZT} (hi : injA ad) {S : ZT} (hS : SP S Z) (hW : WF S) (ha : S 0 0 7 = 1) : CM l D cys ad yX6_layTable cX6_layTable 2 none 4 95 0 0 [.ref (ad 0 0)] L g X Z (PVZ L g X Z (fun Z' => TAB S Z')) := by
  refine cm_start hi (by decide +kernel) (Nat.le_of_ble_eq_true rfl) ?_
  intro p_ e_ s_ m_ args_ below_ meth_ c_ A_ Q_ hQ G hr hin
  have hf := hW.f
  have hba := hW.ba
  have ha0 := allL_ok hW ha (i := 0) (by omega) (by omega)
  have ha1 := allL_ok hW ha (i := 1) (by omega) (by omega)
  have hz : (0 : Int) ≤ 0 ∧ (0 : Int) < 2 := by omega
  have ho : (0 : Int) ≤ 1 ∧ (1 : Int) < 2 := by omega
  refine j_aload_n G dX6_layTable_0 rfl ?_
  refine j_aload_n G dX6_layTable_1 rfl ?_
  refine gf_0_3 G dX6_layTable_2 lf6_32 (by first | assumption | decide) ?_
  refine j_cVVZ G cvX6_layAxis ml6_349 (c_X6_layAxis hi hS hW ha hz) dX6_layTable_5 ⟨by decide, by decide⟩ ⟨by decide, by decide⟩ rfl rfl (Nat.le_of_ble_eq_true rfl) (by first | assumption | decide) rfl rfl rfl (fun Z5 h5 => ?_)
  obtain ⟨hS5, hL5, hU5, hF5⟩ := h5
  refine j_aload_n G dX6_layTable_8 rfl ?_
  refine j_aload_n G dX6_layTable_9 rfl ?_
  refine gf_0_4 G dX6_layTable_10 lf6_36 (by first | assumption | decide) ?_
  refine j_cVVZ G cvX6_layAxis ml6_349 (c_X6_layAxis hi hS5 hW ha ho) dX6_layTable_13 ⟨by decide, by decide⟩ ⟨by decide, by decide⟩ rfl rfl (Nat.le_of_ble_eq_true rfl) (by first | assumption | decide) rfl rfl rfl (fun Z13 h13 => ?_)
  obtain ⟨hS13, hL13, hU13, hF13⟩ := h13
  have hL13' : LST Z13 0 (allL S 0) := hL5.of (by rw [hF13 16 0 (by omega)]) (by rw [hF13 17 0 (by omega)])
  have hl0 := hL13'.1
  have hl1 := hL13.1
  have h16 : ∀ i, 0 ≤ i → i < 2 → 0 ≤ Z13 16 i 1 ∧ Z13 16 i 1 ≤ 24 := by
    intro i i0 i1
    rcases (show i = 0 ∨ i = 1 by omega) with rfl | rfl <;> omega
  refine j_aload_n G dX6_layTable_16 rfl ?_
  refine j_cVVZ G cvX6_clearCells ml6_353 (c_X6_clearCells hi h16) dX6_layTable_17 ⟨by decide, by decide⟩ ⟨by decide, by decide⟩ rfl rfl (Nat.le_of_ble_eq_true rfl) (by first | assumption | decide) rfl rfl rfl (fun Z17 h17 => ?_)
  obtain ⟨hA17, hB17⟩ := h17
  have hLAY : LAY S Z17 0 := by
    refine ⟨⟨fun k hk => by rw [hA17 k (by rintro rfl; cases hk)]; exact hS13.1 k hk, fun i => by rw [hA17 15 (by decide)]; exact hS13.2 i⟩, ?_, ?_, fun r w r0 r1 w0 w1 => ?_, fun i j i0 i1 j0 j1 => ?_, fun j j0 j1 => ?_, fun j j0 j1 => ?_⟩
    · exact hL13'.of (by rw [hA17 16 (by decide)]) (by rw [hA17 17 (by decide)])
    · exact hL13.of (by rw [hA17 16 (by decide)]) (by rw [hA17 17 (by decide)])
    · exact hB17 r w r0 (by omega) w0 (by omega)
    · rw [hA17 18 (by decide)]
      rcases (show i = 0 ∨ i = 1 by omega) with rfl | rfl
      · rw [hF13 18 0 (by omega), hU5 j j0 j1]; exact Or.inl rfl
      · rw [hU13 j j0 j1]; exact Or.inl rfl
    · rw [hA17 18 (by decide), hF13 18 0 (by omega), hU5 j j0 (by omega)]
      refine ⟨fun q => by omega, ?_⟩
      rintro ⟨k, k0, k1, -⟩
      omega
    · rw [hA17 18 (by decide), hU13 j j0 (by omega)]
      refine ⟨fun q => by omega, ?_⟩
      rintro ⟨k, k0, k1, -⟩
      omega
  refine j_iconst G dX6_layTable_20 ?_
  refine j_istore_n G dX6_layTable_21 (by decide) rfl ?_
  have loop : ∀ (n : Nat) (a : Int) (Y : ZT), 0 ≤ a → a ≤ S 6 0 3 → (S 6 0 3 - a).toNat = n → LAY S Y a → JJ p_ l e_ { frames := 4, cells := 0, slots := 0, locals := 95 } s_ m_ args_ below_ meth_ c_ D cys ad A_ Q_ 2 0 0 L g X Y 22 [(0, .ref (ad 0 0)), (1, .int (iI a))] [] := by
    intro n
    induction n with
    | zero =>
      intro a Y h0 h1 h2 h3
      have hSY := h3.1
      have e63 : Y 6 0 3 = S 6 0 3 := by rw [hSY.1 6 rfl]
      have e08 : Y 0 0 8 = S 0 0 8 := by rw [hSY.1 0 rfl]
      have ea : a = S 6 0 3 := by omega
      subst ea
      obtain ⟨-, g2, g3, g4, g5, g6, g7⟩ := h3
      have hn0 := g2.1
      have hn1 := g3.1
      have b60 : 0 ≤ Y 16 0 1 ∧ Y 16 0 1 ≤ 24 := by omega
      have u60 : ∀ j, 0 ≤ j → j < Y 16 0 1 → Y 18 0 j = 0 ∨ Y 18 0 j = 1 := fun j j0 j1 => g5 0 j (by omega) (by omega) j0 (by omega)
      have hb60 : Y 0 0 8 = 0 ∨ Y 0 0 8 = 1 := by omega
      refine j_iload_n G dX6_layTable_22 rfl ?_
      refine j_aload_n G dX6_layTable_23 rfl ?_
      refine gf_0_1 G dX6_layTable_24 lf6_18 (by first | assumption | decide) ?_
      refine gf_6_3 G dX6_layTable_27 lf6_160 (by first | assumption | decide) ?_
      refine j_icmp_ge G 52 dX6_layTable_30 (by decide) (by omega) (by omega) (fun c30 => ?_) (fun c30 => ?_)
      · refine j_aload_n G dX6_layTable_52 rfl ?_
        refine gf_0_3 G dX6_layTable_53 lf6_32 (by first | assumption | decide) ?_
        refine j_aload_n G dX6_layTable_56 rfl ?_
        refine gf_0_8 G dX6_layTable_57 lf6_232 (by first | assumption | decide) ?_
        refine j_cVVZ G cvX0_showLines ml6_359 (c_X0_showLines hi (by decide) (by decide) hb60 b60 u60) dX6_layTable_60 ⟨by decide, by decide⟩ ⟨by decide, by decide⟩ rfl rfl (Nat.le_of_ble_eq_true rfl) (by first | assumption | decide) rfl rfl rfl (fun Z60 h60 => ?_)
        obtain ⟨p1, p2, p3, p4⟩ := h60
        have e0 : Z60 0 0 8 = Y 0 0 8 := by rw [p1 0 0 (by omega)]
        have e16 : Z60 16 1 1 = Y 16 1 1 := by rw [p1 16 1 (by omega)]
        have e18 : Z60 18 1 = Y 18 1 := p1 18 1 (by omega)
        have hb71 : Z60 0 0 8 = 0 ∨ Z60 0 0 8 = 1 := by omega
        have b71 : 0 ≤ Z60 16 1 1 ∧ Z60 16 1 1 ≤ 24 := by omega
        have u71 : ∀ j, 0 ≤ j → j < Z60 16 1 1 → Z60 18 1 j = 0 ∨ Z60 18 1 j = 1 := fun j j0 j1 => by rw [e18]; exact g5 1 j (by omega) (by omega) j0 (by omega)
        refine j_aload_n G dX6_layTable_63 rfl ?_
        refine gf_0_4 G dX6_layTable_64 lf6_36 (by first | assumption | decide) ?_
        refine j_aload_n G dX6_layTable_67 rfl ?_
        refine gf_0_8 G dX6_layTable_68 lf6_232 (by first | assumption | decide) ?_
        refine j_cVVZ G cvX0_showLines ml6_359 (c_X0_showLines hi (by decide) (by decide) hb71 b71 u71) dX6_layTable_71 ⟨by decide, by decide⟩ ⟨by decide, by decide⟩ rfl rfl (Nat.le_of_ble_eq_true rfl) (by first | assumption | decide) rfl rfl rfl (fun Z71 h71 => ?_)
        refine jr_VZ G hQ hr dX6_layTable_74 (by decide) (by decide) ?_
        obtain ⟨q1, q2, q3, q4⟩ := h71
        have hS71 : SP S Z71 := by
          refine ⟨fun k hk => ?_, fun i => ?_⟩
          · funext i
            rw [q1 k i (by rintro ⟨rfl | rfl, -⟩ <;> cases hk), p1 k i (by rintro ⟨rfl | rfl, -⟩ <;> cases hk)]
            exact congrFun (hSY.1 k hk) i
          · by_cases e : i = 1
            · subst e
              rw [q2 4 (by decide), q2 5 (by decide), p1 15 1 (by omega)]
              exact hSY.2 1
            · rw [q1 15 i (by omega)]
              by_cases e' : i = 0
              · subst e'
                rw [p2 4 (by decide), p2 5 (by decide)]
                exact hSY.2 0
              · rw [p1 15 i (by omega)]
                exact hSY.2 i
        have t0 : (Y 16 0 1).toNat = (allL S 0).length := by omega
        have t1 : (Z60 16 1 1).toNat = (allL S 1).length := by omega
        rw [t0] at p3 p4
        rw [t1, e18, e0] at q3 q4
        rw [e08] at p3 p4 q3 q4
        have s0 := shw_tab (W := allL S 0) (u := Y 18 0) (V := Z60 19 0) (b := S 0 0 8) (V3 := Z60 15 0 3) (fun m => S 0 0 8 = 0 ∨ usedP S 0 m) (fun j j0 j1 => by
          rw [g6 j j0 j1]
          exact ⟨fun z => z.elim Or.inr Or.inl, fun z => z.elim Or.inr Or.inl⟩) p3 p4
        have s1 := shw_tab (W := allL S 1) (u := Y 18 1) (V := Z71 19 1) (b := S 0 0 8) (V3 := Z71 15 1 3) (fun m => S 0 0 8 = 0 ∨ usedP S 1 m) (fun j j0 j1 => by
          rw [g7 j j0 j1]
          exact ⟨fun z => z.elim Or.inr Or.inl, fun z => z.elim Or.inr Or.inl⟩) q3 q4
        refine ⟨hS71, fun i i0 i1 => ?_, fun r w r0 r1 w0 w1 => ?_⟩
        · rcases (show i = 0 ∨ i = 1 by omega) with rfl | rfl
          · refine ⟨g2.of (by rw [q1 16 0 (by omega), p1 16 0 (by omega)]) (by rw [q1 17 0 (by omega), p1 17 0 (by omega)]), ?_⟩
            rw [q1 15 0 (by omega), q1 19 0 (by omega)]
            exact s0
          · exact ⟨g3.of (by rw [q1 16 1 (by omega), p1 16 1 (by omega)]) (by rw [q1 17 1 (by omega), p1 17 1 (by omega)]), s1⟩
        · rw [q1 23 r (by omega), p1 23 r (by omega)]
          exact g4 r w r0 r1 w0 w1
      · exfalso; omega
    | succ n ih =>
      intro a Y h0 h1 h2 h3
      have hSY := h3.1
      have e63 : Y 6 0 3 = S 6 0 3 := by rw [hSY.1 6 rfl]
      have hak : 0 ≤ a ∧ a < S 6 0 3 := by omega
      have hh1 : 0 ≤ a + 1 := by omega
      have hh2 : a + 1 ≤ S 6 0 3 := by omega
      have hh3 : (S 6 0 3 - (a + 1)).toNat = n := by omega
      refine j_iload_n G dX6_layTable_22 rfl ?_
      refine j_aload_n G dX6_layTable_23 rfl ?_
      refine gf_0_1 G dX6_layTable_24 lf6_18 (by first | assumption | decide) ?_
      refine gf_6_3 G dX6_layTable_27 lf6_160 (by first | assumption | decide) ?_
      refine j_icmp_ge G 52 dX6_layTable_30 (by decide) (by omega) (by omega) (fun c30 => ?_) (fun c30 => ?_)
      · exfalso; omega
      · refine j_aload_n G dX6_layTable_33 rfl ?_
        refine j_iload_n G dX6_layTable_34 rfl ?_
        refine j_cVI G cvX6_isSeen ml6_175 (c_X6_isSeen hi hSY hW hak) dX6_layTable_35 ⟨by decide, by decide⟩ ⟨by decide, by decide⟩ rfl rfl (Nat.le_of_ble_eq_true rfl) (by first | assumption | decide) rfl rfl rfl (fun r35 h35 => ?_)
        refine j_if_eq G 46 dX6_layTable_38 (by decide) (by omega) (fun c38 => ?_) (fun c38 => ?_)
        · refine j_iinc G dX6_layTable_46 rfl (by decide) rfl ?_
          refine j_goto G 22 dX6_layTable_49 (by decide) ?_
          first
          | (refine ih (a + 1) Y (by omega) (by omega) (by omega) (h3.none h0 (Or.inl ?_))
             rcases h35 with q | q
             · exfalso; omega
             · exact q.2)
          | (refine ih (a + 1) Z43 hh1 hh2 hh3 ?_
             rcases h43 with ⟨r, w, q1, q2, q3⟩ | ⟨q1, q2⟩
             · rw [q3]
               refine h3.some h0 ?_ ha0.2.1 ha1.2.1 q1 q2
               rcases h35 with q | q
               · exact q.2
               · exfalso; omega
             · rw [q1]
               exact h3.none h0 (Or.inr q2))
        · refine j_aload_n G dX6_layTable_41 rfl ?_
          refine j_iload_n G dX6_layTable_42 rfl ?_
          refine j_cVVZ G cvX6_putIntoCell ml6_356 (c_X6_putIntoCell hi hSY hW ha hak h3.2.1 h3.2.2.1) dX6_layTable_43 ⟨by decide, by decide⟩ ⟨by decide, by decide⟩ rfl rfl (Nat.le_of_ble_eq_true rfl) (by first | assumption | decide) rfl rfl rfl (fun Z43 h43 => ?_)
          refine j_iinc G dX6_layTable_46 rfl (by decide) rfl ?_
          refine j_goto G 22 dX6_layTable_49 (by decide) ?_
          first
          | (refine ih (a + 1) Y (by omega) (by omega) (by omega) (h3.none h0 (Or.inl ?_))
             rcases h35 with q | q
             · exfalso; omega
             · exact q.2)
          | (refine ih (a + 1) Z43 hh1 hh2 hh3 ?_
             rcases h43 with ⟨r, w, q1, q2, q3⟩ | ⟨q1, q2⟩
             · rw [q3]
               refine h3.some h0 ?_ ha0.2.1 ha1.2.1 q1 q2
               rcases h35 with q | q
               · exact q.2
               · exfalso; omega
             · rw [q1]
               exact h3.none h0 (Or.inr q2))
  exact loop _ 0 Z17 (by omega) (by omega) rfl hLAY
set_option maxRecDepth 100000 in
set_option maxHeartbeats 8000000 in
theorem c_X6_cellOfLines {l : Launch} {D : va_G} {cys : Nat → ClassId} {ad : Nat → Int → Nat} {L : List Nat} {g : Nat → va_E} {X : Int64} {Z : ZT} (hi : injA ad) {S : ZT} {q w : Int} (hT : TAB S Z) (hW : WF S) (ha : S 0 0 7 = 1) (hq : 0 ≤ q ∧ q < (LN S 0).length) (hw : 0 ≤ w ∧ w < (LN S 1).length) : CM l D cys ad yX6_cellOfLines cX6_cellOfLines 3 (some .int) 1 21 0 0 [.ref (ad 0 0), .int (iI q), .int (iI w)] L g X Z (PI L g X Z (fun r => r = tsum S ((LN S 0).getD q.toNat 0) ((LN S 1).getD w.toNat 0))) := by
  refine cm_start hi (by decide +kernel) (Nat.le_of_ble_eq_true rfl) ?_
  intro p_ e_ s_ m_ args_ below_ meth_ c_ A_ Q_ hQ G hr hin
  have ha0 := allL_ok hW ha (i := 0) (by omega) (by omega)
  have ha1 := allL_ok hW ha (i := 1) (by omega) (by omega)
  obtain ⟨hS, hI, hC⟩ := hT
  have h0 := hI 0 (by omega) (by omega)
  have h1 := hI 1 (by omega) (by omega)
  have b0 := h0.2.2 q hq.1 (by omega)
  have b1 := h1.2.2 w hw.1 (by omega)
  have hl0 : (LN S 0).length ≤ (allL S 0).length := by unfold LN; exact List.length_filter_le _ _
  have hl1 : (LN S 1).length ≤ (allL S 1).length := by unfold LN; exact List.length_filter_le _ _
  have e0 := h0.2.1
  have e1 := h1.2.1
  have hv23 : vd 23 (Z 19 0 q) := ⟨b0.1, show Z 19 0 q < 24 by omega⟩
  refine j_aload_n G dX6_cellOfLines_0 rfl ?_
  refine gf_0_3 G dX6_cellOfLines_1 lf6_32 (by first | assumption | decide) ?_
  refine j_iload_n G dX6_cellOfLines_4 rfl ?_
  refine j_cVI G cvX0_hasLine ml6_344 (c_X0_hasLine hi (by first | assumption | omega | decide) (by first | assumption | omega | decide) (by first | assumption | omega | decide)) dX6_cellOfLines_5 ⟨by decide, by decide⟩ ⟨by decide, by decide⟩ rfl rfl (Nat.le_of_ble_eq_true rfl) (by first | assumption | decide) rfl rfl rfl (fun r5 h5 => ?_)
  refine j_if_eq G 22 dX6_cellOfLines_8 (by decide) (by omega) (fun c8 => ?_) (fun c8 => ?_)
  · exfalso; omega
  · refine j_aload_n G dX6_cellOfLines_11 rfl ?_
    refine gf_0_4 G dX6_cellOfLines_12 lf6_36 (by first | assumption | decide) ?_
    refine j_iload_n G dX6_cellOfLines_15 rfl ?_
    refine j_cVI G cvX0_hasLine ml6_344 (c_X0_hasLine hi (by first | assumption | omega | decide) (by first | assumption | omega | decide) (by first | assumption | omega | decide)) dX6_cellOfLines_16 ⟨by decide, by decide⟩ ⟨by decide, by decide⟩ rfl rfl (Nat.le_of_ble_eq_true rfl) (by first | assumption | decide) rfl rfl rfl (fun r16 h16 => ?_)
    refine j_if_ne G 24 dX6_cellOfLines_19 (by decide) (by omega) (fun c19 => ?_) (fun c19 => ?_)
    · refine j_aload_n G dX6_cellOfLines_24 rfl ?_
      refine gf_0_11 G dX6_cellOfLines_25 lf6_55 (by first | assumption | decide) ?_
      refine j_aload_n G dX6_cellOfLines_28 rfl ?_
      refine gf_0_3 G dX6_cellOfLines_29 lf6_32 (by first | assumption | decide) ?_
      refine gf_15_2 G dX6_cellOfLines_32 lf6_374 (by first | assumption | decide) ?_
      refine j_iload_n G dX6_cellOfLines_35 rfl ?_
      refine al_19 G dX6_cellOfLines_36 (by first | assumption | decide) (by omega) (by omega) ?_
      refine al_22 G dX6_cellOfLines_37 (by first | assumption | decide) (by omega) (by omega) ?_
      refine j_aload_n G dX6_cellOfLines_38 rfl ?_
      refine gf_0_4 G dX6_cellOfLines_39 lf6_36 (by first | assumption | decide) ?_
      refine gf_15_2 G dX6_cellOfLines_42 lf6_374 (by first | assumption | decide) ?_
      refine j_iload_n G dX6_cellOfLines_45 rfl ?_
      refine al_19 G dX6_cellOfLines_46 (by first | assumption | decide) (by omega) (by omega) ?_
      refine al_23 G dX6_cellOfLines_47 (by first | assumption | decide) (by omega) (by omega) ?_
      refine jr_I G hQ hr dX6_cellOfLines_48 (by decide) (by decide) ?_
      rw [hC _ _ b0.1 b0.2.1 b1.1 b1.2.1, b0.2.2, b1.2.2]
    · exfalso; omega
end
section
/-! least, greatest, the advice, the checksum -/
noncomputable def lsF (S : ZT) : Nat → Int
  | 0 => 10001
  | n + 1 => @ite _ (S 9 0 n < lsF S n ∧ seen S n) (Classical.propDecidable _) (S 9 0 n) (lsF S n)
noncomputable def gsF (S : ZT) : Nat → Int
  | 0 => -10001
  | n + 1 => @ite _ (gsF S n < S 9 0 n ∧ seen S n) (Classical.propDecidable _) (S 9 0 n) (gsF S n)
noncomputable def LEAST (S : ZT) : Int := if 10000 < lsF S (S 6 0 3).toNat then 0 else lsF S (S 6 0 3).toNat
noncomputable def GREAT (S : ZT) : Int := if gsF S (S 6 0 3).toNat < -10000 then 0 else gsF S (S 6 0 3).toNat
theorem lsF_s {S : ZT} {a : Int} (h : 0 ≤ a) : lsF S (a + 1).toNat = @ite _ (S 9 0 a < lsF S a.toNat ∧ seen S a) (Classical.propDecidable _) (S 9 0 a) (lsF S a.toNat) := by
  rw [show (a + 1).toNat = a.toNat + 1 by omega]
  show @ite _ (S 9 0 (a.toNat : Int) < lsF S a.toNat ∧ seen S (a.toNat : Int)) (Classical.propDecidable _) (S 9 0 (a.toNat : Int)) (lsF S a.toNat) = _
  rw [Int.toNat_of_nonneg h]
theorem gsF_s {S : ZT} {a : Int} (h : 0 ≤ a) : gsF S (a + 1).toNat = @ite _ (gsF S a.toNat < S 9 0 a ∧ seen S a) (Classical.propDecidable _) (S 9 0 a) (gsF S a.toNat) := by
  rw [show (a + 1).toNat = a.toNat + 1 by omega]
  show @ite _ (gsF S a.toNat < S 9 0 (a.toNat : Int) ∧ seen S (a.toNat : Int)) (Classical.propDecidable _) (S 9 0 (a.toNat : Int)) (gsF S a.toNat) = _
  rw [Int.toNat_of_nonneg h]
theorem lsF_in {S : ZT} (hW : WF S) : ∀ n : Nat, (n : Int) ≤ S 6 0 3 → -10000 ≤ lsF S n ∧ lsF S n ≤ 10001
  | 0, _ => ⟨by show (-10000 : Int) ≤ 10001; decide, Int.le_refl _⟩
  | n + 1, h => by
    have ih := lsF_in hW n (by omega)
    have := (hW.fk (k := n) (by omega) (by omega)).2
    unfold lsF
    split <;> omega
theorem gsF_in {S : ZT} (hW : WF S) : ∀ n : Nat, (n : Int) ≤ S 6 0 3 → -10001 ≤ gsF S n ∧ gsF S n ≤ 10000
  | 0, _ => ⟨Int.le_refl _, by show (-10001 : Int) ≤ 10000; decide⟩
  | n + 1, h => by
    have ih := gsF_in hW n (by omega)
    have := (hW.fk (k := n) (by omega) (by omega)).2
    unfold gsF
    split <;> omega
theorem LEAST_in {S : ZT} (hW : WF S) : -10000 ≤ LEAST S ∧ LEAST S ≤ 10000 := by
  have := lsF_in hW (S 6 0 3).toNat (by have := hW.f; omega)
  unfold LEAST
  split <;> omega
theorem GREAT_in {S : ZT} (hW : WF S) : -10000 ≤ GREAT S ∧ GREAT S ≤ 10000 := by
  have := gsF_in hW (S 6 0 3).toNat (by have := hW.f; omega)
  unfold GREAT
  split <;> omega
theorem GAIN_in {S : ZT} (h : WF S) {L : Int} (h1 : L < 256) : 0 ≤ GAIN S L ∧ GAIN S L ≤ 20480 := by
  have key : ∀ n : Nat, 0 ≤ sumTo (fun a => iv (reachP L a) * mx (COST S a - CELLS S L)) n ∧ sumTo (fun a => iv (reachP L a) * mx (COST S a - CELLS S L)) n ≤ 80 * n := by
    intro n
    induction n with
    | zero => simp [sumTo]
    | succ n ih =>
      have a := COST_in h n
      have b := CELLS_in h L
      have cf := h.f
      have m : 0 ≤ mx (COST S n - CELLS S L) ∧ mx (COST S n - CELLS S L) ≤ 80 := by unfold mx; split <;> omega
      show 0 ≤ sumTo _ n + _ ∧ sumTo _ n + _ ≤ _
      rcases iv_01 (reachP L n) with e | e <;> simp only [e] <;> omega
  have := key (L + 1).toNat
  unfold GAIN
  omega
/-- the advice, over the levels ahead of n: its gain and itself -/
noncomputable def adF (S : ZT) : Nat → Int × Int
  | 0 => (-1, 0)
  | n + 1 => @ite _ (LOK S n ∧ (adF S n).1 < GAIN S n) (Classical.propDecidable _) (GAIN S n, (n : Int)) (adF S n)
theorem adF_s {S : ZT} {a : Int} (h : 0 ≤ a) : adF S (a + 1).toNat = @ite _ (LOK S a ∧ (adF S a.toNat).1 < GAIN S a) (Classical.propDecidable _) (GAIN S a, a) (adF S a.toNat) := by
  rw [show (a + 1).toNat = a.toNat + 1 by omega]
  show @ite _ (LOK S (a.toNat : Int) ∧ (adF S a.toNat).1 < GAIN S (a.toNat : Int)) (Classical.propDecidable _) (GAIN S (a.toNat : Int), (a.toNat : Int)) (adF S a.toNat) = _
  rw [Int.toNat_of_nonneg h]
theorem LOK_0 {S : ZT} (hW : WF S) : LOK S 0 := ⟨by decide, by decide, fun d d0 d1 => by
  have := hW.deep d0 d1
  unfold lvl
  split
  · exact this.1
  · split
    · exact this.1
    · split <;> exact this.1⟩
theorem adF_in {S : ZT} (hW : WF S) : ∀ n : Nat, n ≤ 256 → -1 ≤ (adF S n).1 ∧ (adF S n).1 ≤ 20480 ∧ LOK S (adF S n).2
  | 0, _ => ⟨Int.le_refl _, by show (-1 : Int) ≤ 20480; decide, LOK_0 hW⟩
  | n + 1, h => by
    have ih := adF_in hW n (by omega)
    have g := GAIN_in hW (L := n) (by omega)
    unfold adF
    split
    · rename_i q
      exact ⟨by show -1 ≤ GAIN S n; omega, g.2, q.1⟩
    · exact ih
def mI (d : Int64) (z : Int) : Int64 := d * 31 + (iI z).toInt64
def mtF (S : ZT) (d : Int) (x : Int64) : Nat → Int64
  | 0 => x
  | n + 1 => mI (mI (mtF S d x n) (S 3 d n)) (S 4 d n)
def DT (S : ZT) (d : Int) (x : Int64) : Int64 := mI (mI (mtF S d (mI x (S 2 d 4)) (S 2 d 4).toNat) (S 2 d 5)) (lvl (S 0 0 6) d)
/-- the first child with a rank -/
noncomputable def fstR (s : Int → Int) (n : Nat) (q : Int) : Nat → Int → Int
  | 0, _ => -1
  | j + 1, c => @ite _ (ahd s c n = q) (Classical.propDecidable _) c (fstR s n q j (c + 1))
noncomputable def CR (S : ZT) (d q : Int) : Int := fstR (lsum S d) (kids S d).length q (kids S d).length 0
theorem fstR_is {s : Int → Int} {n : Nat} {q r : Int} : ∀ (j : Nat) (c : Int), ((c ≤ r ∧ r < c + j ∧ ahd s r n = q ∧ ∀ i, c ≤ i → i < r → ahd s i n ≠ q) ∨ (r = -1 ∧ ∀ i, c ≤ i → i < c + j → ahd s i n ≠ q)) → r = fstR s n q j c
  | 0, c, h => by
    rcases h with w | w
    · omega
    · exact w.1
  | j + 1, c, h => by
    show _ = @ite _ (ahd s c n = q) (Classical.propDecidable _) c (fstR s n q j (c + 1))
    by_cases e : ahd s c n = q
    · rw [if_pos e]
      rcases h with w | w
      · rcases Int.lt_or_eq_of_le w.1 with z | z
        · exact absurd e (w.2.2.2 c (Int.le_refl _) z)
        · exact z.symm
      · exact absurd e (w.2 c (Int.le_refl _) (by omega))
    · rw [if_neg e]
      refine fstR_is j (c + 1) ?_
      rcases h with w | w
      · refine Or.inl ⟨?_, by omega, w.2.2.1, fun i i0 i1 => w.2.2.2 i (by omega) i1⟩
        rcases Int.lt_or_eq_of_le w.1 with z | z
        · omega
        · subst z; exact absurd w.2.2.1 e
      · exact Or.inr ⟨w.1, fun i i0 i1 => w.2 i (by omega) (by omega)⟩
noncomputable def dlF (S : ZT) (d : Int) (x : Int64) : Nat → Int64
  | 0 => x
  | n + 1 => mI (dlF S d x n) (CR S d n)
noncomputable def DL (S : ZT) (d : Int) (x : Int64) : Int64 := dlF S d (mI x (kids S d).length) (kids S d).length
def ltF (W : List Int) (x : Int64) : Nat → Int64
  | 0 => x
  | n + 1 => mI (ltF W x n) (W.getD n 0)
noncomputable def ctF (S : ZT) (r : Int) (W : List Int) (x : Int64) : Nat → Int64
  | 0 => x
  | n + 1 => mI (ctF S r W x n) (tsum S r (W.getD n 0))
noncomputable def rtF (S : ZT) (R W : List Int) (x : Int64) : Nat → Int64
  | 0 => x
  | n + 1 => ctF S (R.getD n 0) W (rtF S R W x n) W.length
noncomputable def DTB (S : ZT) (x : Int64) : Int64 := rtF S (LN S 0) (LN S 1) (ltF (LN S 1) (ltF (LN S 0) (mI (mI x (LN S 0).length) (LN S 1).length) (LN S 0).length) (LN S 1).length) (LN S 0).length
def dvF (S : ZT) (x : Int64) : Nat → Int64
  | 0 => x
  | n + 1 => mI (mI (dvF S x n) (S 13 0 n)) (S 14 0 n)
def DV (S : ZT) (x : Int64) : Int64 := dvF S (mI x (S 11 0 3)) (S 11 0 3).toNat
def ddF (f : Int → Int64 → Int64) (x : Int64) : Nat → Int64
  | 0 => x
  | n + 1 => f n (ddF f x n)
noncomputable def DIG (S : ZT) : Int64 :=
  let a := ddF (DT S) (mI 2539 (S 0 0 5)) (S 0 0 5).toNat
  let b := mI (mI (mI (mI (mI a (S 6 0 3)) (CNT S)) (SUM S)) (LEAST S)) (GREAT S)
  let c := ddF (DL S) b (S 0 0 5).toNat
  let t := if S 0 0 7 = 1 then DTB S c else c
  mI (mI (mI (mI (DV S t) (CELLS S (S 0 0 6))) (COST S (S 0 0 6))) (VFOR S (S 0 0 6))) (GAIN S (S 0 0 6))
theorem nat_s {α : Type} (f : Nat → α) {a : Int} (h : 0 ≤ a) : f (a + 1).toNat = f (a.toNat + 1) := by rw [show (a + 1).toNat = a.toNat + 1 by omega]
end
section
theorem dX6_dimensions_0 : decode cX6_dimensions 0 = .ok (.aload_n 0, 1) := by decide +kernel
theorem dX6_dimensions_1 : decode cX6_dimensions 1 = .ok (.getfield 66, 3) := by decide +kernel
theorem dX6_dimensions_4 : decode cX6_dimensions 4 = .ok (.ireturn, 1) := by decide +kernel
theorem dX6_facts_0 : decode cX6_facts 0 = .ok (.aload_n 0, 1) := by decide +kernel
theorem dX6_facts_1 : decode cX6_facts 1 = .ok (.getfield 18, 3) := by decide +kernel
theorem dX6_facts_4 : decode cX6_facts 4 = .ok (.getfield 160, 3) := by decide +kernel
theorem dX6_facts_7 : decode cX6_facts 7 = .ok (.ireturn, 1) := by decide +kernel
theorem dX6_views_0 : decode cX6_views 0 = .ok (.aload_n 0, 1) := by decide +kernel
theorem dX6_views_1 : decode cX6_views 1 = .ok (.getfield 25, 3) := by decide +kernel
theorem dX6_views_4 : decode cX6_views 4 = .ok (.getfield 261, 3) := by decide +kernel
theorem dX6_views_7 : decode cX6_views 7 = .ok (.ireturn, 1) := by decide +kernel
theorem dX6_setBare_0 : decode cX6_setBare 0 = .ok (.aload_n 0, 1) := by decide +kernel
theorem dX6_setBare_1 : decode cX6_setBare 1 = .ok (.getfield 232, 3) := by decide +kernel
theorem dX6_setBare_4 : decode cX6_setBare 4 = .ok (.istore_n 2, 1) := by decide +kernel
theorem dX6_setBare_5 : decode cX6_setBare 5 = .ok (.aload_n 0, 1) := by decide +kernel
theorem dX6_setBare_6 : decode cX6_setBare 6 = .ok (.iload_n 1, 1) := by decide +kernel
theorem dX6_setBare_7 : decode cX6_setBare 7 = .ok (.putfield 232, 3) := by decide +kernel
theorem dX6_setBare_10 : decode cX6_setBare 10 = .ok (.iload_n 2, 1) := by decide +kernel
theorem dX6_setBare_11 : decode cX6_setBare 11 = .ok (.ireturn, 1) := by decide +kernel
theorem dX6_count_0 : decode cX6_count 0 = .ok (.iconst 0, 1) := by decide +kernel
theorem dX6_count_1 : decode cX6_count 1 = .ok (.istore_n 1, 1) := by decide +kernel
theorem dX6_count_2 : decode cX6_count 2 = .ok (.iconst 0, 1) := by decide +kernel
theorem dX6_count_3 : decode cX6_count 3 = .ok (.istore_n 2, 1) := by decide +kernel
theorem dX6_count_4 : decode cX6_count 4 = .ok (.iload_n 2, 1) := by decide +kernel
theorem dX6_count_5 : decode cX6_count 5 = .ok (.aload_n 0, 1) := by decide +kernel
theorem dX6_count_6 : decode cX6_count 6 = .ok (.getfield 18, 3) := by decide +kernel
theorem dX6_count_9 : decode cX6_count 9 = .ok (.getfield 160, 3) := by decide +kernel
theorem dX6_count_12 : decode cX6_count 12 = .ok (.if_icmp .ge 20, 3) := by decide +kernel
theorem dX6_count_15 : decode cX6_count 15 = .ok (.aload_n 0, 1) := by decide +kernel
theorem dX6_count_16 : decode cX6_count 16 = .ok (.iload_n 2, 1) := by decide +kernel
theorem dX6_count_17 : decode cX6_count 17 = .ok (.invokevirtual 175, 3) := by decide +kernel
theorem dX6_count_20 : decode cX6_count 20 = .ok (.ifCond .eq 6, 3) := by decide +kernel
theorem dX6_count_23 : decode cX6_count 23 = .ok (.iinc 1 1, 3) := by decide +kernel
theorem dX6_count_26 : decode cX6_count 26 = .ok (.iinc 2 1, 3) := by decide +kernel
theorem dX6_count_29 : decode cX6_count 29 = .ok (.goto (-25), 3) := by decide +kernel
theorem dX6_count_32 : decode cX6_count 32 = .ok (.iload_n 1, 1) := by decide +kernel
theorem dX6_count_33 : decode cX6_count 33 = .ok (.ireturn, 1) := by decide +kernel
theorem dX6_sum_0 : decode cX6_sum 0 = .ok (.iconst 0, 1) := by decide +kernel
theorem dX6_sum_1 : decode cX6_sum 1 = .ok (.istore_n 1, 1) := by decide +kernel
theorem dX6_sum_2 : decode cX6_sum 2 = .ok (.iconst 0, 1) := by decide +kernel
theorem dX6_sum_3 : decode cX6_sum 3 = .ok (.istore_n 2, 1) := by decide +kernel
theorem dX6_sum_4 : decode cX6_sum 4 = .ok (.iload_n 2, 1) := by decide +kernel
theorem dX6_sum_5 : decode cX6_sum 5 = .ok (.aload_n 0, 1) := by decide +kernel
theorem dX6_sum_6 : decode cX6_sum 6 = .ok (.getfield 18, 3) := by decide +kernel
theorem dX6_sum_9 : decode cX6_sum 9 = .ok (.getfield 160, 3) := by decide +kernel
theorem dX6_sum_12 : decode cX6_sum 12 = .ok (.if_icmp .ge 29, 3) := by decide +kernel
theorem dX6_sum_15 : decode cX6_sum 15 = .ok (.aload_n 0, 1) := by decide +kernel
theorem dX6_sum_16 : decode cX6_sum 16 = .ok (.iload_n 2, 1) := by decide +kernel
theorem dX6_sum_17 : decode cX6_sum 17 = .ok (.invokevirtual 175, 3) := by decide +kernel
theorem dX6_sum_20 : decode cX6_sum 20 = .ok (.ifCond .eq 15, 3) := by decide +kernel
theorem dX6_sum_23 : decode cX6_sum 23 = .ok (.iload_n 1, 1) := by decide +kernel
theorem dX6_sum_24 : decode cX6_sum 24 = .ok (.aload_n 0, 1) := by decide +kernel
theorem dX6_sum_25 : decode cX6_sum 25 = .ok (.getfield 18, 3) := by decide +kernel
theorem dX6_sum_28 : decode cX6_sum 28 = .ok (.getfield 163, 3) := by decide +kernel
theorem dX6_sum_31 : decode cX6_sum 31 = .ok (.iload_n 2, 1) := by decide +kernel
theorem dX6_sum_32 : decode cX6_sum 32 = .ok (.iaload, 1) := by decide +kernel
theorem dX6_sum_33 : decode cX6_sum 33 = .ok (.iadd, 1) := by decide +kernel
theorem dX6_sum_34 : decode cX6_sum 34 = .ok (.istore_n 1, 1) := by decide +kernel
theorem dX6_sum_35 : decode cX6_sum 35 = .ok (.iinc 2 1, 3) := by decide +kernel
theorem dX6_sum_38 : decode cX6_sum 38 = .ok (.goto (-34), 3) := by decide +kernel
theorem dX6_sum_41 : decode cX6_sum 41 = .ok (.iload_n 1, 1) := by decide +kernel
theorem dX6_sum_42 : decode cX6_sum 42 = .ok (.ireturn, 1) := by decide +kernel
theorem dX6_least_0 : decode cX6_least 0 = .ok (.sipush 10001, 3) := by decide +kernel
theorem dX6_least_3 : decode cX6_least 3 = .ok (.istore_n 1, 1) := by decide +kernel
theorem dX6_least_4 : decode cX6_least 4 = .ok (.iconst 0, 1) := by decide +kernel
theorem dX6_least_5 : decode cX6_least 5 = .ok (.istore_n 2, 1) := by decide +kernel
theorem dX6_least_6 : decode cX6_least 6 = .ok (.iload_n 2, 1) := by decide +kernel
theorem dX6_least_7 : decode cX6_least 7 = .ok (.aload_n 0, 1) := by decide +kernel
theorem dX6_least_8 : decode cX6_least 8 = .ok (.getfield 18, 3) := by decide +kernel
theorem dX6_least_11 : decode cX6_least 11 = .ok (.getfield 160, 3) := by decide +kernel
theorem dX6_least_14 : decode cX6_least 14 = .ok (.if_icmp .ge 40, 3) := by decide +kernel
theorem dX6_least_17 : decode cX6_least 17 = .ok (.aload_n 0, 1) := by decide +kernel
theorem dX6_least_18 : decode cX6_least 18 = .ok (.getfield 18, 3) := by decide +kernel
theorem dX6_least_21 : decode cX6_least 21 = .ok (.getfield 163, 3) := by decide +kernel
theorem dX6_least_24 : decode cX6_least 24 = .ok (.iload_n 2, 1) := by decide +kernel
theorem dX6_least_25 : decode cX6_least 25 = .ok (.iaload, 1) := by decide +kernel
theorem dX6_least_26 : decode cX6_least 26 = .ok (.iload_n 1, 1) := by decide +kernel
theorem dX6_least_27 : decode cX6_least 27 = .ok (.if_icmp .ge 21, 3) := by decide +kernel
theorem dX6_least_30 : decode cX6_least 30 = .ok (.aload_n 0, 1) := by decide +kernel
theorem dX6_least_31 : decode cX6_least 31 = .ok (.iload_n 2, 1) := by decide +kernel
theorem dX6_least_32 : decode cX6_least 32 = .ok (.invokevirtual 175, 3) := by decide +kernel
theorem dX6_least_35 : decode cX6_least 35 = .ok (.ifCond .eq 13, 3) := by decide +kernel
theorem dX6_least_38 : decode cX6_least 38 = .ok (.aload_n 0, 1) := by decide +kernel
theorem dX6_least_39 : decode cX6_least 39 = .ok (.getfield 18, 3) := by decide +kernel
theorem dX6_least_42 : decode cX6_least 42 = .ok (.getfield 163, 3) := by decide +kernel
theorem dX6_least_45 : decode cX6_least 45 = .ok (.iload_n 2, 1) := by decide +kernel
theorem dX6_least_46 : decode cX6_least 46 = .ok (.iaload, 1) := by decide +kernel
theorem dX6_least_47 : decode cX6_least 47 = .ok (.istore_n 1, 1) := by decide +kernel
theorem dX6_least_48 : decode cX6_least 48 = .ok (.iinc 2 1, 3) := by decide +kernel
theorem dX6_least_51 : decode cX6_least 51 = .ok (.goto (-45), 3) := by decide +kernel
theorem dX6_least_54 : decode cX6_least 54 = .ok (.iload_n 1, 1) := by decide +kernel
theorem dX6_least_55 : decode cX6_least 55 = .ok (.sipush 10000, 3) := by decide +kernel
theorem dX6_least_58 : decode cX6_least 58 = .ok (.if_icmp .le 7, 3) := by decide +kernel
theorem dX6_least_61 : decode cX6_least 61 = .ok (.iconst 0, 1) := by decide +kernel
theorem dX6_least_62 : decode cX6_least 62 = .ok (.goto 4, 3) := by decide +kernel
theorem dX6_least_65 : decode cX6_least 65 = .ok (.iload_n 1, 1) := by decide +kernel
theorem dX6_least_66 : decode cX6_least 66 = .ok (.ireturn, 1) := by decide +kernel
theorem dX6_greatest_0 : decode cX6_greatest 0 = .ok (.sipush (-10001), 3) := by decide +kernel
theorem dX6_greatest_3 : decode cX6_greatest 3 = .ok (.istore_n 1, 1) := by decide +kernel
theorem dX6_greatest_4 : decode cX6_greatest 4 = .ok (.iconst 0, 1) := by decide +kernel
theorem dX6_greatest_5 : decode cX6_greatest 5 = .ok (.istore_n 2, 1) := by decide +kernel
theorem dX6_greatest_6 : decode cX6_greatest 6 = .ok (.iload_n 2, 1) := by decide +kernel
theorem dX6_greatest_7 : decode cX6_greatest 7 = .ok (.aload_n 0, 1) := by decide +kernel
theorem dX6_greatest_8 : decode cX6_greatest 8 = .ok (.getfield 18, 3) := by decide +kernel
theorem dX6_greatest_11 : decode cX6_greatest 11 = .ok (.getfield 160, 3) := by decide +kernel
theorem dX6_greatest_14 : decode cX6_greatest 14 = .ok (.if_icmp .ge 40, 3) := by decide +kernel
theorem dX6_greatest_17 : decode cX6_greatest 17 = .ok (.aload_n 0, 1) := by decide +kernel
theorem dX6_greatest_18 : decode cX6_greatest 18 = .ok (.getfield 18, 3) := by decide +kernel
theorem dX6_greatest_21 : decode cX6_greatest 21 = .ok (.getfield 163, 3) := by decide +kernel
theorem dX6_greatest_24 : decode cX6_greatest 24 = .ok (.iload_n 2, 1) := by decide +kernel
theorem dX6_greatest_25 : decode cX6_greatest 25 = .ok (.iaload, 1) := by decide +kernel
theorem dX6_greatest_26 : decode cX6_greatest 26 = .ok (.iload_n 1, 1) := by decide +kernel
theorem dX6_greatest_27 : decode cX6_greatest 27 = .ok (.if_icmp .le 21, 3) := by decide +kernel
theorem dX6_greatest_30 : decode cX6_greatest 30 = .ok (.aload_n 0, 1) := by decide +kernel
theorem dX6_greatest_31 : decode cX6_greatest 31 = .ok (.iload_n 2, 1) := by decide +kernel
theorem dX6_greatest_32 : decode cX6_greatest 32 = .ok (.invokevirtual 175, 3) := by decide +kernel
theorem dX6_greatest_35 : decode cX6_greatest 35 = .ok (.ifCond .eq 13, 3) := by decide +kernel
theorem dX6_greatest_38 : decode cX6_greatest 38 = .ok (.aload_n 0, 1) := by decide +kernel
theorem dX6_greatest_39 : decode cX6_greatest 39 = .ok (.getfield 18, 3) := by decide +kernel
theorem dX6_greatest_42 : decode cX6_greatest 42 = .ok (.getfield 163, 3) := by decide +kernel
theorem dX6_greatest_45 : decode cX6_greatest 45 = .ok (.iload_n 2, 1) := by decide +kernel
theorem dX6_greatest_46 : decode cX6_greatest 46 = .ok (.iaload, 1) := by decide +kernel
theorem dX6_greatest_47 : decode cX6_greatest 47 = .ok (.istore_n 1, 1) := by decide +kernel
theorem dX6_greatest_48 : decode cX6_greatest 48 = .ok (.iinc 2 1, 3) := by decide +kernel
theorem dX6_greatest_51 : decode cX6_greatest 51 = .ok (.goto (-45), 3) := by decide +kernel
theorem dX6_greatest_54 : decode cX6_greatest 54 = .ok (.iload_n 1, 1) := by decide +kernel
theorem dX6_greatest_55 : decode cX6_greatest 55 = .ok (.sipush (-10000), 3) := by decide +kernel
theorem dX6_greatest_58 : decode cX6_greatest 58 = .ok (.if_icmp .ge 7, 3) := by decide +kernel
theorem dX6_greatest_61 : decode cX6_greatest 61 = .ok (.iconst 0, 1) := by decide +kernel
theorem dX6_greatest_62 : decode cX6_greatest 62 = .ok (.goto 4, 3) := by decide +kernel
theorem dX6_greatest_65 : decode cX6_greatest 65 = .ok (.iload_n 1, 1) := by decide +kernel
theorem dX6_greatest_66 : decode cX6_greatest 66 = .ok (.ireturn, 1) := by decide +kernel
theorem dX6_cellCount_0 : decode cX6_cellCount 0 = .ok (.aload_n 0, 1) := by decide +kernel
theorem dX6_cellCount_1 : decode cX6_cellCount 1 = .ok (.aload_n 0, 1) := by decide +kernel
theorem dX6_cellCount_2 : decode cX6_cellCount 2 = .ok (.getfield 249, 3) := by decide +kernel
theorem dX6_cellCount_5 : decode cX6_cellCount 5 = .ok (.invokevirtual 258, 3) := by decide +kernel
theorem dX6_cellCount_8 : decode cX6_cellCount 8 = .ok (.ireturn, 1) := by decide +kernel
theorem dX6_cost_0 : decode cX6_cost 0 = .ok (.aload_n 0, 1) := by decide +kernel
theorem dX6_cost_1 : decode cX6_cost 1 = .ok (.aload_n 0, 1) := by decide +kernel
theorem dX6_cost_2 : decode cX6_cost 2 = .ok (.getfield 249, 3) := by decide +kernel
theorem dX6_cost_5 : decode cX6_cost 5 = .ok (.invokevirtual 280, 3) := by decide +kernel
theorem dX6_cost_8 : decode cX6_cost 8 = .ok (.ireturn, 1) := by decide +kernel
theorem dX6_answeredBy_0 : decode cX6_answeredBy 0 = .ok (.aload_n 0, 1) := by decide +kernel
theorem dX6_answeredBy_1 : decode cX6_answeredBy 1 = .ok (.aload_n 0, 1) := by decide +kernel
theorem dX6_answeredBy_2 : decode cX6_answeredBy 2 = .ok (.getfield 249, 3) := by decide +kernel
theorem dX6_answeredBy_5 : decode cX6_answeredBy 5 = .ok (.invokevirtual 283, 3) := by decide +kernel
theorem dX6_answeredBy_8 : decode cX6_answeredBy 8 = .ok (.ireturn, 1) := by decide +kernel
theorem dX6_gain_0 : decode cX6_gain 0 = .ok (.aload_n 0, 1) := by decide +kernel
theorem dX6_gain_1 : decode cX6_gain 1 = .ok (.aload_n 0, 1) := by decide +kernel
theorem dX6_gain_2 : decode cX6_gain 2 = .ok (.getfield 249, 3) := by decide +kernel
theorem dX6_gain_5 : decode cX6_gain 5 = .ok (.invokevirtual 286, 3) := by decide +kernel
theorem dX6_gain_8 : decode cX6_gain 8 = .ok (.ireturn, 1) := by decide +kernel
theorem dX6_advise_0 : decode cX6_advise 0 = .ok (.iconst (-1), 1) := by decide +kernel
theorem dX6_advise_1 : decode cX6_advise 1 = .ok (.istore_n 1, 1) := by decide +kernel
theorem dX6_advise_2 : decode cX6_advise 2 = .ok (.iconst 0, 1) := by decide +kernel
theorem dX6_advise_3 : decode cX6_advise 3 = .ok (.istore_n 2, 1) := by decide +kernel
theorem dX6_advise_4 : decode cX6_advise 4 = .ok (.iconst 0, 1) := by decide +kernel
theorem dX6_advise_5 : decode cX6_advise 5 = .ok (.istore_n 3, 1) := by decide +kernel
theorem dX6_advise_6 : decode cX6_advise 6 = .ok (.iload_n 3, 1) := by decide +kernel
theorem dX6_advise_7 : decode cX6_advise 7 = .ok (.sipush 256, 3) := by decide +kernel
theorem dX6_advise_10 : decode cX6_advise 10 = .ok (.if_icmp .ge 39, 3) := by decide +kernel
theorem dX6_advise_13 : decode cX6_advise 13 = .ok (.aload_n 0, 1) := by decide +kernel
theorem dX6_advise_14 : decode cX6_advise 14 = .ok (.iload_n 3, 1) := by decide +kernel
theorem dX6_advise_15 : decode cX6_advise 15 = .ok (.invokevirtual 289, 3) := by decide +kernel
theorem dX6_advise_18 : decode cX6_advise 18 = .ok (.ifCond .eq 11, 3) := by decide +kernel
theorem dX6_advise_21 : decode cX6_advise 21 = .ok (.aload_n 0, 1) := by decide +kernel
theorem dX6_advise_22 : decode cX6_advise 22 = .ok (.iload_n 3, 1) := by decide +kernel
theorem dX6_advise_23 : decode cX6_advise 23 = .ok (.invokevirtual 286, 3) := by decide +kernel
theorem dX6_advise_26 : decode cX6_advise 26 = .ok (.goto 4, 3) := by decide +kernel
theorem dX6_advise_29 : decode cX6_advise 29 = .ok (.iconst (-1), 1) := by decide +kernel
theorem dX6_advise_30 : decode cX6_advise 30 = .ok (.istore 4, 2) := by decide +kernel
theorem dX6_advise_32 : decode cX6_advise 32 = .ok (.iload 4, 2) := by decide +kernel
theorem dX6_advise_34 : decode cX6_advise 34 = .ok (.iload_n 1, 1) := by decide +kernel
theorem dX6_advise_35 : decode cX6_advise 35 = .ok (.if_icmp .le 8, 3) := by decide +kernel
theorem dX6_advise_38 : decode cX6_advise 38 = .ok (.iload 4, 2) := by decide +kernel
theorem dX6_advise_40 : decode cX6_advise 40 = .ok (.istore_n 1, 1) := by decide +kernel
theorem dX6_advise_41 : decode cX6_advise 41 = .ok (.iload_n 3, 1) := by decide +kernel
theorem dX6_advise_42 : decode cX6_advise 42 = .ok (.istore_n 2, 1) := by decide +kernel
theorem dX6_advise_43 : decode cX6_advise 43 = .ok (.iinc 3 1, 3) := by decide +kernel
theorem dX6_advise_46 : decode cX6_advise 46 = .ok (.goto (-40), 3) := by decide +kernel
theorem dX6_advise_49 : decode cX6_advise 49 = .ok (.aload_n 0, 1) := by decide +kernel
theorem dX6_advise_50 : decode cX6_advise 50 = .ok (.iload_n 2, 1) := by decide +kernel
theorem dX6_advise_51 : decode cX6_advise 51 = .ok (.putfield 249, 3) := by decide +kernel
theorem dX6_advise_54 : decode cX6_advise 54 = .ok (.iload_n 1, 1) := by decide +kernel
theorem dX6_advise_55 : decode cX6_advise 55 = .ok (.ireturn, 1) := by decide +kernel
theorem dX6_mix_0 : decode cX6_mix 0 = .ok (.lload_n 0, 1) := by decide +kernel
theorem dX6_mix_1 : decode cX6_mix 1 = .ok (.ldc2_w 398, 3) := by decide +kernel
theorem dX6_mix_4 : decode cX6_mix 4 = .ok (.lmul, 1) := by decide +kernel
theorem dX6_mix_5 : decode cX6_mix 5 = .ok (.lload_n 2, 1) := by decide +kernel
theorem dX6_mix_6 : decode cX6_mix 6 = .ok (.ladd, 1) := by decide +kernel
theorem dX6_mix_7 : decode cX6_mix 7 = .ok (.lreturn, 1) := by decide +kernel
theorem dX6_mixTree_0 : decode cX6_mixTree 0 = .ok (.aload_n 0, 1) := by decide +kernel
theorem dX6_mixTree_1 : decode cX6_mixTree 1 = .ok (.getfield 11, 3) := by decide +kernel
theorem dX6_mixTree_4 : decode cX6_mixTree 4 = .ok (.iload_n 3, 1) := by decide +kernel
theorem dX6_mixTree_5 : decode cX6_mixTree 5 = .ok (.aaload, 1) := by decide +kernel
theorem dX6_mixTree_6 : decode cX6_mixTree 6 = .ok (.astore 4, 2) := by decide +kernel
theorem dX6_mixTree_8 : decode cX6_mixTree 8 = .ok (.lload_n 1, 1) := by decide +kernel
theorem dX6_mixTree_9 : decode cX6_mixTree 9 = .ok (.aload 4, 2) := by decide +kernel
theorem dX6_mixTree_11 : decode cX6_mixTree 11 = .ok (.getfield 128, 3) := by decide +kernel
theorem dX6_mixTree_14 : decode cX6_mixTree 14 = .ok (.i2l, 1) := by decide +kernel
theorem dX6_mixTree_15 : decode cX6_mixTree 15 = .ok (.invokestatic 294, 3) := by decide +kernel
theorem dX6_mixTree_18 : decode cX6_mixTree 18 = .ok (.lstore 5, 2) := by decide +kernel
theorem dX6_mixTree_20 : decode cX6_mixTree 20 = .ok (.iconst 0, 1) := by decide +kernel
theorem dX6_mixTree_21 : decode cX6_mixTree 21 = .ok (.istore 7, 2) := by decide +kernel
theorem dX6_mixTree_23 : decode cX6_mixTree 23 = .ok (.iload 7, 2) := by decide +kernel
theorem dX6_mixTree_25 : decode cX6_mixTree 25 = .ok (.aload 4, 2) := by decide +kernel
theorem dX6_mixTree_27 : decode cX6_mixTree 27 = .ok (.getfield 128, 3) := by decide +kernel
theorem dX6_mixTree_30 : decode cX6_mixTree 30 = .ok (.if_icmp .ge 41, 3) := by decide +kernel
theorem dX6_mixTree_33 : decode cX6_mixTree 33 = .ok (.lload 5, 2) := by decide +kernel
theorem dX6_mixTree_35 : decode cX6_mixTree 35 = .ok (.aload 4, 2) := by decide +kernel
theorem dX6_mixTree_37 : decode cX6_mixTree 37 = .ok (.getfield 118, 3) := by decide +kernel
theorem dX6_mixTree_40 : decode cX6_mixTree 40 = .ok (.iload 7, 2) := by decide +kernel
theorem dX6_mixTree_42 : decode cX6_mixTree 42 = .ok (.iaload, 1) := by decide +kernel
theorem dX6_mixTree_43 : decode cX6_mixTree 43 = .ok (.i2l, 1) := by decide +kernel
theorem dX6_mixTree_44 : decode cX6_mixTree 44 = .ok (.invokestatic 294, 3) := by decide +kernel
theorem dX6_mixTree_47 : decode cX6_mixTree 47 = .ok (.lstore 5, 2) := by decide +kernel
theorem dX6_mixTree_49 : decode cX6_mixTree 49 = .ok (.lload 5, 2) := by decide +kernel
theorem dX6_mixTree_51 : decode cX6_mixTree 51 = .ok (.aload 4, 2) := by decide +kernel
theorem dX6_mixTree_53 : decode cX6_mixTree 53 = .ok (.getfield 112, 3) := by decide +kernel
theorem dX6_mixTree_56 : decode cX6_mixTree 56 = .ok (.iload 7, 2) := by decide +kernel
theorem dX6_mixTree_58 : decode cX6_mixTree 58 = .ok (.iaload, 1) := by decide +kernel
theorem dX6_mixTree_59 : decode cX6_mixTree 59 = .ok (.i2l, 1) := by decide +kernel
theorem dX6_mixTree_60 : decode cX6_mixTree 60 = .ok (.invokestatic 294, 3) := by decide +kernel
theorem dX6_mixTree_63 : decode cX6_mixTree 63 = .ok (.lstore 5, 2) := by decide +kernel
theorem dX6_mixTree_65 : decode cX6_mixTree 65 = .ok (.iinc 7 1, 3) := by decide +kernel
theorem dX6_mixTree_68 : decode cX6_mixTree 68 = .ok (.goto (-45), 3) := by decide +kernel
theorem dX6_mixTree_71 : decode cX6_mixTree 71 = .ok (.lload 5, 2) := by decide +kernel
theorem dX6_mixTree_73 : decode cX6_mixTree 73 = .ok (.aload 4, 2) := by decide +kernel
theorem dX6_mixTree_75 : decode cX6_mixTree 75 = .ok (.getfield 150, 3) := by decide +kernel
theorem dX6_mixTree_78 : decode cX6_mixTree 78 = .ok (.i2l, 1) := by decide +kernel
theorem dX6_mixTree_79 : decode cX6_mixTree 79 = .ok (.invokestatic 294, 3) := by decide +kernel
theorem dX6_mixTree_82 : decode cX6_mixTree 82 = .ok (.lstore 5, 2) := by decide +kernel
theorem dX6_mixTree_84 : decode cX6_mixTree 84 = .ok (.lload 5, 2) := by decide +kernel
theorem dX6_mixTree_86 : decode cX6_mixTree 86 = .ok (.aload_n 0, 1) := by decide +kernel
theorem dX6_mixTree_87 : decode cX6_mixTree 87 = .ok (.getfield 249, 3) := by decide +kernel
theorem dX6_mixTree_90 : decode cX6_mixTree 90 = .ok (.iload_n 3, 1) := by decide +kernel
theorem dX6_mixTree_91 : decode cX6_mixTree 91 = .ok (.invokestatic 252, 3) := by decide +kernel
theorem dX6_mixTree_94 : decode cX6_mixTree 94 = .ok (.i2l, 1) := by decide +kernel
theorem dX6_mixTree_95 : decode cX6_mixTree 95 = .ok (.invokestatic 294, 3) := by decide +kernel
theorem dX6_mixTree_98 : decode cX6_mixTree 98 = .ok (.lreturn, 1) := by decide +kernel
theorem dX6_mixLineup_0 : decode cX6_mixLineup 0 = .ok (.aload_n 0, 1) := by decide +kernel
theorem dX6_mixLineup_1 : decode cX6_mixLineup 1 = .ok (.iload_n 3, 1) := by decide +kernel
theorem dX6_mixLineup_2 : decode cX6_mixLineup 2 = .ok (.aload_n 0, 1) := by decide +kernel
theorem dX6_mixLineup_3 : decode cX6_mixLineup 3 = .ok (.getfield 11, 3) := by decide +kernel
theorem dX6_mixLineup_6 : decode cX6_mixLineup 6 = .ok (.iload_n 3, 1) := by decide +kernel
theorem dX6_mixLineup_7 : decode cX6_mixLineup 7 = .ok (.aaload, 1) := by decide +kernel
theorem dX6_mixLineup_8 : decode cX6_mixLineup 8 = .ok (.invokevirtual 204, 3) := by decide +kernel
theorem dX6_mixLineup_11 : decode cX6_mixLineup 11 = .ok (.lload_n 1, 1) := by decide +kernel
theorem dX6_mixLineup_12 : decode cX6_mixLineup 12 = .ok (.aload_n 0, 1) := by decide +kernel
theorem dX6_mixLineup_13 : decode cX6_mixLineup 13 = .ok (.getfield 49, 3) := by decide +kernel
theorem dX6_mixLineup_16 : decode cX6_mixLineup 16 = .ok (.getfield 188, 3) := by decide +kernel
theorem dX6_mixLineup_19 : decode cX6_mixLineup 19 = .ok (.getfield 191, 3) := by decide +kernel
theorem dX6_mixLineup_22 : decode cX6_mixLineup 22 = .ok (.i2l, 1) := by decide +kernel
theorem dX6_mixLineup_23 : decode cX6_mixLineup 23 = .ok (.invokestatic 294, 3) := by decide +kernel
theorem dX6_mixLineup_26 : decode cX6_mixLineup 26 = .ok (.lstore 4, 2) := by decide +kernel
theorem dX6_mixLineup_28 : decode cX6_mixLineup 28 = .ok (.iconst 0, 1) := by decide +kernel
theorem dX6_mixLineup_29 : decode cX6_mixLineup 29 = .ok (.istore 6, 2) := by decide +kernel
theorem dX6_mixLineup_31 : decode cX6_mixLineup 31 = .ok (.iload 6, 2) := by decide +kernel
theorem dX6_mixLineup_33 : decode cX6_mixLineup 33 = .ok (.aload_n 0, 1) := by decide +kernel
theorem dX6_mixLineup_34 : decode cX6_mixLineup 34 = .ok (.getfield 49, 3) := by decide +kernel
theorem dX6_mixLineup_37 : decode cX6_mixLineup 37 = .ok (.getfield 188, 3) := by decide +kernel
theorem dX6_mixLineup_40 : decode cX6_mixLineup 40 = .ok (.getfield 191, 3) := by decide +kernel
theorem dX6_mixLineup_43 : decode cX6_mixLineup 43 = .ok (.if_icmp .ge 26, 3) := by decide +kernel
theorem dX6_mixLineup_46 : decode cX6_mixLineup 46 = .ok (.lload 4, 2) := by decide +kernel
theorem dX6_mixLineup_48 : decode cX6_mixLineup 48 = .ok (.aload_n 0, 1) := by decide +kernel
theorem dX6_mixLineup_49 : decode cX6_mixLineup 49 = .ok (.getfield 49, 3) := by decide +kernel
theorem dX6_mixLineup_52 : decode cX6_mixLineup 52 = .ok (.iload 6, 2) := by decide +kernel
theorem dX6_mixLineup_54 : decode cX6_mixLineup 54 = .ok (.invokevirtual 199, 3) := by decide +kernel
theorem dX6_mixLineup_57 : decode cX6_mixLineup 57 = .ok (.i2l, 1) := by decide +kernel
theorem dX6_mixLineup_58 : decode cX6_mixLineup 58 = .ok (.invokestatic 294, 3) := by decide +kernel
theorem dX6_mixLineup_61 : decode cX6_mixLineup 61 = .ok (.lstore 4, 2) := by decide +kernel
theorem dX6_mixLineup_63 : decode cX6_mixLineup 63 = .ok (.iinc 6 1, 3) := by decide +kernel
theorem dX6_mixLineup_66 : decode cX6_mixLineup 66 = .ok (.goto (-35), 3) := by decide +kernel
theorem dX6_mixLineup_69 : decode cX6_mixLineup 69 = .ok (.lload 4, 2) := by decide +kernel
theorem dX6_mixLineup_71 : decode cX6_mixLineup 71 = .ok (.lreturn, 1) := by decide +kernel
/-! by program: wip/whole/gen.py out of wip/whole/src/18.reads.eb -/
/-! EbbTable: what asks without throwing -/
set_option maxRecDepth 100000 in
set_option maxHeartbeats 8000000 in
theorem c_X6_dimensions {l : Launch} {D : va_G} {cys : Nat → ClassId} {ad : Nat → Int → Nat} {L : List Nat} {g : Nat → va_E} {X : Int64} {Z : ZT} (hi : injA ad)   : CM l D cys ad yX6_dimensions cX6_dimensions 1 (some .int) 0 0 0 0 [.ref (ad 0 0)] L g X Z (PI L g X Z (fun r => r = Z 0 0 5)) := by
  refine cm_start hi (by decide +kernel) (Nat.le_of_ble_eq_true rfl) ?_
  intro p_ e_ s_ m_ args_ below_ meth_ c_ A_ Q_ hQ G hr hin
  refine j_aload_n G dX6_dimensions_0 rfl ?_
  refine gf_0_5 G dX6_dimensions_1 lf6_66 (by first | assumption | decide) ?_
  refine jr_I G hQ hr dX6_dimensions_4 (by decide) (by decide) ?_
  rfl
set_option maxRecDepth 100000 in
set_option maxHeartbeats 8000000 in
theorem c_X6_facts {l : Launch} {D : va_G} {cys : Nat → ClassId} {ad : Nat → Int → Nat} {L : List Nat} {g : Nat → va_E} {X : Int64} {Z : ZT} (hi : injA ad)   : CM l D cys ad yX6_facts cX6_facts 1 (some .int) 0 0 0 0 [.ref (ad 0 0)] L g X Z (PI L g X Z (fun r => r = Z 6 0 3)) := by
  refine cm_start hi (by decide +kernel) (Nat.le_of_ble_eq_true rfl) ?_
  intro p_ e_ s_ m_ args_ below_ meth_ c_ A_ Q_ hQ G hr hin
  refine j_aload_n G dX6_facts_0 rfl ?_
  refine gf_0_1 G dX6_facts_1 lf6_18 (by first | assumption | decide) ?_
  refine gf_6_3 G dX6_facts_4 lf6_160 (by first | assumption | decide) ?_
  refine jr_I G hQ hr dX6_facts_7 (by decide) (by decide) ?_
  rfl
set_option maxRecDepth 100000 in
set_option maxHeartbeats 8000000 in
theorem c_X6_views {l : Launch} {D : va_G} {cys : Nat → ClassId} {ad : Nat → Int → Nat} {L : List Nat} {g : Nat → va_E} {X : Int64} {Z : ZT} (hi : injA ad)   : CM l D cys ad yX6_views cX6_views 1 (some .int) 0 0 0 0 [.ref (ad 0 0)] L g X Z (PI L g X Z (fun r => r = Z 11 0 3)) := by
  refine cm_start hi (by decide +kernel) (Nat.le_of_ble_eq_true rfl) ?_
  intro p_ e_ s_ m_ args_ below_ meth_ c_ A_ Q_ hQ G hr hin
  refine j_aload_n G dX6_views_0 rfl ?_
  refine gf_0_2 G dX6_views_1 lf6_25 (by first | assumption | decide) ?_
  refine gf_11_3 G dX6_views_4 lf6_261 (by first | assumption | decide) ?_
  refine jr_I G hQ hr dX6_views_7 (by decide) (by decide) ?_
  rfl
set_option maxRecDepth 100000 in
set_option maxHeartbeats 8000000 in
theorem c_X6_setBare {l : Launch} {D : va_G} {cys : Nat → ClassId} {ad : Nat → Int → Nat} {L : List Nat} {g : Nat → va_E} {X : Int64} {Z : ZT} (hi : injA ad) {b : Int} (hb : b = 0 ∨ b = 1) (hz : Z 0 0 8 = 0 ∨ Z 0 0 8 = 1) : CM l D cys ad yX6_setBare cX6_setBare 3 (some .boolean) 0 0 0 0 [.ref (ad 0 0), .int (iI b)] L g X Z (PIZ L g X Z (fun r Z' => r = Z 0 0 8 ∧ Z' = zS Z 0 0 8 b)) := by
  refine cm_start hi (by decide +kernel) (Nat.le_of_ble_eq_true rfl) ?_
  intro p_ e_ s_ m_ args_ below_ meth_ c_ A_ Q_ hQ G hr hin
  refine j_aload_n G dX6_setBare_0 rfl ?_
  refine gf_0_8 G dX6_setBare_1 lf6_232 (by first | assumption | decide) ?_
  refine j_istore_n G dX6_setBare_4 (by decide) rfl ?_
  refine j_aload_n G dX6_setBare_5 rfl ?_
  refine j_iload_n G dX6_setBare_6 rfl ?_
  refine pf_0_8 G dX6_setBare_7 lf6_232 (by first | assumption | decide) (by omega) ?_
  refine j_iload_n G dX6_setBare_10 rfl ?_
  refine jr_BZ G hQ hr dX6_setBare_11 (by decide) (by decide) (by omega) ?_
  try simp (config := { decide := true }) only [zS_k, zS_s, zS_j, ne_eq]
  all_goals exact ⟨rfl, rfl⟩
set_option maxRecDepth 100000 in
set_option maxHeartbeats 8000000 in
theorem c_X6_count {l : Launch} {D : va_G} {cys : Nat → ClassId} {ad : Nat → Int → Nat} {L : List Nat} {g : Nat → va_E} {X : Int64} {Z : ZT} (hi : injA ad) {S : ZT} (hS : SP S Z) (hW : WF S) : CM l D cys ad yX6_count cX6_count 3 (some .int) 3 67 0 0 [.ref (ad 0 0)] L g X Z (PI L g X Z (fun r => r = CNT S)) := by
  refine cm_start hi (by decide +kernel) (Nat.le_of_ble_eq_true rfl) ?_
  intro p_ e_ s_ m_ args_ below_ meth_ c_ A_ Q_ hQ G hr hin
  have hf := hW.f
  have e63 : Z 6 0 3 = S 6 0 3 := by rw [hS.1 6 rfl]
  have loop : ∀ (n : Nat) (a b : Int), 0 ≤ a → a ≤ S 6 0 3 → (S 6 0 3 - a).toNat = n → b = sumTo (fun k => iv (seen S k)) a.toNat → JJ p_ l e_ { frames := 3, cells := 0, slots := 0, locals := 67 } s_ m_ args_ below_ meth_ c_ D cys ad A_ Q_ 3 0 0 L g X Z 4 [(0, .ref (ad 0 0)), (1, .int (iI b)), (2, .int (iI a))] [] := by
    intro n
    induction n with
    | zero =>
      intro a b h0 h1 h2 h3
      have ea : a = S 6 0 3 := by omega
      subst ea
      refine j_iload_n G dX6_count_4 rfl ?_
      refine j_aload_n G dX6_count_5 rfl ?_
      refine gf_0_1 G dX6_count_6 lf6_18 (by first | assumption | decide) ?_
      refine gf_6_3 G dX6_count_9 lf6_160 (by first | assumption | decide) ?_
      refine j_icmp_ge G 32 dX6_count_12 (by decide) (by omega) (by omega) (fun c12 => ?_) (fun c12 => ?_)
      · refine j_iload_n G dX6_count_32 rfl ?_
        refine jr_I G hQ hr dX6_count_33 (by decide) (by decide) ?_
        exact h3
      · exfalso; omega
    | succ n ih =>
      intro a b h0 h1 h2 h3
      have hk : 0 ≤ a ∧ a < S 6 0 3 := by omega
      have hs := sumTo_s (f := fun k => iv (seen S k)) h0
      refine j_iload_n G dX6_count_4 rfl ?_
      refine j_aload_n G dX6_count_5 rfl ?_
      refine gf_0_1 G dX6_count_6 lf6_18 (by first | assumption | decide) ?_
      refine gf_6_3 G dX6_count_9 lf6_160 (by first | assumption | decide) ?_
      refine j_icmp_ge G 32 dX6_count_12 (by decide) (by omega) (by omega) (fun c12 => ?_) (fun c12 => ?_)
      · exfalso; omega
      · refine j_aload_n G dX6_count_15 rfl ?_
        refine j_iload_n G dX6_count_16 rfl ?_
        refine j_cVI G cvX6_isSeen ml6_175 (c_X6_isSeen hi hS hW hk) dX6_count_17 ⟨by decide, by decide⟩ ⟨by decide, by decide⟩ rfl rfl (Nat.le_of_ble_eq_true rfl) (by first | assumption | decide) rfl rfl rfl (fun r17 h17 => ?_)
        refine j_if_eq G 26 dX6_count_20 (by decide) (by omega) (fun c20 => ?_) (fun c20 => ?_)
        · refine j_iinc G dX6_count_26 rfl (by decide) rfl ?_
          refine j_goto G 4 dX6_count_29 (by decide) ?_
          refine ih (a + 1) _ (by omega) (by omega) (by omega) ?_
          rw [hs, ← h3]
          rcases h17 with q | q
          · first
            | (exfalso; omega)
            | rw [iv_t q.2]
          · first
            | (exfalso; omega)
            | (rw [iv_f q.2]; omega)
        · refine j_iinc G dX6_count_23 rfl (by decide) rfl ?_
          refine j_iinc G dX6_count_26 rfl (by decide) rfl ?_
          refine j_goto G 4 dX6_count_29 (by decide) ?_
          refine ih (a + 1) _ (by omega) (by omega) (by omega) ?_
          rw [hs, ← h3]
          rcases h17 with q | q
          · first
            | (exfalso; omega)
            | rw [iv_t q.2]
          · first
            | (exfalso; omega)
            | (rw [iv_f q.2]; omega)
  refine j_iconst G dX6_count_0 ?_
  refine j_istore_n G dX6_count_1 (by decide) rfl ?_
  refine j_iconst G dX6_count_2 ?_
  refine j_istore_n G dX6_count_3 (by decide) rfl ?_
  exact loop _ 0 0 (by omega) (by omega) rfl rfl
set_option maxRecDepth 100000 in
set_option maxHeartbeats 8000000 in
theorem c_X6_sum {l : Launch} {D : va_G} {cys : Nat → ClassId} {ad : Nat → Int → Nat} {L : List Nat} {g : Nat → va_E} {X : Int64} {Z : ZT} (hi : injA ad) {S : ZT} (hS : SP S Z) (hW : WF S) : CM l D cys ad yX6_sum cX6_sum 3 (some .int) 3 67 0 0 [.ref (ad 0 0)] L g X Z (PI L g X Z (fun r => r = SUM S)) := by
  refine cm_start hi (by decide +kernel) (Nat.le_of_ble_eq_true rfl) ?_
  intro p_ e_ s_ m_ args_ below_ meth_ c_ A_ Q_ hQ G hr hin
  have hf := hW.f
  have e63 : Z 6 0 3 = S 6 0 3 := by rw [hS.1 6 rfl]
  have loop : ∀ (n : Nat) (a b : Int), 0 ≤ a → a ≤ S 6 0 3 → (S 6 0 3 - a).toNat = n → b = sumTo (fun k => iv (seen S k) * S 9 0 k) a.toNat → JJ p_ l e_ { frames := 3, cells := 0, slots := 0, locals := 67 } s_ m_ args_ below_ meth_ c_ D cys ad A_ Q_ 3 0 0 L g X Z 4 [(0, .ref (ad 0 0)), (1, .int (iI b)), (2, .int (iI a))] [] := by
    intro n
    induction n with
    | zero =>
      intro a b h0 h1 h2 h3
      have ea : a = S 6 0 3 := by omega
      subst ea
      refine j_iload_n G dX6_sum_4 rfl ?_
      refine j_aload_n G dX6_sum_5 rfl ?_
      refine gf_0_1 G dX6_sum_6 lf6_18 (by first | assumption | decide) ?_
      refine gf_6_3 G dX6_sum_9 lf6_160 (by first | assumption | decide) ?_
      refine j_icmp_ge G 41 dX6_sum_12 (by decide) (by omega) (by omega) (fun c12 => ?_) (fun c12 => ?_)
      · refine j_iload_n G dX6_sum_41 rfl ?_
        refine jr_I G hQ hr dX6_sum_42 (by decide) (by decide) ?_
        exact h3
      · exfalso; omega
    | succ n ih =>
      intro a b h0 h1 h2 h3
      have hk : 0 ≤ a ∧ a < S 6 0 3 := by omega
      have e9 : Z 9 0 a = S 9 0 a := by rw [hS.1 9 rfl]
      have hs := sumTo_s (f := fun k => iv (seen S k) * S 9 0 k) h0
      refine j_iload_n G dX6_sum_4 rfl ?_
      refine j_aload_n G dX6_sum_5 rfl ?_
      refine gf_0_1 G dX6_sum_6 lf6_18 (by first | assumption | decide) ?_
      refine gf_6_3 G dX6_sum_9 lf6_160 (by first | assumption | decide) ?_
      refine j_icmp_ge G 41 dX6_sum_12 (by decide) (by omega) (by omega) (fun c12 => ?_) (fun c12 => ?_)
      · exfalso; omega
      · refine j_aload_n G dX6_sum_15 rfl ?_
        refine j_iload_n G dX6_sum_16 rfl ?_
        refine j_cVI G cvX6_isSeen ml6_175 (c_X6_isSeen hi hS hW hk) dX6_sum_17 ⟨by decide, by decide⟩ ⟨by decide, by decide⟩ rfl rfl (Nat.le_of_ble_eq_true rfl) (by first | assumption | decide) rfl rfl rfl (fun r17 h17 => ?_)
        refine j_if_eq G 35 dX6_sum_20 (by decide) (by omega) (fun c20 => ?_) (fun c20 => ?_)
        · refine j_iinc G dX6_sum_35 rfl (by decide) rfl ?_
          refine j_goto G 4 dX6_sum_38 (by decide) ?_
          refine ih (a + 1) _ (by omega) (by omega) (by omega) ?_
          rw [hs, ← h3]
          rcases h17 with q | q
          · first
            | (exfalso; omega)
            | (rw [iv_t q.2, e9]; omega)
          · first
            | (exfalso; omega)
            | (rw [iv_f q.2]; omega)
        · refine j_iload_n G dX6_sum_23 rfl ?_
          refine j_aload_n G dX6_sum_24 rfl ?_
          refine gf_0_1 G dX6_sum_25 lf6_18 (by first | assumption | decide) ?_
          refine gf_6_1 G dX6_sum_28 lf6_163 (by first | assumption | decide) ?_
          refine j_iload_n G dX6_sum_31 rfl ?_
          refine al_9 G dX6_sum_32 (by first | assumption | decide) (by omega) (by omega) ?_
          refine j_iadd G dX6_sum_33 ?_
          refine j_istore_n G dX6_sum_34 (by decide) rfl ?_
          refine j_iinc G dX6_sum_35 rfl (by decide) rfl ?_
          refine j_goto G 4 dX6_sum_38 (by decide) ?_
          refine ih (a + 1) _ (by omega) (by omega) (by omega) ?_
          rw [hs, ← h3]
          rcases h17 with q | q
          · first
            | (exfalso; omega)
            | (rw [iv_t q.2, e9]; omega)
          · first
            | (exfalso; omega)
            | (rw [iv_f q.2]; omega)
  refine j_iconst G dX6_sum_0 ?_
  refine j_istore_n G dX6_sum_1 (by decide) rfl ?_
  refine j_iconst G dX6_sum_2 ?_
  refine j_istore_n G dX6_sum_3 (by decide) rfl ?_
  exact loop _ 0 0 (by omega) (by omega) rfl rfl
set_option maxRecDepth 100000 in
set_option maxHeartbeats 8000000 in
theorem c_X6_least {l : Launch} {D : va_G} {cys : Nat → ClassId} {ad : Nat → Int → Nat} {L : List Nat} {g : Nat → va_E} {X : Int64} {Z : ZT} (hi : injA ad) {S : ZT} (hS : SP S Z) (hW : WF S) : CM l D cys ad yX6_least cX6_least 3 (some .int) 3 67 0 0 [.ref (ad 0 0)] L g X Z (PI L g X Z (fun r => r = LEAST S)) := by
  refine cm_start hi (by decide +kernel) (Nat.le_of_ble_eq_true rfl) ?_
  intro p_ e_ s_ m_ args_ below_ meth_ c_ A_ Q_ hQ G hr hin
  have hf := hW.f
  have e63 : Z 6 0 3 = S 6 0 3 := by rw [hS.1 6 rfl]
  have loop : ∀ (n : Nat) (a b : Int), 0 ≤ a → a ≤ S 6 0 3 → (S 6 0 3 - a).toNat = n → b = lsF S a.toNat → JJ p_ l e_ { frames := 3, cells := 0, slots := 0, locals := 67 } s_ m_ args_ below_ meth_ c_ D cys ad A_ Q_ 3 0 0 L g X Z 6 [(0, .ref (ad 0 0)), (1, .int (iI b)), (2, .int (iI a))] [] := by
    intro n
    induction n with
    | zero =>
      intro a b h0 h1 h2 h3
      have ea : a = S 6 0 3 := by omega
      subst ea
      have hb := lsF_in hW (S 6 0 3).toNat (by omega)
      rw [← h3] at hb
      refine j_iload_n G dX6_least_6 rfl ?_
      refine j_aload_n G dX6_least_7 rfl ?_
      refine gf_0_1 G dX6_least_8 lf6_18 (by first | assumption | decide) ?_
      refine gf_6_3 G dX6_least_11 lf6_160 (by first | assumption | decide) ?_
      refine j_icmp_ge G 54 dX6_least_14 (by decide) (by omega) (by omega) (fun c14 => ?_) (fun c14 => ?_)
      · refine j_iload_n G dX6_least_54 rfl ?_
        refine j_sipush G dX6_least_55 (by decide +kernel) ?_
        refine j_icmp_le G 65 dX6_least_58 (by decide) (by omega) (by omega) (fun c58 => ?_) (fun c58 => ?_)
        · refine j_iload_n G dX6_least_65 rfl ?_
          refine jr_I G hQ hr dX6_least_66 (by decide) (by decide) ?_
          unfold LEAST
          rw [← h3]
          split <;> omega
        · refine j_iconst G dX6_least_61 ?_
          refine j_goto G 66 dX6_least_62 (by decide) ?_
          refine jr_I G hQ hr dX6_least_66 (by decide) (by decide) ?_
          unfold LEAST
          rw [← h3]
          split <;> omega
      · exfalso; omega
    | succ n ih =>
      intro a b h0 h1 h2 h3
      have hk : 0 ≤ a ∧ a < S 6 0 3 := by omega
      have e9 : Z 9 0 a = S 9 0 a := by rw [hS.1 9 rfl]
      have hb := lsF_in hW a.toNat (by omega)
      rw [← h3] at hb
      have hv := (hW.fk hk.1 hk.2).2
      have hs := lsF_s (S := S) h0
      rw [← h3] at hs
      refine j_iload_n G dX6_least_6 rfl ?_
      refine j_aload_n G dX6_least_7 rfl ?_
      refine gf_0_1 G dX6_least_8 lf6_18 (by first | assumption | decide) ?_
      refine gf_6_3 G dX6_least_11 lf6_160 (by first | assumption | decide) ?_
      refine j_icmp_ge G 54 dX6_least_14 (by decide) (by omega) (by omega) (fun c14 => ?_) (fun c14 => ?_)
      · exfalso; omega
      · refine j_aload_n G dX6_least_17 rfl ?_
        refine gf_0_1 G dX6_least_18 lf6_18 (by first | assumption | decide) ?_
        refine gf_6_1 G dX6_least_21 lf6_163 (by first | assumption | decide) ?_
        refine j_iload_n G dX6_least_24 rfl ?_
        refine al_9 G dX6_least_25 (by first | assumption | decide) (by omega) (by omega) ?_
        refine j_iload_n G dX6_least_26 rfl ?_
        refine j_icmp_ge G 48 dX6_least_27 (by decide) (by omega) (by omega) (fun c27 => ?_) (fun c27 => ?_)
        · refine j_iinc G dX6_least_48 rfl (by decide) rfl ?_
          refine j_goto G 6 dX6_least_51 (by decide) ?_
          refine ih (a + 1) _ (by omega) (by omega) (by omega) ?_
          rw [hs]
          first
          | (rw [if_neg (fun z => by omega)])
          | (rcases h32 with q | q
             · first
               | (exfalso; omega)
               | (rw [if_pos ⟨by omega, q.2⟩, e9])
             · first
               | (exfalso; omega)
               | (rw [if_neg (fun z => q.2 z.2)]))
        · refine j_aload_n G dX6_least_30 rfl ?_
          refine j_iload_n G dX6_least_31 rfl ?_
          refine j_cVI G cvX6_isSeen ml6_175 (c_X6_isSeen hi hS hW hk) dX6_least_32 ⟨by decide, by decide⟩ ⟨by decide, by decide⟩ rfl rfl (Nat.le_of_ble_eq_true rfl) (by first | assumption | decide) rfl rfl rfl (fun r32 h32 => ?_)
          refine j_if_eq G 48 dX6_least_35 (by decide) (by omega) (fun c35 => ?_) (fun c35 => ?_)
          · refine j_iinc G dX6_least_48 rfl (by decide) rfl ?_
            refine j_goto G 6 dX6_least_51 (by decide) ?_
            refine ih (a + 1) _ (by omega) (by omega) (by omega) ?_
            rw [hs]
            first
            | (rw [if_neg (fun z => by omega)])
            | (rcases h32 with q | q
               · first
                 | (exfalso; omega)
                 | (rw [if_pos ⟨by omega, q.2⟩, e9])
               · first
                 | (exfalso; omega)
                 | (rw [if_neg (fun z => q.2 z.2)]))
          · refine j_aload_n G dX6_least_38 rfl ?_
            refine gf_0_1 G dX6_least_39 lf6_18 (by first | assumption | decide) ?_
            refine gf_6_1 G dX6_least_42 lf6_163 (by first | assumption | decide) ?_
            refine j_iload_n G dX6_least_45 rfl ?_
            refine al_9 G dX6_least_46 (by first | assumption | decide) (by omega) (by omega) ?_
            refine j_istore_n G dX6_least_47 (by decide) rfl ?_
            refine j_iinc G dX6_least_48 rfl (by decide) rfl ?_
            refine j_goto G 6 dX6_least_51 (by decide) ?_
            refine ih (a + 1) _ (by omega) (by omega) (by omega) ?_
            rw [hs]
            first
            | (rw [if_neg (fun z => by omega)])
            | (rcases h32 with q | q
               · first
                 | (exfalso; omega)
                 | (rw [if_pos ⟨by omega, q.2⟩, e9])
               · first
                 | (exfalso; omega)
                 | (rw [if_neg (fun z => q.2 z.2)]))
  refine j_sipush G dX6_least_0 (by decide +kernel) ?_
  refine j_istore_n G dX6_least_3 (by decide) rfl ?_
  refine j_iconst G dX6_least_4 ?_
  refine j_istore_n G dX6_least_5 (by decide) rfl ?_
  exact loop _ 0 10001 (by omega) (by omega) rfl rfl
set_option maxRecDepth 100000 in
set_option maxHeartbeats 8000000 in
theorem c_X6_greatest {l : Launch} {D : va_G} {cys : Nat → ClassId} {ad : Nat → Int → Nat} {L : List Nat} {g : Nat → va_E} {X : Int64} {Z : ZT} (hi : injA ad) {S : ZT} (hS : SP S Z) (hW : WF S) : CM l D cys ad yX6_greatest cX6_greatest 3 (some .int) 3 67 0 0 [.ref (ad 0 0)] L g X Z (PI L g X Z (fun r => r = GREAT S)) := by
  refine cm_start hi (by decide +kernel) (Nat.le_of_ble_eq_true rfl) ?_
  intro p_ e_ s_ m_ args_ below_ meth_ c_ A_ Q_ hQ G hr hin
  have hf := hW.f
  have e63 : Z 6 0 3 = S 6 0 3 := by rw [hS.1 6 rfl]
  have loop : ∀ (n : Nat) (a b : Int), 0 ≤ a → a ≤ S 6 0 3 → (S 6 0 3 - a).toNat = n → b = gsF S a.toNat → JJ p_ l e_ { frames := 3, cells := 0, slots := 0, locals := 67 } s_ m_ args_ below_ meth_ c_ D cys ad A_ Q_ 3 0 0 L g X Z 6 [(0, .ref (ad 0 0)), (1, .int (iI b)), (2, .int (iI a))] [] := by
    intro n
    induction n with
    | zero =>
      intro a b h0 h1 h2 h3
      have ea : a = S 6 0 3 := by omega
      subst ea
      have hb := gsF_in hW (S 6 0 3).toNat (by omega)
      rw [← h3] at hb
      refine j_iload_n G dX6_greatest_6 rfl ?_
      refine j_aload_n G dX6_greatest_7 rfl ?_
      refine gf_0_1 G dX6_greatest_8 lf6_18 (by first | assumption | decide) ?_
      refine gf_6_3 G dX6_greatest_11 lf6_160 (by first | assumption | decide) ?_
      refine j_icmp_ge G 54 dX6_greatest_14 (by decide) (by omega) (by omega) (fun c14 => ?_) (fun c14 => ?_)
      · refine j_iload_n G dX6_greatest_54 rfl ?_
        refine j_sipush G dX6_greatest_55 (by decide +kernel) ?_
        refine j_icmp_ge G 65 dX6_greatest_58 (by decide) (by omega) (by omega) (fun c58 => ?_) (fun c58 => ?_)
        · refine j_iload_n G dX6_greatest_65 rfl ?_
          refine jr_I G hQ hr dX6_greatest_66 (by decide) (by decide) ?_
          unfold GREAT
          rw [← h3]
          split <;> omega
        · refine j_iconst G dX6_greatest_61 ?_
          refine j_goto G 66 dX6_greatest_62 (by decide) ?_
          refine jr_I G hQ hr dX6_greatest_66 (by decide) (by decide) ?_
          unfold GREAT
          rw [← h3]
          split <;> omega
      · exfalso; omega
    | succ n ih =>
      intro a b h0 h1 h2 h3
      have hk : 0 ≤ a ∧ a < S 6 0 3 := by omega
      have e9 : Z 9 0 a = S 9 0 a := by rw [hS.1 9 rfl]
      have hb := gsF_in hW a.toNat (by omega)
      rw [← h3] at hb
      have hv := (hW.fk hk.1 hk.2).2
      have hs := gsF_s (S := S) h0
      rw [← h3] at hs
      refine j_iload_n G dX6_greatest_6 rfl ?_
      refine j_aload_n G dX6_greatest_7 rfl ?_
      refine gf_0_1 G dX6_greatest_8 lf6_18 (by first | assumption | decide) ?_
      refine gf_6_3 G dX6_greatest_11 lf6_160 (by first | assumption | decide) ?_
      refine j_icmp_ge G 54 dX6_greatest_14 (by decide) (by omega) (by omega) (fun c14 => ?_) (fun c14 => ?_)
      · exfalso; omega
      · refine j_aload_n G dX6_greatest_17 rfl ?_
        refine gf_0_1 G dX6_greatest_18 lf6_18 (by first | assumption | decide) ?_
        refine gf_6_1 G dX6_greatest_21 lf6_163 (by first | assumption | decide) ?_
        refine j_iload_n G dX6_greatest_24 rfl ?_
        refine al_9 G dX6_greatest_25 (by first | assumption | decide) (by omega) (by omega) ?_
        refine j_iload_n G dX6_greatest_26 rfl ?_
        refine j_icmp_le G 48 dX6_greatest_27 (by decide) (by omega) (by omega) (fun c27 => ?_) (fun c27 => ?_)
        · refine j_iinc G dX6_greatest_48 rfl (by decide) rfl ?_
          refine j_goto G 6 dX6_greatest_51 (by decide) ?_
          refine ih (a + 1) _ (by omega) (by omega) (by omega) ?_
          rw [hs]
          first
          | (rw [if_neg (fun z => by omega)])
          | (rcases h32 with q | q
             · first
               | (exfalso; omega)
               | (rw [if_pos ⟨by omega, q.2⟩, e9])
             · first
               | (exfalso; omega)
               | (rw [if_neg (fun z => q.2 z.2)]))
        · refine j_aload_n G dX6_greatest_30 rfl ?_
          refine j_iload_n G dX6_greatest_31 rfl ?_
          refine j_cVI G cvX6_isSeen ml6_175 (c_X6_isSeen hi hS hW hk) dX6_greatest_32 ⟨by decide, by decide⟩ ⟨by decide, by decide⟩ rfl rfl (Nat.le_of_ble_eq_true rfl) (by first | assumption | decide) rfl rfl rfl (fun r32 h32 => ?_)
          refine j_if_eq G 48 dX6_greatest_35 (by decide) (by omega) (fun c35 => ?_) (fun c35 => ?_)
          · refine j_iinc G dX6_greatest_48 rfl (by decide) rfl ?_
            refine j_goto G 6 dX6_greatest_51 (by decide) ?_
            refine ih (a + 1) _ (by omega) (by omega) (by omega) ?_
            rw [hs]
            first
            | (rw [if_neg (fun z => by omega)])
            | (rcases h32 with q | q
               · first
                 | (exfalso; omega)
                 | (rw [if_pos ⟨by omega, q.2⟩, e9])
               · first
                 | (exfalso; omega)
                 | (rw [if_neg (fun z => q.2 z.2)]))
          · refine j_aload_n G dX6_greatest_38 rfl ?_
            refine gf_0_1 G dX6_greatest_39 lf6_18 (by first | assumption | decide) ?_
            refine gf_6_1 G dX6_greatest_42 lf6_163 (by first | assumption | decide) ?_
            refine j_iload_n G dX6_greatest_45 rfl ?_
            refine al_9 G dX6_greatest_46 (by first | assumption | decide) (by omega) (by omega) ?_
            refine j_istore_n G dX6_greatest_47 (by decide) rfl ?_
            refine j_iinc G dX6_greatest_48 rfl (by decide) rfl ?_
            refine j_goto G 6 dX6_greatest_51 (by decide) ?_
            refine ih (a + 1) _ (by omega) (by omega) (by omega) ?_
            rw [hs]
            first
            | (rw [if_neg (fun z => by omega)])
            | (rcases h32 with q | q
               · first
                 | (exfalso; omega)
                 | (rw [if_pos ⟨by omega, q.2⟩, e9])
               · first
                 | (exfalso; omega)
                 | (rw [if_neg (fun z => q.2 z.2)]))
  refine j_sipush G dX6_greatest_0 (by decide +kernel) ?_
  refine j_istore_n G dX6_greatest_3 (by decide) rfl ?_
  refine j_iconst G dX6_greatest_4 ?_
  refine j_istore_n G dX6_greatest_5 (by decide) rfl ?_
  exact loop _ 0 (-10001) (by omega) (by omega) rfl rfl
set_option maxRecDepth 100000 in
set_option maxHeartbeats 8000000 in
theorem c_X6_cellCount {l : Launch} {D : va_G} {cys : Nat → ClassId} {ad : Nat → Int → Nat} {L : List Nat} {g : Nat → va_E} {X : Int64} {Z : ZT} (hi : injA ad) {S : ZT} (hS : SP S Z) (hW : WF S) : CM l D cys ad yX6_cellCount cX6_cellCount 1 (some .int) 4 93 0 0 [.ref (ad 0 0)] L g X Z (PIZ L g X Z (fun r Z' => r = CELLS S (S 0 0 6) ∧ SP S Z')) := by
  refine cm_start hi (by decide +kernel) (Nat.le_of_ble_eq_true rfl) ?_
  intro p_ e_ s_ m_ args_ below_ meth_ c_ A_ Q_ hQ G hr hin
  have e06 : Z 0 0 6 = S 0 0 6 := by rw [hS.1 0 rfl]
  have hl := hW.lv
  have hq : 0 ≤ S 0 0 6 ∧ S 0 0 6 < 256 := ⟨hl.1, hl.2.1⟩
  refine j_aload_n G dX6_cellCount_0 rfl ?_
  refine j_aload_n G dX6_cellCount_1 rfl ?_
  refine gf_0_6 G dX6_cellCount_2 lf6_249 (by first | assumption | decide) ?_
  rw [e06]
  refine j_cVIZ G cvX6_cellsOf ml6_258 (c_X6_cellsOf hi (by first | assumption | omega | decide) (by first | assumption | omega | decide) (by first | assumption | omega | decide)) dX6_cellCount_5 ⟨by decide, by decide⟩ ⟨by decide, by decide⟩ rfl rfl (Nat.le_of_ble_eq_true rfl) (by first | assumption | decide) rfl rfl rfl (fun r5 Z5 h5 => ?_)
  refine jr_IZ G hQ hr dX6_cellCount_8 (by decide) (by decide) ?_
  exact h5
set_option maxRecDepth 100000 in
set_option maxHeartbeats 8000000 in
theorem c_X6_cost {l : Launch} {D : va_G} {cys : Nat → ClassId} {ad : Nat → Int → Nat} {L : List Nat} {g : Nat → va_E} {X : Int64} {Z : ZT} (hi : injA ad) {S : ZT} (hS : SP S Z) (hW : WF S) : CM l D cys ad yX6_cost cX6_cost 1 (some .int) 3 68 0 0 [.ref (ad 0 0)] L g X Z (PI L g X Z (fun r => r = COST S (S 0 0 6))) := by
  refine cm_start hi (by decide +kernel) (Nat.le_of_ble_eq_true rfl) ?_
  intro p_ e_ s_ m_ args_ below_ meth_ c_ A_ Q_ hQ G hr hin
  have e06 : Z 0 0 6 = S 0 0 6 := by rw [hS.1 0 rfl]
  have hl := hW.lv
  have hq : 0 ≤ S 0 0 6 ∧ S 0 0 6 < 256 := ⟨hl.1, hl.2.1⟩
  refine j_aload_n G dX6_cost_0 rfl ?_
  refine j_aload_n G dX6_cost_1 rfl ?_
  refine gf_0_6 G dX6_cost_2 lf6_249 (by first | assumption | decide) ?_
  rw [e06]
  refine j_cVI G cvX6_costOf ml6_280 (c_X6_costOf hi (by first | assumption | omega | decide) (by first | assumption | omega | decide) (by first | assumption | omega | decide)) dX6_cost_5 ⟨by decide, by decide⟩ ⟨by decide, by decide⟩ rfl rfl (Nat.le_of_ble_eq_true rfl) (by first | assumption | decide) rfl rfl rfl (fun r5 h5 => ?_)
  refine jr_I G hQ hr dX6_cost_8 (by decide) (by decide) ?_
  exact h5
set_option maxRecDepth 100000 in
set_option maxHeartbeats 8000000 in
theorem c_X6_answeredBy {l : Launch} {D : va_G} {cys : Nat → ClassId} {ad : Nat → Int → Nat} {L : List Nat} {g : Nat → va_E} {X : Int64} {Z : ZT} (hi : injA ad) {S : ZT} (hS : SP S Z) (hW : WF S) : CM l D cys ad yX6_answeredBy cX6_answeredBy 1 (some .int) 2 46 0 0 [.ref (ad 0 0)] L g X Z (PI L g X Z (fun r => r = VFOR S (S 0 0 6))) := by
  refine cm_start hi (by decide +kernel) (Nat.le_of_ble_eq_true rfl) ?_
  intro p_ e_ s_ m_ args_ below_ meth_ c_ A_ Q_ hQ G hr hin
  have e06 : Z 0 0 6 = S 0 0 6 := by rw [hS.1 0 rfl]
  have hl := hW.lv
  have hq : 0 ≤ S 0 0 6 ∧ S 0 0 6 < 256 := ⟨hl.1, hl.2.1⟩
  refine j_aload_n G dX6_answeredBy_0 rfl ?_
  refine j_aload_n G dX6_answeredBy_1 rfl ?_
  refine gf_0_6 G dX6_answeredBy_2 lf6_249 (by first | assumption | decide) ?_
  rw [e06]
  refine j_cVI G cvX6_viewFor ml6_283 (c_X6_viewFor hi (by first | assumption | omega | decide) (by first | assumption | omega | decide) (by first | assumption | omega | decide)) dX6_answeredBy_5 ⟨by decide, by decide⟩ ⟨by decide, by decide⟩ rfl rfl (Nat.le_of_ble_eq_true rfl) (by first | assumption | decide) rfl rfl rfl (fun r5 h5 => ?_)
  refine jr_I G hQ hr dX6_answeredBy_8 (by decide) (by decide) ?_
  exact h5
set_option maxRecDepth 100000 in
set_option maxHeartbeats 8000000 in
theorem c_X6_gain {l : Launch} {D : va_G} {cys : Nat → ClassId} {ad : Nat → Int → Nat} {L : List Nat} {g : Nat → va_E} {X : Int64} {Z : ZT} (hi : injA ad) {S : ZT} (hS : SP S Z) (hW : WF S) : CM l D cys ad yX6_gain cX6_gain 1 (some .int) 5 117 0 0 [.ref (ad 0 0)] L g X Z (PIZ L g X Z (fun r Z' => r = GAIN S (S 0 0 6) ∧ SP S Z')) := by
  refine cm_start hi (by decide +kernel) (Nat.le_of_ble_eq_true rfl) ?_
  intro p_ e_ s_ m_ args_ below_ meth_ c_ A_ Q_ hQ G hr hin
  have e06 : Z 0 0 6 = S 0 0 6 := by rw [hS.1 0 rfl]
  have hl := hW.lv
  have hq : 0 ≤ S 0 0 6 ∧ S 0 0 6 < 256 := ⟨hl.1, hl.2.1⟩
  refine j_aload_n G dX6_gain_0 rfl ?_
  refine j_aload_n G dX6_gain_1 rfl ?_
  refine gf_0_6 G dX6_gain_2 lf6_249 (by first | assumption | decide) ?_
  rw [e06]
  refine j_cVIZ G cvX6_gainOf ml6_286 (c_X6_gainOf hi (by first | assumption | omega | decide) (by first | assumption | omega | decide) (by first | assumption | omega | decide)) dX6_gain_5 ⟨by decide, by decide⟩ ⟨by decide, by decide⟩ rfl rfl (Nat.le_of_ble_eq_true rfl) (by first | assumption | decide) rfl rfl rfl (fun r5 Z5 h5 => ?_)
  refine jr_IZ G hQ hr dX6_gain_8 (by decide) (by decide) ?_
  exact h5
set_option maxRecDepth 100000 in
set_option maxHeartbeats 8000000 in
theorem c_X6_advise {l : Launch} {D : va_G} {cys : Nat → ClassId} {ad : Nat → Int → Nat} {L : List Nat} {g : Nat → va_E} {X : Int64} {Z : ZT} (hi : injA ad) {S : ZT} (hS : SP S Z) (hW : WF S) : CM l D cys ad yX6_advise cX6_advise 5 (some .int) 5 117 0 0 [.ref (ad 0 0)] L g X Z (PIZ L g X Z (fun r Z' => r = (adF S 256).1 ∧ SP (zS S 0 0 6 (adF S 256).2) Z')) := by
  refine cm_start hi (by decide +kernel) (Nat.le_of_ble_eq_true rfl) ?_
  intro p_ e_ s_ m_ args_ below_ meth_ c_ A_ Q_ hQ G hr hin
  have loop : ∀ (n : Nat) (a b c : Int) (Y : ZT), 0 ≤ a → a ≤ 256 → (256 - a).toNat = n → SP S Y → (b, c) = adF S a.toNat → JJ p_ l e_ { frames := 5, cells := 0, slots := 0, locals := 117 } s_ m_ args_ below_ meth_ c_ D cys ad A_ Q_ 5 0 0 L g X Y 6 [(0, .ref (ad 0 0)), (1, .int (iI b)), (2, .int (iI c)), (3, .int (iI a))] [] := by
    intro n
    induction n with
    | zero =>
      intro a b c Y h0 h1 h2 h3 h4
      have ea : a = 256 := by omega
      subst ea
      refine j_iload_n G dX6_advise_6 rfl ?_
      refine j_sipush G dX6_advise_7 (by decide +kernel) ?_
      refine j_icmp_ge G 49 dX6_advise_10 (by decide) (by omega) (by omega) (fun c10 => ?_) (fun c10 => ?_)
      · refine j_aload_n G dX6_advise_49 rfl ?_
        refine j_iload_n G dX6_advise_50 rfl ?_
        refine pf_0_6 G dX6_advise_51 lf6_249 (by first | assumption | decide) ?_
        refine j_iload_n G dX6_advise_54 rfl ?_
        refine jr_IZ G hQ hr dX6_advise_55 (by decide) (by decide) ?_
        try simp (config := { decide := true }) only [zS_k, zS_s, zS_j, ne_eq]
        have h4 : (b, c) = adF S 256 := h4
        rw [← h4]
        refine ⟨rfl, fun k hk => ?_, fun i => ?_⟩
        · by_cases e : k = 0
          · subst e
            funext i j
            by_cases e2 : i = 0
            · subst e2
              rw [zS_v, zS_v, h3.1 0 rfl]
            · rw [zS_o (by omega), zS_o (by omega), h3.1 0 rfl]
          · rw [zS_k e, zS_k e]; exact h3.1 k hk
        · rw [zS_k (by decide), zS_k (by decide)]; exact h3.2 i
      · exfalso; omega
    | succ n ih =>
      intro a b c Y h0 h1 h2 h3 h4
      have hin := adF_in hW a.toNat (by omega)
      rw [← h4] at hin
      have ha : 0 ≤ a ∧ a < 256 := by omega
      have hg := GAIN_in hW (L := a) (by omega)
      have hs := adF_s (S := S) h0
      rw [← h4] at hs
      have hin1 := hin.1
      have hin2 := hin.2.1
      have hh1 : 0 ≤ a + 1 := by omega
      have hh2 : a + 1 ≤ 256 := by omega
      have hh3 : (256 - (a + 1)).toNat = n := by omega
      refine j_iload_n G dX6_advise_6 rfl ?_
      refine j_sipush G dX6_advise_7 (by decide +kernel) ?_
      refine j_icmp_ge G 49 dX6_advise_10 (by decide) (by omega) (by omega) (fun c10 => ?_) (fun c10 => ?_)
      · exfalso; omega
      · refine j_aload_n G dX6_advise_13 rfl ?_
        refine j_iload_n G dX6_advise_14 rfl ?_
        refine j_cVI G cvX6_areLevels ml6_289 (c_X6_areLevels hi h3 hW ha) dX6_advise_15 ⟨by decide, by decide⟩ ⟨by decide, by decide⟩ rfl rfl (Nat.le_of_ble_eq_true rfl) (by first | assumption | decide) rfl rfl rfl (fun r15 h15 => ?_)
        have h15' : (r15 = 1 ∨ r15 = 0) ∧ (r15 = 1 → LOK S a) ∧ (r15 = 0 → ¬ LOK S a) := by
          rcases h15 with q | q
          · exact ⟨Or.inl q.1, fun _ => q.2, fun z => by omega⟩
          · exact ⟨Or.inr q.1, fun z => by omega, fun _ => q.2⟩
        clear h15
        refine j_if_eq G 29 dX6_advise_18 (by decide) (by omega) (fun c18 => ?_) (fun c18 => ?_)
        · refine j_iconst G dX6_advise_29 ?_
          refine j_istore G dX6_advise_30 (by decide) rfl ?_
          refine j_iload G dX6_advise_32 rfl ?_
          refine j_iload_n G dX6_advise_34 rfl ?_
          refine j_icmp_le G 43 dX6_advise_35 (by decide) (by omega) (by omega) (fun c35 => ?_) (fun c35 => ?_)
          · refine j_iinc G dX6_advise_43 rfl (by decide) rfl ?_
            refine j_goto G 6 dX6_advise_46 (by decide) ?_
            refine j_keep [0, 1, 2, 3] ?_
            first
            | (refine ih (a + 1) b c _ hh1 hh2 hh3 (by assumption) ?_
               rw [hs, if_neg]
               first
               | (rintro ⟨z1, z2⟩
                  have z2 : b < GAIN S a := z2
                  omega)
               | (rintro ⟨z1, z2⟩
                  exact h15'.2.2 (by omega) z1))
            | (refine ih (a + 1) _ a _ hh1 hh2 hh3 (by assumption) ?_
               rw [hs, if_pos ⟨h15'.2.1 (by omega), by show b < GAIN S a; omega⟩, h23a])
            | (exfalso; omega)
          · refine j_iload G dX6_advise_38 rfl ?_
            refine j_istore_n G dX6_advise_40 (by decide) rfl ?_
            refine j_iload_n G dX6_advise_41 rfl ?_
            refine j_istore_n G dX6_advise_42 (by decide) rfl ?_
            refine j_iinc G dX6_advise_43 rfl (by decide) rfl ?_
            refine j_goto G 6 dX6_advise_46 (by decide) ?_
            refine j_keep [0, 1, 2, 3] ?_
            first
            | (refine ih (a + 1) b c _ hh1 hh2 hh3 (by assumption) ?_
               rw [hs, if_neg]
               first
               | (rintro ⟨z1, z2⟩
                  have z2 : b < GAIN S a := z2
                  omega)
               | (rintro ⟨z1, z2⟩
                  exact h15'.2.2 (by omega) z1))
            | (refine ih (a + 1) _ a _ hh1 hh2 hh3 (by assumption) ?_
               rw [hs, if_pos ⟨h15'.2.1 (by omega), by show b < GAIN S a; omega⟩, h23a])
            | (exfalso; omega)
        · refine j_aload_n G dX6_advise_21 rfl ?_
          refine j_iload_n G dX6_advise_22 rfl ?_
          refine j_cVIZ G cvX6_gainOf ml6_286 (c_X6_gainOf hi h3 hW ha) dX6_advise_23 ⟨by decide, by decide⟩ ⟨by decide, by decide⟩ rfl rfl (Nat.le_of_ble_eq_true rfl) (by first | assumption | decide) rfl rfl rfl (fun r23 Z23 h23 => ?_)
          obtain ⟨h23a, h23b⟩ := h23
          refine j_goto G 30 dX6_advise_26 (by decide) ?_
          refine j_istore G dX6_advise_30 (by decide) rfl ?_
          refine j_iload G dX6_advise_32 rfl ?_
          refine j_iload_n G dX6_advise_34 rfl ?_
          refine j_icmp_le G 43 dX6_advise_35 (by decide) (by omega) (by omega) (fun c35 => ?_) (fun c35 => ?_)
          · refine j_iinc G dX6_advise_43 rfl (by decide) rfl ?_
            refine j_goto G 6 dX6_advise_46 (by decide) ?_
            refine j_keep [0, 1, 2, 3] ?_
            first
            | (refine ih (a + 1) b c _ hh1 hh2 hh3 (by assumption) ?_
               rw [hs, if_neg]
               first
               | (rintro ⟨z1, z2⟩
                  have z2 : b < GAIN S a := z2
                  omega)
               | (rintro ⟨z1, z2⟩
                  exact h15'.2.2 (by omega) z1))
            | (refine ih (a + 1) _ a _ hh1 hh2 hh3 (by assumption) ?_
               rw [hs, if_pos ⟨h15'.2.1 (by omega), by show b < GAIN S a; omega⟩, h23a])
            | (exfalso; omega)
          · refine j_iload G dX6_advise_38 rfl ?_
            refine j_istore_n G dX6_advise_40 (by decide) rfl ?_
            refine j_iload_n G dX6_advise_41 rfl ?_
            refine j_istore_n G dX6_advise_42 (by decide) rfl ?_
            refine j_iinc G dX6_advise_43 rfl (by decide) rfl ?_
            refine j_goto G 6 dX6_advise_46 (by decide) ?_
            refine j_keep [0, 1, 2, 3] ?_
            first
            | (refine ih (a + 1) b c _ hh1 hh2 hh3 (by assumption) ?_
               rw [hs, if_neg]
               first
               | (rintro ⟨z1, z2⟩
                  have z2 : b < GAIN S a := z2
                  omega)
               | (rintro ⟨z1, z2⟩
                  exact h15'.2.2 (by omega) z1))
            | (refine ih (a + 1) _ a _ hh1 hh2 hh3 (by assumption) ?_
               rw [hs, if_pos ⟨h15'.2.1 (by omega), by show b < GAIN S a; omega⟩, h23a])
            | (exfalso; omega)
  refine j_iconst G dX6_advise_0 ?_
  refine j_istore_n G dX6_advise_1 (by decide) rfl ?_
  refine j_iconst G dX6_advise_2 ?_
  refine j_istore_n G dX6_advise_3 (by decide) rfl ?_
  refine j_iconst G dX6_advise_4 ?_
  refine j_istore_n G dX6_advise_5 (by decide) rfl ?_
  exact loop _ 0 (-1) 0 Z (by omega) (by omega) rfl hS rfl
set_option maxRecDepth 100000 in
set_option maxHeartbeats 8000000 in
theorem c_X6_mix {l : Launch} {D : va_G} {cys : Nat → ClassId} {ad : Nat → Int → Nat} {L : List Nat} {g : Nat → va_E} {X : Int64} {Z : ZT} (hi : injA ad) {x y : Int64}  : CM l D cys ad yX6_mix cX6_mix 4 (some .long) 0 0 0 0 [.long x, .long y] L g X Z (PJ L g X Z (fun r => r = x * 31 + y)) := by
  refine cm_start hi (by decide +kernel) (Nat.le_of_ble_eq_true rfl) ?_
  intro p_ e_ s_ m_ args_ below_ meth_ c_ A_ Q_ hQ G hr hin
  refine j_lload_n G dX6_mix_0 rfl ?_
  refine j_ldc2 G dX6_mix_1 (v := (31 : Int64)) (TW_of 410 (by decide +kernel) (by decide +kernel)) ?_
  refine j_lmul G dX6_mix_4 ?_
  refine j_lload_n G dX6_mix_5 rfl ?_
  refine j_ladd G dX6_mix_6 ?_
  refine jr_J G hQ hr dX6_mix_7 (by decide) (by decide) ?_
  rfl
set_option maxRecDepth 100000 in
set_option maxHeartbeats 8000000 in
theorem c_X6_mixTree {l : Launch} {D : va_G} {cys : Nat → ClassId} {ad : Nat → Int → Nat} {L : List Nat} {g : Nat → va_E} {X : Int64} {Z : ZT} (hi : injA ad) {S : ZT} {d : Int} {x : Int64} (hS : SP S Z) (hW : WF S) (hd : 0 ≤ d ∧ d < S 0 0 5) : CM l D cys ad yX6_mixTree cX6_mixTree 8 (some .long) 2 41 0 0 [.ref (ad 0 0), .long x, .int (iI d)] L g X Z (PJ L g X Z (fun r => r = DT S d x)) := by
  refine cm_start hi (by decide +kernel) (Nat.le_of_ble_eq_true rfl) ?_
  intro p_ e_ s_ m_ args_ below_ meth_ c_ A_ Q_ hQ G hr hin
  have hn := hW.n
  have ht := hW.t hd.1 hd.2
  have ht1 := ht.1
  have hv2 : vd 2 d := ⟨hd.1, show d < 4 by omega⟩
  have e2 : Z 2 = S 2 := hS.1 2 rfl
  have e3 : Z 3 = S 3 := hS.1 3 rfl
  have e4 : Z 4 = S 4 := hS.1 4 rfl
  have e06 : Z 0 0 6 = S 0 0 6 := by rw [hS.1 0 rfl]
  have e24 : Z 2 d 4 = S 2 d 4 := by rw [e2]
  have hl := hW.lv
  have hq : 0 ≤ Z 0 0 6 ∧ Z 0 0 6 < 256 := by rw [e06]; exact ⟨hl.1, hl.2.1⟩
  have hd4 : 0 ≤ d ∧ d < 4 := by omega
  have loop : ∀ (n : Nat) (a : Int) (y : Int64), 0 ≤ a → a ≤ S 2 d 4 → (S 2 d 4 - a).toNat = n → y = mtF S d (mI x (S 2 d 4)) a.toNat → JJ p_ l e_ { frames := 2, cells := 0, slots := 0, locals := 41 } s_ m_ args_ below_ meth_ c_ D cys ad A_ Q_ 8 0 0 L g X Z 23 [(0, .ref (ad 0 0)), (1, .long x), (3, .int (iI d)), (4, .ref (ad 2 d)), (5, .long y), (7, .int (iI a))] [] := by
    intro n
    induction n with
    | zero =>
      intro a y h0 h1 h2 h3
      have ea : a = S 2 d 4 := by omega
      subst ea
      refine j_iload G dX6_mixTree_23 rfl ?_
      refine j_aload G dX6_mixTree_25 rfl ?_
      refine gf_2_4 G dX6_mixTree_27 lf6_128 (by first | assumption | decide) ?_
      refine j_icmp_ge G 71 dX6_mixTree_30 (by decide) (by omega) (by omega) (fun c30 => ?_) (fun c30 => ?_)
      · refine j_lload G dX6_mixTree_71 rfl ?_
        refine j_aload G dX6_mixTree_73 rfl ?_
        refine gf_2_5 G dX6_mixTree_75 lf6_150 (by first | assumption | decide) ?_
        refine j_i2l G dX6_mixTree_78 ?_
        refine j_cSJ G csX6_mix ml6_294 rfl (c_X6_mix hi ) dX6_mixTree_79 ⟨by decide, by decide⟩ ⟨by decide, by decide⟩ rfl rfl (Nat.le_of_ble_eq_true rfl) (fun r79 h79 => ?_)
        refine j_lstore G dX6_mixTree_82 (by decide) rfl ?_
        refine j_lload G dX6_mixTree_84 rfl ?_
        refine j_aload_n G dX6_mixTree_86 rfl ?_
        refine gf_0_6 G dX6_mixTree_87 lf6_249 (by first | assumption | decide) ?_
        refine j_iload_n G dX6_mixTree_90 rfl ?_
        refine j_cSI G csX6_levelIn ml6_252 rfl (c_X6_levelIn hi (by first | assumption | omega | decide) (by first | assumption | omega | decide)) dX6_mixTree_91 ⟨by decide, by decide⟩ ⟨by decide, by decide⟩ rfl rfl (Nat.le_of_ble_eq_true rfl) (fun r91 h91 => ?_)
        refine j_i2l G dX6_mixTree_94 ?_
        refine j_cSJ G csX6_mix ml6_294 rfl (c_X6_mix hi ) dX6_mixTree_95 ⟨by decide, by decide⟩ ⟨by decide, by decide⟩ rfl rfl (Nat.le_of_ble_eq_true rfl) (fun r95 h95 => ?_)
        refine jr_J G hQ hr dX6_mixTree_98 (by decide) (by decide) ?_
        rw [h95, h91, h79, h3, e2, e06]
        rfl
      · exfalso; omega
    | succ n ih =>
      intro a y h0 h1 h2 h3
      refine j_iload G dX6_mixTree_23 rfl ?_
      refine j_aload G dX6_mixTree_25 rfl ?_
      refine gf_2_4 G dX6_mixTree_27 lf6_128 (by first | assumption | decide) ?_
      refine j_icmp_ge G 71 dX6_mixTree_30 (by decide) (by omega) (by omega) (fun c30 => ?_) (fun c30 => ?_)
      · exfalso; omega
      · refine j_lload G dX6_mixTree_33 rfl ?_
        refine j_aload G dX6_mixTree_35 rfl ?_
        refine gf_2_0 G dX6_mixTree_37 lf6_118 (by first | assumption | decide) ?_
        refine j_iload G dX6_mixTree_40 rfl ?_
        refine al_3 G dX6_mixTree_42 (by first | assumption | decide) (by omega) (by omega) ?_
        refine j_i2l G dX6_mixTree_43 ?_
        refine j_cSJ G csX6_mix ml6_294 rfl (c_X6_mix hi ) dX6_mixTree_44 ⟨by decide, by decide⟩ ⟨by decide, by decide⟩ rfl rfl (Nat.le_of_ble_eq_true rfl) (fun r44 h44 => ?_)
        refine j_lstore G dX6_mixTree_47 (by decide) rfl ?_
        refine j_lload G dX6_mixTree_49 rfl ?_
        refine j_aload G dX6_mixTree_51 rfl ?_
        refine gf_2_1 G dX6_mixTree_53 lf6_112 (by first | assumption | decide) ?_
        refine j_iload G dX6_mixTree_56 rfl ?_
        refine al_4 G dX6_mixTree_58 (by first | assumption | decide) (by omega) (by omega) ?_
        refine j_i2l G dX6_mixTree_59 ?_
        refine j_cSJ G csX6_mix ml6_294 rfl (c_X6_mix hi ) dX6_mixTree_60 ⟨by decide, by decide⟩ ⟨by decide, by decide⟩ rfl rfl (Nat.le_of_ble_eq_true rfl) (fun r60 h60 => ?_)
        refine j_lstore G dX6_mixTree_63 (by decide) rfl ?_
        refine j_iinc G dX6_mixTree_65 rfl (by decide) rfl ?_
        refine j_goto G 23 dX6_mixTree_68 (by decide) ?_
        refine ih (a + 1) _ (by omega) (by omega) (by omega) ?_
        rw [nat_s (mtF S d (mI x (S 2 d 4))) h0]
        show _ = mI (mI (mtF S d _ a.toNat) (S 3 d (a.toNat : Int))) (S 4 d (a.toNat : Int))
        rw [Int.toNat_of_nonneg h0, ← h3, h60, h44, e3, e4]
        rfl
  refine j_aload_n G dX6_mixTree_0 rfl ?_
  refine gf_0_0 G dX6_mixTree_1 lf6_11 (by first | assumption | decide) ?_
  refine j_iload_n G dX6_mixTree_4 rfl ?_
  refine al_1 G dX6_mixTree_5 (by first | assumption | decide) (by omega) (by omega) ?_
  refine j_astore G dX6_mixTree_6 (by decide) rfl ?_
  refine j_lload_n G dX6_mixTree_8 rfl ?_
  refine j_aload G dX6_mixTree_9 rfl ?_
  refine gf_2_4 G dX6_mixTree_11 lf6_128 (by first | assumption | decide) ?_
  refine j_i2l G dX6_mixTree_14 ?_
  refine j_cSJ G csX6_mix ml6_294 rfl (c_X6_mix hi ) dX6_mixTree_15 ⟨by decide, by decide⟩ ⟨by decide, by decide⟩ rfl rfl (Nat.le_of_ble_eq_true rfl) (fun r15 h15 => ?_)
  refine j_lstore G dX6_mixTree_18 (by decide) rfl ?_
  refine j_iconst G dX6_mixTree_20 ?_
  refine j_istore G dX6_mixTree_21 (by decide) rfl ?_
  refine loop _ 0 _ (by omega) (by omega) rfl ?_
  rw [h15, e2]
  rfl
set_option maxRecDepth 100000 in
set_option maxHeartbeats 8000000 in
theorem c_X6_mixLineup {l : Launch} {D : va_G} {cys : Nat → ClassId} {ad : Nat → Int → Nat} {L : List Nat} {g : Nat → va_E} {X : Int64} {Z : ZT} (hi : injA ad) {S : ZT} {d : Int} {x : Int64} (hS : SP S Z) (hW : WF S) (hd : 0 ≤ d ∧ d < S 0 0 5) : CM l D cys ad yX6_mixLineup cX6_mixLineup 7 (some .long) 4 98 0 0 [.ref (ad 0 0), .long x, .int (iI d)] L g X Z (PJZ L g X Z (fun r Z' => r = DL S d x ∧ SP S Z')) := by
  refine cm_start hi (by decide +kernel) (Nat.le_of_ble_eq_true rfl) ?_
  intro p_ e_ s_ m_ args_ below_ meth_ c_ A_ Q_ hQ G hr hin
  have hn := hW.n
  have ht := hW.t hd.1 hd.2
  have ht1 := ht.1
  have hkl : ((kids S d).length : Int) ≤ 24 := by
    have := wk_len (S 4 d (S 2 d 5) + 1) ht ht1.2.2.2.2.1 ht1.2.2.2.2.2.1
    unfold kids; omega
  refine j_aload_n G dX6_mixLineup_0 rfl ?_
  refine j_iload_n G dX6_mixLineup_1 rfl ?_
  refine j_aload_n G dX6_mixLineup_2 rfl ?_
  refine gf_0_0 G dX6_mixLineup_3 lf6_11 (by first | assumption | decide) ?_
  refine j_iload_n G dX6_mixLineup_6 rfl ?_
  refine al_1 G dX6_mixLineup_7 (by first | assumption | decide) (by omega) (by omega) ?_
  refine j_cVVZ G cvX6_lineUp ml6_204 (c_X6_lineUp hi hS hW hd) dX6_mixLineup_8 ⟨by decide, by decide⟩ ⟨by decide, by decide⟩ rfl rfl (Nat.le_of_ble_eq_true rfl) (by first | assumption | decide) rfl rfl rfl (fun Z8 h8 => ?_)
  obtain ⟨hS8, hL8, hB8⟩ := h8
  have hl8 := hL8.1
  have hv21 : ∀ j, 0 ≤ j → j < 24 → inR (Z8 21 0 j) := fun j j0 j1 => by
    rw [hB8 j j0 j1]
    have := lsum_bd hW d j
    omega
  have hn16 : 0 ≤ Z8 16 3 1 ∧ Z8 16 3 1 ≤ 24 := by omega
  have hnn : (Z8 16 3 1).toNat = (kids S d).length := by omega
  have hah : ∀ c : Int, 0 ≤ c → c < (kids S d).length → ahd (Z8 21 0) c (kids S d).length = ahd (lsum S d) c (kids S d).length := fun c c0 c1 => ahd_congr (fun j j0 j1 => hB8 j j0 (by omega)) c0 c1
  refine j_lload_n G dX6_mixLineup_11 rfl ?_
  refine j_aload_n G dX6_mixLineup_12 rfl ?_
  refine gf_0_10 G dX6_mixLineup_13 lf6_49 (by first | assumption | decide) ?_
  refine gf_20_0 G dX6_mixLineup_16 lf6_188 (by first | assumption | decide) ?_
  refine gf_16_1 G dX6_mixLineup_19 lf6_191 (by first | assumption | decide) ?_
  refine j_i2l G dX6_mixLineup_22 ?_
  refine j_cSJ G csX6_mix ml6_294 rfl (c_X6_mix hi ) dX6_mixLineup_23 ⟨by decide, by decide⟩ ⟨by decide, by decide⟩ rfl rfl (Nat.le_of_ble_eq_true rfl) (fun r23 h23 => ?_)
  refine j_lstore G dX6_mixLineup_26 (by decide) rfl ?_
  refine j_iconst G dX6_mixLineup_28 ?_
  refine j_istore G dX6_mixLineup_29 (by decide) rfl ?_
  have loop : ∀ (n : Nat) (a : Int) (y : Int64), 0 ≤ a → a ≤ (kids S d).length → ((kids S d).length - a).toNat = n → y = dlF S d (mI x (kids S d).length) a.toNat → JJ p_ l e_ { frames := 4, cells := 0, slots := 0, locals := 98 } s_ m_ args_ below_ meth_ c_ D cys ad A_ Q_ 7 0 0 L g X Z8 31 [(0, .ref (ad 0 0)), (1, .long x), (3, .int (iI d)), (4, .long y), (6, .int (iI a))] [] := by
    intro n
    induction n with
    | zero =>
      intro a y h0 h1 h2 h3
      have ea : a = (kids S d).length := by omega
      subst ea
      refine j_iload G dX6_mixLineup_31 rfl ?_
      refine j_aload_n G dX6_mixLineup_33 rfl ?_
      refine gf_0_10 G dX6_mixLineup_34 lf6_49 (by first | assumption | decide) ?_
      refine gf_20_0 G dX6_mixLineup_37 lf6_188 (by first | assumption | decide) ?_
      refine gf_16_1 G dX6_mixLineup_40 lf6_191 (by first | assumption | decide) ?_
      refine j_icmp_ge G 69 dX6_mixLineup_43 (by decide) (by omega) (by omega) (fun c43 => ?_) (fun c43 => ?_)
      · refine j_lload G dX6_mixLineup_69 rfl ?_
        refine jr_JZ G hQ hr dX6_mixLineup_71 (by decide) (by decide) ?_
        exact ⟨h3, hS8⟩
      · exfalso; omega
    | succ n ih =>
      intro a y h0 h1 h2 h3
      have hia : inR a := by omega
      refine j_iload G dX6_mixLineup_31 rfl ?_
      refine j_aload_n G dX6_mixLineup_33 rfl ?_
      refine gf_0_10 G dX6_mixLineup_34 lf6_49 (by first | assumption | decide) ?_
      refine gf_20_0 G dX6_mixLineup_37 lf6_188 (by first | assumption | decide) ?_
      refine gf_16_1 G dX6_mixLineup_40 lf6_191 (by first | assumption | decide) ?_
      refine j_icmp_ge G 69 dX6_mixLineup_43 (by decide) (by omega) (by omega) (fun c43 => ?_) (fun c43 => ?_)
      · exfalso; omega
      · refine j_lload G dX6_mixLineup_46 rfl ?_
        refine j_aload_n G dX6_mixLineup_48 rfl ?_
        refine gf_0_10 G dX6_mixLineup_49 lf6_49 (by first | assumption | decide) ?_
        refine j_iload G dX6_mixLineup_52 rfl ?_
        refine j_cVI G cvX2_childOfRank ml6_199 (c_X2_childOfRank hi hn16 hia hv21) dX6_mixLineup_54 ⟨by decide, by decide⟩ ⟨by decide, by decide⟩ rfl rfl (Nat.le_of_ble_eq_true rfl) (by first | assumption | decide) rfl rfl rfl (fun r54 h54 => ?_)
        have hcr : r54 = CR S d a := by
          unfold CR
          refine fstR_is _ _ ?_
          rw [hnn] at h54
          rcases h54 with q | q
          · refine Or.inl ⟨q.1, by omega, ?_, fun i i0 i1 => ?_⟩
            · rw [← hah r54 q.1 (by omega)]; exact q.2.2.1
            · rw [← hah i i0 (by omega)]; exact q.2.2.2 i i0 i1
          · refine Or.inr ⟨q.1, fun i i0 i1 => ?_⟩
            rw [← hah i i0 (by omega)]; exact q.2 i i0 (by omega)
        refine j_i2l G dX6_mixLineup_57 ?_
        refine j_cSJ G csX6_mix ml6_294 rfl (c_X6_mix hi ) dX6_mixLineup_58 ⟨by decide, by decide⟩ ⟨by decide, by decide⟩ rfl rfl (Nat.le_of_ble_eq_true rfl) (fun r58 h58 => ?_)
        refine j_lstore G dX6_mixLineup_61 (by decide) rfl ?_
        refine j_iinc G dX6_mixLineup_63 rfl (by decide) rfl ?_
        refine j_goto G 31 dX6_mixLineup_66 (by decide) ?_
        refine ih (a + 1) _ (by omega) (by omega) (by omega) ?_
        rw [nat_s (dlF S d (mI x (kids S d).length)) h0]
        show _ = mI (dlF S d _ a.toNat) (CR S d (a.toNat : Int))
        rw [Int.toNat_of_nonneg h0, ← h3, h58, hcr]
        rfl
  refine loop _ 0 _ (by omega) (by omega) rfl ?_
  rw [h23, hl8]
  rfl
end
section
theorem dX6_mixViews_0 : decode cX6_mixViews 0 = .ok (.lload_n 1, 1) := by decide +kernel
theorem dX6_mixViews_1 : decode cX6_mixViews 1 = .ok (.aload_n 0, 1) := by decide +kernel
theorem dX6_mixViews_2 : decode cX6_mixViews 2 = .ok (.getfield 25, 3) := by decide +kernel
theorem dX6_mixViews_5 : decode cX6_mixViews 5 = .ok (.getfield 261, 3) := by decide +kernel
theorem dX6_mixViews_8 : decode cX6_mixViews 8 = .ok (.i2l, 1) := by decide +kernel
theorem dX6_mixViews_9 : decode cX6_mixViews 9 = .ok (.invokestatic 294, 3) := by decide +kernel
theorem dX6_mixViews_12 : decode cX6_mixViews 12 = .ok (.lstore_n 3, 1) := by decide +kernel
theorem dX6_mixViews_13 : decode cX6_mixViews 13 = .ok (.iconst 0, 1) := by decide +kernel
theorem dX6_mixViews_14 : decode cX6_mixViews 14 = .ok (.istore 5, 2) := by decide +kernel
theorem dX6_mixViews_16 : decode cX6_mixViews 16 = .ok (.iload 5, 2) := by decide +kernel
theorem dX6_mixViews_18 : decode cX6_mixViews 18 = .ok (.aload_n 0, 1) := by decide +kernel
theorem dX6_mixViews_19 : decode cX6_mixViews 19 = .ok (.getfield 25, 3) := by decide +kernel
theorem dX6_mixViews_22 : decode cX6_mixViews 22 = .ok (.getfield 261, 3) := by decide +kernel
theorem dX6_mixViews_25 : decode cX6_mixViews 25 = .ok (.if_icmp .ge 48, 3) := by decide +kernel
theorem dX6_mixViews_28 : decode cX6_mixViews 28 = .ok (.lload_n 3, 1) := by decide +kernel
theorem dX6_mixViews_29 : decode cX6_mixViews 29 = .ok (.aload_n 0, 1) := by decide +kernel
theorem dX6_mixViews_30 : decode cX6_mixViews 30 = .ok (.getfield 25, 3) := by decide +kernel
theorem dX6_mixViews_33 : decode cX6_mixViews 33 = .ok (.getfield 274, 3) := by decide +kernel
theorem dX6_mixViews_36 : decode cX6_mixViews 36 = .ok (.iload 5, 2) := by decide +kernel
theorem dX6_mixViews_38 : decode cX6_mixViews 38 = .ok (.iaload, 1) := by decide +kernel
theorem dX6_mixViews_39 : decode cX6_mixViews 39 = .ok (.i2l, 1) := by decide +kernel
theorem dX6_mixViews_40 : decode cX6_mixViews 40 = .ok (.invokestatic 294, 3) := by decide +kernel
theorem dX6_mixViews_43 : decode cX6_mixViews 43 = .ok (.lstore_n 3, 1) := by decide +kernel
theorem dX6_mixViews_44 : decode cX6_mixViews 44 = .ok (.lload_n 3, 1) := by decide +kernel
theorem dX6_mixViews_45 : decode cX6_mixViews 45 = .ok (.aload_n 0, 1) := by decide +kernel
theorem dX6_mixViews_46 : decode cX6_mixViews 46 = .ok (.getfield 25, 3) := by decide +kernel
theorem dX6_mixViews_49 : decode cX6_mixViews 49 = .ok (.getfield 277, 3) := by decide +kernel
theorem dX6_mixViews_52 : decode cX6_mixViews 52 = .ok (.iload 5, 2) := by decide +kernel
theorem dX6_mixViews_54 : decode cX6_mixViews 54 = .ok (.baload, 1) := by decide +kernel
theorem dX6_mixViews_55 : decode cX6_mixViews 55 = .ok (.ifCond .eq 7, 3) := by decide +kernel
theorem dX6_mixViews_58 : decode cX6_mixViews 58 = .ok (.lconst 1, 1) := by decide +kernel
theorem dX6_mixViews_59 : decode cX6_mixViews 59 = .ok (.goto 4, 3) := by decide +kernel
theorem dX6_mixViews_62 : decode cX6_mixViews 62 = .ok (.lconst 0, 1) := by decide +kernel
theorem dX6_mixViews_63 : decode cX6_mixViews 63 = .ok (.invokestatic 294, 3) := by decide +kernel
theorem dX6_mixViews_66 : decode cX6_mixViews 66 = .ok (.lstore_n 3, 1) := by decide +kernel
theorem dX6_mixViews_67 : decode cX6_mixViews 67 = .ok (.iinc 5 1, 3) := by decide +kernel
theorem dX6_mixViews_70 : decode cX6_mixViews 70 = .ok (.goto (-54), 3) := by decide +kernel
theorem dX6_mixViews_73 : decode cX6_mixViews 73 = .ok (.lload_n 3, 1) := by decide +kernel
theorem dX6_mixViews_74 : decode cX6_mixViews 74 = .ok (.lreturn, 1) := by decide +kernel
theorem dX6_mixTable_0 : decode cX6_mixTable 0 = .ok (.aload_n 0, 1) := by decide +kernel
theorem dX6_mixTable_1 : decode cX6_mixTable 1 = .ok (.invokevirtual 226, 3) := by decide +kernel
theorem dX6_mixTable_4 : decode cX6_mixTable 4 = .ok (.lload_n 1, 1) := by decide +kernel
theorem dX6_mixTable_5 : decode cX6_mixTable 5 = .ok (.aload_n 0, 1) := by decide +kernel
theorem dX6_mixTable_6 : decode cX6_mixTable 6 = .ok (.getfield 32, 3) := by decide +kernel
theorem dX6_mixTable_9 : decode cX6_mixTable 9 = .ok (.getfield 229, 3) := by decide +kernel
theorem dX6_mixTable_12 : decode cX6_mixTable 12 = .ok (.i2l, 1) := by decide +kernel
theorem dX6_mixTable_13 : decode cX6_mixTable 13 = .ok (.invokestatic 294, 3) := by decide +kernel
theorem dX6_mixTable_16 : decode cX6_mixTable 16 = .ok (.lstore_n 3, 1) := by decide +kernel
theorem dX6_mixTable_17 : decode cX6_mixTable 17 = .ok (.lload_n 3, 1) := by decide +kernel
theorem dX6_mixTable_18 : decode cX6_mixTable 18 = .ok (.aload_n 0, 1) := by decide +kernel
theorem dX6_mixTable_19 : decode cX6_mixTable 19 = .ok (.getfield 36, 3) := by decide +kernel
theorem dX6_mixTable_22 : decode cX6_mixTable 22 = .ok (.getfield 229, 3) := by decide +kernel
theorem dX6_mixTable_25 : decode cX6_mixTable 25 = .ok (.i2l, 1) := by decide +kernel
theorem dX6_mixTable_26 : decode cX6_mixTable 26 = .ok (.invokestatic 294, 3) := by decide +kernel
theorem dX6_mixTable_29 : decode cX6_mixTable 29 = .ok (.lstore_n 3, 1) := by decide +kernel
theorem dX6_mixTable_30 : decode cX6_mixTable 30 = .ok (.iconst 0, 1) := by decide +kernel
theorem dX6_mixTable_31 : decode cX6_mixTable 31 = .ok (.istore 5, 2) := by decide +kernel
theorem dX6_mixTable_33 : decode cX6_mixTable 33 = .ok (.iload 5, 2) := by decide +kernel
theorem dX6_mixTable_35 : decode cX6_mixTable 35 = .ok (.aload_n 0, 1) := by decide +kernel
theorem dX6_mixTable_36 : decode cX6_mixTable 36 = .ok (.getfield 32, 3) := by decide +kernel
theorem dX6_mixTable_39 : decode cX6_mixTable 39 = .ok (.getfield 229, 3) := by decide +kernel
theorem dX6_mixTable_42 : decode cX6_mixTable 42 = .ok (.if_icmp .ge 24, 3) := by decide +kernel
theorem dX6_mixTable_45 : decode cX6_mixTable 45 = .ok (.lload_n 3, 1) := by decide +kernel
theorem dX6_mixTable_46 : decode cX6_mixTable 46 = .ok (.aload_n 0, 1) := by decide +kernel
theorem dX6_mixTable_47 : decode cX6_mixTable 47 = .ok (.getfield 32, 3) := by decide +kernel
theorem dX6_mixTable_50 : decode cX6_mixTable 50 = .ok (.iload 5, 2) := by decide +kernel
theorem dX6_mixTable_52 : decode cX6_mixTable 52 = .ok (.invokevirtual 242, 3) := by decide +kernel
theorem dX6_mixTable_55 : decode cX6_mixTable 55 = .ok (.i2l, 1) := by decide +kernel
theorem dX6_mixTable_56 : decode cX6_mixTable 56 = .ok (.invokestatic 294, 3) := by decide +kernel
theorem dX6_mixTable_59 : decode cX6_mixTable 59 = .ok (.lstore_n 3, 1) := by decide +kernel
theorem dX6_mixTable_60 : decode cX6_mixTable 60 = .ok (.iinc 5 1, 3) := by decide +kernel
theorem dX6_mixTable_63 : decode cX6_mixTable 63 = .ok (.goto (-30), 3) := by decide +kernel
theorem dX6_mixTable_66 : decode cX6_mixTable 66 = .ok (.iconst 0, 1) := by decide +kernel
theorem dX6_mixTable_67 : decode cX6_mixTable 67 = .ok (.istore 5, 2) := by decide +kernel
theorem dX6_mixTable_69 : decode cX6_mixTable 69 = .ok (.iload 5, 2) := by decide +kernel
theorem dX6_mixTable_71 : decode cX6_mixTable 71 = .ok (.aload_n 0, 1) := by decide +kernel
theorem dX6_mixTable_72 : decode cX6_mixTable 72 = .ok (.getfield 36, 3) := by decide +kernel
theorem dX6_mixTable_75 : decode cX6_mixTable 75 = .ok (.getfield 229, 3) := by decide +kernel
theorem dX6_mixTable_78 : decode cX6_mixTable 78 = .ok (.if_icmp .ge 24, 3) := by decide +kernel
theorem dX6_mixTable_81 : decode cX6_mixTable 81 = .ok (.lload_n 3, 1) := by decide +kernel
theorem dX6_mixTable_82 : decode cX6_mixTable 82 = .ok (.aload_n 0, 1) := by decide +kernel
theorem dX6_mixTable_83 : decode cX6_mixTable 83 = .ok (.getfield 36, 3) := by decide +kernel
theorem dX6_mixTable_86 : decode cX6_mixTable 86 = .ok (.iload 5, 2) := by decide +kernel
theorem dX6_mixTable_88 : decode cX6_mixTable 88 = .ok (.invokevirtual 242, 3) := by decide +kernel
theorem dX6_mixTable_91 : decode cX6_mixTable 91 = .ok (.i2l, 1) := by decide +kernel
theorem dX6_mixTable_92 : decode cX6_mixTable 92 = .ok (.invokestatic 294, 3) := by decide +kernel
theorem dX6_mixTable_95 : decode cX6_mixTable 95 = .ok (.lstore_n 3, 1) := by decide +kernel
theorem dX6_mixTable_96 : decode cX6_mixTable 96 = .ok (.iinc 5 1, 3) := by decide +kernel
theorem dX6_mixTable_99 : decode cX6_mixTable 99 = .ok (.goto (-30), 3) := by decide +kernel
theorem dX6_mixTable_102 : decode cX6_mixTable 102 = .ok (.iconst 0, 1) := by decide +kernel
theorem dX6_mixTable_103 : decode cX6_mixTable 103 = .ok (.istore 5, 2) := by decide +kernel
theorem dX6_mixTable_105 : decode cX6_mixTable 105 = .ok (.iload 5, 2) := by decide +kernel
theorem dX6_mixTable_107 : decode cX6_mixTable 107 = .ok (.aload_n 0, 1) := by decide +kernel
theorem dX6_mixTable_108 : decode cX6_mixTable 108 = .ok (.getfield 32, 3) := by decide +kernel
theorem dX6_mixTable_111 : decode cX6_mixTable 111 = .ok (.getfield 229, 3) := by decide +kernel
theorem dX6_mixTable_114 : decode cX6_mixTable 114 = .ok (.if_icmp .ge 44, 3) := by decide +kernel
theorem dX6_mixTable_117 : decode cX6_mixTable 117 = .ok (.iconst 0, 1) := by decide +kernel
theorem dX6_mixTable_118 : decode cX6_mixTable 118 = .ok (.istore 6, 2) := by decide +kernel
theorem dX6_mixTable_120 : decode cX6_mixTable 120 = .ok (.iload 6, 2) := by decide +kernel
theorem dX6_mixTable_122 : decode cX6_mixTable 122 = .ok (.aload_n 0, 1) := by decide +kernel
theorem dX6_mixTable_123 : decode cX6_mixTable 123 = .ok (.getfield 36, 3) := by decide +kernel
theorem dX6_mixTable_126 : decode cX6_mixTable 126 = .ok (.getfield 229, 3) := by decide +kernel
theorem dX6_mixTable_129 : decode cX6_mixTable 129 = .ok (.if_icmp .ge 23, 3) := by decide +kernel
theorem dX6_mixTable_132 : decode cX6_mixTable 132 = .ok (.lload_n 3, 1) := by decide +kernel
theorem dX6_mixTable_133 : decode cX6_mixTable 133 = .ok (.aload_n 0, 1) := by decide +kernel
theorem dX6_mixTable_134 : decode cX6_mixTable 134 = .ok (.iload 5, 2) := by decide +kernel
theorem dX6_mixTable_136 : decode cX6_mixTable 136 = .ok (.iload 6, 2) := by decide +kernel
theorem dX6_mixTable_138 : decode cX6_mixTable 138 = .ok (.invokevirtual 245, 3) := by decide +kernel
theorem dX6_mixTable_141 : decode cX6_mixTable 141 = .ok (.i2l, 1) := by decide +kernel
theorem dX6_mixTable_142 : decode cX6_mixTable 142 = .ok (.invokestatic 294, 3) := by decide +kernel
theorem dX6_mixTable_145 : decode cX6_mixTable 145 = .ok (.lstore_n 3, 1) := by decide +kernel
theorem dX6_mixTable_146 : decode cX6_mixTable 146 = .ok (.iinc 6 1, 3) := by decide +kernel
theorem dX6_mixTable_149 : decode cX6_mixTable 149 = .ok (.goto (-29), 3) := by decide +kernel
theorem dX6_mixTable_152 : decode cX6_mixTable 152 = .ok (.iinc 5 1, 3) := by decide +kernel
theorem dX6_mixTable_155 : decode cX6_mixTable 155 = .ok (.goto (-50), 3) := by decide +kernel
theorem dX6_mixTable_158 : decode cX6_mixTable 158 = .ok (.lload_n 3, 1) := by decide +kernel
theorem dX6_mixTable_159 : decode cX6_mixTable 159 = .ok (.lreturn, 1) := by decide +kernel
theorem dX6_digest_0 : decode cX6_digest 0 = .ok (.ldc2_w 292, 3) := by decide +kernel
theorem dX6_digest_3 : decode cX6_digest 3 = .ok (.lstore_n 1, 1) := by decide +kernel
theorem dX6_digest_4 : decode cX6_digest 4 = .ok (.lload_n 1, 1) := by decide +kernel
theorem dX6_digest_5 : decode cX6_digest 5 = .ok (.aload_n 0, 1) := by decide +kernel
theorem dX6_digest_6 : decode cX6_digest 6 = .ok (.getfield 66, 3) := by decide +kernel
theorem dX6_digest_9 : decode cX6_digest 9 = .ok (.i2l, 1) := by decide +kernel
theorem dX6_digest_10 : decode cX6_digest 10 = .ok (.invokestatic 294, 3) := by decide +kernel
theorem dX6_digest_13 : decode cX6_digest 13 = .ok (.lstore_n 1, 1) := by decide +kernel
theorem dX6_digest_14 : decode cX6_digest 14 = .ok (.iconst 0, 1) := by decide +kernel
theorem dX6_digest_15 : decode cX6_digest 15 = .ok (.istore_n 3, 1) := by decide +kernel
theorem dX6_digest_16 : decode cX6_digest 16 = .ok (.iload_n 3, 1) := by decide +kernel
theorem dX6_digest_17 : decode cX6_digest 17 = .ok (.aload_n 0, 1) := by decide +kernel
theorem dX6_digest_18 : decode cX6_digest 18 = .ok (.getfield 66, 3) := by decide +kernel
theorem dX6_digest_21 : decode cX6_digest 21 = .ok (.if_icmp .ge 16, 3) := by decide +kernel
theorem dX6_digest_24 : decode cX6_digest 24 = .ok (.aload_n 0, 1) := by decide +kernel
theorem dX6_digest_25 : decode cX6_digest 25 = .ok (.lload_n 1, 1) := by decide +kernel
theorem dX6_digest_26 : decode cX6_digest 26 = .ok (.iload_n 3, 1) := by decide +kernel
theorem dX6_digest_27 : decode cX6_digest 27 = .ok (.invokevirtual 298, 3) := by decide +kernel
theorem dX6_digest_30 : decode cX6_digest 30 = .ok (.lstore_n 1, 1) := by decide +kernel
theorem dX6_digest_31 : decode cX6_digest 31 = .ok (.iinc 3 1, 3) := by decide +kernel
theorem dX6_digest_34 : decode cX6_digest 34 = .ok (.goto (-18), 3) := by decide +kernel
theorem dX6_digest_37 : decode cX6_digest 37 = .ok (.lload_n 1, 1) := by decide +kernel
theorem dX6_digest_38 : decode cX6_digest 38 = .ok (.aload_n 0, 1) := by decide +kernel
theorem dX6_digest_39 : decode cX6_digest 39 = .ok (.getfield 18, 3) := by decide +kernel
theorem dX6_digest_42 : decode cX6_digest 42 = .ok (.getfield 160, 3) := by decide +kernel
theorem dX6_digest_45 : decode cX6_digest 45 = .ok (.i2l, 1) := by decide +kernel
theorem dX6_digest_46 : decode cX6_digest 46 = .ok (.invokestatic 294, 3) := by decide +kernel
theorem dX6_digest_49 : decode cX6_digest 49 = .ok (.lstore_n 1, 1) := by decide +kernel
theorem dX6_digest_50 : decode cX6_digest 50 = .ok (.lload_n 1, 1) := by decide +kernel
theorem dX6_digest_51 : decode cX6_digest 51 = .ok (.aload_n 0, 1) := by decide +kernel
theorem dX6_digest_52 : decode cX6_digest 52 = .ok (.invokevirtual 178, 3) := by decide +kernel
theorem dX6_digest_55 : decode cX6_digest 55 = .ok (.i2l, 1) := by decide +kernel
theorem dX6_digest_56 : decode cX6_digest 56 = .ok (.invokestatic 294, 3) := by decide +kernel
theorem dX6_digest_59 : decode cX6_digest 59 = .ok (.lstore_n 1, 1) := by decide +kernel
theorem dX6_digest_60 : decode cX6_digest 60 = .ok (.lload_n 1, 1) := by decide +kernel
theorem dX6_digest_61 : decode cX6_digest 61 = .ok (.aload_n 0, 1) := by decide +kernel
theorem dX6_digest_62 : decode cX6_digest 62 = .ok (.invokevirtual 182, 3) := by decide +kernel
theorem dX6_digest_65 : decode cX6_digest 65 = .ok (.i2l, 1) := by decide +kernel
theorem dX6_digest_66 : decode cX6_digest 66 = .ok (.invokestatic 294, 3) := by decide +kernel
theorem dX6_digest_69 : decode cX6_digest 69 = .ok (.lstore_n 1, 1) := by decide +kernel
theorem dX6_digest_70 : decode cX6_digest 70 = .ok (.lload_n 1, 1) := by decide +kernel
theorem dX6_digest_71 : decode cX6_digest 71 = .ok (.aload_n 0, 1) := by decide +kernel
theorem dX6_digest_72 : decode cX6_digest 72 = .ok (.invokevirtual 302, 3) := by decide +kernel
theorem dX6_digest_75 : decode cX6_digest 75 = .ok (.i2l, 1) := by decide +kernel
theorem dX6_digest_76 : decode cX6_digest 76 = .ok (.invokestatic 294, 3) := by decide +kernel
theorem dX6_digest_79 : decode cX6_digest 79 = .ok (.lstore_n 1, 1) := by decide +kernel
theorem dX6_digest_80 : decode cX6_digest 80 = .ok (.lload_n 1, 1) := by decide +kernel
theorem dX6_digest_81 : decode cX6_digest 81 = .ok (.aload_n 0, 1) := by decide +kernel
theorem dX6_digest_82 : decode cX6_digest 82 = .ok (.invokevirtual 305, 3) := by decide +kernel
theorem dX6_digest_85 : decode cX6_digest 85 = .ok (.i2l, 1) := by decide +kernel
theorem dX6_digest_86 : decode cX6_digest 86 = .ok (.invokestatic 294, 3) := by decide +kernel
theorem dX6_digest_89 : decode cX6_digest 89 = .ok (.lstore_n 1, 1) := by decide +kernel
theorem dX6_digest_90 : decode cX6_digest 90 = .ok (.iconst 0, 1) := by decide +kernel
theorem dX6_digest_91 : decode cX6_digest 91 = .ok (.istore_n 3, 1) := by decide +kernel
theorem dX6_digest_92 : decode cX6_digest 92 = .ok (.iload_n 3, 1) := by decide +kernel
theorem dX6_digest_93 : decode cX6_digest 93 = .ok (.aload_n 0, 1) := by decide +kernel
theorem dX6_digest_94 : decode cX6_digest 94 = .ok (.getfield 66, 3) := by decide +kernel
theorem dX6_digest_97 : decode cX6_digest 97 = .ok (.if_icmp .ge 16, 3) := by decide +kernel
theorem dX6_digest_100 : decode cX6_digest 100 = .ok (.aload_n 0, 1) := by decide +kernel
theorem dX6_digest_101 : decode cX6_digest 101 = .ok (.lload_n 1, 1) := by decide +kernel
theorem dX6_digest_102 : decode cX6_digest 102 = .ok (.iload_n 3, 1) := by decide +kernel
theorem dX6_digest_103 : decode cX6_digest 103 = .ok (.invokevirtual 308, 3) := by decide +kernel
theorem dX6_digest_106 : decode cX6_digest 106 = .ok (.lstore_n 1, 1) := by decide +kernel
theorem dX6_digest_107 : decode cX6_digest 107 = .ok (.iinc 3 1, 3) := by decide +kernel
theorem dX6_digest_110 : decode cX6_digest 110 = .ok (.goto (-18), 3) := by decide +kernel
theorem dX6_digest_113 : decode cX6_digest 113 = .ok (.aload_n 0, 1) := by decide +kernel
theorem dX6_digest_114 : decode cX6_digest 114 = .ok (.getfield 222, 3) := by decide +kernel
theorem dX6_digest_117 : decode cX6_digest 117 = .ok (.ifCond .eq 9, 3) := by decide +kernel
theorem dX6_digest_120 : decode cX6_digest 120 = .ok (.aload_n 0, 1) := by decide +kernel
theorem dX6_digest_121 : decode cX6_digest 121 = .ok (.lload_n 1, 1) := by decide +kernel
theorem dX6_digest_122 : decode cX6_digest 122 = .ok (.invokevirtual 311, 3) := by decide +kernel
theorem dX6_digest_125 : decode cX6_digest 125 = .ok (.lstore_n 1, 1) := by decide +kernel
theorem dX6_digest_126 : decode cX6_digest 126 = .ok (.aload_n 0, 1) := by decide +kernel
theorem dX6_digest_127 : decode cX6_digest 127 = .ok (.lload_n 1, 1) := by decide +kernel
theorem dX6_digest_128 : decode cX6_digest 128 = .ok (.invokevirtual 315, 3) := by decide +kernel
theorem dX6_digest_131 : decode cX6_digest 131 = .ok (.lstore_n 1, 1) := by decide +kernel
theorem dX6_digest_132 : decode cX6_digest 132 = .ok (.lload_n 1, 1) := by decide +kernel
theorem dX6_digest_133 : decode cX6_digest 133 = .ok (.aload_n 0, 1) := by decide +kernel
theorem dX6_digest_134 : decode cX6_digest 134 = .ok (.aload_n 0, 1) := by decide +kernel
theorem dX6_digest_135 : decode cX6_digest 135 = .ok (.getfield 249, 3) := by decide +kernel
theorem dX6_digest_138 : decode cX6_digest 138 = .ok (.invokevirtual 258, 3) := by decide +kernel
theorem dX6_digest_141 : decode cX6_digest 141 = .ok (.i2l, 1) := by decide +kernel
theorem dX6_digest_142 : decode cX6_digest 142 = .ok (.invokestatic 294, 3) := by decide +kernel
theorem dX6_digest_145 : decode cX6_digest 145 = .ok (.lstore_n 1, 1) := by decide +kernel
theorem dX6_digest_146 : decode cX6_digest 146 = .ok (.lload_n 1, 1) := by decide +kernel
theorem dX6_digest_147 : decode cX6_digest 147 = .ok (.aload_n 0, 1) := by decide +kernel
theorem dX6_digest_148 : decode cX6_digest 148 = .ok (.aload_n 0, 1) := by decide +kernel
theorem dX6_digest_149 : decode cX6_digest 149 = .ok (.getfield 249, 3) := by decide +kernel
theorem dX6_digest_152 : decode cX6_digest 152 = .ok (.invokevirtual 280, 3) := by decide +kernel
theorem dX6_digest_155 : decode cX6_digest 155 = .ok (.i2l, 1) := by decide +kernel
theorem dX6_digest_156 : decode cX6_digest 156 = .ok (.invokestatic 294, 3) := by decide +kernel
theorem dX6_digest_159 : decode cX6_digest 159 = .ok (.lstore_n 1, 1) := by decide +kernel
theorem dX6_digest_160 : decode cX6_digest 160 = .ok (.lload_n 1, 1) := by decide +kernel
theorem dX6_digest_161 : decode cX6_digest 161 = .ok (.aload_n 0, 1) := by decide +kernel
theorem dX6_digest_162 : decode cX6_digest 162 = .ok (.aload_n 0, 1) := by decide +kernel
theorem dX6_digest_163 : decode cX6_digest 163 = .ok (.getfield 249, 3) := by decide +kernel
theorem dX6_digest_166 : decode cX6_digest 166 = .ok (.invokevirtual 283, 3) := by decide +kernel
theorem dX6_digest_169 : decode cX6_digest 169 = .ok (.i2l, 1) := by decide +kernel
theorem dX6_digest_170 : decode cX6_digest 170 = .ok (.invokestatic 294, 3) := by decide +kernel
theorem dX6_digest_173 : decode cX6_digest 173 = .ok (.lstore_n 1, 1) := by decide +kernel
theorem dX6_digest_174 : decode cX6_digest 174 = .ok (.lload_n 1, 1) := by decide +kernel
theorem dX6_digest_175 : decode cX6_digest 175 = .ok (.aload_n 0, 1) := by decide +kernel
theorem dX6_digest_176 : decode cX6_digest 176 = .ok (.aload_n 0, 1) := by decide +kernel
theorem dX6_digest_177 : decode cX6_digest 177 = .ok (.getfield 249, 3) := by decide +kernel
theorem dX6_digest_180 : decode cX6_digest 180 = .ok (.invokevirtual 286, 3) := by decide +kernel
theorem dX6_digest_183 : decode cX6_digest 183 = .ok (.i2l, 1) := by decide +kernel
theorem dX6_digest_184 : decode cX6_digest 184 = .ok (.invokestatic 294, 3) := by decide +kernel
theorem dX6_digest_187 : decode cX6_digest 187 = .ok (.lreturn, 1) := by decide +kernel
theorem dX6_forgetWhatNeedsAllDimensions_0 : decode cX6_forgetWhatNeedsAllDimensions 0 = .ok (.aload_n 0, 1) := by decide +kernel
theorem dX6_forgetWhatNeedsAllDimensions_1 : decode cX6_forgetWhatNeedsAllDimensions 1 = .ok (.getfield 18, 3) := by decide +kernel
theorem dX6_forgetWhatNeedsAllDimensions_4 : decode cX6_forgetWhatNeedsAllDimensions 4 = .ok (.iconst 0, 1) := by decide +kernel
theorem dX6_forgetWhatNeedsAllDimensions_5 : decode cX6_forgetWhatNeedsAllDimensions 5 = .ok (.putfield 160, 3) := by decide +kernel
theorem dX6_forgetWhatNeedsAllDimensions_8 : decode cX6_forgetWhatNeedsAllDimensions 8 = .ok (.aload_n 0, 1) := by decide +kernel
theorem dX6_forgetWhatNeedsAllDimensions_9 : decode cX6_forgetWhatNeedsAllDimensions 9 = .ok (.getfield 25, 3) := by decide +kernel
theorem dX6_forgetWhatNeedsAllDimensions_12 : decode cX6_forgetWhatNeedsAllDimensions 12 = .ok (.iconst 0, 1) := by decide +kernel
theorem dX6_forgetWhatNeedsAllDimensions_13 : decode cX6_forgetWhatNeedsAllDimensions 13 = .ok (.putfield 261, 3) := by decide +kernel
theorem dX6_forgetWhatNeedsAllDimensions_16 : decode cX6_forgetWhatNeedsAllDimensions 16 = .ok (.aload_n 0, 1) := by decide +kernel
theorem dX6_forgetWhatNeedsAllDimensions_17 : decode cX6_forgetWhatNeedsAllDimensions 17 = .ok (.iconst 0, 1) := by decide +kernel
theorem dX6_forgetWhatNeedsAllDimensions_18 : decode cX6_forgetWhatNeedsAllDimensions 18 = .ok (.putfield 222, 3) := by decide +kernel
theorem dX6_forgetWhatNeedsAllDimensions_21 : decode cX6_forgetWhatNeedsAllDimensions 21 = .ok (.iconst 0, 1) := by decide +kernel
theorem dX6_forgetWhatNeedsAllDimensions_22 : decode cX6_forgetWhatNeedsAllDimensions 22 = .ok (.istore_n 1, 1) := by decide +kernel
theorem dX6_forgetWhatNeedsAllDimensions_23 : decode cX6_forgetWhatNeedsAllDimensions 23 = .ok (.iload_n 1, 1) := by decide +kernel
theorem dX6_forgetWhatNeedsAllDimensions_24 : decode cX6_forgetWhatNeedsAllDimensions 24 = .ok (.aload_n 0, 1) := by decide +kernel
theorem dX6_forgetWhatNeedsAllDimensions_25 : decode cX6_forgetWhatNeedsAllDimensions 25 = .ok (.getfield 66, 3) := by decide +kernel
theorem dX6_forgetWhatNeedsAllDimensions_28 : decode cX6_forgetWhatNeedsAllDimensions 28 = .ok (.if_icmp .ge 18, 3) := by decide +kernel
theorem dX6_forgetWhatNeedsAllDimensions_31 : decode cX6_forgetWhatNeedsAllDimensions 31 = .ok (.aload_n 0, 1) := by decide +kernel
theorem dX6_forgetWhatNeedsAllDimensions_32 : decode cX6_forgetWhatNeedsAllDimensions 32 = .ok (.getfield 11, 3) := by decide +kernel
theorem dX6_forgetWhatNeedsAllDimensions_35 : decode cX6_forgetWhatNeedsAllDimensions 35 = .ok (.iload_n 1, 1) := by decide +kernel
theorem dX6_forgetWhatNeedsAllDimensions_36 : decode cX6_forgetWhatNeedsAllDimensions 36 = .ok (.aaload, 1) := by decide +kernel
theorem dX6_forgetWhatNeedsAllDimensions_37 : decode cX6_forgetWhatNeedsAllDimensions 37 = .ok (.invokevirtual 327, 3) := by decide +kernel
theorem dX6_forgetWhatNeedsAllDimensions_40 : decode cX6_forgetWhatNeedsAllDimensions 40 = .ok (.iinc 1 1, 3) := by decide +kernel
theorem dX6_forgetWhatNeedsAllDimensions_43 : decode cX6_forgetWhatNeedsAllDimensions 43 = .ok (.goto (-20), 3) := by decide +kernel
theorem dX6_forgetWhatNeedsAllDimensions_46 : decode cX6_forgetWhatNeedsAllDimensions 46 = .ok (.return_, 1) := by decide +kernel
/-! by program: wip/whole/gen.py out of wip/whole/src/19.digest.eb -/
/-! EbbTable: the checksum; what is forgotten -/
set_option maxRecDepth 100000 in
set_option maxHeartbeats 8000000 in
theorem c_X6_mixViews {l : Launch} {D : va_G} {cys : Nat → ClassId} {ad : Nat → Int → Nat} {L : List Nat} {g : Nat → va_E} {X : Int64} {Z : ZT} (hi : injA ad) {S : ZT} {x : Int64} (hS : SP S Z) (hW : WF S) : CM l D cys ad yX6_mixViews cX6_mixViews 6 (some .long) 1 23 0 0 [.ref (ad 0 0), .long x] L g X Z (PJ L g X Z (fun r => r = DV S x)) := by
  refine cm_start hi (by decide +kernel) (Nat.le_of_ble_eq_true rfl) ?_
  intro p_ e_ s_ m_ args_ below_ meth_ c_ A_ Q_ hQ G hr hin
  have hv := hW.v
  have e11 : Z 11 = S 11 := hS.1 11 rfl
  have e113 : Z 11 0 3 = S 11 0 3 := by rw [e11]
  have e13 : Z 13 = S 13 := hS.1 13 rfl
  have e14 : Z 14 = S 14 := hS.1 14 rfl
  have loop : ∀ (n : Nat) (a : Int) (y : Int64), 0 ≤ a → a ≤ S 11 0 3 → (S 11 0 3 - a).toNat = n → y = dvF S (mI x (S 11 0 3)) a.toNat → JJ p_ l e_ { frames := 1, cells := 0, slots := 0, locals := 23 } s_ m_ args_ below_ meth_ c_ D cys ad A_ Q_ 6 0 0 L g X Z 16 [(0, .ref (ad 0 0)), (1, .long x), (3, .long y), (5, .int (iI a))] [] := by
    intro n
    induction n with
    | zero =>
      intro a y h0 h1 h2 h3
      have ea : a = S 11 0 3 := by omega
      subst ea
      refine j_iload G dX6_mixViews_16 rfl ?_
      refine j_aload_n G dX6_mixViews_18 rfl ?_
      refine gf_0_2 G dX6_mixViews_19 lf6_25 (by first | assumption | decide) ?_
      refine gf_11_3 G dX6_mixViews_22 lf6_261 (by first | assumption | decide) ?_
      refine j_icmp_ge G 73 dX6_mixViews_25 (by decide) (by omega) (by omega) (fun c25 => ?_) (fun c25 => ?_)
      · refine j_lload_n G dX6_mixViews_73 rfl ?_
        refine jr_J G hQ hr dX6_mixViews_74 (by decide) (by decide) ?_
        exact h3
      · exfalso; omega
    | succ n ih =>
      intro a y h0 h1 h2 h3
      have hst := hW.st h0 (by omega)
      have e14a : Z 14 0 a = S 14 0 a := by rw [e14]
      have hst : Z 14 0 a = 0 ∨ Z 14 0 a = 1 := by omega
      refine j_iload G dX6_mixViews_16 rfl ?_
      refine j_aload_n G dX6_mixViews_18 rfl ?_
      refine gf_0_2 G dX6_mixViews_19 lf6_25 (by first | assumption | decide) ?_
      refine gf_11_3 G dX6_mixViews_22 lf6_261 (by first | assumption | decide) ?_
      refine j_icmp_ge G 73 dX6_mixViews_25 (by decide) (by omega) (by omega) (fun c25 => ?_) (fun c25 => ?_)
      · exfalso; omega
      · refine j_lload_n G dX6_mixViews_28 rfl ?_
        refine j_aload_n G dX6_mixViews_29 rfl ?_
        refine gf_0_2 G dX6_mixViews_30 lf6_25 (by first | assumption | decide) ?_
        refine gf_11_1 G dX6_mixViews_33 lf6_274 (by first | assumption | decide) ?_
        refine j_iload G dX6_mixViews_36 rfl ?_
        refine al_13 G dX6_mixViews_38 (by first | assumption | decide) (by omega) (by omega) ?_
        refine j_i2l G dX6_mixViews_39 ?_
        refine j_cSJ G csX6_mix ml6_294 rfl (c_X6_mix hi ) dX6_mixViews_40 ⟨by decide, by decide⟩ ⟨by decide, by decide⟩ rfl rfl (Nat.le_of_ble_eq_true rfl) (fun r40 h40 => ?_)
        refine j_lstore_n G dX6_mixViews_43 (by decide) rfl ?_
        refine j_lload_n G dX6_mixViews_44 rfl ?_
        refine j_aload_n G dX6_mixViews_45 rfl ?_
        refine gf_0_2 G dX6_mixViews_46 lf6_25 (by first | assumption | decide) ?_
        refine gf_11_2 G dX6_mixViews_49 lf6_277 (by first | assumption | decide) ?_
        refine j_iload G dX6_mixViews_52 rfl ?_
        refine al_14 G dX6_mixViews_54 (by first | assumption | decide) (by omega) (by omega) ?_
        refine j_if_eq G 62 dX6_mixViews_55 (by decide) (by omega) (fun c55 => ?_) (fun c55 => ?_)
        · refine j_lconst G dX6_mixViews_62 rfl ?_
          refine j_cSJ G csX6_mix ml6_294 rfl (c_X6_mix hi ) dX6_mixViews_63 ⟨by decide, by decide⟩ ⟨by decide, by decide⟩ rfl rfl (Nat.le_of_ble_eq_true rfl) (fun r63 h63 => ?_)
          refine j_lstore_n G dX6_mixViews_66 (by decide) rfl ?_
          refine j_iinc G dX6_mixViews_67 rfl (by decide) rfl ?_
          refine j_goto G 16 dX6_mixViews_70 (by decide) ?_
          refine ih (a + 1) _ (by omega) (by omega) (by omega) ?_
          rw [nat_s (dvF S (mI x (S 11 0 3))) h0]
          show _ = mI (mI (dvF S _ a.toNat) (S 13 0 (a.toNat : Int))) (S 14 0 (a.toNat : Int))
          rw [Int.toNat_of_nonneg h0, ← h3, h63, h40, e13, ← e14]
          first
          | (rw [show Z 14 0 a = 0 by omega]; rfl)
          | (rw [show Z 14 0 a = 1 by omega]; rfl)
        · refine j_lconst G dX6_mixViews_58 rfl ?_
          refine j_goto G 63 dX6_mixViews_59 (by decide) ?_
          refine j_cSJ G csX6_mix ml6_294 rfl (c_X6_mix hi ) dX6_mixViews_63 ⟨by decide, by decide⟩ ⟨by decide, by decide⟩ rfl rfl (Nat.le_of_ble_eq_true rfl) (fun r63 h63 => ?_)
          refine j_lstore_n G dX6_mixViews_66 (by decide) rfl ?_
          refine j_iinc G dX6_mixViews_67 rfl (by decide) rfl ?_
          refine j_goto G 16 dX6_mixViews_70 (by decide) ?_
          refine ih (a + 1) _ (by omega) (by omega) (by omega) ?_
          rw [nat_s (dvF S (mI x (S 11 0 3))) h0]
          show _ = mI (mI (dvF S _ a.toNat) (S 13 0 (a.toNat : Int))) (S 14 0 (a.toNat : Int))
          rw [Int.toNat_of_nonneg h0, ← h3, h63, h40, e13, ← e14]
          first
          | (rw [show Z 14 0 a = 0 by omega]; rfl)
          | (rw [show Z 14 0 a = 1 by omega]; rfl)
  refine j_lload_n G dX6_mixViews_0 rfl ?_
  refine j_aload_n G dX6_mixViews_1 rfl ?_
  refine gf_0_2 G dX6_mixViews_2 lf6_25 (by first | assumption | decide) ?_
  refine gf_11_3 G dX6_mixViews_5 lf6_261 (by first | assumption | decide) ?_
  refine j_i2l G dX6_mixViews_8 ?_
  refine j_cSJ G csX6_mix ml6_294 rfl (c_X6_mix hi ) dX6_mixViews_9 ⟨by decide, by decide⟩ ⟨by decide, by decide⟩ rfl rfl (Nat.le_of_ble_eq_true rfl) (fun r9 h9 => ?_)
  refine j_lstore_n G dX6_mixViews_12 (by decide) rfl ?_
  refine j_iconst G dX6_mixViews_13 ?_
  refine j_istore G dX6_mixViews_14 (by decide) rfl ?_
  refine loop _ 0 _ (by omega) (by omega) rfl ?_
  rw [h9, e11]
  rfl
set_option maxRecDepth 100000 in
set_option maxHeartbeats 8000000 in
theorem c_X6_mixTable {l : Launch} {D : va_G} {cys : Nat → ClassId} {ad : Nat → Int → Nat} {L : List Nat} {g : Nat → va_E} {X : Int64} {Z : ZT} (hi : injA ad) {S : ZT} {x : Int64} (hS : SP S Z) (hW : WF S) (ha : S 0 0 7 = 1) : CM l D cys ad yX6_mixTable cX6_mixTable 7 (some .long) 5 116 0 0 [.ref (ad 0 0), .long x] L g X Z (PJZ L g X Z (fun r Z' => r = DTB S x ∧ SP S Z')) := by
  refine cm_start hi (by decide +kernel) (Nat.le_of_ble_eq_true rfl) ?_
  intro p_ e_ s_ m_ args_ below_ meth_ c_ A_ Q_ hQ G hr hin
  have ha0 := allL_ok hW ha (i := 0) (by omega) (by omega)
  have ha1 := allL_ok hW ha (i := 1) (by omega) (by omega)
  have hl0 : (LN S 0).length ≤ (allL S 0).length := by unfold LN; exact List.length_filter_le _ _
  have hl1 : (LN S 1).length ≤ (allL S 1).length := by unfold LN; exact List.length_filter_le _ _
  refine j_aload_n G dX6_mixTable_0 rfl ?_
  refine j_cVVZ G cvX6_layTable ml6_226 (c_X6_layTable hi hS hW ha) dX6_mixTable_1 ⟨by decide, by decide⟩ ⟨by decide, by decide⟩ rfl rfl (Nat.le_of_ble_eq_true rfl) (by first | assumption | decide) rfl rfl rfl (fun Z1 h1 => ?_)
  have hT := h1
  obtain ⟨hSt, hI, hC⟩ := h1
  have i0 := hI 0 (by omega) (by omega)
  have i1 := hI 1 (by omega) (by omega)
  have s0 := i0.2.1
  have s1 := i1.2.1
  have b0 : 0 ≤ Z1 15 0 3 ∧ Z1 15 0 3 ≤ 24 := by omega
  have b1 : 0 ≤ Z1 15 1 3 ∧ Z1 15 1 3 ≤ 24 := by omega
  have v0 : ∀ j, 0 ≤ j → j < Z1 15 0 3 → 0 ≤ Z1 19 0 j ∧ Z1 19 0 j < 24 := fun j j0 j1 => by have := i0.2.2 j j0 j1; omega
  have v1 : ∀ j, 0 ≤ j → j < Z1 15 1 3 → 0 ≤ Z1 19 1 j ∧ Z1 19 1 j < 24 := fun j j0 j1 => by have := i1.2.2 j j0 j1; omega
  refine j_lload_n G dX6_mixTable_4 rfl ?_
  refine j_aload_n G dX6_mixTable_5 rfl ?_
  refine gf_0_3 G dX6_mixTable_6 lf6_32 (by first | assumption | decide) ?_
  refine gf_15_3 G dX6_mixTable_9 lf6_229 (by first | assumption | decide) ?_
  refine j_i2l G dX6_mixTable_12 ?_
  refine j_cSJ G csX6_mix ml6_294 rfl (c_X6_mix hi ) dX6_mixTable_13 ⟨by decide, by decide⟩ ⟨by decide, by decide⟩ rfl rfl (Nat.le_of_ble_eq_true rfl) (fun r13 h13 => ?_)
  refine j_lstore_n G dX6_mixTable_16 (by decide) rfl ?_
  refine j_lload_n G dX6_mixTable_17 rfl ?_
  refine j_aload_n G dX6_mixTable_18 rfl ?_
  refine gf_0_4 G dX6_mixTable_19 lf6_36 (by first | assumption | decide) ?_
  refine gf_15_3 G dX6_mixTable_22 lf6_229 (by first | assumption | decide) ?_
  refine j_i2l G dX6_mixTable_25 ?_
  refine j_cSJ G csX6_mix ml6_294 rfl (c_X6_mix hi ) dX6_mixTable_26 ⟨by decide, by decide⟩ ⟨by decide, by decide⟩ rfl rfl (Nat.le_of_ble_eq_true rfl) (fun r26 h26 => ?_)
  refine j_lstore_n G dX6_mixTable_29 (by decide) rfl ?_
  refine j_iconst G dX6_mixTable_30 ?_
  refine j_istore G dX6_mixTable_31 (by decide) rfl ?_
  have loop3 : ∀ (n : Nat) (a : Int) (y : Int64), 0 ≤ a → a ≤ (LN S 0).length → ((LN S 0).length - a).toNat = n → y = rtF S (LN S 0) (LN S 1) (ltF (LN S 1) (ltF (LN S 0) (mI (mI x (LN S 0).length) (LN S 1).length) (LN S 0).length) (LN S 1).length) a.toNat → JJ p_ l e_ { frames := 5, cells := 0, slots := 0, locals := 116 } s_ m_ args_ below_ meth_ c_ D cys ad A_ Q_ 7 0 0 L g X Z1 105 [(0, .ref (ad 0 0)), (1, .long x), (3, .long y), (5, .int (iI a))] [] := by
    intro n
    induction n with
    | zero =>
      intro a y h0 h1 h2 h3
      have ea : a = (LN S 0).length := by omega
      subst ea
      refine j_iload G dX6_mixTable_105 rfl ?_
      refine j_aload_n G dX6_mixTable_107 rfl ?_
      refine gf_0_3 G dX6_mixTable_108 lf6_32 (by first | assumption | decide) ?_
      refine gf_15_3 G dX6_mixTable_111 lf6_229 (by first | assumption | decide) ?_
      refine j_icmp_ge G 158 dX6_mixTable_114 (by decide) (by omega) (by omega) (fun c114 => ?_) (fun c114 => ?_)
      · refine j_lload_n G dX6_mixTable_158 rfl ?_
        refine jr_JZ G hQ hr dX6_mixTable_159 (by decide) (by decide) ?_
        exact ⟨h3, hSt⟩
      · exfalso; omega
    | succ n ih =>
      intro a y h0 h1 h2 h3
      have haq : 0 ≤ a ∧ a < (LN S 0).length := by omega
      refine j_iload G dX6_mixTable_105 rfl ?_
      refine j_aload_n G dX6_mixTable_107 rfl ?_
      refine gf_0_3 G dX6_mixTable_108 lf6_32 (by first | assumption | decide) ?_
      refine gf_15_3 G dX6_mixTable_111 lf6_229 (by first | assumption | decide) ?_
      refine j_icmp_ge G 158 dX6_mixTable_114 (by decide) (by omega) (by omega) (fun c114 => ?_) (fun c114 => ?_)
      · exfalso; omega
      · refine j_iconst G dX6_mixTable_117 ?_
        refine j_istore G dX6_mixTable_118 (by decide) rfl ?_
        have inner : ∀ (n : Nat) (b : Int) (z : Int64), 0 ≤ b → b ≤ (LN S 1).length → ((LN S 1).length - b).toNat = n → z = ctF S ((LN S 0).getD a.toNat 0) (LN S 1) y b.toNat → JJ p_ l e_ { frames := 5, cells := 0, slots := 0, locals := 116 } s_ m_ args_ below_ meth_ c_ D cys ad A_ Q_ 7 0 0 L g X Z1 120 [(0, .ref (ad 0 0)), (1, .long x), (3, .long z), (5, .int (iI a)), (6, .int (iI b))] [] := by
          intro n2
          induction n2 with
          | zero =>
            intro b z g0 g1 g2 g3
            have eb : b = (LN S 1).length := by omega
            subst eb
            refine j_iload G dX6_mixTable_120 rfl ?_
            refine j_aload_n G dX6_mixTable_122 rfl ?_
            refine gf_0_4 G dX6_mixTable_123 lf6_36 (by first | assumption | decide) ?_
            refine gf_15_3 G dX6_mixTable_126 lf6_229 (by first | assumption | decide) ?_
            refine j_icmp_ge G 152 dX6_mixTable_129 (by decide) (by omega) (by omega) (fun c129 => ?_) (fun c129 => ?_)
            · refine j_iinc G dX6_mixTable_152 rfl (by decide) rfl ?_
              refine j_goto G 105 dX6_mixTable_155 (by decide) ?_
              refine j_keep [0, 1, 3, 5] ?_
              refine ih (a + 1) z (by omega) (by omega) (by omega) ?_
              rw [nat_s (rtF S (LN S 0) (LN S 1) _) h0]
              show _ = ctF S ((LN S 0).getD a.toNat 0) (LN S 1) (rtF S (LN S 0) (LN S 1) _ a.toNat) (LN S 1).length
              rw [← h3, g3]
              rfl
            · exfalso; omega
          | succ n2 ih2 =>
            intro b z g0 g1 g2 g3
            have hbq : 0 ≤ b ∧ b < (LN S 1).length := by omega
            refine j_iload G dX6_mixTable_120 rfl ?_
            refine j_aload_n G dX6_mixTable_122 rfl ?_
            refine gf_0_4 G dX6_mixTable_123 lf6_36 (by first | assumption | decide) ?_
            refine gf_15_3 G dX6_mixTable_126 lf6_229 (by first | assumption | decide) ?_
            refine j_icmp_ge G 152 dX6_mixTable_129 (by decide) (by omega) (by omega) (fun c129 => ?_) (fun c129 => ?_)
            · exfalso; omega
            · refine j_lload_n G dX6_mixTable_132 rfl ?_
              refine j_aload_n G dX6_mixTable_133 rfl ?_
              refine j_iload G dX6_mixTable_134 rfl ?_
              refine j_iload G dX6_mixTable_136 rfl ?_
              refine j_cVI G cvX6_cellOfLines ml6_245 (c_X6_cellOfLines hi hT hW ha haq hbq) dX6_mixTable_138 ⟨by decide, by decide⟩ ⟨by decide, by decide⟩ rfl rfl (Nat.le_of_ble_eq_true rfl) (by first | assumption | decide) rfl rfl rfl (fun r138 h138 => ?_)
              refine j_i2l G dX6_mixTable_141 ?_
              refine j_cSJ G csX6_mix ml6_294 rfl (c_X6_mix hi ) dX6_mixTable_142 ⟨by decide, by decide⟩ ⟨by decide, by decide⟩ rfl rfl (Nat.le_of_ble_eq_true rfl) (fun r142 h142 => ?_)
              refine j_lstore_n G dX6_mixTable_145 (by decide) rfl ?_
              refine j_iinc G dX6_mixTable_146 rfl (by decide) rfl ?_
              refine j_goto G 120 dX6_mixTable_149 (by decide) ?_
              refine ih2 (b + 1) _ (by omega) (by omega) (by omega) ?_
              rw [nat_s (ctF S ((LN S 0).getD a.toNat 0) (LN S 1) y) g0]
              show _ = mI (ctF S _ (LN S 1) y b.toNat) (tsum S _ ((LN S 1).getD b.toNat 0))
              rw [← g3, h142, h138]
              rfl
        exact inner _ 0 y (by omega) (by omega) rfl rfl
  have loop2 : ∀ (n : Nat) (a : Int) (y : Int64), 0 ≤ a → a ≤ (LN S 1).length → ((LN S 1).length - a).toNat = n → y = ltF (LN S 1) (ltF (LN S 0) (mI (mI x (LN S 0).length) (LN S 1).length) (LN S 0).length) a.toNat → JJ p_ l e_ { frames := 5, cells := 0, slots := 0, locals := 116 } s_ m_ args_ below_ meth_ c_ D cys ad A_ Q_ 7 0 0 L g X Z1 69 [(0, .ref (ad 0 0)), (1, .long x), (3, .long y), (5, .int (iI a))] [] := by
    intro n
    induction n with
    | zero =>
      intro a y h0 h1 h2 h3
      have ea : a = (LN S 1).length := by omega
      subst ea
      refine j_iload G dX6_mixTable_69 rfl ?_
      refine j_aload_n G dX6_mixTable_71 rfl ?_
      refine gf_0_4 G dX6_mixTable_72 lf6_36 (by first | assumption | decide) ?_
      refine gf_15_3 G dX6_mixTable_75 lf6_229 (by first | assumption | decide) ?_
      refine j_icmp_ge G 102 dX6_mixTable_78 (by decide) (by omega) (by omega) (fun c78 => ?_) (fun c78 => ?_)
      · refine j_iconst G dX6_mixTable_102 ?_
        refine j_istore G dX6_mixTable_103 (by decide) rfl ?_
        exact loop3 _ 0 y (by omega) (by omega) rfl h3
      · exfalso; omega
    | succ n ih =>
      intro a y h0 h1 h2 h3
      have hia : inR a := by omega
      refine j_iload G dX6_mixTable_69 rfl ?_
      refine j_aload_n G dX6_mixTable_71 rfl ?_
      refine gf_0_4 G dX6_mixTable_72 lf6_36 (by first | assumption | decide) ?_
      refine gf_15_3 G dX6_mixTable_75 lf6_229 (by first | assumption | decide) ?_
      refine j_icmp_ge G 102 dX6_mixTable_78 (by decide) (by omega) (by omega) (fun c78 => ?_) (fun c78 => ?_)
      · exfalso; omega
      · refine j_lload_n G dX6_mixTable_81 rfl ?_
        refine j_aload_n G dX6_mixTable_82 rfl ?_
        refine gf_0_4 G dX6_mixTable_83 lf6_36 (by first | assumption | decide) ?_
        refine j_iload G dX6_mixTable_86 rfl ?_
        refine j_cVI G cvX0_memberOfLine ml6_242 (c_X0_memberOfLine hi (by decide) (by decide) hia b1 v1) dX6_mixTable_88 ⟨by decide, by decide⟩ ⟨by decide, by decide⟩ rfl rfl (Nat.le_of_ble_eq_true rfl) (by first | assumption | decide) rfl rfl rfl (fun r88 h88 => ?_)
        refine j_i2l G dX6_mixTable_91 ?_
        refine j_cSJ G csX6_mix ml6_294 rfl (c_X6_mix hi ) dX6_mixTable_92 ⟨by decide, by decide⟩ ⟨by decide, by decide⟩ rfl rfl (Nat.le_of_ble_eq_true rfl) (fun r92 h92 => ?_)
        refine j_lstore_n G dX6_mixTable_95 (by decide) rfl ?_
        refine j_iinc G dX6_mixTable_96 rfl (by decide) rfl ?_
        refine j_goto G 69 dX6_mixTable_99 (by decide) ?_
        refine ih (a + 1) _ (by omega) (by omega) (by omega) ?_
        rw [nat_s (ltF (LN S 1) _) h0]
        show _ = mI (ltF (LN S 1) _ a.toNat) ((LN S 1).getD a.toNat 0)
        have hx : r88 = (LN S 1).getD a.toNat 0 := by
          rcases h88 with q | q
          · have w := i1.2.2 a h0 (by omega)
            rw [q.2.2, w.2.2, (i1.1.at w.1 w.2.1).2.2]
          · exact absurd ⟨h0, by omega⟩ q.1
        rw [← h3, h92, hx]
        rfl
  have loop1 : ∀ (n : Nat) (a : Int) (y : Int64), 0 ≤ a → a ≤ (LN S 0).length → ((LN S 0).length - a).toNat = n → y = ltF (LN S 0) (mI (mI x (LN S 0).length) (LN S 1).length) a.toNat → JJ p_ l e_ { frames := 5, cells := 0, slots := 0, locals := 116 } s_ m_ args_ below_ meth_ c_ D cys ad A_ Q_ 7 0 0 L g X Z1 33 [(0, .ref (ad 0 0)), (1, .long x), (3, .long y), (5, .int (iI a))] [] := by
    intro n
    induction n with
    | zero =>
      intro a y h0 h1 h2 h3
      have ea : a = (LN S 0).length := by omega
      subst ea
      refine j_iload G dX6_mixTable_33 rfl ?_
      refine j_aload_n G dX6_mixTable_35 rfl ?_
      refine gf_0_3 G dX6_mixTable_36 lf6_32 (by first | assumption | decide) ?_
      refine gf_15_3 G dX6_mixTable_39 lf6_229 (by first | assumption | decide) ?_
      refine j_icmp_ge G 66 dX6_mixTable_42 (by decide) (by omega) (by omega) (fun c42 => ?_) (fun c42 => ?_)
      · refine j_iconst G dX6_mixTable_66 ?_
        refine j_istore G dX6_mixTable_67 (by decide) rfl ?_
        exact loop2 _ 0 y (by omega) (by omega) rfl h3
      · exfalso; omega
    | succ n ih =>
      intro a y h0 h1 h2 h3
      have hia : inR a := by omega
      refine j_iload G dX6_mixTable_33 rfl ?_
      refine j_aload_n G dX6_mixTable_35 rfl ?_
      refine gf_0_3 G dX6_mixTable_36 lf6_32 (by first | assumption | decide) ?_
      refine gf_15_3 G dX6_mixTable_39 lf6_229 (by first | assumption | decide) ?_
      refine j_icmp_ge G 66 dX6_mixTable_42 (by decide) (by omega) (by omega) (fun c42 => ?_) (fun c42 => ?_)
      · exfalso; omega
      · refine j_lload_n G dX6_mixTable_45 rfl ?_
        refine j_aload_n G dX6_mixTable_46 rfl ?_
        refine gf_0_3 G dX6_mixTable_47 lf6_32 (by first | assumption | decide) ?_
        refine j_iload G dX6_mixTable_50 rfl ?_
        refine j_cVI G cvX0_memberOfLine ml6_242 (c_X0_memberOfLine hi (by decide) (by decide) hia b0 v0) dX6_mixTable_52 ⟨by decide, by decide⟩ ⟨by decide, by decide⟩ rfl rfl (Nat.le_of_ble_eq_true rfl) (by first | assumption | decide) rfl rfl rfl (fun r52 h52 => ?_)
        refine j_i2l G dX6_mixTable_55 ?_
        refine j_cSJ G csX6_mix ml6_294 rfl (c_X6_mix hi ) dX6_mixTable_56 ⟨by decide, by decide⟩ ⟨by decide, by decide⟩ rfl rfl (Nat.le_of_ble_eq_true rfl) (fun r56 h56 => ?_)
        refine j_lstore_n G dX6_mixTable_59 (by decide) rfl ?_
        refine j_iinc G dX6_mixTable_60 rfl (by decide) rfl ?_
        refine j_goto G 33 dX6_mixTable_63 (by decide) ?_
        refine ih (a + 1) _ (by omega) (by omega) (by omega) ?_
        rw [nat_s (ltF (LN S 0) _) h0]
        show _ = mI (ltF (LN S 0) _ a.toNat) ((LN S 0).getD a.toNat 0)
        have hx : r52 = (LN S 0).getD a.toNat 0 := by
          rcases h52 with q | q
          · have w := i0.2.2 a h0 (by omega)
            rw [q.2.2, w.2.2, (i0.1.at w.1 w.2.1).2.2]
          · exact absurd ⟨h0, by omega⟩ q.1
        rw [← h3, h56, hx]
        rfl
  refine loop1 _ 0 _ (by omega) (by omega) rfl ?_
  rw [h26, h13, s0, s1]
  rfl
set_option maxRecDepth 100000 in
set_option maxHeartbeats 8000000 in
theorem c_X6_digest {l : Launch} {D : va_G} {cys : Nat → ClassId} {ad : Nat → Int → Nat} {L : List Nat} {g : Nat → va_E} {X : Int64} {Z : ZT} (hi : injA ad) {S : ZT} (hS : SP S Z) (hW : WF S) : CM l D cys ad yX6_digest cX6_digest 4 (some .long) 6 142 0 0 [.ref (ad 0 0)] L g X Z (PJZ L g X Z (fun r Z' => r = DIG S ∧ SP S Z')) := by
  refine cm_start hi (by decide +kernel) (Nat.le_of_ble_eq_true rfl) ?_
  intro p_ e_ s_ m_ args_ below_ meth_ c_ A_ Q_ hQ G hr hin
  have hn := hW.n
  have hf := hW.f
  have hax := hW.ax
  have e0 : ∀ Y, SP S Y → Y 0 0 5 = S 0 0 5 := fun Y h => by rw [h.1 0 rfl]
  have e7 : ∀ Y, SP S Y → Y 0 0 7 = S 0 0 7 := fun Y h => by rw [h.1 0 rfl]
  have e6 : ∀ Y, SP S Y → Y 0 0 6 = S 0 0 6 := fun Y h => by rw [h.1 0 rfl]
  have e05 := e0 Z hS
  have e63 : Z 6 0 3 = S 6 0 3 := by rw [hS.1 6 rfl]
  have hl := hW.lv
  have hq : 0 ≤ S 0 0 6 ∧ S 0 0 6 < 256 := ⟨hl.1, hl.2.1⟩
  have loop2 : ∀ (n : Nat) (a : Int) (y b : Int64) (Y : ZT), 0 ≤ a → a ≤ S 0 0 5 → (S 0 0 5 - a).toNat = n → SP S Y → b = mI (mI (mI (mI (mI (ddF (DT S) (mI 2539 (S 0 0 5)) (S 0 0 5).toNat) (S 6 0 3)) (CNT S)) (SUM S)) (LEAST S)) (GREAT S) → y = ddF (DL S) b a.toNat → JJ p_ l e_ { frames := 6, cells := 0, slots := 0, locals := 142 } s_ m_ args_ below_ meth_ c_ D cys ad A_ Q_ 4 0 0 L g X Y 92 [(0, .ref (ad 0 0)), (1, .long y), (3, .int (iI a))] [] := by
    intro n
    induction n with
    | zero =>
      intro a y b Y h0 h1 h2 h3 h4 h5
      have ea : a = S 0 0 5 := by omega
      subst ea
      have e05 := e0 Y h3
      have e07 := e7 Y h3
      have e06 := e6 Y h3
      have fin : ∀ (V : ZT) (t : Int64), SP S V → t = (if S 0 0 7 = 1 then DTB S y else y) → JJ p_ l e_ { frames := 6, cells := 0, slots := 0, locals := 142 } s_ m_ args_ below_ meth_ c_ D cys ad A_ Q_ 4 0 0 L g X V 126 [(0, .ref (ad 0 0)), (1, .long t), (3, .int (iI (S 0 0 5)))] [] := by
        intro V t hV ht
        have e06 := e6 V hV
        refine j_aload_n G dX6_digest_126 rfl ?_
        refine j_lload_n G dX6_digest_127 rfl ?_
        refine j_cVJ G cvX6_mixViews ml6_315 (c_X6_mixViews hi hV hW) dX6_digest_128 ⟨by decide, by decide⟩ ⟨by decide, by decide⟩ rfl rfl (Nat.le_of_ble_eq_true rfl) (by first | assumption | decide) rfl rfl rfl (fun r128 h128 => ?_)
        refine j_lstore_n G dX6_digest_131 (by decide) rfl ?_
        refine j_lload_n G dX6_digest_132 rfl ?_
        refine j_aload_n G dX6_digest_133 rfl ?_
        refine j_aload_n G dX6_digest_134 rfl ?_
        refine gf_0_6 G dX6_digest_135 lf6_249 (by first | assumption | decide) ?_
        rw [e06]
        refine j_cVIZ G cvX6_cellsOf ml6_258 (c_X6_cellsOf hi hV hW hq) dX6_digest_138 ⟨by decide, by decide⟩ ⟨by decide, by decide⟩ rfl rfl (Nat.le_of_ble_eq_true rfl) (by first | assumption | decide) rfl rfl rfl (fun r138 Z138 h138 => ?_)
        have e06b := e6 Z138 h138.2
        refine j_i2l G dX6_digest_141 ?_
        refine j_cSJ G csX6_mix ml6_294 rfl (c_X6_mix hi ) dX6_digest_142 ⟨by decide, by decide⟩ ⟨by decide, by decide⟩ rfl rfl (Nat.le_of_ble_eq_true rfl) (fun r142 h142 => ?_)
        refine j_lstore_n G dX6_digest_145 (by decide) rfl ?_
        refine j_lload_n G dX6_digest_146 rfl ?_
        refine j_aload_n G dX6_digest_147 rfl ?_
        refine j_aload_n G dX6_digest_148 rfl ?_
        refine gf_0_6 G dX6_digest_149 lf6_249 (by first | assumption | decide) ?_
        rw [e06b]
        refine j_cVI G cvX6_costOf ml6_280 (c_X6_costOf hi h138.2 hW hq) dX6_digest_152 ⟨by decide, by decide⟩ ⟨by decide, by decide⟩ rfl rfl (Nat.le_of_ble_eq_true rfl) (by first | assumption | decide) rfl rfl rfl (fun r152 h152 => ?_)
        refine j_i2l G dX6_digest_155 ?_
        refine j_cSJ G csX6_mix ml6_294 rfl (c_X6_mix hi ) dX6_digest_156 ⟨by decide, by decide⟩ ⟨by decide, by decide⟩ rfl rfl (Nat.le_of_ble_eq_true rfl) (fun r156 h156 => ?_)
        refine j_lstore_n G dX6_digest_159 (by decide) rfl ?_
        refine j_lload_n G dX6_digest_160 rfl ?_
        refine j_aload_n G dX6_digest_161 rfl ?_
        refine j_aload_n G dX6_digest_162 rfl ?_
        refine gf_0_6 G dX6_digest_163 lf6_249 (by first | assumption | decide) ?_
        rw [e06b]
        refine j_cVI G cvX6_viewFor ml6_283 (c_X6_viewFor hi h138.2 hW hq) dX6_digest_166 ⟨by decide, by decide⟩ ⟨by decide, by decide⟩ rfl rfl (Nat.le_of_ble_eq_true rfl) (by first | assumption | decide) rfl rfl rfl (fun r166 h166 => ?_)
        refine j_i2l G dX6_digest_169 ?_
        refine j_cSJ G csX6_mix ml6_294 rfl (c_X6_mix hi ) dX6_digest_170 ⟨by decide, by decide⟩ ⟨by decide, by decide⟩ rfl rfl (Nat.le_of_ble_eq_true rfl) (fun r170 h170 => ?_)
        refine j_lstore_n G dX6_digest_173 (by decide) rfl ?_
        refine j_lload_n G dX6_digest_174 rfl ?_
        refine j_aload_n G dX6_digest_175 rfl ?_
        refine j_aload_n G dX6_digest_176 rfl ?_
        refine gf_0_6 G dX6_digest_177 lf6_249 (by first | assumption | decide) ?_
        rw [e06b]
        refine j_cVIZ G cvX6_gainOf ml6_286 (c_X6_gainOf hi h138.2 hW hq) dX6_digest_180 ⟨by decide, by decide⟩ ⟨by decide, by decide⟩ rfl rfl (Nat.le_of_ble_eq_true rfl) (by first | assumption | decide) rfl rfl rfl (fun r180 Z180 h180 => ?_)
        refine j_i2l G dX6_digest_183 ?_
        refine j_cSJ G csX6_mix ml6_294 rfl (c_X6_mix hi ) dX6_digest_184 ⟨by decide, by decide⟩ ⟨by decide, by decide⟩ rfl rfl (Nat.le_of_ble_eq_true rfl) (fun r184 h184 => ?_)
        refine jr_JZ G hQ hr dX6_digest_187 (by decide) (by decide) ?_
        refine ⟨?_, h180.2⟩
        rw [h184, h170, h156, h142, h180.1, h166, h152, h138.1, h128, ht, h5, h4]
        rfl
      refine j_iload_n G dX6_digest_92 rfl ?_
      refine j_aload_n G dX6_digest_93 rfl ?_
      refine gf_0_5 G dX6_digest_94 lf6_66 (by first | assumption | decide) ?_
      refine j_icmp_ge G 113 dX6_digest_97 (by decide) (by omega) (by omega) (fun c97 => ?_) (fun c97 => ?_)
      · refine j_aload_n G dX6_digest_113 rfl ?_
        refine gf_0_7 G dX6_digest_114 lf6_222 (by first | assumption | decide) ?_
        refine j_if_eq G 126 dX6_digest_117 (by decide) (by omega) (fun c117 => ?_) (fun c117 => ?_)
        · first
          | (exact fin Z122 _ h122.2 (by rw [h122.1, if_pos (by omega)]))
          | (exact fin Y y h3 (by rw [if_neg (by omega)]))
        · refine j_aload_n G dX6_digest_120 rfl ?_
          refine j_lload_n G dX6_digest_121 rfl ?_
          refine j_cVJZ G cvX6_mixTable ml6_311 (c_X6_mixTable hi h3 hW (by omega)) dX6_digest_122 ⟨by decide, by decide⟩ ⟨by decide, by decide⟩ rfl rfl (Nat.le_of_ble_eq_true rfl) (by first | assumption | decide) rfl rfl rfl (fun r122 Z122 h122 => ?_)
          refine j_lstore_n G dX6_digest_125 (by decide) rfl ?_
          first
          | (exact fin Z122 _ h122.2 (by rw [h122.1, if_pos (by omega)]))
          | (exact fin Y y h3 (by rw [if_neg (by omega)]))
      · exfalso; omega
    | succ n ih =>
      intro a y b Y h0 h1 h2 h3 h4 h5
      have e05 := e0 Y h3
      have had : 0 ≤ a ∧ a < S 0 0 5 := by omega
      refine j_iload_n G dX6_digest_92 rfl ?_
      refine j_aload_n G dX6_digest_93 rfl ?_
      refine gf_0_5 G dX6_digest_94 lf6_66 (by first | assumption | decide) ?_
      refine j_icmp_ge G 113 dX6_digest_97 (by decide) (by omega) (by omega) (fun c97 => ?_) (fun c97 => ?_)
      · exfalso; omega
      · refine j_aload_n G dX6_digest_100 rfl ?_
        refine j_lload_n G dX6_digest_101 rfl ?_
        refine j_iload_n G dX6_digest_102 rfl ?_
        refine j_cVJZ G cvX6_mixLineup ml6_308 (c_X6_mixLineup hi h3 hW had) dX6_digest_103 ⟨by decide, by decide⟩ ⟨by decide, by decide⟩ rfl rfl (Nat.le_of_ble_eq_true rfl) (by first | assumption | decide) rfl rfl rfl (fun r103 Z103 h103 => ?_)
        refine j_lstore_n G dX6_digest_106 (by decide) rfl ?_
        refine j_iinc G dX6_digest_107 rfl (by decide) rfl ?_
        refine j_goto G 92 dX6_digest_110 (by decide) ?_
        refine ih (a + 1) _ b _ (by omega) (by omega) (by omega) h103.2 h4 ?_
        rw [nat_s (ddF (DL S) b) h0]
        show _ = DL S (a.toNat : Int) (ddF (DL S) b a.toNat)
        rw [Int.toNat_of_nonneg h0, ← h5]
        exact h103.1
  have loop1 : ∀ (n : Nat) (a : Int) (y : Int64), 0 ≤ a → a ≤ S 0 0 5 → (S 0 0 5 - a).toNat = n → y = ddF (DT S) (mI 2539 (S 0 0 5)) a.toNat → JJ p_ l e_ { frames := 6, cells := 0, slots := 0, locals := 142 } s_ m_ args_ below_ meth_ c_ D cys ad A_ Q_ 4 0 0 L g X Z 16 [(0, .ref (ad 0 0)), (1, .long y), (3, .int (iI a))] [] := by
    intro n
    induction n with
    | zero =>
      intro a y h0 h1 h2 h3
      have ea : a = S 0 0 5 := by omega
      subst ea
      refine j_iload_n G dX6_digest_16 rfl ?_
      refine j_aload_n G dX6_digest_17 rfl ?_
      refine gf_0_5 G dX6_digest_18 lf6_66 (by first | assumption | decide) ?_
      refine j_icmp_ge G 37 dX6_digest_21 (by decide) (by omega) (by omega) (fun c21 => ?_) (fun c21 => ?_)
      · refine j_lload_n G dX6_digest_37 rfl ?_
        refine j_aload_n G dX6_digest_38 rfl ?_
        refine gf_0_1 G dX6_digest_39 lf6_18 (by first | assumption | decide) ?_
        refine gf_6_3 G dX6_digest_42 lf6_160 (by first | assumption | decide) ?_
        refine j_i2l G dX6_digest_45 ?_
        refine j_cSJ G csX6_mix ml6_294 rfl (c_X6_mix hi ) dX6_digest_46 ⟨by decide, by decide⟩ ⟨by decide, by decide⟩ rfl rfl (Nat.le_of_ble_eq_true rfl) (fun r46 h46 => ?_)
        refine j_lstore_n G dX6_digest_49 (by decide) rfl ?_
        refine j_lload_n G dX6_digest_50 rfl ?_
        refine j_aload_n G dX6_digest_51 rfl ?_
        refine j_cVI G cvX6_count ml6_178 (c_X6_count hi hS hW) dX6_digest_52 ⟨by decide, by decide⟩ ⟨by decide, by decide⟩ rfl rfl (Nat.le_of_ble_eq_true rfl) (by first | assumption | decide) rfl rfl rfl (fun r52 h52 => ?_)
        refine j_i2l G dX6_digest_55 ?_
        refine j_cSJ G csX6_mix ml6_294 rfl (c_X6_mix hi ) dX6_digest_56 ⟨by decide, by decide⟩ ⟨by decide, by decide⟩ rfl rfl (Nat.le_of_ble_eq_true rfl) (fun r56 h56 => ?_)
        refine j_lstore_n G dX6_digest_59 (by decide) rfl ?_
        refine j_lload_n G dX6_digest_60 rfl ?_
        refine j_aload_n G dX6_digest_61 rfl ?_
        refine j_cVI G cvX6_sum ml6_182 (c_X6_sum hi hS hW) dX6_digest_62 ⟨by decide, by decide⟩ ⟨by decide, by decide⟩ rfl rfl (Nat.le_of_ble_eq_true rfl) (by first | assumption | decide) rfl rfl rfl (fun r62 h62 => ?_)
        refine j_i2l G dX6_digest_65 ?_
        refine j_cSJ G csX6_mix ml6_294 rfl (c_X6_mix hi ) dX6_digest_66 ⟨by decide, by decide⟩ ⟨by decide, by decide⟩ rfl rfl (Nat.le_of_ble_eq_true rfl) (fun r66 h66 => ?_)
        refine j_lstore_n G dX6_digest_69 (by decide) rfl ?_
        refine j_lload_n G dX6_digest_70 rfl ?_
        refine j_aload_n G dX6_digest_71 rfl ?_
        refine j_cVI G cvX6_least ml6_302 (c_X6_least hi hS hW) dX6_digest_72 ⟨by decide, by decide⟩ ⟨by decide, by decide⟩ rfl rfl (Nat.le_of_ble_eq_true rfl) (by first | assumption | decide) rfl rfl rfl (fun r72 h72 => ?_)
        refine j_i2l G dX6_digest_75 ?_
        refine j_cSJ G csX6_mix ml6_294 rfl (c_X6_mix hi ) dX6_digest_76 ⟨by decide, by decide⟩ ⟨by decide, by decide⟩ rfl rfl (Nat.le_of_ble_eq_true rfl) (fun r76 h76 => ?_)
        refine j_lstore_n G dX6_digest_79 (by decide) rfl ?_
        refine j_lload_n G dX6_digest_80 rfl ?_
        refine j_aload_n G dX6_digest_81 rfl ?_
        refine j_cVI G cvX6_greatest ml6_305 (c_X6_greatest hi hS hW) dX6_digest_82 ⟨by decide, by decide⟩ ⟨by decide, by decide⟩ rfl rfl (Nat.le_of_ble_eq_true rfl) (by first | assumption | decide) rfl rfl rfl (fun r82 h82 => ?_)
        refine j_i2l G dX6_digest_85 ?_
        refine j_cSJ G csX6_mix ml6_294 rfl (c_X6_mix hi ) dX6_digest_86 ⟨by decide, by decide⟩ ⟨by decide, by decide⟩ rfl rfl (Nat.le_of_ble_eq_true rfl) (fun r86 h86 => ?_)
        refine j_lstore_n G dX6_digest_89 (by decide) rfl ?_
        refine j_iconst G dX6_digest_90 ?_
        refine j_istore_n G dX6_digest_91 (by decide) rfl ?_
        refine loop2 _ 0 _ _ Z (by omega) (by omega) rfl hS rfl ?_
        rw [h86, h76, h66, h56, h46, h82, h72, h62, h52, e63, h3]
        rfl
      · exfalso; omega
    | succ n ih =>
      intro a y h0 h1 h2 h3
      have had : 0 ≤ a ∧ a < S 0 0 5 := by omega
      refine j_iload_n G dX6_digest_16 rfl ?_
      refine j_aload_n G dX6_digest_17 rfl ?_
      refine gf_0_5 G dX6_digest_18 lf6_66 (by first | assumption | decide) ?_
      refine j_icmp_ge G 37 dX6_digest_21 (by decide) (by omega) (by omega) (fun c21 => ?_) (fun c21 => ?_)
      · exfalso; omega
      · refine j_aload_n G dX6_digest_24 rfl ?_
        refine j_lload_n G dX6_digest_25 rfl ?_
        refine j_iload_n G dX6_digest_26 rfl ?_
        refine j_cVJ G cvX6_mixTree ml6_298 (c_X6_mixTree hi hS hW had) dX6_digest_27 ⟨by decide, by decide⟩ ⟨by decide, by decide⟩ rfl rfl (Nat.le_of_ble_eq_true rfl) (by first | assumption | decide) rfl rfl rfl (fun r27 h27 => ?_)
        refine j_lstore_n G dX6_digest_30 (by decide) rfl ?_
        refine j_iinc G dX6_digest_31 rfl (by decide) rfl ?_
        refine j_goto G 16 dX6_digest_34 (by decide) ?_
        refine ih (a + 1) _ (by omega) (by omega) (by omega) ?_
        rw [nat_s (ddF (DT S) (mI 2539 (S 0 0 5))) h0]
        show _ = DT S (a.toNat : Int) (ddF (DT S) _ a.toNat)
        rw [Int.toNat_of_nonneg h0, ← h3]
        exact h27
  refine j_ldc2 G dX6_digest_0 (v := (2539 : Int64)) (TW_of 406 (by decide +kernel) (by decide +kernel)) ?_
  refine j_lstore_n G dX6_digest_3 (by decide) rfl ?_
  refine j_lload_n G dX6_digest_4 rfl ?_
  refine j_aload_n G dX6_digest_5 rfl ?_
  refine gf_0_5 G dX6_digest_6 lf6_66 (by first | assumption | decide) ?_
  refine j_i2l G dX6_digest_9 ?_
  refine j_cSJ G csX6_mix ml6_294 rfl (c_X6_mix hi ) dX6_digest_10 ⟨by decide, by decide⟩ ⟨by decide, by decide⟩ rfl rfl (Nat.le_of_ble_eq_true rfl) (fun r10 h10 => ?_)
  refine j_lstore_n G dX6_digest_13 (by decide) rfl ?_
  refine j_iconst G dX6_digest_14 ?_
  refine j_istore_n G dX6_digest_15 (by decide) rfl ?_
  refine loop1 _ 0 _ (by omega) (by omega) rfl ?_
  rw [h10, e05]
  rfl
set_option maxRecDepth 100000 in
set_option maxHeartbeats 8000000 in
theorem c_X6_forgetWhatNeedsAllDimensions {l : Launch} {D : va_G} {cys : Nat → ClassId} {ad : Nat → Int → Nat} {L : List Nat} {g : Nat → va_E} {X : Int64} {Z : ZT} (hi : injA ad)  (hn : 0 ≤ Z 0 0 5 ∧ Z 0 0 5 ≤ 4) : CM l D cys ad yX6_forgetWhatNeedsAllDimensions cX6_forgetWhatNeedsAllDimensions 2 none 1 21 0 0 [.ref (ad 0 0)] L g X Z (PVZ L g X Z (fun Z' => (∀ k i j, ¬ (k = 6 ∧ i = 0 ∧ j = 3) → ¬ (k = 11 ∧ i = 0 ∧ j = 3) → ¬ (k = 0 ∧ i = 0 ∧ j = 7) → k ≠ 5 → Z' k i j = Z k i j) ∧ Z' 6 0 3 = 0 ∧ Z' 11 0 3 = 0 ∧ Z' 0 0 7 = 0 ∧ ∀ d j, 0 ≤ d → d < Z 0 0 5 → 0 ≤ j → j < 24 → Z' 5 d j = 0)) := by
  refine cm_start hi (by decide +kernel) (Nat.le_of_ble_eq_true rfl) ?_
  intro p_ e_ s_ m_ args_ below_ meth_ c_ A_ Q_ hQ G hr hin
  have loop : ∀ (n : Nat) (a : Int) (Y : ZT), 0 ≤ a → a ≤ Z 0 0 5 → (Z 0 0 5 - a).toNat = n → (∀ k i j, ¬ (k = 6 ∧ i = 0 ∧ j = 3) → ¬ (k = 11 ∧ i = 0 ∧ j = 3) → ¬ (k = 0 ∧ i = 0 ∧ j = 7) → k ≠ 5 → Y k i j = Z k i j) → Y 6 0 3 = 0 → Y 11 0 3 = 0 → Y 0 0 7 = 0 → (∀ d j, 0 ≤ d → d < a → 0 ≤ j → j < 24 → Y 5 d j = 0) → JJ p_ l e_ { frames := 1, cells := 0, slots := 0, locals := 21 } s_ m_ args_ below_ meth_ c_ D cys ad A_ Q_ 2 0 0 L g X Y 23 [(0, .ref (ad 0 0)), (1, .int (iI a))] [] := by
    intro n
    induction n with
    | zero =>
      intro a Y h0 h1 h2 h3 h4 h5 h6 h7
      have ea : a = Z 0 0 5 := by omega
      subst ea
      have e5 : Y 0 0 5 = Z 0 0 5 := h3 0 0 5 (by omega) (by omega) (by omega) (by omega)
      refine j_iload_n G dX6_forgetWhatNeedsAllDimensions_23 rfl ?_
      refine j_aload_n G dX6_forgetWhatNeedsAllDimensions_24 rfl ?_
      refine gf_0_5 G dX6_forgetWhatNeedsAllDimensions_25 lf6_66 (by first | assumption | decide) ?_
      refine j_icmp_ge G 46 dX6_forgetWhatNeedsAllDimensions_28 (by decide) (by omega) (by omega) (fun c28 => ?_) (fun c28 => ?_)
      · refine jr_VZ G hQ hr dX6_forgetWhatNeedsAllDimensions_46 (by decide) (by decide) ?_
        exact ⟨h3, h4, h5, h6, h7⟩
      · exfalso; omega
    | succ n ih =>
      intro a Y h0 h1 h2 h3 h4 h5 h6 h7
      have e5 : Y 0 0 5 = Z 0 0 5 := h3 0 0 5 (by omega) (by omega) (by omega) (by omega)
      have hv2 : vd 2 a := ⟨h0, show a < 4 by omega⟩
      refine j_iload_n G dX6_forgetWhatNeedsAllDimensions_23 rfl ?_
      refine j_aload_n G dX6_forgetWhatNeedsAllDimensions_24 rfl ?_
      refine gf_0_5 G dX6_forgetWhatNeedsAllDimensions_25 lf6_66 (by first | assumption | decide) ?_
      refine j_icmp_ge G 46 dX6_forgetWhatNeedsAllDimensions_28 (by decide) (by omega) (by omega) (fun c28 => ?_) (fun c28 => ?_)
      · exfalso; omega
      · refine j_aload_n G dX6_forgetWhatNeedsAllDimensions_31 rfl ?_
        refine gf_0_0 G dX6_forgetWhatNeedsAllDimensions_32 lf6_11 (by first | assumption | decide) ?_
        refine j_iload_n G dX6_forgetWhatNeedsAllDimensions_35 rfl ?_
        refine al_1 G dX6_forgetWhatNeedsAllDimensions_36 (by first | assumption | decide) (by omega) (by omega) ?_
        refine j_cVVZ G cvX4_leaveNothingOut ml6_327 (c_X4_leaveNothingOut hi (by first | assumption | omega | decide)) dX6_forgetWhatNeedsAllDimensions_37 ⟨by decide, by decide⟩ ⟨by decide, by decide⟩ rfl rfl (Nat.le_of_ble_eq_true rfl) (by first | assumption | decide) rfl rfl rfl (fun Z37 h37 => ?_)
        refine j_iinc G dX6_forgetWhatNeedsAllDimensions_40 rfl (by decide) rfl ?_
        refine j_goto G 23 dX6_forgetWhatNeedsAllDimensions_43 (by decide) ?_
        obtain ⟨q1, q2⟩ := h37
        refine ih (a + 1) Z37 (by omega) (by omega) (by omega) (fun k i j k1 k2 k3 k4 => ?_) ?_ ?_ ?_ (fun d j d0 d1 j0 j1 => ?_)
        · rw [q1 k i (fun z => k4 z.1)]; exact h3 k i j k1 k2 k3 k4
        · rw [q1 6 0 (by omega)]; exact h4
        · rw [q1 11 0 (by omega)]; exact h5
        · rw [q1 0 0 (by omega)]; exact h6
        · by_cases e : d = a
          · subst e; exact q2 j j0 j1
          · rw [q1 5 d (by omega)]; exact h7 d j d0 (by omega) j0 j1
  refine j_aload_n G dX6_forgetWhatNeedsAllDimensions_0 rfl ?_
  refine gf_0_1 G dX6_forgetWhatNeedsAllDimensions_1 lf6_18 (by first | assumption | decide) ?_
  refine j_iconst G dX6_forgetWhatNeedsAllDimensions_4 ?_
  refine pf_6_3 G dX6_forgetWhatNeedsAllDimensions_5 lf6_160 (by first | assumption | decide) ?_
  refine j_aload_n G dX6_forgetWhatNeedsAllDimensions_8 rfl ?_
  refine gf_0_2 G dX6_forgetWhatNeedsAllDimensions_9 lf6_25 (by first | assumption | decide) ?_
  refine j_iconst G dX6_forgetWhatNeedsAllDimensions_12 ?_
  refine pf_11_3 G dX6_forgetWhatNeedsAllDimensions_13 lf6_261 (by first | assumption | decide) ?_
  refine j_aload_n G dX6_forgetWhatNeedsAllDimensions_16 rfl ?_
  refine j_iconst G dX6_forgetWhatNeedsAllDimensions_17 ?_
  refine pf_0_7 G dX6_forgetWhatNeedsAllDimensions_18 lf6_222 (by first | assumption | decide) (by omega) ?_
  refine j_iconst G dX6_forgetWhatNeedsAllDimensions_21 ?_
  refine j_istore_n G dX6_forgetWhatNeedsAllDimensions_22 (by decide) rfl ?_
  refine loop _ 0 _ (by omega) (by omega) rfl (fun k i j k1 k2 k3 k4 => ?_) ?_ ?_ ?_ (fun d j d0 d1 => by omega)
  · by_cases e : k = 0
    · subst e
      by_cases e2 : i = 0
      · subst e2
        rw [zS_j (by omega), zS_k (by decide), zS_k (by decide)]
      · rw [zS_o (by omega), zS_k (by decide), zS_k (by decide)]
    · rw [zS_k e]
      by_cases e3 : k = 11
      · subst e3
        by_cases e2 : i = 0
        · subst e2
          rw [zS_j (by omega), zS_k (by decide)]
        · rw [zS_o (by omega), zS_k (by decide)]
      · rw [zS_k e3]
        by_cases e4 : k = 6
        · subst e4
          by_cases e2 : i = 0
          · subst e2
            rw [zS_j (by omega)]
          · rw [zS_o (by omega)]
        · rw [zS_k e4]
  · rw [zS_k (by decide), zS_k (by decide), zS_s]
  · rw [zS_k (by decide), zS_s]
  · rw [zS_s]
end
