-- ===== PART A: goes FIRST, ahead of the names: the tables' words, and 'selects' of the private methods out of them =====
/-- a private method of a class that the tables say can be made, by its rows of tables_1 -/
def lw_okq (q : MethodName × Nat) : Prop := (q.1.cls ≠ "java/lang/invoke/MethodHandle" ∧ q.1.cls ≠ "java/lang/invoke/VarHandle") ∧ Cond.instantiable q.1.cls q.2 ∈ tables_1 ∧ Cond.privateMethod q.1 ∈ tables_1 ∧ Cond.instanceMethod q.1 ∈ tables_1
theorem lw_p0 : lw_okq (⟨"GoalScanner", "areNodeOperandsFit", "(IIII)Z"⟩, 6) := ⟨⟨by decide +kernel, by decide +kernel⟩, List.mem_of_getElem? (i := 9) (by decide +kernel), List.mem_of_getElem? (i := 133) (by decide +kernel), List.mem_of_getElem? (i := 134) (by decide +kernel)⟩
theorem lw_p1 : lw_okq (⟨"GoalScanner", "isFree", "(I)Z"⟩, 6) := ⟨⟨by decide +kernel, by decide +kernel⟩, List.mem_of_getElem? (i := 9) (by decide +kernel), List.mem_of_getElem? (i := 137) (by decide +kernel), List.mem_of_getElem? (i := 138) (by decide +kernel)⟩
theorem lw_p2 : lw_okq (⟨"GoalScanner", "isNode", "(I)Z"⟩, 6) := ⟨⟨by decide +kernel, by decide +kernel⟩, List.mem_of_getElem? (i := 9) (by decide +kernel), List.mem_of_getElem? (i := 141) (by decide +kernel), List.mem_of_getElem? (i := 142) (by decide +kernel)⟩
theorem lw_p3 : lw_okq (⟨"GoalScanner", "boundOf", "(LGoalScanner$Node;)I"⟩, 6) := ⟨⟨by decide +kernel, by decide +kernel⟩, List.mem_of_getElem? (i := 9) (by decide +kernel), List.mem_of_getElem? (i := 149) (by decide +kernel), List.mem_of_getElem? (i := 150) (by decide +kernel)⟩
theorem lw_p4 : lw_okq (⟨"GoalScanner", "workOf", "(LGoalScanner$Node;)I"⟩, 6) := ⟨⟨by decide +kernel, by decide +kernel⟩, List.mem_of_getElem? (i := 9) (by decide +kernel), List.mem_of_getElem? (i := 159) (by decide +kernel), List.mem_of_getElem? (i := 160) (by decide +kernel)⟩
theorem lw_p5 : lw_okq (⟨"GoalScanner", "workOfPairs", "(LGoalScanner$Node;)I"⟩, 6) := ⟨⟨by decide +kernel, by decide +kernel⟩, List.mem_of_getElem? (i := 9) (by decide +kernel), List.mem_of_getElem? (i := 163) (by decide +kernel), List.mem_of_getElem? (i := 164) (by decide +kernel)⟩
theorem lw_p6 : lw_okq (⟨"GoalScanner", "levelOf", "(LGoalScanner$Node;)I"⟩, 6) := ⟨⟨by decide +kernel, by decide +kernel⟩, List.mem_of_getElem? (i := 9) (by decide +kernel), List.mem_of_getElem? (i := 167) (by decide +kernel), List.mem_of_getElem? (i := 168) (by decide +kernel)⟩
theorem lw_p7 : lw_okq (⟨"GoalScanner", "useOperands", "(LGoalScanner$Node;)V"⟩, 6) := ⟨⟨by decide +kernel, by decide +kernel⟩, List.mem_of_getElem? (i := 9) (by decide +kernel), List.mem_of_getElem? (i := 171) (by decide +kernel), List.mem_of_getElem? (i := 172) (by decide +kernel)⟩
theorem lw_p8 : lw_okq (⟨"GoalScanner", "keepResults", "(II)I"⟩, 6) := ⟨⟨by decide +kernel, by decide +kernel⟩, List.mem_of_getElem? (i := 9) (by decide +kernel), List.mem_of_getElem? (i := 183) (by decide +kernel), List.mem_of_getElem? (i := 184) (by decide +kernel)⟩
theorem lw_p9 : lw_okq (⟨"GoalScanner", "solve", "(II)V"⟩, 6) := ⟨⟨by decide +kernel, by decide +kernel⟩, List.mem_of_getElem? (i := 9) (by decide +kernel), List.mem_of_getElem? (i := 187) (by decide +kernel), List.mem_of_getElem? (i := 188) (by decide +kernel)⟩
theorem lw_p10 : lw_okq (⟨"GoalScanner", "solveOne", "(II)V"⟩, 6) := ⟨⟨by decide +kernel, by decide +kernel⟩, List.mem_of_getElem? (i := 9) (by decide +kernel), List.mem_of_getElem? (i := 206) (by decide +kernel), List.mem_of_getElem? (i := 207) (by decide +kernel)⟩
theorem lw_p11 : lw_okq (⟨"GoalScanner", "solveRun", "(II)V"⟩, 6) := ⟨⟨by decide +kernel, by decide +kernel⟩, List.mem_of_getElem? (i := 9) (by decide +kernel), List.mem_of_getElem? (i := 228) (by decide +kernel), List.mem_of_getElem? (i := 229) (by decide +kernel)⟩
theorem lw_p12 : lw_okq (⟨"GoalScanner", "solveValue", "(I)V"⟩, 6) := ⟨⟨by decide +kernel, by decide +kernel⟩, List.mem_of_getElem? (i := 9) (by decide +kernel), List.mem_of_getElem? (i := 237) (by decide +kernel), List.mem_of_getElem? (i := 238) (by decide +kernel)⟩
theorem lw_p13 : lw_okq (⟨"GoalScanner", "solveSeek", "(II)V"⟩, 6) := ⟨⟨by decide +kernel, by decide +kernel⟩, List.mem_of_getElem? (i := 9) (by decide +kernel), List.mem_of_getElem? (i := 245) (by decide +kernel), List.mem_of_getElem? (i := 246) (by decide +kernel)⟩
theorem lw_p14 : lw_okq (⟨"GoalScanner", "solveGo", "(LGoalScanner$Node;I)V"⟩, 6) := ⟨⟨by decide +kernel, by decide +kernel⟩, List.mem_of_getElem? (i := 9) (by decide +kernel), List.mem_of_getElem? (i := 249) (by decide +kernel), List.mem_of_getElem? (i := 250) (by decide +kernel)⟩
theorem lw_p15 : lw_okq (⟨"GoalScanner", "solveSet", "(LGoalScanner$Node;I)V"⟩, 6) := ⟨⟨by decide +kernel, by decide +kernel⟩, List.mem_of_getElem? (i := 9) (by decide +kernel), List.mem_of_getElem? (i := 261) (by decide +kernel), List.mem_of_getElem? (i := 262) (by decide +kernel)⟩
def lw_privs_1 : List (MethodName × Nat) := [(⟨"GoalScanner", "areNodeOperandsFit", "(IIII)Z"⟩, 6), (⟨"GoalScanner", "isFree", "(I)Z"⟩, 6), (⟨"GoalScanner", "isNode", "(I)Z"⟩, 6), (⟨"GoalScanner", "boundOf", "(LGoalScanner$Node;)I"⟩, 6), (⟨"GoalScanner", "workOf", "(LGoalScanner$Node;)I"⟩, 6), (⟨"GoalScanner", "workOfPairs", "(LGoalScanner$Node;)I"⟩, 6), (⟨"GoalScanner", "levelOf", "(LGoalScanner$Node;)I"⟩, 6), (⟨"GoalScanner", "useOperands", "(LGoalScanner$Node;)V"⟩, 6), (⟨"GoalScanner", "keepResults", "(II)I"⟩, 6), (⟨"GoalScanner", "solve", "(II)V"⟩, 6), (⟨"GoalScanner", "solveOne", "(II)V"⟩, 6), (⟨"GoalScanner", "solveRun", "(II)V"⟩, 6), (⟨"GoalScanner", "solveValue", "(I)V"⟩, 6), (⟨"GoalScanner", "solveSeek", "(II)V"⟩, 6), (⟨"GoalScanner", "solveGo", "(LGoalScanner$Node;I)V"⟩, 6), (⟨"GoalScanner", "solveSet", "(LGoalScanner$Node;I)V"⟩, 6)]
theorem lw_r1 : ∀ q ∈ lw_privs_1, lw_okq q := List.forall_mem_cons.mpr ⟨lw_p0, List.forall_mem_cons.mpr ⟨lw_p1, List.forall_mem_cons.mpr ⟨lw_p2, List.forall_mem_cons.mpr ⟨lw_p3, List.forall_mem_cons.mpr ⟨lw_p4, List.forall_mem_cons.mpr ⟨lw_p5, List.forall_mem_cons.mpr ⟨lw_p6, List.forall_mem_cons.mpr ⟨lw_p7, List.forall_mem_cons.mpr ⟨lw_p8, List.forall_mem_cons.mpr ⟨lw_p9, List.forall_mem_cons.mpr ⟨lw_p10, List.forall_mem_cons.mpr ⟨lw_p11, List.forall_mem_cons.mpr ⟨lw_p12, List.forall_mem_cons.mpr ⟨lw_p13, List.forall_mem_cons.mpr ⟨lw_p14, List.forall_mem_cons.mpr ⟨lw_p15, fun _ h => absurd h List.not_mem_nil⟩⟩⟩⟩⟩⟩⟩⟩⟩⟩⟩⟩⟩⟩⟩⟩
theorem lw_p16 : lw_okq (⟨"GoalScanner", "solveFirst", "(LGoalScanner$Node;I)V"⟩, 6) := ⟨⟨by decide +kernel, by decide +kernel⟩, List.mem_of_getElem? (i := 9) (by decide +kernel), List.mem_of_getElem? (i := 269) (by decide +kernel), List.mem_of_getElem? (i := 270) (by decide +kernel)⟩
theorem lw_p17 : lw_okq (⟨"GoalScanner", "solveIf", "(LGoalScanner$Node;I)V"⟩, 6) := ⟨⟨by decide +kernel, by decide +kernel⟩, List.mem_of_getElem? (i := 9) (by decide +kernel), List.mem_of_getElem? (i := 273) (by decide +kernel), List.mem_of_getElem? (i := 274) (by decide +kernel)⟩
theorem lw_p18 : lw_okq (⟨"GoalScanner", "solveNot", "(LGoalScanner$Node;I)V"⟩, 6) := ⟨⟨by decide +kernel, by decide +kernel⟩, List.mem_of_getElem? (i := 9) (by decide +kernel), List.mem_of_getElem? (i := 277) (by decide +kernel), List.mem_of_getElem? (i := 278) (by decide +kernel)⟩
theorem lw_p19 : lw_okq (⟨"GoalScanner", "solveMost", "(LGoalScanner$Node;I)V"⟩, 6) := ⟨⟨by decide +kernel, by decide +kernel⟩, List.mem_of_getElem? (i := 9) (by decide +kernel), List.mem_of_getElem? (i := 281) (by decide +kernel), List.mem_of_getElem? (i := 282) (by decide +kernel)⟩
theorem lw_p20 : lw_okq (⟨"GoalScanner", "solvePairs", "(LGoalScanner$Node;I)V"⟩, 6) := ⟨⟨by decide +kernel, by decide +kernel⟩, List.mem_of_getElem? (i := 9) (by decide +kernel), List.mem_of_getElem? (i := 289) (by decide +kernel), List.mem_of_getElem? (i := 290) (by decide +kernel)⟩
theorem lw_p21 : lw_okq (⟨"GoalScanner", "pushPair", "(III)V"⟩, 6) := ⟨⟨by decide +kernel, by decide +kernel⟩, List.mem_of_getElem? (i := 9) (by decide +kernel), List.mem_of_getElem? (i := 293) (by decide +kernel), List.mem_of_getElem? (i := 294) (by decide +kernel)⟩
theorem lw_p22 : lw_okq (⟨"GoalScanner", "pushSeries", "(III)V"⟩, 6) := ⟨⟨by decide +kernel, by decide +kernel⟩, List.mem_of_getElem? (i := 9) (by decide +kernel), List.mem_of_getElem? (i := 297) (by decide +kernel), List.mem_of_getElem? (i := 298) (by decide +kernel)⟩
theorem lw_p23 : lw_okq (⟨"GoalScannerModel", "fits", "(IIII)Z"⟩, 20) := ⟨⟨by decide +kernel, by decide +kernel⟩, List.mem_of_getElem? (i := 352) (by decide +kernel), List.mem_of_getElem? (i := 432) (by decide +kernel), List.mem_of_getElem? (i := 433) (by decide +kernel)⟩
theorem lw_p24 : lw_okq (⟨"GoalScannerModel", "sort", "(I)Z"⟩, 20) := ⟨⟨by decide +kernel, by decide +kernel⟩, List.mem_of_getElem? (i := 352) (by decide +kernel), List.mem_of_getElem? (i := 436) (by decide +kernel), List.mem_of_getElem? (i := 437) (by decide +kernel)⟩
theorem lw_p25 : lw_okq (⟨"GoalScannerModel", "free", "(I)Z"⟩, 20) := ⟨⟨by decide +kernel, by decide +kernel⟩, List.mem_of_getElem? (i := 352) (by decide +kernel), List.mem_of_getElem? (i := 440) (by decide +kernel), List.mem_of_getElem? (i := 441) (by decide +kernel)⟩
theorem lw_p26 : lw_okq (⟨"GoalScannerModel", "boundOf", "(IIII)I"⟩, 20) := ⟨⟨by decide +kernel, by decide +kernel⟩, List.mem_of_getElem? (i := 352) (by decide +kernel), List.mem_of_getElem? (i := 444) (by decide +kernel), List.mem_of_getElem? (i := 445) (by decide +kernel)⟩
theorem lw_p27 : lw_okq (⟨"GoalScannerModel", "namesA", "(I)Z"⟩, 20) := ⟨⟨by decide +kernel, by decide +kernel⟩, List.mem_of_getElem? (i := 352) (by decide +kernel), List.mem_of_getElem? (i := 448) (by decide +kernel), List.mem_of_getElem? (i := 449) (by decide +kernel)⟩
theorem lw_p28 : lw_okq (⟨"GoalScannerModel", "higher", "(IZI)I"⟩, 20) := ⟨⟨by decide +kernel, by decide +kernel⟩, List.mem_of_getElem? (i := 352) (by decide +kernel), List.mem_of_getElem? (i := 452) (by decide +kernel), List.mem_of_getElem? (i := 453) (by decide +kernel)⟩
theorem lw_p29 : lw_okq (⟨"GoalScannerModel", "namesB", "(I)Z"⟩, 20) := ⟨⟨by decide +kernel, by decide +kernel⟩, List.mem_of_getElem? (i := 352) (by decide +kernel), List.mem_of_getElem? (i := 456) (by decide +kernel), List.mem_of_getElem? (i := 457) (by decide +kernel)⟩
theorem lw_p30 : lw_okq (⟨"GoalScannerModel", "workOf", "(IIII)I"⟩, 20) := ⟨⟨by decide +kernel, by decide +kernel⟩, List.mem_of_getElem? (i := 352) (by decide +kernel), List.mem_of_getElem? (i := 460) (by decide +kernel), List.mem_of_getElem? (i := 461) (by decide +kernel)⟩
theorem lw_p31 : lw_okq (⟨"GoalScannerModel", "work", "(I)V"⟩, 20) := ⟨⟨by decide +kernel, by decide +kernel⟩, List.mem_of_getElem? (i := 352) (by decide +kernel), List.mem_of_getElem? (i := 472) (by decide +kernel), List.mem_of_getElem? (i := 473) (by decide +kernel)⟩
def lw_privs_2 : List (MethodName × Nat) := [(⟨"GoalScanner", "solveFirst", "(LGoalScanner$Node;I)V"⟩, 6), (⟨"GoalScanner", "solveIf", "(LGoalScanner$Node;I)V"⟩, 6), (⟨"GoalScanner", "solveNot", "(LGoalScanner$Node;I)V"⟩, 6), (⟨"GoalScanner", "solveMost", "(LGoalScanner$Node;I)V"⟩, 6), (⟨"GoalScanner", "solvePairs", "(LGoalScanner$Node;I)V"⟩, 6), (⟨"GoalScanner", "pushPair", "(III)V"⟩, 6), (⟨"GoalScanner", "pushSeries", "(III)V"⟩, 6), (⟨"GoalScannerModel", "fits", "(IIII)Z"⟩, 20), (⟨"GoalScannerModel", "sort", "(I)Z"⟩, 20), (⟨"GoalScannerModel", "free", "(I)Z"⟩, 20), (⟨"GoalScannerModel", "boundOf", "(IIII)I"⟩, 20), (⟨"GoalScannerModel", "namesA", "(I)Z"⟩, 20), (⟨"GoalScannerModel", "higher", "(IZI)I"⟩, 20), (⟨"GoalScannerModel", "namesB", "(I)Z"⟩, 20), (⟨"GoalScannerModel", "workOf", "(IIII)I"⟩, 20), (⟨"GoalScannerModel", "work", "(I)V"⟩, 20)]
theorem lw_r2 : ∀ q ∈ lw_privs_2, lw_okq q := List.forall_mem_cons.mpr ⟨lw_p16, List.forall_mem_cons.mpr ⟨lw_p17, List.forall_mem_cons.mpr ⟨lw_p18, List.forall_mem_cons.mpr ⟨lw_p19, List.forall_mem_cons.mpr ⟨lw_p20, List.forall_mem_cons.mpr ⟨lw_p21, List.forall_mem_cons.mpr ⟨lw_p22, List.forall_mem_cons.mpr ⟨lw_p23, List.forall_mem_cons.mpr ⟨lw_p24, List.forall_mem_cons.mpr ⟨lw_p25, List.forall_mem_cons.mpr ⟨lw_p26, List.forall_mem_cons.mpr ⟨lw_p27, List.forall_mem_cons.mpr ⟨lw_p28, List.forall_mem_cons.mpr ⟨lw_p29, List.forall_mem_cons.mpr ⟨lw_p30, List.forall_mem_cons.mpr ⟨lw_p31, fun _ h => absurd h List.not_mem_nil⟩⟩⟩⟩⟩⟩⟩⟩⟩⟩⟩⟩⟩⟩⟩⟩
theorem lw_p32 : lw_okq (⟨"GoalScannerModel", "begin", "(II)V"⟩, 20) := ⟨⟨by decide +kernel, by decide +kernel⟩, List.mem_of_getElem? (i := 352) (by decide +kernel), List.mem_of_getElem? (i := 476) (by decide +kernel), List.mem_of_getElem? (i := 477) (by decide +kernel)⟩
theorem lw_p33 : lw_okq (⟨"GoalScannerModel", "leaf", "(II)V"⟩, 20) := ⟨⟨by decide +kernel, by decide +kernel⟩, List.mem_of_getElem? (i := 352) (by decide +kernel), List.mem_of_getElem? (i := 480) (by decide +kernel), List.mem_of_getElem? (i := 481) (by decide +kernel)⟩
theorem lw_p34 : lw_okq (⟨"GoalScannerModel", "stay", "(II)V"⟩, 20) := ⟨⟨by decide +kernel, by decide +kernel⟩, List.mem_of_getElem? (i := 352) (by decide +kernel), List.mem_of_getElem? (i := 484) (by decide +kernel), List.mem_of_getElem? (i := 485) (by decide +kernel)⟩
theorem lw_p35 : lw_okq (⟨"GoalScannerModel", "isOf", "(II)Z"⟩, 20) := ⟨⟨by decide +kernel, by decide +kernel⟩, List.mem_of_getElem? (i := 352) (by decide +kernel), List.mem_of_getElem? (i := 488) (by decide +kernel), List.mem_of_getElem? (i := 489) (by decide +kernel)⟩
theorem lw_p36 : lw_okq (⟨"GoalScannerModel", "runFrom", "(III)I"⟩, 20) := ⟨⟨by decide +kernel, by decide +kernel⟩, List.mem_of_getElem? (i := 352) (by decide +kernel), List.mem_of_getElem? (i := 492) (by decide +kernel), List.mem_of_getElem? (i := 493) (by decide +kernel)⟩
theorem lw_p37 : lw_okq (⟨"GoalScannerModel", "stepOr", "(I)V"⟩, 20) := ⟨⟨by decide +kernel, by decide +kernel⟩, List.mem_of_getElem? (i := 352) (by decide +kernel), List.mem_of_getElem? (i := 496) (by decide +kernel), List.mem_of_getElem? (i := 497) (by decide +kernel)⟩
theorem lw_p38 : lw_okq (⟨"GoalScannerModel", "giveAll", "()V"⟩, 20) := ⟨⟨by decide +kernel, by decide +kernel⟩, List.mem_of_getElem? (i := 352) (by decide +kernel), List.mem_of_getElem? (i := 500) (by decide +kernel), List.mem_of_getElem? (i := 501) (by decide +kernel)⟩
theorem lw_p39 : lw_okq (⟨"GoalScannerModel", "operand", "(I)I"⟩, 20) := ⟨⟨by decide +kernel, by decide +kernel⟩, List.mem_of_getElem? (i := 352) (by decide +kernel), List.mem_of_getElem? (i := 504) (by decide +kernel), List.mem_of_getElem? (i := 505) (by decide +kernel)⟩
theorem lw_p40 : lw_okq (⟨"GoalScannerModel", "give", "(II)V"⟩, 20) := ⟨⟨by decide +kernel, by decide +kernel⟩, List.mem_of_getElem? (i := 352) (by decide +kernel), List.mem_of_getElem? (i := 508) (by decide +kernel), List.mem_of_getElem? (i := 509) (by decide +kernel)⟩
theorem lw_p41 : lw_okq (⟨"GoalScannerModel", "stepIf", "(I)V"⟩, 20) := ⟨⟨by decide +kernel, by decide +kernel⟩, List.mem_of_getElem? (i := 352) (by decide +kernel), List.mem_of_getElem? (i := 512) (by decide +kernel), List.mem_of_getElem? (i := 513) (by decide +kernel)⟩
theorem lw_p42 : lw_okq (⟨"GoalScannerModel", "stepPairs", "(II)V"⟩, 20) := ⟨⟨by decide +kernel, by decide +kernel⟩, List.mem_of_getElem? (i := 352) (by decide +kernel), List.mem_of_getElem? (i := 516) (by decide +kernel), List.mem_of_getElem? (i := 517) (by decide +kernel)⟩
theorem lw_p43 : lw_okq (⟨"GoalScannerModel", "pair", "(III)V"⟩, 20) := ⟨⟨by decide +kernel, by decide +kernel⟩, List.mem_of_getElem? (i := 352) (by decide +kernel), List.mem_of_getElem? (i := 520) (by decide +kernel), List.mem_of_getElem? (i := 521) (by decide +kernel)⟩
theorem lw_p44 : lw_okq (⟨"GoalScannerModel", "stepOne", "(II)V"⟩, 20) := ⟨⟨by decide +kernel, by decide +kernel⟩, List.mem_of_getElem? (i := 352) (by decide +kernel), List.mem_of_getElem? (i := 525) (by decide +kernel), List.mem_of_getElem? (i := 526) (by decide +kernel)⟩
theorem lw_p45 : lw_okq (⟨"GoalScannerModel", "keep", "(I)I"⟩, 20) := ⟨⟨by decide +kernel, by decide +kernel⟩, List.mem_of_getElem? (i := 352) (by decide +kernel), List.mem_of_getElem? (i := 529) (by decide +kernel), List.mem_of_getElem? (i := 530) (by decide +kernel)⟩
theorem lw_p46 : lw_okq (⟨"GoalScannerModel", "none", "(I)Z"⟩, 20) := ⟨⟨by decide +kernel, by decide +kernel⟩, List.mem_of_getElem? (i := 352) (by decide +kernel), List.mem_of_getElem? (i := 541) (by decide +kernel), List.mem_of_getElem? (i := 542) (by decide +kernel)⟩
def lw_privs_3 : List (MethodName × Nat) := [(⟨"GoalScannerModel", "begin", "(II)V"⟩, 20), (⟨"GoalScannerModel", "leaf", "(II)V"⟩, 20), (⟨"GoalScannerModel", "stay", "(II)V"⟩, 20), (⟨"GoalScannerModel", "isOf", "(II)Z"⟩, 20), (⟨"GoalScannerModel", "runFrom", "(III)I"⟩, 20), (⟨"GoalScannerModel", "stepOr", "(I)V"⟩, 20), (⟨"GoalScannerModel", "giveAll", "()V"⟩, 20), (⟨"GoalScannerModel", "operand", "(I)I"⟩, 20), (⟨"GoalScannerModel", "give", "(II)V"⟩, 20), (⟨"GoalScannerModel", "stepIf", "(I)V"⟩, 20), (⟨"GoalScannerModel", "stepPairs", "(II)V"⟩, 20), (⟨"GoalScannerModel", "pair", "(III)V"⟩, 20), (⟨"GoalScannerModel", "stepOne", "(II)V"⟩, 20), (⟨"GoalScannerModel", "keep", "(I)I"⟩, 20), (⟨"GoalScannerModel", "none", "(I)Z"⟩, 20)]
theorem lw_r3 : ∀ q ∈ lw_privs_3, lw_okq q := List.forall_mem_cons.mpr ⟨lw_p32, List.forall_mem_cons.mpr ⟨lw_p33, List.forall_mem_cons.mpr ⟨lw_p34, List.forall_mem_cons.mpr ⟨lw_p35, List.forall_mem_cons.mpr ⟨lw_p36, List.forall_mem_cons.mpr ⟨lw_p37, List.forall_mem_cons.mpr ⟨lw_p38, List.forall_mem_cons.mpr ⟨lw_p39, List.forall_mem_cons.mpr ⟨lw_p40, List.forall_mem_cons.mpr ⟨lw_p41, List.forall_mem_cons.mpr ⟨lw_p42, List.forall_mem_cons.mpr ⟨lw_p43, List.forall_mem_cons.mpr ⟨lw_p44, List.forall_mem_cons.mpr ⟨lw_p45, List.forall_mem_cons.mpr ⟨lw_p46, fun _ h => absurd h List.not_mem_nil⟩⟩⟩⟩⟩⟩⟩⟩⟩⟩⟩⟩⟩⟩⟩
def lw_privs : List (MethodName × Nat) := lw_privs_1 ++ (lw_privs_2 ++ (lw_privs_3))
def lw_tbl : List Cond := k2_sels lw_privs ++ tables_1
theorem lw_privs_ok : ∀ q ∈ lw_privs, lw_okq q := by
  show ∀ q ∈ lw_privs_1 ++ (lw_privs_2 ++ (lw_privs_3)), lw_okq q
  exact List.forall_mem_append.mpr ⟨lw_r1, List.forall_mem_append.mpr ⟨lw_r2, lw_r3⟩⟩

/-- the words that the walks use: those of the tables that last -/
def TB : List Cond := lw_tbl.filter goodWord
theorem tb_good : ∀ w ∈ TB, (w.onTables && w.keeps) = true ∨ ∃ ty, w = .arrayClass ty := fun w h => good_of_word (List.mem_filter.mp h).2
theorem tm0 {w : Cond} (i : Nat) (h : (k2_sels lw_privs)[i]? = some w) (hg : goodWord w = true) : w ∈ TB := List.mem_filter.mpr ⟨List.mem_append_left _ (List.mem_of_getElem? h), hg⟩
theorem tm1 {w : Cond} (i : Nat) (h : tables_1_1[i]? = some w) (hg : goodWord w = true) : w ∈ TB := List.mem_filter.mpr ⟨List.mem_append_right _ (List.mem_append_left _ (List.mem_of_getElem? h)), hg⟩
theorem tm2 {w : Cond} (i : Nat) (h : tables_1_2[i]? = some w) (hg : goodWord w = true) : w ∈ TB := List.mem_filter.mpr ⟨List.mem_append_right _ (List.mem_append_right _ (List.mem_append_left _ (List.mem_of_getElem? h))), hg⟩
theorem tm3 {w : Cond} (i : Nat) (h : tables_1_3[i]? = some w) (hg : goodWord w = true) : w ∈ TB := List.mem_filter.mpr ⟨List.mem_append_right _ (List.mem_append_right _ (List.mem_append_right _ (List.mem_of_getElem? h))), hg⟩
/-- what the tables say of a method that is called on an object, of a static one -/
def CWV (y : MethodName) (cc : ByteArray) (nL : Nat) (ret : Option FieldType) (n : Nat) : Prop := Cond.instanceMethod y ∈ TB ∧ Cond.selects y.cls y y ∈ TB ∧ Cond.initialized y.cls ∈ TB ∧ Cond.code y cc nL ret ∈ TB ∧ nL ≤ 21 ∧ (y.cls ≠ "java/lang/invoke/MethodHandle" ∧ y.cls ≠ "java/lang/invoke/VarHandle" ∧ (parseMethodDescriptor y.desc).map (fun d => d.parameters.length) = some n)
def CWS (y : MethodName) (cc : ByteArray) (nL : Nat) (ret : Option FieldType) (n : Nat) : Prop := Cond.static y ∈ TB ∧ Cond.initialized y.cls ∈ TB ∧ Cond.code y cc nL ret ∈ TB ∧ nL ≤ 21 ∧ (y.cls ≠ "java/lang/invoke/MethodHandle" ∧ y.cls ≠ "java/lang/invoke/VarHandle" ∧ (parseMethodDescriptor y.desc).map (fun d => d.parameters.length) = some n)
def R_N : String := "GoalScanner$Node"
def F_N : u_T := fun k => match k with
  | 0 => ("GoalScanner$Node", "kind", "I", false)
  | 1 => ("GoalScanner$Node", "a", "I", false)
  | 2 => ("GoalScanner$Node", "b", "I", false)
  | 3 => ("GoalScanner$Node", "c", "I", false)
  | 4 => ("GoalScanner$Node", "bound", "I", false)
  | 5 => ("GoalScanner$Node", "work", "I", false)
  | 6 => ("GoalScanner$Node", "level", "I", false)
  | _ => ("GoalScanner$Node", "used", "Z", false)
def ft_N : Nat → FieldType := fun k => match k with
  | 0 => .int
  | 1 => .int
  | 2 => .int
  | 3 => .int
  | 4 => .int
  | 5 => .int
  | 6 => .int
  | _ => .boolean
theorem fn_N : ∀ a, a < 8 → ∀ b, b < 8 → a ≠ b → (F_N a).2.1 ≠ (F_N b).2.1 := by decide +kernel
theorem ft_N_ok : ∀ k, k < 8 → parseFieldDescriptor (F_N k).2.2.1 = some (ft_N k) := by decide +kernel
theorem fi_N : ∀ w ∈ u_ws R_N F_N 8, w ∈ TB := by
  intro w hw
  obtain ⟨k, hk, rfl⟩ := List.mem_map.mp hw
  have hk := List.mem_range.mp hk
  match k, hk with
  | 0, _ => exact tm1 52 rfl rfl
  | 1, _ => exact tm1 54 rfl rfl
  | 2, _ => exact tm1 56 rfl rfl
  | 3, _ => exact tm1 58 rfl rfl
  | 4, _ => exact tm1 60 rfl rfl
  | 5, _ => exact tm1 62 rfl rfl
  | 6, _ => exact tm1 64 rfl rfl
  | 7, _ => exact tm1 66 rfl rfl
  | k + 8, hk => exact absurd hk (by omega)
def R_R : String := "GoalScanner$Rows"
def F_R : u_T := fun k => match k with
  | 0 => ("GoalScanner$Rows", "cells", "[I", true)
  | 1 => ("GoalScanner$Rows", "limit", "I", true)
  | _ => ("GoalScanner$Rows", "size", "I", false)
def ft_R : Nat → FieldType := fun k => match k with
  | 0 => .array (.int)
  | 1 => .int
  | _ => .int
theorem fn_R : ∀ a, a < 3 → ∀ b, b < 3 → a ≠ b → (F_R a).2.1 ≠ (F_R b).2.1 := by decide +kernel
theorem ft_R_ok : ∀ k, k < 3 → parseFieldDescriptor (F_R k).2.2.1 = some (ft_R k) := by decide +kernel
theorem fi_R : ∀ w ∈ u_ws R_R F_R 3, w ∈ TB := by
  intro w hw
  obtain ⟨k, hk, rfl⟩ := List.mem_map.mp hw
  have hk := List.mem_range.mp hk
  match k, hk with
  | 0, _ => exact tm1 79 rfl rfl
  | 1, _ => exact tm1 81 rfl rfl
  | 2, _ => exact tm1 83 rfl rfl
  | k + 3, hk => exact absurd hk (by omega)
def R_T : String := "GoalScanner$Text"
def F_T : u_T := fun k => match k with
  | 0 => ("GoalScanner$Text", "characters", "[I", true)
  | _ => ("GoalScanner$Text", "length", "I", false)
def ft_T : Nat → FieldType := fun k => match k with
  | 0 => .array (.int)
  | _ => .int
theorem fn_T : ∀ a, a < 2 → ∀ b, b < 2 → a ≠ b → (F_T a).2.1 ≠ (F_T b).2.1 := by decide +kernel
theorem ft_T_ok : ∀ k, k < 2 → parseFieldDescriptor (F_T k).2.2.1 = some (ft_T k) := by decide +kernel
theorem fi_T : ∀ w ∈ u_ws R_T F_T 2, w ∈ TB := by
  intro w hw
  obtain ⟨k, hk, rfl⟩ := List.mem_map.mp hw
  have hk := List.mem_range.mp hk
  match k, hk with
  | 0, _ => exact tm1 26 rfl rfl
  | 1, _ => exact tm1 28 rfl rfl
  | k + 2, hk => exact absurd hk (by omega)
def R_G : String := "GoalScanner"
def F_G : u_T := fun k => match k with
  | 0 => ("GoalScanner", "text", "LGoalScanner$Text;", true)
  | 1 => ("GoalScanner", "nodes", "[LGoalScanner$Node;", true)
  | 2 => ("GoalScanner", "nodeCount", "I", false)
  | 3 => ("GoalScanner", "rows", "LGoalScanner$Rows;", true)
  | 4 => ("GoalScanner", "results", "LGoalScanner$Rows;", true)
  | _ => ("GoalScanner", "resultsTextLength", "I", false)
def ft_G : Nat → FieldType := fun k => match k with
  | 0 => .object "GoalScanner$Text"
  | 1 => .array (.object "GoalScanner$Node")
  | 2 => .int
  | 3 => .object "GoalScanner$Rows"
  | 4 => .object "GoalScanner$Rows"
  | _ => .int
theorem fn_G : ∀ a, a < 6 → ∀ b, b < 6 → a ≠ b → (F_G a).2.1 ≠ (F_G b).2.1 := by decide +kernel
theorem ft_G_ok : ∀ k, k < 6 → parseFieldDescriptor (F_G k).2.2.1 = some (ft_G k) := by decide +kernel
theorem fi_G : ∀ w ∈ u_ws R_G F_G 6, w ∈ TB := by
  intro w hw
  obtain ⟨k, hk, rfl⟩ := List.mem_map.mp hw
  have hk := List.mem_range.mp hk
  match k, hk with
  | 0, _ => exact tm1 92 rfl rfl
  | 1, _ => exact tm1 94 rfl rfl
  | 2, _ => exact tm1 96 rfl rfl
  | 3, _ => exact tm1 98 rfl rfl
  | 4, _ => exact tm1 100 rfl rfl
  | 5, _ => exact tm1 102 rfl rfl
  | k + 6, hk => exact absurd hk (by omega)
def R_M : String := "GoalScannerModel"
def F_M : u_T := fun k => match k with
  | 0 => ("GoalScannerModel", "length", "I", false)
  | 1 => ("GoalScannerModel", "nodes", "I", false)
  | 2 => ("GoalScannerModel", "results", "I", false)
  | 3 => ("GoalScannerModel", "atEnd", "I", false)
  | 4 => ("GoalScannerModel", "text", "[I", true)
  | 5 => ("GoalScannerModel", "kind", "[I", true)
  | 6 => ("GoalScannerModel", "opA", "[I", true)
  | 7 => ("GoalScannerModel", "opB", "[I", true)
  | 8 => ("GoalScannerModel", "opC", "[I", true)
  | 9 => ("GoalScannerModel", "bounds", "[I", true)
  | 10 => ("GoalScannerModel", "levels", "[I", true)
  | 11 => ("GoalScannerModel", "works", "[I", true)
  | 12 => ("GoalScannerModel", "taken", "[Z", true)
  | 13 => ("GoalScannerModel", "row", "[I", true)
  | 14 => ("GoalScannerModel", "size", "[I", true)
  | 15 => ("GoalScannerModel", "deep", "I", false)
  | 16 => ("GoalScannerModel", "node", "[I", true)
  | 17 => ("GoalScannerModel", "phase", "[I", true)
  | 18 => ("GoalScannerModel", "turn", "[I", true)
  | _ => ("GoalScannerModel", "state", "[I", true)
def ft_M : Nat → FieldType := fun k => match k with
  | 0 => .int
  | 1 => .int
  | 2 => .int
  | 3 => .int
  | 4 => .array (.int)
  | 5 => .array (.int)
  | 6 => .array (.int)
  | 7 => .array (.int)
  | 8 => .array (.int)
  | 9 => .array (.int)
  | 10 => .array (.int)
  | 11 => .array (.int)
  | 12 => .array (.boolean)
  | 13 => .array (.int)
  | 14 => .array (.int)
  | 15 => .int
  | 16 => .array (.int)
  | 17 => .array (.int)
  | 18 => .array (.int)
  | _ => .array (.int)
theorem fn_M : ∀ a, a < 20 → ∀ b, b < 20 → a ≠ b → (F_M a).2.1 ≠ (F_M b).2.1 := by decide +kernel
theorem ft_M_ok : ∀ k, k < 20 → parseFieldDescriptor (F_M k).2.2.1 = some (ft_M k) := by decide +kernel
theorem fi_M : ∀ w ∈ u_ws R_M F_M 20, w ∈ TB := by
  intro w hw
  obtain ⟨k, hk, rfl⟩ := List.mem_map.mp hw
  have hk := List.mem_range.mp hk
  match k, hk with
  | 0, _ => exact tm2 137 rfl rfl
  | 1, _ => exact tm2 139 rfl rfl
  | 2, _ => exact tm2 141 rfl rfl
  | 3, _ => exact tm2 143 rfl rfl
  | 4, _ => exact tm2 145 rfl rfl
  | 5, _ => exact tm2 147 rfl rfl
  | 6, _ => exact tm2 149 rfl rfl
  | 7, _ => exact tm2 151 rfl rfl
  | 8, _ => exact tm2 153 rfl rfl
  | 9, _ => exact tm2 155 rfl rfl
  | 10, _ => exact tm2 157 rfl rfl
  | 11, _ => exact tm2 159 rfl rfl
  | 12, _ => exact tm2 161 rfl rfl
  | 13, _ => exact tm2 163 rfl rfl
  | 14, _ => exact tm2 165 rfl rfl
  | 15, _ => exact tm2 167 rfl rfl
  | 16, _ => exact tm2 169 rfl rfl
  | 17, _ => exact tm2 171 rfl rfl
  | 18, _ => exact tm2 173 rfl rfl
  | 19, _ => exact tm2 175 rfl rfl
  | k + 20, hk => exact absurd hk (by omega)
abbrev vwCl : List vw_C := [(R_N, F_N, 8), (R_R, F_R, 3), (R_T, F_T, 2), (R_G, F_G, 6), (R_M, F_M, 20)]
abbrev b_G_init : ByteArray := prog_1_method_1_code
abbrev y_G_init : MethodName := { cls := "GoalScanner", name := "<init>", desc := "()V" }
abbrev b_T_init : ByteArray := prog_4_method_1_code
abbrev y_T_init : MethodName := { cls := "GoalScanner$Text", name := "<init>", desc := "()V" }
abbrev b_N_init : ByteArray := prog_2_method_1_code
abbrev y_N_init : MethodName := { cls := "GoalScanner$Node", name := "<init>", desc := "()V" }
abbrev b_R_init : ByteArray := prog_3_method_1_code
abbrev y_R_init : MethodName := { cls := "GoalScanner$Rows", name := "<init>", desc := "(I)V" }
abbrev b_G_type : ByteArray := prog_1_method_2_code
abbrev y_G_type : MethodName := { cls := "GoalScanner", name := "type", desc := "(I)I" }
theorem cw_G_type : CWV y_G_type b_G_type 2 (some .int) 1 := ⟨tm1 106 rfl rfl, tm1 107 rfl rfl, tm1 1 rfl rfl, tm1 108 rfl rfl, by decide, by decide, by decide, by decide +kernel⟩
abbrev b_T_append : ByteArray := prog_4_method_2_code
abbrev y_T_append : MethodName := { cls := "GoalScanner$Text", name := "append", desc := "(I)V" }
theorem cw_T_append : CWV y_T_append b_T_append 2 none 1 := ⟨tm1 110 rfl rfl, tm1 111 rfl rfl, tm1 2 rfl rfl, tm1 112 rfl rfl, by decide, by decide, by decide, by decide +kernel⟩
abbrev b_G_wipe : ByteArray := prog_1_method_3_code
abbrev y_G_wipe : MethodName := { cls := "GoalScanner", name := "wipe", desc := "()I" }
theorem cw_G_wipe : CWV y_G_wipe b_G_wipe 2 (some .int) 0 := ⟨tm1 114 rfl rfl, tm1 115 rfl rfl, tm1 1 rfl rfl, tm1 116 rfl rfl, by decide, by decide, by decide, by decide +kernel⟩
abbrev b_G_node : ByteArray := prog_1_method_4_code
abbrev y_G_node : MethodName := { cls := "GoalScanner", name := "node", desc := "(IIII)I" }
theorem cw_G_node : CWV y_G_node b_G_node 6 (some .int) 4 := ⟨tm1 118 rfl rfl, tm1 119 rfl rfl, tm1 1 rfl rfl, tm1 120 rfl rfl, by decide, by decide, by decide, by decide +kernel⟩
abbrev b_G_isPlainOperandFit : ByteArray := prog_1_method_19_code
abbrev y_G_isPlainOperandFit : MethodName := { cls := "GoalScanner", name := "isPlainOperandFit", desc := "(II)Z" }
theorem cw_G_isPlainOperandFit : CWS y_G_isPlainOperandFit b_G_isPlainOperandFit 2 (some .boolean) 2 := ⟨tm1 122 rfl rfl, tm1 1 rfl rfl, tm1 123 rfl rfl, by decide, by decide, by decide, by decide +kernel⟩
abbrev b_G_isVariable : ByteArray := prog_1_method_17_code
abbrev y_G_isVariable : MethodName := { cls := "GoalScanner", name := "isVariable", desc := "(I)Z" }
theorem cw_G_isVariable : CWS y_G_isVariable b_G_isVariable 1 (some .boolean) 1 := ⟨tm1 125 rfl rfl, tm1 1 rfl rfl, tm1 126 rfl rfl, by decide, by decide, by decide, by decide +kernel⟩
abbrev b_G_isSort : ByteArray := prog_1_method_18_code
abbrev y_G_isSort : MethodName := { cls := "GoalScanner", name := "isSort", desc := "(I)Z" }
theorem cw_G_isSort : CWS y_G_isSort b_G_isSort 1 (some .boolean) 1 := ⟨tm1 128 rfl rfl, tm1 1 rfl rfl, tm1 129 rfl rfl, by decide, by decide, by decide, by decide +kernel⟩
abbrev b_G_areNodeOperandsFit : ByteArray := prog_1_method_20_code
abbrev y_G_areNodeOperandsFit : MethodName := { cls := "GoalScanner", name := "areNodeOperandsFit", desc := "(IIII)Z" }
theorem cw_G_areNodeOperandsFit : CWV y_G_areNodeOperandsFit b_G_areNodeOperandsFit 9 (some .boolean) 4 := ⟨tm1 134 rfl rfl, tm0 0 rfl rfl, tm1 1 rfl rfl, tm1 135 rfl rfl, by decide, by decide, by decide, by decide +kernel⟩
abbrev b_G_isFree : ByteArray := prog_1_method_16_code
abbrev y_G_isFree : MethodName := { cls := "GoalScanner", name := "isFree", desc := "(I)Z" }
theorem cw_G_isFree : CWV y_G_isFree b_G_isFree 2 (some .boolean) 1 := ⟨tm1 138 rfl rfl, tm0 1 rfl rfl, tm1 1 rfl rfl, tm1 139 rfl rfl, by decide, by decide, by decide, by decide +kernel⟩
abbrev b_G_isNode : ByteArray := prog_1_method_15_code
abbrev y_G_isNode : MethodName := { cls := "GoalScanner", name := "isNode", desc := "(I)Z" }
theorem cw_G_isNode : CWV y_G_isNode b_G_isNode 2 (some .boolean) 1 := ⟨tm1 142 rfl rfl, tm0 2 rfl rfl, tm1 1 rfl rfl, tm1 143 rfl rfl, by decide, by decide, by decide, by decide +kernel⟩
abbrev b_N_fill : ByteArray := prog_2_method_2_code
abbrev y_N_fill : MethodName := { cls := "GoalScanner$Node", name := "fill", desc := "(IIII)V" }
theorem cw_N_fill : CWV y_N_fill b_N_fill 5 none 4 := ⟨tm1 145 rfl rfl, tm1 146 rfl rfl, tm1 3 rfl rfl, tm1 147 rfl rfl, by decide, by decide, by decide, by decide +kernel⟩
abbrev b_G_boundOf : ByteArray := prog_1_method_22_code
abbrev y_G_boundOf : MethodName := { cls := "GoalScanner", name := "boundOf", desc := "(LGoalScanner$Node;)I" }
theorem cw_G_boundOf : CWV y_G_boundOf b_G_boundOf 2 (some .int) 1 := ⟨tm1 150 rfl rfl, tm0 3 rfl rfl, tm1 1 rfl rfl, tm1 151 rfl rfl, by decide, by decide, by decide, by decide +kernel⟩
abbrev b_G_workOf : ByteArray := prog_1_method_23_code
abbrev y_G_workOf : MethodName := { cls := "GoalScanner", name := "workOf", desc := "(LGoalScanner$Node;)I" }
theorem cw_G_workOf : CWV y_G_workOf b_G_workOf 2 (some .int) 1 := ⟨tm1 160 rfl rfl, tm0 4 rfl rfl, tm1 1 rfl rfl, tm1 161 rfl rfl, by decide, by decide, by decide, by decide +kernel⟩
abbrev b_G_workOfPairs : ByteArray := prog_1_method_24_code
abbrev y_G_workOfPairs : MethodName := { cls := "GoalScanner", name := "workOfPairs", desc := "(LGoalScanner$Node;)I" }
theorem cw_G_workOfPairs : CWV y_G_workOfPairs b_G_workOfPairs 2 (some .int) 1 := ⟨tm1 164 rfl rfl, tm0 5 rfl rfl, tm1 1 rfl rfl, tm1 165 rfl rfl, by decide, by decide, by decide, by decide +kernel⟩
abbrev b_G_levelOf : ByteArray := prog_1_method_25_code
abbrev y_G_levelOf : MethodName := { cls := "GoalScanner", name := "levelOf", desc := "(LGoalScanner$Node;)I" }
theorem cw_G_levelOf : CWV y_G_levelOf b_G_levelOf 4 (some .int) 1 := ⟨tm1 168 rfl rfl, tm0 6 rfl rfl, tm1 1 rfl rfl, tm1 169 rfl rfl, by decide, by decide, by decide, by decide +kernel⟩
abbrev b_G_useOperands : ByteArray := prog_1_method_21_code
abbrev y_G_useOperands : MethodName := { cls := "GoalScanner", name := "useOperands", desc := "(LGoalScanner$Node;)V" }
theorem cw_G_useOperands : CWV y_G_useOperands b_G_useOperands 3 none 1 := ⟨tm1 172 rfl rfl, tm0 7 rfl rfl, tm1 1 rfl rfl, tm1 173 rfl rfl, by decide, by decide, by decide, by decide +kernel⟩
abbrev b_G_clear : ByteArray := prog_1_method_5_code
abbrev y_G_clear : MethodName := { cls := "GoalScanner", name := "clear", desc := "()I" }
theorem cw_G_clear : CWV y_G_clear b_G_clear 2 (some .int) 0 := ⟨tm1 175 rfl rfl, tm1 176 rfl rfl, tm1 1 rfl rfl, tm1 177 rfl rfl, by decide, by decide, by decide, by decide +kernel⟩
abbrev b_G_evaluate : ByteArray := prog_1_method_6_code
abbrev y_G_evaluate : MethodName := { cls := "GoalScanner", name := "evaluate", desc := "(I)I" }
theorem cw_G_evaluate : CWV y_G_evaluate b_G_evaluate 2 (some .int) 1 := ⟨tm1 179 rfl rfl, tm1 180 rfl rfl, tm1 1 rfl rfl, tm1 181 rfl rfl, by decide, by decide, by decide, by decide +kernel⟩
abbrev b_G_keepResults : ByteArray := prog_1_method_26_code
abbrev y_G_keepResults : MethodName := { cls := "GoalScanner", name := "keepResults", desc := "(II)I" }
theorem cw_G_keepResults : CWV y_G_keepResults b_G_keepResults 3 (some .int) 2 := ⟨tm1 184 rfl rfl, tm0 8 rfl rfl, tm1 1 rfl rfl, tm1 185 rfl rfl, by decide, by decide, by decide, by decide +kernel⟩
abbrev b_G_solve : ByteArray := prog_1_method_27_code
abbrev y_G_solve : MethodName := { cls := "GoalScanner", name := "solve", desc := "(II)V" }
theorem cw_G_solve : CWV y_G_solve b_G_solve 4 none 2 := ⟨tm1 188 rfl rfl, tm0 9 rfl rfl, tm1 1 rfl rfl, tm1 189 rfl rfl, by decide, by decide, by decide, by decide +kernel⟩
abbrev b_R_push : ByteArray := prog_3_method_7_code
abbrev y_R_push : MethodName := { cls := "GoalScanner$Rows", name := "push", desc := "(II)V" }
theorem cw_R_push : CWV y_R_push b_R_push 3 none 2 := ⟨tm1 191 rfl rfl, tm1 192 rfl rfl, tm1 4 rfl rfl, tm1 193 rfl rfl, by decide, by decide, by decide, by decide +kernel⟩
abbrev b_R_variableAt : ByteArray := prog_3_method_5_code
abbrev y_R_variableAt : MethodName := { cls := "GoalScanner$Rows", name := "variableAt", desc := "(II)I" }
theorem cw_R_variableAt : CWV y_R_variableAt b_R_variableAt 3 (some .int) 2 := ⟨tm1 198 rfl rfl, tm1 199 rfl rfl, tm1 4 rfl rfl, tm1 200 rfl rfl, by decide, by decide, by decide, by decide +kernel⟩
abbrev b_R_placeAt : ByteArray := prog_3_method_4_code
abbrev y_R_placeAt : MethodName := { cls := "GoalScanner$Rows", name := "placeAt", desc := "(I)I" }
theorem cw_R_placeAt : CWV y_R_placeAt b_R_placeAt 2 (some .int) 1 := ⟨tm1 202 rfl rfl, tm1 203 rfl rfl, tm1 4 rfl rfl, tm1 204 rfl rfl, by decide, by decide, by decide, by decide +kernel⟩
abbrev b_G_solveOne : ByteArray := prog_1_method_28_code
abbrev y_G_solveOne : MethodName := { cls := "GoalScanner", name := "solveOne", desc := "(II)V" }
theorem cw_G_solveOne : CWV y_G_solveOne b_G_solveOne 4 none 2 := ⟨tm1 207 rfl rfl, tm0 10 rfl rfl, tm1 1 rfl rfl, tm1 208 rfl rfl, by decide, by decide, by decide, by decide +kernel⟩
abbrev b_T_isOf : ByteArray := prog_4_method_3_code
abbrev y_T_isOf : MethodName := { cls := "GoalScanner$Text", name := "isOf", desc := "(II)Z" }
theorem cw_T_isOf : CWV y_T_isOf b_T_isOf 3 (some .boolean) 2 := ⟨tm1 210 rfl rfl, tm1 211 rfl rfl, tm1 2 rfl rfl, tm1 212 rfl rfl, by decide, by decide, by decide, by decide +kernel⟩
abbrev b_T_isOfSort : ByteArray := prog_4_method_6_code
abbrev y_T_isOfSort : MethodName := { cls := "GoalScanner$Text", name := "isOfSort", desc := "(II)Z" }
theorem cw_T_isOfSort : CWS y_T_isOfSort b_T_isOfSort 2 (some .boolean) 2 := ⟨tm1 214 rfl rfl, tm1 2 rfl rfl, tm1 215 rfl rfl, by decide, by decide, by decide, by decide +kernel⟩
abbrev b_T_isDigit : ByteArray := prog_4_method_7_code
abbrev y_T_isDigit : MethodName := { cls := "GoalScanner$Text", name := "isDigit", desc := "(I)Z" }
theorem cw_T_isDigit : CWS y_T_isDigit b_T_isDigit 1 (some .boolean) 1 := ⟨tm1 217 rfl rfl, tm1 2 rfl rfl, tm1 218 rfl rfl, by decide, by decide, by decide, by decide +kernel⟩
abbrev b_T_isLetter : ByteArray := prog_4_method_8_code
abbrev y_T_isLetter : MethodName := { cls := "GoalScanner$Text", name := "isLetter", desc := "(I)Z" }
theorem cw_T_isLetter : CWS y_T_isLetter b_T_isLetter 1 (some .boolean) 1 := ⟨tm1 220 rfl rfl, tm1 2 rfl rfl, tm1 221 rfl rfl, by decide, by decide, by decide, by decide +kernel⟩
abbrev b_R_pushAtPlace : ByteArray := prog_3_method_8_code
abbrev y_R_pushAtPlace : MethodName := { cls := "GoalScanner$Rows", name := "pushAtPlace", desc := "(III)V" }
theorem cw_R_pushAtPlace : CWV y_R_pushAtPlace b_R_pushAtPlace 5 none 3 := ⟨tm1 223 rfl rfl, tm1 224 rfl rfl, tm1 4 rfl rfl, tm1 225 rfl rfl, by decide, by decide, by decide, by decide +kernel⟩
abbrev b_G_solveRun : ByteArray := prog_1_method_29_code
abbrev y_G_solveRun : MethodName := { cls := "GoalScanner", name := "solveRun", desc := "(II)V" }
theorem cw_G_solveRun : CWV y_G_solveRun b_G_solveRun 5 none 2 := ⟨tm1 229 rfl rfl, tm0 11 rfl rfl, tm1 1 rfl rfl, tm1 230 rfl rfl, by decide, by decide, by decide, by decide +kernel⟩
abbrev b_T_behindRun : ByteArray := prog_4_method_4_code
abbrev y_T_behindRun : MethodName := { cls := "GoalScanner$Text", name := "behindRun", desc := "(III)I" }
theorem cw_T_behindRun : CWV y_T_behindRun b_T_behindRun 6 (some .int) 3 := ⟨tm1 232 rfl rfl, tm1 233 rfl rfl, tm1 2 rfl rfl, tm1 234 rfl rfl, by decide, by decide, by decide, by decide +kernel⟩
abbrev b_G_solveValue : ByteArray := prog_1_method_30_code
abbrev y_G_solveValue : MethodName := { cls := "GoalScanner", name := "solveValue", desc := "(I)V" }
theorem cw_G_solveValue : CWV y_G_solveValue b_G_solveValue 4 none 1 := ⟨tm1 238 rfl rfl, tm0 12 rfl rfl, tm1 1 rfl rfl, tm1 239 rfl rfl, by decide, by decide, by decide, by decide +kernel⟩
abbrev b_T_decimal : ByteArray := prog_4_method_5_code
abbrev y_T_decimal : MethodName := { cls := "GoalScanner$Text", name := "decimal", desc := "(II)I" }
theorem cw_T_decimal : CWV y_T_decimal b_T_decimal 5 (some .int) 2 := ⟨tm2 1 rfl rfl, tm2 2 rfl rfl, tm1 2 rfl rfl, tm2 3 rfl rfl, by decide, by decide, by decide, by decide +kernel⟩
abbrev b_G_solveSeek : ByteArray := prog_1_method_31_code
abbrev y_G_solveSeek : MethodName := { cls := "GoalScanner", name := "solveSeek", desc := "(II)V" }
theorem cw_G_solveSeek : CWV y_G_solveSeek b_G_solveSeek 5 none 2 := ⟨tm2 6 rfl rfl, tm0 13 rfl rfl, tm1 1 rfl rfl, tm2 7 rfl rfl, by decide, by decide, by decide, by decide +kernel⟩
abbrev b_G_solveGo : ByteArray := prog_1_method_32_code
abbrev y_G_solveGo : MethodName := { cls := "GoalScanner", name := "solveGo", desc := "(LGoalScanner$Node;I)V" }
theorem cw_G_solveGo : CWV y_G_solveGo b_G_solveGo 7 none 2 := ⟨tm2 10 rfl rfl, tm0 14 rfl rfl, tm1 1 rfl rfl, tm2 11 rfl rfl, by decide, by decide, by decide, by decide +kernel⟩
abbrev b_R_intAt : ByteArray := prog_3_method_3_code
abbrev y_R_intAt : MethodName := { cls := "GoalScanner$Rows", name := "intAt", desc := "(I)I" }
theorem cw_R_intAt : CWV y_R_intAt b_R_intAt 2 (some .int) 1 := ⟨tm2 13 rfl rfl, tm2 14 rfl rfl, tm1 4 rfl rfl, tm2 15 rfl rfl, by decide, by decide, by decide, by decide +kernel⟩
abbrev b_R_remove : ByteArray := prog_3_method_10_code
abbrev y_R_remove : MethodName := { cls := "GoalScanner$Rows", name := "remove", desc := "(II)V" }
theorem cw_R_remove : CWV y_R_remove b_R_remove 3 none 2 := ⟨tm2 17 rfl rfl, tm2 18 rfl rfl, tm1 4 rfl rfl, tm2 19 rfl rfl, by decide, by decide, by decide, by decide +kernel⟩
abbrev b_G_solveSet : ByteArray := prog_1_method_33_code
abbrev y_G_solveSet : MethodName := { cls := "GoalScanner", name := "solveSet", desc := "(LGoalScanner$Node;I)V" }
theorem cw_G_solveSet : CWV y_G_solveSet b_G_solveSet 6 none 2 := ⟨tm2 22 rfl rfl, tm0 15 rfl rfl, tm1 1 rfl rfl, tm2 23 rfl rfl, by decide, by decide, by decide, by decide +kernel⟩
abbrev b_R_putVariable : ByteArray := prog_3_method_6_code
abbrev y_R_putVariable : MethodName := { cls := "GoalScanner$Rows", name := "putVariable", desc := "(III)V" }
theorem cw_R_putVariable : CWV y_R_putVariable b_R_putVariable 4 none 3 := ⟨tm2 25 rfl rfl, tm2 26 rfl rfl, tm1 4 rfl rfl, tm2 27 rfl rfl, by decide, by decide, by decide, by decide +kernel⟩
abbrev b_G_solveFirst : ByteArray := prog_1_method_34_code
abbrev y_G_solveFirst : MethodName := { cls := "GoalScanner", name := "solveFirst", desc := "(LGoalScanner$Node;I)V" }
theorem cw_G_solveFirst : CWV y_G_solveFirst b_G_solveFirst 4 none 2 := ⟨tm2 30 rfl rfl, tm0 16 rfl rfl, tm1 1 rfl rfl, tm2 31 rfl rfl, by decide, by decide, by decide, by decide +kernel⟩
abbrev b_G_solveIf : ByteArray := prog_1_method_35_code
abbrev y_G_solveIf : MethodName := { cls := "GoalScanner", name := "solveIf", desc := "(LGoalScanner$Node;I)V" }
theorem cw_G_solveIf : CWV y_G_solveIf b_G_solveIf 4 none 2 := ⟨tm2 34 rfl rfl, tm0 17 rfl rfl, tm1 1 rfl rfl, tm2 35 rfl rfl, by decide, by decide, by decide, by decide +kernel⟩
abbrev b_G_solveNot : ByteArray := prog_1_method_36_code
abbrev y_G_solveNot : MethodName := { cls := "GoalScanner", name := "solveNot", desc := "(LGoalScanner$Node;I)V" }
theorem cw_G_solveNot : CWV y_G_solveNot b_G_solveNot 5 none 2 := ⟨tm2 38 rfl rfl, tm0 18 rfl rfl, tm1 1 rfl rfl, tm2 39 rfl rfl, by decide, by decide, by decide, by decide +kernel⟩
abbrev b_G_solveMost : ByteArray := prog_1_method_37_code
abbrev y_G_solveMost : MethodName := { cls := "GoalScanner", name := "solveMost", desc := "(LGoalScanner$Node;I)V" }
theorem cw_G_solveMost : CWV y_G_solveMost b_G_solveMost 7 none 2 := ⟨tm2 42 rfl rfl, tm0 19 rfl rfl, tm1 1 rfl rfl, tm2 43 rfl rfl, by decide, by decide, by decide, by decide +kernel⟩
abbrev b_R_copy : ByteArray := prog_3_method_9_code
abbrev y_R_copy : MethodName := { cls := "GoalScanner$Rows", name := "copy", desc := "(II)V" }
theorem cw_R_copy : CWV y_R_copy b_R_copy 3 none 2 := ⟨tm2 45 rfl rfl, tm2 46 rfl rfl, tm1 4 rfl rfl, tm2 47 rfl rfl, by decide, by decide, by decide, by decide +kernel⟩
abbrev b_G_solvePairs : ByteArray := prog_1_method_38_code
abbrev y_G_solvePairs : MethodName := { cls := "GoalScanner", name := "solvePairs", desc := "(LGoalScanner$Node;I)V" }
theorem cw_G_solvePairs : CWV y_G_solvePairs b_G_solvePairs 9 none 2 := ⟨tm2 50 rfl rfl, tm0 20 rfl rfl, tm1 1 rfl rfl, tm2 51 rfl rfl, by decide, by decide, by decide, by decide +kernel⟩
abbrev b_G_pushPair : ByteArray := prog_1_method_39_code
abbrev y_G_pushPair : MethodName := { cls := "GoalScanner", name := "pushPair", desc := "(III)V" }
theorem cw_G_pushPair : CWV y_G_pushPair b_G_pushPair 5 none 3 := ⟨tm2 54 rfl rfl, tm0 21 rfl rfl, tm1 1 rfl rfl, tm2 55 rfl rfl, by decide, by decide, by decide, by decide +kernel⟩
abbrev b_G_pushSeries : ByteArray := prog_1_method_40_code
abbrev y_G_pushSeries : MethodName := { cls := "GoalScanner", name := "pushSeries", desc := "(III)V" }
theorem cw_G_pushSeries : CWV y_G_pushSeries b_G_pushSeries 8 none 3 := ⟨tm2 58 rfl rfl, tm0 22 rfl rfl, tm1 1 rfl rfl, tm2 59 rfl rfl, by decide, by decide, by decide, by decide +kernel⟩
abbrev b_R_takeFrom : ByteArray := prog_3_method_11_code
abbrev y_R_takeFrom : MethodName := { cls := "GoalScanner$Rows", name := "takeFrom", desc := "(LGoalScanner$Rows;II)V" }
theorem cw_R_takeFrom : CWV y_R_takeFrom b_R_takeFrom 4 none 3 := ⟨tm2 65 rfl rfl, tm2 66 rfl rfl, tm1 4 rfl rfl, tm2 67 rfl rfl, by decide, by decide, by decide, by decide +kernel⟩
abbrev b_G_attempt : ByteArray := prog_1_method_7_code
abbrev y_G_attempt : MethodName := { cls := "GoalScanner", name := "attempt", desc := "(I)I" }
theorem cw_G_attempt : CWV y_G_attempt b_G_attempt 2 (some .int) 1 := ⟨tm2 70 rfl rfl, tm2 71 rfl rfl, tm1 1 rfl rfl, tm2 72 rfl rfl, by decide, by decide, by decide, by decide +kernel⟩
abbrev b_G_result : ByteArray := prog_1_method_8_code
abbrev y_G_result : MethodName := { cls := "GoalScanner", name := "result", desc := "(I)J" }
theorem cw_G_result : CWV y_G_result b_G_result 2 (some .long) 1 := ⟨tm2 74 rfl rfl, tm2 75 rfl rfl, tm1 1 rfl rfl, tm2 76 rfl rfl, by decide, by decide, by decide, by decide +kernel⟩
abbrev b_R_has : ByteArray := prog_3_method_2_code
abbrev y_R_has : MethodName := { cls := "GoalScanner$Rows", name := "has", desc := "(I)Z" }
theorem cw_R_has : CWV y_R_has b_R_has 2 (some .boolean) 1 := ⟨tm2 78 rfl rfl, tm2 79 rfl rfl, tm1 4 rfl rfl, tm2 80 rfl rfl, by decide, by decide, by decide, by decide +kernel⟩
abbrev b_G_place : ByteArray := prog_1_method_9_code
abbrev y_G_place : MethodName := { cls := "GoalScanner", name := "place", desc := "(I)I" }
theorem cw_G_place : CWV y_G_place b_G_place 2 (some .int) 1 := ⟨tm2 83 rfl rfl, tm2 84 rfl rfl, tm1 1 rfl rfl, tm2 85 rfl rfl, by decide, by decide, by decide, by decide +kernel⟩
abbrev b_G_variable : ByteArray := prog_1_method_10_code
abbrev y_G_variable : MethodName := { cls := "GoalScanner", name := "variable", desc := "(II)J" }
theorem cw_G_variable : CWV y_G_variable b_G_variable 3 (some .long) 2 := ⟨tm2 87 rfl rfl, tm2 88 rfl rfl, tm1 1 rfl rfl, tm2 89 rfl rfl, by decide, by decide, by decide, by decide +kernel⟩
abbrev b_G_bound : ByteArray := prog_1_method_11_code
abbrev y_G_bound : MethodName := { cls := "GoalScanner", name := "bound", desc := "(I)I" }
theorem cw_G_bound : CWV y_G_bound b_G_bound 2 (some .int) 1 := ⟨tm2 91 rfl rfl, tm2 92 rfl rfl, tm1 1 rfl rfl, tm2 93 rfl rfl, by decide, by decide, by decide, by decide +kernel⟩
abbrev b_G_level : ByteArray := prog_1_method_12_code
abbrev y_G_level : MethodName := { cls := "GoalScanner", name := "level", desc := "(I)I" }
theorem cw_G_level : CWV y_G_level b_G_level 2 (some .int) 1 := ⟨tm2 95 rfl rfl, tm2 96 rfl rfl, tm1 1 rfl rfl, tm2 97 rfl rfl, by decide, by decide, by decide, by decide +kernel⟩
abbrev b_G_used : ByteArray := prog_1_method_13_code
abbrev y_G_used : MethodName := { cls := "GoalScanner", name := "used", desc := "(I)Z" }
theorem cw_G_used : CWV y_G_used b_G_used 2 (some .boolean) 1 := ⟨tm2 99 rfl rfl, tm2 100 rfl rfl, tm1 1 rfl rfl, tm2 101 rfl rfl, by decide, by decide, by decide, by decide +kernel⟩
abbrev b_G_count : ByteArray := prog_1_method_14_code
abbrev y_G_count : MethodName := { cls := "GoalScanner", name := "count", desc := "(I)I" }
theorem cw_G_count : CWV y_G_count b_G_count 2 (some .int) 1 := ⟨tm2 103 rfl rfl, tm2 104 rfl rfl, tm1 1 rfl rfl, tm2 105 rfl rfl, by decide, by decide, by decide, by decide +kernel⟩
abbrev b_R_countAtPlace : ByteArray := prog_3_method_12_code
abbrev y_R_countAtPlace : MethodName := { cls := "GoalScanner$Rows", name := "countAtPlace", desc := "(I)I" }
theorem cw_R_countAtPlace : CWV y_R_countAtPlace b_R_countAtPlace 4 (some .int) 1 := ⟨tm2 107 rfl rfl, tm2 108 rfl rfl, tm1 4 rfl rfl, tm2 109 rfl rfl, by decide, by decide, by decide, by decide +kernel⟩
abbrev b_M_init : ByteArray := prog_6_method_1_code
abbrev y_M_init : MethodName := { cls := "GoalScannerModel", name := "<init>", desc := "()V" }
abbrev b_M_type : ByteArray := prog_6_method_2_code
abbrev y_M_type : MethodName := { cls := "GoalScannerModel", name := "type", desc := "(I)I" }
theorem cw_M_type : CWV y_M_type b_M_type 2 (some .int) 1 := ⟨tm2 180 rfl rfl, tm2 181 rfl rfl, tm1 5 rfl rfl, tm2 182 rfl rfl, by decide, by decide, by decide, by decide +kernel⟩
abbrev b_M_wipe : ByteArray := prog_6_method_3_code
abbrev y_M_wipe : MethodName := { cls := "GoalScannerModel", name := "wipe", desc := "()I" }
theorem cw_M_wipe : CWV y_M_wipe b_M_wipe 2 (some .int) 0 := ⟨tm2 184 rfl rfl, tm2 185 rfl rfl, tm1 5 rfl rfl, tm2 186 rfl rfl, by decide, by decide, by decide, by decide +kernel⟩
abbrev b_M_node : ByteArray := prog_6_method_12_code
abbrev y_M_node : MethodName := { cls := "GoalScannerModel", name := "node", desc := "(IIII)I" }
theorem cw_M_node : CWV y_M_node b_M_node 8 (some .int) 4 := ⟨tm2 188 rfl rfl, tm2 189 rfl rfl, tm1 5 rfl rfl, tm2 190 rfl rfl, by decide, by decide, by decide, by decide +kernel⟩
abbrev b_M_fits : ByteArray := prog_6_method_6_code
abbrev y_M_fits : MethodName := { cls := "GoalScannerModel", name := "fits", desc := "(IIII)Z" }
theorem cw_M_fits : CWV y_M_fits b_M_fits 5 (some .boolean) 4 := ⟨tm2 193 rfl rfl, tm0 23 rfl rfl, tm1 5 rfl rfl, tm2 194 rfl rfl, by decide, by decide, by decide, by decide +kernel⟩
abbrev b_M_sort : ByteArray := prog_6_method_4_code
abbrev y_M_sort : MethodName := { cls := "GoalScannerModel", name := "sort", desc := "(I)Z" }
theorem cw_M_sort : CWV y_M_sort b_M_sort 2 (some .boolean) 1 := ⟨tm2 197 rfl rfl, tm0 24 rfl rfl, tm1 5 rfl rfl, tm2 198 rfl rfl, by decide, by decide, by decide, by decide +kernel⟩
abbrev b_M_free : ByteArray := prog_6_method_5_code
abbrev y_M_free : MethodName := { cls := "GoalScannerModel", name := "free", desc := "(I)Z" }
theorem cw_M_free : CWV y_M_free b_M_free 2 (some .boolean) 1 := ⟨tm2 201 rfl rfl, tm0 25 rfl rfl, tm1 5 rfl rfl, tm2 202 rfl rfl, by decide, by decide, by decide, by decide +kernel⟩
abbrev b_M_boundOf : ByteArray := prog_6_method_9_code
abbrev y_M_boundOf : MethodName := { cls := "GoalScannerModel", name := "boundOf", desc := "(IIII)I" }
theorem cw_M_boundOf : CWV y_M_boundOf b_M_boundOf 5 (some .int) 4 := ⟨tm2 205 rfl rfl, tm0 26 rfl rfl, tm1 5 rfl rfl, tm2 206 rfl rfl, by decide, by decide, by decide, by decide +kernel⟩
abbrev b_M_namesA : ByteArray := prog_6_method_7_code
abbrev y_M_namesA : MethodName := { cls := "GoalScannerModel", name := "namesA", desc := "(I)Z" }
theorem cw_M_namesA : CWV y_M_namesA b_M_namesA 2 (some .boolean) 1 := ⟨tm2 209 rfl rfl, tm0 27 rfl rfl, tm1 5 rfl rfl, tm2 210 rfl rfl, by decide, by decide, by decide, by decide +kernel⟩
abbrev b_M_higher : ByteArray := prog_6_method_11_code
abbrev y_M_higher : MethodName := { cls := "GoalScannerModel", name := "higher", desc := "(IZI)I" }
theorem cw_M_higher : CWV y_M_higher b_M_higher 4 (some .int) 3 := ⟨tm2 213 rfl rfl, tm0 28 rfl rfl, tm1 5 rfl rfl, tm2 214 rfl rfl, by decide, by decide, by decide, by decide +kernel⟩
abbrev b_M_namesB : ByteArray := prog_6_method_8_code
abbrev y_M_namesB : MethodName := { cls := "GoalScannerModel", name := "namesB", desc := "(I)Z" }
theorem cw_M_namesB : CWV y_M_namesB b_M_namesB 2 (some .boolean) 1 := ⟨tm2 217 rfl rfl, tm0 29 rfl rfl, tm1 5 rfl rfl, tm2 218 rfl rfl, by decide, by decide, by decide, by decide +kernel⟩
abbrev b_M_workOf : ByteArray := prog_6_method_10_code
abbrev y_M_workOf : MethodName := { cls := "GoalScannerModel", name := "workOf", desc := "(IIII)I" }
theorem cw_M_workOf : CWV y_M_workOf b_M_workOf 7 (some .int) 4 := ⟨tm2 221 rfl rfl, tm0 30 rfl rfl, tm1 5 rfl rfl, tm2 222 rfl rfl, by decide, by decide, by decide, by decide +kernel⟩
abbrev b_M_clear : ByteArray := prog_6_method_13_code
abbrev y_M_clear : MethodName := { cls := "GoalScannerModel", name := "clear", desc := "()I" }
theorem cw_M_clear : CWV y_M_clear b_M_clear 2 (some .int) 0 := ⟨tm2 224 rfl rfl, tm2 225 rfl rfl, tm1 5 rfl rfl, tm2 226 rfl rfl, by decide, by decide, by decide, by decide +kernel⟩
abbrev b_M_evaluate : ByteArray := prog_6_method_29_code
abbrev y_M_evaluate : MethodName := { cls := "GoalScannerModel", name := "evaluate", desc := "(I)I" }
theorem cw_M_evaluate : CWV y_M_evaluate b_M_evaluate 2 (some .int) 1 := ⟨tm2 228 rfl rfl, tm2 229 rfl rfl, tm1 5 rfl rfl, tm2 230 rfl rfl, by decide, by decide, by decide, by decide +kernel⟩
abbrev b_M_work : ByteArray := prog_6_method_27_code
abbrev y_M_work : MethodName := { cls := "GoalScannerModel", name := "work", desc := "(I)V" }
theorem cw_M_work : CWV y_M_work b_M_work 4 none 1 := ⟨tm2 233 rfl rfl, tm0 31 rfl rfl, tm1 5 rfl rfl, tm2 234 rfl rfl, by decide, by decide, by decide, by decide +kernel⟩
abbrev b_M_begin : ByteArray := prog_6_method_19_code
abbrev y_M_begin : MethodName := { cls := "GoalScannerModel", name := "begin", desc := "(II)V" }
theorem cw_M_begin : CWV y_M_begin b_M_begin 5 none 2 := ⟨tm2 237 rfl rfl, tm0 32 rfl rfl, tm1 5 rfl rfl, tm2 238 rfl rfl, by decide, by decide, by decide, by decide +kernel⟩
abbrev b_M_leaf : ByteArray := prog_6_method_18_code
abbrev y_M_leaf : MethodName := { cls := "GoalScannerModel", name := "leaf", desc := "(II)V" }
theorem cw_M_leaf : CWV y_M_leaf b_M_leaf 8 none 2 := ⟨tm3 1 rfl rfl, tm0 33 rfl rfl, tm1 5 rfl rfl, tm3 2 rfl rfl, by decide, by decide, by decide, by decide +kernel⟩
abbrev b_M_stay : ByteArray := prog_6_method_15_code
abbrev y_M_stay : MethodName := { cls := "GoalScannerModel", name := "stay", desc := "(II)V" }
theorem cw_M_stay : CWV y_M_stay b_M_stay 6 none 2 := ⟨tm3 5 rfl rfl, tm0 34 rfl rfl, tm1 5 rfl rfl, tm3 6 rfl rfl, by decide, by decide, by decide, by decide +kernel⟩
abbrev b_M_isOf : ByteArray := prog_6_method_16_code
abbrev y_M_isOf : MethodName := { cls := "GoalScannerModel", name := "isOf", desc := "(II)Z" }
theorem cw_M_isOf : CWV y_M_isOf b_M_isOf 6 (some .boolean) 2 := ⟨tm3 9 rfl rfl, tm0 35 rfl rfl, tm1 5 rfl rfl, tm3 10 rfl rfl, by decide, by decide, by decide, by decide +kernel⟩
abbrev b_M_runFrom : ByteArray := prog_6_method_17_code
abbrev y_M_runFrom : MethodName := { cls := "GoalScannerModel", name := "runFrom", desc := "(III)I" }
theorem cw_M_runFrom : CWV y_M_runFrom b_M_runFrom 5 (some .int) 3 := ⟨tm3 13 rfl rfl, tm0 36 rfl rfl, tm1 5 rfl rfl, tm3 14 rfl rfl, by decide, by decide, by decide, by decide +kernel⟩
abbrev b_M_stepOr : ByteArray := prog_6_method_23_code
abbrev y_M_stepOr : MethodName := { cls := "GoalScannerModel", name := "stepOr", desc := "(I)V" }
theorem cw_M_stepOr : CWV y_M_stepOr b_M_stepOr 3 none 1 := ⟨tm3 17 rfl rfl, tm0 37 rfl rfl, tm1 5 rfl rfl, tm3 18 rfl rfl, by decide, by decide, by decide, by decide +kernel⟩
abbrev b_M_giveAll : ByteArray := prog_6_method_22_code
abbrev y_M_giveAll : MethodName := { cls := "GoalScannerModel", name := "giveAll", desc := "()V" }
theorem cw_M_giveAll : CWV y_M_giveAll b_M_giveAll 2 none 0 := ⟨tm3 21 rfl rfl, tm0 38 rfl rfl, tm1 5 rfl rfl, tm3 22 rfl rfl, by decide, by decide, by decide, by decide +kernel⟩
abbrev b_M_operand : ByteArray := prog_6_method_20_code
abbrev y_M_operand : MethodName := { cls := "GoalScannerModel", name := "operand", desc := "(I)I" }
theorem cw_M_operand : CWV y_M_operand b_M_operand 2 (some .int) 1 := ⟨tm3 25 rfl rfl, tm0 39 rfl rfl, tm1 5 rfl rfl, tm3 26 rfl rfl, by decide, by decide, by decide, by decide +kernel⟩
abbrev b_M_give : ByteArray := prog_6_method_14_code
abbrev y_M_give : MethodName := { cls := "GoalScannerModel", name := "give", desc := "(II)V" }
theorem cw_M_give : CWV y_M_give b_M_give 6 none 2 := ⟨tm3 29 rfl rfl, tm0 40 rfl rfl, tm1 5 rfl rfl, tm3 30 rfl rfl, by decide, by decide, by decide, by decide +kernel⟩
abbrev b_M_stepIf : ByteArray := prog_6_method_24_code
abbrev y_M_stepIf : MethodName := { cls := "GoalScannerModel", name := "stepIf", desc := "(I)V" }
theorem cw_M_stepIf : CWV y_M_stepIf b_M_stepIf 3 none 1 := ⟨tm3 33 rfl rfl, tm0 41 rfl rfl, tm1 5 rfl rfl, tm3 34 rfl rfl, by decide, by decide, by decide, by decide +kernel⟩
abbrev b_M_stepPairs : ByteArray := prog_6_method_26_code
abbrev y_M_stepPairs : MethodName := { cls := "GoalScannerModel", name := "stepPairs", desc := "(II)V" }
theorem cw_M_stepPairs : CWV y_M_stepPairs b_M_stepPairs 6 none 2 := ⟨tm3 37 rfl rfl, tm0 42 rfl rfl, tm1 5 rfl rfl, tm3 38 rfl rfl, by decide, by decide, by decide, by decide +kernel⟩
abbrev b_M_pair : ByteArray := prog_6_method_25_code
abbrev y_M_pair : MethodName := { cls := "GoalScannerModel", name := "pair", desc := "(III)V" }
theorem cw_M_pair : CWV y_M_pair b_M_pair 8 none 3 := ⟨tm3 41 rfl rfl, tm0 43 rfl rfl, tm1 5 rfl rfl, tm3 42 rfl rfl, by decide, by decide, by decide, by decide +kernel⟩
abbrev b_M_stepOne : ByteArray := prog_6_method_21_code
abbrev y_M_stepOne : MethodName := { cls := "GoalScannerModel", name := "stepOne", desc := "(II)V" }
theorem cw_M_stepOne : CWV y_M_stepOne b_M_stepOne 8 none 2 := ⟨tm3 46 rfl rfl, tm0 44 rfl rfl, tm1 5 rfl rfl, tm3 47 rfl rfl, by decide, by decide, by decide, by decide +kernel⟩
abbrev b_M_keep : ByteArray := prog_6_method_28_code
abbrev y_M_keep : MethodName := { cls := "GoalScannerModel", name := "keep", desc := "(I)I" }
theorem cw_M_keep : CWV y_M_keep b_M_keep 3 (some .int) 1 := ⟨tm3 50 rfl rfl, tm0 45 rfl rfl, tm1 5 rfl rfl, tm3 51 rfl rfl, by decide, by decide, by decide, by decide +kernel⟩
abbrev b_M_attempt : ByteArray := prog_6_method_30_code
abbrev y_M_attempt : MethodName := { cls := "GoalScannerModel", name := "attempt", desc := "(I)I" }
theorem cw_M_attempt : CWV y_M_attempt b_M_attempt 2 (some .int) 1 := ⟨tm3 53 rfl rfl, tm3 54 rfl rfl, tm1 5 rfl rfl, tm3 55 rfl rfl, by decide, by decide, by decide, by decide +kernel⟩
abbrev b_M_result : ByteArray := prog_6_method_32_code
abbrev y_M_result : MethodName := { cls := "GoalScannerModel", name := "result", desc := "(I)J" }
theorem cw_M_result : CWV y_M_result b_M_result 2 (some .long) 1 := ⟨tm3 57 rfl rfl, tm3 58 rfl rfl, tm1 5 rfl rfl, tm3 59 rfl rfl, by decide, by decide, by decide, by decide +kernel⟩
abbrev b_M_none : ByteArray := prog_6_method_31_code
abbrev y_M_none : MethodName := { cls := "GoalScannerModel", name := "none", desc := "(I)Z" }
theorem cw_M_none : CWV y_M_none b_M_none 2 (some .boolean) 1 := ⟨tm3 62 rfl rfl, tm0 46 rfl rfl, tm1 5 rfl rfl, tm3 63 rfl rfl, by decide, by decide, by decide, by decide +kernel⟩
abbrev b_M_place : ByteArray := prog_6_method_33_code
abbrev y_M_place : MethodName := { cls := "GoalScannerModel", name := "place", desc := "(I)I" }
theorem cw_M_place : CWV y_M_place b_M_place 2 (some .int) 1 := ⟨tm3 66 rfl rfl, tm3 67 rfl rfl, tm1 5 rfl rfl, tm3 68 rfl rfl, by decide, by decide, by decide, by decide +kernel⟩
abbrev b_M_variable : ByteArray := prog_6_method_34_code
abbrev y_M_variable : MethodName := { cls := "GoalScannerModel", name := "variable", desc := "(II)J" }
theorem cw_M_variable : CWV y_M_variable b_M_variable 3 (some .long) 2 := ⟨tm3 70 rfl rfl, tm3 71 rfl rfl, tm1 5 rfl rfl, tm3 72 rfl rfl, by decide, by decide, by decide, by decide +kernel⟩
abbrev b_M_bound : ByteArray := prog_6_method_35_code
abbrev y_M_bound : MethodName := { cls := "GoalScannerModel", name := "bound", desc := "(I)I" }
theorem cw_M_bound : CWV y_M_bound b_M_bound 2 (some .int) 1 := ⟨tm3 74 rfl rfl, tm3 75 rfl rfl, tm1 5 rfl rfl, tm3 76 rfl rfl, by decide, by decide, by decide, by decide +kernel⟩
abbrev b_M_level : ByteArray := prog_6_method_36_code
abbrev y_M_level : MethodName := { cls := "GoalScannerModel", name := "level", desc := "(I)I" }
theorem cw_M_level : CWV y_M_level b_M_level 2 (some .int) 1 := ⟨tm3 78 rfl rfl, tm3 79 rfl rfl, tm1 5 rfl rfl, tm3 80 rfl rfl, by decide, by decide, by decide, by decide +kernel⟩
abbrev b_M_used : ByteArray := prog_6_method_37_code
abbrev y_M_used : MethodName := { cls := "GoalScannerModel", name := "used", desc := "(I)Z" }
theorem cw_M_used : CWV y_M_used b_M_used 2 (some .boolean) 1 := ⟨tm3 82 rfl rfl, tm3 83 rfl rfl, tm1 5 rfl rfl, tm3 84 rfl rfl, by decide, by decide, by decide, by decide +kernel⟩
abbrev b_M_count : ByteArray := prog_6_method_38_code
abbrev y_M_count : MethodName := { cls := "GoalScannerModel", name := "count", desc := "(I)I" }
theorem cw_M_count : CWV y_M_count b_M_count 2 (some .int) 1 := ⟨tm3 86 rfl rfl, tm3 87 rfl rfl, tm1 5 rfl rfl, tm3 88 rfl rfl, by decide, by decide, by decide, by decide +kernel⟩
