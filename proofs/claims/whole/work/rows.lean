section
-- ===== PART A: goes FIRST, ahead of the names: the tables' words, and 'selects' of the private methods out of them =====
/-- a private method of a class that the tables say can be made, by its rows of tables_1 -/
def lw_okq (q : MethodName × Nat) : Prop := (q.1.cls ≠ "java/lang/invoke/MethodHandle" ∧ q.1.cls ≠ "java/lang/invoke/VarHandle") ∧ Cond.instantiable q.1.cls q.2 ∈ tables_1 ∧ Cond.privateMethod q.1 ∈ tables_1 ∧ Cond.instanceMethod q.1 ∈ tables_1
theorem lw_p0 : lw_okq (⟨"GoalScanner", "areNodeOperandsFit", "(IIII)Z"⟩, 6) := ⟨⟨by decide +kernel, by decide +kernel⟩, List.mem_of_getElem? (i := 9) (by decide +kernel), List.mem_of_getElem? (i := 133) (by decide +kernel), List.mem_of_getElem? (i := 134) (by decide +kernel)⟩
theorem lw_p1 : lw_okq (⟨"GoalScanner", "isFree", "(I)Z"⟩, 6) := ⟨⟨by decide +kernel, by decide +kernel⟩, List.mem_of_getElem? (i := 9) (by decide +kernel), List.mem_of_getElem? (i := 137) (by decide +kernel), List.mem_of_getElem? (i := 138) (by decide +kernel)⟩
theorem lw_p2 : lw_okq (⟨"GoalScanner", "isNode", "(I)Z"⟩, 6) := ⟨⟨by decide +kernel, by decide +kernel⟩, List.mem_of_getElem? (i := 9) (by decide +kernel), List.mem_of_getElem? (i := 141) (by decide +kernel), List.mem_of_getElem? (i := 142) (by decide +kernel)⟩
theorem lw_p3 : lw_okq (⟨"GoalScanner", "boundOf", "(LGoalScanner$Node;)I"⟩, 6) := ⟨⟨by decide +kernel, by decide +kernel⟩, List.mem_of_getElem? (i := 9) (by decide +kernel), List.mem_of_getElem? (i := 149) (by decide +kernel), List.mem_of_getElem? (i := 150) (by decide +kernel)⟩
theorem lw_p4 : lw_okq (⟨"GoalScanner", "workOf", "(LGoalScanner$Node;)I"⟩, 6) := ⟨⟨by decide +kernel, by decide +kernel⟩, List.mem_of_getElem? (i := 9) (by decide +kernel), List.mem_of_getElem? (i := 159) (by decide +kernel), List.mem_of_getElem? (i := 160) (by decide +kernel)⟩
theorem lw_p5 : lw_okq (⟨"GoalScanner", "workOfPairs", "(LGoalScanner$Node;)I"⟩, 6) := ⟨⟨by decide +kernel, by decide +kernel⟩, List.mem_of_getElem? (i := 9) (by decide +kernel), List.mem_of_getElem? (i := 163) (by decide +kernel), List.mem_of_getElem? (i := 164) (by decide +kernel)⟩
theorem lw_p6 : lw_okq (⟨"GoalScanner", "levelOf", "(LGoalScanner$Node;)I"⟩, 6) := ⟨⟨by decide +kernel, by decide +kernel⟩, List.mem_of_getElem? (i := 9) (by decide +kernel), List.mem_of_getElem? (i := 167) (by decide +kernel), List.mem_of_getElem? (i := 168) (by decide +kernel)⟩
theorem lw_p7 : lw_okq (⟨"GoalScanner", "useOperands", "(LGoalScanner$Node;)V"⟩, 6) := ⟨⟨by decide +kernel, by decide +kernel⟩, List.mem_of_getElem? (i := 9) (by decide +kernel), List.mem_of_getElem? (i := 171) (by decide +kernel), List.mem_of_getElem? (i := 172) (by decide +kernel)⟩
theorem lw_p8 : lw_okq (⟨"GoalScanner", "keepResults", "(II)I"⟩, 6) := ⟨⟨by decide +kernel, by decide +kernel⟩, List.mem_of_getElem? (i := 9) (by decide +kernel), List.mem_of_getElem? (i := 183) (by decide +kernel), List.mem_of_getElem? (i := 184) (by decide +kernel)⟩
theorem lw_p9 : lw_okq (⟨"GoalScanner", "solve", "(II)V"⟩, 6) := ⟨⟨by decide +kernel, by decide +kernel⟩, List.mem_of_getElem? (i := 9) (by decide +kernel), List.mem_of_getElem? (i := 187) (by decide +kernel), List.mem_of_getElem? (i := 188) (by decide +kernel)⟩
theorem lw_p10 : lw_okq (⟨"GoalScanner", "solveOne", "(II)V"⟩, 6) := ⟨⟨by decide +kernel, by decide +kernel⟩, List.mem_of_getElem? (i := 9) (by decide +kernel), List.mem_of_getElem? (i := 210) (by decide +kernel), List.mem_of_getElem? (i := 211) (by decide +kernel)⟩
theorem lw_p11 : lw_okq (⟨"GoalScanner", "solveRun", "(II)V"⟩, 6) := ⟨⟨by decide +kernel, by decide +kernel⟩, List.mem_of_getElem? (i := 9) (by decide +kernel), List.mem_of_getElem? (i := 232) (by decide +kernel), List.mem_of_getElem? (i := 233) (by decide +kernel)⟩
theorem lw_p12 : lw_okq (⟨"GoalScanner", "solveValue", "(I)V"⟩, 6) := ⟨⟨by decide +kernel, by decide +kernel⟩, List.mem_of_getElem? (i := 9) (by decide +kernel), List.mem_of_getElem? (i := 241) (by decide +kernel), List.mem_of_getElem? (i := 242) (by decide +kernel)⟩
theorem lw_p13 : lw_okq (⟨"GoalScanner", "solveSeek", "(II)V"⟩, 6) := ⟨⟨by decide +kernel, by decide +kernel⟩, List.mem_of_getElem? (i := 9) (by decide +kernel), List.mem_of_getElem? (i := 249) (by decide +kernel), List.mem_of_getElem? (i := 250) (by decide +kernel)⟩
theorem lw_p14 : lw_okq (⟨"GoalScanner", "solveGo", "(LGoalScanner$Node;I)V"⟩, 6) := ⟨⟨by decide +kernel, by decide +kernel⟩, List.mem_of_getElem? (i := 9) (by decide +kernel), List.mem_of_getElem? (i := 253) (by decide +kernel), List.mem_of_getElem? (i := 254) (by decide +kernel)⟩
theorem lw_p15 : lw_okq (⟨"GoalScanner", "solveSet", "(LGoalScanner$Node;I)V"⟩, 6) := ⟨⟨by decide +kernel, by decide +kernel⟩, List.mem_of_getElem? (i := 9) (by decide +kernel), List.mem_of_getElem? (i := 265) (by decide +kernel), List.mem_of_getElem? (i := 266) (by decide +kernel)⟩
def lw_privs_1 : List (MethodName × Nat) := [(⟨"GoalScanner", "areNodeOperandsFit", "(IIII)Z"⟩, 6), (⟨"GoalScanner", "isFree", "(I)Z"⟩, 6), (⟨"GoalScanner", "isNode", "(I)Z"⟩, 6), (⟨"GoalScanner", "boundOf", "(LGoalScanner$Node;)I"⟩, 6), (⟨"GoalScanner", "workOf", "(LGoalScanner$Node;)I"⟩, 6), (⟨"GoalScanner", "workOfPairs", "(LGoalScanner$Node;)I"⟩, 6), (⟨"GoalScanner", "levelOf", "(LGoalScanner$Node;)I"⟩, 6), (⟨"GoalScanner", "useOperands", "(LGoalScanner$Node;)V"⟩, 6), (⟨"GoalScanner", "keepResults", "(II)I"⟩, 6), (⟨"GoalScanner", "solve", "(II)V"⟩, 6), (⟨"GoalScanner", "solveOne", "(II)V"⟩, 6), (⟨"GoalScanner", "solveRun", "(II)V"⟩, 6), (⟨"GoalScanner", "solveValue", "(I)V"⟩, 6), (⟨"GoalScanner", "solveSeek", "(II)V"⟩, 6), (⟨"GoalScanner", "solveGo", "(LGoalScanner$Node;I)V"⟩, 6), (⟨"GoalScanner", "solveSet", "(LGoalScanner$Node;I)V"⟩, 6)]
theorem lw_r1 : ∀ q ∈ lw_privs_1, lw_okq q := List.forall_mem_cons.mpr ⟨lw_p0, List.forall_mem_cons.mpr ⟨lw_p1, List.forall_mem_cons.mpr ⟨lw_p2, List.forall_mem_cons.mpr ⟨lw_p3, List.forall_mem_cons.mpr ⟨lw_p4, List.forall_mem_cons.mpr ⟨lw_p5, List.forall_mem_cons.mpr ⟨lw_p6, List.forall_mem_cons.mpr ⟨lw_p7, List.forall_mem_cons.mpr ⟨lw_p8, List.forall_mem_cons.mpr ⟨lw_p9, List.forall_mem_cons.mpr ⟨lw_p10, List.forall_mem_cons.mpr ⟨lw_p11, List.forall_mem_cons.mpr ⟨lw_p12, List.forall_mem_cons.mpr ⟨lw_p13, List.forall_mem_cons.mpr ⟨lw_p14, List.forall_mem_cons.mpr ⟨lw_p15, fun _ h => absurd h List.not_mem_nil⟩⟩⟩⟩⟩⟩⟩⟩⟩⟩⟩⟩⟩⟩⟩⟩
theorem lw_p16 : lw_okq (⟨"GoalScanner", "solveFirst", "(LGoalScanner$Node;I)V"⟩, 6) := ⟨⟨by decide +kernel, by decide +kernel⟩, List.mem_of_getElem? (i := 9) (by decide +kernel), List.mem_of_getElem? (i := 273) (by decide +kernel), List.mem_of_getElem? (i := 274) (by decide +kernel)⟩
theorem lw_p17 : lw_okq (⟨"GoalScanner", "solveIf", "(LGoalScanner$Node;I)V"⟩, 6) := ⟨⟨by decide +kernel, by decide +kernel⟩, List.mem_of_getElem? (i := 9) (by decide +kernel), List.mem_of_getElem? (i := 277) (by decide +kernel), List.mem_of_getElem? (i := 278) (by decide +kernel)⟩
theorem lw_p18 : lw_okq (⟨"GoalScanner", "solveNot", "(LGoalScanner$Node;I)V"⟩, 6) := ⟨⟨by decide +kernel, by decide +kernel⟩, List.mem_of_getElem? (i := 9) (by decide +kernel), List.mem_of_getElem? (i := 281) (by decide +kernel), List.mem_of_getElem? (i := 282) (by decide +kernel)⟩
theorem lw_p19 : lw_okq (⟨"GoalScanner", "solveMost", "(LGoalScanner$Node;I)V"⟩, 6) := ⟨⟨by decide +kernel, by decide +kernel⟩, List.mem_of_getElem? (i := 9) (by decide +kernel), List.mem_of_getElem? (i := 285) (by decide +kernel), List.mem_of_getElem? (i := 286) (by decide +kernel)⟩
theorem lw_p20 : lw_okq (⟨"GoalScanner", "solvePairs", "(LGoalScanner$Node;I)V"⟩, 6) := ⟨⟨by decide +kernel, by decide +kernel⟩, List.mem_of_getElem? (i := 9) (by decide +kernel), List.mem_of_getElem? (i := 290) (by decide +kernel), List.mem_of_getElem? (i := 291) (by decide +kernel)⟩
theorem lw_p21 : lw_okq (⟨"GoalScanner", "pushPair", "(III)V"⟩, 6) := ⟨⟨by decide +kernel, by decide +kernel⟩, List.mem_of_getElem? (i := 9) (by decide +kernel), List.mem_of_getElem? (i := 294) (by decide +kernel), List.mem_of_getElem? (i := 295) (by decide +kernel)⟩
theorem lw_p22 : lw_okq (⟨"GoalScanner", "pushSeries", "(III)V"⟩, 6) := ⟨⟨by decide +kernel, by decide +kernel⟩, List.mem_of_getElem? (i := 9) (by decide +kernel), List.mem_of_getElem? (i := 298) (by decide +kernel), List.mem_of_getElem? (i := 299) (by decide +kernel)⟩
theorem lw_p23 : lw_okq (⟨"GoalScannerModel", "fits", "(IIII)Z"⟩, 20) := ⟨⟨by decide +kernel, by decide +kernel⟩, List.mem_of_getElem? (i := 353) (by decide +kernel), List.mem_of_getElem? (i := 433) (by decide +kernel), List.mem_of_getElem? (i := 434) (by decide +kernel)⟩
theorem lw_p24 : lw_okq (⟨"GoalScannerModel", "sort", "(I)Z"⟩, 20) := ⟨⟨by decide +kernel, by decide +kernel⟩, List.mem_of_getElem? (i := 353) (by decide +kernel), List.mem_of_getElem? (i := 437) (by decide +kernel), List.mem_of_getElem? (i := 438) (by decide +kernel)⟩
theorem lw_p25 : lw_okq (⟨"GoalScannerModel", "free", "(I)Z"⟩, 20) := ⟨⟨by decide +kernel, by decide +kernel⟩, List.mem_of_getElem? (i := 353) (by decide +kernel), List.mem_of_getElem? (i := 441) (by decide +kernel), List.mem_of_getElem? (i := 442) (by decide +kernel)⟩
theorem lw_p26 : lw_okq (⟨"GoalScannerModel", "boundOf", "(IIII)I"⟩, 20) := ⟨⟨by decide +kernel, by decide +kernel⟩, List.mem_of_getElem? (i := 353) (by decide +kernel), List.mem_of_getElem? (i := 445) (by decide +kernel), List.mem_of_getElem? (i := 446) (by decide +kernel)⟩
theorem lw_p27 : lw_okq (⟨"GoalScannerModel", "namesA", "(I)Z"⟩, 20) := ⟨⟨by decide +kernel, by decide +kernel⟩, List.mem_of_getElem? (i := 353) (by decide +kernel), List.mem_of_getElem? (i := 449) (by decide +kernel), List.mem_of_getElem? (i := 450) (by decide +kernel)⟩
theorem lw_p28 : lw_okq (⟨"GoalScannerModel", "higher", "(IZI)I"⟩, 20) := ⟨⟨by decide +kernel, by decide +kernel⟩, List.mem_of_getElem? (i := 353) (by decide +kernel), List.mem_of_getElem? (i := 453) (by decide +kernel), List.mem_of_getElem? (i := 454) (by decide +kernel)⟩
theorem lw_p29 : lw_okq (⟨"GoalScannerModel", "namesB", "(I)Z"⟩, 20) := ⟨⟨by decide +kernel, by decide +kernel⟩, List.mem_of_getElem? (i := 353) (by decide +kernel), List.mem_of_getElem? (i := 457) (by decide +kernel), List.mem_of_getElem? (i := 458) (by decide +kernel)⟩
theorem lw_p30 : lw_okq (⟨"GoalScannerModel", "workOf", "(IIII)I"⟩, 20) := ⟨⟨by decide +kernel, by decide +kernel⟩, List.mem_of_getElem? (i := 353) (by decide +kernel), List.mem_of_getElem? (i := 461) (by decide +kernel), List.mem_of_getElem? (i := 462) (by decide +kernel)⟩
theorem lw_p31 : lw_okq (⟨"GoalScannerModel", "work", "(I)V"⟩, 20) := ⟨⟨by decide +kernel, by decide +kernel⟩, List.mem_of_getElem? (i := 353) (by decide +kernel), List.mem_of_getElem? (i := 473) (by decide +kernel), List.mem_of_getElem? (i := 474) (by decide +kernel)⟩
def lw_privs_2 : List (MethodName × Nat) := [(⟨"GoalScanner", "solveFirst", "(LGoalScanner$Node;I)V"⟩, 6), (⟨"GoalScanner", "solveIf", "(LGoalScanner$Node;I)V"⟩, 6), (⟨"GoalScanner", "solveNot", "(LGoalScanner$Node;I)V"⟩, 6), (⟨"GoalScanner", "solveMost", "(LGoalScanner$Node;I)V"⟩, 6), (⟨"GoalScanner", "solvePairs", "(LGoalScanner$Node;I)V"⟩, 6), (⟨"GoalScanner", "pushPair", "(III)V"⟩, 6), (⟨"GoalScanner", "pushSeries", "(III)V"⟩, 6), (⟨"GoalScannerModel", "fits", "(IIII)Z"⟩, 20), (⟨"GoalScannerModel", "sort", "(I)Z"⟩, 20), (⟨"GoalScannerModel", "free", "(I)Z"⟩, 20), (⟨"GoalScannerModel", "boundOf", "(IIII)I"⟩, 20), (⟨"GoalScannerModel", "namesA", "(I)Z"⟩, 20), (⟨"GoalScannerModel", "higher", "(IZI)I"⟩, 20), (⟨"GoalScannerModel", "namesB", "(I)Z"⟩, 20), (⟨"GoalScannerModel", "workOf", "(IIII)I"⟩, 20), (⟨"GoalScannerModel", "work", "(I)V"⟩, 20)]
theorem lw_r2 : ∀ q ∈ lw_privs_2, lw_okq q := List.forall_mem_cons.mpr ⟨lw_p16, List.forall_mem_cons.mpr ⟨lw_p17, List.forall_mem_cons.mpr ⟨lw_p18, List.forall_mem_cons.mpr ⟨lw_p19, List.forall_mem_cons.mpr ⟨lw_p20, List.forall_mem_cons.mpr ⟨lw_p21, List.forall_mem_cons.mpr ⟨lw_p22, List.forall_mem_cons.mpr ⟨lw_p23, List.forall_mem_cons.mpr ⟨lw_p24, List.forall_mem_cons.mpr ⟨lw_p25, List.forall_mem_cons.mpr ⟨lw_p26, List.forall_mem_cons.mpr ⟨lw_p27, List.forall_mem_cons.mpr ⟨lw_p28, List.forall_mem_cons.mpr ⟨lw_p29, List.forall_mem_cons.mpr ⟨lw_p30, List.forall_mem_cons.mpr ⟨lw_p31, fun _ h => absurd h List.not_mem_nil⟩⟩⟩⟩⟩⟩⟩⟩⟩⟩⟩⟩⟩⟩⟩⟩
theorem lw_p32 : lw_okq (⟨"GoalScannerModel", "begin", "(II)V"⟩, 20) := ⟨⟨by decide +kernel, by decide +kernel⟩, List.mem_of_getElem? (i := 353) (by decide +kernel), List.mem_of_getElem? (i := 477) (by decide +kernel), List.mem_of_getElem? (i := 478) (by decide +kernel)⟩
theorem lw_p33 : lw_okq (⟨"GoalScannerModel", "leaf", "(II)V"⟩, 20) := ⟨⟨by decide +kernel, by decide +kernel⟩, List.mem_of_getElem? (i := 353) (by decide +kernel), List.mem_of_getElem? (i := 481) (by decide +kernel), List.mem_of_getElem? (i := 482) (by decide +kernel)⟩
theorem lw_p34 : lw_okq (⟨"GoalScannerModel", "stay", "(II)V"⟩, 20) := ⟨⟨by decide +kernel, by decide +kernel⟩, List.mem_of_getElem? (i := 353) (by decide +kernel), List.mem_of_getElem? (i := 485) (by decide +kernel), List.mem_of_getElem? (i := 486) (by decide +kernel)⟩
theorem lw_p35 : lw_okq (⟨"GoalScannerModel", "isOf", "(II)Z"⟩, 20) := ⟨⟨by decide +kernel, by decide +kernel⟩, List.mem_of_getElem? (i := 353) (by decide +kernel), List.mem_of_getElem? (i := 489) (by decide +kernel), List.mem_of_getElem? (i := 490) (by decide +kernel)⟩
theorem lw_p36 : lw_okq (⟨"GoalScannerModel", "runFrom", "(III)I"⟩, 20) := ⟨⟨by decide +kernel, by decide +kernel⟩, List.mem_of_getElem? (i := 353) (by decide +kernel), List.mem_of_getElem? (i := 493) (by decide +kernel), List.mem_of_getElem? (i := 494) (by decide +kernel)⟩
theorem lw_p37 : lw_okq (⟨"GoalScannerModel", "stepOr", "(I)V"⟩, 20) := ⟨⟨by decide +kernel, by decide +kernel⟩, List.mem_of_getElem? (i := 353) (by decide +kernel), List.mem_of_getElem? (i := 497) (by decide +kernel), List.mem_of_getElem? (i := 498) (by decide +kernel)⟩
theorem lw_p38 : lw_okq (⟨"GoalScannerModel", "giveAll", "()V"⟩, 20) := ⟨⟨by decide +kernel, by decide +kernel⟩, List.mem_of_getElem? (i := 353) (by decide +kernel), List.mem_of_getElem? (i := 501) (by decide +kernel), List.mem_of_getElem? (i := 502) (by decide +kernel)⟩
theorem lw_p39 : lw_okq (⟨"GoalScannerModel", "operand", "(I)I"⟩, 20) := ⟨⟨by decide +kernel, by decide +kernel⟩, List.mem_of_getElem? (i := 353) (by decide +kernel), List.mem_of_getElem? (i := 505) (by decide +kernel), List.mem_of_getElem? (i := 506) (by decide +kernel)⟩
theorem lw_p40 : lw_okq (⟨"GoalScannerModel", "give", "(II)V"⟩, 20) := ⟨⟨by decide +kernel, by decide +kernel⟩, List.mem_of_getElem? (i := 353) (by decide +kernel), List.mem_of_getElem? (i := 509) (by decide +kernel), List.mem_of_getElem? (i := 510) (by decide +kernel)⟩
theorem lw_p41 : lw_okq (⟨"GoalScannerModel", "stepIf", "(I)V"⟩, 20) := ⟨⟨by decide +kernel, by decide +kernel⟩, List.mem_of_getElem? (i := 353) (by decide +kernel), List.mem_of_getElem? (i := 513) (by decide +kernel), List.mem_of_getElem? (i := 514) (by decide +kernel)⟩
theorem lw_p42 : lw_okq (⟨"GoalScannerModel", "stepPairs", "(II)V"⟩, 20) := ⟨⟨by decide +kernel, by decide +kernel⟩, List.mem_of_getElem? (i := 353) (by decide +kernel), List.mem_of_getElem? (i := 517) (by decide +kernel), List.mem_of_getElem? (i := 518) (by decide +kernel)⟩
theorem lw_p43 : lw_okq (⟨"GoalScannerModel", "pair", "(III)V"⟩, 20) := ⟨⟨by decide +kernel, by decide +kernel⟩, List.mem_of_getElem? (i := 353) (by decide +kernel), List.mem_of_getElem? (i := 521) (by decide +kernel), List.mem_of_getElem? (i := 522) (by decide +kernel)⟩
theorem lw_p44 : lw_okq (⟨"GoalScannerModel", "stepOne", "(II)V"⟩, 20) := ⟨⟨by decide +kernel, by decide +kernel⟩, List.mem_of_getElem? (i := 353) (by decide +kernel), List.mem_of_getElem? (i := 526) (by decide +kernel), List.mem_of_getElem? (i := 527) (by decide +kernel)⟩
theorem lw_p45 : lw_okq (⟨"GoalScannerModel", "keep", "(I)I"⟩, 20) := ⟨⟨by decide +kernel, by decide +kernel⟩, List.mem_of_getElem? (i := 353) (by decide +kernel), List.mem_of_getElem? (i := 530) (by decide +kernel), List.mem_of_getElem? (i := 531) (by decide +kernel)⟩
theorem lw_p46 : lw_okq (⟨"GoalScannerModel", "none", "(I)Z"⟩, 20) := ⟨⟨by decide +kernel, by decide +kernel⟩, List.mem_of_getElem? (i := 353) (by decide +kernel), List.mem_of_getElem? (i := 542) (by decide +kernel), List.mem_of_getElem? (i := 543) (by decide +kernel)⟩
def lw_privs_3 : List (MethodName × Nat) := [(⟨"GoalScannerModel", "begin", "(II)V"⟩, 20), (⟨"GoalScannerModel", "leaf", "(II)V"⟩, 20), (⟨"GoalScannerModel", "stay", "(II)V"⟩, 20), (⟨"GoalScannerModel", "isOf", "(II)Z"⟩, 20), (⟨"GoalScannerModel", "runFrom", "(III)I"⟩, 20), (⟨"GoalScannerModel", "stepOr", "(I)V"⟩, 20), (⟨"GoalScannerModel", "giveAll", "()V"⟩, 20), (⟨"GoalScannerModel", "operand", "(I)I"⟩, 20), (⟨"GoalScannerModel", "give", "(II)V"⟩, 20), (⟨"GoalScannerModel", "stepIf", "(I)V"⟩, 20), (⟨"GoalScannerModel", "stepPairs", "(II)V"⟩, 20), (⟨"GoalScannerModel", "pair", "(III)V"⟩, 20), (⟨"GoalScannerModel", "stepOne", "(II)V"⟩, 20), (⟨"GoalScannerModel", "keep", "(I)I"⟩, 20), (⟨"GoalScannerModel", "none", "(I)Z"⟩, 20)]
theorem lw_r3 : ∀ q ∈ lw_privs_3, lw_okq q := List.forall_mem_cons.mpr ⟨lw_p32, List.forall_mem_cons.mpr ⟨lw_p33, List.forall_mem_cons.mpr ⟨lw_p34, List.forall_mem_cons.mpr ⟨lw_p35, List.forall_mem_cons.mpr ⟨lw_p36, List.forall_mem_cons.mpr ⟨lw_p37, List.forall_mem_cons.mpr ⟨lw_p38, List.forall_mem_cons.mpr ⟨lw_p39, List.forall_mem_cons.mpr ⟨lw_p40, List.forall_mem_cons.mpr ⟨lw_p41, List.forall_mem_cons.mpr ⟨lw_p42, List.forall_mem_cons.mpr ⟨lw_p43, List.forall_mem_cons.mpr ⟨lw_p44, List.forall_mem_cons.mpr ⟨lw_p45, List.forall_mem_cons.mpr ⟨lw_p46, fun _ h => absurd h List.not_mem_nil⟩⟩⟩⟩⟩⟩⟩⟩⟩⟩⟩⟩⟩⟩⟩
def lw_privs : List (MethodName × Nat) := lw_privs_1 ++ (lw_privs_2 ++ (lw_privs_3))
def lw_tbl : List Cond := k2_sels lw_privs ++ tables_1
theorem lw_privs_ok : ∀ q ∈ lw_privs, lw_okq q := by
  show ∀ q ∈ lw_privs_1 ++ (lw_privs_2 ++ (lw_privs_3)), lw_okq q
  exact List.forall_mem_append.mpr ⟨lw_r1, List.forall_mem_append.mpr ⟨lw_r2, lw_r3⟩⟩

/-- the words that the walks use: those of the tables that last -/
def TB : List Cond := lw_tbl.filter goodWord
theorem tb_good : ∀ w ∈ TB, (w.onTables && w.keeps) = true ∨ ∃ ty, w = .arrayClass ty := fun w h => good_of_word (List.mem_filter.mp h).2
theorem tm0 {w : Cond} (i : Nat) (h : (k2_sels lw_privs)[i]? = some w) (hg : goodWord w = true) : w ∈ TB := List.mem_filter.mpr ⟨List.mem_append_left _ (List.mem_of_getElem? h), hg⟩
theorem tm1 {w : Cond} (i : Nat) (h : tables_1_1[i]? = some w) (hg : goodWord w = true) : w ∈ TB := List.mem_filter.mpr ⟨List.mem_append_right _ (List.mem_append_left _ (List.mem_of_getElem? h)), hg⟩
theorem tm2 {w : Cond} (i : Nat) (h : tables_1_2[i]? = some w) (hg : goodWord w = true) : w ∈ TB := List.mem_filter.mpr ⟨List.mem_append_right _ (List.mem_append_right _ (List.mem_append_left _ (List.mem_of_getElem? h))), hg⟩
theorem tm3 {w : Cond} (i : Nat) (h : tables_1_3[i]? = some w) (hg : goodWord w = true) : w ∈ TB := List.mem_filter.mpr ⟨List.mem_append_right _ (List.mem_append_right _ (List.mem_append_right _ (List.mem_of_getElem? h))), hg⟩
/-- what the tables say of a method that is called on an object, of a static one -/
def CWV (y : MethodName) (cc : ByteArray) (nL : Nat) (ret : Option FieldType) (n : Nat) : Prop := Cond.instanceMethod y ∈ TB ∧ Cond.selects y.cls y y ∈ TB ∧ Cond.initialized y.cls ∈ TB ∧ Cond.code y cc nL ret ∈ TB ∧ nL ≤ 21 ∧ (y.cls ≠ "java/lang/invoke/MethodHandle" ∧ y.cls ≠ "java/lang/invoke/VarHandle" ∧ (parseMethodDescriptor y.desc).map (fun d => d.parameters.length) = some n)
def CWS (y : MethodName) (cc : ByteArray) (nL : Nat) (ret : Option FieldType) (n : Nat) : Prop := Cond.static y ∈ TB ∧ Cond.initialized y.cls ∈ TB ∧ Cond.code y cc nL ret ∈ TB ∧ nL ≤ 21 ∧ (y.cls ≠ "java/lang/invoke/MethodHandle" ∧ y.cls ≠ "java/lang/invoke/VarHandle" ∧ (parseMethodDescriptor y.desc).map (fun d => d.parameters.length) = some n)
def R_N : String := "GoalScanner$Node"
def F_N : u_T := fun k => match k with
  | 0 => ("GoalScanner$Node", "kind", "I", false)
  | 1 => ("GoalScanner$Node", "a", "I", false)
  | 2 => ("GoalScanner$Node", "b", "I", false)
  | 3 => ("GoalScanner$Node", "c", "I", false)
  | 4 => ("GoalScanner$Node", "bound", "I", false)
  | 5 => ("GoalScanner$Node", "work", "I", false)
  | 6 => ("GoalScanner$Node", "level", "I", false)
  | _ => ("GoalScanner$Node", "used", "Z", false)
def ft_N : Nat → FieldType := fun k => match k with
  | 0 => .int
  | 1 => .int
  | 2 => .int
  | 3 => .int
  | 4 => .int
  | 5 => .int
  | 6 => .int
  | _ => .boolean
theorem fn_N : ∀ a, a < 8 → ∀ b, b < 8 → a ≠ b → (F_N a).2.1 ≠ (F_N b).2.1 := by decide +kernel
theorem ft_N_ok : ∀ k, k < 8 → parseFieldDescriptor (F_N k).2.2.1 = some (ft_N k) := by decide +kernel
theorem fi_N : ∀ w ∈ u_ws R_N F_N 8, w ∈ TB := by
  intro w hw
  obtain ⟨k, hk, rfl⟩ := List.mem_map.mp hw
  have hk := List.mem_range.mp hk
  match k, hk with
  | 0, _ => exact tm1 52 rfl rfl
  | 1, _ => exact tm1 54 rfl rfl
  | 2, _ => exact tm1 56 rfl rfl
  | 3, _ => exact tm1 58 rfl rfl
  | 4, _ => exact tm1 60 rfl rfl
  | 5, _ => exact tm1 62 rfl rfl
  | 6, _ => exact tm1 64 rfl rfl
  | 7, _ => exact tm1 66 rfl rfl
  | k + 8, hk => exact absurd hk (by omega)
def R_R : String := "GoalScanner$Rows"
def F_R : u_T := fun k => match k with
  | 0 => ("GoalScanner$Rows", "cells", "[I", true)
  | 1 => ("GoalScanner$Rows", "limit", "I", true)
  | _ => ("GoalScanner$Rows", "size", "I", false)
def ft_R : Nat → FieldType := fun k => match k with
  | 0 => .array (.int)
  | 1 => .int
  | _ => .int
theorem fn_R : ∀ a, a < 3 → ∀ b, b < 3 → a ≠ b → (F_R a).2.1 ≠ (F_R b).2.1 := by decide +kernel
theorem ft_R_ok : ∀ k, k < 3 → parseFieldDescriptor (F_R k).2.2.1 = some (ft_R k) := by decide +kernel
theorem fi_R : ∀ w ∈ u_ws R_R F_R 3, w ∈ TB := by
  intro w hw
  obtain ⟨k, hk, rfl⟩ := List.mem_map.mp hw
  have hk := List.mem_range.mp hk
  match k, hk with
  | 0, _ => exact tm1 79 rfl rfl
  | 1, _ => exact tm1 81 rfl rfl
  | 2, _ => exact tm1 83 rfl rfl
  | k + 3, hk => exact absurd hk (by omega)
def R_T : String := "GoalScanner$Text"
def F_T : u_T := fun k => match k with
  | 0 => ("GoalScanner$Text", "characters", "[I", true)
  | _ => ("GoalScanner$Text", "length", "I", false)
def ft_T : Nat → FieldType := fun k => match k with
  | 0 => .array (.int)
  | _ => .int
theorem fn_T : ∀ a, a < 2 → ∀ b, b < 2 → a ≠ b → (F_T a).2.1 ≠ (F_T b).2.1 := by decide +kernel
theorem ft_T_ok : ∀ k, k < 2 → parseFieldDescriptor (F_T k).2.2.1 = some (ft_T k) := by decide +kernel
theorem fi_T : ∀ w ∈ u_ws R_T F_T 2, w ∈ TB := by
  intro w hw
  obtain ⟨k, hk, rfl⟩ := List.mem_map.mp hw
  have hk := List.mem_range.mp hk
  match k, hk with
  | 0, _ => exact tm1 26 rfl rfl
  | 1, _ => exact tm1 28 rfl rfl
  | k + 2, hk => exact absurd hk (by omega)
def R_G : String := "GoalScanner"
def F_G : u_T := fun k => match k with
  | 0 => ("GoalScanner", "text", "LGoalScanner$Text;", true)
  | 1 => ("GoalScanner", "nodes", "[LGoalScanner$Node;", true)
  | 2 => ("GoalScanner", "nodeCount", "I", false)
  | 3 => ("GoalScanner", "rows", "LGoalScanner$Rows;", true)
  | 4 => ("GoalScanner", "results", "LGoalScanner$Rows;", true)
  | _ => ("GoalScanner", "resultsTextLength", "I", false)
def ft_G : Nat → FieldType := fun k => match k with
  | 0 => .object "GoalScanner$Text"
  | 1 => .array (.object "GoalScanner$Node")
  | 2 => .int
  | 3 => .object "GoalScanner$Rows"
  | 4 => .object "GoalScanner$Rows"
  | _ => .int
theorem fn_G : ∀ a, a < 6 → ∀ b, b < 6 → a ≠ b → (F_G a).2.1 ≠ (F_G b).2.1 := by decide +kernel
theorem ft_G_ok : ∀ k, k < 6 → parseFieldDescriptor (F_G k).2.2.1 = some (ft_G k) := by decide +kernel
theorem fi_G : ∀ w ∈ u_ws R_G F_G 6, w ∈ TB := by
  intro w hw
  obtain ⟨k, hk, rfl⟩ := List.mem_map.mp hw
  have hk := List.mem_range.mp hk
  match k, hk with
  | 0, _ => exact tm1 92 rfl rfl
  | 1, _ => exact tm1 94 rfl rfl
  | 2, _ => exact tm1 96 rfl rfl
  | 3, _ => exact tm1 98 rfl rfl
  | 4, _ => exact tm1 100 rfl rfl
  | 5, _ => exact tm1 102 rfl rfl
  | k + 6, hk => exact absurd hk (by omega)
def R_M : String := "GoalScannerModel"
def F_M : u_T := fun k => match k with
  | 0 => ("GoalScannerModel", "length", "I", false)
  | 1 => ("GoalScannerModel", "nodes", "I", false)
  | 2 => ("GoalScannerModel", "results", "I", false)
  | 3 => ("GoalScannerModel", "atEnd", "I", false)
  | 4 => ("GoalScannerModel", "text", "[I", true)
  | 5 => ("GoalScannerModel", "kind", "[I", true)
  | 6 => ("GoalScannerModel", "opA", "[I", true)
  | 7 => ("GoalScannerModel", "opB", "[I", true)
  | 8 => ("GoalScannerModel", "opC", "[I", true)
  | 9 => ("GoalScannerModel", "bounds", "[I", true)
  | 10 => ("GoalScannerModel", "levels", "[I", true)
  | 11 => ("GoalScannerModel", "works", "[I", true)
  | 12 => ("GoalScannerModel", "taken", "[Z", true)
  | 13 => ("GoalScannerModel", "row", "[I", true)
  | 14 => ("GoalScannerModel", "size", "[I", true)
  | 15 => ("GoalScannerModel", "deep", "I", false)
  | 16 => ("GoalScannerModel", "node", "[I", true)
  | 17 => ("GoalScannerModel", "phase", "[I", true)
  | 18 => ("GoalScannerModel", "turn", "[I", true)
  | _ => ("GoalScannerModel", "state", "[I", true)
def ft_M : Nat → FieldType := fun k => match k with
  | 0 => .int
  | 1 => .int
  | 2 => .int
  | 3 => .int
  | 4 => .array (.int)
  | 5 => .array (.int)
  | 6 => .array (.int)
  | 7 => .array (.int)
  | 8 => .array (.int)
  | 9 => .array (.int)
  | 10 => .array (.int)
  | 11 => .array (.int)
  | 12 => .array (.boolean)
  | 13 => .array (.int)
  | 14 => .array (.int)
  | 15 => .int
  | 16 => .array (.int)
  | 17 => .array (.int)
  | 18 => .array (.int)
  | _ => .array (.int)
theorem fn_M : ∀ a, a < 20 → ∀ b, b < 20 → a ≠ b → (F_M a).2.1 ≠ (F_M b).2.1 := by decide +kernel
theorem ft_M_ok : ∀ k, k < 20 → parseFieldDescriptor (F_M k).2.2.1 = some (ft_M k) := by decide +kernel
theorem fi_M : ∀ w ∈ u_ws R_M F_M 20, w ∈ TB := by
  intro w hw
  obtain ⟨k, hk, rfl⟩ := List.mem_map.mp hw
  have hk := List.mem_range.mp hk
  match k, hk with
  | 0, _ => exact tm2 138 rfl rfl
  | 1, _ => exact tm2 140 rfl rfl
  | 2, _ => exact tm2 142 rfl rfl
  | 3, _ => exact tm2 144 rfl rfl
  | 4, _ => exact tm2 146 rfl rfl
  | 5, _ => exact tm2 148 rfl rfl
  | 6, _ => exact tm2 150 rfl rfl
  | 7, _ => exact tm2 152 rfl rfl
  | 8, _ => exact tm2 154 rfl rfl
  | 9, _ => exact tm2 156 rfl rfl
  | 10, _ => exact tm2 158 rfl rfl
  | 11, _ => exact tm2 160 rfl rfl
  | 12, _ => exact tm2 162 rfl rfl
  | 13, _ => exact tm2 164 rfl rfl
  | 14, _ => exact tm2 166 rfl rfl
  | 15, _ => exact tm2 168 rfl rfl
  | 16, _ => exact tm2 170 rfl rfl
  | 17, _ => exact tm2 172 rfl rfl
  | 18, _ => exact tm2 174 rfl rfl
  | 19, _ => exact tm2 176 rfl rfl
  | k + 20, hk => exact absurd hk (by omega)
abbrev vwCl : List vw_C := [(R_N, F_N, 8), (R_R, F_R, 3), (R_T, F_T, 2), (R_G, F_G, 6), (R_M, F_M, 20)]
abbrev b_G_init : ByteArray := prog_1_method_1_code
abbrev y_G_init : MethodName := { cls := "GoalScanner", name := "<init>", desc := "()V" }
abbrev b_T_init : ByteArray := prog_4_method_1_code
abbrev y_T_init : MethodName := { cls := "GoalScanner$Text", name := "<init>", desc := "()V" }
abbrev b_N_init : ByteArray := prog_2_method_1_code
abbrev y_N_init : MethodName := { cls := "GoalScanner$Node", name := "<init>", desc := "()V" }
abbrev b_R_init : ByteArray := prog_3_method_1_code
abbrev y_R_init : MethodName := { cls := "GoalScanner$Rows", name := "<init>", desc := "(I)V" }
abbrev b_G_type : ByteArray := prog_1_method_2_code
abbrev y_G_type : MethodName := { cls := "GoalScanner", name := "type", desc := "(I)I" }
theorem cw_G_type : CWV y_G_type b_G_type 2 (some .int) 1 := ⟨tm1 106 rfl rfl, tm1 107 rfl rfl, tm1 1 rfl rfl, tm1 108 rfl rfl, by decide, by decide, by decide, by decide +kernel⟩
abbrev b_T_append : ByteArray := prog_4_method_2_code
abbrev y_T_append : MethodName := { cls := "GoalScanner$Text", name := "append", desc := "(I)V" }
theorem cw_T_append : CWV y_T_append b_T_append 2 none 1 := ⟨tm1 110 rfl rfl, tm1 111 rfl rfl, tm1 2 rfl rfl, tm1 112 rfl rfl, by decide, by decide, by decide, by decide +kernel⟩
abbrev b_G_wipe : ByteArray := prog_1_method_3_code
abbrev y_G_wipe : MethodName := { cls := "GoalScanner", name := "wipe", desc := "()I" }
theorem cw_G_wipe : CWV y_G_wipe b_G_wipe 2 (some .int) 0 := ⟨tm1 114 rfl rfl, tm1 115 rfl rfl, tm1 1 rfl rfl, tm1 116 rfl rfl, by decide, by decide, by decide, by decide +kernel⟩
abbrev b_G_node : ByteArray := prog_1_method_4_code
abbrev y_G_node : MethodName := { cls := "GoalScanner", name := "node", desc := "(IIII)I" }
theorem cw_G_node : CWV y_G_node b_G_node 6 (some .int) 4 := ⟨tm1 118 rfl rfl, tm1 119 rfl rfl, tm1 1 rfl rfl, tm1 120 rfl rfl, by decide, by decide, by decide, by decide +kernel⟩
abbrev b_G_isPlainOperandFit : ByteArray := prog_1_method_19_code
abbrev y_G_isPlainOperandFit : MethodName := { cls := "GoalScanner", name := "isPlainOperandFit", desc := "(II)Z" }
theorem cw_G_isPlainOperandFit : CWS y_G_isPlainOperandFit b_G_isPlainOperandFit 2 (some .boolean) 2 := ⟨tm1 122 rfl rfl, tm1 1 rfl rfl, tm1 123 rfl rfl, by decide, by decide, by decide, by decide +kernel⟩
abbrev b_G_isVariable : ByteArray := prog_1_method_17_code
abbrev y_G_isVariable : MethodName := { cls := "GoalScanner", name := "isVariable", desc := "(I)Z" }
theorem cw_G_isVariable : CWS y_G_isVariable b_G_isVariable 1 (some .boolean) 1 := ⟨tm1 125 rfl rfl, tm1 1 rfl rfl, tm1 126 rfl rfl, by decide, by decide, by decide, by decide +kernel⟩
abbrev b_G_isSort : ByteArray := prog_1_method_18_code
abbrev y_G_isSort : MethodName := { cls := "GoalScanner", name := "isSort", desc := "(I)Z" }
theorem cw_G_isSort : CWS y_G_isSort b_G_isSort 1 (some .boolean) 1 := ⟨tm1 128 rfl rfl, tm1 1 rfl rfl, tm1 129 rfl rfl, by decide, by decide, by decide, by decide +kernel⟩
abbrev b_G_areNodeOperandsFit : ByteArray := prog_1_method_20_code
abbrev y_G_areNodeOperandsFit : MethodName := { cls := "GoalScanner", name := "areNodeOperandsFit", desc := "(IIII)Z" }
theorem cw_G_areNodeOperandsFit : CWV y_G_areNodeOperandsFit b_G_areNodeOperandsFit 9 (some .boolean) 4 := ⟨tm1 134 rfl rfl, tm0 0 rfl rfl, tm1 1 rfl rfl, tm1 135 rfl rfl, by decide, by decide, by decide, by decide +kernel⟩
abbrev b_G_isFree : ByteArray := prog_1_method_16_code
abbrev y_G_isFree : MethodName := { cls := "GoalScanner", name := "isFree", desc := "(I)Z" }
theorem cw_G_isFree : CWV y_G_isFree b_G_isFree 2 (some .boolean) 1 := ⟨tm1 138 rfl rfl, tm0 1 rfl rfl, tm1 1 rfl rfl, tm1 139 rfl rfl, by decide, by decide, by decide, by decide +kernel⟩
abbrev b_G_isNode : ByteArray := prog_1_method_15_code
abbrev y_G_isNode : MethodName := { cls := "GoalScanner", name := "isNode", desc := "(I)Z" }
theorem cw_G_isNode : CWV y_G_isNode b_G_isNode 2 (some .boolean) 1 := ⟨tm1 142 rfl rfl, tm0 2 rfl rfl, tm1 1 rfl rfl, tm1 143 rfl rfl, by decide, by decide, by decide, by decide +kernel⟩
abbrev b_N_fill : ByteArray := prog_2_method_2_code
abbrev y_N_fill : MethodName := { cls := "GoalScanner$Node", name := "fill", desc := "(IIII)V" }
theorem cw_N_fill : CWV y_N_fill b_N_fill 5 none 4 := ⟨tm1 145 rfl rfl, tm1 146 rfl rfl, tm1 3 rfl rfl, tm1 147 rfl rfl, by decide, by decide, by decide, by decide +kernel⟩
abbrev b_G_boundOf : ByteArray := prog_1_method_22_code
abbrev y_G_boundOf : MethodName := { cls := "GoalScanner", name := "boundOf", desc := "(LGoalScanner$Node;)I" }
theorem cw_G_boundOf : CWV y_G_boundOf b_G_boundOf 2 (some .int) 1 := ⟨tm1 150 rfl rfl, tm0 3 rfl rfl, tm1 1 rfl rfl, tm1 151 rfl rfl, by decide, by decide, by decide, by decide +kernel⟩
abbrev b_G_workOf : ByteArray := prog_1_method_23_code
abbrev y_G_workOf : MethodName := { cls := "GoalScanner", name := "workOf", desc := "(LGoalScanner$Node;)I" }
theorem cw_G_workOf : CWV y_G_workOf b_G_workOf 2 (some .int) 1 := ⟨tm1 160 rfl rfl, tm0 4 rfl rfl, tm1 1 rfl rfl, tm1 161 rfl rfl, by decide, by decide, by decide, by decide +kernel⟩
abbrev b_G_workOfPairs : ByteArray := prog_1_method_24_code
abbrev y_G_workOfPairs : MethodName := { cls := "GoalScanner", name := "workOfPairs", desc := "(LGoalScanner$Node;)I" }
theorem cw_G_workOfPairs : CWV y_G_workOfPairs b_G_workOfPairs 2 (some .int) 1 := ⟨tm1 164 rfl rfl, tm0 5 rfl rfl, tm1 1 rfl rfl, tm1 165 rfl rfl, by decide, by decide, by decide, by decide +kernel⟩
abbrev b_G_levelOf : ByteArray := prog_1_method_25_code
abbrev y_G_levelOf : MethodName := { cls := "GoalScanner", name := "levelOf", desc := "(LGoalScanner$Node;)I" }
theorem cw_G_levelOf : CWV y_G_levelOf b_G_levelOf 4 (some .int) 1 := ⟨tm1 168 rfl rfl, tm0 6 rfl rfl, tm1 1 rfl rfl, tm1 169 rfl rfl, by decide, by decide, by decide, by decide +kernel⟩
abbrev b_G_useOperands : ByteArray := prog_1_method_21_code
abbrev y_G_useOperands : MethodName := { cls := "GoalScanner", name := "useOperands", desc := "(LGoalScanner$Node;)V" }
theorem cw_G_useOperands : CWV y_G_useOperands b_G_useOperands 3 none 1 := ⟨tm1 172 rfl rfl, tm0 7 rfl rfl, tm1 1 rfl rfl, tm1 173 rfl rfl, by decide, by decide, by decide, by decide +kernel⟩
abbrev b_G_clear : ByteArray := prog_1_method_5_code
abbrev y_G_clear : MethodName := { cls := "GoalScanner", name := "clear", desc := "()I" }
theorem cw_G_clear : CWV y_G_clear b_G_clear 2 (some .int) 0 := ⟨tm1 175 rfl rfl, tm1 176 rfl rfl, tm1 1 rfl rfl, tm1 177 rfl rfl, by decide, by decide, by decide, by decide +kernel⟩
abbrev b_G_evaluate : ByteArray := prog_1_method_6_code
abbrev y_G_evaluate : MethodName := { cls := "GoalScanner", name := "evaluate", desc := "(I)I" }
theorem cw_G_evaluate : CWV y_G_evaluate b_G_evaluate 2 (some .int) 1 := ⟨tm1 179 rfl rfl, tm1 180 rfl rfl, tm1 1 rfl rfl, tm1 181 rfl rfl, by decide, by decide, by decide, by decide +kernel⟩
abbrev b_G_keepResults : ByteArray := prog_1_method_26_code
abbrev y_G_keepResults : MethodName := { cls := "GoalScanner", name := "keepResults", desc := "(II)I" }
theorem cw_G_keepResults : CWV y_G_keepResults b_G_keepResults 3 (some .int) 2 := ⟨tm1 184 rfl rfl, tm0 8 rfl rfl, tm1 1 rfl rfl, tm1 185 rfl rfl, by decide, by decide, by decide, by decide +kernel⟩
abbrev b_G_solve : ByteArray := prog_1_method_27_code
abbrev y_G_solve : MethodName := { cls := "GoalScanner", name := "solve", desc := "(II)V" }
theorem cw_G_solve : CWV y_G_solve b_G_solve 4 none 2 := ⟨tm1 188 rfl rfl, tm0 9 rfl rfl, tm1 1 rfl rfl, tm1 189 rfl rfl, by decide, by decide, by decide, by decide +kernel⟩
abbrev b_R_push : ByteArray := prog_3_method_7_code
abbrev y_R_push : MethodName := { cls := "GoalScanner$Rows", name := "push", desc := "(II)V" }
theorem cw_R_push : CWV y_R_push b_R_push 3 none 2 := ⟨tm1 191 rfl rfl, tm1 192 rfl rfl, tm1 4 rfl rfl, tm1 193 rfl rfl, by decide, by decide, by decide, by decide +kernel⟩
abbrev b_R_copy : ByteArray := prog_3_method_9_code
abbrev y_R_copy : MethodName := { cls := "GoalScanner$Rows", name := "copy", desc := "(II)V" }
theorem cw_R_copy : CWV y_R_copy b_R_copy 3 none 2 := ⟨tm1 195 rfl rfl, tm1 196 rfl rfl, tm1 4 rfl rfl, tm1 197 rfl rfl, by decide, by decide, by decide, by decide +kernel⟩
abbrev b_R_variableAt : ByteArray := prog_3_method_5_code
abbrev y_R_variableAt : MethodName := { cls := "GoalScanner$Rows", name := "variableAt", desc := "(II)I" }
theorem cw_R_variableAt : CWV y_R_variableAt b_R_variableAt 3 (some .int) 2 := ⟨tm1 202 rfl rfl, tm1 203 rfl rfl, tm1 4 rfl rfl, tm1 204 rfl rfl, by decide, by decide, by decide, by decide +kernel⟩
abbrev b_R_placeAt : ByteArray := prog_3_method_4_code
abbrev y_R_placeAt : MethodName := { cls := "GoalScanner$Rows", name := "placeAt", desc := "(I)I" }
theorem cw_R_placeAt : CWV y_R_placeAt b_R_placeAt 2 (some .int) 1 := ⟨tm1 206 rfl rfl, tm1 207 rfl rfl, tm1 4 rfl rfl, tm1 208 rfl rfl, by decide, by decide, by decide, by decide +kernel⟩
abbrev b_G_solveOne : ByteArray := prog_1_method_28_code
abbrev y_G_solveOne : MethodName := { cls := "GoalScanner", name := "solveOne", desc := "(II)V" }
theorem cw_G_solveOne : CWV y_G_solveOne b_G_solveOne 4 none 2 := ⟨tm1 211 rfl rfl, tm0 10 rfl rfl, tm1 1 rfl rfl, tm1 212 rfl rfl, by decide, by decide, by decide, by decide +kernel⟩
abbrev b_T_isOf : ByteArray := prog_4_method_3_code
abbrev y_T_isOf : MethodName := { cls := "GoalScanner$Text", name := "isOf", desc := "(II)Z" }
theorem cw_T_isOf : CWV y_T_isOf b_T_isOf 3 (some .boolean) 2 := ⟨tm1 214 rfl rfl, tm1 215 rfl rfl, tm1 2 rfl rfl, tm1 216 rfl rfl, by decide, by decide, by decide, by decide +kernel⟩
abbrev b_T_isOfSort : ByteArray := prog_4_method_6_code
abbrev y_T_isOfSort : MethodName := { cls := "GoalScanner$Text", name := "isOfSort", desc := "(II)Z" }
theorem cw_T_isOfSort : CWS y_T_isOfSort b_T_isOfSort 2 (some .boolean) 2 := ⟨tm1 218 rfl rfl, tm1 2 rfl rfl, tm1 219 rfl rfl, by decide, by decide, by decide, by decide +kernel⟩
abbrev b_T_isDigit : ByteArray := prog_4_method_7_code
abbrev y_T_isDigit : MethodName := { cls := "GoalScanner$Text", name := "isDigit", desc := "(I)Z" }
theorem cw_T_isDigit : CWS y_T_isDigit b_T_isDigit 1 (some .boolean) 1 := ⟨tm1 221 rfl rfl, tm1 2 rfl rfl, tm1 222 rfl rfl, by decide, by decide, by decide, by decide +kernel⟩
abbrev b_T_isLetter : ByteArray := prog_4_method_8_code
abbrev y_T_isLetter : MethodName := { cls := "GoalScanner$Text", name := "isLetter", desc := "(I)Z" }
theorem cw_T_isLetter : CWS y_T_isLetter b_T_isLetter 1 (some .boolean) 1 := ⟨tm1 224 rfl rfl, tm1 2 rfl rfl, tm1 225 rfl rfl, by decide, by decide, by decide, by decide +kernel⟩
abbrev b_R_pushAtPlace : ByteArray := prog_3_method_8_code
abbrev y_R_pushAtPlace : MethodName := { cls := "GoalScanner$Rows", name := "pushAtPlace", desc := "(III)V" }
theorem cw_R_pushAtPlace : CWV y_R_pushAtPlace b_R_pushAtPlace 4 none 3 := ⟨tm1 227 rfl rfl, tm1 228 rfl rfl, tm1 4 rfl rfl, tm1 229 rfl rfl, by decide, by decide, by decide, by decide +kernel⟩
abbrev b_G_solveRun : ByteArray := prog_1_method_29_code
abbrev y_G_solveRun : MethodName := { cls := "GoalScanner", name := "solveRun", desc := "(II)V" }
theorem cw_G_solveRun : CWV y_G_solveRun b_G_solveRun 5 none 2 := ⟨tm1 233 rfl rfl, tm0 11 rfl rfl, tm1 1 rfl rfl, tm1 234 rfl rfl, by decide, by decide, by decide, by decide +kernel⟩
abbrev b_T_behindRun : ByteArray := prog_4_method_4_code
abbrev y_T_behindRun : MethodName := { cls := "GoalScanner$Text", name := "behindRun", desc := "(III)I" }
theorem cw_T_behindRun : CWV y_T_behindRun b_T_behindRun 6 (some .int) 3 := ⟨tm1 236 rfl rfl, tm1 237 rfl rfl, tm1 2 rfl rfl, tm1 238 rfl rfl, by decide, by decide, by decide, by decide +kernel⟩
abbrev b_G_solveValue : ByteArray := prog_1_method_30_code
abbrev y_G_solveValue : MethodName := { cls := "GoalScanner", name := "solveValue", desc := "(I)V" }
theorem cw_G_solveValue : CWV y_G_solveValue b_G_solveValue 4 none 1 := ⟨tm2 2 rfl rfl, tm0 12 rfl rfl, tm1 1 rfl rfl, tm2 3 rfl rfl, by decide, by decide, by decide, by decide +kernel⟩
abbrev b_T_decimal : ByteArray := prog_4_method_5_code
abbrev y_T_decimal : MethodName := { cls := "GoalScanner$Text", name := "decimal", desc := "(II)I" }
theorem cw_T_decimal : CWV y_T_decimal b_T_decimal 5 (some .int) 2 := ⟨tm2 5 rfl rfl, tm2 6 rfl rfl, tm1 2 rfl rfl, tm2 7 rfl rfl, by decide, by decide, by decide, by decide +kernel⟩
abbrev b_G_solveSeek : ByteArray := prog_1_method_31_code
abbrev y_G_solveSeek : MethodName := { cls := "GoalScanner", name := "solveSeek", desc := "(II)V" }
theorem cw_G_solveSeek : CWV y_G_solveSeek b_G_solveSeek 5 none 2 := ⟨tm2 10 rfl rfl, tm0 13 rfl rfl, tm1 1 rfl rfl, tm2 11 rfl rfl, by decide, by decide, by decide, by decide +kernel⟩
abbrev b_G_solveGo : ByteArray := prog_1_method_32_code
abbrev y_G_solveGo : MethodName := { cls := "GoalScanner", name := "solveGo", desc := "(LGoalScanner$Node;I)V" }
theorem cw_G_solveGo : CWV y_G_solveGo b_G_solveGo 7 none 2 := ⟨tm2 14 rfl rfl, tm0 14 rfl rfl, tm1 1 rfl rfl, tm2 15 rfl rfl, by decide, by decide, by decide, by decide +kernel⟩
abbrev b_R_intAt : ByteArray := prog_3_method_3_code
abbrev y_R_intAt : MethodName := { cls := "GoalScanner$Rows", name := "intAt", desc := "(I)I" }
theorem cw_R_intAt : CWV y_R_intAt b_R_intAt 2 (some .int) 1 := ⟨tm2 17 rfl rfl, tm2 18 rfl rfl, tm1 4 rfl rfl, tm2 19 rfl rfl, by decide, by decide, by decide, by decide +kernel⟩
abbrev b_R_remove : ByteArray := prog_3_method_10_code
abbrev y_R_remove : MethodName := { cls := "GoalScanner$Rows", name := "remove", desc := "(II)V" }
theorem cw_R_remove : CWV y_R_remove b_R_remove 3 none 2 := ⟨tm2 21 rfl rfl, tm2 22 rfl rfl, tm1 4 rfl rfl, tm2 23 rfl rfl, by decide, by decide, by decide, by decide +kernel⟩
abbrev b_G_solveSet : ByteArray := prog_1_method_33_code
abbrev y_G_solveSet : MethodName := { cls := "GoalScanner", name := "solveSet", desc := "(LGoalScanner$Node;I)V" }
theorem cw_G_solveSet : CWV y_G_solveSet b_G_solveSet 6 none 2 := ⟨tm2 26 rfl rfl, tm0 15 rfl rfl, tm1 1 rfl rfl, tm2 27 rfl rfl, by decide, by decide, by decide, by decide +kernel⟩
abbrev b_R_putVariable : ByteArray := prog_3_method_6_code
abbrev y_R_putVariable : MethodName := { cls := "GoalScanner$Rows", name := "putVariable", desc := "(III)V" }
theorem cw_R_putVariable : CWV y_R_putVariable b_R_putVariable 4 none 3 := ⟨tm2 29 rfl rfl, tm2 30 rfl rfl, tm1 4 rfl rfl, tm2 31 rfl rfl, by decide, by decide, by decide, by decide +kernel⟩
abbrev b_G_solveFirst : ByteArray := prog_1_method_34_code
abbrev y_G_solveFirst : MethodName := { cls := "GoalScanner", name := "solveFirst", desc := "(LGoalScanner$Node;I)V" }
theorem cw_G_solveFirst : CWV y_G_solveFirst b_G_solveFirst 4 none 2 := ⟨tm2 34 rfl rfl, tm0 16 rfl rfl, tm1 1 rfl rfl, tm2 35 rfl rfl, by decide, by decide, by decide, by decide +kernel⟩
abbrev b_G_solveIf : ByteArray := prog_1_method_35_code
abbrev y_G_solveIf : MethodName := { cls := "GoalScanner", name := "solveIf", desc := "(LGoalScanner$Node;I)V" }
theorem cw_G_solveIf : CWV y_G_solveIf b_G_solveIf 4 none 2 := ⟨tm2 38 rfl rfl, tm0 17 rfl rfl, tm1 1 rfl rfl, tm2 39 rfl rfl, by decide, by decide, by decide, by decide +kernel⟩
abbrev b_G_solveNot : ByteArray := prog_1_method_36_code
abbrev y_G_solveNot : MethodName := { cls := "GoalScanner", name := "solveNot", desc := "(LGoalScanner$Node;I)V" }
theorem cw_G_solveNot : CWV y_G_solveNot b_G_solveNot 5 none 2 := ⟨tm2 42 rfl rfl, tm0 18 rfl rfl, tm1 1 rfl rfl, tm2 43 rfl rfl, by decide, by decide, by decide, by decide +kernel⟩
abbrev b_G_solveMost : ByteArray := prog_1_method_37_code
abbrev y_G_solveMost : MethodName := { cls := "GoalScanner", name := "solveMost", desc := "(LGoalScanner$Node;I)V" }
theorem cw_G_solveMost : CWV y_G_solveMost b_G_solveMost 7 none 2 := ⟨tm2 46 rfl rfl, tm0 19 rfl rfl, tm1 1 rfl rfl, tm2 47 rfl rfl, by decide, by decide, by decide, by decide +kernel⟩
abbrev b_G_solvePairs : ByteArray := prog_1_method_38_code
abbrev y_G_solvePairs : MethodName := { cls := "GoalScanner", name := "solvePairs", desc := "(LGoalScanner$Node;I)V" }
theorem cw_G_solvePairs : CWV y_G_solvePairs b_G_solvePairs 9 none 2 := ⟨tm2 51 rfl rfl, tm0 20 rfl rfl, tm1 1 rfl rfl, tm2 52 rfl rfl, by decide, by decide, by decide, by decide +kernel⟩
abbrev b_G_pushPair : ByteArray := prog_1_method_39_code
abbrev y_G_pushPair : MethodName := { cls := "GoalScanner", name := "pushPair", desc := "(III)V" }
theorem cw_G_pushPair : CWV y_G_pushPair b_G_pushPair 5 none 3 := ⟨tm2 55 rfl rfl, tm0 21 rfl rfl, tm1 1 rfl rfl, tm2 56 rfl rfl, by decide, by decide, by decide, by decide +kernel⟩
abbrev b_G_pushSeries : ByteArray := prog_1_method_40_code
abbrev y_G_pushSeries : MethodName := { cls := "GoalScanner", name := "pushSeries", desc := "(III)V" }
theorem cw_G_pushSeries : CWV y_G_pushSeries b_G_pushSeries 8 none 3 := ⟨tm2 59 rfl rfl, tm0 22 rfl rfl, tm1 1 rfl rfl, tm2 60 rfl rfl, by decide, by decide, by decide, by decide +kernel⟩
abbrev b_R_takeFrom : ByteArray := prog_3_method_11_code
abbrev y_R_takeFrom : MethodName := { cls := "GoalScanner$Rows", name := "takeFrom", desc := "(LGoalScanner$Rows;II)V" }
theorem cw_R_takeFrom : CWV y_R_takeFrom b_R_takeFrom 4 none 3 := ⟨tm2 66 rfl rfl, tm2 67 rfl rfl, tm1 4 rfl rfl, tm2 68 rfl rfl, by decide, by decide, by decide, by decide +kernel⟩
abbrev b_G_attempt : ByteArray := prog_1_method_7_code
abbrev y_G_attempt : MethodName := { cls := "GoalScanner", name := "attempt", desc := "(I)I" }
theorem cw_G_attempt : CWV y_G_attempt b_G_attempt 2 (some .int) 1 := ⟨tm2 71 rfl rfl, tm2 72 rfl rfl, tm1 1 rfl rfl, tm2 73 rfl rfl, by decide, by decide, by decide, by decide +kernel⟩
abbrev b_G_result : ByteArray := prog_1_method_8_code
abbrev y_G_result : MethodName := { cls := "GoalScanner", name := "result", desc := "(I)J" }
theorem cw_G_result : CWV y_G_result b_G_result 2 (some .long) 1 := ⟨tm2 75 rfl rfl, tm2 76 rfl rfl, tm1 1 rfl rfl, tm2 77 rfl rfl, by decide, by decide, by decide, by decide +kernel⟩
abbrev b_R_has : ByteArray := prog_3_method_2_code
abbrev y_R_has : MethodName := { cls := "GoalScanner$Rows", name := "has", desc := "(I)Z" }
theorem cw_R_has : CWV y_R_has b_R_has 2 (some .boolean) 1 := ⟨tm2 79 rfl rfl, tm2 80 rfl rfl, tm1 4 rfl rfl, tm2 81 rfl rfl, by decide, by decide, by decide, by decide +kernel⟩
abbrev b_G_place : ByteArray := prog_1_method_9_code
abbrev y_G_place : MethodName := { cls := "GoalScanner", name := "place", desc := "(I)I" }
theorem cw_G_place : CWV y_G_place b_G_place 2 (some .int) 1 := ⟨tm2 84 rfl rfl, tm2 85 rfl rfl, tm1 1 rfl rfl, tm2 86 rfl rfl, by decide, by decide, by decide, by decide +kernel⟩
abbrev b_G_variable : ByteArray := prog_1_method_10_code
abbrev y_G_variable : MethodName := { cls := "GoalScanner", name := "variable", desc := "(II)J" }
theorem cw_G_variable : CWV y_G_variable b_G_variable 3 (some .long) 2 := ⟨tm2 88 rfl rfl, tm2 89 rfl rfl, tm1 1 rfl rfl, tm2 90 rfl rfl, by decide, by decide, by decide, by decide +kernel⟩
abbrev b_G_bound : ByteArray := prog_1_method_11_code
abbrev y_G_bound : MethodName := { cls := "GoalScanner", name := "bound", desc := "(I)I" }
theorem cw_G_bound : CWV y_G_bound b_G_bound 2 (some .int) 1 := ⟨tm2 92 rfl rfl, tm2 93 rfl rfl, tm1 1 rfl rfl, tm2 94 rfl rfl, by decide, by decide, by decide, by decide +kernel⟩
abbrev b_G_level : ByteArray := prog_1_method_12_code
abbrev y_G_level : MethodName := { cls := "GoalScanner", name := "level", desc := "(I)I" }
theorem cw_G_level : CWV y_G_level b_G_level 2 (some .int) 1 := ⟨tm2 96 rfl rfl, tm2 97 rfl rfl, tm1 1 rfl rfl, tm2 98 rfl rfl, by decide, by decide, by decide, by decide +kernel⟩
abbrev b_G_used : ByteArray := prog_1_method_13_code
abbrev y_G_used : MethodName := { cls := "GoalScanner", name := "used", desc := "(I)Z" }
theorem cw_G_used : CWV y_G_used b_G_used 2 (some .boolean) 1 := ⟨tm2 100 rfl rfl, tm2 101 rfl rfl, tm1 1 rfl rfl, tm2 102 rfl rfl, by decide, by decide, by decide, by decide +kernel⟩
abbrev b_G_count : ByteArray := prog_1_method_14_code
abbrev y_G_count : MethodName := { cls := "GoalScanner", name := "count", desc := "(I)I" }
theorem cw_G_count : CWV y_G_count b_G_count 2 (some .int) 1 := ⟨tm2 104 rfl rfl, tm2 105 rfl rfl, tm1 1 rfl rfl, tm2 106 rfl rfl, by decide, by decide, by decide, by decide +kernel⟩
abbrev b_R_countAtPlace : ByteArray := prog_3_method_12_code
abbrev y_R_countAtPlace : MethodName := { cls := "GoalScanner$Rows", name := "countAtPlace", desc := "(I)I" }
theorem cw_R_countAtPlace : CWV y_R_countAtPlace b_R_countAtPlace 4 (some .int) 1 := ⟨tm2 108 rfl rfl, tm2 109 rfl rfl, tm1 4 rfl rfl, tm2 110 rfl rfl, by decide, by decide, by decide, by decide +kernel⟩
abbrev b_M_init : ByteArray := prog_6_method_1_code
abbrev y_M_init : MethodName := { cls := "GoalScannerModel", name := "<init>", desc := "()V" }
abbrev b_M_type : ByteArray := prog_6_method_2_code
abbrev y_M_type : MethodName := { cls := "GoalScannerModel", name := "type", desc := "(I)I" }
theorem cw_M_type : CWV y_M_type b_M_type 2 (some .int) 1 := ⟨tm2 181 rfl rfl, tm2 182 rfl rfl, tm1 5 rfl rfl, tm2 183 rfl rfl, by decide, by decide, by decide, by decide +kernel⟩
abbrev b_M_wipe : ByteArray := prog_6_method_3_code
abbrev y_M_wipe : MethodName := { cls := "GoalScannerModel", name := "wipe", desc := "()I" }
theorem cw_M_wipe : CWV y_M_wipe b_M_wipe 2 (some .int) 0 := ⟨tm2 185 rfl rfl, tm2 186 rfl rfl, tm1 5 rfl rfl, tm2 187 rfl rfl, by decide, by decide, by decide, by decide +kernel⟩
abbrev b_M_node : ByteArray := prog_6_method_12_code
abbrev y_M_node : MethodName := { cls := "GoalScannerModel", name := "node", desc := "(IIII)I" }
theorem cw_M_node : CWV y_M_node b_M_node 8 (some .int) 4 := ⟨tm2 189 rfl rfl, tm2 190 rfl rfl, tm1 5 rfl rfl, tm2 191 rfl rfl, by decide, by decide, by decide, by decide +kernel⟩
abbrev b_M_fits : ByteArray := prog_6_method_6_code
abbrev y_M_fits : MethodName := { cls := "GoalScannerModel", name := "fits", desc := "(IIII)Z" }
theorem cw_M_fits : CWV y_M_fits b_M_fits 5 (some .boolean) 4 := ⟨tm2 194 rfl rfl, tm0 23 rfl rfl, tm1 5 rfl rfl, tm2 195 rfl rfl, by decide, by decide, by decide, by decide +kernel⟩
abbrev b_M_sort : ByteArray := prog_6_method_4_code
abbrev y_M_sort : MethodName := { cls := "GoalScannerModel", name := "sort", desc := "(I)Z" }
theorem cw_M_sort : CWV y_M_sort b_M_sort 2 (some .boolean) 1 := ⟨tm2 198 rfl rfl, tm0 24 rfl rfl, tm1 5 rfl rfl, tm2 199 rfl rfl, by decide, by decide, by decide, by decide +kernel⟩
abbrev b_M_free : ByteArray := prog_6_method_5_code
abbrev y_M_free : MethodName := { cls := "GoalScannerModel", name := "free", desc := "(I)Z" }
theorem cw_M_free : CWV y_M_free b_M_free 2 (some .boolean) 1 := ⟨tm2 202 rfl rfl, tm0 25 rfl rfl, tm1 5 rfl rfl, tm2 203 rfl rfl, by decide, by decide, by decide, by decide +kernel⟩
abbrev b_M_boundOf : ByteArray := prog_6_method_9_code
abbrev y_M_boundOf : MethodName := { cls := "GoalScannerModel", name := "boundOf", desc := "(IIII)I" }
theorem cw_M_boundOf : CWV y_M_boundOf b_M_boundOf 5 (some .int) 4 := ⟨tm2 206 rfl rfl, tm0 26 rfl rfl, tm1 5 rfl rfl, tm2 207 rfl rfl, by decide, by decide, by decide, by decide +kernel⟩
abbrev b_M_namesA : ByteArray := prog_6_method_7_code
abbrev y_M_namesA : MethodName := { cls := "GoalScannerModel", name := "namesA", desc := "(I)Z" }
theorem cw_M_namesA : CWV y_M_namesA b_M_namesA 2 (some .boolean) 1 := ⟨tm2 210 rfl rfl, tm0 27 rfl rfl, tm1 5 rfl rfl, tm2 211 rfl rfl, by decide, by decide, by decide, by decide +kernel⟩
abbrev b_M_higher : ByteArray := prog_6_method_11_code
abbrev y_M_higher : MethodName := { cls := "GoalScannerModel", name := "higher", desc := "(IZI)I" }
theorem cw_M_higher : CWV y_M_higher b_M_higher 4 (some .int) 3 := ⟨tm2 214 rfl rfl, tm0 28 rfl rfl, tm1 5 rfl rfl, tm2 215 rfl rfl, by decide, by decide, by decide, by decide +kernel⟩
abbrev b_M_namesB : ByteArray := prog_6_method_8_code
abbrev y_M_namesB : MethodName := { cls := "GoalScannerModel", name := "namesB", desc := "(I)Z" }
theorem cw_M_namesB : CWV y_M_namesB b_M_namesB 2 (some .boolean) 1 := ⟨tm2 218 rfl rfl, tm0 29 rfl rfl, tm1 5 rfl rfl, tm2 219 rfl rfl, by decide, by decide, by decide, by decide +kernel⟩
abbrev b_M_workOf : ByteArray := prog_6_method_10_code
abbrev y_M_workOf : MethodName := { cls := "GoalScannerModel", name := "workOf", desc := "(IIII)I" }
theorem cw_M_workOf : CWV y_M_workOf b_M_workOf 7 (some .int) 4 := ⟨tm2 222 rfl rfl, tm0 30 rfl rfl, tm1 5 rfl rfl, tm2 223 rfl rfl, by decide, by decide, by decide, by decide +kernel⟩
abbrev b_M_clear : ByteArray := prog_6_method_13_code
abbrev y_M_clear : MethodName := { cls := "GoalScannerModel", name := "clear", desc := "()I" }
theorem cw_M_clear : CWV y_M_clear b_M_clear 2 (some .int) 0 := ⟨tm2 225 rfl rfl, tm2 226 rfl rfl, tm1 5 rfl rfl, tm2 227 rfl rfl, by decide, by decide, by decide, by decide +kernel⟩
abbrev b_M_evaluate : ByteArray := prog_6_method_29_code
abbrev y_M_evaluate : MethodName := { cls := "GoalScannerModel", name := "evaluate", desc := "(I)I" }
theorem cw_M_evaluate : CWV y_M_evaluate b_M_evaluate 2 (some .int) 1 := ⟨tm2 229 rfl rfl, tm2 230 rfl rfl, tm1 5 rfl rfl, tm2 231 rfl rfl, by decide, by decide, by decide, by decide +kernel⟩
abbrev b_M_work : ByteArray := prog_6_method_27_code
abbrev y_M_work : MethodName := { cls := "GoalScannerModel", name := "work", desc := "(I)V" }
theorem cw_M_work : CWV y_M_work b_M_work 4 none 1 := ⟨tm2 234 rfl rfl, tm0 31 rfl rfl, tm1 5 rfl rfl, tm2 235 rfl rfl, by decide, by decide, by decide, by decide +kernel⟩
abbrev b_M_begin : ByteArray := prog_6_method_19_code
abbrev y_M_begin : MethodName := { cls := "GoalScannerModel", name := "begin", desc := "(II)V" }
theorem cw_M_begin : CWV y_M_begin b_M_begin 5 none 2 := ⟨tm2 238 rfl rfl, tm0 32 rfl rfl, tm1 5 rfl rfl, tm2 239 rfl rfl, by decide, by decide, by decide, by decide +kernel⟩
abbrev b_M_leaf : ByteArray := prog_6_method_18_code
abbrev y_M_leaf : MethodName := { cls := "GoalScannerModel", name := "leaf", desc := "(II)V" }
theorem cw_M_leaf : CWV y_M_leaf b_M_leaf 8 none 2 := ⟨tm3 2 rfl rfl, tm0 33 rfl rfl, tm1 5 rfl rfl, tm3 3 rfl rfl, by decide, by decide, by decide, by decide +kernel⟩
abbrev b_M_stay : ByteArray := prog_6_method_15_code
abbrev y_M_stay : MethodName := { cls := "GoalScannerModel", name := "stay", desc := "(II)V" }
theorem cw_M_stay : CWV y_M_stay b_M_stay 6 none 2 := ⟨tm3 6 rfl rfl, tm0 34 rfl rfl, tm1 5 rfl rfl, tm3 7 rfl rfl, by decide, by decide, by decide, by decide +kernel⟩
abbrev b_M_isOf : ByteArray := prog_6_method_16_code
abbrev y_M_isOf : MethodName := { cls := "GoalScannerModel", name := "isOf", desc := "(II)Z" }
theorem cw_M_isOf : CWV y_M_isOf b_M_isOf 6 (some .boolean) 2 := ⟨tm3 10 rfl rfl, tm0 35 rfl rfl, tm1 5 rfl rfl, tm3 11 rfl rfl, by decide, by decide, by decide, by decide +kernel⟩
abbrev b_M_runFrom : ByteArray := prog_6_method_17_code
abbrev y_M_runFrom : MethodName := { cls := "GoalScannerModel", name := "runFrom", desc := "(III)I" }
theorem cw_M_runFrom : CWV y_M_runFrom b_M_runFrom 5 (some .int) 3 := ⟨tm3 14 rfl rfl, tm0 36 rfl rfl, tm1 5 rfl rfl, tm3 15 rfl rfl, by decide, by decide, by decide, by decide +kernel⟩
abbrev b_M_stepOr : ByteArray := prog_6_method_23_code
abbrev y_M_stepOr : MethodName := { cls := "GoalScannerModel", name := "stepOr", desc := "(I)V" }
theorem cw_M_stepOr : CWV y_M_stepOr b_M_stepOr 3 none 1 := ⟨tm3 18 rfl rfl, tm0 37 rfl rfl, tm1 5 rfl rfl, tm3 19 rfl rfl, by decide, by decide, by decide, by decide +kernel⟩
abbrev b_M_giveAll : ByteArray := prog_6_method_22_code
abbrev y_M_giveAll : MethodName := { cls := "GoalScannerModel", name := "giveAll", desc := "()V" }
theorem cw_M_giveAll : CWV y_M_giveAll b_M_giveAll 2 none 0 := ⟨tm3 22 rfl rfl, tm0 38 rfl rfl, tm1 5 rfl rfl, tm3 23 rfl rfl, by decide, by decide, by decide, by decide +kernel⟩
abbrev b_M_operand : ByteArray := prog_6_method_20_code
abbrev y_M_operand : MethodName := { cls := "GoalScannerModel", name := "operand", desc := "(I)I" }
theorem cw_M_operand : CWV y_M_operand b_M_operand 2 (some .int) 1 := ⟨tm3 26 rfl rfl, tm0 39 rfl rfl, tm1 5 rfl rfl, tm3 27 rfl rfl, by decide, by decide, by decide, by decide +kernel⟩
abbrev b_M_give : ByteArray := prog_6_method_14_code
abbrev y_M_give : MethodName := { cls := "GoalScannerModel", name := "give", desc := "(II)V" }
theorem cw_M_give : CWV y_M_give b_M_give 6 none 2 := ⟨tm3 30 rfl rfl, tm0 40 rfl rfl, tm1 5 rfl rfl, tm3 31 rfl rfl, by decide, by decide, by decide, by decide +kernel⟩
abbrev b_M_stepIf : ByteArray := prog_6_method_24_code
abbrev y_M_stepIf : MethodName := { cls := "GoalScannerModel", name := "stepIf", desc := "(I)V" }
theorem cw_M_stepIf : CWV y_M_stepIf b_M_stepIf 3 none 1 := ⟨tm3 34 rfl rfl, tm0 41 rfl rfl, tm1 5 rfl rfl, tm3 35 rfl rfl, by decide, by decide, by decide, by decide +kernel⟩
abbrev b_M_stepPairs : ByteArray := prog_6_method_26_code
abbrev y_M_stepPairs : MethodName := { cls := "GoalScannerModel", name := "stepPairs", desc := "(II)V" }
theorem cw_M_stepPairs : CWV y_M_stepPairs b_M_stepPairs 6 none 2 := ⟨tm3 38 rfl rfl, tm0 42 rfl rfl, tm1 5 rfl rfl, tm3 39 rfl rfl, by decide, by decide, by decide, by decide +kernel⟩
abbrev b_M_pair : ByteArray := prog_6_method_25_code
abbrev y_M_pair : MethodName := { cls := "GoalScannerModel", name := "pair", desc := "(III)V" }
theorem cw_M_pair : CWV y_M_pair b_M_pair 8 none 3 := ⟨tm3 42 rfl rfl, tm0 43 rfl rfl, tm1 5 rfl rfl, tm3 43 rfl rfl, by decide, by decide, by decide, by decide +kernel⟩
abbrev b_M_stepOne : ByteArray := prog_6_method_21_code
abbrev y_M_stepOne : MethodName := { cls := "GoalScannerModel", name := "stepOne", desc := "(II)V" }
theorem cw_M_stepOne : CWV y_M_stepOne b_M_stepOne 8 none 2 := ⟨tm3 47 rfl rfl, tm0 44 rfl rfl, tm1 5 rfl rfl, tm3 48 rfl rfl, by decide, by decide, by decide, by decide +kernel⟩
abbrev b_M_keep : ByteArray := prog_6_method_28_code
abbrev y_M_keep : MethodName := { cls := "GoalScannerModel", name := "keep", desc := "(I)I" }
theorem cw_M_keep : CWV y_M_keep b_M_keep 3 (some .int) 1 := ⟨tm3 51 rfl rfl, tm0 45 rfl rfl, tm1 5 rfl rfl, tm3 52 rfl rfl, by decide, by decide, by decide, by decide +kernel⟩
abbrev b_M_attempt : ByteArray := prog_6_method_30_code
abbrev y_M_attempt : MethodName := { cls := "GoalScannerModel", name := "attempt", desc := "(I)I" }
theorem cw_M_attempt : CWV y_M_attempt b_M_attempt 2 (some .int) 1 := ⟨tm3 54 rfl rfl, tm3 55 rfl rfl, tm1 5 rfl rfl, tm3 56 rfl rfl, by decide, by decide, by decide, by decide +kernel⟩
abbrev b_M_result : ByteArray := prog_6_method_32_code
abbrev y_M_result : MethodName := { cls := "GoalScannerModel", name := "result", desc := "(I)J" }
theorem cw_M_result : CWV y_M_result b_M_result 2 (some .long) 1 := ⟨tm3 58 rfl rfl, tm3 59 rfl rfl, tm1 5 rfl rfl, tm3 60 rfl rfl, by decide, by decide, by decide, by decide +kernel⟩
abbrev b_M_none : ByteArray := prog_6_method_31_code
abbrev y_M_none : MethodName := { cls := "GoalScannerModel", name := "none", desc := "(I)Z" }
theorem cw_M_none : CWV y_M_none b_M_none 2 (some .boolean) 1 := ⟨tm3 63 rfl rfl, tm0 46 rfl rfl, tm1 5 rfl rfl, tm3 64 rfl rfl, by decide, by decide, by decide, by decide +kernel⟩
abbrev b_M_place : ByteArray := prog_6_method_33_code
abbrev y_M_place : MethodName := { cls := "GoalScannerModel", name := "place", desc := "(I)I" }
theorem cw_M_place : CWV y_M_place b_M_place 2 (some .int) 1 := ⟨tm3 67 rfl rfl, tm3 68 rfl rfl, tm1 5 rfl rfl, tm3 69 rfl rfl, by decide, by decide, by decide, by decide +kernel⟩
abbrev b_M_variable : ByteArray := prog_6_method_34_code
abbrev y_M_variable : MethodName := { cls := "GoalScannerModel", name := "variable", desc := "(II)J" }
theorem cw_M_variable : CWV y_M_variable b_M_variable 3 (some .long) 2 := ⟨tm3 71 rfl rfl, tm3 72 rfl rfl, tm1 5 rfl rfl, tm3 73 rfl rfl, by decide, by decide, by decide, by decide +kernel⟩
abbrev b_M_bound : ByteArray := prog_6_method_35_code
abbrev y_M_bound : MethodName := { cls := "GoalScannerModel", name := "bound", desc := "(I)I" }
theorem cw_M_bound : CWV y_M_bound b_M_bound 2 (some .int) 1 := ⟨tm3 75 rfl rfl, tm3 76 rfl rfl, tm1 5 rfl rfl, tm3 77 rfl rfl, by decide, by decide, by decide, by decide +kernel⟩
abbrev b_M_level : ByteArray := prog_6_method_36_code
abbrev y_M_level : MethodName := { cls := "GoalScannerModel", name := "level", desc := "(I)I" }
theorem cw_M_level : CWV y_M_level b_M_level 2 (some .int) 1 := ⟨tm3 79 rfl rfl, tm3 80 rfl rfl, tm1 5 rfl rfl, tm3 81 rfl rfl, by decide, by decide, by decide, by decide +kernel⟩
abbrev b_M_used : ByteArray := prog_6_method_37_code
abbrev y_M_used : MethodName := { cls := "GoalScannerModel", name := "used", desc := "(I)Z" }
theorem cw_M_used : CWV y_M_used b_M_used 2 (some .boolean) 1 := ⟨tm3 83 rfl rfl, tm3 84 rfl rfl, tm1 5 rfl rfl, tm3 85 rfl rfl, by decide, by decide, by decide, by decide +kernel⟩
abbrev b_M_count : ByteArray := prog_6_method_38_code
abbrev y_M_count : MethodName := { cls := "GoalScannerModel", name := "count", desc := "(I)I" }
theorem cw_M_count : CWV y_M_count b_M_count 2 (some .int) 1 := ⟨tm3 87 rfl rfl, tm3 88 rfl rfl, tm1 5 rfl rfl, tm3 89 rfl rfl, by decide, by decide, by decide, by decide +kernel⟩
end
section
/-! the words that single instructions link -/
theorem ml_L_9 : Cond.methodLink "GoalScannerLaw" 9 y_G_init ∈ TB := tm1 10 rfl rfl
theorem ml_G_3 : Cond.methodLink "GoalScanner" 3 { cls := "java/lang/Object", name := "<init>", desc := "()V" } ∈ TB := tm1 13 rfl rfl
theorem ml_T_3 : Cond.methodLink "GoalScanner$Text" 3 { cls := "java/lang/Object", name := "<init>", desc := "()V" } ∈ TB := tm1 21 rfl rfl
theorem fl_T_9 : Cond.fieldLink "GoalScanner$Text" 9 "GoalScanner$Text" "characters" "[I" ∈ TB := tm1 22 rfl rfl
theorem fl_G_200 : Cond.fieldLink "GoalScanner" 200 "GoalScanner$Text" "characters" "[I" ∈ TB := tm1 23 rfl rfl
theorem fl_T_15 : Cond.fieldLink "GoalScanner$Text" 15 "GoalScanner$Text" "length" "I" ∈ TB := tm1 24 rfl rfl
theorem fl_G_35 : Cond.fieldLink "GoalScanner" 35 "GoalScanner$Text" "length" "I" ∈ TB := tm1 25 rfl rfl
theorem ml_N_1 : Cond.methodLink "GoalScanner$Node" 1 { cls := "java/lang/Object", name := "<init>", desc := "()V" } ∈ TB := tm1 38 rfl rfl
theorem fl_N_7 : Cond.fieldLink "GoalScanner$Node" 7 "GoalScanner$Node" "kind" "I" ∈ TB := tm1 39 rfl rfl
theorem fl_G_129 : Cond.fieldLink "GoalScanner" 129 "GoalScanner$Node" "kind" "I" ∈ TB := tm1 40 rfl rfl
theorem fl_N_13 : Cond.fieldLink "GoalScanner$Node" 13 "GoalScanner$Node" "a" "I" ∈ TB := tm1 41 rfl rfl
theorem fl_G_132 : Cond.fieldLink "GoalScanner" 132 "GoalScanner$Node" "a" "I" ∈ TB := tm1 42 rfl rfl
theorem fl_N_16 : Cond.fieldLink "GoalScanner$Node" 16 "GoalScanner$Node" "b" "I" ∈ TB := tm1 43 rfl rfl
theorem fl_G_135 : Cond.fieldLink "GoalScanner" 135 "GoalScanner$Node" "b" "I" ∈ TB := tm1 44 rfl rfl
theorem fl_N_19 : Cond.fieldLink "GoalScanner$Node" 19 "GoalScanner$Node" "c" "I" ∈ TB := tm1 45 rfl rfl
theorem fl_G_138 : Cond.fieldLink "GoalScanner" 138 "GoalScanner$Node" "c" "I" ∈ TB := tm1 46 rfl rfl
theorem fl_G_65 : Cond.fieldLink "GoalScanner" 65 "GoalScanner$Node" "bound" "I" ∈ TB := tm1 47 rfl rfl
theorem fl_G_71 : Cond.fieldLink "GoalScanner" 71 "GoalScanner$Node" "work" "I" ∈ TB := tm1 48 rfl rfl
theorem fl_G_77 : Cond.fieldLink "GoalScanner" 77 "GoalScanner$Node" "level" "I" ∈ TB := tm1 49 rfl rfl
theorem fl_N_22 : Cond.fieldLink "GoalScanner$Node" 22 "GoalScanner$Node" "used" "Z" ∈ TB := tm1 50 rfl rfl
theorem fl_G_110 : Cond.fieldLink "GoalScanner" 110 "GoalScanner$Node" "used" "Z" ∈ TB := tm1 51 rfl rfl
theorem ml_G_25 : Cond.methodLink "GoalScanner" 25 y_R_init ∈ TB := tm1 71 rfl rfl
theorem ml_R_5 : Cond.methodLink "GoalScanner$Rows" 5 { cls := "java/lang/Object", name := "<init>", desc := "()V" } ∈ TB := tm1 74 rfl rfl
theorem fl_R_11 : Cond.fieldLink "GoalScanner$Rows" 11 "GoalScanner$Rows" "cells" "[I" ∈ TB := tm1 75 rfl rfl
theorem fl_R_15 : Cond.fieldLink "GoalScanner$Rows" 15 "GoalScanner$Rows" "limit" "I" ∈ TB := tm1 76 rfl rfl
theorem fl_R_19 : Cond.fieldLink "GoalScanner$Rows" 19 "GoalScanner$Rows" "size" "I" ∈ TB := tm1 77 rfl rfl
theorem fl_G_114 : Cond.fieldLink "GoalScanner" 114 "GoalScanner$Rows" "size" "I" ∈ TB := tm1 78 rfl rfl
theorem fl_G_12 : Cond.fieldLink "GoalScanner" 12 "GoalScanner" "text" "LGoalScanner$Text;" ∈ TB := tm1 86 rfl rfl
theorem fl_G_18 : Cond.fieldLink "GoalScanner" 18 "GoalScanner" "nodes" "[LGoalScanner$Node;" ∈ TB := tm1 87 rfl rfl
theorem fl_G_42 : Cond.fieldLink "GoalScanner" 42 "GoalScanner" "nodeCount" "I" ∈ TB := tm1 88 rfl rfl
theorem fl_G_28 : Cond.fieldLink "GoalScanner" 28 "GoalScanner" "rows" "LGoalScanner$Rows;" ∈ TB := tm1 89 rfl rfl
theorem fl_G_32 : Cond.fieldLink "GoalScanner" 32 "GoalScanner" "results" "LGoalScanner$Rows;" ∈ TB := tm1 90 rfl rfl
theorem fl_G_117 : Cond.fieldLink "GoalScanner" 117 "GoalScanner" "resultsTextLength" "I" ∈ TB := tm1 91 rfl rfl
theorem ml_L_13 : Cond.methodLink "GoalScannerLaw" 13 y_G_type ∈ TB := tm1 105 rfl rfl
theorem ml_G_39 : Cond.methodLink "GoalScanner" 39 y_T_append ∈ TB := tm1 109 rfl rfl
theorem ml_L_18 : Cond.methodLink "GoalScannerLaw" 18 y_G_wipe ∈ TB := tm1 113 rfl rfl
theorem ml_L_23 : Cond.methodLink "GoalScannerLaw" 23 y_G_node ∈ TB := tm1 117 rfl rfl
theorem ml_G_45 : Cond.methodLink "GoalScanner" 45 y_G_isPlainOperandFit ∈ TB := tm1 121 rfl rfl
theorem ml_G_101 : Cond.methodLink "GoalScanner" 101 y_G_isVariable ∈ TB := tm1 124 rfl rfl
theorem ml_G_123 : Cond.methodLink "GoalScanner" 123 y_G_isSort ∈ TB := tm1 127 rfl rfl
theorem fl_G_49 : Cond.fieldLink "GoalScanner" 49 "GoalScanner" "OPERANDS" "[I" ∈ TB := tm1 130 rfl rfl
theorem ml_G_53 : Cond.methodLink "GoalScanner" 53 y_G_areNodeOperandsFit ∈ TB := tm1 132 rfl rfl
theorem ml_G_126 : Cond.methodLink "GoalScanner" 126 y_G_isFree ∈ TB := tm1 136 rfl rfl
theorem ml_G_107 : Cond.methodLink "GoalScanner" 107 y_G_isNode ∈ TB := tm1 140 rfl rfl
theorem ml_G_57 : Cond.methodLink "GoalScanner" 57 y_N_fill ∈ TB := tm1 144 rfl rfl
theorem ml_G_61 : Cond.methodLink "GoalScanner" 61 y_G_boundOf ∈ TB := tm1 148 rfl rfl
theorem ml_G_141 : Cond.methodLink "GoalScanner" 141 { cls := "java/lang/Math", name := "min", desc := "(II)I" } ∈ TB := tm1 152 rfl rfl
theorem ml_G_146 : Cond.methodLink "GoalScanner" 146 { cls := "java/lang/Math", name := "max", desc := "(II)I" } ∈ TB := tm1 155 rfl rfl
theorem ml_G_68 : Cond.methodLink "GoalScanner" 68 y_G_workOf ∈ TB := tm1 158 rfl rfl
theorem ml_G_149 : Cond.methodLink "GoalScanner" 149 y_G_workOfPairs ∈ TB := tm1 162 rfl rfl
theorem ml_G_74 : Cond.methodLink "GoalScanner" 74 y_G_levelOf ∈ TB := tm1 166 rfl rfl
theorem ml_G_80 : Cond.methodLink "GoalScanner" 80 y_G_useOperands ∈ TB := tm1 170 rfl rfl
theorem ml_L_28 : Cond.methodLink "GoalScannerLaw" 28 y_G_clear ∈ TB := tm1 174 rfl rfl
theorem ml_L_32 : Cond.methodLink "GoalScannerLaw" 32 y_G_evaluate ∈ TB := tm1 178 rfl rfl
theorem ml_G_84 : Cond.methodLink "GoalScanner" 84 y_G_keepResults ∈ TB := tm1 182 rfl rfl
theorem ml_G_152 : Cond.methodLink "GoalScanner" 152 y_G_solve ∈ TB := tm1 186 rfl rfl
theorem ml_G_160 : Cond.methodLink "GoalScanner" 160 y_R_push ∈ TB := tm1 190 rfl rfl
theorem ml_R_22 : Cond.methodLink "GoalScanner$Rows" 22 y_R_copy ∈ TB := tm1 194 rfl rfl
theorem ml_R_29 : Cond.methodLink "GoalScanner$Rows" 29 { cls := "java/lang/System", name := "arraycopy", desc := "(Ljava/lang/Object;ILjava/lang/Object;II)V" } ∈ TB := tm1 198 rfl rfl
theorem ml_G_104 : Cond.methodLink "GoalScanner" 104 y_R_variableAt ∈ TB := tm1 201 rfl rfl
theorem ml_G_98 : Cond.methodLink "GoalScanner" 98 y_R_placeAt ∈ TB := tm1 205 rfl rfl
theorem ml_G_163 : Cond.methodLink "GoalScanner" 163 y_G_solveOne ∈ TB := tm1 209 rfl rfl
theorem ml_G_197 : Cond.methodLink "GoalScanner" 197 y_T_isOf ∈ TB := tm1 213 rfl rfl
theorem ml_T_19 : Cond.methodLink "GoalScanner$Text" 19 y_T_isOfSort ∈ TB := tm1 217 rfl rfl
theorem ml_T_29 : Cond.methodLink "GoalScanner$Text" 29 y_T_isDigit ∈ TB := tm1 220 rfl rfl
theorem ml_T_33 : Cond.methodLink "GoalScanner$Text" 33 y_T_isLetter ∈ TB := tm1 223 rfl rfl
theorem ml_G_203 : Cond.methodLink "GoalScanner" 203 y_R_pushAtPlace ∈ TB := tm1 226 rfl rfl
theorem ml_R_26 : Cond.methodLink "GoalScanner$Rows" 26 y_R_push ∈ TB := tm1 230 rfl rfl
theorem ml_G_166 : Cond.methodLink "GoalScanner" 166 y_G_solveRun ∈ TB := tm1 231 rfl rfl
theorem ml_G_207 : Cond.methodLink "GoalScanner" 207 y_T_behindRun ∈ TB := tm1 235 rfl rfl
theorem ml_T_23 : Cond.methodLink "GoalScanner$Text" 23 { cls := "java/lang/Math", name := "min", desc := "(II)I" } ∈ TB := tm1 239 rfl rfl
theorem ml_G_169 : Cond.methodLink "GoalScanner" 169 y_G_solveValue ∈ TB := tm2 0 rfl rfl
theorem ml_G_211 : Cond.methodLink "GoalScanner" 211 y_T_decimal ∈ TB := tm2 4 rfl rfl
theorem ml_G_172 : Cond.methodLink "GoalScanner" 172 y_G_solveSeek ∈ TB := tm2 8 rfl rfl
theorem ml_G_175 : Cond.methodLink "GoalScanner" 175 y_G_solveGo ∈ TB := tm2 12 rfl rfl
theorem ml_G_92 : Cond.methodLink "GoalScanner" 92 y_R_intAt ∈ TB := tm2 16 rfl rfl
theorem ml_G_214 : Cond.methodLink "GoalScanner" 214 y_R_remove ∈ TB := tm2 20 rfl rfl
theorem ml_G_179 : Cond.methodLink "GoalScanner" 179 y_G_solveSet ∈ TB := tm2 24 rfl rfl
theorem ml_G_217 : Cond.methodLink "GoalScanner" 217 y_R_putVariable ∈ TB := tm2 28 rfl rfl
theorem ml_G_182 : Cond.methodLink "GoalScanner" 182 y_G_solveFirst ∈ TB := tm2 32 rfl rfl
theorem ml_G_185 : Cond.methodLink "GoalScanner" 185 y_G_solveIf ∈ TB := tm2 36 rfl rfl
theorem ml_G_188 : Cond.methodLink "GoalScanner" 188 y_G_solveNot ∈ TB := tm2 40 rfl rfl
theorem ml_G_191 : Cond.methodLink "GoalScanner" 191 y_G_solveMost ∈ TB := tm2 44 rfl rfl
theorem ml_G_220 : Cond.methodLink "GoalScanner" 220 y_R_copy ∈ TB := tm2 48 rfl rfl
theorem ml_G_194 : Cond.methodLink "GoalScanner" 194 y_G_solvePairs ∈ TB := tm2 49 rfl rfl
theorem ml_G_223 : Cond.methodLink "GoalScanner" 223 y_G_pushPair ∈ TB := tm2 53 rfl rfl
theorem ml_G_226 : Cond.methodLink "GoalScanner" 226 y_G_pushSeries ∈ TB := tm2 57 rfl rfl
theorem kl_G_229 : Cond.constantLong "GoalScanner" 229 (8 : Int64) ∈ TB := tm2 61 rfl rfl
theorem ml_G_231 : Cond.methodLink "GoalScanner" 231 { cls := "java/lang/Math", name := "min", desc := "(JJ)J" } ∈ TB := tm2 62 rfl rfl
theorem ml_G_156 : Cond.methodLink "GoalScanner" 156 y_R_takeFrom ∈ TB := tm2 65 rfl rfl
theorem ml_R_35 : Cond.methodLink "GoalScanner$Rows" 35 { cls := "java/lang/Math", name := "min", desc := "(II)I" } ∈ TB := tm2 69 rfl rfl
theorem ml_L_36 : Cond.methodLink "GoalScannerLaw" 36 y_G_attempt ∈ TB := tm2 70 rfl rfl
theorem ml_L_40 : Cond.methodLink "GoalScannerLaw" 40 y_G_result ∈ TB := tm2 74 rfl rfl
theorem ml_G_88 : Cond.methodLink "GoalScanner" 88 y_R_has ∈ TB := tm2 78 rfl rfl
theorem kl_G_96 : Cond.constantLong "GoalScanner" 96 (1000000000000 : Int64) ∈ TB := tm2 82 rfl rfl
theorem ml_L_45 : Cond.methodLink "GoalScannerLaw" 45 y_G_place ∈ TB := tm2 83 rfl rfl
theorem ml_L_49 : Cond.methodLink "GoalScannerLaw" 49 y_G_variable ∈ TB := tm2 87 rfl rfl
theorem ml_L_54 : Cond.methodLink "GoalScannerLaw" 54 y_G_bound ∈ TB := tm2 91 rfl rfl
theorem ml_L_58 : Cond.methodLink "GoalScannerLaw" 58 y_G_level ∈ TB := tm2 95 rfl rfl
theorem ml_L_62 : Cond.methodLink "GoalScannerLaw" 62 y_G_used ∈ TB := tm2 99 rfl rfl
theorem ml_L_67 : Cond.methodLink "GoalScannerLaw" 67 y_G_count ∈ TB := tm2 103 rfl rfl
theorem ml_G_120 : Cond.methodLink "GoalScanner" 120 y_R_countAtPlace ∈ TB := tm2 107 rfl rfl
theorem ml_R_41 : Cond.methodLink "GoalScanner$Rows" 41 y_R_placeAt ∈ TB := tm2 111 rfl rfl
theorem ml_L_12 : Cond.methodLink "GoalScannerLaw" 12 y_M_init ∈ TB := tm2 114 rfl rfl
theorem ml_M_1 : Cond.methodLink "GoalScannerModel" 1 { cls := "java/lang/Object", name := "<init>", desc := "()V" } ∈ TB := tm2 117 rfl rfl
theorem fl_M_7 : Cond.fieldLink "GoalScannerModel" 7 "GoalScannerModel" "length" "I" ∈ TB := tm2 118 rfl rfl
theorem fl_M_13 : Cond.fieldLink "GoalScannerModel" 13 "GoalScannerModel" "nodes" "I" ∈ TB := tm2 119 rfl rfl
theorem fl_M_16 : Cond.fieldLink "GoalScannerModel" 16 "GoalScannerModel" "results" "I" ∈ TB := tm2 120 rfl rfl
theorem fl_M_19 : Cond.fieldLink "GoalScannerModel" 19 "GoalScannerModel" "atEnd" "I" ∈ TB := tm2 121 rfl rfl
theorem fl_M_22 : Cond.fieldLink "GoalScannerModel" 22 "GoalScannerModel" "text" "[I" ∈ TB := tm2 122 rfl rfl
theorem fl_M_26 : Cond.fieldLink "GoalScannerModel" 26 "GoalScannerModel" "kind" "[I" ∈ TB := tm2 123 rfl rfl
theorem fl_M_29 : Cond.fieldLink "GoalScannerModel" 29 "GoalScannerModel" "opA" "[I" ∈ TB := tm2 124 rfl rfl
theorem fl_M_32 : Cond.fieldLink "GoalScannerModel" 32 "GoalScannerModel" "opB" "[I" ∈ TB := tm2 125 rfl rfl
theorem fl_M_35 : Cond.fieldLink "GoalScannerModel" 35 "GoalScannerModel" "opC" "[I" ∈ TB := tm2 126 rfl rfl
theorem fl_M_38 : Cond.fieldLink "GoalScannerModel" 38 "GoalScannerModel" "bounds" "[I" ∈ TB := tm2 127 rfl rfl
theorem fl_M_41 : Cond.fieldLink "GoalScannerModel" 41 "GoalScannerModel" "levels" "[I" ∈ TB := tm2 128 rfl rfl
theorem fl_M_44 : Cond.fieldLink "GoalScannerModel" 44 "GoalScannerModel" "works" "[I" ∈ TB := tm2 129 rfl rfl
theorem fl_M_47 : Cond.fieldLink "GoalScannerModel" 47 "GoalScannerModel" "taken" "[Z" ∈ TB := tm2 130 rfl rfl
theorem fl_M_51 : Cond.fieldLink "GoalScannerModel" 51 "GoalScannerModel" "row" "[I" ∈ TB := tm2 131 rfl rfl
theorem fl_M_54 : Cond.fieldLink "GoalScannerModel" 54 "GoalScannerModel" "size" "[I" ∈ TB := tm2 132 rfl rfl
theorem fl_M_57 : Cond.fieldLink "GoalScannerModel" 57 "GoalScannerModel" "deep" "I" ∈ TB := tm2 133 rfl rfl
theorem fl_M_60 : Cond.fieldLink "GoalScannerModel" 60 "GoalScannerModel" "node" "[I" ∈ TB := tm2 134 rfl rfl
theorem fl_M_63 : Cond.fieldLink "GoalScannerModel" 63 "GoalScannerModel" "phase" "[I" ∈ TB := tm2 135 rfl rfl
theorem fl_M_66 : Cond.fieldLink "GoalScannerModel" 66 "GoalScannerModel" "turn" "[I" ∈ TB := tm2 136 rfl rfl
theorem fl_M_69 : Cond.fieldLink "GoalScannerModel" 69 "GoalScannerModel" "state" "[I" ∈ TB := tm2 137 rfl rfl
theorem ml_L_17 : Cond.methodLink "GoalScannerLaw" 17 y_M_type ∈ TB := tm2 180 rfl rfl
theorem ml_L_22 : Cond.methodLink "GoalScannerLaw" 22 y_M_wipe ∈ TB := tm2 184 rfl rfl
theorem ml_L_27 : Cond.methodLink "GoalScannerLaw" 27 y_M_node ∈ TB := tm2 188 rfl rfl
theorem ml_M_85 : Cond.methodLink "GoalScannerModel" 85 y_M_fits ∈ TB := tm2 192 rfl rfl
theorem ml_M_72 : Cond.methodLink "GoalScannerModel" 72 y_M_sort ∈ TB := tm2 196 rfl rfl
theorem ml_M_76 : Cond.methodLink "GoalScannerModel" 76 y_M_free ∈ TB := tm2 200 rfl rfl
theorem ml_M_89 : Cond.methodLink "GoalScannerModel" 89 y_M_boundOf ∈ TB := tm2 204 rfl rfl
theorem ml_M_79 : Cond.methodLink "GoalScannerModel" 79 y_M_namesA ∈ TB := tm2 208 rfl rfl
theorem ml_M_93 : Cond.methodLink "GoalScannerModel" 93 y_M_higher ∈ TB := tm2 212 rfl rfl
theorem ml_M_82 : Cond.methodLink "GoalScannerModel" 82 y_M_namesB ∈ TB := tm2 216 rfl rfl
theorem ml_M_97 : Cond.methodLink "GoalScannerModel" 97 y_M_workOf ∈ TB := tm2 220 rfl rfl
theorem ml_L_31 : Cond.methodLink "GoalScannerLaw" 31 y_M_clear ∈ TB := tm2 224 rfl rfl
theorem ml_L_35 : Cond.methodLink "GoalScannerLaw" 35 y_M_evaluate ∈ TB := tm2 228 rfl rfl
theorem ml_M_147 : Cond.methodLink "GoalScannerModel" 147 y_M_work ∈ TB := tm2 232 rfl rfl
theorem ml_M_112 : Cond.methodLink "GoalScannerModel" 112 y_M_begin ∈ TB := tm2 236 rfl rfl
theorem ml_M_131 : Cond.methodLink "GoalScannerModel" 131 y_M_leaf ∈ TB := tm3 0 rfl rfl
theorem ml_M_104 : Cond.methodLink "GoalScannerModel" 104 y_M_stay ∈ TB := tm3 4 rfl rfl
theorem ml_M_100 : Cond.methodLink "GoalScannerModel" 100 y_M_isOf ∈ TB := tm3 8 rfl rfl
theorem ml_M_108 : Cond.methodLink "GoalScannerModel" 108 y_M_runFrom ∈ TB := tm3 12 rfl rfl
theorem ml_M_134 : Cond.methodLink "GoalScannerModel" 134 y_M_stepOr ∈ TB := tm3 16 rfl rfl
theorem ml_M_122 : Cond.methodLink "GoalScannerModel" 122 y_M_giveAll ∈ TB := tm3 20 rfl rfl
theorem ml_M_115 : Cond.methodLink "GoalScannerModel" 115 y_M_operand ∈ TB := tm3 24 rfl rfl
theorem ml_M_119 : Cond.methodLink "GoalScannerModel" 119 y_M_give ∈ TB := tm3 28 rfl rfl
theorem ml_M_138 : Cond.methodLink "GoalScannerModel" 138 y_M_stepIf ∈ TB := tm3 32 rfl rfl
theorem ml_M_141 : Cond.methodLink "GoalScannerModel" 141 y_M_stepPairs ∈ TB := tm3 36 rfl rfl
theorem ml_M_127 : Cond.methodLink "GoalScannerModel" 127 y_M_pair ∈ TB := tm3 40 rfl rfl
theorem kl_M_125 : Cond.constantLong "GoalScannerModel" 125 (8 : Int64) ∈ TB := tm3 44 rfl rfl
theorem ml_M_144 : Cond.methodLink "GoalScannerModel" 144 y_M_stepOne ∈ TB := tm3 45 rfl rfl
theorem ml_M_150 : Cond.methodLink "GoalScannerModel" 150 y_M_keep ∈ TB := tm3 49 rfl rfl
theorem ml_L_39 : Cond.methodLink "GoalScannerLaw" 39 y_M_attempt ∈ TB := tm3 53 rfl rfl
theorem ml_L_44 : Cond.methodLink "GoalScannerLaw" 44 y_M_result ∈ TB := tm3 57 rfl rfl
theorem ml_M_153 : Cond.methodLink "GoalScannerModel" 153 y_M_none ∈ TB := tm3 61 rfl rfl
theorem kl_M_156 : Cond.constantLong "GoalScannerModel" 156 (1000000000000 : Int64) ∈ TB := tm3 65 rfl rfl
theorem ml_L_48 : Cond.methodLink "GoalScannerLaw" 48 y_M_place ∈ TB := tm3 66 rfl rfl
theorem ml_L_53 : Cond.methodLink "GoalScannerLaw" 53 y_M_variable ∈ TB := tm3 70 rfl rfl
theorem ml_L_57 : Cond.methodLink "GoalScannerLaw" 57 y_M_bound ∈ TB := tm3 74 rfl rfl
theorem ml_L_61 : Cond.methodLink "GoalScannerLaw" 61 y_M_level ∈ TB := tm3 78 rfl rfl
theorem ml_L_66 : Cond.methodLink "GoalScannerLaw" 66 y_M_used ∈ TB := tm3 82 rfl rfl
theorem ml_L_70 : Cond.methodLink "GoalScannerLaw" 70 y_M_count ∈ TB := tm3 86 rfl rfl
end
section
/-! The walk with the heap bound: RR says that the machine, at pc with the listed values in its variables, with the stack st, and with any heap that holds the world ws, comes to its end. One row an instruction. -/
abbrev rx_T : Type := Program × Launch × Env × Room × State × MethodId × Array Value × List Frame × Method × Code × (State → Prop)
def RR (X : rx_T) (nL : Nat) (D : va_G) (A : Nat → Prop) (kc ks : Nat) (ws : va_W) (lv : List (Nat × Value)) (pc : Nat) (st : List Value) : Prop :=
  match X with
  | (p, l, e, R, s, m, args, below, meth, c, Q) => ∀ (H : Heap) (locs : List Loc) (ls : Array Slot), va_P D vwCl ws H → va_D A ws → va_S A s.heap H locs → lv_has ls nL lv → W p l e R s m args below meth c H locs kc ks Q (F0 m pc ls st)
/-- the table of operands by kind, where a walk reads it: the static field holds the address t, the array there the 22 masks -/
def opsN : Nat → Nat := fun k => [0, 0, 0, 0, 0, 0, 0, 0, 1, 3, 3, 3, 3, 3, 3, 3, 3, 2, 2, 7, 1, 1].getD k 0
def ez (z : Option Nat) (A : Nat → Prop) (U : State) (H : Heap) : Prop :=
  match z with
  | none => True
  | some t => va_Z "GoalScanner" "OPERANDS" "[I" (.ref t) A U H ∧ va_T .int t 22 (fun k => .int (nI (opsN k))) A U H
def rx_ok (X : rx_T) (cc : ByteArray) (nL : Nat) (own : String) (D : va_G) (tys : List (ClassId × FieldType)) (A : Nat → Prop) (d : Nat) (kc ks : Nat) (z : Option Nat) : Prop :=
  match X with
  | (p, _, _, R, s, m, args, _, _, c, _) => p.tables.exec = Jvm.exec ∧ c.code = cc ∧ c.maxLocals = nL ∧ s.vm.findClass own = some m.cls ∧ (∀ w ∈ TB, w.before args s = true) ∧ va_K D vwCl tys s ∧ (∀ q, s.heap.size ≤ q → A q) ∧ (d ≤ R.frames ∧ 40 * d ≤ R.locals) ∧ (kc ≤ R.cells ∧ ks ≤ R.slots) ∧ ez z A s s.heap
/-- the value of a variable in a list of them -/
def lvg : List (Nat × Value) → Nat → Option Value
  | [], _ => none
  | q :: l, i => bif Nat.beq q.1 i then some q.2 else lvg l i
theorem lvg_mem : ∀ {l : List (Nat × Value)} {i : Nat} {v : Value}, lvg l i = some v → (i, v) ∈ l
  | [], _, _, h => by simp [lvg] at h
  | q :: l, i, v, h => by
    unfold lvg at h
    cases hb : Nat.beq q.1 i with
    | true =>
      rw [hb] at h
      have e1 : q.1 = i := Nat.eq_of_beq_eq_true hb
      have e2 : q.2 = v := Option.some.inj h
      rw [← e1, ← e2]
      exact List.mem_cons_self
    | false =>
      rw [hb] at h
      exact List.mem_cons_of_mem _ (lvg_mem h)
/-- variable i gets a value of one slot: what stood there goes -/
def lvs (l : List (Nat × Value)) (i : Nat) (v : Value) : List (Nat × Value) := (i, v) :: l.filter (fun q => !(q.1 == i) && !(q.1 + 1 == i && q.2.category == 2))
/-- the same for a value of two slots -/
def lvs2 (l : List (Nat × Value)) (i : Nat) (v : Value) : List (Nat × Value) := (i, v) :: l.filter (fun q => !(q.1 == i) && (!(q.1 == i + 1) && !(q.1 + 1 == i && q.2.category == 2)))
/-- the listed variables alone -/
def lvpick (l : List (Nat × Value)) (is : List Nat) : List (Nat × Value) := is.filterMap (fun i => (lvg l i).map (fun v => (i, v)))
theorem lvpick_mem {l : List (Nat × Value)} {is : List Nat} {q : Nat × Value} (h : q ∈ lvpick l is) : q ∈ l := by
  obtain ⟨i, -, hi⟩ := List.mem_filterMap.mp h
  cases hv : lvg l i with
  | none => rw [hv] at hi; cases hi
  | some v =>
    rw [hv] at hi
    have e : (i, v) = q := Option.some.inj hi
    rw [← e]
    exact lvg_mem hv
section RL
variable {X : rx_T} {cc : ByteArray} {nL : Nat} {own : String} {z : Option Nat} {D : va_G} {tys : List (ClassId × FieldType)} {A : Nat → Prop} {d kc ks pc : Nat} {ws : va_W} {lv : List (Nat × Value)} {rest st : List Value}
theorem r_lv (is : List Nat) (k : RR X nL D A kc ks ws (lvpick lv is) pc st) : RR X nL D A kc ks ws lv pc st := by
  obtain ⟨p, l, e, R, s, m, args, below, meth, c, Q⟩ := X
  intro H locs ls hP hD hS hl
  exact k H locs ls hP hD hS ⟨hl.1, hl.2.1, fun q hq => hl.2.2 q (lvpick_mem hq)⟩
theorem r_ws {ws' : va_W} (h : ws = ws') (k : RR X nL D A kc ks ws' lv pc st) : RR X nL D A kc ks ws lv pc st := h ▸ k
theorem r_st {st' : List Value} (h : st = st') (k : RR X nL D A kc ks ws lv pc st') : RR X nL D A kc ks ws lv pc st := h ▸ k
theorem r_lve {lv' : List (Nat × Value)} (h : lv = lv') (k : RR X nL D A kc ks ws lv' pc st) : RR X nL D A kc ks ws lv pc st := h ▸ k
theorem r_top {x y : Int32} (h : x = y) (k : RR X nL D A kc ks ws lv pc (.int y :: rest)) : RR X nL D A kc ks ws lv pc (.int x :: rest) := h ▸ k
theorem r_top2 {x y : Int32} {v : Value} (h : x = y) (k : RR X nL D A kc ks ws lv pc (v :: .int y :: rest)) : RR X nL D A kc ks ws lv pc (v :: .int x :: rest) := h ▸ k
theorem r_top3 {x y : Int32} {v v2 : Value} (h : x = y) (k : RR X nL D A kc ks ws lv pc (v :: v2 :: .int y :: rest)) : RR X nL D A kc ks ws lv pc (v :: v2 :: .int x :: rest) := h ▸ k
theorem r_topl {x y : Int64} (h : x = y) (k : RR X nL D A kc ks ws lv pc (.long y :: rest)) : RR X nL D A kc ks ws lv pc (.long x :: rest) := h ▸ k
theorem r_gen {x : Int32} (k : ∀ y : Int32, y = x → RR X nL D A kc ks ws lv pc (.int y :: rest)) : RR X nL D A kc ks ws lv pc (.int x :: rest) := k x rfl

theorem r_iconst {n : Int} {v : Int32} (h : rx_ok X cc nL own D tys A d kc ks z) (hd : decode cc pc = .ok (.iconst n, 1)) (hv : Int32.ofInt n = v)
    (k : RR X nL D A kc ks ws lv (pc + 1) (.int v :: rest)) : RR X nL D A kc ks ws lv pc (rest) := by
  obtain ⟨p, l, e, R, s, m, args, below, meth, c, Q⟩ := X
  obtain ⟨hx, hb, hml, hown, hts, hK, hA, hR, hC, hE⟩ := h
  intro H locs ls hP hD hS hl
  exact lv_iconst hx hb hd hv (k H locs ls hP hD hS hl)
theorem r_bipush {n : Int} {v : Int32} (h : rx_ok X cc nL own D tys A d kc ks z) (hd : decode cc pc = .ok (.bipush n, 2)) (hv : (Int8.ofInt n).toInt32 = v)
    (k : RR X nL D A kc ks ws lv (pc + 2) (.int v :: rest)) : RR X nL D A kc ks ws lv pc (rest) := by
  obtain ⟨p, l, e, R, s, m, args, below, meth, c, Q⟩ := X
  obtain ⟨hx, hb, hml, hown, hts, hK, hA, hR, hC, hE⟩ := h
  intro H locs ls hP hD hS hl
  exact lv_bipush hx hb hd hv (k H locs ls hP hD hS hl)
theorem r_sipush {n : Int} {v : Int32} (h : rx_ok X cc nL own D tys A d kc ks z) (hd : decode cc pc = .ok (.sipush n, 3)) (hv : (Int16.ofInt n).toInt32 = v)
    (k : RR X nL D A kc ks ws lv (pc + 3) (.int v :: rest)) : RR X nL D A kc ks ws lv pc (rest) := by
  obtain ⟨p, l, e, R, s, m, args, below, meth, c, Q⟩ := X
  obtain ⟨hx, hb, hml, hown, hts, hK, hA, hR, hC, hE⟩ := h
  intro H locs ls hP hD hS hl
  exact lv_sipush hx hb hd hv (k H locs ls hP hD hS hl)
theorem r_lconst {n : Fin 2} {v : Int64} (h : rx_ok X cc nL own D tys A d kc ks z) (hd : decode cc pc = .ok (.lconst n, 1)) (hv : Int64.ofNat (n : Nat) = v)
    (k : RR X nL D A kc ks ws lv (pc + 1) (.long v :: rest)) : RR X nL D A kc ks ws lv pc (rest) := by
  obtain ⟨p, l, e, R, s, m, args, below, meth, c, Q⟩ := X
  obtain ⟨hx, hb, hml, hown, hts, hK, hA, hR, hC, hE⟩ := h
  intro H locs ls hP hD hS hl
  exact lv_lconst hx hb hd hv (k H locs ls hP hD hS hl)
theorem r_iload_n {j : Fin 4} {i : Nat} {x : Int32} (h : rx_ok X cc nL own D tys A d kc ks z) (hd : decode cc pc = .ok (.iload_n j, 1)) (hi : (j : Nat) = i) (hg : lvg lv i = some (.int x))
    (k : RR X nL D A kc ks ws lv (pc + 1) (.int x :: rest)) : RR X nL D A kc ks ws lv pc (rest) := by
  obtain ⟨p, l, e, R, s, m, args, below, meth, c, Q⟩ := X
  obtain ⟨hx, hb, hml, hown, hts, hK, hA, hR, hC, hE⟩ := h
  intro H locs ls hP hD hS hl
  exact lv_iload_n hx hb hd hi (hl.2.2 _ (lvg_mem hg)) (k H locs ls hP hD hS hl)
theorem r_iload {i : Nat} {x : Int32} (h : rx_ok X cc nL own D tys A d kc ks z) (hd : decode cc pc = .ok (.iload i, 2)) (hg : lvg lv i = some (.int x))
    (k : RR X nL D A kc ks ws lv (pc + 2) (.int x :: rest)) : RR X nL D A kc ks ws lv pc (rest) := by
  obtain ⟨p, l, e, R, s, m, args, below, meth, c, Q⟩ := X
  obtain ⟨hx, hb, hml, hown, hts, hK, hA, hR, hC, hE⟩ := h
  intro H locs ls hP hD hS hl
  exact lv_iload hx hb hd (hl.2.2 _ (lvg_mem hg)) (k H locs ls hP hD hS hl)
theorem r_lload_n {j : Fin 4} {i : Nat} {x : Int64} (h : rx_ok X cc nL own D tys A d kc ks z) (hd : decode cc pc = .ok (.lload_n j, 1)) (hi : (j : Nat) = i) (hg : lvg lv i = some (.long x))
    (k : RR X nL D A kc ks ws lv (pc + 1) (.long x :: rest)) : RR X nL D A kc ks ws lv pc (rest) := by
  obtain ⟨p, l, e, R, s, m, args, below, meth, c, Q⟩ := X
  obtain ⟨hx, hb, hml, hown, hts, hK, hA, hR, hC, hE⟩ := h
  intro H locs ls hP hD hS hl
  exact lv_lload_n hx hb hd hi (hl.2.2 _ (lvg_mem hg)) (k H locs ls hP hD hS hl)
theorem r_lload {i : Nat} {x : Int64} (h : rx_ok X cc nL own D tys A d kc ks z) (hd : decode cc pc = .ok (.lload i, 2)) (hg : lvg lv i = some (.long x))
    (k : RR X nL D A kc ks ws lv (pc + 2) (.long x :: rest)) : RR X nL D A kc ks ws lv pc (rest) := by
  obtain ⟨p, l, e, R, s, m, args, below, meth, c, Q⟩ := X
  obtain ⟨hx, hb, hml, hown, hts, hK, hA, hR, hC, hE⟩ := h
  intro H locs ls hP hD hS hl
  exact lv_lload hx hb hd (hl.2.2 _ (lvg_mem hg)) (k H locs ls hP hD hS hl)
theorem r_aload_n {j : Fin 4} {i : Nat} {x : Nat} (h : rx_ok X cc nL own D tys A d kc ks z) (hd : decode cc pc = .ok (.aload_n j, 1)) (hi : (j : Nat) = i) (hg : lvg lv i = some (.ref x))
    (k : RR X nL D A kc ks ws lv (pc + 1) (.ref x :: rest)) : RR X nL D A kc ks ws lv pc (rest) := by
  obtain ⟨p, l, e, R, s, m, args, below, meth, c, Q⟩ := X
  obtain ⟨hx, hb, hml, hown, hts, hK, hA, hR, hC, hE⟩ := h
  intro H locs ls hP hD hS hl
  exact lv_aload_n hx hb hd hi (hl.2.2 _ (lvg_mem hg)) (k H locs ls hP hD hS hl)
theorem r_aload {i : Nat} {x : Nat} (h : rx_ok X cc nL own D tys A d kc ks z) (hd : decode cc pc = .ok (.aload i, 2)) (hg : lvg lv i = some (.ref x))
    (k : RR X nL D A kc ks ws lv (pc + 2) (.ref x :: rest)) : RR X nL D A kc ks ws lv pc (rest) := by
  obtain ⟨p, l, e, R, s, m, args, below, meth, c, Q⟩ := X
  obtain ⟨hx, hb, hml, hown, hts, hK, hA, hR, hC, hE⟩ := h
  intro H locs ls hP hD hS hl
  exact lv_aload hx hb hd (hl.2.2 _ (lvg_mem hg)) (k H locs ls hP hD hS hl)
theorem r_istore_n {j : Fin 4} {i : Nat} {x : Int32} (h : rx_ok X cc nL own D tys A d kc ks z) (hd : decode cc pc = .ok (.istore_n j, 1)) (hi : (j : Nat) = i) (hn : i < nL)
    (k : RR X nL D A kc ks ws (lvs lv i (.int x)) (pc + 1) (rest)) : RR X nL D A kc ks ws lv pc (.int x :: rest) := by
  obtain ⟨p, l, e, R, s, m, args, below, meth, c, Q⟩ := X
  obtain ⟨hx, hb, hml, hown, hts, hK, hA, hR, hC, hE⟩ := h
  intro H locs ls hP hD hS hl
  exact lv_istore_n hx hb hd hi hl hn rfl (fun ls hl => k H locs ls hP hD hS hl)
theorem r_istore {i : Nat} {x : Int32} (h : rx_ok X cc nL own D tys A d kc ks z) (hd : decode cc pc = .ok (.istore i, 2)) (hn : i < nL)
    (k : RR X nL D A kc ks ws (lvs lv i (.int x)) (pc + 2) (rest)) : RR X nL D A kc ks ws lv pc (.int x :: rest) := by
  obtain ⟨p, l, e, R, s, m, args, below, meth, c, Q⟩ := X
  obtain ⟨hx, hb, hml, hown, hts, hK, hA, hR, hC, hE⟩ := h
  intro H locs ls hP hD hS hl
  exact lv_istore hx hb hd hl hn rfl (fun ls hl => k H locs ls hP hD hS hl)
theorem r_lstore_n {j : Fin 4} {i : Nat} {x : Int64} (h : rx_ok X cc nL own D tys A d kc ks z) (hd : decode cc pc = .ok (.lstore_n j, 1)) (hi : (j : Nat) = i) (hn : i + 1 < nL)
    (k : RR X nL D A kc ks ws (lvs2 lv i (.long x)) (pc + 1) (rest)) : RR X nL D A kc ks ws lv pc (.long x :: rest) := by
  obtain ⟨p, l, e, R, s, m, args, below, meth, c, Q⟩ := X
  obtain ⟨hx, hb, hml, hown, hts, hK, hA, hR, hC, hE⟩ := h
  intro H locs ls hP hD hS hl
  exact lv_lstore_n hx hb hd hi hl hn rfl (fun ls hl => k H locs ls hP hD hS hl)
theorem r_lstore {i : Nat} {x : Int64} (h : rx_ok X cc nL own D tys A d kc ks z) (hd : decode cc pc = .ok (.lstore i, 2)) (hn : i + 1 < nL)
    (k : RR X nL D A kc ks ws (lvs2 lv i (.long x)) (pc + 2) (rest)) : RR X nL D A kc ks ws lv pc (.long x :: rest) := by
  obtain ⟨p, l, e, R, s, m, args, below, meth, c, Q⟩ := X
  obtain ⟨hx, hb, hml, hown, hts, hK, hA, hR, hC, hE⟩ := h
  intro H locs ls hP hD hS hl
  exact lv_lstore hx hb hd hl hn rfl (fun ls hl => k H locs ls hP hD hS hl)
theorem r_astore_n {j : Fin 4} {i : Nat} {x : Nat} (h : rx_ok X cc nL own D tys A d kc ks z) (hd : decode cc pc = .ok (.astore_n j, 1)) (hi : (j : Nat) = i) (hn : i < nL)
    (k : RR X nL D A kc ks ws (lvs lv i (.ref x)) (pc + 1) (rest)) : RR X nL D A kc ks ws lv pc (.ref x :: rest) := by
  obtain ⟨p, l, e, R, s, m, args, below, meth, c, Q⟩ := X
  obtain ⟨hx, hb, hml, hown, hts, hK, hA, hR, hC, hE⟩ := h
  intro H locs ls hP hD hS hl
  exact lv_astore_n hx hb hd hi hl hn rfl (fun ls hl => k H locs ls hP hD hS hl)
theorem r_astore {i : Nat} {x : Nat} (h : rx_ok X cc nL own D tys A d kc ks z) (hd : decode cc pc = .ok (.astore i, 2)) (hn : i < nL)
    (k : RR X nL D A kc ks ws (lvs lv i (.ref x)) (pc + 2) (rest)) : RR X nL D A kc ks ws lv pc (.ref x :: rest) := by
  obtain ⟨p, l, e, R, s, m, args, below, meth, c, Q⟩ := X
  obtain ⟨hx, hb, hml, hown, hts, hK, hA, hR, hC, hE⟩ := h
  intro H locs ls hP hD hS hl
  exact lv_astore hx hb hd hl hn rfl (fun ls hl => k H locs ls hP hD hS hl)
theorem r_iinc {i : Nat} {n : Int} {x v : Int32} (h : rx_ok X cc nL own D tys A d kc ks z) (hd : decode cc pc = .ok (.iinc i n, 3)) (hg : lvg lv i = some (.int x)) (hv : x + Int32.ofInt n = v) (hn : i < nL)
    (k : RR X nL D A kc ks ws (lvs lv i (.int v)) (pc + 3) rest) : RR X nL D A kc ks ws lv pc rest := by
  obtain ⟨p, l, e, R, s, m, args, below, meth, c, Q⟩ := X
  obtain ⟨hx, hb, hml, hown, hts, hK, hA, hR, hC, hE⟩ := h
  intro H locs ls hP hD hS hl
  obtain ⟨j, hj⟩ := List.getElem?_of_mem (lvg_mem hg)
  exact lv_iinc hx hb hd hl hj hv hn rfl (fun ls hl => k H locs ls hP hD hS hl)
theorem r_iadd {x y : Int32} (h : rx_ok X cc nL own D tys A d kc ks z) (hd : decode cc pc = .ok (.iadd, 1)) 
    (k : RR X nL D A kc ks ws lv (pc + 1) (.int (x + y) :: rest)) : RR X nL D A kc ks ws lv pc (.int y :: .int x :: rest) := by
  obtain ⟨p, l, e, R, s, m, args, below, meth, c, Q⟩ := X
  obtain ⟨hx, hb, hml, hown, hts, hK, hA, hR, hC, hE⟩ := h
  intro H locs ls hP hD hS hl
  exact lv_iadd hx hb hd (k H locs ls hP hD hS hl)
theorem r_isub {x y : Int32} (h : rx_ok X cc nL own D tys A d kc ks z) (hd : decode cc pc = .ok (.isub, 1)) 
    (k : RR X nL D A kc ks ws lv (pc + 1) (.int (x - y) :: rest)) : RR X nL D A kc ks ws lv pc (.int y :: .int x :: rest) := by
  obtain ⟨p, l, e, R, s, m, args, below, meth, c, Q⟩ := X
  obtain ⟨hx, hb, hml, hown, hts, hK, hA, hR, hC, hE⟩ := h
  intro H locs ls hP hD hS hl
  exact lv_isub hx hb hd (k H locs ls hP hD hS hl)
theorem r_imul {x y : Int32} (h : rx_ok X cc nL own D tys A d kc ks z) (hd : decode cc pc = .ok (.imul, 1)) 
    (k : RR X nL D A kc ks ws lv (pc + 1) (.int (x * y) :: rest)) : RR X nL D A kc ks ws lv pc (.int y :: .int x :: rest) := by
  obtain ⟨p, l, e, R, s, m, args, below, meth, c, Q⟩ := X
  obtain ⟨hx, hb, hml, hown, hts, hK, hA, hR, hC, hE⟩ := h
  intro H locs ls hP hD hS hl
  exact lv_imul hx hb hd (k H locs ls hP hD hS hl)
theorem r_iand {x y : Int32} (h : rx_ok X cc nL own D tys A d kc ks z) (hd : decode cc pc = .ok (.iand, 1)) 
    (k : RR X nL D A kc ks ws lv (pc + 1) (.int (x &&& y) :: rest)) : RR X nL D A kc ks ws lv pc (.int y :: .int x :: rest) := by
  obtain ⟨p, l, e, R, s, m, args, below, meth, c, Q⟩ := X
  obtain ⟨hx, hb, hml, hown, hts, hK, hA, hR, hC, hE⟩ := h
  intro H locs ls hP hD hS hl
  exact lv_iand hx hb hd (k H locs ls hP hD hS hl)
theorem r_ladd {x y : Int64} (h : rx_ok X cc nL own D tys A d kc ks z) (hd : decode cc pc = .ok (.ladd, 1)) 
    (k : RR X nL D A kc ks ws lv (pc + 1) (.long (x + y) :: rest)) : RR X nL D A kc ks ws lv pc (.long y :: .long x :: rest) := by
  obtain ⟨p, l, e, R, s, m, args, below, meth, c, Q⟩ := X
  obtain ⟨hx, hb, hml, hown, hts, hK, hA, hR, hC, hE⟩ := h
  intro H locs ls hP hD hS hl
  exact lv_ladd hx hb hd (k H locs ls hP hD hS hl)
theorem r_lsub {x y : Int64} (h : rx_ok X cc nL own D tys A d kc ks z) (hd : decode cc pc = .ok (.lsub, 1)) 
    (k : RR X nL D A kc ks ws lv (pc + 1) (.long (x - y) :: rest)) : RR X nL D A kc ks ws lv pc (.long y :: .long x :: rest) := by
  obtain ⟨p, l, e, R, s, m, args, below, meth, c, Q⟩ := X
  obtain ⟨hx, hb, hml, hown, hts, hK, hA, hR, hC, hE⟩ := h
  intro H locs ls hP hD hS hl
  exact lv_lsub hx hb hd (k H locs ls hP hD hS hl)
theorem r_lmul {x y : Int64} (h : rx_ok X cc nL own D tys A d kc ks z) (hd : decode cc pc = .ok (.lmul, 1)) 
    (k : RR X nL D A kc ks ws lv (pc + 1) (.long (x * y) :: rest)) : RR X nL D A kc ks ws lv pc (.long y :: .long x :: rest) := by
  obtain ⟨p, l, e, R, s, m, args, below, meth, c, Q⟩ := X
  obtain ⟨hx, hb, hml, hown, hts, hK, hA, hR, hC, hE⟩ := h
  intro H locs ls hP hD hS hl
  exact lv_lmul hx hb hd (k H locs ls hP hD hS hl)
theorem r_ineg {x : Int32} (h : rx_ok X cc nL own D tys A d kc ks z) (hd : decode cc pc = .ok (.ineg, 1)) 
    (k : RR X nL D A kc ks ws lv (pc + 1) (.int (-x) :: rest)) : RR X nL D A kc ks ws lv pc (.int x :: rest) := by
  obtain ⟨p, l, e, R, s, m, args, below, meth, c, Q⟩ := X
  obtain ⟨hx, hb, hml, hown, hts, hK, hA, hR, hC, hE⟩ := h
  intro H locs ls hP hD hS hl
  exact lv_ineg hx hb hd (k H locs ls hP hD hS hl)
theorem r_i2l {x : Int32} {v : Int64} (h : rx_ok X cc nL own D tys A d kc ks z) (hd : decode cc pc = .ok (.i2l, 1)) (hv : x.toInt64 = v)
    (k : RR X nL D A kc ks ws lv (pc + 1) (.long v :: rest)) : RR X nL D A kc ks ws lv pc (.int x :: rest) := by
  obtain ⟨p, l, e, R, s, m, args, below, meth, c, Q⟩ := X
  obtain ⟨hx, hb, hml, hown, hts, hK, hA, hR, hC, hE⟩ := h
  intro H locs ls hP hD hS hl
  exact lv_i2l hx hb hd hv (k H locs ls hP hD hS hl)
theorem r_l2i {x : Int64} {v : Int32} (h : rx_ok X cc nL own D tys A d kc ks z) (hd : decode cc pc = .ok (.l2i, 1)) (hv : x.toInt32 = v)
    (k : RR X nL D A kc ks ws lv (pc + 1) (.int v :: rest)) : RR X nL D A kc ks ws lv pc (.long x :: rest) := by
  obtain ⟨p, l, e, R, s, m, args, below, meth, c, Q⟩ := X
  obtain ⟨hx, hb, hml, hown, hts, hK, hA, hR, hC, hE⟩ := h
  intro H locs ls hP hD hS hl
  exact lv_l2i hx hb hd hv (k H locs ls hP hD hS hl)
theorem r_lcmp {x y : Int64} (h : rx_ok X cc nL own D tys A d kc ks z) (hd : decode cc pc = .ok (.lcmp, 1)) 
    (k : RR X nL D A kc ks ws lv (pc + 1) (.int (lg_cmp x y) :: rest)) : RR X nL D A kc ks ws lv pc (.long y :: .long x :: rest) := by
  obtain ⟨p, l, e, R, s, m, args, below, meth, c, Q⟩ := X
  obtain ⟨hx, hb, hml, hown, hts, hK, hA, hR, hC, hE⟩ := h
  intro H locs ls hP hD hS hl
  exact W.lcmp hx hb hd (k H locs ls hP hD hS hl)
theorem r_dup {v : Value} (h : rx_ok X cc nL own D tys A d kc ks z) (hd : decode cc pc = .ok (.dup, 1)) (hc : v.category = 1)
    (k : RR X nL D A kc ks ws lv (pc + 1) (v :: v :: rest)) : RR X nL D A kc ks ws lv pc (v :: rest) := by
  obtain ⟨p, l, e, R, s, m, args, below, meth, c, Q⟩ := X
  obtain ⟨hx, hb, hml, hown, hts, hK, hA, hR, hC, hE⟩ := h
  intro H locs ls hP hD hS hl
  exact lv_dup hx hb hd hc (k H locs ls hP hD hS hl)
theorem r_pop {v : Value} (h : rx_ok X cc nL own D tys A d kc ks z) (hd : decode cc pc = .ok (.pop, 1)) (hc : v.category = 1)
    (k : RR X nL D A kc ks ws lv (pc + 1) (rest)) : RR X nL D A kc ks ws lv pc (v :: rest) := by
  obtain ⟨p, l, e, R, s, m, args, below, meth, c, Q⟩ := X
  obtain ⟨hx, hb, hml, hown, hts, hK, hA, hR, hC, hE⟩ := h
  intro H locs ls hP hD hS hl
  exact lv_pop hx hb hd hc (k H locs ls hP hD hS hl)
theorem r_dup_x1 {v v2 : Value} (h : rx_ok X cc nL own D tys A d kc ks z) (hd : decode cc pc = .ok (.dup_x1, 1)) (hc : v.category = 1) (hc2 : v2.category = 1)
    (k : RR X nL D A kc ks ws lv (pc + 1) (v :: v2 :: v :: rest)) : RR X nL D A kc ks ws lv pc (v :: v2 :: rest) := by
  obtain ⟨p, l, e, R, s, m, args, below, meth, c, Q⟩ := X
  obtain ⟨hx, hb, hml, hown, hts, hK, hA, hR, hC, hE⟩ := h
  intro H locs ls hP hD hS hl
  exact lv_dup_x1 hx hb hd hc hc2 (k H locs ls hP hD hS hl)
theorem r_dup_x2 {v v2 v3 : Value} (h : rx_ok X cc nL own D tys A d kc ks z) (hd : decode cc pc = .ok (.dup_x2, 1)) (hc : v.category = 1) (hc2 : v2.category = 1) (hc3 : v3.category = 1)
    (k : RR X nL D A kc ks ws lv (pc + 1) (v :: v2 :: v3 :: v :: rest)) : RR X nL D A kc ks ws lv pc (v :: v2 :: v3 :: rest) := by
  obtain ⟨p, l, e, R, s, m, args, below, meth, c, Q⟩ := X
  obtain ⟨hx, hb, hml, hown, hts, hK, hA, hR, hC, hE⟩ := h
  intro H locs ls hP hD hS hl
  exact lv_dup_x2 hx hb hd hc hc2 hc3 (k H locs ls hP hD hS hl)
theorem r_dup2 {v v2 : Value} (h : rx_ok X cc nL own D tys A d kc ks z) (hd : decode cc pc = .ok (.dup2, 1)) (hc : v.category = 1) (hc2 : v2.category = 1)
    (k : RR X nL D A kc ks ws lv (pc + 1) (v :: v2 :: v :: v2 :: rest)) : RR X nL D A kc ks ws lv pc (v :: v2 :: rest) := by
  obtain ⟨p, l, e, R, s, m, args, below, meth, c, Q⟩ := X
  obtain ⟨hx, hb, hml, hown, hts, hK, hA, hR, hC, hE⟩ := h
  intro H locs ls hP hD hS hl
  exact lv_dup2_11 hx hb hd hc hc2 (k H locs ls hP hD hS hl)
theorem r_if_eq {x : Int32} {off : Int} (tgt : Nat) (h : rx_ok X cc nL own D tys A d kc ks z) (hd : decode cc pc = .ok (.ifCond .eq off, 3)) (ht : (pc : Int) + off = (tgt : Int))
    (kt : x = 0 → RR X nL D A kc ks ws lv tgt rest) (kf : ¬ x = 0 → RR X nL D A kc ks ws lv (pc + 3) rest) : RR X nL D A kc ks ws lv pc (.int x :: rest) := by
  obtain ⟨p, l, e, R, s, m, args, below, meth, c, Q⟩ := X
  obtain ⟨hx, hb, hml, hown, hts, hK, hA, hR, hC, hE⟩ := h
  intro H locs ls hP hD hS hl
  exact lv_if_eq hx hb hd ht (fun q => kt q H locs ls hP hD hS hl) (fun q => kf q H locs ls hP hD hS hl)
theorem r_icmp_eq {x y : Int32} {off : Int} (tgt : Nat) (h : rx_ok X cc nL own D tys A d kc ks z) (hd : decode cc pc = .ok (.if_icmp .eq off, 3)) (ht : (pc : Int) + off = (tgt : Int))
    (kt : x = y → RR X nL D A kc ks ws lv tgt rest) (kf : ¬ x = y → RR X nL D A kc ks ws lv (pc + 3) rest) : RR X nL D A kc ks ws lv pc (.int y :: .int x :: rest) := by
  obtain ⟨p, l, e, R, s, m, args, below, meth, c, Q⟩ := X
  obtain ⟨hx, hb, hml, hown, hts, hK, hA, hR, hC, hE⟩ := h
  intro H locs ls hP hD hS hl
  exact lv_icmp_eq hx hb hd ht (fun q => kt q H locs ls hP hD hS hl) (fun q => kf q H locs ls hP hD hS hl)
theorem r_if_ne {x : Int32} {off : Int} (tgt : Nat) (h : rx_ok X cc nL own D tys A d kc ks z) (hd : decode cc pc = .ok (.ifCond .ne off, 3)) (ht : (pc : Int) + off = (tgt : Int))
    (kt : ¬ x = 0 → RR X nL D A kc ks ws lv tgt rest) (kf : x = 0 → RR X nL D A kc ks ws lv (pc + 3) rest) : RR X nL D A kc ks ws lv pc (.int x :: rest) := by
  obtain ⟨p, l, e, R, s, m, args, below, meth, c, Q⟩ := X
  obtain ⟨hx, hb, hml, hown, hts, hK, hA, hR, hC, hE⟩ := h
  intro H locs ls hP hD hS hl
  exact lv_if_ne hx hb hd ht (fun q => kt q H locs ls hP hD hS hl) (fun q => kf q H locs ls hP hD hS hl)
theorem r_icmp_ne {x y : Int32} {off : Int} (tgt : Nat) (h : rx_ok X cc nL own D tys A d kc ks z) (hd : decode cc pc = .ok (.if_icmp .ne off, 3)) (ht : (pc : Int) + off = (tgt : Int))
    (kt : ¬ x = y → RR X nL D A kc ks ws lv tgt rest) (kf : x = y → RR X nL D A kc ks ws lv (pc + 3) rest) : RR X nL D A kc ks ws lv pc (.int y :: .int x :: rest) := by
  obtain ⟨p, l, e, R, s, m, args, below, meth, c, Q⟩ := X
  obtain ⟨hx, hb, hml, hown, hts, hK, hA, hR, hC, hE⟩ := h
  intro H locs ls hP hD hS hl
  exact lv_icmp_ne hx hb hd ht (fun q => kt q H locs ls hP hD hS hl) (fun q => kf q H locs ls hP hD hS hl)
theorem r_if_lt {x : Int32} {off : Int} (tgt : Nat) (h : rx_ok X cc nL own D tys A d kc ks z) (hd : decode cc pc = .ok (.ifCond .lt off, 3)) (ht : (pc : Int) + off = (tgt : Int))
    (kt : x < 0 → RR X nL D A kc ks ws lv tgt rest) (kf : ¬ x < 0 → RR X nL D A kc ks ws lv (pc + 3) rest) : RR X nL D A kc ks ws lv pc (.int x :: rest) := by
  obtain ⟨p, l, e, R, s, m, args, below, meth, c, Q⟩ := X
  obtain ⟨hx, hb, hml, hown, hts, hK, hA, hR, hC, hE⟩ := h
  intro H locs ls hP hD hS hl
  exact lv_if_lt hx hb hd ht (fun q => kt q H locs ls hP hD hS hl) (fun q => kf q H locs ls hP hD hS hl)
theorem r_icmp_lt {x y : Int32} {off : Int} (tgt : Nat) (h : rx_ok X cc nL own D tys A d kc ks z) (hd : decode cc pc = .ok (.if_icmp .lt off, 3)) (ht : (pc : Int) + off = (tgt : Int))
    (kt : x < y → RR X nL D A kc ks ws lv tgt rest) (kf : ¬ x < y → RR X nL D A kc ks ws lv (pc + 3) rest) : RR X nL D A kc ks ws lv pc (.int y :: .int x :: rest) := by
  obtain ⟨p, l, e, R, s, m, args, below, meth, c, Q⟩ := X
  obtain ⟨hx, hb, hml, hown, hts, hK, hA, hR, hC, hE⟩ := h
  intro H locs ls hP hD hS hl
  exact lv_icmp_lt hx hb hd ht (fun q => kt q H locs ls hP hD hS hl) (fun q => kf q H locs ls hP hD hS hl)
theorem r_if_ge {x : Int32} {off : Int} (tgt : Nat) (h : rx_ok X cc nL own D tys A d kc ks z) (hd : decode cc pc = .ok (.ifCond .ge off, 3)) (ht : (pc : Int) + off = (tgt : Int))
    (kt : 0 ≤ x → RR X nL D A kc ks ws lv tgt rest) (kf : ¬ 0 ≤ x → RR X nL D A kc ks ws lv (pc + 3) rest) : RR X nL D A kc ks ws lv pc (.int x :: rest) := by
  obtain ⟨p, l, e, R, s, m, args, below, meth, c, Q⟩ := X
  obtain ⟨hx, hb, hml, hown, hts, hK, hA, hR, hC, hE⟩ := h
  intro H locs ls hP hD hS hl
  exact lv_if_ge hx hb hd ht (fun q => kt q H locs ls hP hD hS hl) (fun q => kf q H locs ls hP hD hS hl)
theorem r_icmp_ge {x y : Int32} {off : Int} (tgt : Nat) (h : rx_ok X cc nL own D tys A d kc ks z) (hd : decode cc pc = .ok (.if_icmp .ge off, 3)) (ht : (pc : Int) + off = (tgt : Int))
    (kt : y ≤ x → RR X nL D A kc ks ws lv tgt rest) (kf : ¬ y ≤ x → RR X nL D A kc ks ws lv (pc + 3) rest) : RR X nL D A kc ks ws lv pc (.int y :: .int x :: rest) := by
  obtain ⟨p, l, e, R, s, m, args, below, meth, c, Q⟩ := X
  obtain ⟨hx, hb, hml, hown, hts, hK, hA, hR, hC, hE⟩ := h
  intro H locs ls hP hD hS hl
  exact lv_icmp_ge hx hb hd ht (fun q => kt q H locs ls hP hD hS hl) (fun q => kf q H locs ls hP hD hS hl)
theorem r_if_gt {x : Int32} {off : Int} (tgt : Nat) (h : rx_ok X cc nL own D tys A d kc ks z) (hd : decode cc pc = .ok (.ifCond .gt off, 3)) (ht : (pc : Int) + off = (tgt : Int))
    (kt : 0 < x → RR X nL D A kc ks ws lv tgt rest) (kf : ¬ 0 < x → RR X nL D A kc ks ws lv (pc + 3) rest) : RR X nL D A kc ks ws lv pc (.int x :: rest) := by
  obtain ⟨p, l, e, R, s, m, args, below, meth, c, Q⟩ := X
  obtain ⟨hx, hb, hml, hown, hts, hK, hA, hR, hC, hE⟩ := h
  intro H locs ls hP hD hS hl
  exact lv_if_gt hx hb hd ht (fun q => kt q H locs ls hP hD hS hl) (fun q => kf q H locs ls hP hD hS hl)
theorem r_icmp_gt {x y : Int32} {off : Int} (tgt : Nat) (h : rx_ok X cc nL own D tys A d kc ks z) (hd : decode cc pc = .ok (.if_icmp .gt off, 3)) (ht : (pc : Int) + off = (tgt : Int))
    (kt : y < x → RR X nL D A kc ks ws lv tgt rest) (kf : ¬ y < x → RR X nL D A kc ks ws lv (pc + 3) rest) : RR X nL D A kc ks ws lv pc (.int y :: .int x :: rest) := by
  obtain ⟨p, l, e, R, s, m, args, below, meth, c, Q⟩ := X
  obtain ⟨hx, hb, hml, hown, hts, hK, hA, hR, hC, hE⟩ := h
  intro H locs ls hP hD hS hl
  exact lv_icmp_gt hx hb hd ht (fun q => kt q H locs ls hP hD hS hl) (fun q => kf q H locs ls hP hD hS hl)
theorem r_if_le {x : Int32} {off : Int} (tgt : Nat) (h : rx_ok X cc nL own D tys A d kc ks z) (hd : decode cc pc = .ok (.ifCond .le off, 3)) (ht : (pc : Int) + off = (tgt : Int))
    (kt : x ≤ 0 → RR X nL D A kc ks ws lv tgt rest) (kf : ¬ x ≤ 0 → RR X nL D A kc ks ws lv (pc + 3) rest) : RR X nL D A kc ks ws lv pc (.int x :: rest) := by
  obtain ⟨p, l, e, R, s, m, args, below, meth, c, Q⟩ := X
  obtain ⟨hx, hb, hml, hown, hts, hK, hA, hR, hC, hE⟩ := h
  intro H locs ls hP hD hS hl
  exact lv_if_le hx hb hd ht (fun q => kt q H locs ls hP hD hS hl) (fun q => kf q H locs ls hP hD hS hl)
theorem r_icmp_le {x y : Int32} {off : Int} (tgt : Nat) (h : rx_ok X cc nL own D tys A d kc ks z) (hd : decode cc pc = .ok (.if_icmp .le off, 3)) (ht : (pc : Int) + off = (tgt : Int))
    (kt : x ≤ y → RR X nL D A kc ks ws lv tgt rest) (kf : ¬ x ≤ y → RR X nL D A kc ks ws lv (pc + 3) rest) : RR X nL D A kc ks ws lv pc (.int y :: .int x :: rest) := by
  obtain ⟨p, l, e, R, s, m, args, below, meth, c, Q⟩ := X
  obtain ⟨hx, hb, hml, hown, hts, hK, hA, hR, hC, hE⟩ := h
  intro H locs ls hP hD hS hl
  exact lv_icmp_le hx hb hd ht (fun q => kt q H locs ls hP hD hS hl) (fun q => kf q H locs ls hP hD hS hl)
theorem r_goto {off : Int} (tgt : Nat) (h : rx_ok X cc nL own D tys A d kc ks z) (hd : decode cc pc = .ok (.goto off, 3)) (ht : (pc : Int) + off = (tgt : Int)) (k : RR X nL D A kc ks ws lv tgt rest) : RR X nL D A kc ks ws lv pc rest := by
  obtain ⟨p, l, e, R, s, m, args, below, meth, c, Q⟩ := X
  obtain ⟨hx, hb, hml, hown, hts, hK, hA, hR, hC, hE⟩ := h
  intro H locs ls hP hD hS hl
  exact lv_goto hx hb hd ht (k H locs ls hP hD hS hl)
theorem r_ldc2 {index : Nat} {v : Int64} (h : rx_ok X cc nL own D tys A d kc ks z) (hd : decode cc pc = .ok (.ldc2_w index, 3)) (hw : Cond.constantLong own index v ∈ TB) (k : RR X nL D A kc ks ws lv (pc + 3) (.long v :: rest)) : RR X nL D A kc ks ws lv pc rest := by
  obtain ⟨p, l, e, R, s, m, args, below, meth, c, Q⟩ := X
  obtain ⟨hx, hb, hml, hown, hts, hK, hA, hR, hC, hE⟩ := h
  intro H locs ls hP hD hS hl
  exact lv_ldc2 hx hb hown (hts _ hw) hd (k H locs ls hP hD hS hl)
theorem r_ldc {index : Nat} {v : Int32} (h : rx_ok X cc nL own D tys A d kc ks z) (hd : decode cc pc = .ok (.ldc index, 2)) (hw : Cond.constant own index v ∈ TB) (k : RR X nL D A kc ks ws lv (pc + 2) (.int v :: rest)) : RR X nL D A kc ks ws lv pc rest := by
  obtain ⟨p, l, e, R, s, m, args, below, meth, c, Q⟩ := X
  obtain ⟨hx, hb, hml, hown, hts, hK, hA, hR, hC, hE⟩ := h
  intro H locs ls hP hD hS hl
  exact lv_ldc hx hb hown (hts _ hw) hd (k H locs ls hP hD hS hl)
theorem r_tableOut {dflt lo hi : Int} {offs : Array Int} {len : Nat} {x : Int32} (tgt : Nat) (h : rx_ok X cc nL own D tys A d kc ks z) (hd : decode cc pc = .ok (.tableswitch dflt lo hi offs, len)) (hq : x.toInt < lo ∨ hi < x.toInt) (ht : (pc : Int) + dflt = (tgt : Int)) (k : RR X nL D A kc ks ws lv tgt rest) : RR X nL D A kc ks ws lv pc (.int x :: rest) := by
  obtain ⟨p, l, e, R, s, m, args, below, meth, c, Q⟩ := X
  obtain ⟨hx, hb, hml, hown, hts, hK, hA, hR, hC, hE⟩ := h
  intro H locs ls hP hD hS hl
  exact lv_tableOut hx hb hd hq ht (k H locs ls hP hD hS hl)
theorem r_tableIn {dflt lo hi : Int} {offs : Array Int} {len : Nat} {x : Int32} {off : Int} (tgt : Nat) (h : rx_ok X cc nL own D tys A d kc ks z) (hd : decode cc pc = .ok (.tableswitch dflt lo hi offs, len)) (h1 : ¬ x.toInt < lo) (h2 : ¬ hi < x.toInt) (ho : offs[(x.toInt - lo).toNat]? = some off) (ht : (pc : Int) + off = (tgt : Int)) (k : RR X nL D A kc ks ws lv tgt rest) : RR X nL D A kc ks ws lv pc (.int x :: rest) := by
  obtain ⟨p, l, e, R, s, m, args, below, meth, c, Q⟩ := X
  obtain ⟨hx, hb, hml, hown, hts, hK, hA, hR, hC, hE⟩ := h
  intro H locs ls hP hD hS hl
  exact lv_tableIn hx hb hd h1 h2 ho ht (k H locs ls hP hD hS hl)
theorem r_lookup {dflt : Int} {ps : Array (Int × Int)} {len : Nat} {x : Int32} {off : Int} (tgt : Nat) (h : rx_ok X cc nL own D tys A d kc ks z) (hd : decode cc pc = .ok (.lookupswitch dflt ps, len)) (hp : (ps.toList.zip (ps.toList.drop 1)).all (fun (a, next) => a.1 < next.1) = true) (ho : Op.lookupswitch.offset ps.toList dflt x.toInt = off) (ht : (pc : Int) + off = (tgt : Int)) (k : RR X nL D A kc ks ws lv tgt rest) : RR X nL D A kc ks ws lv pc (.int x :: rest) := by
  obtain ⟨p, l, e, R, s, m, args, below, meth, c, Q⟩ := X
  obtain ⟨hx, hb, hml, hown, hts, hK, hA, hR, hC, hE⟩ := h
  intro H locs ls hP hD hS hl
  exact lv_lookup hx hb hd hp ho ht (k H locs ls hP hD hS hl)
theorem r_get {ref C : String} {T : u_T} {N ci index a : Nat} {fs : List Value} {v : Value} (q0 k0 : Nat) (h : rx_ok X cc nL own D tys A d kc ks z) (hd : decode cc pc = .ok (.getfield index, 3)) (he : ws[q0]? = some (a, .inr (ci, fs))) (hc : vwCl[ci]? = some (C, T, N)) (hin : ∀ w ∈ u_ws C T N, w ∈ TB) (hk : k0 < N) (hlink : Cond.fieldLink own index ref (T k0).2.1 (T k0).2.2.1 ∈ TB) (href : (T k0).1 = ref) (hv : fs[k0]? = some v)
    (k : RR X nL D A kc ks ws lv (pc + 3) (v :: rest)) : RR X nL D A kc ks ws lv pc (.ref a :: rest) := by
  obtain ⟨p, l, e, R, s, m, args, below, meth, c, Q⟩ := X
  obtain ⟨hx, hb, hml, hown, hts, hK, hA, hR, hC, hE⟩ := h
  intro H locs ls hP hD hS hl
  subst href
  exact va_get hx hb hts hin hown hK hP q0 he hc k0 hk (hts _ hlink) (fun _ h9 => h9) hv hd (k H locs ls hP hD hS hl)
theorem r_put {ref C : String} {T : u_T} {N ci index a : Nat} {fs : List Value} {v : Value} {ty : FieldType} {ty0 : Nat → FieldType} (q0 k0 : Nat) (h : rx_ok X cc nL own D tys A d kc ks z) (hd : decode cc pc = .ok (.putfield index, 3)) (he : ws[q0]? = some (a, .inr (ci, fs))) (hc : vwCl[ci]? = some (C, T, N)) (hin : ∀ w ∈ u_ws C T N, w ∈ TB) (hty : ∀ k, k < N → parseFieldDescriptor (T k).2.2.1 = some (ty0 k)) (hnm : ∀ a, a < N → ∀ b, b < N → a ≠ b → (T a).2.1 ≠ (T b).2.1) (hk : k0 < N) (hlink : Cond.fieldLink own index ref (T k0).2.1 (T k0).2.2.1 ∈ TB) (href : (T k0).1 = ref) (hfin : (T k0).2.2.2 = false) (hty0 : ty0 k0 = ty) (hn : narrow ty v = v) (hfit : fits ty v = true) (hl0 : k0 < fs.length)
    (k : RR X nL D A kc ks (ws.set q0 (a, .inr (ci, fs.set k0 v))) lv (pc + 3) rest) : RR X nL D A kc ks ws lv pc (v :: .ref a :: rest) := by
  obtain ⟨p, l, e, R, s, m, args, below, meth, c, Q⟩ := X
  obtain ⟨hx, hb, hml, hown, hts, hK, hA, hR, hC, hE⟩ := h
  intro H locs ls hP hD hS hl
  subst href
  exact va_put hx hb hts hin ty0 hty hnm hown hK hP hD hS q0 he hc k0 hk (hts _ hlink) (fun _ h9 => h9) hfin ((hty k0 hk).trans (by rw [hty0])) hn hfit hl0 hd (fun H locs hP hD hS => k H locs ls hP hD hS hl)
theorem r_putF {ref C : String} {T : u_T} {N ci index a : Nat} {fs : List Value} {v : Value} {ty : FieldType} {ty0 : Nat → FieldType} (q0 k0 : Nat) (h : rx_ok X cc nL own D tys A d kc ks z) (hin2 : X.2.2.2.2.2.2.2.2.1.name = "<init>") (hd : decode cc pc = .ok (.putfield index, 3)) (he : ws[q0]? = some (a, .inr (ci, fs))) (hc : vwCl[ci]? = some (C, T, N)) (hin : ∀ w ∈ u_ws C T N, w ∈ TB) (hty : ∀ k, k < N → parseFieldDescriptor (T k).2.2.1 = some (ty0 k)) (hnm : ∀ a, a < N → ∀ b, b < N → a ≠ b → (T a).2.1 ≠ (T b).2.1) (hk : k0 < N) (hlink : Cond.fieldLink own index ref (T k0).2.1 (T k0).2.2.1 ∈ TB) (href : (T k0).1 = ref) (hfin : (T k0).2.2.2 = true) (hdecl : (T k0).1 = own) (hty0 : ty0 k0 = ty) (hn : narrow ty v = v) (hfit : fits ty v = true) (hl0 : k0 < fs.length)
    (k : RR X nL D A kc ks (ws.set q0 (a, .inr (ci, fs.set k0 v))) lv (pc + 3) rest) : RR X nL D A kc ks ws lv pc (v :: .ref a :: rest) := by
  obtain ⟨p, l, e, R, s, m, args, below, meth, c, Q⟩ := X
  obtain ⟨hx, hb, hml, hown, hts, hK, hA, hR, hC, hE⟩ := h
  intro H locs ls hP hD hS hl
  subst href
  exact va_putF hx hb hts hin ty0 hty hnm hown hK hP hD hS q0 he hc k0 hk (hts _ hlink) (fun _ h9 => h9) hfin hin2 hdecl ((hty k0 hk).trans (by rw [hty0])) hn hfit hl0 hd (fun H locs hP hD hS => k H locs ls hP hD hS hl)
theorem rx_in {i : Int32} {j n : Nat} (hi : i = nI j) (hj : j < n) (hn : n < 2 ^ 31) : vp_in i n ∧ i.toNatClampNeg = j := by
  subst hi
  exact ⟨vp_in_nI hj hn, nI_clamp (Nat.lt_trans hj hn)⟩
theorem r_iald {a n : Nat} {cA : ClassId} {f : Nat → Int32} {i : Int32} (q0 t0 j : Nat) (h : rx_ok X cc nL own D tys A d kc ks z) (hd : decode cc pc = .ok (.iaload, 1)) (ha : ws[q0]? = some (a, .inl (cA, n, .inl f))) (ht : tys[t0]? = some (cA, .int)) (hi : i = nI j) (hj : j < n) (hn : n < 2 ^ 31)
    (k : RR X nL D A kc ks ws lv (pc + 1) (.int (f j) :: rest)) : RR X nL D A kc ks ws lv pc (.int i :: .ref a :: rest) := by
  obtain ⟨p, l, e, R, s, m, args, below, meth, c, Q⟩ := X
  obtain ⟨hx, hb, hml, hown, hts, hK, hA, hR, hC, hE⟩ := h
  intro H locs ls hP hD hS hl
  obtain ⟨h1, h2⟩ := rx_in hi hj hn
  refine va_iald hx hb hK hP q0 t0 ha ht h1 hd ?_
  rw [h2]
  exact k H locs ls hP hD hS hl
theorem r_zald {a n : Nat} {cA : ClassId} {f : Nat → Int32} {i : Int32} (q0 t0 j : Nat) (h : rx_ok X cc nL own D tys A d kc ks z) (hd : decode cc pc = .ok (.baload, 1)) (ha : ws[q0]? = some (a, .inl (cA, n, .inl f))) (ht : tys[t0]? = some (cA, .boolean)) (hi : i = nI j) (hj : j < n) (hn : n < 2 ^ 31)
    (k : RR X nL D A kc ks ws lv (pc + 1) (.int (f j) :: rest)) : RR X nL D A kc ks ws lv pc (.int i :: .ref a :: rest) := by
  obtain ⟨p, l, e, R, s, m, args, below, meth, c, Q⟩ := X
  obtain ⟨hx, hb, hml, hown, hts, hK, hA, hR, hC, hE⟩ := h
  intro H locs ls hP hD hS hl
  obtain ⟨h1, h2⟩ := rx_in hi hj hn
  refine va_zald hx hb hK hP q0 t0 ha ht h1 hd ?_
  rw [h2]
  exact k H locs ls hP hD hS hl
theorem r_iast {a n : Nat} {cA : ClassId} {f : Nat → Int32} {i x : Int32} (q0 t0 j : Nat) (h : rx_ok X cc nL own D tys A d kc ks z) (hd : decode cc pc = .ok (.iastore, 1)) (ha : ws[q0]? = some (a, .inl (cA, n, .inl f))) (ht : tys[t0]? = some (cA, .int)) (hi : i = nI j) (hj : j < n) (hn : n < 2 ^ 31)
    (k : RR X nL D A kc ks (ws.set q0 (a, .inl (cA, n, .inl (upd f j x)))) lv (pc + 1) rest) : RR X nL D A kc ks ws lv pc (.int x :: .int i :: .ref a :: rest) := by
  obtain ⟨p, l, e, R, s, m, args, below, meth, c, Q⟩ := X
  obtain ⟨hx, hb, hml, hown, hts, hK, hA, hR, hC, hE⟩ := h
  intro H locs ls hP hD hS hl
  obtain ⟨h1, h2⟩ := rx_in hi hj hn
  refine va_iast hx hb hK hP hD hS q0 t0 ha ht h1 hd (fun H locs hP hD hS => ?_)
  rw [h2] at hP hD
  exact k H locs ls hP hD hS hl
theorem r_zast {a n : Nat} {cA : ClassId} {f : Nat → Int32} {i x : Int32} (q0 t0 j : Nat) (h : rx_ok X cc nL own D tys A d kc ks z) (hd : decode cc pc = .ok (.bastore, 1)) (ha : ws[q0]? = some (a, .inl (cA, n, .inl f))) (ht : tys[t0]? = some (cA, .boolean)) (hi : i = nI j) (hj : j < n) (hn : n < 2 ^ 31) {y : Int32} (hy : vp_nar .boolean x = y)
    (k : RR X nL D A kc ks (ws.set q0 (a, .inl (cA, n, .inl (upd f j y)))) lv (pc + 1) rest) : RR X nL D A kc ks ws lv pc (.int x :: .int i :: .ref a :: rest) := by
  obtain ⟨p, l, e, R, s, m, args, below, meth, c, Q⟩ := X
  obtain ⟨hx, hb, hml, hown, hts, hK, hA, hR, hC, hE⟩ := h
  intro H locs ls hP hD hS hl
  obtain ⟨h1, h2⟩ := rx_in hi hj hn
  refine va_zast hx hb hK hP hD hS q0 t0 ha ht h1 hd (fun H locs hP hD hS => ?_)
  rw [h2, hy] at hP hD
  exact k H locs ls hP hD hS hl
theorem r_aald {a n : Nat} {cA : ClassId} {C : String} {f : Nat → Option Nat} {i : Int32} {v : Nat} (q0 t0 j : Nat) (h : rx_ok X cc nL own D tys A d kc ks z) (hd : decode cc pc = .ok (.aaload, 1)) (ha : ws[q0]? = some (a, .inl (cA, n, .inr (.inr (.inr (.inr f)))))) (ht : tys[t0]? = some (cA, .object C)) (hi : i = nI j) (hj : j < n) (hn : n < 2 ^ 31) (hv : f j = some v)
    (k : RR X nL D A kc ks ws lv (pc + 1) (.ref v :: rest)) : RR X nL D A kc ks ws lv pc (.int i :: .ref a :: rest) := by
  obtain ⟨p, l, e, R, s, m, args, below, meth, c, Q⟩ := X
  obtain ⟨hx, hb, hml, hown, hts, hK, hA, hR, hC, hE⟩ := h
  intro H locs ls hP hD hS hl
  obtain ⟨h1, h2⟩ := rx_in hi hj hn
  refine va_aldq hx hb hK hP q0 t0 ha ht h1 hd ?_
  rw [h2, hv]
  exact k H locs ls hP hD hS hl
theorem r_alen {a : Nat} {cA : ClassId} {x : vp_A} {ty : FieldType} {v : Int32} (q0 t0 : Nat) (h : rx_ok X cc nL own D tys A d kc ks z) (hd : decode cc pc = .ok (.arraylength, 1)) (ha : ws[q0]? = some (a, .inl (cA, x))) (ht : tys[t0]? = some (cA, ty)) (hv : Int32.ofNat x.1 = v)
    (k : RR X nL D A kc ks ws lv (pc + 1) (.int v :: rest)) : RR X nL D A kc ks ws lv pc (.ref a :: rest) := by
  obtain ⟨p, l, e, R, s, m, args, below, meth, c, Q⟩ := X
  obtain ⟨hx, hb, hml, hown, hts, hK, hA, hR, hC, hE⟩ := h
  intro H locs ls hP hD hS hl
  exact va_alen hx hb hK hP q0 t0 ha ht hv hd (k H locs ls hP hD hS hl)
theorem r_min {index : Nat} {x y : Int32} (h : rx_ok X cc nL own D tys A d kc ks z) (hd : decode cc pc = .ok (.invokestatic index, 3)) (hlink : Cond.methodLink own index Lib.Math.min.name ∈ TB) (hstat : Cond.static Lib.Math.min.name ∈ TB) (hini : Cond.initialized "java/lang/Math" ∈ TB) (hcode : Cond.code Lib.Math.min.name Lib.Math.min.code 2 (some .int) ∈ TB) (hd1 : 1 ≤ d) (hrest : (rest.map fun v => v.category).sum ≤ 8)
    (k : RR X nL D A kc ks ws lv (pc + 3) (.int (if y < x then y else x) :: rest)) : RR X nL D A kc ks ws lv pc (.int y :: .int x :: rest) := by
  obtain ⟨p, l, e, R, s, m, args, below, meth, c, Q⟩ := X
  obtain ⟨hx, hb, hml, hown, hts, hK, hA, hR, hC, hE⟩ := h
  intro H locs ls hP hD hS hl
  exact va_mmin hx hb (hml.trans hl.1.symm) hown (hts _ hlink) (hts _ hstat) (hts _ hini) (hts _ hcode) (by omega) (by omega) hC.1 hC.2 hd (k H locs ls hP hD hS hl)
theorem r_max {index : Nat} {x y : Int32} (h : rx_ok X cc nL own D tys A d kc ks z) (hd : decode cc pc = .ok (.invokestatic index, 3)) (hlink : Cond.methodLink own index Lib.Math.max.name ∈ TB) (hstat : Cond.static Lib.Math.max.name ∈ TB) (hini : Cond.initialized "java/lang/Math" ∈ TB) (hcode : Cond.code Lib.Math.max.name Lib.Math.max.code 2 (some .int) ∈ TB) (hd1 : 1 ≤ d) (hrest : (rest.map fun v => v.category).sum ≤ 8)
    (k : RR X nL D A kc ks ws lv (pc + 3) (.int (if x < y then y else x) :: rest)) : RR X nL D A kc ks ws lv pc (.int y :: .int x :: rest) := by
  obtain ⟨p, l, e, R, s, m, args, below, meth, c, Q⟩ := X
  obtain ⟨hx, hb, hml, hown, hts, hK, hA, hR, hC, hE⟩ := h
  intro H locs ls hP hD hS hl
  exact va_mmax hx hb (hml.trans hl.1.symm) hown (hts _ hlink) (hts _ hstat) (hts _ hini) (hts _ hcode) (by omega) (by omega) hC.1 hC.2 hd (k H locs ls hP hD hS hl)
theorem r_minl {index : Nat} {x y : Int64} (h : rx_ok X cc nL own D tys A d kc ks z) (hd : decode cc pc = .ok (.invokestatic index, 3)) (hlink : Cond.methodLink own index Lib.MathLoose.min_long.x ∈ TB) (hstat : Cond.static Lib.MathLoose.min_long.x ∈ TB) (hini : Cond.initialized "java/lang/Math" ∈ TB) (hcode : Cond.code Lib.MathLoose.min_long.x Lib.MathLoose.min_long.code 4 (some .long) ∈ TB) (hd1 : 1 ≤ d) (hrest : (rest.map fun v => v.category).sum ≤ 8)
    (k : RR X nL D A kc ks ws lv (pc + 3) (.long (if y < x then y else x) :: rest)) : RR X nL D A kc ks ws lv pc (.long y :: .long x :: rest) := by
  obtain ⟨p, l, e, R, s, m, args, below, meth, c, Q⟩ := X
  obtain ⟨hx, hb, hml, hown, hts, hK, hA, hR, hC, hE⟩ := h
  intro H locs ls hP hD hS hl
  exact va_mmin_long hx hb (hml.trans hl.1.symm) hown (hts _ hlink) (hts _ hstat) (hts _ hini) (hts _ hcode) (by omega) (by omega) hC.1 hC.2 hd (k H locs ls hP hD hS hl)
theorem r_copy {index a a0 n0 n1 : Nat} {c0 c1 : ClassId} {f g : Nat → Int32} {sp dp n : Int32} (q0 q1 t0 t1 i0 i1 i2 : Nat) (h : rx_ok X cc nL own D tys A d kc ks z) (hd : decode cc pc = .ok (.invokestatic index, 3)) (hlink : Cond.methodLink own index arraycopyName ∈ TB) (hnat : Cond.native arraycopyName ∈ TB) (hstat : Cond.static arraycopyName ∈ TB) (hini : Cond.initialized "java/lang/System" ∈ TB)
    (ha0 : ws[q0]? = some (a0, .inl (c0, n0, .inl f))) (ha1 : ws[q1]? = some (a, .inl (c1, n1, .inl g))) (ht0 : tys[t0]? = some (c0, .int)) (ht1 : tys[t1]? = some (c1, .int)) (hi0 : sp = nI i0) (hi1 : dp = nI i1) (hi2 : n = nI i2) (h4 : i0 + i2 ≤ n0) (h5 : i1 + i2 ≤ n1) (hn0 : n0 < 2 ^ 31) (hn1 : n1 < 2 ^ 31) (hd1 : 1 ≤ d) (hrest : (rest.map fun v => v.category).sum ≤ 8)
    (k : RR X nL D A kc ks (ws.set q1 (a, .inl (c1, n1, .inl (va_cpy f g i0 i1 i2)))) lv (pc + 3) rest) : RR X nL D A kc ks ws lv pc (.int n :: .int dp :: .ref a :: .int sp :: .ref a0 :: rest) := by
  obtain ⟨p, l, e, R, s, m, args, below, meth, c, Q⟩ := X
  obtain ⟨hx, hb, hml, hown, hts, hK, hA, hR, hC, hE⟩ := h
  intro H locs ls hP hD hS hl
  subst hi0 hi1 hi2
  have e0 : (nI i0).toNatClampNeg = i0 := nI_clamp (by omega)
  have e1 : (nI i1).toNatClampNeg = i1 := nI_clamp (by omega)
  have e2 : (nI i2).toNatClampNeg = i2 := nI_clamp (by omega)
  have hw : nativeFrameWords "java/lang/System" "arraycopy" 5 + 11 ≤ 32 := by decide
  refine va_copyi hx hb (hml.trans hl.1.symm) hown (hts _ hlink) (hts _ hnat) (hts _ hstat) (hts _ hini) hK hP hD hS q0 q1 t0 t1 ha0 ha1 ht0 ht1 rfl (nI_pos (by omega)) (nI_pos (by omega)) (nI_pos (by omega)) (by rw [e0, e2]; exact h4) (by rw [e1, e2]; exact h5) (fun _ _ => rfl) (by omega) (by omega) hd (fun H locs hP hD hS => ?_)
  rw [e0, e1, e2] at hP hD
  exact k H locs ls hP hD hS hl
end RL

/-! Contracts. -/
/-- what a method's end says: an outcome u that 'post' allows, its answer, its world; nothing else has changed -/
def ct_Q {S : Type} (D : va_G) (wi : va_W) (sz : Nat) (post : S → Prop) (rv : S → Option Value) (wo : S → va_W) : Array Value → State → Outcome → State → Prop :=
  fun _ st oc t => (∃ u : S, post u ∧ oc = .returned (rv u) ∧ va_P D vwCl (wo u) t.heap) ∧ va_F (va_A wi sz) st t
def ct_P (D : va_G) (tys : List (ClassId × FieldType)) (z : Option Nat) (av : List Value) (wi : va_W) (sz : Nat) : Array Value → State → Prop :=
  va_Pc av (fun U => U.heap.size = sz ∧ va_P D vwCl wi U.heap ∧ va_K D vwCl tys U ∧ va_D (fun _ => True) wi ∧ ez z (va_A wi sz) U U.heap)
/-- the contract of a method that makes nothing: d frames below it at most -/
def CT {S : Type} (l : Launch) (D : va_G) (tys : List (ClassId × FieldType)) (z : Option Nat) (y : MethodName) (cc : ByteArray) (nL : Nat) (ret : Option FieldType) (d : Nat) (av : List Value) (wi : va_W) (post : S → Prop) (rv : S → Option Value) (wo : S → va_W) : Prop :=
  ∀ sz : Nat, Met l y (Cond.code y cc nL ret :: TB) { frames := d, cells := 0, slots := 0, locals := 40 * d } (ct_P D tys z av wi sz) (ct_Q D wi sz post rv wo) 0 0 (va_A wi sz)
def rx_fin {S : Type} (X : rx_T) (ret : Option FieldType) (D : va_G) (wi : va_W) (A : Nat → Prop) (post : S → Prop) (rv : S → Option Value) (wo : S → va_W) : Prop :=
  match X with
  | (_, _, _, _, s, _, args, below, meth, _, Q) => meth.sig.returnType = ret ∧ meth.locks = false ∧ ∃ sz : Nat, A = va_A wi sz ∧ Q = MQ below (ct_Q D wi sz post rv wo) args s 0 0 (va_A wi sz)
theorem ez_moved {z : Option Nat} {A : Nat → Prop} {u U : State} {H : Heap} (hvm : u.vm.Alike U.vm) (h : ez z A u H) : ez z A U H := by
  cases z with
  | none => trivial
  | some t => exact ⟨h.1.moved hvm, h.2.moved hvm⟩
theorem ez_kept {z : Option Nat} {A B : Nat → Prop} {U : State} {H0 H : Heap} {locs : List Loc} (h : ez z A U H0) (hS : va_S A H0 H locs) (hAB : ∀ q, B q → A q) : ez z B U H := by
  cases z with
  | none => trivial
  | some t => exact ⟨(h.1.kept hS.2.1).narrow hAB, (h.2.kept hS.2.1).narrow hAB⟩
theorem ez_sub {z z' : Option Nat} {A : Nat → Prop} {U : State} {H : Heap} (h : ez z A U H) (hz : z' = none ∨ z' = z) : ez z' A U H := by
  rcases hz with rfl | rfl
  · trivial
  · exact h
theorem CT.of {S : Type} {l : Launch} {D : va_G} {tys : List (ClassId × FieldType)} {z : Option Nat} {y : MethodName} {cc : ByteArray} {nL : Nat} {ret : Option FieldType} {d : Nat} {av : List Value} {wi : va_W} {post : S → Prop} {rv : S → Option Value} {wo : S → va_W} (hy : plainName y.cls = true) (hlen : (lg_sl av).length ≤ nL)
    (body : ∀ (X : rx_T) (A : Nat → Prop), X.2.1 = l → rx_ok X cc nL y.cls D tys A d 0 0 z → rx_fin X ret D wi A post rv wo → RR X nL D A 0 0 wi (lv_args 0 av) 0 []) : CT l D tys z y cc nL ret d av wi post rv wo := by
  intro sz
  refine Met.ofW (cc := cc) (maxL := nL) (ret := ret) hy rfl ?_
  intro p e s m args below meth c s₁ B hml hv
  obtain ⟨rfl, hsz, hP, hK, hD0, hE⟩ := hv
  have hts := atoms_spec (ws := Cond.code y cc nL ret :: TB) B.pre
  have hown : s.vm.findClass y.cls = some m.cls := findClass_of_methodNamed B.named
  subst hsz
  have hD := hD0.self (sz := s.heap.size)
  rw [lg_entry_eq]
  have hl := lv_entry av (n := nL) hlen
  exact body (p, l, e, _, s, m, _, below, meth, c, _) (va_A wi s.heap.size) rfl ⟨B.exec, B.bytes, hml, hown, fun w hw => hts w (List.mem_cons_of_mem _ hw), hK, fun q h => Or.inr h, ⟨Nat.le_refl _, Nat.le_refl _⟩, ⟨Nat.le_refl _, Nat.le_refl _⟩, hE⟩ ⟨B.returns, B.notSynchronized, s.heap.size, rfl, rfl⟩ s.heap [] _ hP hD va_S.rf hl
section RC
variable {X : rx_T} {cc : ByteArray} {nL : Nat} {own : String} {z : Option Nat} {D : va_G} {tys : List (ClassId × FieldType)} {A : Nat → Prop} {d kc ks pc : Nat} {ws wi : va_W} {lv : List (Nat × Value)} {rest st : List Value} {S : Type} {post : S → Prop} {rv : S → Option Value} {wo : S → va_W}
theorem r_iret {v : Int32} (u : S) (h : rx_ok X cc nL own D tys A d 0 0 z) (hf : rx_fin X (some .int) D wi A post rv wo) (hd : decode cc pc = .ok (.ireturn, 1)) (hp : post u) (hv : rv u = some (.int v)) (hw : ws = wo u) : RR X nL D A 0 0 ws lv pc [.int v] := by
  obtain ⟨p, l, e, R, s, m, args, below, meth, c, Q⟩ := X
  obtain ⟨hx, hb, hml, hown, hts, hK, hA, hR, hC, hE⟩ := h
  obtain ⟨hr, hlk, sz, rfl, rfl⟩ := hf
  intro H locs ls hP hD hS hl
  exact W.iret hx hb hr (fun t ht _ => ⟨⟨u, hp, by rw [hv], by rw [ht, ← hw]; exact hP⟩, hS.F ht⟩) hS.2.2 hd hlk
theorem r_zret {v : Int32} (u : S) (h : rx_ok X cc nL own D tys A d 0 0 z) (hf : rx_fin X (some .boolean) D wi A post rv wo) (hd : decode cc pc = .ok (.ireturn, 1)) (hn : narrow .boolean (.int v) = .int v) (hp : post u) (hv : rv u = some (.int v)) (hw : ws = wo u) : RR X nL D A 0 0 ws lv pc [.int v] := by
  obtain ⟨p, l, e, R, s, m, args, below, meth, c, Q⟩ := X
  obtain ⟨hx, hb, hml, hown, hts, hK, hA, hR, hC, hE⟩ := h
  obtain ⟨hr, hlk, sz, rfl, rfl⟩ := hf
  intro H locs ls hP hD hS hl
  exact W.zret hx hb hr hn (fun t ht _ => ⟨⟨u, hp, by rw [hv], by rw [ht, ← hw]; exact hP⟩, hS.F ht⟩) hS.2.2 hd hlk
theorem r_lret {v : Int64} (u : S) (h : rx_ok X cc nL own D tys A d 0 0 z) (hf : rx_fin X (some .long) D wi A post rv wo) (hd : decode cc pc = .ok (.lreturn, 1)) (hp : post u) (hv : rv u = some (.long v)) (hw : ws = wo u) : RR X nL D A 0 0 ws lv pc [.long v] := by
  obtain ⟨p, l, e, R, s, m, args, below, meth, c, Q⟩ := X
  obtain ⟨hx, hb, hml, hown, hts, hK, hA, hR, hC, hE⟩ := h
  obtain ⟨hr, hlk, sz, rfl, rfl⟩ := hf
  intro H locs ls hP hD hS hl
  exact W.lret hx hb hr (fun t ht _ => ⟨⟨u, hp, by rw [hv], by rw [ht, ← hw]; exact hP⟩, hS.F ht⟩) hS.2.2 hd hlk
theorem r_vret (u : S) (h : rx_ok X cc nL own D tys A d 0 0 z) (hf : rx_fin X none D wi A post rv wo) (hd : decode cc pc = .ok (.return_, 1)) (hp : post u) (hv : rv u = none) (hw : ws = wo u) : RR X nL D A 0 0 ws lv pc [] := by
  obtain ⟨p, l, e, R, s, m, args, below, meth, c, Q⟩ := X
  obtain ⟨hx, hb, hml, hown, hts, hK, hA, hR, hC, hE⟩ := h
  obtain ⟨hr, hlk, sz, rfl, rfl⟩ := hf
  intro H locs ls hP hD hS hl
  exact W.vret hx hb hr (fun t ht _ => ⟨⟨u, hp, by rw [hv], by rw [ht, ← hw]; exact hP⟩, hS.F ht⟩) hS.2.2 hd hlk
end RC
/-- the callee's cells are put back at their places -/
def wput : va_W → List Nat → va_W → va_W
  | ws, i :: is, q :: cs => wput (ws.set i q) is cs
  | ws, _, _ => ws
theorem wput_at : ∀ (is : List Nat) (cs ws : va_W), is.length = cs.length → ∀ (k : Nat) (q : Nat × va_E), (wput ws is cs)[k]? = some q → (∃ j : Nat, is[j]? = some k ∧ cs[j]? = some q) ∨ (k ∉ is ∧ ws[k]? = some q)
  | [], cs, ws, _, k, q, h => Or.inr ⟨List.not_mem_nil, by simpa [wput] using h⟩
  | i :: is, [], ws, hl, k, q, h => by simp at hl
  | i :: is, c :: cs, ws, hl, k, q, h => by
    have h' : (wput (ws.set i c) is cs)[k]? = some q := h
    rcases wput_at is cs (ws.set i c) (by simpa using hl) k q h' with ⟨j, h1, h2⟩ | ⟨h1, h2⟩
    · exact Or.inl ⟨j + 1, by simpa using h1, by simpa using h2⟩
    · by_cases e : k = i
      · subst e
        have hlt : k < ws.length := by
          have := (List.getElem?_eq_some_iff.mp h2).1
          simpa using this
        rw [List.getElem?_set_self hlt] at h2
        cases h2
        exact Or.inl ⟨0, rfl, rfl⟩
      · rw [List.getElem?_set_ne (Ne.symm e)] at h2
        exact Or.inr ⟨by simp [e, h1], h2⟩
theorem wmap_at {is : List Nat} {ws wi : va_W} (hC : is.map (fun i => ws[i]?) = wi.map some) {j k : Nat} (hj : is[j]? = some k) : wi[j]? = ws[k]? := by
  have h1 : (is.map (fun i => ws[i]?))[j]? = some (ws[k]?) := by rw [List.getElem?_map, hj]; rfl
  rw [hC, List.getElem?_map] at h1
  cases hw : wi[j]? with
  | none => rw [hw] at h1; cases h1
  | some q => rw [hw] at h1; exact Option.some.inj h1
theorem wmap_back {is : List Nat} {ws wi : va_W} (hC : is.map (fun i => ws[i]?) = wi.map some) {j : Nat} {q : Nat × va_E} (hj : wi[j]? = some q) : ∃ k, is[j]? = some k ∧ ws[k]? = some q := by
  have h1 : (is.map (fun i => ws[i]?))[j]? = some (some q) := by rw [hC, List.getElem?_map, hj]; rfl
  rw [List.getElem?_map] at h1
  cases hi : is[j]? with
  | none => rw [hi] at h1; cases h1
  | some i => rw [hi] at h1; exact ⟨i, rfl, Option.some.inj h1⟩
theorem wput_ad {is : List Nat} {ws wi cs : va_W} (hC : is.map (fun i => ws[i]?) = wi.map some) (had : cs.map (fun q => q.1) = wi.map (fun q => q.1)) {k : Nat} {q : Nat × va_E} (h : (wput ws is cs)[k]? = some q) : ∃ q0, ws[k]? = some q0 ∧ q0.1 = q.1 := by
  have hlen : is.length = cs.length := by
    have a := congrArg List.length hC
    have b := congrArg List.length had
    simp at a b
    omega
  rcases wput_at is cs ws hlen k q h with ⟨j, h1, h2⟩ | ⟨-, h2⟩
  · have h3 := wmap_at hC h1
    have h4 : (cs.map (fun q => q.1))[j]? = some q.1 := by rw [List.getElem?_map, h2]; rfl
    rw [had, List.getElem?_map, h3] at h4
    cases hw : ws[k]? with
    | none => rw [hw] at h4; cases h4
    | some q0 => rw [hw] at h4; exact ⟨q0, rfl, Option.some.inj h4⟩
  · exact ⟨q, h2, rfl⟩
theorem wput_D {A : Nat → Prop} {is : List Nat} {ws wi cs : va_W} (hD : va_D A ws) (hC : is.map (fun i => ws[i]?) = wi.map some) (had : cs.map (fun q => q.1) = wi.map (fun q => q.1)) : va_D A (wput ws is cs) := by
  refine ⟨fun i j x y hi hj hxy => ?_, fun k q hk => ?_⟩
  · obtain ⟨x0, h1, h2⟩ := wput_ad hC had hi
    obtain ⟨y0, h3, h4⟩ := wput_ad hC had hj
    exact hD.1 i j x0 y0 h1 h3 (h2.trans (hxy.trans h4.symm))
  · obtain ⟨q0, h1, h2⟩ := wput_ad hC had hk
    rw [← h2]
    exact hD.2 k q0 h1
theorem wput_P {A : Nat → Prop} {D : va_G} {is : List Nat} {ws wi cs : va_W} {H H1 : Heap} (hP : va_P D vwCl ws H) (hD : va_D A ws) (hC : is.map (fun i => ws[i]?) = wi.map some) (had : cs.map (fun q => q.1) = wi.map (fun q => q.1)) (hk : ∀ q : Nat, q < H.size → ¬ va_A wi H.size q → H1[q]? = H[q]?) (hP1 : va_P D vwCl cs H1) : va_P D vwCl (wput ws is cs) H1 := by
  have hlen : is.length = cs.length := by
    have a := congrArg List.length hC
    have b := congrArg List.length had
    simp at a b
    omega
  intro k q hq
  rcases wput_at is cs ws hlen k q hq with ⟨j, h1, h2⟩ | ⟨h1, h2⟩
  · exact hP1 j q h2
  · have hlt := (hP k q h2).lt
    refine (hP k q h2).kept (hk q.1 hlt ?_)
    rintro (⟨j, e, h3⟩ | h3)
    · obtain ⟨i, h4, h5⟩ := wmap_back hC h3
      have hki := hD.1 k i q (q.1, e) h2 h5 rfl
      subst hki
      exact h1 (List.mem_of_getElem? h4)
    · omega
theorem w_call {p : Program} {l : Launch} {e : Env} {R : Room} {s : State} {m : MethodId} {args a : Array Value} {below : List Frame} {meth : Method} {c : Code} {H : Heap} {locs : List Loc} {kc ks pc : Nat} {Q : State → Prop} {ls : Array Slot} {st0 rest : List Value} {D : va_G} {A : Nat → Prop} {wi : va_W} {S : Type} {post : S → Prop} {rv : S → Option Value} {wo : S → va_W} (wn : S → va_W)
    (hS : va_S A s.heap H locs) (hF : ∀ q, va_A wi H.size q → A q)
    (hr : va_Run p l e R s m args below meth c H locs kc ks 0 0 (F0 m pc ls st0) rest (ct_Q D wi H.size post rv wo a) (va_A wi H.size))
    (hn : ∀ (u : S) (H1 : Heap), (∀ q : Nat, q < H.size → ¬ va_A wi H.size q → H1[q]? = H[q]?) → va_P D vwCl (wo u) H1 → va_P D vwCl (wn u) H1 ∧ va_D A (wn u))
    (kk : ∀ (u : S) (H1 : Heap) (locs1 : List Loc), post u → va_P D vwCl (wn u) H1 → va_D A (wn u) → va_S A s.heap H1 locs1 → W p l e R s m args below meth c H1 locs1 kc ks Q (F0 m (pc + 3) ls ((rv u).toList ++ rest))) : W p l e R s m args below meth c H locs kc ks Q (F0 m pc ls st0) := by
  intro T hT X
  obtain ⟨v, st₀, t, T', L, h0, X', hL, e1, e2, ⟨⟨u, hp, hv, hP1⟩, hz, hk⟩, stp⟩ := hr T hT X
  cases hv
  rw [h0] at hz hk
  have hk1 : ∀ q : Nat, q < H.size → ¬ va_A wi H.size q → T'.heap[q]? = H[q]? := fun q h1 h2 => by rw [e1]; exact hk q h1 h2
  obtain ⟨n1, n2⟩ := hn u T'.heap hk1 (by rw [e1]; exact hP1)
  obtain ⟨t2, a1, b1⟩ := kk u T'.heap (locs ++ L) hp n1 n2
    ⟨Nat.le_trans hS.1 (by rw [e1]; exact hz), fun q h1 h2 => by rw [hk1 q (Nat.lt_of_lt_of_le h1 hS.1) (fun w => h2 (hF q w))]; exact hS.2.1 q h1 h2, fun q hq => by
      rcases List.mem_append.mp hq with h | h
      · exact hS.2.2 q h
      · exact hF _ (hL q h)⟩ T' rfl X'
  exact ⟨t2, stp t2 a1, b1⟩
theorem wall_D {A : Nat → Prop} {ws wo : va_W} (hD : va_D A ws) (had : wo.map (fun q => q.1) = ws.map (fun q => q.1)) : va_D A wo := by
  have key : ∀ (k : Nat) (q : Nat × va_E), wo[k]? = some q → ∃ q0, ws[k]? = some q0 ∧ q0.1 = q.1 := by
    intro k q hk
    have h4 : (wo.map (fun q => q.1))[k]? = some q.1 := by rw [List.getElem?_map, hk]; rfl
    rw [had, List.getElem?_map] at h4
    cases hw : ws[k]? with
    | none => rw [hw] at h4; cases h4
    | some q0 => rw [hw] at h4; exact ⟨q0, rfl, Option.some.inj h4⟩
  refine ⟨fun i j x y hi hj hxy => ?_, fun k q hk => ?_⟩
  · obtain ⟨x0, h1, h2⟩ := key i x hi
    obtain ⟨y0, h3, h4⟩ := key j y hj
    exact hD.1 i j x0 y0 h1 h3 (h2.trans (hxy.trans h4.symm))
  · obtain ⟨q0, h1, h2⟩ := key k q hk
    rw [← h2]
    exact hD.2 k q0 h1
theorem wall_F {A0 : Nat → Prop} {ws : va_W} {H0 H : Heap} {locs : List Loc} (hD : va_D A0 ws) (hS : va_S A0 H0 H locs) (hA : ∀ q, H0.size ≤ q → A0 q) : ∀ q, va_A ws H.size q → A0 q := by
  rintro q (⟨k, e, h⟩ | h)
  · exact hD.2 k (q, e) h
  · exact hA q (Nat.le_trans hS.1 h)
theorem tb_in {y : MethodName} {cc : ByteArray} {nL : Nat} {ret : Option FieldType} (h : Cond.code y cc nL ret ∈ TB) : GoodIn TB (Cond.code y cc nL ret :: TB) := by
  intro w hw
  rcases List.mem_cons.mp hw with rfl | hw
  · exact ⟨h, tb_good _ h⟩
  · exact ⟨hw, tb_good _ hw⟩
theorem ct_blind {D : va_G} {tys : List (ClassId × FieldType)} {z : Option Nat} {av : List Value} {wi : va_W} {sz : Nat} : FrameBlind (ct_P D tys z av wi sz) := by
  intro a U g mk q
  obtain ⟨q0, q1, qP, qK, qD, qE⟩ := q
  exact ⟨q0, q1, qP, va_K.moved (u := U) (U := U.calling g mk a) (Vm.Alike.refl U.vm) qK, qD, ez_moved (u := U) (U := U.calling g mk a) (Vm.Alike.refl U.vm) qE⟩
section RD
variable {X : rx_T} {cc : ByteArray} {nL : Nat} {own : String} {z z' : Option Nat} {D : va_G} {tys : List (ClassId × FieldType)} {A : Nat → Prop} {d d' kc ks pc : Nat} {ws wi : va_W} {lv : List (Nat × Value)} {rest st : List Value} {S : Type} {post : S → Prop} {rv : S → Option Value} {wo : S → va_W} {y : MethodName} {cy : ByteArray} {ny n index b : Nat} {ret : Option FieldType} {As : List Value}
theorem r_callV {ci : Nat} {T : u_T} {N q0 : Nat} {fs : List Value} (is : List Nat) (h : rx_ok X cc nL own D tys A d kc ks z) (hd : decode cc pc = .ok (.invokevirtual index, 3)) (hcw : CWV y cy ny ret n) (hlink : Cond.methodLink own index y ∈ TB) (hM : CT X.2.1 D tys z' y cy ny ret d' (.ref b :: As) wi post rv wo) (hz : z' = none ∨ z' = z) (hst : As.reverse ++ .ref b :: rest = st) (hn : As.length = n) (hrecv : wi[q0]? = some (b, .inr (ci, fs))) (hci : vwCl[ci]? = some (y.cls, T, N)) (hd' : d' < d) (hrest : (rest.map fun v => v.category).sum ≤ 8) (hC : is.map (fun i => ws[i]?) = wi.map some) (had : ∀ u, (wo u).map (fun q => q.1) = wi.map (fun q => q.1)) (hnd : va_nd is = true)
    (k : ∀ u, post u → RR X nL D A kc ks (wput ws is (wo u)) lv (pc + 3) ((rv u).toList ++ rest)) : RR X nL D A kc ks ws lv pc st := by
  obtain ⟨p, l, e, R, s, m, args, below, meth, c, Q⟩ := X
  obtain ⟨hx, hb, hml, hown, hts, hK, hA, hR, hRC, hE⟩ := h
  obtain ⟨w1, w2, w3, w4, w5, w6⟩ := hcw
  subst hst
  intro H locs ls hP hD hS hl
  have hPc : va_P D vwCl wi H := fun j q hj => by
    obtain ⟨i, -, hi⟩ := wmap_back hC hj
    exact hP i q hi
  have hDc : va_D (fun _ => True) wi := by
    have h1 := hD.sub is hnd hC
    exact h1.weaken (fun _ _ _ _ => trivial)
  have hF := va_free hD hS hA is hC
  refine w_call (fun u => wput ws is (wo u)) hS hF (va_runV (As := As) (rest := rest) (C := y.cls) ⟨hx, hb, hml, hown, hts⟩ (hM H.size) ⟨callB_of n hts (tb_in w4) rfl rfl rfl (hts _ w3) (hts _ hlink) w6 ⟨by show d' + 1 ≤ R.frames; omega, by show 8 + (ny + 11) + 40 * d' ≤ R.locals; omega⟩, hts _ w1, hts _ w2⟩ ⟨ct_blind, va_recv hK hPc hci hrecv, fun U hU hW => ⟨rfl, by rw [hU], by rw [hU]; exact hPc, va_K.moved hW.alike hK, hDc, ez_sub (ez_moved hW.alike (by rw [hU]; exact ez_kept hE hS hF)) hz⟩⟩ rfl hn hl.1 rfl (lv_room hrest) hd ⟨hRC.1, hRC.2⟩) (fun u H1 hk hP1 => ⟨wput_P hP hD hC (had u) hk hP1, wput_D hD hC (had u)⟩) ?_
  intro u H1 locs1 hp hP hD hS
  exact k u hp H1 locs1 ls hP hD hS hl
theorem r_callS (is : List Nat) (h : rx_ok X cc nL own D tys A d kc ks z) (hd : decode cc pc = .ok (.invokestatic index, 3)) (hcw : CWS y cy ny ret n) (hlink : Cond.methodLink own index y ∈ TB) (hM : CT X.2.1 D tys z' y cy ny ret d' As wi post rv wo) (hz : z' = none ∨ z' = z) (hst : As.reverse ++ rest = st) (hn : As.length = n) (hd' : d' < d) (hrest : (rest.map fun v => v.category).sum ≤ 8) (hC : is.map (fun i => ws[i]?) = wi.map some) (had : ∀ u, (wo u).map (fun q => q.1) = wi.map (fun q => q.1)) (hnd : va_nd is = true)
    (k : ∀ u, post u → RR X nL D A kc ks (wput ws is (wo u)) lv (pc + 3) ((rv u).toList ++ rest)) : RR X nL D A kc ks ws lv pc st := by
  obtain ⟨p, l, e, R, s, m, args, below, meth, c, Q⟩ := X
  obtain ⟨hx, hb, hml, hown, hts, hK, hA, hR, hRC, hE⟩ := h
  obtain ⟨w1, w3, w4, w5, w6⟩ := hcw
  subst hst
  intro H locs ls hP hD hS hl
  have hPc : va_P D vwCl wi H := fun j q hj => by
    obtain ⟨i, -, hi⟩ := wmap_back hC hj
    exact hP i q hi
  have hDc : va_D (fun _ => True) wi := by
    have h1 := hD.sub is hnd hC
    exact h1.weaken (fun _ _ _ _ => trivial)
  have hF := va_free hD hS hA is hC
  refine w_call (fun u => wput ws is (wo u)) hS hF (va_runS (As := As) (rest := rest) ⟨hx, hb, hml, hown, hts⟩ (hM H.size) ⟨callB_of n hts (tb_in w4) rfl rfl rfl (hts _ w3) (hts _ hlink) w6 ⟨by show d' + 1 ≤ R.frames; omega, by show 8 + (ny + 11) + 40 * d' ≤ R.locals; omega⟩, hts _ w1⟩ ⟨ct_blind, fun U hU hW => ⟨rfl, by rw [hU], by rw [hU]; exact hPc, va_K.moved hW.alike hK, hDc, ez_sub (ez_moved hW.alike (by rw [hU]; exact ez_kept hE hS hF)) hz⟩⟩ rfl hn hl.1 rfl (lv_room hrest) hd ⟨hRC.1, hRC.2⟩) (fun u H1 hk hP1 => ⟨wput_P hP hD hC (had u) hk hP1, wput_D hD hC (had u)⟩) ?_
  intro u H1 locs1 hp hP hD hS
  exact k u hp H1 locs1 ls hP hD hS hl
theorem r_callVw {ci : Nat} {T : u_T} {N q0 : Nat} {fs : List Value} (h : rx_ok X cc nL own D tys A d kc ks z) (hd : decode cc pc = .ok (.invokevirtual index, 3)) (hcw : CWV y cy ny ret n) (hlink : Cond.methodLink own index y ∈ TB) (hM : CT X.2.1 D tys z' y cy ny ret d' (.ref b :: As) ws post rv wo) (hz : z' = none ∨ z' = z) (hst : As.reverse ++ .ref b :: rest = st) (hn : As.length = n) (hrecv : ws[q0]? = some (b, .inr (ci, fs))) (hci : vwCl[ci]? = some (y.cls, T, N)) (hd' : d' < d) (hrest : (rest.map fun v => v.category).sum ≤ 8) (had : ∀ u, (wo u).map (fun q => q.1) = ws.map (fun q => q.1))
    (k : ∀ u, post u → RR X nL D A kc ks (wo u) lv (pc + 3) ((rv u).toList ++ rest)) : RR X nL D A kc ks ws lv pc st := by
  obtain ⟨p, l, e, R, s, m, args, below, meth, c, Q⟩ := X
  obtain ⟨hx, hb, hml, hown, hts, hK, hA, hR, hRC, hE⟩ := h
  obtain ⟨w1, w2, w3, w4, w5, w6⟩ := hcw
  subst hst
  intro H locs ls hP hD hS hl
  have hPc : va_P D vwCl ws H := hP
  have hDc : va_D (fun _ => True) ws := hD.weaken (fun _ _ _ _ => trivial)
  have hF := wall_F hD hS hA
  refine w_call wo hS hF (va_runV (As := As) (rest := rest) (C := y.cls) ⟨hx, hb, hml, hown, hts⟩ (hM H.size) ⟨callB_of n hts (tb_in w4) rfl rfl rfl (hts _ w3) (hts _ hlink) w6 ⟨by show d' + 1 ≤ R.frames; omega, by show 8 + (ny + 11) + 40 * d' ≤ R.locals; omega⟩, hts _ w1, hts _ w2⟩ ⟨ct_blind, va_recv hK hPc hci hrecv, fun U hU hW => ⟨rfl, by rw [hU], by rw [hU]; exact hPc, va_K.moved hW.alike hK, hDc, ez_sub (ez_moved hW.alike (by rw [hU]; exact ez_kept hE hS hF)) hz⟩⟩ rfl hn hl.1 rfl (lv_room hrest) hd ⟨hRC.1, hRC.2⟩) (fun u H1 hk hP1 => ⟨hP1, wall_D hD (had u)⟩) ?_
  intro u H1 locs1 hp hP hD hS
  exact k u hp H1 locs1 ls hP hD hS hl
theorem r_callSw (h : rx_ok X cc nL own D tys A d kc ks z) (hd : decode cc pc = .ok (.invokestatic index, 3)) (hcw : CWS y cy ny ret n) (hlink : Cond.methodLink own index y ∈ TB) (hM : CT X.2.1 D tys z' y cy ny ret d' As ws post rv wo) (hz : z' = none ∨ z' = z) (hst : As.reverse ++ rest = st) (hn : As.length = n) (hd' : d' < d) (hrest : (rest.map fun v => v.category).sum ≤ 8) (had : ∀ u, (wo u).map (fun q => q.1) = ws.map (fun q => q.1))
    (k : ∀ u, post u → RR X nL D A kc ks (wo u) lv (pc + 3) ((rv u).toList ++ rest)) : RR X nL D A kc ks ws lv pc st := by
  obtain ⟨p, l, e, R, s, m, args, below, meth, c, Q⟩ := X
  obtain ⟨hx, hb, hml, hown, hts, hK, hA, hR, hRC, hE⟩ := h
  obtain ⟨w1, w3, w4, w5, w6⟩ := hcw
  subst hst
  intro H locs ls hP hD hS hl
  have hPc : va_P D vwCl ws H := hP
  have hDc : va_D (fun _ => True) ws := hD.weaken (fun _ _ _ _ => trivial)
  have hF := wall_F hD hS hA
  refine w_call wo hS hF (va_runS (As := As) (rest := rest) ⟨hx, hb, hml, hown, hts⟩ (hM H.size) ⟨callB_of n hts (tb_in w4) rfl rfl rfl (hts _ w3) (hts _ hlink) w6 ⟨by show d' + 1 ≤ R.frames; omega, by show 8 + (ny + 11) + 40 * d' ≤ R.locals; omega⟩, hts _ w1⟩ ⟨ct_blind, fun U hU hW => ⟨rfl, by rw [hU], by rw [hU]; exact hPc, va_K.moved hW.alike hK, hDc, ez_sub (ez_moved hW.alike (by rw [hU]; exact ez_kept hE hS hF)) hz⟩⟩ rfl hn hl.1 rfl (lv_room hrest) hd ⟨hRC.1, hRC.2⟩) (fun u H1 hk hP1 => ⟨hP1, wall_D hD (had u)⟩) ?_
  intro u H1 locs1 hp hP hD hS
  exact k u hp H1 locs1 ls hP hD hS hl
theorem r_callVi {ri : S → Int32} {ci : Nat} {T : u_T} {N q0 : Nat} {fs : List Value} (is : List Nat) (h : rx_ok X cc nL own D tys A d kc ks z) (hd : decode cc pc = .ok (.invokevirtual index, 3)) (hcw : CWV y cy ny ret n) (hlink : Cond.methodLink own index y ∈ TB) (hM : CT X.2.1 D tys z' y cy ny ret d' (.ref b :: As) wi post (fun u => some (.int (ri u))) wo) (hz : z' = none ∨ z' = z) (hst : As.reverse ++ .ref b :: rest = st) (hn : As.length = n) (hrecv : wi[q0]? = some (b, .inr (ci, fs))) (hci : vwCl[ci]? = some (y.cls, T, N)) (hd' : d' < d) (hrest : (rest.map fun v => v.category).sum ≤ 8) (hC : is.map (fun i => ws[i]?) = wi.map some) (had : ∀ u, (wo u).map (fun q => q.1) = wi.map (fun q => q.1)) (hnd : va_nd is = true)
    (k : ∀ u, post u → RR X nL D A kc ks (wput ws is (wo u)) lv (pc + 3) (.int (ri u) :: rest)) : RR X nL D A kc ks ws lv pc st :=
  r_callV is h hd hcw hlink hM hz hst hn hrecv hci hd' hrest hC had hnd k
theorem r_callVl {ri : S → Int64} {ci : Nat} {T : u_T} {N q0 : Nat} {fs : List Value} (is : List Nat) (h : rx_ok X cc nL own D tys A d kc ks z) (hd : decode cc pc = .ok (.invokevirtual index, 3)) (hcw : CWV y cy ny ret n) (hlink : Cond.methodLink own index y ∈ TB) (hM : CT X.2.1 D tys z' y cy ny ret d' (.ref b :: As) wi post (fun u => some (.long (ri u))) wo) (hz : z' = none ∨ z' = z) (hst : As.reverse ++ .ref b :: rest = st) (hn : As.length = n) (hrecv : wi[q0]? = some (b, .inr (ci, fs))) (hci : vwCl[ci]? = some (y.cls, T, N)) (hd' : d' < d) (hrest : (rest.map fun v => v.category).sum ≤ 8) (hC : is.map (fun i => ws[i]?) = wi.map some) (had : ∀ u, (wo u).map (fun q => q.1) = wi.map (fun q => q.1)) (hnd : va_nd is = true)
    (k : ∀ u, post u → RR X nL D A kc ks (wput ws is (wo u)) lv (pc + 3) (.long (ri u) :: rest)) : RR X nL D A kc ks ws lv pc st :=
  r_callV is h hd hcw hlink hM hz hst hn hrecv hci hd' hrest hC had hnd k
theorem r_callVv {ci : Nat} {T : u_T} {N q0 : Nat} {fs : List Value} (is : List Nat) (h : rx_ok X cc nL own D tys A d kc ks z) (hd : decode cc pc = .ok (.invokevirtual index, 3)) (hcw : CWV y cy ny ret n) (hlink : Cond.methodLink own index y ∈ TB) (hM : CT X.2.1 D tys z' y cy ny ret d' (.ref b :: As) wi post (fun _ => none) wo) (hz : z' = none ∨ z' = z) (hst : As.reverse ++ .ref b :: rest = st) (hn : As.length = n) (hrecv : wi[q0]? = some (b, .inr (ci, fs))) (hci : vwCl[ci]? = some (y.cls, T, N)) (hd' : d' < d) (hrest : (rest.map fun v => v.category).sum ≤ 8) (hC : is.map (fun i => ws[i]?) = wi.map some) (had : ∀ u, (wo u).map (fun q => q.1) = wi.map (fun q => q.1)) (hnd : va_nd is = true)
    (k : ∀ u, post u → RR X nL D A kc ks (wput ws is (wo u)) lv (pc + 3) rest) : RR X nL D A kc ks ws lv pc st :=
  r_callV is h hd hcw hlink hM hz hst hn hrecv hci hd' hrest hC had hnd k
theorem r_callSi {ri : S → Int32} (is : List Nat) (h : rx_ok X cc nL own D tys A d kc ks z) (hd : decode cc pc = .ok (.invokestatic index, 3)) (hcw : CWS y cy ny ret n) (hlink : Cond.methodLink own index y ∈ TB) (hM : CT X.2.1 D tys z' y cy ny ret d' As wi post (fun u => some (.int (ri u))) wo) (hz : z' = none ∨ z' = z) (hst : As.reverse ++ rest = st) (hn : As.length = n) (hd' : d' < d) (hrest : (rest.map fun v => v.category).sum ≤ 8) (hC : is.map (fun i => ws[i]?) = wi.map some) (had : ∀ u, (wo u).map (fun q => q.1) = wi.map (fun q => q.1)) (hnd : va_nd is = true)
    (k : ∀ u, post u → RR X nL D A kc ks (wput ws is (wo u)) lv (pc + 3) (.int (ri u) :: rest)) : RR X nL D A kc ks ws lv pc st :=
  r_callS is h hd hcw hlink hM hz hst hn hd' hrest hC had hnd k
theorem r_callSl {ri : S → Int64} (is : List Nat) (h : rx_ok X cc nL own D tys A d kc ks z) (hd : decode cc pc = .ok (.invokestatic index, 3)) (hcw : CWS y cy ny ret n) (hlink : Cond.methodLink own index y ∈ TB) (hM : CT X.2.1 D tys z' y cy ny ret d' As wi post (fun u => some (.long (ri u))) wo) (hz : z' = none ∨ z' = z) (hst : As.reverse ++ rest = st) (hn : As.length = n) (hd' : d' < d) (hrest : (rest.map fun v => v.category).sum ≤ 8) (hC : is.map (fun i => ws[i]?) = wi.map some) (had : ∀ u, (wo u).map (fun q => q.1) = wi.map (fun q => q.1)) (hnd : va_nd is = true)
    (k : ∀ u, post u → RR X nL D A kc ks (wput ws is (wo u)) lv (pc + 3) (.long (ri u) :: rest)) : RR X nL D A kc ks ws lv pc st :=
  r_callS is h hd hcw hlink hM hz hst hn hd' hrest hC had hnd k
theorem r_callSv (is : List Nat) (h : rx_ok X cc nL own D tys A d kc ks z) (hd : decode cc pc = .ok (.invokestatic index, 3)) (hcw : CWS y cy ny ret n) (hlink : Cond.methodLink own index y ∈ TB) (hM : CT X.2.1 D tys z' y cy ny ret d' As wi post (fun _ => none) wo) (hz : z' = none ∨ z' = z) (hst : As.reverse ++ rest = st) (hn : As.length = n) (hd' : d' < d) (hrest : (rest.map fun v => v.category).sum ≤ 8) (hC : is.map (fun i => ws[i]?) = wi.map some) (had : ∀ u, (wo u).map (fun q => q.1) = wi.map (fun q => q.1)) (hnd : va_nd is = true)
    (k : ∀ u, post u → RR X nL D A kc ks (wput ws is (wo u)) lv (pc + 3) rest) : RR X nL D A kc ks ws lv pc st :=
  r_callS is h hd hcw hlink hM hz hst hn hd' hrest hC had hnd k
theorem r_callVwi {ri : S → Int32} {ci : Nat} {T : u_T} {N q0 : Nat} {fs : List Value} (h : rx_ok X cc nL own D tys A d kc ks z) (hd : decode cc pc = .ok (.invokevirtual index, 3)) (hcw : CWV y cy ny ret n) (hlink : Cond.methodLink own index y ∈ TB) (hM : CT X.2.1 D tys z' y cy ny ret d' (.ref b :: As) ws post (fun u => some (.int (ri u))) wo) (hz : z' = none ∨ z' = z) (hst : As.reverse ++ .ref b :: rest = st) (hn : As.length = n) (hrecv : ws[q0]? = some (b, .inr (ci, fs))) (hci : vwCl[ci]? = some (y.cls, T, N)) (hd' : d' < d) (hrest : (rest.map fun v => v.category).sum ≤ 8) (had : ∀ u, (wo u).map (fun q => q.1) = ws.map (fun q => q.1))
    (k : ∀ u, post u → RR X nL D A kc ks (wo u) lv (pc + 3) (.int (ri u) :: rest)) : RR X nL D A kc ks ws lv pc st :=
  r_callVw h hd hcw hlink hM hz hst hn hrecv hci hd' hrest had k
theorem r_callVwl {ri : S → Int64} {ci : Nat} {T : u_T} {N q0 : Nat} {fs : List Value} (h : rx_ok X cc nL own D tys A d kc ks z) (hd : decode cc pc = .ok (.invokevirtual index, 3)) (hcw : CWV y cy ny ret n) (hlink : Cond.methodLink own index y ∈ TB) (hM : CT X.2.1 D tys z' y cy ny ret d' (.ref b :: As) ws post (fun u => some (.long (ri u))) wo) (hz : z' = none ∨ z' = z) (hst : As.reverse ++ .ref b :: rest = st) (hn : As.length = n) (hrecv : ws[q0]? = some (b, .inr (ci, fs))) (hci : vwCl[ci]? = some (y.cls, T, N)) (hd' : d' < d) (hrest : (rest.map fun v => v.category).sum ≤ 8) (had : ∀ u, (wo u).map (fun q => q.1) = ws.map (fun q => q.1))
    (k : ∀ u, post u → RR X nL D A kc ks (wo u) lv (pc + 3) (.long (ri u) :: rest)) : RR X nL D A kc ks ws lv pc st :=
  r_callVw h hd hcw hlink hM hz hst hn hrecv hci hd' hrest had k
theorem r_callVwv {ci : Nat} {T : u_T} {N q0 : Nat} {fs : List Value} (h : rx_ok X cc nL own D tys A d kc ks z) (hd : decode cc pc = .ok (.invokevirtual index, 3)) (hcw : CWV y cy ny ret n) (hlink : Cond.methodLink own index y ∈ TB) (hM : CT X.2.1 D tys z' y cy ny ret d' (.ref b :: As) ws post (fun _ => none) wo) (hz : z' = none ∨ z' = z) (hst : As.reverse ++ .ref b :: rest = st) (hn : As.length = n) (hrecv : ws[q0]? = some (b, .inr (ci, fs))) (hci : vwCl[ci]? = some (y.cls, T, N)) (hd' : d' < d) (hrest : (rest.map fun v => v.category).sum ≤ 8) (had : ∀ u, (wo u).map (fun q => q.1) = ws.map (fun q => q.1))
    (k : ∀ u, post u → RR X nL D A kc ks (wo u) lv (pc + 3) rest) : RR X nL D A kc ks ws lv pc st :=
  r_callVw h hd hcw hlink hM hz hst hn hrecv hci hd' hrest had k
theorem r_callSwi {ri : S → Int32} (h : rx_ok X cc nL own D tys A d kc ks z) (hd : decode cc pc = .ok (.invokestatic index, 3)) (hcw : CWS y cy ny ret n) (hlink : Cond.methodLink own index y ∈ TB) (hM : CT X.2.1 D tys z' y cy ny ret d' As ws post (fun u => some (.int (ri u))) wo) (hz : z' = none ∨ z' = z) (hst : As.reverse ++ rest = st) (hn : As.length = n) (hd' : d' < d) (hrest : (rest.map fun v => v.category).sum ≤ 8) (had : ∀ u, (wo u).map (fun q => q.1) = ws.map (fun q => q.1))
    (k : ∀ u, post u → RR X nL D A kc ks (wo u) lv (pc + 3) (.int (ri u) :: rest)) : RR X nL D A kc ks ws lv pc st :=
  r_callSw h hd hcw hlink hM hz hst hn hd' hrest had k
theorem r_callSwl {ri : S → Int64} (h : rx_ok X cc nL own D tys A d kc ks z) (hd : decode cc pc = .ok (.invokestatic index, 3)) (hcw : CWS y cy ny ret n) (hlink : Cond.methodLink own index y ∈ TB) (hM : CT X.2.1 D tys z' y cy ny ret d' As ws post (fun u => some (.long (ri u))) wo) (hz : z' = none ∨ z' = z) (hst : As.reverse ++ rest = st) (hn : As.length = n) (hd' : d' < d) (hrest : (rest.map fun v => v.category).sum ≤ 8) (had : ∀ u, (wo u).map (fun q => q.1) = ws.map (fun q => q.1))
    (k : ∀ u, post u → RR X nL D A kc ks (wo u) lv (pc + 3) (.long (ri u) :: rest)) : RR X nL D A kc ks ws lv pc st :=
  r_callSw h hd hcw hlink hM hz hst hn hd' hrest had k
theorem r_callSwv (h : rx_ok X cc nL own D tys A d kc ks z) (hd : decode cc pc = .ok (.invokestatic index, 3)) (hcw : CWS y cy ny ret n) (hlink : Cond.methodLink own index y ∈ TB) (hM : CT X.2.1 D tys z' y cy ny ret d' As ws post (fun _ => none) wo) (hz : z' = none ∨ z' = z) (hst : As.reverse ++ rest = st) (hn : As.length = n) (hd' : d' < d) (hrest : (rest.map fun v => v.category).sum ≤ 8) (had : ∀ u, (wo u).map (fun q => q.1) = ws.map (fun q => q.1))
    (k : ∀ u, post u → RR X nL D A kc ks (wo u) lv (pc + 3) rest) : RR X nL D A kc ks ws lv pc st :=
  r_callSw h hd hcw hlink hM hz hst hn hd' hrest had k
theorem r_gets {t : Nat} {ref : String} (h : rx_ok X cc nL own D tys A d kc ks (some t)) (hd : decode cc pc = .ok (.getstatic index, 3)) (hlink : Cond.fieldLink own index "GoalScanner" "OPERANDS" "[I" ∈ TB) (k : RR X nL D A kc ks ws lv (pc + 3) (.ref t :: rest)) : RR X nL D A kc ks ws lv pc rest := by
  obtain ⟨p, l, e, R, s, m, args, below, meth, c, Q⟩ := X
  obtain ⟨hx, hb, hml, hown, hts, hK, hA, hR, hRC, hE⟩ := h
  intro H locs ls hP hD hS hl
  exact va_gets hx hb hE.1 hS hown (hts _ hlink) (fun _ h9 => h9) hd (k H locs ls hP hD hS hl)
theorem r_ti {t j : Nat} {i : Int32} (h : rx_ok X cc nL own D tys A d kc ks (some t)) (hd : decode cc pc = .ok (.iaload, 1)) (hi : i = nI j) (hj : j < 22) (k : RR X nL D A kc ks ws lv (pc + 1) (.int (nI (opsN j)) :: rest)) : RR X nL D A kc ks ws lv pc (.int i :: .ref t :: rest) := by
  obtain ⟨p, l, e, R, s, m, args, below, meth, c, Q⟩ := X
  obtain ⟨hx, hb, hml, hown, hts, hK, hA, hR, hRC, hE⟩ := h
  obtain ⟨h1, h2⟩ := rx_in (n := 22) hi hj (by decide)
  intro H locs ls hP hD hS hl
  exact va_ti hx hb hE.2 hS h1 (by rw [h2]) hd (k H locs ls hP hD hS hl)
end RD
end
