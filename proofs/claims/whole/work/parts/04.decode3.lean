theorem d_G_solvePairs_111 : decode b_G_solvePairs 111 = .ok (.iinc 5 1, 3) := by decide +kernel
theorem d_G_solvePairs_114 : decode b_G_solvePairs 114 = .ok (.goto (-85), 3) := by decide +kernel
theorem d_G_solvePairs_117 : decode b_G_solvePairs 117 = .ok (.aload_n 0, 1) := by decide +kernel
theorem d_G_solvePairs_118 : decode b_G_solvePairs 118 = .ok (.getfield 28, 3) := by decide +kernel
theorem d_G_solvePairs_121 : decode b_G_solvePairs 121 = .ok (.iload_n 3, 1) := by decide +kernel
theorem d_G_solvePairs_122 : decode b_G_solvePairs 122 = .ok (.iload 4, 2) := by decide +kernel
theorem d_G_solvePairs_124 : decode b_G_solvePairs 124 = .ok (.invokevirtual 214, 3) := by decide +kernel
theorem d_G_solvePairs_127 : decode b_G_solvePairs 127 = .ok (.return_, 1) := by decide +kernel
theorem d_G_pushPair_0 : decode b_G_pushPair 0 = .ok (.aload_n 0, 1) := by decide +kernel
theorem d_G_pushPair_1 : decode b_G_pushPair 1 = .ok (.getfield 28, 3) := by decide +kernel
theorem d_G_pushPair_4 : decode b_G_pushPair 4 = .ok (.iload_n 3, 1) := by decide +kernel
theorem d_G_pushPair_5 : decode b_G_pushPair 5 = .ok (.invokevirtual 92, 3) := by decide +kernel
theorem d_G_pushPair_8 : decode b_G_pushPair 8 = .ok (.istore 4, 2) := by decide +kernel
theorem d_G_pushPair_10 : decode b_G_pushPair 10 = .ok (.iload_n 1, 1) := by decide +kernel
theorem d_G_pushPair_11 : decode b_G_pushPair 11 = .ok (.tableswitch 131 9 14 #[37, 52, 67, 82, 101, 120], 37) := by decide +kernel
theorem d_G_pushPair_48 : decode b_G_pushPair 48 = .ok (.aload_n 0, 1) := by decide +kernel
theorem d_G_pushPair_49 : decode b_G_pushPair 49 = .ok (.getfield 28, 3) := by decide +kernel
theorem d_G_pushPair_52 : decode b_G_pushPair 52 = .ok (.iload_n 2, 1) := by decide +kernel
theorem d_G_pushPair_53 : decode b_G_pushPair 53 = .ok (.iload 4, 2) := by decide +kernel
theorem d_G_pushPair_55 : decode b_G_pushPair 55 = .ok (.iadd, 1) := by decide +kernel
theorem d_G_pushPair_56 : decode b_G_pushPair 56 = .ok (.iload_n 3, 1) := by decide +kernel
theorem d_G_pushPair_57 : decode b_G_pushPair 57 = .ok (.invokevirtual 160, 3) := by decide +kernel
theorem d_G_pushPair_60 : decode b_G_pushPair 60 = .ok (.goto 92, 3) := by decide +kernel
theorem d_G_pushPair_63 : decode b_G_pushPair 63 = .ok (.aload_n 0, 1) := by decide +kernel
theorem d_G_pushPair_64 : decode b_G_pushPair 64 = .ok (.getfield 28, 3) := by decide +kernel
theorem d_G_pushPair_67 : decode b_G_pushPair 67 = .ok (.iload_n 2, 1) := by decide +kernel
theorem d_G_pushPair_68 : decode b_G_pushPair 68 = .ok (.iload 4, 2) := by decide +kernel
theorem d_G_pushPair_70 : decode b_G_pushPair 70 = .ok (.isub, 1) := by decide +kernel
theorem d_G_pushPair_71 : decode b_G_pushPair 71 = .ok (.iload_n 3, 1) := by decide +kernel
theorem d_G_pushPair_72 : decode b_G_pushPair 72 = .ok (.invokevirtual 160, 3) := by decide +kernel
theorem d_G_pushPair_75 : decode b_G_pushPair 75 = .ok (.goto 77, 3) := by decide +kernel
theorem d_G_pushPair_78 : decode b_G_pushPair 78 = .ok (.aload_n 0, 1) := by decide +kernel
theorem d_G_pushPair_79 : decode b_G_pushPair 79 = .ok (.getfield 28, 3) := by decide +kernel
theorem d_G_pushPair_82 : decode b_G_pushPair 82 = .ok (.iload_n 2, 1) := by decide +kernel
theorem d_G_pushPair_83 : decode b_G_pushPair 83 = .ok (.iload 4, 2) := by decide +kernel
theorem d_G_pushPair_85 : decode b_G_pushPair 85 = .ok (.imul, 1) := by decide +kernel
theorem d_G_pushPair_86 : decode b_G_pushPair 86 = .ok (.iload_n 3, 1) := by decide +kernel
theorem d_G_pushPair_87 : decode b_G_pushPair 87 = .ok (.invokevirtual 160, 3) := by decide +kernel
theorem d_G_pushPair_90 : decode b_G_pushPair 90 = .ok (.goto 62, 3) := by decide +kernel
theorem d_G_pushPair_93 : decode b_G_pushPair 93 = .ok (.iload_n 2, 1) := by decide +kernel
theorem d_G_pushPair_94 : decode b_G_pushPair 94 = .ok (.iload 4, 2) := by decide +kernel
theorem d_G_pushPair_96 : decode b_G_pushPair 96 = .ok (.if_icmp .ge 56, 3) := by decide +kernel
theorem d_G_pushPair_99 : decode b_G_pushPair 99 = .ok (.aload_n 0, 1) := by decide +kernel
theorem d_G_pushPair_100 : decode b_G_pushPair 100 = .ok (.getfield 28, 3) := by decide +kernel
theorem d_G_pushPair_103 : decode b_G_pushPair 103 = .ok (.iload 4, 2) := by decide +kernel
theorem d_G_pushPair_105 : decode b_G_pushPair 105 = .ok (.iload_n 3, 1) := by decide +kernel
theorem d_G_pushPair_106 : decode b_G_pushPair 106 = .ok (.invokevirtual 160, 3) := by decide +kernel
theorem d_G_pushPair_109 : decode b_G_pushPair 109 = .ok (.goto 43, 3) := by decide +kernel
theorem d_G_pushPair_112 : decode b_G_pushPair 112 = .ok (.iload_n 2, 1) := by decide +kernel
theorem d_G_pushPair_113 : decode b_G_pushPair 113 = .ok (.iload 4, 2) := by decide +kernel
theorem d_G_pushPair_115 : decode b_G_pushPair 115 = .ok (.if_icmp .ne 37, 3) := by decide +kernel
theorem d_G_pushPair_118 : decode b_G_pushPair 118 = .ok (.aload_n 0, 1) := by decide +kernel
theorem d_G_pushPair_119 : decode b_G_pushPair 119 = .ok (.getfield 28, 3) := by decide +kernel
theorem d_G_pushPair_122 : decode b_G_pushPair 122 = .ok (.iload 4, 2) := by decide +kernel
theorem d_G_pushPair_124 : decode b_G_pushPair 124 = .ok (.iload_n 3, 1) := by decide +kernel
theorem d_G_pushPair_125 : decode b_G_pushPair 125 = .ok (.invokevirtual 160, 3) := by decide +kernel
theorem d_G_pushPair_128 : decode b_G_pushPair 128 = .ok (.goto 24, 3) := by decide +kernel
theorem d_G_pushPair_131 : decode b_G_pushPair 131 = .ok (.aload_n 0, 1) := by decide +kernel
theorem d_G_pushPair_132 : decode b_G_pushPair 132 = .ok (.iload_n 2, 1) := by decide +kernel
theorem d_G_pushPair_133 : decode b_G_pushPair 133 = .ok (.iload 4, 2) := by decide +kernel
theorem d_G_pushPair_135 : decode b_G_pushPair 135 = .ok (.iload_n 3, 1) := by decide +kernel
theorem d_G_pushPair_136 : decode b_G_pushPair 136 = .ok (.invokevirtual 226, 3) := by decide +kernel
theorem d_G_pushPair_139 : decode b_G_pushPair 139 = .ok (.goto 13, 3) := by decide +kernel
theorem d_G_pushPair_142 : decode b_G_pushPair 142 = .ok (.aload_n 0, 1) := by decide +kernel
theorem d_G_pushPair_143 : decode b_G_pushPair 143 = .ok (.getfield 28, 3) := by decide +kernel
theorem d_G_pushPair_146 : decode b_G_pushPair 146 = .ok (.iload 4, 2) := by decide +kernel
theorem d_G_pushPair_148 : decode b_G_pushPair 148 = .ok (.iload_n 3, 1) := by decide +kernel
theorem d_G_pushPair_149 : decode b_G_pushPair 149 = .ok (.invokevirtual 160, 3) := by decide +kernel
theorem d_G_pushPair_152 : decode b_G_pushPair 152 = .ok (.return_, 1) := by decide +kernel
theorem d_G_pushSeries_0 : decode b_G_pushSeries 0 = .ok (.iload_n 2, 1) := by decide +kernel
theorem d_G_pushSeries_1 : decode b_G_pushSeries 1 = .ok (.i2l, 1) := by decide +kernel
theorem d_G_pushSeries_2 : decode b_G_pushSeries 2 = .ok (.iload_n 1, 1) := by decide +kernel
theorem d_G_pushSeries_3 : decode b_G_pushSeries 3 = .ok (.i2l, 1) := by decide +kernel
theorem d_G_pushSeries_4 : decode b_G_pushSeries 4 = .ok (.ldc2_w 229, 3) := by decide +kernel
theorem d_G_pushSeries_7 : decode b_G_pushSeries 7 = .ok (.ladd, 1) := by decide +kernel
theorem d_G_pushSeries_8 : decode b_G_pushSeries 8 = .ok (.lconst 1, 1) := by decide +kernel
theorem d_G_pushSeries_9 : decode b_G_pushSeries 9 = .ok (.lsub, 1) := by decide +kernel
theorem d_G_pushSeries_10 : decode b_G_pushSeries 10 = .ok (.invokestatic 231, 3) := by decide +kernel
theorem d_G_pushSeries_13 : decode b_G_pushSeries 13 = .ok (.lstore 4, 2) := by decide +kernel
theorem d_G_pushSeries_15 : decode b_G_pushSeries 15 = .ok (.iload_n 1, 1) := by decide +kernel
theorem d_G_pushSeries_16 : decode b_G_pushSeries 16 = .ok (.i2l, 1) := by decide +kernel
theorem d_G_pushSeries_17 : decode b_G_pushSeries 17 = .ok (.lstore 6, 2) := by decide +kernel
theorem d_G_pushSeries_19 : decode b_G_pushSeries 19 = .ok (.lload 6, 2) := by decide +kernel
theorem d_G_pushSeries_21 : decode b_G_pushSeries 21 = .ok (.lload 4, 2) := by decide +kernel
theorem d_G_pushSeries_23 : decode b_G_pushSeries 23 = .ok (.lcmp, 1) := by decide +kernel
theorem d_G_pushSeries_24 : decode b_G_pushSeries 24 = .ok (.ifCond .gt 23, 3) := by decide +kernel
theorem d_G_pushSeries_27 : decode b_G_pushSeries 27 = .ok (.aload_n 0, 1) := by decide +kernel
theorem d_G_pushSeries_28 : decode b_G_pushSeries 28 = .ok (.getfield 28, 3) := by decide +kernel
theorem d_G_pushSeries_31 : decode b_G_pushSeries 31 = .ok (.lload 6, 2) := by decide +kernel
theorem d_G_pushSeries_33 : decode b_G_pushSeries 33 = .ok (.l2i, 1) := by decide +kernel
theorem d_G_pushSeries_34 : decode b_G_pushSeries 34 = .ok (.iload_n 3, 1) := by decide +kernel
theorem d_G_pushSeries_35 : decode b_G_pushSeries 35 = .ok (.invokevirtual 160, 3) := by decide +kernel
theorem d_G_pushSeries_38 : decode b_G_pushSeries 38 = .ok (.lload 6, 2) := by decide +kernel
theorem d_G_pushSeries_40 : decode b_G_pushSeries 40 = .ok (.lconst 1, 1) := by decide +kernel
theorem d_G_pushSeries_41 : decode b_G_pushSeries 41 = .ok (.ladd, 1) := by decide +kernel
theorem d_G_pushSeries_42 : decode b_G_pushSeries 42 = .ok (.lstore 6, 2) := by decide +kernel
theorem d_G_pushSeries_44 : decode b_G_pushSeries 44 = .ok (.goto (-25), 3) := by decide +kernel
theorem d_G_pushSeries_47 : decode b_G_pushSeries 47 = .ok (.return_, 1) := by decide +kernel
theorem d_R_takeFrom_0 : decode b_R_takeFrom 0 = .ok (.aload_n 0, 1) := by decide +kernel
theorem d_R_takeFrom_1 : decode b_R_takeFrom 1 = .ok (.iload_n 3, 1) := by decide +kernel
theorem d_R_takeFrom_2 : decode b_R_takeFrom 2 = .ok (.aload_n 0, 1) := by decide +kernel
theorem d_R_takeFrom_3 : decode b_R_takeFrom 3 = .ok (.getfield 15, 3) := by decide +kernel
theorem d_R_takeFrom_6 : decode b_R_takeFrom 6 = .ok (.invokestatic 32, 3) := by decide +kernel
theorem d_R_takeFrom_9 : decode b_R_takeFrom 9 = .ok (.aload_n 1, 1) := by decide +kernel
theorem d_R_takeFrom_10 : decode b_R_takeFrom 10 = .ok (.getfield 19, 3) := by decide +kernel
theorem d_R_takeFrom_13 : decode b_R_takeFrom 13 = .ok (.iload_n 2, 1) := by decide +kernel
theorem d_R_takeFrom_14 : decode b_R_takeFrom 14 = .ok (.isub, 1) := by decide +kernel
theorem d_R_takeFrom_15 : decode b_R_takeFrom 15 = .ok (.invokestatic 32, 3) := by decide +kernel
theorem d_R_takeFrom_18 : decode b_R_takeFrom 18 = .ok (.putfield 19, 3) := by decide +kernel
theorem d_R_takeFrom_21 : decode b_R_takeFrom 21 = .ok (.aload_n 1, 1) := by decide +kernel
theorem d_R_takeFrom_22 : decode b_R_takeFrom 22 = .ok (.getfield 11, 3) := by decide +kernel
theorem d_R_takeFrom_25 : decode b_R_takeFrom 25 = .ok (.iload_n 2, 1) := by decide +kernel
theorem d_R_takeFrom_26 : decode b_R_takeFrom 26 = .ok (.bipush 6, 2) := by decide +kernel
theorem d_R_takeFrom_28 : decode b_R_takeFrom 28 = .ok (.imul, 1) := by decide +kernel
theorem d_R_takeFrom_29 : decode b_R_takeFrom 29 = .ok (.aload_n 0, 1) := by decide +kernel
theorem d_R_takeFrom_30 : decode b_R_takeFrom 30 = .ok (.getfield 11, 3) := by decide +kernel
theorem d_R_takeFrom_33 : decode b_R_takeFrom 33 = .ok (.iconst 0, 1) := by decide +kernel
theorem d_R_takeFrom_34 : decode b_R_takeFrom 34 = .ok (.aload_n 0, 1) := by decide +kernel
theorem d_R_takeFrom_35 : decode b_R_takeFrom 35 = .ok (.getfield 19, 3) := by decide +kernel
theorem d_R_takeFrom_38 : decode b_R_takeFrom 38 = .ok (.bipush 6, 2) := by decide +kernel
theorem d_R_takeFrom_40 : decode b_R_takeFrom 40 = .ok (.imul, 1) := by decide +kernel
theorem d_R_takeFrom_41 : decode b_R_takeFrom 41 = .ok (.invokestatic 22, 3) := by decide +kernel
theorem d_R_takeFrom_44 : decode b_R_takeFrom 44 = .ok (.return_, 1) := by decide +kernel
theorem d_G_attempt_0 : decode b_G_attempt 0 = .ok (.aload_n 0, 1) := by decide +kernel
theorem d_G_attempt_1 : decode b_G_attempt 1 = .ok (.iload_n 1, 1) := by decide +kernel
theorem d_G_attempt_2 : decode b_G_attempt 2 = .ok (.iconst 1, 1) := by decide +kernel
theorem d_G_attempt_3 : decode b_G_attempt 3 = .ok (.invokevirtual 84, 3) := by decide +kernel
theorem d_G_attempt_6 : decode b_G_attempt 6 = .ok (.ireturn, 1) := by decide +kernel
theorem d_G_result_0 : decode b_G_result 0 = .ok (.aload_n 0, 1) := by decide +kernel
theorem d_G_result_1 : decode b_G_result 1 = .ok (.getfield 32, 3) := by decide +kernel
theorem d_G_result_4 : decode b_G_result 4 = .ok (.iload_n 1, 1) := by decide +kernel
theorem d_G_result_5 : decode b_G_result 5 = .ok (.invokevirtual 88, 3) := by decide +kernel
theorem d_G_result_8 : decode b_G_result 8 = .ok (.ifCond .eq 15, 3) := by decide +kernel
theorem d_G_result_11 : decode b_G_result 11 = .ok (.aload_n 0, 1) := by decide +kernel
theorem d_G_result_12 : decode b_G_result 12 = .ok (.getfield 32, 3) := by decide +kernel
theorem d_G_result_15 : decode b_G_result 15 = .ok (.iload_n 1, 1) := by decide +kernel
theorem d_G_result_16 : decode b_G_result 16 = .ok (.invokevirtual 92, 3) := by decide +kernel
theorem d_G_result_19 : decode b_G_result 19 = .ok (.i2l, 1) := by decide +kernel
theorem d_G_result_20 : decode b_G_result 20 = .ok (.goto 6, 3) := by decide +kernel
theorem d_G_result_23 : decode b_G_result 23 = .ok (.ldc2_w 96, 3) := by decide +kernel
theorem d_G_result_26 : decode b_G_result 26 = .ok (.lreturn, 1) := by decide +kernel
theorem d_R_has_0 : decode b_R_has 0 = .ok (.iload_n 1, 1) := by decide +kernel
theorem d_R_has_1 : decode b_R_has 1 = .ok (.ifCond .lt 15, 3) := by decide +kernel
theorem d_R_has_4 : decode b_R_has 4 = .ok (.iload_n 1, 1) := by decide +kernel
theorem d_R_has_5 : decode b_R_has 5 = .ok (.aload_n 0, 1) := by decide +kernel
theorem d_R_has_6 : decode b_R_has 6 = .ok (.getfield 19, 3) := by decide +kernel
theorem d_R_has_9 : decode b_R_has 9 = .ok (.if_icmp .ge 7, 3) := by decide +kernel
theorem d_R_has_12 : decode b_R_has 12 = .ok (.iconst 1, 1) := by decide +kernel
theorem d_R_has_13 : decode b_R_has 13 = .ok (.goto 4, 3) := by decide +kernel
theorem d_R_has_16 : decode b_R_has 16 = .ok (.iconst 0, 1) := by decide +kernel
theorem d_R_has_17 : decode b_R_has 17 = .ok (.ireturn, 1) := by decide +kernel
theorem d_G_place_0 : decode b_G_place 0 = .ok (.aload_n 0, 1) := by decide +kernel
theorem d_G_place_1 : decode b_G_place 1 = .ok (.getfield 32, 3) := by decide +kernel
theorem d_G_place_4 : decode b_G_place 4 = .ok (.iload_n 1, 1) := by decide +kernel
theorem d_G_place_5 : decode b_G_place 5 = .ok (.invokevirtual 88, 3) := by decide +kernel
theorem d_G_place_8 : decode b_G_place 8 = .ok (.ifCond .eq 14, 3) := by decide +kernel
theorem d_G_place_11 : decode b_G_place 11 = .ok (.aload_n 0, 1) := by decide +kernel
theorem d_G_place_12 : decode b_G_place 12 = .ok (.getfield 32, 3) := by decide +kernel
theorem d_G_place_15 : decode b_G_place 15 = .ok (.iload_n 1, 1) := by decide +kernel
theorem d_G_place_16 : decode b_G_place 16 = .ok (.invokevirtual 98, 3) := by decide +kernel
theorem d_G_place_19 : decode b_G_place 19 = .ok (.goto 4, 3) := by decide +kernel
theorem d_G_place_22 : decode b_G_place 22 = .ok (.iconst (-1), 1) := by decide +kernel
theorem d_G_place_23 : decode b_G_place 23 = .ok (.ireturn, 1) := by decide +kernel
theorem d_G_variable_0 : decode b_G_variable 0 = .ok (.aload_n 0, 1) := by decide +kernel
theorem d_G_variable_1 : decode b_G_variable 1 = .ok (.getfield 32, 3) := by decide +kernel
theorem d_G_variable_4 : decode b_G_variable 4 = .ok (.iload_n 1, 1) := by decide +kernel
theorem d_G_variable_5 : decode b_G_variable 5 = .ok (.invokevirtual 88, 3) := by decide +kernel
theorem d_G_variable_8 : decode b_G_variable 8 = .ok (.ifCond .eq 23, 3) := by decide +kernel
theorem d_G_variable_11 : decode b_G_variable 11 = .ok (.iload_n 2, 1) := by decide +kernel
theorem d_G_variable_12 : decode b_G_variable 12 = .ok (.invokestatic 101, 3) := by decide +kernel
theorem d_G_variable_15 : decode b_G_variable 15 = .ok (.ifCond .eq 16, 3) := by decide +kernel
theorem d_G_variable_18 : decode b_G_variable 18 = .ok (.aload_n 0, 1) := by decide +kernel
theorem d_G_variable_19 : decode b_G_variable 19 = .ok (.getfield 32, 3) := by decide +kernel
theorem d_G_variable_22 : decode b_G_variable 22 = .ok (.iload_n 1, 1) := by decide +kernel
theorem d_G_variable_23 : decode b_G_variable 23 = .ok (.iload_n 2, 1) := by decide +kernel
theorem d_G_variable_24 : decode b_G_variable 24 = .ok (.invokevirtual 104, 3) := by decide +kernel
theorem d_G_variable_27 : decode b_G_variable 27 = .ok (.i2l, 1) := by decide +kernel
theorem d_G_variable_28 : decode b_G_variable 28 = .ok (.goto 6, 3) := by decide +kernel
theorem d_G_variable_31 : decode b_G_variable 31 = .ok (.ldc2_w 96, 3) := by decide +kernel
theorem d_G_variable_34 : decode b_G_variable 34 = .ok (.lreturn, 1) := by decide +kernel
theorem d_G_bound_0 : decode b_G_bound 0 = .ok (.aload_n 0, 1) := by decide +kernel
theorem d_G_bound_1 : decode b_G_bound 1 = .ok (.iload_n 1, 1) := by decide +kernel
theorem d_G_bound_2 : decode b_G_bound 2 = .ok (.invokevirtual 107, 3) := by decide +kernel
theorem d_G_bound_5 : decode b_G_bound 5 = .ok (.ifCond .eq 15, 3) := by decide +kernel
theorem d_G_bound_8 : decode b_G_bound 8 = .ok (.aload_n 0, 1) := by decide +kernel
theorem d_G_bound_9 : decode b_G_bound 9 = .ok (.getfield 18, 3) := by decide +kernel
theorem d_G_bound_12 : decode b_G_bound 12 = .ok (.iload_n 1, 1) := by decide +kernel
theorem d_G_bound_13 : decode b_G_bound 13 = .ok (.aaload, 1) := by decide +kernel
theorem d_G_bound_14 : decode b_G_bound 14 = .ok (.getfield 65, 3) := by decide +kernel
theorem d_G_bound_17 : decode b_G_bound 17 = .ok (.goto 4, 3) := by decide +kernel
theorem d_G_bound_20 : decode b_G_bound 20 = .ok (.iconst (-1), 1) := by decide +kernel
theorem d_G_bound_21 : decode b_G_bound 21 = .ok (.ireturn, 1) := by decide +kernel
theorem d_G_level_0 : decode b_G_level 0 = .ok (.aload_n 0, 1) := by decide +kernel
theorem d_G_level_1 : decode b_G_level 1 = .ok (.iload_n 1, 1) := by decide +kernel
theorem d_G_level_2 : decode b_G_level 2 = .ok (.invokevirtual 107, 3) := by decide +kernel
theorem d_G_level_5 : decode b_G_level 5 = .ok (.ifCond .eq 15, 3) := by decide +kernel
theorem d_G_level_8 : decode b_G_level 8 = .ok (.aload_n 0, 1) := by decide +kernel
theorem d_G_level_9 : decode b_G_level 9 = .ok (.getfield 18, 3) := by decide +kernel
theorem d_G_level_12 : decode b_G_level 12 = .ok (.iload_n 1, 1) := by decide +kernel
theorem d_G_level_13 : decode b_G_level 13 = .ok (.aaload, 1) := by decide +kernel
theorem d_G_level_14 : decode b_G_level 14 = .ok (.getfield 77, 3) := by decide +kernel
theorem d_G_level_17 : decode b_G_level 17 = .ok (.goto 4, 3) := by decide +kernel
theorem d_G_level_20 : decode b_G_level 20 = .ok (.iconst (-1), 1) := by decide +kernel
theorem d_G_level_21 : decode b_G_level 21 = .ok (.ireturn, 1) := by decide +kernel
theorem d_G_used_0 : decode b_G_used 0 = .ok (.aload_n 0, 1) := by decide +kernel
theorem d_G_used_1 : decode b_G_used 1 = .ok (.iload_n 1, 1) := by decide +kernel
theorem d_G_used_2 : decode b_G_used 2 = .ok (.invokevirtual 107, 3) := by decide +kernel
theorem d_G_used_5 : decode b_G_used 5 = .ok (.ifCond .eq 19, 3) := by decide +kernel
theorem d_G_used_8 : decode b_G_used 8 = .ok (.aload_n 0, 1) := by decide +kernel
theorem d_G_used_9 : decode b_G_used 9 = .ok (.getfield 18, 3) := by decide +kernel
theorem d_G_used_12 : decode b_G_used 12 = .ok (.iload_n 1, 1) := by decide +kernel
theorem d_G_used_13 : decode b_G_used 13 = .ok (.aaload, 1) := by decide +kernel
theorem d_G_used_14 : decode b_G_used 14 = .ok (.getfield 110, 3) := by decide +kernel
theorem d_G_used_17 : decode b_G_used 17 = .ok (.ifCond .eq 7, 3) := by decide +kernel
theorem d_G_used_20 : decode b_G_used 20 = .ok (.iconst 1, 1) := by decide +kernel
theorem d_G_used_21 : decode b_G_used 21 = .ok (.goto 4, 3) := by decide +kernel
theorem d_G_used_24 : decode b_G_used 24 = .ok (.iconst 0, 1) := by decide +kernel
theorem d_G_used_25 : decode b_G_used 25 = .ok (.ireturn, 1) := by decide +kernel
theorem d_G_count_0 : decode b_G_count 0 = .ok (.iload_n 1, 1) := by decide +kernel
theorem d_G_count_1 : decode b_G_count 1 = .ok (.tableswitch 64 0 3 #[31, 36, 44, 52], 31) := by decide +kernel
theorem d_G_count_32 : decode b_G_count 32 = .ok (.aload_n 0, 1) := by decide +kernel
theorem d_G_count_33 : decode b_G_count 33 = .ok (.getfield 42, 3) := by decide +kernel
theorem d_G_count_36 : decode b_G_count 36 = .ok (.ireturn, 1) := by decide +kernel
theorem d_G_count_37 : decode b_G_count 37 = .ok (.aload_n 0, 1) := by decide +kernel
theorem d_G_count_38 : decode b_G_count 38 = .ok (.getfield 12, 3) := by decide +kernel
theorem d_G_count_41 : decode b_G_count 41 = .ok (.getfield 35, 3) := by decide +kernel
theorem d_G_count_44 : decode b_G_count 44 = .ok (.ireturn, 1) := by decide +kernel
theorem d_G_count_45 : decode b_G_count 45 = .ok (.aload_n 0, 1) := by decide +kernel
theorem d_G_count_46 : decode b_G_count 46 = .ok (.getfield 32, 3) := by decide +kernel
theorem d_G_count_49 : decode b_G_count 49 = .ok (.getfield 114, 3) := by decide +kernel
theorem d_G_count_52 : decode b_G_count 52 = .ok (.ireturn, 1) := by decide +kernel
theorem d_G_count_53 : decode b_G_count 53 = .ok (.aload_n 0, 1) := by decide +kernel
theorem d_G_count_54 : decode b_G_count 54 = .ok (.getfield 32, 3) := by decide +kernel
theorem d_G_count_57 : decode b_G_count 57 = .ok (.aload_n 0, 1) := by decide +kernel
theorem d_G_count_58 : decode b_G_count 58 = .ok (.getfield 117, 3) := by decide +kernel
theorem d_G_count_61 : decode b_G_count 61 = .ok (.invokevirtual 120, 3) := by decide +kernel
theorem d_G_count_64 : decode b_G_count 64 = .ok (.ireturn, 1) := by decide +kernel
theorem d_G_count_65 : decode b_G_count 65 = .ok (.iconst (-1), 1) := by decide +kernel
theorem d_G_count_66 : decode b_G_count 66 = .ok (.ireturn, 1) := by decide +kernel
theorem d_R_countAtPlace_0 : decode b_R_countAtPlace 0 = .ok (.iconst 0, 1) := by decide +kernel
theorem d_R_countAtPlace_1 : decode b_R_countAtPlace 1 = .ok (.istore_n 2, 1) := by decide +kernel
theorem d_R_countAtPlace_2 : decode b_R_countAtPlace 2 = .ok (.iconst 0, 1) := by decide +kernel
theorem d_R_countAtPlace_3 : decode b_R_countAtPlace 3 = .ok (.istore_n 3, 1) := by decide +kernel
theorem d_R_countAtPlace_4 : decode b_R_countAtPlace 4 = .ok (.iload_n 3, 1) := by decide +kernel
theorem d_R_countAtPlace_5 : decode b_R_countAtPlace 5 = .ok (.aload_n 0, 1) := by decide +kernel
theorem d_R_countAtPlace_6 : decode b_R_countAtPlace 6 = .ok (.getfield 19, 3) := by decide +kernel
theorem d_R_countAtPlace_9 : decode b_R_countAtPlace 9 = .ok (.if_icmp .ge 21, 3) := by decide +kernel
theorem d_R_countAtPlace_12 : decode b_R_countAtPlace 12 = .ok (.aload_n 0, 1) := by decide +kernel
theorem d_R_countAtPlace_13 : decode b_R_countAtPlace 13 = .ok (.iload_n 3, 1) := by decide +kernel
theorem d_R_countAtPlace_14 : decode b_R_countAtPlace 14 = .ok (.invokevirtual 38, 3) := by decide +kernel
theorem d_R_countAtPlace_17 : decode b_R_countAtPlace 17 = .ok (.iload_n 1, 1) := by decide +kernel
theorem d_R_countAtPlace_18 : decode b_R_countAtPlace 18 = .ok (.if_icmp .ne 6, 3) := by decide +kernel
theorem d_R_countAtPlace_21 : decode b_R_countAtPlace 21 = .ok (.iinc 2 1, 3) := by decide +kernel
theorem d_R_countAtPlace_24 : decode b_R_countAtPlace 24 = .ok (.iinc 3 1, 3) := by decide +kernel
theorem d_R_countAtPlace_27 : decode b_R_countAtPlace 27 = .ok (.goto (-23), 3) := by decide +kernel
theorem d_R_countAtPlace_30 : decode b_R_countAtPlace 30 = .ok (.iload_n 2, 1) := by decide +kernel
theorem d_R_countAtPlace_31 : decode b_R_countAtPlace 31 = .ok (.ireturn, 1) := by decide +kernel
theorem d_M_init_0 : decode b_M_init 0 = .ok (.aload_n 0, 1) := by decide +kernel
theorem d_M_init_1 : decode b_M_init 1 = .ok (.invokespecial 1, 3) := by decide +kernel
theorem d_M_init_4 : decode b_M_init 4 = .ok (.aload_n 0, 1) := by decide +kernel
theorem d_M_init_5 : decode b_M_init 5 = .ok (.iconst 0, 1) := by decide +kernel
theorem d_M_init_6 : decode b_M_init 6 = .ok (.putfield 7, 3) := by decide +kernel
theorem d_M_init_9 : decode b_M_init 9 = .ok (.aload_n 0, 1) := by decide +kernel
theorem d_M_init_10 : decode b_M_init 10 = .ok (.iconst 0, 1) := by decide +kernel
theorem d_M_init_11 : decode b_M_init 11 = .ok (.putfield 13, 3) := by decide +kernel
theorem d_M_init_14 : decode b_M_init 14 = .ok (.aload_n 0, 1) := by decide +kernel
theorem d_M_init_15 : decode b_M_init 15 = .ok (.iconst 0, 1) := by decide +kernel
theorem d_M_init_16 : decode b_M_init 16 = .ok (.putfield 16, 3) := by decide +kernel
theorem d_M_init_19 : decode b_M_init 19 = .ok (.aload_n 0, 1) := by decide +kernel
theorem d_M_init_20 : decode b_M_init 20 = .ok (.iconst 0, 1) := by decide +kernel
theorem d_M_init_21 : decode b_M_init 21 = .ok (.putfield 19, 3) := by decide +kernel
theorem d_M_init_24 : decode b_M_init 24 = .ok (.aload_n 0, 1) := by decide +kernel
theorem d_M_init_25 : decode b_M_init 25 = .ok (.bipush 24, 2) := by decide +kernel
theorem d_M_init_27 : decode b_M_init 27 = .ok (.newarray .int, 2) := by decide +kernel
theorem d_M_init_29 : decode b_M_init 29 = .ok (.putfield 22, 3) := by decide +kernel
theorem d_M_init_32 : decode b_M_init 32 = .ok (.aload_n 0, 1) := by decide +kernel
theorem d_M_init_33 : decode b_M_init 33 = .ok (.bipush 60, 2) := by decide +kernel
theorem d_M_init_35 : decode b_M_init 35 = .ok (.newarray .int, 2) := by decide +kernel
theorem d_M_init_37 : decode b_M_init 37 = .ok (.putfield 26, 3) := by decide +kernel
theorem d_M_init_40 : decode b_M_init 40 = .ok (.aload_n 0, 1) := by decide +kernel
theorem d_M_init_41 : decode b_M_init 41 = .ok (.bipush 60, 2) := by decide +kernel
theorem d_M_init_43 : decode b_M_init 43 = .ok (.newarray .int, 2) := by decide +kernel
theorem d_M_init_45 : decode b_M_init 45 = .ok (.putfield 29, 3) := by decide +kernel
theorem d_M_init_48 : decode b_M_init 48 = .ok (.aload_n 0, 1) := by decide +kernel
theorem d_M_init_49 : decode b_M_init 49 = .ok (.bipush 60, 2) := by decide +kernel
theorem d_M_init_51 : decode b_M_init 51 = .ok (.newarray .int, 2) := by decide +kernel
theorem d_M_init_53 : decode b_M_init 53 = .ok (.putfield 32, 3) := by decide +kernel
theorem d_M_init_56 : decode b_M_init 56 = .ok (.aload_n 0, 1) := by decide +kernel
theorem d_M_init_57 : decode b_M_init 57 = .ok (.bipush 60, 2) := by decide +kernel
theorem d_M_init_59 : decode b_M_init 59 = .ok (.newarray .int, 2) := by decide +kernel
theorem d_M_init_61 : decode b_M_init 61 = .ok (.putfield 35, 3) := by decide +kernel
theorem d_M_init_64 : decode b_M_init 64 = .ok (.aload_n 0, 1) := by decide +kernel
theorem d_M_init_65 : decode b_M_init 65 = .ok (.bipush 60, 2) := by decide +kernel
theorem d_M_init_67 : decode b_M_init 67 = .ok (.newarray .int, 2) := by decide +kernel
theorem d_M_init_69 : decode b_M_init 69 = .ok (.putfield 38, 3) := by decide +kernel
theorem d_M_init_72 : decode b_M_init 72 = .ok (.aload_n 0, 1) := by decide +kernel
theorem d_M_init_73 : decode b_M_init 73 = .ok (.bipush 60, 2) := by decide +kernel
theorem d_M_init_75 : decode b_M_init 75 = .ok (.newarray .int, 2) := by decide +kernel
theorem d_M_init_77 : decode b_M_init 77 = .ok (.putfield 41, 3) := by decide +kernel
theorem d_M_init_80 : decode b_M_init 80 = .ok (.aload_n 0, 1) := by decide +kernel
theorem d_M_init_81 : decode b_M_init 81 = .ok (.bipush 60, 2) := by decide +kernel
theorem d_M_init_83 : decode b_M_init 83 = .ok (.newarray .int, 2) := by decide +kernel
theorem d_M_init_85 : decode b_M_init 85 = .ok (.putfield 44, 3) := by decide +kernel
theorem d_M_init_88 : decode b_M_init 88 = .ok (.aload_n 0, 1) := by decide +kernel
theorem d_M_init_89 : decode b_M_init 89 = .ok (.bipush 60, 2) := by decide +kernel
theorem d_M_init_91 : decode b_M_init 91 = .ok (.newarray .boolean, 2) := by decide +kernel
theorem d_M_init_93 : decode b_M_init 93 = .ok (.putfield 47, 3) := by decide +kernel
theorem d_M_init_96 : decode b_M_init 96 = .ok (.aload_n 0, 1) := by decide +kernel
theorem d_M_init_97 : decode b_M_init 97 = .ok (.sipush 6528, 3) := by decide +kernel
theorem d_M_init_100 : decode b_M_init 100 = .ok (.newarray .int, 2) := by decide +kernel
theorem d_M_init_102 : decode b_M_init 102 = .ok (.putfield 51, 3) := by decide +kernel
theorem d_M_init_105 : decode b_M_init 105 = .ok (.aload_n 0, 1) := by decide +kernel
theorem d_M_init_106 : decode b_M_init 106 = .ok (.bipush 17, 2) := by decide +kernel
theorem d_M_init_108 : decode b_M_init 108 = .ok (.newarray .int, 2) := by decide +kernel
theorem d_M_init_110 : decode b_M_init 110 = .ok (.putfield 54, 3) := by decide +kernel
theorem d_M_init_113 : decode b_M_init 113 = .ok (.aload_n 0, 1) := by decide +kernel
theorem d_M_init_114 : decode b_M_init 114 = .ok (.iconst 0, 1) := by decide +kernel
theorem d_M_init_115 : decode b_M_init 115 = .ok (.putfield 57, 3) := by decide +kernel
theorem d_M_init_118 : decode b_M_init 118 = .ok (.aload_n 0, 1) := by decide +kernel
theorem d_M_init_119 : decode b_M_init 119 = .ok (.bipush 8, 2) := by decide +kernel
theorem d_M_init_121 : decode b_M_init 121 = .ok (.newarray .int, 2) := by decide +kernel
theorem d_M_init_123 : decode b_M_init 123 = .ok (.putfield 60, 3) := by decide +kernel
theorem d_M_init_126 : decode b_M_init 126 = .ok (.aload_n 0, 1) := by decide +kernel
theorem d_M_init_127 : decode b_M_init 127 = .ok (.bipush 8, 2) := by decide +kernel
theorem d_M_init_129 : decode b_M_init 129 = .ok (.newarray .int, 2) := by decide +kernel
theorem d_M_init_131 : decode b_M_init 131 = .ok (.putfield 63, 3) := by decide +kernel
theorem d_M_init_134 : decode b_M_init 134 = .ok (.aload_n 0, 1) := by decide +kernel
theorem d_M_init_135 : decode b_M_init 135 = .ok (.bipush 8, 2) := by decide +kernel
theorem d_M_init_137 : decode b_M_init 137 = .ok (.newarray .int, 2) := by decide +kernel
theorem d_M_init_139 : decode b_M_init 139 = .ok (.putfield 66, 3) := by decide +kernel
theorem d_M_init_142 : decode b_M_init 142 = .ok (.aload_n 0, 1) := by decide +kernel
theorem d_M_init_143 : decode b_M_init 143 = .ok (.bipush 40, 2) := by decide +kernel
theorem d_M_init_145 : decode b_M_init 145 = .ok (.newarray .int, 2) := by decide +kernel
theorem d_M_init_147 : decode b_M_init 147 = .ok (.putfield 69, 3) := by decide +kernel
theorem d_M_init_150 : decode b_M_init 150 = .ok (.return_, 1) := by decide +kernel
theorem d_M_type_0 : decode b_M_type 0 = .ok (.iload_n 1, 1) := by decide +kernel
theorem d_M_type_1 : decode b_M_type 1 = .ok (.ifCond .lt 19, 3) := by decide +kernel
theorem d_M_type_4 : decode b_M_type 4 = .ok (.iload_n 1, 1) := by decide +kernel
theorem d_M_type_5 : decode b_M_type 5 = .ok (.sipush 255, 3) := by decide +kernel
theorem d_M_type_8 : decode b_M_type 8 = .ok (.if_icmp .gt 12, 3) := by decide +kernel
theorem d_M_type_11 : decode b_M_type 11 = .ok (.aload_n 0, 1) := by decide +kernel
theorem d_M_type_12 : decode b_M_type 12 = .ok (.getfield 7, 3) := by decide +kernel
theorem d_M_type_15 : decode b_M_type 15 = .ok (.bipush 24, 2) := by decide +kernel
theorem d_M_type_17 : decode b_M_type 17 = .ok (.if_icmp .ne 5, 3) := by decide +kernel
theorem d_M_type_20 : decode b_M_type 20 = .ok (.iconst (-1), 1) := by decide +kernel
theorem d_M_type_21 : decode b_M_type 21 = .ok (.ireturn, 1) := by decide +kernel
theorem d_M_type_22 : decode b_M_type 22 = .ok (.aload_n 0, 1) := by decide +kernel
theorem d_M_type_23 : decode b_M_type 23 = .ok (.getfield 22, 3) := by decide +kernel
theorem d_M_type_26 : decode b_M_type 26 = .ok (.aload_n 0, 1) := by decide +kernel
theorem d_M_type_27 : decode b_M_type 27 = .ok (.getfield 7, 3) := by decide +kernel
theorem d_M_type_30 : decode b_M_type 30 = .ok (.iload_n 1, 1) := by decide +kernel
theorem d_M_type_31 : decode b_M_type 31 = .ok (.iastore, 1) := by decide +kernel
theorem d_M_type_32 : decode b_M_type 32 = .ok (.aload_n 0, 1) := by decide +kernel
theorem d_M_type_33 : decode b_M_type 33 = .ok (.dup, 1) := by decide +kernel
theorem d_M_type_34 : decode b_M_type 34 = .ok (.getfield 7, 3) := by decide +kernel
theorem d_M_type_37 : decode b_M_type 37 = .ok (.iconst 1, 1) := by decide +kernel
theorem d_M_type_38 : decode b_M_type 38 = .ok (.iadd, 1) := by decide +kernel
theorem d_M_type_39 : decode b_M_type 39 = .ok (.putfield 7, 3) := by decide +kernel
theorem d_M_type_42 : decode b_M_type 42 = .ok (.aload_n 0, 1) := by decide +kernel
theorem d_M_type_43 : decode b_M_type 43 = .ok (.getfield 7, 3) := by decide +kernel
theorem d_M_type_46 : decode b_M_type 46 = .ok (.ireturn, 1) := by decide +kernel
theorem d_M_wipe_0 : decode b_M_wipe 0 = .ok (.aload_n 0, 1) := by decide +kernel
theorem d_M_wipe_1 : decode b_M_wipe 1 = .ok (.getfield 7, 3) := by decide +kernel
theorem d_M_wipe_4 : decode b_M_wipe 4 = .ok (.istore_n 1, 1) := by decide +kernel
theorem d_M_wipe_5 : decode b_M_wipe 5 = .ok (.aload_n 0, 1) := by decide +kernel
theorem d_M_wipe_6 : decode b_M_wipe 6 = .ok (.iconst 0, 1) := by decide +kernel
theorem d_M_wipe_7 : decode b_M_wipe 7 = .ok (.putfield 7, 3) := by decide +kernel
theorem d_M_wipe_10 : decode b_M_wipe 10 = .ok (.iload_n 1, 1) := by decide +kernel
theorem d_M_wipe_11 : decode b_M_wipe 11 = .ok (.ireturn, 1) := by decide +kernel
theorem d_M_node_0 : decode b_M_node 0 = .ok (.iload_n 1, 1) := by decide +kernel
theorem d_M_node_1 : decode b_M_node 1 = .ok (.ifCond .lt 30, 3) := by decide +kernel
theorem d_M_node_4 : decode b_M_node 4 = .ok (.iload_n 1, 1) := by decide +kernel
theorem d_M_node_5 : decode b_M_node 5 = .ok (.bipush 21, 2) := by decide +kernel
theorem d_M_node_7 : decode b_M_node 7 = .ok (.if_icmp .gt 24, 3) := by decide +kernel
theorem d_M_node_10 : decode b_M_node 10 = .ok (.aload_n 0, 1) := by decide +kernel
theorem d_M_node_11 : decode b_M_node 11 = .ok (.iload_n 1, 1) := by decide +kernel
theorem d_M_node_12 : decode b_M_node 12 = .ok (.iload_n 2, 1) := by decide +kernel
theorem d_M_node_13 : decode b_M_node 13 = .ok (.iload_n 3, 1) := by decide +kernel
theorem d_M_node_14 : decode b_M_node 14 = .ok (.iload 4, 2) := by decide +kernel
theorem d_M_node_16 : decode b_M_node 16 = .ok (.invokevirtual 85, 3) := by decide +kernel
theorem d_M_node_19 : decode b_M_node 19 = .ok (.ifCond .eq 12, 3) := by decide +kernel
theorem d_M_node_22 : decode b_M_node 22 = .ok (.aload_n 0, 1) := by decide +kernel
theorem d_M_node_23 : decode b_M_node 23 = .ok (.getfield 13, 3) := by decide +kernel
theorem d_M_node_26 : decode b_M_node 26 = .ok (.bipush 60, 2) := by decide +kernel
theorem d_M_node_28 : decode b_M_node 28 = .ok (.if_icmp .ne 5, 3) := by decide +kernel
theorem d_M_node_31 : decode b_M_node 31 = .ok (.iconst (-1), 1) := by decide +kernel
theorem d_M_node_32 : decode b_M_node 32 = .ok (.ireturn, 1) := by decide +kernel
theorem d_M_node_33 : decode b_M_node 33 = .ok (.aload_n 0, 1) := by decide +kernel
theorem d_M_node_34 : decode b_M_node 34 = .ok (.iload_n 1, 1) := by decide +kernel
theorem d_M_node_35 : decode b_M_node 35 = .ok (.iload_n 2, 1) := by decide +kernel
theorem d_M_node_36 : decode b_M_node 36 = .ok (.iload_n 3, 1) := by decide +kernel
theorem d_M_node_37 : decode b_M_node 37 = .ok (.iload 4, 2) := by decide +kernel
theorem d_M_node_39 : decode b_M_node 39 = .ok (.invokevirtual 89, 3) := by decide +kernel
theorem d_M_node_42 : decode b_M_node 42 = .ok (.istore 5, 2) := by decide +kernel
theorem d_M_node_44 : decode b_M_node 44 = .ok (.iconst 0, 1) := by decide +kernel
theorem d_M_node_45 : decode b_M_node 45 = .ok (.istore 6, 2) := by decide +kernel
theorem d_M_node_47 : decode b_M_node 47 = .ok (.aload_n 0, 1) := by decide +kernel
theorem d_M_node_48 : decode b_M_node 48 = .ok (.iload 6, 2) := by decide +kernel
theorem d_M_node_50 : decode b_M_node 50 = .ok (.aload_n 0, 1) := by decide +kernel
theorem d_M_node_51 : decode b_M_node 51 = .ok (.iload_n 1, 1) := by decide +kernel
theorem d_M_node_52 : decode b_M_node 52 = .ok (.invokevirtual 79, 3) := by decide +kernel
theorem d_M_node_55 : decode b_M_node 55 = .ok (.iload_n 2, 1) := by decide +kernel
theorem d_M_node_56 : decode b_M_node 56 = .ok (.invokevirtual 93, 3) := by decide +kernel
theorem d_M_node_59 : decode b_M_node 59 = .ok (.istore 6, 2) := by decide +kernel
theorem d_M_node_61 : decode b_M_node 61 = .ok (.aload_n 0, 1) := by decide +kernel
theorem d_M_node_62 : decode b_M_node 62 = .ok (.iload 6, 2) := by decide +kernel
theorem d_M_node_64 : decode b_M_node 64 = .ok (.aload_n 0, 1) := by decide +kernel
theorem d_M_node_65 : decode b_M_node 65 = .ok (.iload_n 1, 1) := by decide +kernel
theorem d_M_node_66 : decode b_M_node 66 = .ok (.invokevirtual 82, 3) := by decide +kernel
theorem d_M_node_69 : decode b_M_node 69 = .ok (.iload_n 3, 1) := by decide +kernel
theorem d_M_node_70 : decode b_M_node 70 = .ok (.invokevirtual 93, 3) := by decide +kernel
theorem d_M_node_73 : decode b_M_node 73 = .ok (.istore 6, 2) := by decide +kernel
theorem d_M_node_75 : decode b_M_node 75 = .ok (.iconst 1, 1) := by decide +kernel
theorem d_M_node_76 : decode b_M_node 76 = .ok (.aload_n 0, 1) := by decide +kernel
theorem d_M_node_77 : decode b_M_node 77 = .ok (.iload 6, 2) := by decide +kernel
theorem d_M_node_79 : decode b_M_node 79 = .ok (.iload_n 1, 1) := by decide +kernel
theorem d_M_node_80 : decode b_M_node 80 = .ok (.bipush 19, 2) := by decide +kernel
theorem d_M_node_82 : decode b_M_node 82 = .ok (.if_icmp .ne 7, 3) := by decide +kernel
theorem d_M_node_85 : decode b_M_node 85 = .ok (.iconst 1, 1) := by decide +kernel
theorem d_M_node_86 : decode b_M_node 86 = .ok (.goto 4, 3) := by decide +kernel
theorem d_M_node_89 : decode b_M_node 89 = .ok (.iconst 0, 1) := by decide +kernel
theorem d_M_node_90 : decode b_M_node 90 = .ok (.iload 4, 2) := by decide +kernel
theorem d_M_node_92 : decode b_M_node 92 = .ok (.invokevirtual 93, 3) := by decide +kernel
theorem d_M_node_95 : decode b_M_node 95 = .ok (.iadd, 1) := by decide +kernel
theorem d_M_node_96 : decode b_M_node 96 = .ok (.istore 6, 2) := by decide +kernel
theorem d_M_node_98 : decode b_M_node 98 = .ok (.aload_n 0, 1) := by decide +kernel
theorem d_M_node_99 : decode b_M_node 99 = .ok (.iload_n 1, 1) := by decide +kernel
theorem d_M_node_100 : decode b_M_node 100 = .ok (.iload_n 2, 1) := by decide +kernel
theorem d_M_node_101 : decode b_M_node 101 = .ok (.iload_n 3, 1) := by decide +kernel
theorem d_M_node_102 : decode b_M_node 102 = .ok (.iload 4, 2) := by decide +kernel
theorem d_M_node_104 : decode b_M_node 104 = .ok (.invokevirtual 97, 3) := by decide +kernel
theorem d_M_node_107 : decode b_M_node 107 = .ok (.istore 7, 2) := by decide +kernel
theorem d_M_node_109 : decode b_M_node 109 = .ok (.iload 5, 2) := by decide +kernel
theorem d_M_node_111 : decode b_M_node 111 = .ok (.bipush 64, 2) := by decide +kernel
theorem d_M_node_113 : decode b_M_node 113 = .ok (.if_icmp .gt 18, 3) := by decide +kernel
theorem d_M_node_116 : decode b_M_node 116 = .ok (.iload 7, 2) := by decide +kernel
theorem d_M_node_118 : decode b_M_node 118 = .ok (.sipush 2000, 3) := by decide +kernel
theorem d_M_node_121 : decode b_M_node 121 = .ok (.if_icmp .gt 10, 3) := by decide +kernel
theorem d_M_node_124 : decode b_M_node 124 = .ok (.iload 6, 2) := by decide +kernel
theorem d_M_node_126 : decode b_M_node 126 = .ok (.bipush 8, 2) := by decide +kernel
theorem d_M_node_128 : decode b_M_node 128 = .ok (.if_icmp .le 5, 3) := by decide +kernel
theorem d_M_node_131 : decode b_M_node 131 = .ok (.iconst (-1), 1) := by decide +kernel
theorem d_M_node_132 : decode b_M_node 132 = .ok (.ireturn, 1) := by decide +kernel
theorem d_M_node_133 : decode b_M_node 133 = .ok (.aload_n 0, 1) := by decide +kernel
theorem d_M_node_134 : decode b_M_node 134 = .ok (.iload_n 1, 1) := by decide +kernel
theorem d_M_node_135 : decode b_M_node 135 = .ok (.invokevirtual 79, 3) := by decide +kernel
theorem d_M_node_138 : decode b_M_node 138 = .ok (.ifCond .eq 10, 3) := by decide +kernel
theorem d_M_node_141 : decode b_M_node 141 = .ok (.aload_n 0, 1) := by decide +kernel
theorem d_M_node_142 : decode b_M_node 142 = .ok (.getfield 47, 3) := by decide +kernel
theorem d_M_node_145 : decode b_M_node 145 = .ok (.iload_n 2, 1) := by decide +kernel
theorem d_M_node_146 : decode b_M_node 146 = .ok (.iconst 1, 1) := by decide +kernel
theorem d_M_node_147 : decode b_M_node 147 = .ok (.bastore, 1) := by decide +kernel
theorem d_M_node_148 : decode b_M_node 148 = .ok (.aload_n 0, 1) := by decide +kernel
theorem d_M_node_149 : decode b_M_node 149 = .ok (.iload_n 1, 1) := by decide +kernel
theorem d_M_node_150 : decode b_M_node 150 = .ok (.invokevirtual 82, 3) := by decide +kernel
theorem d_M_node_153 : decode b_M_node 153 = .ok (.ifCond .eq 10, 3) := by decide +kernel
theorem d_M_node_156 : decode b_M_node 156 = .ok (.aload_n 0, 1) := by decide +kernel
theorem d_M_node_157 : decode b_M_node 157 = .ok (.getfield 47, 3) := by decide +kernel
theorem d_M_node_160 : decode b_M_node 160 = .ok (.iload_n 3, 1) := by decide +kernel
theorem d_M_node_161 : decode b_M_node 161 = .ok (.iconst 1, 1) := by decide +kernel
theorem d_M_node_162 : decode b_M_node 162 = .ok (.bastore, 1) := by decide +kernel
theorem d_M_node_163 : decode b_M_node 163 = .ok (.iload_n 1, 1) := by decide +kernel
theorem d_M_node_164 : decode b_M_node 164 = .ok (.bipush 19, 2) := by decide +kernel
theorem d_M_node_166 : decode b_M_node 166 = .ok (.if_icmp .ne 11, 3) := by decide +kernel
theorem d_M_node_169 : decode b_M_node 169 = .ok (.aload_n 0, 1) := by decide +kernel
theorem d_M_node_170 : decode b_M_node 170 = .ok (.getfield 47, 3) := by decide +kernel
theorem d_M_node_173 : decode b_M_node 173 = .ok (.iload 4, 2) := by decide +kernel
theorem d_M_node_175 : decode b_M_node 175 = .ok (.iconst 1, 1) := by decide +kernel
theorem d_M_node_176 : decode b_M_node 176 = .ok (.bastore, 1) := by decide +kernel
theorem d_M_node_177 : decode b_M_node 177 = .ok (.aload_n 0, 1) := by decide +kernel
theorem d_M_node_178 : decode b_M_node 178 = .ok (.getfield 26, 3) := by decide +kernel
theorem d_M_node_181 : decode b_M_node 181 = .ok (.aload_n 0, 1) := by decide +kernel
theorem d_M_node_182 : decode b_M_node 182 = .ok (.getfield 13, 3) := by decide +kernel
theorem d_M_node_185 : decode b_M_node 185 = .ok (.iload_n 1, 1) := by decide +kernel
theorem d_M_node_186 : decode b_M_node 186 = .ok (.iastore, 1) := by decide +kernel
theorem d_M_node_187 : decode b_M_node 187 = .ok (.aload_n 0, 1) := by decide +kernel
theorem d_M_node_188 : decode b_M_node 188 = .ok (.getfield 29, 3) := by decide +kernel
theorem d_M_node_191 : decode b_M_node 191 = .ok (.aload_n 0, 1) := by decide +kernel
theorem d_M_node_192 : decode b_M_node 192 = .ok (.getfield 13, 3) := by decide +kernel
theorem d_M_node_195 : decode b_M_node 195 = .ok (.iload_n 2, 1) := by decide +kernel
theorem d_M_node_196 : decode b_M_node 196 = .ok (.iastore, 1) := by decide +kernel
theorem d_M_node_197 : decode b_M_node 197 = .ok (.aload_n 0, 1) := by decide +kernel
theorem d_M_node_198 : decode b_M_node 198 = .ok (.getfield 32, 3) := by decide +kernel
theorem d_M_node_201 : decode b_M_node 201 = .ok (.aload_n 0, 1) := by decide +kernel
theorem d_M_node_202 : decode b_M_node 202 = .ok (.getfield 13, 3) := by decide +kernel
theorem d_M_node_205 : decode b_M_node 205 = .ok (.iload_n 3, 1) := by decide +kernel
theorem d_M_node_206 : decode b_M_node 206 = .ok (.iastore, 1) := by decide +kernel
theorem d_M_node_207 : decode b_M_node 207 = .ok (.aload_n 0, 1) := by decide +kernel
theorem d_M_node_208 : decode b_M_node 208 = .ok (.getfield 35, 3) := by decide +kernel
theorem d_M_node_211 : decode b_M_node 211 = .ok (.aload_n 0, 1) := by decide +kernel
theorem d_M_node_212 : decode b_M_node 212 = .ok (.getfield 13, 3) := by decide +kernel
theorem d_M_node_215 : decode b_M_node 215 = .ok (.iload 4, 2) := by decide +kernel
theorem d_M_node_217 : decode b_M_node 217 = .ok (.iastore, 1) := by decide +kernel
theorem d_M_node_218 : decode b_M_node 218 = .ok (.aload_n 0, 1) := by decide +kernel
theorem d_M_node_219 : decode b_M_node 219 = .ok (.getfield 38, 3) := by decide +kernel
theorem d_M_node_222 : decode b_M_node 222 = .ok (.aload_n 0, 1) := by decide +kernel
theorem d_M_node_223 : decode b_M_node 223 = .ok (.getfield 13, 3) := by decide +kernel
theorem d_M_node_226 : decode b_M_node 226 = .ok (.iload 5, 2) := by decide +kernel
theorem d_M_node_228 : decode b_M_node 228 = .ok (.iastore, 1) := by decide +kernel
theorem d_M_node_229 : decode b_M_node 229 = .ok (.aload_n 0, 1) := by decide +kernel
theorem d_M_node_230 : decode b_M_node 230 = .ok (.getfield 44, 3) := by decide +kernel
theorem d_M_node_233 : decode b_M_node 233 = .ok (.aload_n 0, 1) := by decide +kernel
theorem d_M_node_234 : decode b_M_node 234 = .ok (.getfield 13, 3) := by decide +kernel
theorem d_M_node_237 : decode b_M_node 237 = .ok (.iload 7, 2) := by decide +kernel
theorem d_M_node_239 : decode b_M_node 239 = .ok (.iastore, 1) := by decide +kernel
theorem d_M_node_240 : decode b_M_node 240 = .ok (.aload_n 0, 1) := by decide +kernel
theorem d_M_node_241 : decode b_M_node 241 = .ok (.getfield 41, 3) := by decide +kernel
theorem d_M_node_244 : decode b_M_node 244 = .ok (.aload_n 0, 1) := by decide +kernel
theorem d_M_node_245 : decode b_M_node 245 = .ok (.getfield 13, 3) := by decide +kernel
theorem d_M_node_248 : decode b_M_node 248 = .ok (.iload 6, 2) := by decide +kernel
theorem d_M_node_250 : decode b_M_node 250 = .ok (.iastore, 1) := by decide +kernel
theorem d_M_node_251 : decode b_M_node 251 = .ok (.aload_n 0, 1) := by decide +kernel
theorem d_M_node_252 : decode b_M_node 252 = .ok (.getfield 47, 3) := by decide +kernel
theorem d_M_node_255 : decode b_M_node 255 = .ok (.aload_n 0, 1) := by decide +kernel
theorem d_M_node_256 : decode b_M_node 256 = .ok (.getfield 13, 3) := by decide +kernel
theorem d_M_node_259 : decode b_M_node 259 = .ok (.iconst 0, 1) := by decide +kernel
theorem d_M_node_260 : decode b_M_node 260 = .ok (.bastore, 1) := by decide +kernel
theorem d_M_node_261 : decode b_M_node 261 = .ok (.aload_n 0, 1) := by decide +kernel
theorem d_M_node_262 : decode b_M_node 262 = .ok (.dup, 1) := by decide +kernel
theorem d_M_node_263 : decode b_M_node 263 = .ok (.getfield 13, 3) := by decide +kernel
theorem d_M_node_266 : decode b_M_node 266 = .ok (.iconst 1, 1) := by decide +kernel
theorem d_M_node_267 : decode b_M_node 267 = .ok (.iadd, 1) := by decide +kernel
theorem d_M_node_268 : decode b_M_node 268 = .ok (.putfield 13, 3) := by decide +kernel
theorem d_M_node_271 : decode b_M_node 271 = .ok (.aload_n 0, 1) := by decide +kernel
theorem d_M_node_272 : decode b_M_node 272 = .ok (.getfield 13, 3) := by decide +kernel
theorem d_M_node_275 : decode b_M_node 275 = .ok (.iconst 1, 1) := by decide +kernel
theorem d_M_node_276 : decode b_M_node 276 = .ok (.isub, 1) := by decide +kernel
theorem d_M_node_277 : decode b_M_node 277 = .ok (.ireturn, 1) := by decide +kernel
theorem d_M_fits_0 : decode b_M_fits 0 = .ok (.iload_n 1, 1) := by decide +kernel
theorem d_M_fits_1 : decode b_M_fits 1 = .ok (.ifCond .eq 19, 3) := by decide +kernel
theorem d_M_fits_4 : decode b_M_fits 4 = .ok (.iload_n 1, 1) := by decide +kernel
theorem d_M_fits_5 : decode b_M_fits 5 = .ok (.iconst 2, 1) := by decide +kernel
theorem d_M_fits_6 : decode b_M_fits 6 = .ok (.if_icmp .eq 14, 3) := by decide +kernel
theorem d_M_fits_9 : decode b_M_fits 9 = .ok (.iload_n 1, 1) := by decide +kernel
theorem d_M_fits_10 : decode b_M_fits 10 = .ok (.iconst 3, 1) := by decide +kernel
theorem d_M_fits_11 : decode b_M_fits 11 = .ok (.if_icmp .eq 9, 3) := by decide +kernel
theorem d_M_fits_14 : decode b_M_fits 14 = .ok (.iload_n 1, 1) := by decide +kernel
theorem d_M_fits_15 : decode b_M_fits 15 = .ok (.bipush 6, 2) := by decide +kernel
theorem d_M_fits_17 : decode b_M_fits 17 = .ok (.if_icmp .ne 5, 3) := by decide +kernel
theorem d_M_fits_20 : decode b_M_fits 20 = .ok (.iconst 1, 1) := by decide +kernel
theorem d_M_fits_21 : decode b_M_fits 21 = .ok (.ireturn, 1) := by decide +kernel
theorem d_M_fits_22 : decode b_M_fits 22 = .ok (.iload_n 1, 1) := by decide +kernel
theorem d_M_fits_23 : decode b_M_fits 23 = .ok (.iconst 1, 1) := by decide +kernel
theorem d_M_fits_24 : decode b_M_fits 24 = .ok (.if_icmp .ne 18, 3) := by decide +kernel
theorem d_M_fits_27 : decode b_M_fits 27 = .ok (.iload_n 2, 1) := by decide +kernel
theorem d_M_fits_28 : decode b_M_fits 28 = .ok (.ifCond .lt 12, 3) := by decide +kernel
theorem d_M_fits_31 : decode b_M_fits 31 = .ok (.iload_n 2, 1) := by decide +kernel
theorem d_M_fits_32 : decode b_M_fits 32 = .ok (.iconst 4, 1) := by decide +kernel
theorem d_M_fits_33 : decode b_M_fits 33 = .ok (.if_icmp .ge 7, 3) := by decide +kernel
theorem d_M_fits_36 : decode b_M_fits 36 = .ok (.iconst 1, 1) := by decide +kernel
theorem d_M_fits_37 : decode b_M_fits 37 = .ok (.goto 4, 3) := by decide +kernel
theorem d_M_fits_40 : decode b_M_fits 40 = .ok (.iconst 0, 1) := by decide +kernel
theorem d_M_fits_41 : decode b_M_fits 41 = .ok (.ireturn, 1) := by decide +kernel
theorem d_M_fits_42 : decode b_M_fits 42 = .ok (.iload_n 1, 1) := by decide +kernel
theorem d_M_fits_43 : decode b_M_fits 43 = .ok (.iconst 4, 1) := by decide +kernel
theorem d_M_fits_44 : decode b_M_fits 44 = .ok (.if_icmp .eq 14, 3) := by decide +kernel
theorem d_M_fits_47 : decode b_M_fits 47 = .ok (.iload_n 1, 1) := by decide +kernel
theorem d_M_fits_48 : decode b_M_fits 48 = .ok (.iconst 5, 1) := by decide +kernel
theorem d_M_fits_49 : decode b_M_fits 49 = .ok (.if_icmp .eq 9, 3) := by decide +kernel
theorem d_M_fits_52 : decode b_M_fits 52 = .ok (.iload_n 1, 1) := by decide +kernel
theorem d_M_fits_53 : decode b_M_fits 53 = .ok (.bipush 7, 2) := by decide +kernel
theorem d_M_fits_55 : decode b_M_fits 55 = .ok (.if_icmp .ne 9, 3) := by decide +kernel
theorem d_M_fits_58 : decode b_M_fits 58 = .ok (.aload_n 0, 1) := by decide +kernel
theorem d_M_fits_59 : decode b_M_fits 59 = .ok (.iload_n 2, 1) := by decide +kernel
theorem d_M_fits_60 : decode b_M_fits 60 = .ok (.invokevirtual 72, 3) := by decide +kernel
theorem d_M_fits_63 : decode b_M_fits 63 = .ok (.ireturn, 1) := by decide +kernel
theorem d_M_fits_64 : decode b_M_fits 64 = .ok (.iload_n 1, 1) := by decide +kernel
theorem d_M_fits_65 : decode b_M_fits 65 = .ok (.bipush 8, 2) := by decide +kernel
theorem d_M_fits_67 : decode b_M_fits 67 = .ok (.if_icmp .eq 15, 3) := by decide +kernel
theorem d_M_fits_70 : decode b_M_fits 70 = .ok (.iload_n 1, 1) := by decide +kernel
theorem d_M_fits_71 : decode b_M_fits 71 = .ok (.bipush 20, 2) := by decide +kernel
theorem d_M_fits_73 : decode b_M_fits 73 = .ok (.if_icmp .eq 9, 3) := by decide +kernel
theorem d_M_fits_76 : decode b_M_fits 76 = .ok (.iload_n 1, 1) := by decide +kernel
theorem d_M_fits_77 : decode b_M_fits 77 = .ok (.bipush 21, 2) := by decide +kernel
theorem d_M_fits_79 : decode b_M_fits 79 = .ok (.if_icmp .ne 9, 3) := by decide +kernel
theorem d_M_fits_82 : decode b_M_fits 82 = .ok (.aload_n 0, 1) := by decide +kernel
theorem d_M_fits_83 : decode b_M_fits 83 = .ok (.iload_n 2, 1) := by decide +kernel
theorem d_M_fits_84 : decode b_M_fits 84 = .ok (.invokevirtual 76, 3) := by decide +kernel
theorem d_M_fits_87 : decode b_M_fits 87 = .ok (.ireturn, 1) := by decide +kernel
theorem d_M_fits_88 : decode b_M_fits 88 = .ok (.iload_n 1, 1) := by decide +kernel
theorem d_M_fits_89 : decode b_M_fits 89 = .ok (.bipush 17, 2) := by decide +kernel
theorem d_M_fits_91 : decode b_M_fits 91 = .ok (.if_icmp .ne 26, 3) := by decide +kernel
theorem d_M_fits_94 : decode b_M_fits 94 = .ok (.iload_n 2, 1) := by decide +kernel
theorem d_M_fits_95 : decode b_M_fits 95 = .ok (.ifCond .lt 20, 3) := by decide +kernel
theorem d_M_fits_98 : decode b_M_fits 98 = .ok (.iload_n 2, 1) := by decide +kernel
theorem d_M_fits_99 : decode b_M_fits 99 = .ok (.iconst 4, 1) := by decide +kernel
theorem d_M_fits_100 : decode b_M_fits 100 = .ok (.if_icmp .ge 15, 3) := by decide +kernel
theorem d_M_fits_103 : decode b_M_fits 103 = .ok (.aload_n 0, 1) := by decide +kernel
theorem d_M_fits_104 : decode b_M_fits 104 = .ok (.iload_n 3, 1) := by decide +kernel
theorem d_M_fits_105 : decode b_M_fits 105 = .ok (.invokevirtual 76, 3) := by decide +kernel
theorem d_M_fits_108 : decode b_M_fits 108 = .ok (.ifCond .eq 7, 3) := by decide +kernel
theorem d_M_fits_111 : decode b_M_fits 111 = .ok (.iconst 1, 1) := by decide +kernel
theorem d_M_fits_112 : decode b_M_fits 112 = .ok (.goto 4, 3) := by decide +kernel
theorem d_M_fits_115 : decode b_M_fits 115 = .ok (.iconst 0, 1) := by decide +kernel
theorem d_M_fits_116 : decode b_M_fits 116 = .ok (.ireturn, 1) := by decide +kernel
theorem d_M_fits_117 : decode b_M_fits 117 = .ok (.iload_n 1, 1) := by decide +kernel
theorem d_M_fits_118 : decode b_M_fits 118 = .ok (.bipush 18, 2) := by decide +kernel
theorem d_M_fits_120 : decode b_M_fits 120 = .ok (.if_icmp .ne 27, 3) := by decide +kernel
theorem d_M_fits_123 : decode b_M_fits 123 = .ok (.iload_n 2, 1) := by decide +kernel
theorem d_M_fits_124 : decode b_M_fits 124 = .ok (.ifCond .le 21, 3) := by decide +kernel
theorem d_M_fits_127 : decode b_M_fits 127 = .ok (.iload_n 2, 1) := by decide +kernel
theorem d_M_fits_128 : decode b_M_fits 128 = .ok (.bipush 9, 2) := by decide +kernel
theorem d_M_fits_130 : decode b_M_fits 130 = .ok (.if_icmp .ge 15, 3) := by decide +kernel
theorem d_M_fits_133 : decode b_M_fits 133 = .ok (.aload_n 0, 1) := by decide +kernel
theorem d_M_fits_134 : decode b_M_fits 134 = .ok (.iload_n 3, 1) := by decide +kernel
theorem d_M_fits_135 : decode b_M_fits 135 = .ok (.invokevirtual 76, 3) := by decide +kernel
theorem d_M_fits_138 : decode b_M_fits 138 = .ok (.ifCond .eq 7, 3) := by decide +kernel
theorem d_M_fits_141 : decode b_M_fits 141 = .ok (.iconst 1, 1) := by decide +kernel
theorem d_M_fits_142 : decode b_M_fits 142 = .ok (.goto 4, 3) := by decide +kernel
theorem d_M_fits_145 : decode b_M_fits 145 = .ok (.iconst 0, 1) := by decide +kernel
theorem d_M_fits_146 : decode b_M_fits 146 = .ok (.ireturn, 1) := by decide +kernel
theorem d_M_fits_147 : decode b_M_fits 147 = .ok (.iload_n 1, 1) := by decide +kernel
theorem d_M_fits_148 : decode b_M_fits 148 = .ok (.bipush 19, 2) := by decide +kernel
theorem d_M_fits_150 : decode b_M_fits 150 = .ok (.if_icmp .ne 51, 3) := by decide +kernel
theorem d_M_fits_153 : decode b_M_fits 153 = .ok (.aload_n 0, 1) := by decide +kernel
theorem d_M_fits_154 : decode b_M_fits 154 = .ok (.iload_n 2, 1) := by decide +kernel
theorem d_M_fits_155 : decode b_M_fits 155 = .ok (.invokevirtual 76, 3) := by decide +kernel
theorem d_M_fits_158 : decode b_M_fits 158 = .ok (.ifCond .eq 41, 3) := by decide +kernel
theorem d_M_fits_161 : decode b_M_fits 161 = .ok (.aload_n 0, 1) := by decide +kernel
theorem d_M_fits_162 : decode b_M_fits 162 = .ok (.iload_n 3, 1) := by decide +kernel
theorem d_M_fits_163 : decode b_M_fits 163 = .ok (.invokevirtual 76, 3) := by decide +kernel
theorem d_M_fits_166 : decode b_M_fits 166 = .ok (.ifCond .eq 33, 3) := by decide +kernel
theorem d_M_fits_169 : decode b_M_fits 169 = .ok (.aload_n 0, 1) := by decide +kernel
theorem d_M_fits_170 : decode b_M_fits 170 = .ok (.iload 4, 2) := by decide +kernel
theorem d_M_fits_172 : decode b_M_fits 172 = .ok (.invokevirtual 76, 3) := by decide +kernel
theorem d_M_fits_175 : decode b_M_fits 175 = .ok (.ifCond .eq 24, 3) := by decide +kernel
theorem d_M_fits_178 : decode b_M_fits 178 = .ok (.iload_n 2, 1) := by decide +kernel
theorem d_M_fits_179 : decode b_M_fits 179 = .ok (.iload_n 3, 1) := by decide +kernel
theorem d_M_fits_180 : decode b_M_fits 180 = .ok (.if_icmp .eq 19, 3) := by decide +kernel
theorem d_M_fits_183 : decode b_M_fits 183 = .ok (.iload_n 2, 1) := by decide +kernel
theorem d_M_fits_184 : decode b_M_fits 184 = .ok (.iload 4, 2) := by decide +kernel
theorem d_M_fits_186 : decode b_M_fits 186 = .ok (.if_icmp .eq 13, 3) := by decide +kernel
theorem d_M_fits_189 : decode b_M_fits 189 = .ok (.iload_n 3, 1) := by decide +kernel
theorem d_M_fits_190 : decode b_M_fits 190 = .ok (.iload 4, 2) := by decide +kernel
theorem d_M_fits_192 : decode b_M_fits 192 = .ok (.if_icmp .eq 7, 3) := by decide +kernel
theorem d_M_fits_195 : decode b_M_fits 195 = .ok (.iconst 1, 1) := by decide +kernel
theorem d_M_fits_196 : decode b_M_fits 196 = .ok (.goto 4, 3) := by decide +kernel
theorem d_M_fits_199 : decode b_M_fits 199 = .ok (.iconst 0, 1) := by decide +kernel
theorem d_M_fits_200 : decode b_M_fits 200 = .ok (.ireturn, 1) := by decide +kernel
theorem d_M_fits_201 : decode b_M_fits 201 = .ok (.iload_n 1, 1) := by decide +kernel
theorem d_M_fits_202 : decode b_M_fits 202 = .ok (.bipush 8, 2) := by decide +kernel
theorem d_M_fits_204 : decode b_M_fits 204 = .ok (.if_icmp .le 34, 3) := by decide +kernel
theorem d_M_fits_207 : decode b_M_fits 207 = .ok (.iload_n 1, 1) := by decide +kernel
theorem d_M_fits_208 : decode b_M_fits 208 = .ok (.bipush 17, 2) := by decide +kernel
theorem d_M_fits_210 : decode b_M_fits 210 = .ok (.if_icmp .ge 28, 3) := by decide +kernel
theorem d_M_fits_213 : decode b_M_fits 213 = .ok (.aload_n 0, 1) := by decide +kernel
theorem d_M_fits_214 : decode b_M_fits 214 = .ok (.iload_n 2, 1) := by decide +kernel
theorem d_M_fits_215 : decode b_M_fits 215 = .ok (.invokevirtual 76, 3) := by decide +kernel
theorem d_M_fits_218 : decode b_M_fits 218 = .ok (.ifCond .eq 20, 3) := by decide +kernel
theorem d_M_fits_221 : decode b_M_fits 221 = .ok (.aload_n 0, 1) := by decide +kernel
theorem d_M_fits_222 : decode b_M_fits 222 = .ok (.iload_n 3, 1) := by decide +kernel
theorem d_M_fits_223 : decode b_M_fits 223 = .ok (.invokevirtual 76, 3) := by decide +kernel
theorem d_M_fits_226 : decode b_M_fits 226 = .ok (.ifCond .eq 12, 3) := by decide +kernel
theorem d_M_fits_229 : decode b_M_fits 229 = .ok (.iload_n 2, 1) := by decide +kernel
theorem d_M_fits_230 : decode b_M_fits 230 = .ok (.iload_n 3, 1) := by decide +kernel
theorem d_M_fits_231 : decode b_M_fits 231 = .ok (.if_icmp .eq 7, 3) := by decide +kernel
theorem d_M_fits_234 : decode b_M_fits 234 = .ok (.iconst 1, 1) := by decide +kernel
theorem d_M_fits_235 : decode b_M_fits 235 = .ok (.goto 4, 3) := by decide +kernel
theorem d_M_fits_238 : decode b_M_fits 238 = .ok (.iconst 0, 1) := by decide +kernel
theorem d_M_fits_239 : decode b_M_fits 239 = .ok (.ireturn, 1) := by decide +kernel
theorem d_M_sort_0 : decode b_M_sort 0 = .ok (.iload_n 1, 1) := by decide +kernel
theorem d_M_sort_1 : decode b_M_sort 1 = .ok (.ifCond .lt 8, 3) := by decide +kernel
theorem d_M_sort_4 : decode b_M_sort 4 = .ok (.iload_n 1, 1) := by decide +kernel
theorem d_M_sort_5 : decode b_M_sort 5 = .ok (.iconst 5, 1) := by decide +kernel
theorem d_M_sort_6 : decode b_M_sort 6 = .ok (.if_icmp .lt 17, 3) := by decide +kernel
theorem d_M_sort_9 : decode b_M_sort 9 = .ok (.iload_n 1, 1) := by decide +kernel
theorem d_M_sort_10 : decode b_M_sort 10 = .ok (.sipush 256, 3) := by decide +kernel
theorem d_M_sort_13 : decode b_M_sort 13 = .ok (.if_icmp .lt 14, 3) := by decide +kernel
theorem d_M_sort_16 : decode b_M_sort 16 = .ok (.iload_n 1, 1) := by decide +kernel
theorem d_M_sort_17 : decode b_M_sort 17 = .ok (.sipush 512, 3) := by decide +kernel
theorem d_M_sort_20 : decode b_M_sort 20 = .ok (.if_icmp .ge 7, 3) := by decide +kernel
theorem d_M_sort_23 : decode b_M_sort 23 = .ok (.iconst 1, 1) := by decide +kernel
theorem d_M_sort_24 : decode b_M_sort 24 = .ok (.goto 4, 3) := by decide +kernel
theorem d_M_sort_27 : decode b_M_sort 27 = .ok (.iconst 0, 1) := by decide +kernel
theorem d_M_sort_28 : decode b_M_sort 28 = .ok (.ireturn, 1) := by decide +kernel
theorem d_M_free_0 : decode b_M_free 0 = .ok (.iload_n 1, 1) := by decide +kernel
theorem d_M_free_1 : decode b_M_free 1 = .ok (.ifCond .lt 24, 3) := by decide +kernel
theorem d_M_free_4 : decode b_M_free 4 = .ok (.iload_n 1, 1) := by decide +kernel
theorem d_M_free_5 : decode b_M_free 5 = .ok (.aload_n 0, 1) := by decide +kernel
theorem d_M_free_6 : decode b_M_free 6 = .ok (.getfield 13, 3) := by decide +kernel
theorem d_M_free_9 : decode b_M_free 9 = .ok (.if_icmp .ge 16, 3) := by decide +kernel
theorem d_M_free_12 : decode b_M_free 12 = .ok (.aload_n 0, 1) := by decide +kernel
theorem d_M_free_13 : decode b_M_free 13 = .ok (.getfield 47, 3) := by decide +kernel
theorem d_M_free_16 : decode b_M_free 16 = .ok (.iload_n 1, 1) := by decide +kernel
theorem d_M_free_17 : decode b_M_free 17 = .ok (.baload, 1) := by decide +kernel
theorem d_M_free_18 : decode b_M_free 18 = .ok (.ifCond .ne 7, 3) := by decide +kernel
theorem d_M_free_21 : decode b_M_free 21 = .ok (.iconst 1, 1) := by decide +kernel
theorem d_M_free_22 : decode b_M_free 22 = .ok (.goto 4, 3) := by decide +kernel
theorem d_M_free_25 : decode b_M_free 25 = .ok (.iconst 0, 1) := by decide +kernel
theorem d_M_free_26 : decode b_M_free 26 = .ok (.ireturn, 1) := by decide +kernel
theorem d_M_boundOf_0 : decode b_M_boundOf 0 = .ok (.iload_n 1, 1) := by decide +kernel
theorem d_M_boundOf_1 : decode b_M_boundOf 1 = .ok (.bipush 7, 2) := by decide +kernel
theorem d_M_boundOf_3 : decode b_M_boundOf 3 = .ok (.if_icmp .lt 9, 3) := by decide +kernel
theorem d_M_boundOf_6 : decode b_M_boundOf 6 = .ok (.iload_n 1, 1) := by decide +kernel
theorem d_M_boundOf_7 : decode b_M_boundOf 7 = .ok (.bipush 19, 2) := by decide +kernel
theorem d_M_boundOf_9 : decode b_M_boundOf 9 = .ok (.if_icmp .le 5, 3) := by decide +kernel
theorem d_M_boundOf_12 : decode b_M_boundOf 12 = .ok (.iconst 1, 1) := by decide +kernel
theorem d_M_boundOf_13 : decode b_M_boundOf 13 = .ok (.ireturn, 1) := by decide +kernel
theorem d_M_boundOf_14 : decode b_M_boundOf 14 = .ok (.iload_n 1, 1) := by decide +kernel
theorem d_M_boundOf_15 : decode b_M_boundOf 15 = .ok (.bipush 7, 2) := by decide +kernel
