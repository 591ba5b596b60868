theorem d_M_boundOf_17 : decode b_M_boundOf 17 = .ok (.if_icmp .ne 6, 3) := by decide +kernel
theorem d_M_boundOf_20 : decode b_M_boundOf 20 = .ok (.bipush 8, 2) := by decide +kernel
theorem d_M_boundOf_22 : decode b_M_boundOf 22 = .ok (.ireturn, 1) := by decide +kernel
theorem d_M_boundOf_23 : decode b_M_boundOf 23 = .ok (.iload_n 1, 1) := by decide +kernel
theorem d_M_boundOf_24 : decode b_M_boundOf 24 = .ok (.bipush 8, 2) := by decide +kernel
theorem d_M_boundOf_26 : decode b_M_boundOf 26 = .ok (.if_icmp .ne 10, 3) := by decide +kernel
theorem d_M_boundOf_29 : decode b_M_boundOf 29 = .ok (.aload_n 0, 1) := by decide +kernel
theorem d_M_boundOf_30 : decode b_M_boundOf 30 = .ok (.getfield 38, 3) := by decide +kernel
theorem d_M_boundOf_33 : decode b_M_boundOf 33 = .ok (.iload_n 2, 1) := by decide +kernel
theorem d_M_boundOf_34 : decode b_M_boundOf 34 = .ok (.iaload, 1) := by decide +kernel
theorem d_M_boundOf_35 : decode b_M_boundOf 35 = .ok (.ireturn, 1) := by decide +kernel
theorem d_M_boundOf_36 : decode b_M_boundOf 36 = .ok (.iload_n 1, 1) := by decide +kernel
theorem d_M_boundOf_37 : decode b_M_boundOf 37 = .ok (.bipush 17, 2) := by decide +kernel
theorem d_M_boundOf_39 : decode b_M_boundOf 39 = .ok (.if_icmp .ne 10, 3) := by decide +kernel
theorem d_M_boundOf_42 : decode b_M_boundOf 42 = .ok (.aload_n 0, 1) := by decide +kernel
theorem d_M_boundOf_43 : decode b_M_boundOf 43 = .ok (.getfield 38, 3) := by decide +kernel
theorem d_M_boundOf_46 : decode b_M_boundOf 46 = .ok (.iload_n 3, 1) := by decide +kernel
theorem d_M_boundOf_47 : decode b_M_boundOf 47 = .ok (.iaload, 1) := by decide +kernel
theorem d_M_boundOf_48 : decode b_M_boundOf 48 = .ok (.ireturn, 1) := by decide +kernel
theorem d_M_boundOf_49 : decode b_M_boundOf 49 = .ok (.iload_n 1, 1) := by decide +kernel
theorem d_M_boundOf_50 : decode b_M_boundOf 50 = .ok (.bipush 18, 2) := by decide +kernel
theorem d_M_boundOf_52 : decode b_M_boundOf 52 = .ok (.if_icmp .ne 24, 3) := by decide +kernel
theorem d_M_boundOf_55 : decode b_M_boundOf 55 = .ok (.iload_n 2, 1) := by decide +kernel
theorem d_M_boundOf_56 : decode b_M_boundOf 56 = .ok (.aload_n 0, 1) := by decide +kernel
theorem d_M_boundOf_57 : decode b_M_boundOf 57 = .ok (.getfield 38, 3) := by decide +kernel
theorem d_M_boundOf_60 : decode b_M_boundOf 60 = .ok (.iload_n 3, 1) := by decide +kernel
theorem d_M_boundOf_61 : decode b_M_boundOf 61 = .ok (.iaload, 1) := by decide +kernel
theorem d_M_boundOf_62 : decode b_M_boundOf 62 = .ok (.if_icmp .ge 7, 3) := by decide +kernel
theorem d_M_boundOf_65 : decode b_M_boundOf 65 = .ok (.iload_n 2, 1) := by decide +kernel
theorem d_M_boundOf_66 : decode b_M_boundOf 66 = .ok (.goto 9, 3) := by decide +kernel
theorem d_M_boundOf_69 : decode b_M_boundOf 69 = .ok (.aload_n 0, 1) := by decide +kernel
theorem d_M_boundOf_70 : decode b_M_boundOf 70 = .ok (.getfield 38, 3) := by decide +kernel
theorem d_M_boundOf_73 : decode b_M_boundOf 73 = .ok (.iload_n 3, 1) := by decide +kernel
theorem d_M_boundOf_74 : decode b_M_boundOf 74 = .ok (.iaload, 1) := by decide +kernel
theorem d_M_boundOf_75 : decode b_M_boundOf 75 = .ok (.ireturn, 1) := by decide +kernel
theorem d_M_boundOf_76 : decode b_M_boundOf 76 = .ok (.iload_n 1, 1) := by decide +kernel
theorem d_M_boundOf_77 : decode b_M_boundOf 77 = .ok (.bipush 19, 2) := by decide +kernel
theorem d_M_boundOf_79 : decode b_M_boundOf 79 = .ok (.if_icmp .ne 36, 3) := by decide +kernel
theorem d_M_boundOf_82 : decode b_M_boundOf 82 = .ok (.aload_n 0, 1) := by decide +kernel
theorem d_M_boundOf_83 : decode b_M_boundOf 83 = .ok (.getfield 38, 3) := by decide +kernel
theorem d_M_boundOf_86 : decode b_M_boundOf 86 = .ok (.iload_n 3, 1) := by decide +kernel
theorem d_M_boundOf_87 : decode b_M_boundOf 87 = .ok (.iaload, 1) := by decide +kernel
theorem d_M_boundOf_88 : decode b_M_boundOf 88 = .ok (.aload_n 0, 1) := by decide +kernel
theorem d_M_boundOf_89 : decode b_M_boundOf 89 = .ok (.getfield 38, 3) := by decide +kernel
theorem d_M_boundOf_92 : decode b_M_boundOf 92 = .ok (.iload 4, 2) := by decide +kernel
theorem d_M_boundOf_94 : decode b_M_boundOf 94 = .ok (.iaload, 1) := by decide +kernel
theorem d_M_boundOf_95 : decode b_M_boundOf 95 = .ok (.if_icmp .le 12, 3) := by decide +kernel
theorem d_M_boundOf_98 : decode b_M_boundOf 98 = .ok (.aload_n 0, 1) := by decide +kernel
theorem d_M_boundOf_99 : decode b_M_boundOf 99 = .ok (.getfield 38, 3) := by decide +kernel
theorem d_M_boundOf_102 : decode b_M_boundOf 102 = .ok (.iload_n 3, 1) := by decide +kernel
theorem d_M_boundOf_103 : decode b_M_boundOf 103 = .ok (.iaload, 1) := by decide +kernel
theorem d_M_boundOf_104 : decode b_M_boundOf 104 = .ok (.goto 10, 3) := by decide +kernel
theorem d_M_boundOf_107 : decode b_M_boundOf 107 = .ok (.aload_n 0, 1) := by decide +kernel
theorem d_M_boundOf_108 : decode b_M_boundOf 108 = .ok (.getfield 38, 3) := by decide +kernel
theorem d_M_boundOf_111 : decode b_M_boundOf 111 = .ok (.iload 4, 2) := by decide +kernel
theorem d_M_boundOf_113 : decode b_M_boundOf 113 = .ok (.iaload, 1) := by decide +kernel
theorem d_M_boundOf_114 : decode b_M_boundOf 114 = .ok (.ireturn, 1) := by decide +kernel
theorem d_M_boundOf_115 : decode b_M_boundOf 115 = .ok (.iload_n 1, 1) := by decide +kernel
theorem d_M_boundOf_116 : decode b_M_boundOf 116 = .ok (.bipush 15, 2) := by decide +kernel
theorem d_M_boundOf_118 : decode b_M_boundOf 118 = .ok (.if_icmp .ne 17, 3) := by decide +kernel
theorem d_M_boundOf_121 : decode b_M_boundOf 121 = .ok (.aload_n 0, 1) := by decide +kernel
theorem d_M_boundOf_122 : decode b_M_boundOf 122 = .ok (.getfield 38, 3) := by decide +kernel
theorem d_M_boundOf_125 : decode b_M_boundOf 125 = .ok (.iload_n 2, 1) := by decide +kernel
theorem d_M_boundOf_126 : decode b_M_boundOf 126 = .ok (.iaload, 1) := by decide +kernel
theorem d_M_boundOf_127 : decode b_M_boundOf 127 = .ok (.aload_n 0, 1) := by decide +kernel
theorem d_M_boundOf_128 : decode b_M_boundOf 128 = .ok (.getfield 38, 3) := by decide +kernel
theorem d_M_boundOf_131 : decode b_M_boundOf 131 = .ok (.iload_n 3, 1) := by decide +kernel
theorem d_M_boundOf_132 : decode b_M_boundOf 132 = .ok (.iaload, 1) := by decide +kernel
theorem d_M_boundOf_133 : decode b_M_boundOf 133 = .ok (.iadd, 1) := by decide +kernel
theorem d_M_boundOf_134 : decode b_M_boundOf 134 = .ok (.ireturn, 1) := by decide +kernel
theorem d_M_boundOf_135 : decode b_M_boundOf 135 = .ok (.aload_n 0, 1) := by decide +kernel
theorem d_M_boundOf_136 : decode b_M_boundOf 136 = .ok (.getfield 38, 3) := by decide +kernel
theorem d_M_boundOf_139 : decode b_M_boundOf 139 = .ok (.iload_n 2, 1) := by decide +kernel
theorem d_M_boundOf_140 : decode b_M_boundOf 140 = .ok (.iaload, 1) := by decide +kernel
theorem d_M_boundOf_141 : decode b_M_boundOf 141 = .ok (.aload_n 0, 1) := by decide +kernel
theorem d_M_boundOf_142 : decode b_M_boundOf 142 = .ok (.getfield 38, 3) := by decide +kernel
theorem d_M_boundOf_145 : decode b_M_boundOf 145 = .ok (.iload_n 3, 1) := by decide +kernel
theorem d_M_boundOf_146 : decode b_M_boundOf 146 = .ok (.iaload, 1) := by decide +kernel
theorem d_M_boundOf_147 : decode b_M_boundOf 147 = .ok (.imul, 1) := by decide +kernel
theorem d_M_boundOf_148 : decode b_M_boundOf 148 = .ok (.iload_n 1, 1) := by decide +kernel
theorem d_M_boundOf_149 : decode b_M_boundOf 149 = .ok (.bipush 14, 2) := by decide +kernel
theorem d_M_boundOf_151 : decode b_M_boundOf 151 = .ok (.if_icmp .ne 8, 3) := by decide +kernel
theorem d_M_boundOf_154 : decode b_M_boundOf 154 = .ok (.bipush 8, 2) := by decide +kernel
theorem d_M_boundOf_156 : decode b_M_boundOf 156 = .ok (.goto 4, 3) := by decide +kernel
theorem d_M_boundOf_159 : decode b_M_boundOf 159 = .ok (.iconst 1, 1) := by decide +kernel
theorem d_M_boundOf_160 : decode b_M_boundOf 160 = .ok (.imul, 1) := by decide +kernel
theorem d_M_boundOf_161 : decode b_M_boundOf 161 = .ok (.ireturn, 1) := by decide +kernel
theorem d_M_namesA_0 : decode b_M_namesA 0 = .ok (.iload_n 1, 1) := by decide +kernel
theorem d_M_namesA_1 : decode b_M_namesA 1 = .ok (.bipush 7, 2) := by decide +kernel
theorem d_M_namesA_3 : decode b_M_namesA 3 = .ok (.if_icmp .le 19, 3) := by decide +kernel
theorem d_M_namesA_6 : decode b_M_namesA 6 = .ok (.iload_n 1, 1) := by decide +kernel
theorem d_M_namesA_7 : decode b_M_namesA 7 = .ok (.bipush 17, 2) := by decide +kernel
theorem d_M_namesA_9 : decode b_M_namesA 9 = .ok (.if_icmp .eq 13, 3) := by decide +kernel
theorem d_M_namesA_12 : decode b_M_namesA 12 = .ok (.iload_n 1, 1) := by decide +kernel
theorem d_M_namesA_13 : decode b_M_namesA 13 = .ok (.bipush 18, 2) := by decide +kernel
theorem d_M_namesA_15 : decode b_M_namesA 15 = .ok (.if_icmp .eq 7, 3) := by decide +kernel
theorem d_M_namesA_18 : decode b_M_namesA 18 = .ok (.iconst 1, 1) := by decide +kernel
theorem d_M_namesA_19 : decode b_M_namesA 19 = .ok (.goto 4, 3) := by decide +kernel
theorem d_M_namesA_22 : decode b_M_namesA 22 = .ok (.iconst 0, 1) := by decide +kernel
theorem d_M_namesA_23 : decode b_M_namesA 23 = .ok (.ireturn, 1) := by decide +kernel
theorem d_M_higher_0 : decode b_M_higher 0 = .ok (.iload_n 2, 1) := by decide +kernel
theorem d_M_higher_1 : decode b_M_higher 1 = .ok (.ifCond .eq 22, 3) := by decide +kernel
theorem d_M_higher_4 : decode b_M_higher 4 = .ok (.aload_n 0, 1) := by decide +kernel
theorem d_M_higher_5 : decode b_M_higher 5 = .ok (.getfield 41, 3) := by decide +kernel
theorem d_M_higher_8 : decode b_M_higher 8 = .ok (.iload_n 3, 1) := by decide +kernel
theorem d_M_higher_9 : decode b_M_higher 9 = .ok (.iaload, 1) := by decide +kernel
theorem d_M_higher_10 : decode b_M_higher 10 = .ok (.iload_n 1, 1) := by decide +kernel
theorem d_M_higher_11 : decode b_M_higher 11 = .ok (.if_icmp .le 12, 3) := by decide +kernel
theorem d_M_higher_14 : decode b_M_higher 14 = .ok (.aload_n 0, 1) := by decide +kernel
theorem d_M_higher_15 : decode b_M_higher 15 = .ok (.getfield 41, 3) := by decide +kernel
theorem d_M_higher_18 : decode b_M_higher 18 = .ok (.iload_n 3, 1) := by decide +kernel
theorem d_M_higher_19 : decode b_M_higher 19 = .ok (.iaload, 1) := by decide +kernel
theorem d_M_higher_20 : decode b_M_higher 20 = .ok (.goto 4, 3) := by decide +kernel
theorem d_M_higher_23 : decode b_M_higher 23 = .ok (.iload_n 1, 1) := by decide +kernel
theorem d_M_higher_24 : decode b_M_higher 24 = .ok (.ireturn, 1) := by decide +kernel
theorem d_M_namesB_0 : decode b_M_namesB 0 = .ok (.iload_n 1, 1) := by decide +kernel
theorem d_M_namesB_1 : decode b_M_namesB 1 = .ok (.bipush 8, 2) := by decide +kernel
theorem d_M_namesB_3 : decode b_M_namesB 3 = .ok (.if_icmp .le 13, 3) := by decide +kernel
theorem d_M_namesB_6 : decode b_M_namesB 6 = .ok (.iload_n 1, 1) := by decide +kernel
theorem d_M_namesB_7 : decode b_M_namesB 7 = .ok (.bipush 20, 2) := by decide +kernel
theorem d_M_namesB_9 : decode b_M_namesB 9 = .ok (.if_icmp .ge 7, 3) := by decide +kernel
theorem d_M_namesB_12 : decode b_M_namesB 12 = .ok (.iconst 1, 1) := by decide +kernel
theorem d_M_namesB_13 : decode b_M_namesB 13 = .ok (.goto 4, 3) := by decide +kernel
theorem d_M_namesB_16 : decode b_M_namesB 16 = .ok (.iconst 0, 1) := by decide +kernel
theorem d_M_namesB_17 : decode b_M_namesB 17 = .ok (.ireturn, 1) := by decide +kernel
theorem d_M_workOf_0 : decode b_M_workOf 0 = .ok (.iload_n 1, 1) := by decide +kernel
theorem d_M_workOf_1 : decode b_M_workOf 1 = .ok (.bipush 7, 2) := by decide +kernel
theorem d_M_workOf_3 : decode b_M_workOf 3 = .ok (.if_icmp .ne 6, 3) := by decide +kernel
theorem d_M_workOf_6 : decode b_M_workOf 6 = .ok (.bipush 8, 2) := by decide +kernel
theorem d_M_workOf_8 : decode b_M_workOf 8 = .ok (.ireturn, 1) := by decide +kernel
theorem d_M_workOf_9 : decode b_M_workOf 9 = .ok (.iload_n 1, 1) := by decide +kernel
theorem d_M_workOf_10 : decode b_M_workOf 10 = .ok (.bipush 8, 2) := by decide +kernel
theorem d_M_workOf_12 : decode b_M_workOf 12 = .ok (.if_icmp .le 19, 3) := by decide +kernel
theorem d_M_workOf_15 : decode b_M_workOf 15 = .ok (.iload_n 1, 1) := by decide +kernel
theorem d_M_workOf_16 : decode b_M_workOf 16 = .ok (.bipush 17, 2) := by decide +kernel
theorem d_M_workOf_18 : decode b_M_workOf 18 = .ok (.if_icmp .ge 13, 3) := by decide +kernel
theorem d_M_workOf_21 : decode b_M_workOf 21 = .ok (.iload_n 1, 1) := by decide +kernel
theorem d_M_workOf_22 : decode b_M_workOf 22 = .ok (.bipush 15, 2) := by decide +kernel
theorem d_M_workOf_24 : decode b_M_workOf 24 = .ok (.if_icmp .eq 7, 3) := by decide +kernel
theorem d_M_workOf_27 : decode b_M_workOf 27 = .ok (.iconst 1, 1) := by decide +kernel
theorem d_M_workOf_28 : decode b_M_workOf 28 = .ok (.goto 4, 3) := by decide +kernel
theorem d_M_workOf_31 : decode b_M_workOf 31 = .ok (.iconst 0, 1) := by decide +kernel
theorem d_M_workOf_32 : decode b_M_workOf 32 = .ok (.istore 5, 2) := by decide +kernel
theorem d_M_workOf_34 : decode b_M_workOf 34 = .ok (.iconst 1, 1) := by decide +kernel
theorem d_M_workOf_35 : decode b_M_workOf 35 = .ok (.istore 6, 2) := by decide +kernel
theorem d_M_workOf_37 : decode b_M_workOf 37 = .ok (.aload_n 0, 1) := by decide +kernel
theorem d_M_workOf_38 : decode b_M_workOf 38 = .ok (.iload_n 1, 1) := by decide +kernel
theorem d_M_workOf_39 : decode b_M_workOf 39 = .ok (.invokevirtual 79, 3) := by decide +kernel
theorem d_M_workOf_42 : decode b_M_workOf 42 = .ok (.ifCond .eq 14, 3) := by decide +kernel
theorem d_M_workOf_45 : decode b_M_workOf 45 = .ok (.iload 6, 2) := by decide +kernel
theorem d_M_workOf_47 : decode b_M_workOf 47 = .ok (.aload_n 0, 1) := by decide +kernel
theorem d_M_workOf_48 : decode b_M_workOf 48 = .ok (.getfield 44, 3) := by decide +kernel
theorem d_M_workOf_51 : decode b_M_workOf 51 = .ok (.iload_n 2, 1) := by decide +kernel
theorem d_M_workOf_52 : decode b_M_workOf 52 = .ok (.iaload, 1) := by decide +kernel
theorem d_M_workOf_53 : decode b_M_workOf 53 = .ok (.iadd, 1) := by decide +kernel
theorem d_M_workOf_54 : decode b_M_workOf 54 = .ok (.istore 6, 2) := by decide +kernel
theorem d_M_workOf_56 : decode b_M_workOf 56 = .ok (.aload_n 0, 1) := by decide +kernel
theorem d_M_workOf_57 : decode b_M_workOf 57 = .ok (.iload_n 1, 1) := by decide +kernel
theorem d_M_workOf_58 : decode b_M_workOf 58 = .ok (.invokevirtual 82, 3) := by decide +kernel
theorem d_M_workOf_61 : decode b_M_workOf 61 = .ok (.ifCond .eq 30, 3) := by decide +kernel
theorem d_M_workOf_64 : decode b_M_workOf 64 = .ok (.iload 6, 2) := by decide +kernel
theorem d_M_workOf_66 : decode b_M_workOf 66 = .ok (.aload_n 0, 1) := by decide +kernel
theorem d_M_workOf_67 : decode b_M_workOf 67 = .ok (.getfield 44, 3) := by decide +kernel
theorem d_M_workOf_70 : decode b_M_workOf 70 = .ok (.iload_n 3, 1) := by decide +kernel
theorem d_M_workOf_71 : decode b_M_workOf 71 = .ok (.iaload, 1) := by decide +kernel
theorem d_M_workOf_72 : decode b_M_workOf 72 = .ok (.iload 5, 2) := by decide +kernel
theorem d_M_workOf_74 : decode b_M_workOf 74 = .ok (.ifCond .eq 12, 3) := by decide +kernel
theorem d_M_workOf_77 : decode b_M_workOf 77 = .ok (.aload_n 0, 1) := by decide +kernel
theorem d_M_workOf_78 : decode b_M_workOf 78 = .ok (.getfield 38, 3) := by decide +kernel
theorem d_M_workOf_81 : decode b_M_workOf 81 = .ok (.iload_n 2, 1) := by decide +kernel
theorem d_M_workOf_82 : decode b_M_workOf 82 = .ok (.iaload, 1) := by decide +kernel
theorem d_M_workOf_83 : decode b_M_workOf 83 = .ok (.goto 4, 3) := by decide +kernel
theorem d_M_workOf_86 : decode b_M_workOf 86 = .ok (.iconst 1, 1) := by decide +kernel
theorem d_M_workOf_87 : decode b_M_workOf 87 = .ok (.imul, 1) := by decide +kernel
theorem d_M_workOf_88 : decode b_M_workOf 88 = .ok (.iadd, 1) := by decide +kernel
theorem d_M_workOf_89 : decode b_M_workOf 89 = .ok (.istore 6, 2) := by decide +kernel
theorem d_M_workOf_91 : decode b_M_workOf 91 = .ok (.iload_n 1, 1) := by decide +kernel
theorem d_M_workOf_92 : decode b_M_workOf 92 = .ok (.bipush 19, 2) := by decide +kernel
theorem d_M_workOf_94 : decode b_M_workOf 94 = .ok (.if_icmp .ne 15, 3) := by decide +kernel
theorem d_M_workOf_97 : decode b_M_workOf 97 = .ok (.iload 6, 2) := by decide +kernel
theorem d_M_workOf_99 : decode b_M_workOf 99 = .ok (.aload_n 0, 1) := by decide +kernel
theorem d_M_workOf_100 : decode b_M_workOf 100 = .ok (.getfield 44, 3) := by decide +kernel
theorem d_M_workOf_103 : decode b_M_workOf 103 = .ok (.iload 4, 2) := by decide +kernel
theorem d_M_workOf_105 : decode b_M_workOf 105 = .ok (.iaload, 1) := by decide +kernel
theorem d_M_workOf_106 : decode b_M_workOf 106 = .ok (.iadd, 1) := by decide +kernel
theorem d_M_workOf_107 : decode b_M_workOf 107 = .ok (.istore 6, 2) := by decide +kernel
theorem d_M_workOf_109 : decode b_M_workOf 109 = .ok (.iload_n 1, 1) := by decide +kernel
theorem d_M_workOf_110 : decode b_M_workOf 110 = .ok (.bipush 14, 2) := by decide +kernel
theorem d_M_workOf_112 : decode b_M_workOf 112 = .ok (.if_icmp .ne 11, 3) := by decide +kernel
theorem d_M_workOf_115 : decode b_M_workOf 115 = .ok (.bipush 8, 2) := by decide +kernel
theorem d_M_workOf_117 : decode b_M_workOf 117 = .ok (.iload 6, 2) := by decide +kernel
theorem d_M_workOf_119 : decode b_M_workOf 119 = .ok (.imul, 1) := by decide +kernel
theorem d_M_workOf_120 : decode b_M_workOf 120 = .ok (.goto 5, 3) := by decide +kernel
theorem d_M_workOf_123 : decode b_M_workOf 123 = .ok (.iload 6, 2) := by decide +kernel
theorem d_M_workOf_125 : decode b_M_workOf 125 = .ok (.ireturn, 1) := by decide +kernel
theorem d_M_clear_0 : decode b_M_clear 0 = .ok (.aload_n 0, 1) := by decide +kernel
theorem d_M_clear_1 : decode b_M_clear 1 = .ok (.getfield 13, 3) := by decide +kernel
theorem d_M_clear_4 : decode b_M_clear 4 = .ok (.istore_n 1, 1) := by decide +kernel
theorem d_M_clear_5 : decode b_M_clear 5 = .ok (.aload_n 0, 1) := by decide +kernel
theorem d_M_clear_6 : decode b_M_clear 6 = .ok (.iconst 0, 1) := by decide +kernel
theorem d_M_clear_7 : decode b_M_clear 7 = .ok (.putfield 13, 3) := by decide +kernel
theorem d_M_clear_10 : decode b_M_clear 10 = .ok (.iload_n 1, 1) := by decide +kernel
theorem d_M_clear_11 : decode b_M_clear 11 = .ok (.ireturn, 1) := by decide +kernel
theorem d_M_evaluate_0 : decode b_M_evaluate 0 = .ok (.iload_n 1, 1) := by decide +kernel
theorem d_M_evaluate_1 : decode b_M_evaluate 1 = .ok (.ifCond .lt 11, 3) := by decide +kernel
theorem d_M_evaluate_4 : decode b_M_evaluate 4 = .ok (.iload_n 1, 1) := by decide +kernel
theorem d_M_evaluate_5 : decode b_M_evaluate 5 = .ok (.aload_n 0, 1) := by decide +kernel
theorem d_M_evaluate_6 : decode b_M_evaluate 6 = .ok (.getfield 13, 3) := by decide +kernel
theorem d_M_evaluate_9 : decode b_M_evaluate 9 = .ok (.if_icmp .lt 5, 3) := by decide +kernel
theorem d_M_evaluate_12 : decode b_M_evaluate 12 = .ok (.iconst (-1), 1) := by decide +kernel
theorem d_M_evaluate_13 : decode b_M_evaluate 13 = .ok (.ireturn, 1) := by decide +kernel
theorem d_M_evaluate_14 : decode b_M_evaluate 14 = .ok (.aload_n 0, 1) := by decide +kernel
theorem d_M_evaluate_15 : decode b_M_evaluate 15 = .ok (.iload_n 1, 1) := by decide +kernel
theorem d_M_evaluate_16 : decode b_M_evaluate 16 = .ok (.invokevirtual 147, 3) := by decide +kernel
theorem d_M_evaluate_19 : decode b_M_evaluate 19 = .ok (.aload_n 0, 1) := by decide +kernel
theorem d_M_evaluate_20 : decode b_M_evaluate 20 = .ok (.bipush 64, 2) := by decide +kernel
theorem d_M_evaluate_22 : decode b_M_evaluate 22 = .ok (.invokevirtual 150, 3) := by decide +kernel
theorem d_M_evaluate_25 : decode b_M_evaluate 25 = .ok (.ireturn, 1) := by decide +kernel
theorem d_M_work_0 : decode b_M_work 0 = .ok (.aload_n 0, 1) := by decide +kernel
theorem d_M_work_1 : decode b_M_work 1 = .ok (.iconst 0, 1) := by decide +kernel
theorem d_M_work_2 : decode b_M_work 2 = .ok (.putfield 57, 3) := by decide +kernel
theorem d_M_work_5 : decode b_M_work 5 = .ok (.aload_n 0, 1) := by decide +kernel
theorem d_M_work_6 : decode b_M_work 6 = .ok (.iload_n 1, 1) := by decide +kernel
theorem d_M_work_7 : decode b_M_work 7 = .ok (.iconst (-1), 1) := by decide +kernel
theorem d_M_work_8 : decode b_M_work 8 = .ok (.invokevirtual 112, 3) := by decide +kernel
theorem d_M_work_11 : decode b_M_work 11 = .ok (.aload_n 0, 1) := by decide +kernel
theorem d_M_work_12 : decode b_M_work 12 = .ok (.getfield 57, 3) := by decide +kernel
theorem d_M_work_15 : decode b_M_work 15 = .ok (.ifCond .le 117, 3) := by decide +kernel
theorem d_M_work_18 : decode b_M_work 18 = .ok (.aload_n 0, 1) := by decide +kernel
theorem d_M_work_19 : decode b_M_work 19 = .ok (.getfield 60, 3) := by decide +kernel
theorem d_M_work_22 : decode b_M_work 22 = .ok (.aload_n 0, 1) := by decide +kernel
theorem d_M_work_23 : decode b_M_work 23 = .ok (.getfield 57, 3) := by decide +kernel
theorem d_M_work_26 : decode b_M_work 26 = .ok (.iconst 1, 1) := by decide +kernel
theorem d_M_work_27 : decode b_M_work 27 = .ok (.isub, 1) := by decide +kernel
theorem d_M_work_28 : decode b_M_work 28 = .ok (.iaload, 1) := by decide +kernel
theorem d_M_work_29 : decode b_M_work 29 = .ok (.istore_n 2, 1) := by decide +kernel
theorem d_M_work_30 : decode b_M_work 30 = .ok (.aload_n 0, 1) := by decide +kernel
theorem d_M_work_31 : decode b_M_work 31 = .ok (.getfield 26, 3) := by decide +kernel
theorem d_M_work_34 : decode b_M_work 34 = .ok (.iload_n 2, 1) := by decide +kernel
theorem d_M_work_35 : decode b_M_work 35 = .ok (.iaload, 1) := by decide +kernel
theorem d_M_work_36 : decode b_M_work 36 = .ok (.istore_n 3, 1) := by decide +kernel
theorem d_M_work_37 : decode b_M_work 37 = .ok (.iload_n 3, 1) := by decide +kernel
theorem d_M_work_38 : decode b_M_work 38 = .ok (.bipush 8, 2) := by decide +kernel
theorem d_M_work_40 : decode b_M_work 40 = .ok (.if_icmp .ge 34, 3) := by decide +kernel
theorem d_M_work_43 : decode b_M_work 43 = .ok (.aload_n 0, 1) := by decide +kernel
theorem d_M_work_44 : decode b_M_work 44 = .ok (.iload_n 2, 1) := by decide +kernel
theorem d_M_work_45 : decode b_M_work 45 = .ok (.aload_n 0, 1) := by decide +kernel
theorem d_M_work_46 : decode b_M_work 46 = .ok (.getfield 69, 3) := by decide +kernel
theorem d_M_work_49 : decode b_M_work 49 = .ok (.aload_n 0, 1) := by decide +kernel
theorem d_M_work_50 : decode b_M_work 50 = .ok (.getfield 57, 3) := by decide +kernel
theorem d_M_work_53 : decode b_M_work 53 = .ok (.iconst 1, 1) := by decide +kernel
theorem d_M_work_54 : decode b_M_work 54 = .ok (.isub, 1) := by decide +kernel
theorem d_M_work_55 : decode b_M_work 55 = .ok (.iconst 5, 1) := by decide +kernel
theorem d_M_work_56 : decode b_M_work 56 = .ok (.imul, 1) := by decide +kernel
theorem d_M_work_57 : decode b_M_work 57 = .ok (.iaload, 1) := by decide +kernel
theorem d_M_work_58 : decode b_M_work 58 = .ok (.invokevirtual 131, 3) := by decide +kernel
theorem d_M_work_61 : decode b_M_work 61 = .ok (.aload_n 0, 1) := by decide +kernel
theorem d_M_work_62 : decode b_M_work 62 = .ok (.dup, 1) := by decide +kernel
theorem d_M_work_63 : decode b_M_work 63 = .ok (.getfield 57, 3) := by decide +kernel
theorem d_M_work_66 : decode b_M_work 66 = .ok (.iconst 1, 1) := by decide +kernel
theorem d_M_work_67 : decode b_M_work 67 = .ok (.isub, 1) := by decide +kernel
theorem d_M_work_68 : decode b_M_work 68 = .ok (.putfield 57, 3) := by decide +kernel
theorem d_M_work_71 : decode b_M_work 71 = .ok (.goto 58, 3) := by decide +kernel
theorem d_M_work_74 : decode b_M_work 74 = .ok (.iload_n 3, 1) := by decide +kernel
theorem d_M_work_75 : decode b_M_work 75 = .ok (.bipush 15, 2) := by decide +kernel
theorem d_M_work_77 : decode b_M_work 77 = .ok (.if_icmp .ne 11, 3) := by decide +kernel
theorem d_M_work_80 : decode b_M_work 80 = .ok (.aload_n 0, 1) := by decide +kernel
theorem d_M_work_81 : decode b_M_work 81 = .ok (.iload_n 2, 1) := by decide +kernel
theorem d_M_work_82 : decode b_M_work 82 = .ok (.invokevirtual 134, 3) := by decide +kernel
theorem d_M_work_85 : decode b_M_work 85 = .ok (.goto 44, 3) := by decide +kernel
theorem d_M_work_88 : decode b_M_work 88 = .ok (.iload_n 3, 1) := by decide +kernel
theorem d_M_work_89 : decode b_M_work 89 = .ok (.bipush 19, 2) := by decide +kernel
theorem d_M_work_91 : decode b_M_work 91 = .ok (.if_icmp .ne 11, 3) := by decide +kernel
theorem d_M_work_94 : decode b_M_work 94 = .ok (.aload_n 0, 1) := by decide +kernel
theorem d_M_work_95 : decode b_M_work 95 = .ok (.iload_n 2, 1) := by decide +kernel
theorem d_M_work_96 : decode b_M_work 96 = .ok (.invokevirtual 138, 3) := by decide +kernel
theorem d_M_work_99 : decode b_M_work 99 = .ok (.goto 30, 3) := by decide +kernel
theorem d_M_work_102 : decode b_M_work 102 = .ok (.iload_n 3, 1) := by decide +kernel
theorem d_M_work_103 : decode b_M_work 103 = .ok (.bipush 17, 2) := by decide +kernel
theorem d_M_work_105 : decode b_M_work 105 = .ok (.if_icmp .ge 18, 3) := by decide +kernel
theorem d_M_work_108 : decode b_M_work 108 = .ok (.iload_n 3, 1) := by decide +kernel
theorem d_M_work_109 : decode b_M_work 109 = .ok (.bipush 8, 2) := by decide +kernel
theorem d_M_work_111 : decode b_M_work 111 = .ok (.if_icmp .eq 12, 3) := by decide +kernel
theorem d_M_work_114 : decode b_M_work 114 = .ok (.aload_n 0, 1) := by decide +kernel
theorem d_M_work_115 : decode b_M_work 115 = .ok (.iload_n 2, 1) := by decide +kernel
theorem d_M_work_116 : decode b_M_work 116 = .ok (.iload_n 3, 1) := by decide +kernel
theorem d_M_work_117 : decode b_M_work 117 = .ok (.invokevirtual 141, 3) := by decide +kernel
theorem d_M_work_120 : decode b_M_work 120 = .ok (.goto 9, 3) := by decide +kernel
theorem d_M_work_123 : decode b_M_work 123 = .ok (.aload_n 0, 1) := by decide +kernel
theorem d_M_work_124 : decode b_M_work 124 = .ok (.iload_n 2, 1) := by decide +kernel
theorem d_M_work_125 : decode b_M_work 125 = .ok (.iload_n 3, 1) := by decide +kernel
theorem d_M_work_126 : decode b_M_work 126 = .ok (.invokevirtual 144, 3) := by decide +kernel
theorem d_M_work_129 : decode b_M_work 129 = .ok (.goto (-118), 3) := by decide +kernel
theorem d_M_work_132 : decode b_M_work 132 = .ok (.return_, 1) := by decide +kernel
theorem d_M_begin_0 : decode b_M_begin 0 = .ok (.aload_n 0, 1) := by decide +kernel
theorem d_M_begin_1 : decode b_M_begin 1 = .ok (.getfield 57, 3) := by decide +kernel
theorem d_M_begin_4 : decode b_M_begin 4 = .ok (.istore_n 3, 1) := by decide +kernel
theorem d_M_begin_5 : decode b_M_begin 5 = .ok (.aload_n 0, 1) := by decide +kernel
theorem d_M_begin_6 : decode b_M_begin 6 = .ok (.getfield 60, 3) := by decide +kernel
theorem d_M_begin_9 : decode b_M_begin 9 = .ok (.iload_n 3, 1) := by decide +kernel
theorem d_M_begin_10 : decode b_M_begin 10 = .ok (.iload_n 1, 1) := by decide +kernel
theorem d_M_begin_11 : decode b_M_begin 11 = .ok (.iastore, 1) := by decide +kernel
theorem d_M_begin_12 : decode b_M_begin 12 = .ok (.aload_n 0, 1) := by decide +kernel
theorem d_M_begin_13 : decode b_M_begin 13 = .ok (.getfield 63, 3) := by decide +kernel
theorem d_M_begin_16 : decode b_M_begin 16 = .ok (.iload_n 3, 1) := by decide +kernel
theorem d_M_begin_17 : decode b_M_begin 17 = .ok (.iconst 0, 1) := by decide +kernel
theorem d_M_begin_18 : decode b_M_begin 18 = .ok (.iastore, 1) := by decide +kernel
theorem d_M_begin_19 : decode b_M_begin 19 = .ok (.aload_n 0, 1) := by decide +kernel
theorem d_M_begin_20 : decode b_M_begin 20 = .ok (.getfield 54, 3) := by decide +kernel
theorem d_M_begin_23 : decode b_M_begin 23 = .ok (.iload_n 3, 1) := by decide +kernel
theorem d_M_begin_24 : decode b_M_begin 24 = .ok (.iconst 0, 1) := by decide +kernel
theorem d_M_begin_25 : decode b_M_begin 25 = .ok (.iastore, 1) := by decide +kernel
theorem d_M_begin_26 : decode b_M_begin 26 = .ok (.iconst 0, 1) := by decide +kernel
theorem d_M_begin_27 : decode b_M_begin 27 = .ok (.istore 4, 2) := by decide +kernel
theorem d_M_begin_29 : decode b_M_begin 29 = .ok (.iload 4, 2) := by decide +kernel
theorem d_M_begin_31 : decode b_M_begin 31 = .ok (.iconst 5, 1) := by decide +kernel
theorem d_M_begin_32 : decode b_M_begin 32 = .ok (.if_icmp .ge 57, 3) := by decide +kernel
theorem d_M_begin_35 : decode b_M_begin 35 = .ok (.aload_n 0, 1) := by decide +kernel
theorem d_M_begin_36 : decode b_M_begin 36 = .ok (.getfield 69, 3) := by decide +kernel
theorem d_M_begin_39 : decode b_M_begin 39 = .ok (.iload_n 3, 1) := by decide +kernel
theorem d_M_begin_40 : decode b_M_begin 40 = .ok (.iconst 5, 1) := by decide +kernel
theorem d_M_begin_41 : decode b_M_begin 41 = .ok (.imul, 1) := by decide +kernel
theorem d_M_begin_42 : decode b_M_begin 42 = .ok (.iload 4, 2) := by decide +kernel
theorem d_M_begin_44 : decode b_M_begin 44 = .ok (.iadd, 1) := by decide +kernel
theorem d_M_begin_45 : decode b_M_begin 45 = .ok (.iload_n 2, 1) := by decide +kernel
theorem d_M_begin_46 : decode b_M_begin 46 = .ok (.ifCond .lt 15, 3) := by decide +kernel
theorem d_M_begin_49 : decode b_M_begin 49 = .ok (.aload_n 0, 1) := by decide +kernel
theorem d_M_begin_50 : decode b_M_begin 50 = .ok (.getfield 51, 3) := by decide +kernel
theorem d_M_begin_53 : decode b_M_begin 53 = .ok (.iload_n 2, 1) := by decide +kernel
theorem d_M_begin_54 : decode b_M_begin 54 = .ok (.iload 4, 2) := by decide +kernel
theorem d_M_begin_56 : decode b_M_begin 56 = .ok (.iadd, 1) := by decide +kernel
theorem d_M_begin_57 : decode b_M_begin 57 = .ok (.iaload, 1) := by decide +kernel
theorem d_M_begin_58 : decode b_M_begin 58 = .ok (.goto 24, 3) := by decide +kernel
theorem d_M_begin_61 : decode b_M_begin 61 = .ok (.iload_n 3, 1) := by decide +kernel
theorem d_M_begin_62 : decode b_M_begin 62 = .ok (.ifCond .le 19, 3) := by decide +kernel
theorem d_M_begin_65 : decode b_M_begin 65 = .ok (.aload_n 0, 1) := by decide +kernel
theorem d_M_begin_66 : decode b_M_begin 66 = .ok (.getfield 69, 3) := by decide +kernel
theorem d_M_begin_69 : decode b_M_begin 69 = .ok (.iload_n 3, 1) := by decide +kernel
theorem d_M_begin_70 : decode b_M_begin 70 = .ok (.iconst 5, 1) := by decide +kernel
theorem d_M_begin_71 : decode b_M_begin 71 = .ok (.imul, 1) := by decide +kernel
theorem d_M_begin_72 : decode b_M_begin 72 = .ok (.iconst 5, 1) := by decide +kernel
theorem d_M_begin_73 : decode b_M_begin 73 = .ok (.isub, 1) := by decide +kernel
theorem d_M_begin_74 : decode b_M_begin 74 = .ok (.iload 4, 2) := by decide +kernel
theorem d_M_begin_76 : decode b_M_begin 76 = .ok (.iadd, 1) := by decide +kernel
theorem d_M_begin_77 : decode b_M_begin 77 = .ok (.iaload, 1) := by decide +kernel
theorem d_M_begin_78 : decode b_M_begin 78 = .ok (.goto 4, 3) := by decide +kernel
theorem d_M_begin_81 : decode b_M_begin 81 = .ok (.iconst 0, 1) := by decide +kernel
theorem d_M_begin_82 : decode b_M_begin 82 = .ok (.iastore, 1) := by decide +kernel
theorem d_M_begin_83 : decode b_M_begin 83 = .ok (.iinc 4 1, 3) := by decide +kernel
theorem d_M_begin_86 : decode b_M_begin 86 = .ok (.goto (-57), 3) := by decide +kernel
theorem d_M_begin_89 : decode b_M_begin 89 = .ok (.aload_n 0, 1) := by decide +kernel
theorem d_M_begin_90 : decode b_M_begin 90 = .ok (.dup, 1) := by decide +kernel
theorem d_M_begin_91 : decode b_M_begin 91 = .ok (.getfield 57, 3) := by decide +kernel
theorem d_M_begin_94 : decode b_M_begin 94 = .ok (.iconst 1, 1) := by decide +kernel
theorem d_M_begin_95 : decode b_M_begin 95 = .ok (.iadd, 1) := by decide +kernel
theorem d_M_begin_96 : decode b_M_begin 96 = .ok (.putfield 57, 3) := by decide +kernel
theorem d_M_begin_99 : decode b_M_begin 99 = .ok (.return_, 1) := by decide +kernel
theorem d_M_leaf_0 : decode b_M_leaf 0 = .ok (.aload_n 0, 1) := by decide +kernel
theorem d_M_leaf_1 : decode b_M_leaf 1 = .ok (.getfield 26, 3) := by decide +kernel
theorem d_M_leaf_4 : decode b_M_leaf 4 = .ok (.iload_n 1, 1) := by decide +kernel
theorem d_M_leaf_5 : decode b_M_leaf 5 = .ok (.iaload, 1) := by decide +kernel
theorem d_M_leaf_6 : decode b_M_leaf 6 = .ok (.istore_n 3, 1) := by decide +kernel
theorem d_M_leaf_7 : decode b_M_leaf 7 = .ok (.aload_n 0, 1) := by decide +kernel
theorem d_M_leaf_8 : decode b_M_leaf 8 = .ok (.getfield 29, 3) := by decide +kernel
theorem d_M_leaf_11 : decode b_M_leaf 11 = .ok (.iload_n 1, 1) := by decide +kernel
theorem d_M_leaf_12 : decode b_M_leaf 12 = .ok (.iaload, 1) := by decide +kernel
theorem d_M_leaf_13 : decode b_M_leaf 13 = .ok (.istore 4, 2) := by decide +kernel
theorem d_M_leaf_15 : decode b_M_leaf 15 = .ok (.iload_n 3, 1) := by decide +kernel
theorem d_M_leaf_16 : decode b_M_leaf 16 = .ok (.ifCond .ne 10, 3) := by decide +kernel
theorem d_M_leaf_19 : decode b_M_leaf 19 = .ok (.aload_n 0, 1) := by decide +kernel
theorem d_M_leaf_20 : decode b_M_leaf 20 = .ok (.iload 4, 2) := by decide +kernel
theorem d_M_leaf_22 : decode b_M_leaf 22 = .ok (.iload_n 2, 1) := by decide +kernel
theorem d_M_leaf_23 : decode b_M_leaf 23 = .ok (.invokevirtual 104, 3) := by decide +kernel
theorem d_M_leaf_26 : decode b_M_leaf 26 = .ok (.iload_n 3, 1) := by decide +kernel
theorem d_M_leaf_27 : decode b_M_leaf 27 = .ok (.iconst 1, 1) := by decide +kernel
theorem d_M_leaf_28 : decode b_M_leaf 28 = .ok (.if_icmp .ne 26, 3) := by decide +kernel
theorem d_M_leaf_31 : decode b_M_leaf 31 = .ok (.aload_n 0, 1) := by decide +kernel
theorem d_M_leaf_32 : decode b_M_leaf 32 = .ok (.aload_n 0, 1) := by decide +kernel
theorem d_M_leaf_33 : decode b_M_leaf 33 = .ok (.getfield 69, 3) := by decide +kernel
theorem d_M_leaf_36 : decode b_M_leaf 36 = .ok (.aload_n 0, 1) := by decide +kernel
theorem d_M_leaf_37 : decode b_M_leaf 37 = .ok (.getfield 57, 3) := by decide +kernel
theorem d_M_leaf_40 : decode b_M_leaf 40 = .ok (.iconst 1, 1) := by decide +kernel
theorem d_M_leaf_41 : decode b_M_leaf 41 = .ok (.isub, 1) := by decide +kernel
theorem d_M_leaf_42 : decode b_M_leaf 42 = .ok (.iconst 5, 1) := by decide +kernel
theorem d_M_leaf_43 : decode b_M_leaf 43 = .ok (.imul, 1) := by decide +kernel
theorem d_M_leaf_44 : decode b_M_leaf 44 = .ok (.iconst 1, 1) := by decide +kernel
theorem d_M_leaf_45 : decode b_M_leaf 45 = .ok (.iadd, 1) := by decide +kernel
theorem d_M_leaf_46 : decode b_M_leaf 46 = .ok (.iload 4, 2) := by decide +kernel
theorem d_M_leaf_48 : decode b_M_leaf 48 = .ok (.iadd, 1) := by decide +kernel
theorem d_M_leaf_49 : decode b_M_leaf 49 = .ok (.iaload, 1) := by decide +kernel
theorem d_M_leaf_50 : decode b_M_leaf 50 = .ok (.iload_n 2, 1) := by decide +kernel
theorem d_M_leaf_51 : decode b_M_leaf 51 = .ok (.invokevirtual 104, 3) := by decide +kernel
theorem d_M_leaf_54 : decode b_M_leaf 54 = .ok (.iload_n 3, 1) := by decide +kernel
theorem d_M_leaf_55 : decode b_M_leaf 55 = .ok (.iconst 2, 1) := by decide +kernel
theorem d_M_leaf_56 : decode b_M_leaf 56 = .ok (.if_icmp .ne 9, 3) := by decide +kernel
theorem d_M_leaf_59 : decode b_M_leaf 59 = .ok (.aload_n 0, 1) := by decide +kernel
theorem d_M_leaf_60 : decode b_M_leaf 60 = .ok (.iload_n 2, 1) := by decide +kernel
theorem d_M_leaf_61 : decode b_M_leaf 61 = .ok (.iload_n 2, 1) := by decide +kernel
theorem d_M_leaf_62 : decode b_M_leaf 62 = .ok (.invokevirtual 104, 3) := by decide +kernel
theorem d_M_leaf_65 : decode b_M_leaf 65 = .ok (.iload_n 3, 1) := by decide +kernel
theorem d_M_leaf_66 : decode b_M_leaf 66 = .ok (.iconst 3, 1) := by decide +kernel
theorem d_M_leaf_67 : decode b_M_leaf 67 = .ok (.if_icmp .ne 12, 3) := by decide +kernel
theorem d_M_leaf_70 : decode b_M_leaf 70 = .ok (.aload_n 0, 1) := by decide +kernel
theorem d_M_leaf_71 : decode b_M_leaf 71 = .ok (.aload_n 0, 1) := by decide +kernel
theorem d_M_leaf_72 : decode b_M_leaf 72 = .ok (.getfield 7, 3) := by decide +kernel
theorem d_M_leaf_75 : decode b_M_leaf 75 = .ok (.iload_n 2, 1) := by decide +kernel
theorem d_M_leaf_76 : decode b_M_leaf 76 = .ok (.invokevirtual 104, 3) := by decide +kernel
theorem d_M_leaf_79 : decode b_M_leaf 79 = .ok (.iload_n 3, 1) := by decide +kernel
theorem d_M_leaf_80 : decode b_M_leaf 80 = .ok (.iconst 4, 1) := by decide +kernel
theorem d_M_leaf_81 : decode b_M_leaf 81 = .ok (.if_icmp .ne 26, 3) := by decide +kernel
theorem d_M_leaf_84 : decode b_M_leaf 84 = .ok (.aload_n 0, 1) := by decide +kernel
theorem d_M_leaf_85 : decode b_M_leaf 85 = .ok (.iload 4, 2) := by decide +kernel
theorem d_M_leaf_87 : decode b_M_leaf 87 = .ok (.iload_n 2, 1) := by decide +kernel
theorem d_M_leaf_88 : decode b_M_leaf 88 = .ok (.invokevirtual 100, 3) := by decide +kernel
theorem d_M_leaf_91 : decode b_M_leaf 91 = .ok (.ifCond .eq 16, 3) := by decide +kernel
theorem d_M_leaf_94 : decode b_M_leaf 94 = .ok (.aload_n 0, 1) := by decide +kernel
theorem d_M_leaf_95 : decode b_M_leaf 95 = .ok (.aload_n 0, 1) := by decide +kernel
theorem d_M_leaf_96 : decode b_M_leaf 96 = .ok (.getfield 22, 3) := by decide +kernel
theorem d_M_leaf_99 : decode b_M_leaf 99 = .ok (.iload_n 2, 1) := by decide +kernel
theorem d_M_leaf_100 : decode b_M_leaf 100 = .ok (.iaload, 1) := by decide +kernel
theorem d_M_leaf_101 : decode b_M_leaf 101 = .ok (.iload_n 2, 1) := by decide +kernel
theorem d_M_leaf_102 : decode b_M_leaf 102 = .ok (.iconst 1, 1) := by decide +kernel
theorem d_M_leaf_103 : decode b_M_leaf 103 = .ok (.iadd, 1) := by decide +kernel
theorem d_M_leaf_104 : decode b_M_leaf 104 = .ok (.invokevirtual 104, 3) := by decide +kernel
theorem d_M_leaf_107 : decode b_M_leaf 107 = .ok (.iload_n 3, 1) := by decide +kernel
theorem d_M_leaf_108 : decode b_M_leaf 108 = .ok (.iconst 5, 1) := by decide +kernel
theorem d_M_leaf_109 : decode b_M_leaf 109 = .ok (.if_icmp .ne 37, 3) := by decide +kernel
theorem d_M_leaf_112 : decode b_M_leaf 112 = .ok (.aload_n 0, 1) := by decide +kernel
theorem d_M_leaf_113 : decode b_M_leaf 113 = .ok (.iload 4, 2) := by decide +kernel
theorem d_M_leaf_115 : decode b_M_leaf 115 = .ok (.iload_n 2, 1) := by decide +kernel
theorem d_M_leaf_116 : decode b_M_leaf 116 = .ok (.invokevirtual 100, 3) := by decide +kernel
theorem d_M_leaf_119 : decode b_M_leaf 119 = .ok (.ifCond .eq 27, 3) := by decide +kernel
theorem d_M_leaf_122 : decode b_M_leaf 122 = .ok (.aload_n 0, 1) := by decide +kernel
theorem d_M_leaf_123 : decode b_M_leaf 123 = .ok (.aload_n 0, 1) := by decide +kernel
theorem d_M_leaf_124 : decode b_M_leaf 124 = .ok (.iload 4, 2) := by decide +kernel
theorem d_M_leaf_126 : decode b_M_leaf 126 = .ok (.iload_n 2, 1) := by decide +kernel
theorem d_M_leaf_127 : decode b_M_leaf 127 = .ok (.bipush 24, 2) := by decide +kernel
theorem d_M_leaf_129 : decode b_M_leaf 129 = .ok (.invokevirtual 108, 3) := by decide +kernel
theorem d_M_leaf_132 : decode b_M_leaf 132 = .ok (.iload_n 2, 1) := by decide +kernel
theorem d_M_leaf_133 : decode b_M_leaf 133 = .ok (.isub, 1) := by decide +kernel
theorem d_M_leaf_134 : decode b_M_leaf 134 = .ok (.aload_n 0, 1) := by decide +kernel
theorem d_M_leaf_135 : decode b_M_leaf 135 = .ok (.iload 4, 2) := by decide +kernel
theorem d_M_leaf_137 : decode b_M_leaf 137 = .ok (.iload_n 2, 1) := by decide +kernel
theorem d_M_leaf_138 : decode b_M_leaf 138 = .ok (.bipush 24, 2) := by decide +kernel
theorem d_M_leaf_140 : decode b_M_leaf 140 = .ok (.invokevirtual 108, 3) := by decide +kernel
theorem d_M_leaf_143 : decode b_M_leaf 143 = .ok (.invokevirtual 104, 3) := by decide +kernel
theorem d_M_leaf_146 : decode b_M_leaf 146 = .ok (.iload_n 3, 1) := by decide +kernel
theorem d_M_leaf_147 : decode b_M_leaf 147 = .ok (.bipush 6, 2) := by decide +kernel
theorem d_M_leaf_149 : decode b_M_leaf 149 = .ok (.if_icmp .ne 67, 3) := by decide +kernel
theorem d_M_leaf_152 : decode b_M_leaf 152 = .ok (.aload_n 0, 1) := by decide +kernel
theorem d_M_leaf_153 : decode b_M_leaf 153 = .ok (.iconst 0, 1) := by decide +kernel
theorem d_M_leaf_154 : decode b_M_leaf 154 = .ok (.iload_n 2, 1) := by decide +kernel
theorem d_M_leaf_155 : decode b_M_leaf 155 = .ok (.invokevirtual 100, 3) := by decide +kernel
theorem d_M_leaf_158 : decode b_M_leaf 158 = .ok (.ifCond .eq 58, 3) := by decide +kernel
theorem d_M_leaf_161 : decode b_M_leaf 161 = .ok (.iconst 0, 1) := by decide +kernel
theorem d_M_leaf_162 : decode b_M_leaf 162 = .ok (.istore 5, 2) := by decide +kernel
theorem d_M_leaf_164 : decode b_M_leaf 164 = .ok (.aload_n 0, 1) := by decide +kernel
theorem d_M_leaf_165 : decode b_M_leaf 165 = .ok (.iconst 0, 1) := by decide +kernel
theorem d_M_leaf_166 : decode b_M_leaf 166 = .ok (.iload_n 2, 1) := by decide +kernel
theorem d_M_leaf_167 : decode b_M_leaf 167 = .ok (.bipush 9, 2) := by decide +kernel
theorem d_M_leaf_169 : decode b_M_leaf 169 = .ok (.invokevirtual 108, 3) := by decide +kernel
theorem d_M_leaf_172 : decode b_M_leaf 172 = .ok (.istore 6, 2) := by decide +kernel
theorem d_M_leaf_174 : decode b_M_leaf 174 = .ok (.iload_n 2, 1) := by decide +kernel
theorem d_M_leaf_175 : decode b_M_leaf 175 = .ok (.istore 7, 2) := by decide +kernel
theorem d_M_leaf_177 : decode b_M_leaf 177 = .ok (.iload 7, 2) := by decide +kernel
theorem d_M_leaf_179 : decode b_M_leaf 179 = .ok (.iload 6, 2) := by decide +kernel
theorem d_M_leaf_181 : decode b_M_leaf 181 = .ok (.if_icmp .ge 27, 3) := by decide +kernel
theorem d_M_leaf_184 : decode b_M_leaf 184 = .ok (.bipush 10, 2) := by decide +kernel
theorem d_M_leaf_186 : decode b_M_leaf 186 = .ok (.iload 5, 2) := by decide +kernel
theorem d_M_leaf_188 : decode b_M_leaf 188 = .ok (.imul, 1) := by decide +kernel
theorem d_M_leaf_189 : decode b_M_leaf 189 = .ok (.aload_n 0, 1) := by decide +kernel
theorem d_M_leaf_190 : decode b_M_leaf 190 = .ok (.getfield 22, 3) := by decide +kernel
theorem d_M_leaf_193 : decode b_M_leaf 193 = .ok (.iload 7, 2) := by decide +kernel
theorem d_M_leaf_195 : decode b_M_leaf 195 = .ok (.iaload, 1) := by decide +kernel
theorem d_M_leaf_196 : decode b_M_leaf 196 = .ok (.iadd, 1) := by decide +kernel
theorem d_M_leaf_197 : decode b_M_leaf 197 = .ok (.bipush 48, 2) := by decide +kernel
theorem d_M_leaf_199 : decode b_M_leaf 199 = .ok (.isub, 1) := by decide +kernel
theorem d_M_leaf_200 : decode b_M_leaf 200 = .ok (.istore 5, 2) := by decide +kernel
theorem d_M_leaf_202 : decode b_M_leaf 202 = .ok (.iinc 7 1, 3) := by decide +kernel
theorem d_M_leaf_205 : decode b_M_leaf 205 = .ok (.goto (-28), 3) := by decide +kernel
theorem d_M_leaf_208 : decode b_M_leaf 208 = .ok (.aload_n 0, 1) := by decide +kernel
theorem d_M_leaf_209 : decode b_M_leaf 209 = .ok (.iload 5, 2) := by decide +kernel
theorem d_M_leaf_211 : decode b_M_leaf 211 = .ok (.iload 6, 2) := by decide +kernel
theorem d_M_leaf_213 : decode b_M_leaf 213 = .ok (.invokevirtual 104, 3) := by decide +kernel
theorem d_M_leaf_216 : decode b_M_leaf 216 = .ok (.iload_n 3, 1) := by decide +kernel
theorem d_M_leaf_217 : decode b_M_leaf 217 = .ok (.bipush 7, 2) := by decide +kernel
theorem d_M_leaf_219 : decode b_M_leaf 219 = .ok (.if_icmp .ne 55, 3) := by decide +kernel
theorem d_M_leaf_222 : decode b_M_leaf 222 = .ok (.iload_n 2, 1) := by decide +kernel
theorem d_M_leaf_223 : decode b_M_leaf 223 = .ok (.istore 5, 2) := by decide +kernel
theorem d_M_leaf_225 : decode b_M_leaf 225 = .ok (.iload 5, 2) := by decide +kernel
theorem d_M_leaf_227 : decode b_M_leaf 227 = .ok (.aload_n 0, 1) := by decide +kernel
theorem d_M_leaf_228 : decode b_M_leaf 228 = .ok (.getfield 7, 3) := by decide +kernel
theorem d_M_leaf_231 : decode b_M_leaf 231 = .ok (.if_icmp .ge 43, 3) := by decide +kernel
theorem d_M_leaf_234 : decode b_M_leaf 234 = .ok (.aload_n 0, 1) := by decide +kernel
theorem d_M_leaf_235 : decode b_M_leaf 235 = .ok (.iload 4, 2) := by decide +kernel
theorem d_M_leaf_237 : decode b_M_leaf 237 = .ok (.iload 5, 2) := by decide +kernel
theorem d_M_leaf_239 : decode b_M_leaf 239 = .ok (.invokevirtual 100, 3) := by decide +kernel
theorem d_M_leaf_242 : decode b_M_leaf 242 = .ok (.ifCond .eq 26, 3) := by decide +kernel
theorem d_M_leaf_245 : decode b_M_leaf 245 = .ok (.aload_n 0, 1) := by decide +kernel
theorem d_M_leaf_246 : decode b_M_leaf 246 = .ok (.getfield 54, 3) := by decide +kernel
theorem d_M_leaf_249 : decode b_M_leaf 249 = .ok (.aload_n 0, 1) := by decide +kernel
theorem d_M_leaf_250 : decode b_M_leaf 250 = .ok (.getfield 57, 3) := by decide +kernel
theorem d_M_leaf_253 : decode b_M_leaf 253 = .ok (.iconst 1, 1) := by decide +kernel
theorem d_M_leaf_254 : decode b_M_leaf 254 = .ok (.isub, 1) := by decide +kernel
theorem d_M_leaf_255 : decode b_M_leaf 255 = .ok (.iaload, 1) := by decide +kernel
theorem d_M_leaf_256 : decode b_M_leaf 256 = .ok (.bipush 8, 2) := by decide +kernel
theorem d_M_leaf_258 : decode b_M_leaf 258 = .ok (.if_icmp .ge 10, 3) := by decide +kernel
theorem d_M_leaf_261 : decode b_M_leaf 261 = .ok (.aload_n 0, 1) := by decide +kernel
theorem d_M_leaf_262 : decode b_M_leaf 262 = .ok (.iload 5, 2) := by decide +kernel
theorem d_M_leaf_264 : decode b_M_leaf 264 = .ok (.iload_n 2, 1) := by decide +kernel
theorem d_M_leaf_265 : decode b_M_leaf 265 = .ok (.invokevirtual 104, 3) := by decide +kernel
theorem d_M_leaf_268 : decode b_M_leaf 268 = .ok (.iinc 5 1, 3) := by decide +kernel
theorem d_M_leaf_271 : decode b_M_leaf 271 = .ok (.goto (-46), 3) := by decide +kernel
theorem d_M_leaf_274 : decode b_M_leaf 274 = .ok (.return_, 1) := by decide +kernel
theorem d_M_stay_0 : decode b_M_stay 0 = .ok (.aload_n 0, 1) := by decide +kernel
theorem d_M_stay_1 : decode b_M_stay 1 = .ok (.getfield 57, 3) := by decide +kernel
theorem d_M_stay_4 : decode b_M_stay 4 = .ok (.iconst 1, 1) := by decide +kernel
theorem d_M_stay_5 : decode b_M_stay 5 = .ok (.isub, 1) := by decide +kernel
theorem d_M_stay_6 : decode b_M_stay 6 = .ok (.istore_n 3, 1) := by decide +kernel
theorem d_M_stay_7 : decode b_M_stay 7 = .ok (.iload_n 3, 1) := by decide +kernel
theorem d_M_stay_8 : decode b_M_stay 8 = .ok (.sipush 384, 3) := by decide +kernel
theorem d_M_stay_11 : decode b_M_stay 11 = .ok (.imul, 1) := by decide +kernel
theorem d_M_stay_12 : decode b_M_stay 12 = .ok (.aload_n 0, 1) := by decide +kernel
theorem d_M_stay_13 : decode b_M_stay 13 = .ok (.getfield 54, 3) := by decide +kernel
theorem d_M_stay_16 : decode b_M_stay 16 = .ok (.iload_n 3, 1) := by decide +kernel
theorem d_M_stay_17 : decode b_M_stay 17 = .ok (.iaload, 1) := by decide +kernel
theorem d_M_stay_18 : decode b_M_stay 18 = .ok (.bipush 6, 2) := by decide +kernel
theorem d_M_stay_20 : decode b_M_stay 20 = .ok (.imul, 1) := by decide +kernel
theorem d_M_stay_21 : decode b_M_stay 21 = .ok (.iadd, 1) := by decide +kernel
theorem d_M_stay_22 : decode b_M_stay 22 = .ok (.istore 4, 2) := by decide +kernel
theorem d_M_stay_24 : decode b_M_stay 24 = .ok (.aload_n 0, 1) := by decide +kernel
theorem d_M_stay_25 : decode b_M_stay 25 = .ok (.getfield 51, 3) := by decide +kernel
theorem d_M_stay_28 : decode b_M_stay 28 = .ok (.iload 4, 2) := by decide +kernel
theorem d_M_stay_30 : decode b_M_stay 30 = .ok (.iload_n 1, 1) := by decide +kernel
theorem d_M_stay_31 : decode b_M_stay 31 = .ok (.iastore, 1) := by decide +kernel
theorem d_M_stay_32 : decode b_M_stay 32 = .ok (.iconst 1, 1) := by decide +kernel
theorem d_M_stay_33 : decode b_M_stay 33 = .ok (.istore 5, 2) := by decide +kernel
theorem d_M_stay_35 : decode b_M_stay 35 = .ok (.iload 5, 2) := by decide +kernel
theorem d_M_stay_37 : decode b_M_stay 37 = .ok (.iconst 5, 1) := by decide +kernel
theorem d_M_stay_38 : decode b_M_stay 38 = .ok (.if_icmp .ge 32, 3) := by decide +kernel
theorem d_M_stay_41 : decode b_M_stay 41 = .ok (.aload_n 0, 1) := by decide +kernel
theorem d_M_stay_42 : decode b_M_stay 42 = .ok (.getfield 51, 3) := by decide +kernel
theorem d_M_stay_45 : decode b_M_stay 45 = .ok (.iload 4, 2) := by decide +kernel
theorem d_M_stay_47 : decode b_M_stay 47 = .ok (.iconst 1, 1) := by decide +kernel
theorem d_M_stay_48 : decode b_M_stay 48 = .ok (.iadd, 1) := by decide +kernel
theorem d_M_stay_49 : decode b_M_stay 49 = .ok (.iload 5, 2) := by decide +kernel
theorem d_M_stay_51 : decode b_M_stay 51 = .ok (.iadd, 1) := by decide +kernel
theorem d_M_stay_52 : decode b_M_stay 52 = .ok (.aload_n 0, 1) := by decide +kernel
theorem d_M_stay_53 : decode b_M_stay 53 = .ok (.getfield 69, 3) := by decide +kernel
theorem d_M_stay_56 : decode b_M_stay 56 = .ok (.iload_n 3, 1) := by decide +kernel
theorem d_M_stay_57 : decode b_M_stay 57 = .ok (.iconst 5, 1) := by decide +kernel
theorem d_M_stay_58 : decode b_M_stay 58 = .ok (.imul, 1) := by decide +kernel
theorem d_M_stay_59 : decode b_M_stay 59 = .ok (.iload 5, 2) := by decide +kernel
theorem d_M_stay_61 : decode b_M_stay 61 = .ok (.iadd, 1) := by decide +kernel
theorem d_M_stay_62 : decode b_M_stay 62 = .ok (.iaload, 1) := by decide +kernel
theorem d_M_stay_63 : decode b_M_stay 63 = .ok (.iastore, 1) := by decide +kernel
theorem d_M_stay_64 : decode b_M_stay 64 = .ok (.iinc 5 1, 3) := by decide +kernel
theorem d_M_stay_67 : decode b_M_stay 67 = .ok (.goto (-32), 3) := by decide +kernel
theorem d_M_stay_70 : decode b_M_stay 70 = .ok (.aload_n 0, 1) := by decide +kernel
theorem d_M_stay_71 : decode b_M_stay 71 = .ok (.getfield 51, 3) := by decide +kernel
theorem d_M_stay_74 : decode b_M_stay 74 = .ok (.iload 4, 2) := by decide +kernel
theorem d_M_stay_76 : decode b_M_stay 76 = .ok (.iconst 1, 1) := by decide +kernel
theorem d_M_stay_77 : decode b_M_stay 77 = .ok (.iadd, 1) := by decide +kernel
theorem d_M_stay_78 : decode b_M_stay 78 = .ok (.iload_n 2, 1) := by decide +kernel
theorem d_M_stay_79 : decode b_M_stay 79 = .ok (.iastore, 1) := by decide +kernel
theorem d_M_stay_80 : decode b_M_stay 80 = .ok (.aload_n 0, 1) := by decide +kernel
theorem d_M_stay_81 : decode b_M_stay 81 = .ok (.getfield 54, 3) := by decide +kernel
theorem d_M_stay_84 : decode b_M_stay 84 = .ok (.iload_n 3, 1) := by decide +kernel
theorem d_M_stay_85 : decode b_M_stay 85 = .ok (.dup2, 1) := by decide +kernel
theorem d_M_stay_86 : decode b_M_stay 86 = .ok (.iaload, 1) := by decide +kernel
theorem d_M_stay_87 : decode b_M_stay 87 = .ok (.iconst 1, 1) := by decide +kernel
theorem d_M_stay_88 : decode b_M_stay 88 = .ok (.iadd, 1) := by decide +kernel
theorem d_M_stay_89 : decode b_M_stay 89 = .ok (.iastore, 1) := by decide +kernel
theorem d_M_stay_90 : decode b_M_stay 90 = .ok (.return_, 1) := by decide +kernel
theorem d_M_isOf_0 : decode b_M_isOf 0 = .ok (.iload_n 2, 1) := by decide +kernel
theorem d_M_isOf_1 : decode b_M_isOf 1 = .ok (.aload_n 0, 1) := by decide +kernel
theorem d_M_isOf_2 : decode b_M_isOf 2 = .ok (.getfield 7, 3) := by decide +kernel
theorem d_M_isOf_5 : decode b_M_isOf 5 = .ok (.if_icmp .lt 5, 3) := by decide +kernel
theorem d_M_isOf_8 : decode b_M_isOf 8 = .ok (.iconst 0, 1) := by decide +kernel
theorem d_M_isOf_9 : decode b_M_isOf 9 = .ok (.ireturn, 1) := by decide +kernel
theorem d_M_isOf_10 : decode b_M_isOf 10 = .ok (.aload_n 0, 1) := by decide +kernel
theorem d_M_isOf_11 : decode b_M_isOf 11 = .ok (.getfield 22, 3) := by decide +kernel
theorem d_M_isOf_14 : decode b_M_isOf 14 = .ok (.iload_n 2, 1) := by decide +kernel
theorem d_M_isOf_15 : decode b_M_isOf 15 = .ok (.iaload, 1) := by decide +kernel
theorem d_M_isOf_16 : decode b_M_isOf 16 = .ok (.istore_n 3, 1) := by decide +kernel
theorem d_M_isOf_17 : decode b_M_isOf 17 = .ok (.iload_n 3, 1) := by decide +kernel
theorem d_M_isOf_18 : decode b_M_isOf 18 = .ok (.bipush 47, 2) := by decide +kernel
theorem d_M_isOf_20 : decode b_M_isOf 20 = .ok (.if_icmp .le 13, 3) := by decide +kernel
theorem d_M_isOf_23 : decode b_M_isOf 23 = .ok (.iload_n 3, 1) := by decide +kernel
theorem d_M_isOf_24 : decode b_M_isOf 24 = .ok (.bipush 58, 2) := by decide +kernel
theorem d_M_isOf_26 : decode b_M_isOf 26 = .ok (.if_icmp .ge 7, 3) := by decide +kernel
theorem d_M_isOf_29 : decode b_M_isOf 29 = .ok (.iconst 1, 1) := by decide +kernel
theorem d_M_isOf_30 : decode b_M_isOf 30 = .ok (.goto 4, 3) := by decide +kernel
theorem d_M_isOf_33 : decode b_M_isOf 33 = .ok (.iconst 0, 1) := by decide +kernel
theorem d_M_isOf_34 : decode b_M_isOf 34 = .ok (.istore 4, 2) := by decide +kernel
theorem d_M_isOf_36 : decode b_M_isOf 36 = .ok (.iload_n 3, 1) := by decide +kernel
theorem d_M_isOf_37 : decode b_M_isOf 37 = .ok (.bipush 96, 2) := by decide +kernel
theorem d_M_isOf_39 : decode b_M_isOf 39 = .ok (.if_icmp .le 13, 3) := by decide +kernel
theorem d_M_isOf_42 : decode b_M_isOf 42 = .ok (.iload_n 3, 1) := by decide +kernel
theorem d_M_isOf_43 : decode b_M_isOf 43 = .ok (.bipush 123, 2) := by decide +kernel
theorem d_M_isOf_45 : decode b_M_isOf 45 = .ok (.if_icmp .ge 7, 3) := by decide +kernel
theorem d_M_isOf_48 : decode b_M_isOf 48 = .ok (.iconst 1, 1) := by decide +kernel
theorem d_M_isOf_49 : decode b_M_isOf 49 = .ok (.goto 4, 3) := by decide +kernel
theorem d_M_isOf_52 : decode b_M_isOf 52 = .ok (.iconst 0, 1) := by decide +kernel
theorem d_M_isOf_53 : decode b_M_isOf 53 = .ok (.istore 5, 2) := by decide +kernel
theorem d_M_isOf_55 : decode b_M_isOf 55 = .ok (.iload_n 1, 1) := by decide +kernel
theorem d_M_isOf_56 : decode b_M_isOf 56 = .ok (.ifCond .ne 8, 3) := by decide +kernel
theorem d_M_isOf_59 : decode b_M_isOf 59 = .ok (.iload 4, 2) := by decide +kernel
theorem d_M_isOf_61 : decode b_M_isOf 61 = .ok (.goto 80, 3) := by decide +kernel
theorem d_M_isOf_64 : decode b_M_isOf 64 = .ok (.iload_n 1, 1) := by decide +kernel
theorem d_M_isOf_65 : decode b_M_isOf 65 = .ok (.iconst 1, 1) := by decide +kernel
theorem d_M_isOf_66 : decode b_M_isOf 66 = .ok (.if_icmp .ne 8, 3) := by decide +kernel
theorem d_M_isOf_69 : decode b_M_isOf 69 = .ok (.iload 5, 2) := by decide +kernel
theorem d_M_isOf_71 : decode b_M_isOf 71 = .ok (.goto 70, 3) := by decide +kernel
theorem d_M_isOf_74 : decode b_M_isOf 74 = .ok (.iload_n 1, 1) := by decide +kernel
theorem d_M_isOf_75 : decode b_M_isOf 75 = .ok (.iconst 2, 1) := by decide +kernel
theorem d_M_isOf_76 : decode b_M_isOf 76 = .ok (.if_icmp .ne 21, 3) := by decide +kernel
theorem d_M_isOf_79 : decode b_M_isOf 79 = .ok (.iload 4, 2) := by decide +kernel
theorem d_M_isOf_81 : decode b_M_isOf 81 = .ok (.ifCond .ne 8, 3) := by decide +kernel
theorem d_M_isOf_84 : decode b_M_isOf 84 = .ok (.iload 5, 2) := by decide +kernel
theorem d_M_isOf_86 : decode b_M_isOf 86 = .ok (.ifCond .eq 7, 3) := by decide +kernel
theorem d_M_isOf_89 : decode b_M_isOf 89 = .ok (.iconst 1, 1) := by decide +kernel
theorem d_M_isOf_90 : decode b_M_isOf 90 = .ok (.goto 51, 3) := by decide +kernel
theorem d_M_isOf_93 : decode b_M_isOf 93 = .ok (.iconst 0, 1) := by decide +kernel
theorem d_M_isOf_94 : decode b_M_isOf 94 = .ok (.goto 47, 3) := by decide +kernel
theorem d_M_isOf_97 : decode b_M_isOf 97 = .ok (.iload_n 1, 1) := by decide +kernel
theorem d_M_isOf_98 : decode b_M_isOf 98 = .ok (.iconst 3, 1) := by decide +kernel
theorem d_M_isOf_99 : decode b_M_isOf 99 = .ok (.if_icmp .ne 23, 3) := by decide +kernel
theorem d_M_isOf_102 : decode b_M_isOf 102 = .ok (.iload_n 3, 1) := by decide +kernel
theorem d_M_isOf_103 : decode b_M_isOf 103 = .ok (.bipush 32, 2) := by decide +kernel
theorem d_M_isOf_105 : decode b_M_isOf 105 = .ok (.if_icmp .eq 9, 3) := by decide +kernel
theorem d_M_isOf_108 : decode b_M_isOf 108 = .ok (.iload_n 3, 1) := by decide +kernel
theorem d_M_isOf_109 : decode b_M_isOf 109 = .ok (.bipush 9, 2) := by decide +kernel
theorem d_M_isOf_111 : decode b_M_isOf 111 = .ok (.if_icmp .ne 7, 3) := by decide +kernel
theorem d_M_isOf_114 : decode b_M_isOf 114 = .ok (.iconst 1, 1) := by decide +kernel
theorem d_M_isOf_115 : decode b_M_isOf 115 = .ok (.goto 26, 3) := by decide +kernel
theorem d_M_isOf_118 : decode b_M_isOf 118 = .ok (.iconst 0, 1) := by decide +kernel
theorem d_M_isOf_119 : decode b_M_isOf 119 = .ok (.goto 22, 3) := by decide +kernel
theorem d_M_isOf_122 : decode b_M_isOf 122 = .ok (.iload_n 1, 1) := by decide +kernel
theorem d_M_isOf_123 : decode b_M_isOf 123 = .ok (.iconst 4, 1) := by decide +kernel
theorem d_M_isOf_124 : decode b_M_isOf 124 = .ok (.if_icmp .eq 12, 3) := by decide +kernel
theorem d_M_isOf_127 : decode b_M_isOf 127 = .ok (.iload_n 3, 1) := by decide +kernel
theorem d_M_isOf_128 : decode b_M_isOf 128 = .ok (.iload_n 1, 1) := by decide +kernel
theorem d_M_isOf_129 : decode b_M_isOf 129 = .ok (.sipush 256, 3) := by decide +kernel
theorem d_M_isOf_132 : decode b_M_isOf 132 = .ok (.isub, 1) := by decide +kernel
theorem d_M_isOf_133 : decode b_M_isOf 133 = .ok (.if_icmp .ne 7, 3) := by decide +kernel
theorem d_M_isOf_136 : decode b_M_isOf 136 = .ok (.iconst 1, 1) := by decide +kernel
theorem d_M_isOf_137 : decode b_M_isOf 137 = .ok (.goto 4, 3) := by decide +kernel
theorem d_M_isOf_140 : decode b_M_isOf 140 = .ok (.iconst 0, 1) := by decide +kernel
theorem d_M_isOf_141 : decode b_M_isOf 141 = .ok (.ireturn, 1) := by decide +kernel
theorem d_M_runFrom_0 : decode b_M_runFrom 0 = .ok (.iload_n 2, 1) := by decide +kernel
theorem d_M_runFrom_1 : decode b_M_runFrom 1 = .ok (.istore 4, 2) := by decide +kernel
theorem d_M_runFrom_3 : decode b_M_runFrom 3 = .ok (.iload 4, 2) := by decide +kernel
theorem d_M_runFrom_5 : decode b_M_runFrom 5 = .ok (.iload_n 2, 1) := by decide +kernel
theorem d_M_runFrom_6 : decode b_M_runFrom 6 = .ok (.isub, 1) := by decide +kernel
theorem d_M_runFrom_7 : decode b_M_runFrom 7 = .ok (.iload_n 3, 1) := by decide +kernel
theorem d_M_runFrom_8 : decode b_M_runFrom 8 = .ok (.if_icmp .ge 19, 3) := by decide +kernel
theorem d_M_runFrom_11 : decode b_M_runFrom 11 = .ok (.aload_n 0, 1) := by decide +kernel
theorem d_M_runFrom_12 : decode b_M_runFrom 12 = .ok (.iload_n 1, 1) := by decide +kernel
theorem d_M_runFrom_13 : decode b_M_runFrom 13 = .ok (.iload 4, 2) := by decide +kernel
theorem d_M_runFrom_15 : decode b_M_runFrom 15 = .ok (.invokevirtual 100, 3) := by decide +kernel
theorem d_M_runFrom_18 : decode b_M_runFrom 18 = .ok (.ifCond .eq 9, 3) := by decide +kernel
theorem d_M_runFrom_21 : decode b_M_runFrom 21 = .ok (.iinc 4 1, 3) := by decide +kernel
theorem d_M_runFrom_24 : decode b_M_runFrom 24 = .ok (.goto (-21), 3) := by decide +kernel
theorem d_M_runFrom_27 : decode b_M_runFrom 27 = .ok (.iload 4, 2) := by decide +kernel
theorem d_M_runFrom_29 : decode b_M_runFrom 29 = .ok (.ireturn, 1) := by decide +kernel
theorem d_M_stepOr_0 : decode b_M_stepOr 0 = .ok (.aload_n 0, 1) := by decide +kernel
theorem d_M_stepOr_1 : decode b_M_stepOr 1 = .ok (.getfield 63, 3) := by decide +kernel
theorem d_M_stepOr_4 : decode b_M_stepOr 4 = .ok (.aload_n 0, 1) := by decide +kernel
theorem d_M_stepOr_5 : decode b_M_stepOr 5 = .ok (.getfield 57, 3) := by decide +kernel
theorem d_M_stepOr_8 : decode b_M_stepOr 8 = .ok (.iconst 1, 1) := by decide +kernel
theorem d_M_stepOr_9 : decode b_M_stepOr 9 = .ok (.isub, 1) := by decide +kernel
theorem d_M_stepOr_10 : decode b_M_stepOr 10 = .ok (.iaload, 1) := by decide +kernel
theorem d_M_stepOr_11 : decode b_M_stepOr 11 = .ok (.istore_n 2, 1) := by decide +kernel
theorem d_M_stepOr_12 : decode b_M_stepOr 12 = .ok (.aload_n 0, 1) := by decide +kernel
theorem d_M_stepOr_13 : decode b_M_stepOr 13 = .ok (.getfield 63, 3) := by decide +kernel
theorem d_M_stepOr_16 : decode b_M_stepOr 16 = .ok (.aload_n 0, 1) := by decide +kernel
theorem d_M_stepOr_17 : decode b_M_stepOr 17 = .ok (.getfield 57, 3) := by decide +kernel
theorem d_M_stepOr_20 : decode b_M_stepOr 20 = .ok (.iconst 1, 1) := by decide +kernel
theorem d_M_stepOr_21 : decode b_M_stepOr 21 = .ok (.isub, 1) := by decide +kernel
theorem d_M_stepOr_22 : decode b_M_stepOr 22 = .ok (.dup2, 1) := by decide +kernel
theorem d_M_stepOr_23 : decode b_M_stepOr 23 = .ok (.iaload, 1) := by decide +kernel
theorem d_M_stepOr_24 : decode b_M_stepOr 24 = .ok (.iconst 1, 1) := by decide +kernel
theorem d_M_stepOr_25 : decode b_M_stepOr 25 = .ok (.iadd, 1) := by decide +kernel
theorem d_M_stepOr_26 : decode b_M_stepOr 26 = .ok (.iastore, 1) := by decide +kernel
theorem d_M_stepOr_27 : decode b_M_stepOr 27 = .ok (.iload_n 2, 1) := by decide +kernel
theorem d_M_stepOr_28 : decode b_M_stepOr 28 = .ok (.ifCond .le 7, 3) := by decide +kernel
theorem d_M_stepOr_31 : decode b_M_stepOr 31 = .ok (.aload_n 0, 1) := by decide +kernel
theorem d_M_stepOr_32 : decode b_M_stepOr 32 = .ok (.invokevirtual 122, 3) := by decide +kernel
theorem d_M_stepOr_35 : decode b_M_stepOr 35 = .ok (.iload_n 2, 1) := by decide +kernel
theorem d_M_stepOr_36 : decode b_M_stepOr 36 = .ok (.iconst 2, 1) := by decide +kernel
theorem d_M_stepOr_37 : decode b_M_stepOr 37 = .ok (.if_icmp .ge 30, 3) := by decide +kernel
theorem d_M_stepOr_40 : decode b_M_stepOr 40 = .ok (.aload_n 0, 1) := by decide +kernel
theorem d_M_stepOr_41 : decode b_M_stepOr 41 = .ok (.iload_n 2, 1) := by decide +kernel
theorem d_M_stepOr_42 : decode b_M_stepOr 42 = .ok (.ifCond .ne 12, 3) := by decide +kernel
theorem d_M_stepOr_45 : decode b_M_stepOr 45 = .ok (.aload_n 0, 1) := by decide +kernel
theorem d_M_stepOr_46 : decode b_M_stepOr 46 = .ok (.getfield 29, 3) := by decide +kernel
theorem d_M_stepOr_49 : decode b_M_stepOr 49 = .ok (.iload_n 1, 1) := by decide +kernel
theorem d_M_stepOr_50 : decode b_M_stepOr 50 = .ok (.iaload, 1) := by decide +kernel
theorem d_M_stepOr_51 : decode b_M_stepOr 51 = .ok (.goto 9, 3) := by decide +kernel
