theorem d_G_init_0 : decode b_G_init 0 = .ok (.aload_n 0, 1) := by decide +kernel
theorem d_G_init_1 : decode b_G_init 1 = .ok (.invokespecial 3, 3) := by decide +kernel
theorem d_G_init_4 : decode b_G_init 4 = .ok (.aload_n 0, 1) := by decide +kernel
theorem d_G_init_5 : decode b_G_init 5 = .ok (.new 9, 3) := by decide +kernel
theorem d_G_init_8 : decode b_G_init 8 = .ok (.dup, 1) := by decide +kernel
theorem d_G_init_9 : decode b_G_init 9 = .ok (.invokespecial 11, 3) := by decide +kernel
theorem d_G_init_12 : decode b_G_init 12 = .ok (.putfield 12, 3) := by decide +kernel
theorem d_G_init_15 : decode b_G_init 15 = .ok (.aload_n 0, 1) := by decide +kernel
theorem d_G_init_16 : decode b_G_init 16 = .ok (.bipush 60, 2) := by decide +kernel
theorem d_G_init_18 : decode b_G_init 18 = .ok (.anewarray 16, 3) := by decide +kernel
theorem d_G_init_21 : decode b_G_init 21 = .ok (.putfield 18, 3) := by decide +kernel
theorem d_G_init_24 : decode b_G_init 24 = .ok (.iconst 0, 1) := by decide +kernel
theorem d_G_init_25 : decode b_G_init 25 = .ok (.istore_n 1, 1) := by decide +kernel
theorem d_G_init_26 : decode b_G_init 26 = .ok (.iload_n 1, 1) := by decide +kernel
theorem d_G_init_27 : decode b_G_init 27 = .ok (.bipush 60, 2) := by decide +kernel
theorem d_G_init_29 : decode b_G_init 29 = .ok (.if_icmp .ge 22, 3) := by decide +kernel
theorem d_G_init_32 : decode b_G_init 32 = .ok (.aload_n 0, 1) := by decide +kernel
theorem d_G_init_33 : decode b_G_init 33 = .ok (.getfield 18, 3) := by decide +kernel
theorem d_G_init_36 : decode b_G_init 36 = .ok (.iload_n 1, 1) := by decide +kernel
theorem d_G_init_37 : decode b_G_init 37 = .ok (.new 16, 3) := by decide +kernel
theorem d_G_init_40 : decode b_G_init 40 = .ok (.dup, 1) := by decide +kernel
theorem d_G_init_41 : decode b_G_init 41 = .ok (.invokespecial 22, 3) := by decide +kernel
theorem d_G_init_44 : decode b_G_init 44 = .ok (.aastore, 1) := by decide +kernel
theorem d_G_init_45 : decode b_G_init 45 = .ok (.iinc 1 1, 3) := by decide +kernel
theorem d_G_init_48 : decode b_G_init 48 = .ok (.goto (-22), 3) := by decide +kernel
theorem d_G_init_51 : decode b_G_init 51 = .ok (.aload_n 0, 1) := by decide +kernel
theorem d_G_init_52 : decode b_G_init 52 = .ok (.new 23, 3) := by decide +kernel
theorem d_G_init_55 : decode b_G_init 55 = .ok (.dup, 1) := by decide +kernel
theorem d_G_init_56 : decode b_G_init 56 = .ok (.sipush 1025, 3) := by decide +kernel
theorem d_G_init_59 : decode b_G_init 59 = .ok (.invokespecial 25, 3) := by decide +kernel
theorem d_G_init_62 : decode b_G_init 62 = .ok (.putfield 28, 3) := by decide +kernel
theorem d_G_init_65 : decode b_G_init 65 = .ok (.aload_n 0, 1) := by decide +kernel
theorem d_G_init_66 : decode b_G_init 66 = .ok (.new 23, 3) := by decide +kernel
theorem d_G_init_69 : decode b_G_init 69 = .ok (.dup, 1) := by decide +kernel
theorem d_G_init_70 : decode b_G_init 70 = .ok (.bipush 64, 2) := by decide +kernel
theorem d_G_init_72 : decode b_G_init 72 = .ok (.invokespecial 25, 3) := by decide +kernel
theorem d_G_init_75 : decode b_G_init 75 = .ok (.putfield 32, 3) := by decide +kernel
theorem d_G_init_78 : decode b_G_init 78 = .ok (.return_, 1) := by decide +kernel
theorem d_T_init_0 : decode b_T_init 0 = .ok (.aload_n 0, 1) := by decide +kernel
theorem d_T_init_1 : decode b_T_init 1 = .ok (.invokespecial 3, 3) := by decide +kernel
theorem d_T_init_4 : decode b_T_init 4 = .ok (.aload_n 0, 1) := by decide +kernel
theorem d_T_init_5 : decode b_T_init 5 = .ok (.bipush 24, 2) := by decide +kernel
theorem d_T_init_7 : decode b_T_init 7 = .ok (.newarray .int, 2) := by decide +kernel
theorem d_T_init_9 : decode b_T_init 9 = .ok (.putfield 9, 3) := by decide +kernel
theorem d_T_init_12 : decode b_T_init 12 = .ok (.return_, 1) := by decide +kernel
theorem d_N_init_0 : decode b_N_init 0 = .ok (.aload_n 0, 1) := by decide +kernel
theorem d_N_init_1 : decode b_N_init 1 = .ok (.invokespecial 1, 3) := by decide +kernel
theorem d_N_init_4 : decode b_N_init 4 = .ok (.return_, 1) := by decide +kernel
theorem d_R_init_0 : decode b_R_init 0 = .ok (.aload_n 0, 1) := by decide +kernel
theorem d_R_init_1 : decode b_R_init 1 = .ok (.invokespecial 5, 3) := by decide +kernel
theorem d_R_init_4 : decode b_R_init 4 = .ok (.aload_n 0, 1) := by decide +kernel
theorem d_R_init_5 : decode b_R_init 5 = .ok (.iload_n 1, 1) := by decide +kernel
theorem d_R_init_6 : decode b_R_init 6 = .ok (.bipush 6, 2) := by decide +kernel
theorem d_R_init_8 : decode b_R_init 8 = .ok (.imul, 1) := by decide +kernel
theorem d_R_init_9 : decode b_R_init 9 = .ok (.newarray .int, 2) := by decide +kernel
theorem d_R_init_11 : decode b_R_init 11 = .ok (.putfield 11, 3) := by decide +kernel
theorem d_R_init_14 : decode b_R_init 14 = .ok (.aload_n 0, 1) := by decide +kernel
theorem d_R_init_15 : decode b_R_init 15 = .ok (.iload_n 1, 1) := by decide +kernel
theorem d_R_init_16 : decode b_R_init 16 = .ok (.putfield 15, 3) := by decide +kernel
theorem d_R_init_19 : decode b_R_init 19 = .ok (.return_, 1) := by decide +kernel
theorem d_G_type_0 : decode b_G_type 0 = .ok (.iload_n 1, 1) := by decide +kernel
theorem d_G_type_1 : decode b_G_type 1 = .ok (.ifCond .lt 22, 3) := by decide +kernel
theorem d_G_type_4 : decode b_G_type 4 = .ok (.iload_n 1, 1) := by decide +kernel
theorem d_G_type_5 : decode b_G_type 5 = .ok (.sipush 255, 3) := by decide +kernel
theorem d_G_type_8 : decode b_G_type 8 = .ok (.if_icmp .gt 15, 3) := by decide +kernel
theorem d_G_type_11 : decode b_G_type 11 = .ok (.aload_n 0, 1) := by decide +kernel
theorem d_G_type_12 : decode b_G_type 12 = .ok (.getfield 12, 3) := by decide +kernel
theorem d_G_type_15 : decode b_G_type 15 = .ok (.getfield 35, 3) := by decide +kernel
theorem d_G_type_18 : decode b_G_type 18 = .ok (.bipush 24, 2) := by decide +kernel
theorem d_G_type_20 : decode b_G_type 20 = .ok (.if_icmp .lt 5, 3) := by decide +kernel
theorem d_G_type_23 : decode b_G_type 23 = .ok (.iconst (-1), 1) := by decide +kernel
theorem d_G_type_24 : decode b_G_type 24 = .ok (.ireturn, 1) := by decide +kernel
theorem d_G_type_25 : decode b_G_type 25 = .ok (.aload_n 0, 1) := by decide +kernel
theorem d_G_type_26 : decode b_G_type 26 = .ok (.getfield 12, 3) := by decide +kernel
theorem d_G_type_29 : decode b_G_type 29 = .ok (.iload_n 1, 1) := by decide +kernel
theorem d_G_type_30 : decode b_G_type 30 = .ok (.invokevirtual 39, 3) := by decide +kernel
theorem d_G_type_33 : decode b_G_type 33 = .ok (.aload_n 0, 1) := by decide +kernel
theorem d_G_type_34 : decode b_G_type 34 = .ok (.getfield 12, 3) := by decide +kernel
theorem d_G_type_37 : decode b_G_type 37 = .ok (.getfield 35, 3) := by decide +kernel
theorem d_G_type_40 : decode b_G_type 40 = .ok (.ireturn, 1) := by decide +kernel
theorem d_T_append_0 : decode b_T_append 0 = .ok (.aload_n 0, 1) := by decide +kernel
theorem d_T_append_1 : decode b_T_append 1 = .ok (.getfield 9, 3) := by decide +kernel
theorem d_T_append_4 : decode b_T_append 4 = .ok (.aload_n 0, 1) := by decide +kernel
theorem d_T_append_5 : decode b_T_append 5 = .ok (.getfield 15, 3) := by decide +kernel
theorem d_T_append_8 : decode b_T_append 8 = .ok (.iload_n 1, 1) := by decide +kernel
theorem d_T_append_9 : decode b_T_append 9 = .ok (.iastore, 1) := by decide +kernel
theorem d_T_append_10 : decode b_T_append 10 = .ok (.aload_n 0, 1) := by decide +kernel
theorem d_T_append_11 : decode b_T_append 11 = .ok (.dup, 1) := by decide +kernel
theorem d_T_append_12 : decode b_T_append 12 = .ok (.getfield 15, 3) := by decide +kernel
theorem d_T_append_15 : decode b_T_append 15 = .ok (.iconst 1, 1) := by decide +kernel
theorem d_T_append_16 : decode b_T_append 16 = .ok (.iadd, 1) := by decide +kernel
theorem d_T_append_17 : decode b_T_append 17 = .ok (.putfield 15, 3) := by decide +kernel
theorem d_T_append_20 : decode b_T_append 20 = .ok (.return_, 1) := by decide +kernel
theorem d_G_wipe_0 : decode b_G_wipe 0 = .ok (.aload_n 0, 1) := by decide +kernel
theorem d_G_wipe_1 : decode b_G_wipe 1 = .ok (.getfield 12, 3) := by decide +kernel
theorem d_G_wipe_4 : decode b_G_wipe 4 = .ok (.getfield 35, 3) := by decide +kernel
theorem d_G_wipe_7 : decode b_G_wipe 7 = .ok (.istore_n 1, 1) := by decide +kernel
theorem d_G_wipe_8 : decode b_G_wipe 8 = .ok (.aload_n 0, 1) := by decide +kernel
theorem d_G_wipe_9 : decode b_G_wipe 9 = .ok (.getfield 12, 3) := by decide +kernel
theorem d_G_wipe_12 : decode b_G_wipe 12 = .ok (.iconst 0, 1) := by decide +kernel
theorem d_G_wipe_13 : decode b_G_wipe 13 = .ok (.putfield 35, 3) := by decide +kernel
theorem d_G_wipe_16 : decode b_G_wipe 16 = .ok (.iload_n 1, 1) := by decide +kernel
theorem d_G_wipe_17 : decode b_G_wipe 17 = .ok (.ireturn, 1) := by decide +kernel
theorem d_G_node_0 : decode b_G_node 0 = .ok (.iload_n 1, 1) := by decide +kernel
theorem d_G_node_1 : decode b_G_node 1 = .ok (.ifCond .lt 18, 3) := by decide +kernel
theorem d_G_node_4 : decode b_G_node 4 = .ok (.iload_n 1, 1) := by decide +kernel
theorem d_G_node_5 : decode b_G_node 5 = .ok (.bipush 21, 2) := by decide +kernel
theorem d_G_node_7 : decode b_G_node 7 = .ok (.if_icmp .gt 12, 3) := by decide +kernel
theorem d_G_node_10 : decode b_G_node 10 = .ok (.aload_n 0, 1) := by decide +kernel
theorem d_G_node_11 : decode b_G_node 11 = .ok (.getfield 42, 3) := by decide +kernel
theorem d_G_node_14 : decode b_G_node 14 = .ok (.bipush 60, 2) := by decide +kernel
theorem d_G_node_16 : decode b_G_node 16 = .ok (.if_icmp .lt 5, 3) := by decide +kernel
theorem d_G_node_19 : decode b_G_node 19 = .ok (.iconst (-1), 1) := by decide +kernel
theorem d_G_node_20 : decode b_G_node 20 = .ok (.ireturn, 1) := by decide +kernel
theorem d_G_node_21 : decode b_G_node 21 = .ok (.iload_n 1, 1) := by decide +kernel
theorem d_G_node_22 : decode b_G_node 22 = .ok (.iload_n 2, 1) := by decide +kernel
theorem d_G_node_23 : decode b_G_node 23 = .ok (.invokestatic 45, 3) := by decide +kernel
theorem d_G_node_26 : decode b_G_node 26 = .ok (.ifCond .eq 19, 3) := by decide +kernel
theorem d_G_node_29 : decode b_G_node 29 = .ok (.aload_n 0, 1) := by decide +kernel
theorem d_G_node_30 : decode b_G_node 30 = .ok (.getstatic 49, 3) := by decide +kernel
theorem d_G_node_33 : decode b_G_node 33 = .ok (.iload_n 1, 1) := by decide +kernel
theorem d_G_node_34 : decode b_G_node 34 = .ok (.iaload, 1) := by decide +kernel
theorem d_G_node_35 : decode b_G_node 35 = .ok (.iload_n 2, 1) := by decide +kernel
theorem d_G_node_36 : decode b_G_node 36 = .ok (.iload_n 3, 1) := by decide +kernel
theorem d_G_node_37 : decode b_G_node 37 = .ok (.iload 4, 2) := by decide +kernel
theorem d_G_node_39 : decode b_G_node 39 = .ok (.invokevirtual 53, 3) := by decide +kernel
theorem d_G_node_42 : decode b_G_node 42 = .ok (.ifCond .ne 5, 3) := by decide +kernel
theorem d_G_node_45 : decode b_G_node 45 = .ok (.iconst (-1), 1) := by decide +kernel
theorem d_G_node_46 : decode b_G_node 46 = .ok (.ireturn, 1) := by decide +kernel
theorem d_G_node_47 : decode b_G_node 47 = .ok (.aload_n 0, 1) := by decide +kernel
theorem d_G_node_48 : decode b_G_node 48 = .ok (.getfield 18, 3) := by decide +kernel
theorem d_G_node_51 : decode b_G_node 51 = .ok (.aload_n 0, 1) := by decide +kernel
theorem d_G_node_52 : decode b_G_node 52 = .ok (.getfield 42, 3) := by decide +kernel
theorem d_G_node_55 : decode b_G_node 55 = .ok (.aaload, 1) := by decide +kernel
theorem d_G_node_56 : decode b_G_node 56 = .ok (.astore 5, 2) := by decide +kernel
theorem d_G_node_58 : decode b_G_node 58 = .ok (.aload 5, 2) := by decide +kernel
theorem d_G_node_60 : decode b_G_node 60 = .ok (.iload_n 1, 1) := by decide +kernel
theorem d_G_node_61 : decode b_G_node 61 = .ok (.iload_n 2, 1) := by decide +kernel
theorem d_G_node_62 : decode b_G_node 62 = .ok (.iload_n 3, 1) := by decide +kernel
theorem d_G_node_63 : decode b_G_node 63 = .ok (.iload 4, 2) := by decide +kernel
theorem d_G_node_65 : decode b_G_node 65 = .ok (.invokevirtual 57, 3) := by decide +kernel
theorem d_G_node_68 : decode b_G_node 68 = .ok (.aload 5, 2) := by decide +kernel
theorem d_G_node_70 : decode b_G_node 70 = .ok (.aload_n 0, 1) := by decide +kernel
theorem d_G_node_71 : decode b_G_node 71 = .ok (.aload 5, 2) := by decide +kernel
theorem d_G_node_73 : decode b_G_node 73 = .ok (.invokevirtual 61, 3) := by decide +kernel
theorem d_G_node_76 : decode b_G_node 76 = .ok (.putfield 65, 3) := by decide +kernel
theorem d_G_node_79 : decode b_G_node 79 = .ok (.aload 5, 2) := by decide +kernel
theorem d_G_node_81 : decode b_G_node 81 = .ok (.aload_n 0, 1) := by decide +kernel
theorem d_G_node_82 : decode b_G_node 82 = .ok (.aload 5, 2) := by decide +kernel
theorem d_G_node_84 : decode b_G_node 84 = .ok (.invokevirtual 68, 3) := by decide +kernel
theorem d_G_node_87 : decode b_G_node 87 = .ok (.putfield 71, 3) := by decide +kernel
theorem d_G_node_90 : decode b_G_node 90 = .ok (.aload 5, 2) := by decide +kernel
theorem d_G_node_92 : decode b_G_node 92 = .ok (.aload_n 0, 1) := by decide +kernel
theorem d_G_node_93 : decode b_G_node 93 = .ok (.aload 5, 2) := by decide +kernel
theorem d_G_node_95 : decode b_G_node 95 = .ok (.invokevirtual 74, 3) := by decide +kernel
theorem d_G_node_98 : decode b_G_node 98 = .ok (.putfield 77, 3) := by decide +kernel
theorem d_G_node_101 : decode b_G_node 101 = .ok (.aload 5, 2) := by decide +kernel
theorem d_G_node_103 : decode b_G_node 103 = .ok (.getfield 65, 3) := by decide +kernel
theorem d_G_node_106 : decode b_G_node 106 = .ok (.bipush 64, 2) := by decide +kernel
theorem d_G_node_108 : decode b_G_node 108 = .ok (.if_icmp .gt 24, 3) := by decide +kernel
theorem d_G_node_111 : decode b_G_node 111 = .ok (.aload 5, 2) := by decide +kernel
theorem d_G_node_113 : decode b_G_node 113 = .ok (.getfield 71, 3) := by decide +kernel
theorem d_G_node_116 : decode b_G_node 116 = .ok (.sipush 2000, 3) := by decide +kernel
theorem d_G_node_119 : decode b_G_node 119 = .ok (.if_icmp .gt 13, 3) := by decide +kernel
theorem d_G_node_122 : decode b_G_node 122 = .ok (.aload 5, 2) := by decide +kernel
theorem d_G_node_124 : decode b_G_node 124 = .ok (.getfield 77, 3) := by decide +kernel
theorem d_G_node_127 : decode b_G_node 127 = .ok (.bipush 8, 2) := by decide +kernel
theorem d_G_node_129 : decode b_G_node 129 = .ok (.if_icmp .le 5, 3) := by decide +kernel
theorem d_G_node_132 : decode b_G_node 132 = .ok (.iconst (-1), 1) := by decide +kernel
theorem d_G_node_133 : decode b_G_node 133 = .ok (.ireturn, 1) := by decide +kernel
theorem d_G_node_134 : decode b_G_node 134 = .ok (.aload_n 0, 1) := by decide +kernel
theorem d_G_node_135 : decode b_G_node 135 = .ok (.aload 5, 2) := by decide +kernel
theorem d_G_node_137 : decode b_G_node 137 = .ok (.invokevirtual 80, 3) := by decide +kernel
theorem d_G_node_140 : decode b_G_node 140 = .ok (.aload_n 0, 1) := by decide +kernel
theorem d_G_node_141 : decode b_G_node 141 = .ok (.dup, 1) := by decide +kernel
theorem d_G_node_142 : decode b_G_node 142 = .ok (.getfield 42, 3) := by decide +kernel
theorem d_G_node_145 : decode b_G_node 145 = .ok (.iconst 1, 1) := by decide +kernel
theorem d_G_node_146 : decode b_G_node 146 = .ok (.iadd, 1) := by decide +kernel
theorem d_G_node_147 : decode b_G_node 147 = .ok (.putfield 42, 3) := by decide +kernel
theorem d_G_node_150 : decode b_G_node 150 = .ok (.aload_n 0, 1) := by decide +kernel
theorem d_G_node_151 : decode b_G_node 151 = .ok (.getfield 42, 3) := by decide +kernel
theorem d_G_node_154 : decode b_G_node 154 = .ok (.iconst 1, 1) := by decide +kernel
theorem d_G_node_155 : decode b_G_node 155 = .ok (.isub, 1) := by decide +kernel
theorem d_G_node_156 : decode b_G_node 156 = .ok (.ireturn, 1) := by decide +kernel
theorem d_G_isPlainOperandFit_0 : decode b_G_isPlainOperandFit 0 = .ok (.iload_n 0, 1) := by decide +kernel
theorem d_G_isPlainOperandFit_1 : decode b_G_isPlainOperandFit 1 = .ok (.tableswitch 114 1 18 #[87, 114, 114, 92, 92, 114, 92, 114, 114, 114, 114, 114, 114, 114, 114, 114, 87, 97], 87) := by decide +kernel
theorem d_G_isPlainOperandFit_88 : decode b_G_isPlainOperandFit 88 = .ok (.iload_n 1, 1) := by decide +kernel
theorem d_G_isPlainOperandFit_89 : decode b_G_isPlainOperandFit 89 = .ok (.invokestatic 101, 3) := by decide +kernel
theorem d_G_isPlainOperandFit_92 : decode b_G_isPlainOperandFit 92 = .ok (.ireturn, 1) := by decide +kernel
theorem d_G_isPlainOperandFit_93 : decode b_G_isPlainOperandFit 93 = .ok (.iload_n 1, 1) := by decide +kernel
theorem d_G_isPlainOperandFit_94 : decode b_G_isPlainOperandFit 94 = .ok (.invokestatic 123, 3) := by decide +kernel
theorem d_G_isPlainOperandFit_97 : decode b_G_isPlainOperandFit 97 = .ok (.ireturn, 1) := by decide +kernel
theorem d_G_isPlainOperandFit_98 : decode b_G_isPlainOperandFit 98 = .ok (.iload_n 1, 1) := by decide +kernel
theorem d_G_isPlainOperandFit_99 : decode b_G_isPlainOperandFit 99 = .ok (.iconst 1, 1) := by decide +kernel
theorem d_G_isPlainOperandFit_100 : decode b_G_isPlainOperandFit 100 = .ok (.if_icmp .lt 13, 3) := by decide +kernel
theorem d_G_isPlainOperandFit_103 : decode b_G_isPlainOperandFit 103 = .ok (.iload_n 1, 1) := by decide +kernel
theorem d_G_isPlainOperandFit_104 : decode b_G_isPlainOperandFit 104 = .ok (.bipush 8, 2) := by decide +kernel
theorem d_G_isPlainOperandFit_106 : decode b_G_isPlainOperandFit 106 = .ok (.if_icmp .gt 7, 3) := by decide +kernel
theorem d_G_isPlainOperandFit_109 : decode b_G_isPlainOperandFit 109 = .ok (.iconst 1, 1) := by decide +kernel
theorem d_G_isPlainOperandFit_110 : decode b_G_isPlainOperandFit 110 = .ok (.goto 4, 3) := by decide +kernel
theorem d_G_isPlainOperandFit_113 : decode b_G_isPlainOperandFit 113 = .ok (.iconst 0, 1) := by decide +kernel
theorem d_G_isPlainOperandFit_114 : decode b_G_isPlainOperandFit 114 = .ok (.ireturn, 1) := by decide +kernel
theorem d_G_isPlainOperandFit_115 : decode b_G_isPlainOperandFit 115 = .ok (.iconst 1, 1) := by decide +kernel
theorem d_G_isPlainOperandFit_116 : decode b_G_isPlainOperandFit 116 = .ok (.ireturn, 1) := by decide +kernel
theorem d_G_isVariable_0 : decode b_G_isVariable 0 = .ok (.iload_n 0, 1) := by decide +kernel
theorem d_G_isVariable_1 : decode b_G_isVariable 1 = .ok (.ifCond .lt 12, 3) := by decide +kernel
theorem d_G_isVariable_4 : decode b_G_isVariable 4 = .ok (.iload_n 0, 1) := by decide +kernel
theorem d_G_isVariable_5 : decode b_G_isVariable 5 = .ok (.iconst 4, 1) := by decide +kernel
theorem d_G_isVariable_6 : decode b_G_isVariable 6 = .ok (.if_icmp .ge 7, 3) := by decide +kernel
theorem d_G_isVariable_9 : decode b_G_isVariable 9 = .ok (.iconst 1, 1) := by decide +kernel
theorem d_G_isVariable_10 : decode b_G_isVariable 10 = .ok (.goto 4, 3) := by decide +kernel
theorem d_G_isVariable_13 : decode b_G_isVariable 13 = .ok (.iconst 0, 1) := by decide +kernel
theorem d_G_isVariable_14 : decode b_G_isVariable 14 = .ok (.ireturn, 1) := by decide +kernel
theorem d_G_isSort_0 : decode b_G_isSort 0 = .ok (.iload_n 0, 1) := by decide +kernel
theorem d_G_isSort_1 : decode b_G_isSort 1 = .ok (.ifCond .lt 8, 3) := by decide +kernel
theorem d_G_isSort_4 : decode b_G_isSort 4 = .ok (.iload_n 0, 1) := by decide +kernel
theorem d_G_isSort_5 : decode b_G_isSort 5 = .ok (.iconst 4, 1) := by decide +kernel
theorem d_G_isSort_6 : decode b_G_isSort 6 = .ok (.if_icmp .le 17, 3) := by decide +kernel
theorem d_G_isSort_9 : decode b_G_isSort 9 = .ok (.iload_n 0, 1) := by decide +kernel
theorem d_G_isSort_10 : decode b_G_isSort 10 = .ok (.sipush 256, 3) := by decide +kernel
theorem d_G_isSort_13 : decode b_G_isSort 13 = .ok (.if_icmp .lt 14, 3) := by decide +kernel
theorem d_G_isSort_16 : decode b_G_isSort 16 = .ok (.iload_n 0, 1) := by decide +kernel
theorem d_G_isSort_17 : decode b_G_isSort 17 = .ok (.sipush 511, 3) := by decide +kernel
theorem d_G_isSort_20 : decode b_G_isSort 20 = .ok (.if_icmp .gt 7, 3) := by decide +kernel
theorem d_G_isSort_23 : decode b_G_isSort 23 = .ok (.iconst 1, 1) := by decide +kernel
theorem d_G_isSort_24 : decode b_G_isSort 24 = .ok (.goto 4, 3) := by decide +kernel
theorem d_G_isSort_27 : decode b_G_isSort 27 = .ok (.iconst 0, 1) := by decide +kernel
theorem d_G_isSort_28 : decode b_G_isSort 28 = .ok (.ireturn, 1) := by decide +kernel
theorem d_G_areNodeOperandsFit_0 : decode b_G_areNodeOperandsFit 0 = .ok (.iload_n 1, 1) := by decide +kernel
theorem d_G_areNodeOperandsFit_1 : decode b_G_areNodeOperandsFit 1 = .ok (.iconst 1, 1) := by decide +kernel
theorem d_G_areNodeOperandsFit_2 : decode b_G_areNodeOperandsFit 2 = .ok (.iand, 1) := by decide +kernel
theorem d_G_areNodeOperandsFit_3 : decode b_G_areNodeOperandsFit 3 = .ok (.ifCond .eq 7, 3) := by decide +kernel
theorem d_G_areNodeOperandsFit_6 : decode b_G_areNodeOperandsFit 6 = .ok (.iconst 1, 1) := by decide +kernel
theorem d_G_areNodeOperandsFit_7 : decode b_G_areNodeOperandsFit 7 = .ok (.goto 4, 3) := by decide +kernel
theorem d_G_areNodeOperandsFit_10 : decode b_G_areNodeOperandsFit 10 = .ok (.iconst 0, 1) := by decide +kernel
theorem d_G_areNodeOperandsFit_11 : decode b_G_areNodeOperandsFit 11 = .ok (.istore 5, 2) := by decide +kernel
theorem d_G_areNodeOperandsFit_13 : decode b_G_areNodeOperandsFit 13 = .ok (.iload_n 1, 1) := by decide +kernel
theorem d_G_areNodeOperandsFit_14 : decode b_G_areNodeOperandsFit 14 = .ok (.iconst 2, 1) := by decide +kernel
theorem d_G_areNodeOperandsFit_15 : decode b_G_areNodeOperandsFit 15 = .ok (.iand, 1) := by decide +kernel
theorem d_G_areNodeOperandsFit_16 : decode b_G_areNodeOperandsFit 16 = .ok (.ifCond .eq 7, 3) := by decide +kernel
theorem d_G_areNodeOperandsFit_19 : decode b_G_areNodeOperandsFit 19 = .ok (.iconst 1, 1) := by decide +kernel
theorem d_G_areNodeOperandsFit_20 : decode b_G_areNodeOperandsFit 20 = .ok (.goto 4, 3) := by decide +kernel
theorem d_G_areNodeOperandsFit_23 : decode b_G_areNodeOperandsFit 23 = .ok (.iconst 0, 1) := by decide +kernel
theorem d_G_areNodeOperandsFit_24 : decode b_G_areNodeOperandsFit 24 = .ok (.istore 6, 2) := by decide +kernel
theorem d_G_areNodeOperandsFit_26 : decode b_G_areNodeOperandsFit 26 = .ok (.iload_n 1, 1) := by decide +kernel
theorem d_G_areNodeOperandsFit_27 : decode b_G_areNodeOperandsFit 27 = .ok (.iconst 4, 1) := by decide +kernel
theorem d_G_areNodeOperandsFit_28 : decode b_G_areNodeOperandsFit 28 = .ok (.iand, 1) := by decide +kernel
theorem d_G_areNodeOperandsFit_29 : decode b_G_areNodeOperandsFit 29 = .ok (.ifCond .eq 7, 3) := by decide +kernel
theorem d_G_areNodeOperandsFit_32 : decode b_G_areNodeOperandsFit 32 = .ok (.iconst 1, 1) := by decide +kernel
theorem d_G_areNodeOperandsFit_33 : decode b_G_areNodeOperandsFit 33 = .ok (.goto 4, 3) := by decide +kernel
theorem d_G_areNodeOperandsFit_36 : decode b_G_areNodeOperandsFit 36 = .ok (.iconst 0, 1) := by decide +kernel
theorem d_G_areNodeOperandsFit_37 : decode b_G_areNodeOperandsFit 37 = .ok (.istore 7, 2) := by decide +kernel
theorem d_G_areNodeOperandsFit_39 : decode b_G_areNodeOperandsFit 39 = .ok (.iload 5, 2) := by decide +kernel
theorem d_G_areNodeOperandsFit_41 : decode b_G_areNodeOperandsFit 41 = .ok (.ifCond .eq 11, 3) := by decide +kernel
theorem d_G_areNodeOperandsFit_44 : decode b_G_areNodeOperandsFit 44 = .ok (.aload_n 0, 1) := by decide +kernel
theorem d_G_areNodeOperandsFit_45 : decode b_G_areNodeOperandsFit 45 = .ok (.iload_n 2, 1) := by decide +kernel
theorem d_G_areNodeOperandsFit_46 : decode b_G_areNodeOperandsFit 46 = .ok (.invokevirtual 126, 3) := by decide +kernel
theorem d_G_areNodeOperandsFit_49 : decode b_G_areNodeOperandsFit 49 = .ok (.ifCond .eq 30, 3) := by decide +kernel
theorem d_G_areNodeOperandsFit_52 : decode b_G_areNodeOperandsFit 52 = .ok (.iload 6, 2) := by decide +kernel
theorem d_G_areNodeOperandsFit_54 : decode b_G_areNodeOperandsFit 54 = .ok (.ifCond .eq 11, 3) := by decide +kernel
theorem d_G_areNodeOperandsFit_57 : decode b_G_areNodeOperandsFit 57 = .ok (.aload_n 0, 1) := by decide +kernel
theorem d_G_areNodeOperandsFit_58 : decode b_G_areNodeOperandsFit 58 = .ok (.iload_n 3, 1) := by decide +kernel
theorem d_G_areNodeOperandsFit_59 : decode b_G_areNodeOperandsFit 59 = .ok (.invokevirtual 126, 3) := by decide +kernel
theorem d_G_areNodeOperandsFit_62 : decode b_G_areNodeOperandsFit 62 = .ok (.ifCond .eq 17, 3) := by decide +kernel
theorem d_G_areNodeOperandsFit_65 : decode b_G_areNodeOperandsFit 65 = .ok (.iload 7, 2) := by decide +kernel
theorem d_G_areNodeOperandsFit_67 : decode b_G_areNodeOperandsFit 67 = .ok (.ifCond .eq 14, 3) := by decide +kernel
theorem d_G_areNodeOperandsFit_70 : decode b_G_areNodeOperandsFit 70 = .ok (.aload_n 0, 1) := by decide +kernel
theorem d_G_areNodeOperandsFit_71 : decode b_G_areNodeOperandsFit 71 = .ok (.iload 4, 2) := by decide +kernel
theorem d_G_areNodeOperandsFit_73 : decode b_G_areNodeOperandsFit 73 = .ok (.invokevirtual 126, 3) := by decide +kernel
theorem d_G_areNodeOperandsFit_76 : decode b_G_areNodeOperandsFit 76 = .ok (.ifCond .ne 5, 3) := by decide +kernel
theorem d_G_areNodeOperandsFit_79 : decode b_G_areNodeOperandsFit 79 = .ok (.iconst 0, 1) := by decide +kernel
theorem d_G_areNodeOperandsFit_80 : decode b_G_areNodeOperandsFit 80 = .ok (.ireturn, 1) := by decide +kernel
theorem d_G_areNodeOperandsFit_81 : decode b_G_areNodeOperandsFit 81 = .ok (.iload 5, 2) := by decide +kernel
theorem d_G_areNodeOperandsFit_83 : decode b_G_areNodeOperandsFit 83 = .ok (.ifCond .eq 13, 3) := by decide +kernel
theorem d_G_areNodeOperandsFit_86 : decode b_G_areNodeOperandsFit 86 = .ok (.iload 6, 2) := by decide +kernel
theorem d_G_areNodeOperandsFit_88 : decode b_G_areNodeOperandsFit 88 = .ok (.ifCond .eq 8, 3) := by decide +kernel
theorem d_G_areNodeOperandsFit_91 : decode b_G_areNodeOperandsFit 91 = .ok (.iload_n 2, 1) := by decide +kernel
theorem d_G_areNodeOperandsFit_92 : decode b_G_areNodeOperandsFit 92 = .ok (.iload_n 3, 1) := by decide +kernel
theorem d_G_areNodeOperandsFit_93 : decode b_G_areNodeOperandsFit 93 = .ok (.if_icmp .eq 35, 3) := by decide +kernel
theorem d_G_areNodeOperandsFit_96 : decode b_G_areNodeOperandsFit 96 = .ok (.iload 5, 2) := by decide +kernel
theorem d_G_areNodeOperandsFit_98 : decode b_G_areNodeOperandsFit 98 = .ok (.ifCond .eq 14, 3) := by decide +kernel
theorem d_G_areNodeOperandsFit_101 : decode b_G_areNodeOperandsFit 101 = .ok (.iload 7, 2) := by decide +kernel
theorem d_G_areNodeOperandsFit_103 : decode b_G_areNodeOperandsFit 103 = .ok (.ifCond .eq 9, 3) := by decide +kernel
theorem d_G_areNodeOperandsFit_106 : decode b_G_areNodeOperandsFit 106 = .ok (.iload_n 2, 1) := by decide +kernel
theorem d_G_areNodeOperandsFit_107 : decode b_G_areNodeOperandsFit 107 = .ok (.iload 4, 2) := by decide +kernel
theorem d_G_areNodeOperandsFit_109 : decode b_G_areNodeOperandsFit 109 = .ok (.if_icmp .eq 19, 3) := by decide +kernel
theorem d_G_areNodeOperandsFit_112 : decode b_G_areNodeOperandsFit 112 = .ok (.iload 6, 2) := by decide +kernel
theorem d_G_areNodeOperandsFit_114 : decode b_G_areNodeOperandsFit 114 = .ok (.ifCond .eq 18, 3) := by decide +kernel
theorem d_G_areNodeOperandsFit_117 : decode b_G_areNodeOperandsFit 117 = .ok (.iload 7, 2) := by decide +kernel
theorem d_G_areNodeOperandsFit_119 : decode b_G_areNodeOperandsFit 119 = .ok (.ifCond .eq 13, 3) := by decide +kernel
theorem d_G_areNodeOperandsFit_122 : decode b_G_areNodeOperandsFit 122 = .ok (.iload_n 3, 1) := by decide +kernel
theorem d_G_areNodeOperandsFit_123 : decode b_G_areNodeOperandsFit 123 = .ok (.iload 4, 2) := by decide +kernel
theorem d_G_areNodeOperandsFit_125 : decode b_G_areNodeOperandsFit 125 = .ok (.if_icmp .ne 7, 3) := by decide +kernel
theorem d_G_areNodeOperandsFit_128 : decode b_G_areNodeOperandsFit 128 = .ok (.iconst 1, 1) := by decide +kernel
theorem d_G_areNodeOperandsFit_129 : decode b_G_areNodeOperandsFit 129 = .ok (.goto 4, 3) := by decide +kernel
theorem d_G_areNodeOperandsFit_132 : decode b_G_areNodeOperandsFit 132 = .ok (.iconst 0, 1) := by decide +kernel
theorem d_G_areNodeOperandsFit_133 : decode b_G_areNodeOperandsFit 133 = .ok (.istore 8, 2) := by decide +kernel
theorem d_G_areNodeOperandsFit_135 : decode b_G_areNodeOperandsFit 135 = .ok (.iload 8, 2) := by decide +kernel
theorem d_G_areNodeOperandsFit_137 : decode b_G_areNodeOperandsFit 137 = .ok (.ifCond .ne 7, 3) := by decide +kernel
theorem d_G_areNodeOperandsFit_140 : decode b_G_areNodeOperandsFit 140 = .ok (.iconst 1, 1) := by decide +kernel
theorem d_G_areNodeOperandsFit_141 : decode b_G_areNodeOperandsFit 141 = .ok (.goto 4, 3) := by decide +kernel
theorem d_G_areNodeOperandsFit_144 : decode b_G_areNodeOperandsFit 144 = .ok (.iconst 0, 1) := by decide +kernel
theorem d_G_areNodeOperandsFit_145 : decode b_G_areNodeOperandsFit 145 = .ok (.ireturn, 1) := by decide +kernel
theorem d_G_isFree_0 : decode b_G_isFree 0 = .ok (.aload_n 0, 1) := by decide +kernel
theorem d_G_isFree_1 : decode b_G_isFree 1 = .ok (.iload_n 1, 1) := by decide +kernel
theorem d_G_isFree_2 : decode b_G_isFree 2 = .ok (.invokevirtual 107, 3) := by decide +kernel
theorem d_G_isFree_5 : decode b_G_isFree 5 = .ok (.ifCond .eq 19, 3) := by decide +kernel
theorem d_G_isFree_8 : decode b_G_isFree 8 = .ok (.aload_n 0, 1) := by decide +kernel
theorem d_G_isFree_9 : decode b_G_isFree 9 = .ok (.getfield 18, 3) := by decide +kernel
theorem d_G_isFree_12 : decode b_G_isFree 12 = .ok (.iload_n 1, 1) := by decide +kernel
theorem d_G_isFree_13 : decode b_G_isFree 13 = .ok (.aaload, 1) := by decide +kernel
theorem d_G_isFree_14 : decode b_G_isFree 14 = .ok (.getfield 110, 3) := by decide +kernel
theorem d_G_isFree_17 : decode b_G_isFree 17 = .ok (.ifCond .ne 7, 3) := by decide +kernel
theorem d_G_isFree_20 : decode b_G_isFree 20 = .ok (.iconst 1, 1) := by decide +kernel
theorem d_G_isFree_21 : decode b_G_isFree 21 = .ok (.goto 4, 3) := by decide +kernel
theorem d_G_isFree_24 : decode b_G_isFree 24 = .ok (.iconst 0, 1) := by decide +kernel
theorem d_G_isFree_25 : decode b_G_isFree 25 = .ok (.ireturn, 1) := by decide +kernel
theorem d_G_isNode_0 : decode b_G_isNode 0 = .ok (.iload_n 1, 1) := by decide +kernel
theorem d_G_isNode_1 : decode b_G_isNode 1 = .ok (.ifCond .lt 15, 3) := by decide +kernel
theorem d_G_isNode_4 : decode b_G_isNode 4 = .ok (.iload_n 1, 1) := by decide +kernel
theorem d_G_isNode_5 : decode b_G_isNode 5 = .ok (.aload_n 0, 1) := by decide +kernel
theorem d_G_isNode_6 : decode b_G_isNode 6 = .ok (.getfield 42, 3) := by decide +kernel
theorem d_G_isNode_9 : decode b_G_isNode 9 = .ok (.if_icmp .ge 7, 3) := by decide +kernel
theorem d_G_isNode_12 : decode b_G_isNode 12 = .ok (.iconst 1, 1) := by decide +kernel
theorem d_G_isNode_13 : decode b_G_isNode 13 = .ok (.goto 4, 3) := by decide +kernel
theorem d_G_isNode_16 : decode b_G_isNode 16 = .ok (.iconst 0, 1) := by decide +kernel
theorem d_G_isNode_17 : decode b_G_isNode 17 = .ok (.ireturn, 1) := by decide +kernel
theorem d_N_fill_0 : decode b_N_fill 0 = .ok (.aload_n 0, 1) := by decide +kernel
theorem d_N_fill_1 : decode b_N_fill 1 = .ok (.iload_n 1, 1) := by decide +kernel
theorem d_N_fill_2 : decode b_N_fill 2 = .ok (.putfield 7, 3) := by decide +kernel
theorem d_N_fill_5 : decode b_N_fill 5 = .ok (.aload_n 0, 1) := by decide +kernel
theorem d_N_fill_6 : decode b_N_fill 6 = .ok (.iload_n 2, 1) := by decide +kernel
theorem d_N_fill_7 : decode b_N_fill 7 = .ok (.putfield 13, 3) := by decide +kernel
theorem d_N_fill_10 : decode b_N_fill 10 = .ok (.aload_n 0, 1) := by decide +kernel
theorem d_N_fill_11 : decode b_N_fill 11 = .ok (.iload_n 3, 1) := by decide +kernel
theorem d_N_fill_12 : decode b_N_fill 12 = .ok (.putfield 16, 3) := by decide +kernel
theorem d_N_fill_15 : decode b_N_fill 15 = .ok (.aload_n 0, 1) := by decide +kernel
theorem d_N_fill_16 : decode b_N_fill 16 = .ok (.iload 4, 2) := by decide +kernel
theorem d_N_fill_18 : decode b_N_fill 18 = .ok (.putfield 19, 3) := by decide +kernel
theorem d_N_fill_21 : decode b_N_fill 21 = .ok (.aload_n 0, 1) := by decide +kernel
theorem d_N_fill_22 : decode b_N_fill 22 = .ok (.iconst 0, 1) := by decide +kernel
theorem d_N_fill_23 : decode b_N_fill 23 = .ok (.putfield 22, 3) := by decide +kernel
theorem d_N_fill_26 : decode b_N_fill 26 = .ok (.return_, 1) := by decide +kernel
theorem d_G_boundOf_0 : decode b_G_boundOf 0 = .ok (.aload_n 1, 1) := by decide +kernel
theorem d_G_boundOf_1 : decode b_G_boundOf 1 = .ok (.getfield 129, 3) := by decide +kernel
theorem d_G_boundOf_4 : decode b_G_boundOf 4 = .ok (.tableswitch 226 7 19 #[68, 71, 97, 97, 97, 97, 97, 123, 152, 97, 84, 178, 198], 68) := by decide +kernel
theorem d_G_boundOf_72 : decode b_G_boundOf 72 = .ok (.bipush 8, 2) := by decide +kernel
theorem d_G_boundOf_74 : decode b_G_boundOf 74 = .ok (.ireturn, 1) := by decide +kernel
theorem d_G_boundOf_75 : decode b_G_boundOf 75 = .ok (.aload_n 0, 1) := by decide +kernel
theorem d_G_boundOf_76 : decode b_G_boundOf 76 = .ok (.getfield 18, 3) := by decide +kernel
theorem d_G_boundOf_79 : decode b_G_boundOf 79 = .ok (.aload_n 1, 1) := by decide +kernel
theorem d_G_boundOf_80 : decode b_G_boundOf 80 = .ok (.getfield 132, 3) := by decide +kernel
theorem d_G_boundOf_83 : decode b_G_boundOf 83 = .ok (.aaload, 1) := by decide +kernel
theorem d_G_boundOf_84 : decode b_G_boundOf 84 = .ok (.getfield 65, 3) := by decide +kernel
theorem d_G_boundOf_87 : decode b_G_boundOf 87 = .ok (.ireturn, 1) := by decide +kernel
theorem d_G_boundOf_88 : decode b_G_boundOf 88 = .ok (.aload_n 0, 1) := by decide +kernel
theorem d_G_boundOf_89 : decode b_G_boundOf 89 = .ok (.getfield 18, 3) := by decide +kernel
theorem d_G_boundOf_92 : decode b_G_boundOf 92 = .ok (.aload_n 1, 1) := by decide +kernel
theorem d_G_boundOf_93 : decode b_G_boundOf 93 = .ok (.getfield 135, 3) := by decide +kernel
theorem d_G_boundOf_96 : decode b_G_boundOf 96 = .ok (.aaload, 1) := by decide +kernel
theorem d_G_boundOf_97 : decode b_G_boundOf 97 = .ok (.getfield 65, 3) := by decide +kernel
theorem d_G_boundOf_100 : decode b_G_boundOf 100 = .ok (.ireturn, 1) := by decide +kernel
theorem d_G_boundOf_101 : decode b_G_boundOf 101 = .ok (.aload_n 0, 1) := by decide +kernel
theorem d_G_boundOf_102 : decode b_G_boundOf 102 = .ok (.getfield 18, 3) := by decide +kernel
theorem d_G_boundOf_105 : decode b_G_boundOf 105 = .ok (.aload_n 1, 1) := by decide +kernel
theorem d_G_boundOf_106 : decode b_G_boundOf 106 = .ok (.getfield 132, 3) := by decide +kernel
theorem d_G_boundOf_109 : decode b_G_boundOf 109 = .ok (.aaload, 1) := by decide +kernel
theorem d_G_boundOf_110 : decode b_G_boundOf 110 = .ok (.getfield 65, 3) := by decide +kernel
theorem d_G_boundOf_113 : decode b_G_boundOf 113 = .ok (.aload_n 0, 1) := by decide +kernel
theorem d_G_boundOf_114 : decode b_G_boundOf 114 = .ok (.getfield 18, 3) := by decide +kernel
theorem d_G_boundOf_117 : decode b_G_boundOf 117 = .ok (.aload_n 1, 1) := by decide +kernel
theorem d_G_boundOf_118 : decode b_G_boundOf 118 = .ok (.getfield 135, 3) := by decide +kernel
theorem d_G_boundOf_121 : decode b_G_boundOf 121 = .ok (.aaload, 1) := by decide +kernel
theorem d_G_boundOf_122 : decode b_G_boundOf 122 = .ok (.getfield 65, 3) := by decide +kernel
theorem d_G_boundOf_125 : decode b_G_boundOf 125 = .ok (.imul, 1) := by decide +kernel
theorem d_G_boundOf_126 : decode b_G_boundOf 126 = .ok (.ireturn, 1) := by decide +kernel
theorem d_G_boundOf_127 : decode b_G_boundOf 127 = .ok (.bipush 8, 2) := by decide +kernel
theorem d_G_boundOf_129 : decode b_G_boundOf 129 = .ok (.aload_n 0, 1) := by decide +kernel
theorem d_G_boundOf_130 : decode b_G_boundOf 130 = .ok (.getfield 18, 3) := by decide +kernel
theorem d_G_boundOf_133 : decode b_G_boundOf 133 = .ok (.aload_n 1, 1) := by decide +kernel
theorem d_G_boundOf_134 : decode b_G_boundOf 134 = .ok (.getfield 132, 3) := by decide +kernel
theorem d_G_boundOf_137 : decode b_G_boundOf 137 = .ok (.aaload, 1) := by decide +kernel
theorem d_G_boundOf_138 : decode b_G_boundOf 138 = .ok (.getfield 65, 3) := by decide +kernel
theorem d_G_boundOf_141 : decode b_G_boundOf 141 = .ok (.imul, 1) := by decide +kernel
theorem d_G_boundOf_142 : decode b_G_boundOf 142 = .ok (.aload_n 0, 1) := by decide +kernel
theorem d_G_boundOf_143 : decode b_G_boundOf 143 = .ok (.getfield 18, 3) := by decide +kernel
theorem d_G_boundOf_146 : decode b_G_boundOf 146 = .ok (.aload_n 1, 1) := by decide +kernel
theorem d_G_boundOf_147 : decode b_G_boundOf 147 = .ok (.getfield 135, 3) := by decide +kernel
theorem d_G_boundOf_150 : decode b_G_boundOf 150 = .ok (.aaload, 1) := by decide +kernel
theorem d_G_boundOf_151 : decode b_G_boundOf 151 = .ok (.getfield 65, 3) := by decide +kernel
theorem d_G_boundOf_154 : decode b_G_boundOf 154 = .ok (.imul, 1) := by decide +kernel
theorem d_G_boundOf_155 : decode b_G_boundOf 155 = .ok (.ireturn, 1) := by decide +kernel
theorem d_G_boundOf_156 : decode b_G_boundOf 156 = .ok (.aload_n 0, 1) := by decide +kernel
theorem d_G_boundOf_157 : decode b_G_boundOf 157 = .ok (.getfield 18, 3) := by decide +kernel
theorem d_G_boundOf_160 : decode b_G_boundOf 160 = .ok (.aload_n 1, 1) := by decide +kernel
theorem d_G_boundOf_161 : decode b_G_boundOf 161 = .ok (.getfield 132, 3) := by decide +kernel
theorem d_G_boundOf_164 : decode b_G_boundOf 164 = .ok (.aaload, 1) := by decide +kernel
theorem d_G_boundOf_165 : decode b_G_boundOf 165 = .ok (.getfield 65, 3) := by decide +kernel
theorem d_G_boundOf_168 : decode b_G_boundOf 168 = .ok (.aload_n 0, 1) := by decide +kernel
theorem d_G_boundOf_169 : decode b_G_boundOf 169 = .ok (.getfield 18, 3) := by decide +kernel
theorem d_G_boundOf_172 : decode b_G_boundOf 172 = .ok (.aload_n 1, 1) := by decide +kernel
theorem d_G_boundOf_173 : decode b_G_boundOf 173 = .ok (.getfield 135, 3) := by decide +kernel
theorem d_G_boundOf_176 : decode b_G_boundOf 176 = .ok (.aaload, 1) := by decide +kernel
theorem d_G_boundOf_177 : decode b_G_boundOf 177 = .ok (.getfield 65, 3) := by decide +kernel
theorem d_G_boundOf_180 : decode b_G_boundOf 180 = .ok (.iadd, 1) := by decide +kernel
theorem d_G_boundOf_181 : decode b_G_boundOf 181 = .ok (.ireturn, 1) := by decide +kernel
theorem d_G_boundOf_182 : decode b_G_boundOf 182 = .ok (.aload_n 1, 1) := by decide +kernel
theorem d_G_boundOf_183 : decode b_G_boundOf 183 = .ok (.getfield 132, 3) := by decide +kernel
theorem d_G_boundOf_186 : decode b_G_boundOf 186 = .ok (.aload_n 0, 1) := by decide +kernel
theorem d_G_boundOf_187 : decode b_G_boundOf 187 = .ok (.getfield 18, 3) := by decide +kernel
theorem d_G_boundOf_190 : decode b_G_boundOf 190 = .ok (.aload_n 1, 1) := by decide +kernel
theorem d_G_boundOf_191 : decode b_G_boundOf 191 = .ok (.getfield 135, 3) := by decide +kernel
theorem d_G_boundOf_194 : decode b_G_boundOf 194 = .ok (.aaload, 1) := by decide +kernel
theorem d_G_boundOf_195 : decode b_G_boundOf 195 = .ok (.getfield 65, 3) := by decide +kernel
theorem d_G_boundOf_198 : decode b_G_boundOf 198 = .ok (.invokestatic 141, 3) := by decide +kernel
theorem d_G_boundOf_201 : decode b_G_boundOf 201 = .ok (.ireturn, 1) := by decide +kernel
theorem d_G_boundOf_202 : decode b_G_boundOf 202 = .ok (.aload_n 0, 1) := by decide +kernel
theorem d_G_boundOf_203 : decode b_G_boundOf 203 = .ok (.getfield 18, 3) := by decide +kernel
theorem d_G_boundOf_206 : decode b_G_boundOf 206 = .ok (.aload_n 1, 1) := by decide +kernel
theorem d_G_boundOf_207 : decode b_G_boundOf 207 = .ok (.getfield 135, 3) := by decide +kernel
theorem d_G_boundOf_210 : decode b_G_boundOf 210 = .ok (.aaload, 1) := by decide +kernel
theorem d_G_boundOf_211 : decode b_G_boundOf 211 = .ok (.getfield 65, 3) := by decide +kernel
theorem d_G_boundOf_214 : decode b_G_boundOf 214 = .ok (.aload_n 0, 1) := by decide +kernel
theorem d_G_boundOf_215 : decode b_G_boundOf 215 = .ok (.getfield 18, 3) := by decide +kernel
theorem d_G_boundOf_218 : decode b_G_boundOf 218 = .ok (.aload_n 1, 1) := by decide +kernel
theorem d_G_boundOf_219 : decode b_G_boundOf 219 = .ok (.getfield 138, 3) := by decide +kernel
theorem d_G_boundOf_222 : decode b_G_boundOf 222 = .ok (.aaload, 1) := by decide +kernel
theorem d_G_boundOf_223 : decode b_G_boundOf 223 = .ok (.getfield 65, 3) := by decide +kernel
theorem d_G_boundOf_226 : decode b_G_boundOf 226 = .ok (.invokestatic 146, 3) := by decide +kernel
theorem d_G_boundOf_229 : decode b_G_boundOf 229 = .ok (.ireturn, 1) := by decide +kernel
theorem d_G_boundOf_230 : decode b_G_boundOf 230 = .ok (.iconst 1, 1) := by decide +kernel
theorem d_G_boundOf_231 : decode b_G_boundOf 231 = .ok (.ireturn, 1) := by decide +kernel
theorem d_G_workOf_0 : decode b_G_workOf 0 = .ok (.aload_n 1, 1) := by decide +kernel
theorem d_G_workOf_1 : decode b_G_workOf 1 = .ok (.getfield 129, 3) := by decide +kernel
theorem d_G_workOf_4 : decode b_G_workOf 4 = .ok (.tableswitch 193 7 21 #[76, 79, 109, 109, 109, 109, 109, 115, 124, 109, 94, 94, 152, 79, 79], 76) := by decide +kernel
theorem d_G_workOf_80 : decode b_G_workOf 80 = .ok (.bipush 8, 2) := by decide +kernel
theorem d_G_workOf_82 : decode b_G_workOf 82 = .ok (.ireturn, 1) := by decide +kernel
theorem d_G_workOf_83 : decode b_G_workOf 83 = .ok (.iconst 1, 1) := by decide +kernel
theorem d_G_workOf_84 : decode b_G_workOf 84 = .ok (.aload_n 0, 1) := by decide +kernel
theorem d_G_workOf_85 : decode b_G_workOf 85 = .ok (.getfield 18, 3) := by decide +kernel
theorem d_G_workOf_88 : decode b_G_workOf 88 = .ok (.aload_n 1, 1) := by decide +kernel
theorem d_G_workOf_89 : decode b_G_workOf 89 = .ok (.getfield 132, 3) := by decide +kernel
theorem d_G_workOf_92 : decode b_G_workOf 92 = .ok (.aaload, 1) := by decide +kernel
theorem d_G_workOf_93 : decode b_G_workOf 93 = .ok (.getfield 71, 3) := by decide +kernel
theorem d_G_workOf_96 : decode b_G_workOf 96 = .ok (.iadd, 1) := by decide +kernel
theorem d_G_workOf_97 : decode b_G_workOf 97 = .ok (.ireturn, 1) := by decide +kernel
theorem d_G_workOf_98 : decode b_G_workOf 98 = .ok (.iconst 1, 1) := by decide +kernel
theorem d_G_workOf_99 : decode b_G_workOf 99 = .ok (.aload_n 0, 1) := by decide +kernel
theorem d_G_workOf_100 : decode b_G_workOf 100 = .ok (.getfield 18, 3) := by decide +kernel
theorem d_G_workOf_103 : decode b_G_workOf 103 = .ok (.aload_n 1, 1) := by decide +kernel
theorem d_G_workOf_104 : decode b_G_workOf 104 = .ok (.getfield 135, 3) := by decide +kernel
theorem d_G_workOf_107 : decode b_G_workOf 107 = .ok (.aaload, 1) := by decide +kernel
theorem d_G_workOf_108 : decode b_G_workOf 108 = .ok (.getfield 71, 3) := by decide +kernel
theorem d_G_workOf_111 : decode b_G_workOf 111 = .ok (.iadd, 1) := by decide +kernel
theorem d_G_workOf_112 : decode b_G_workOf 112 = .ok (.ireturn, 1) := by decide +kernel
theorem d_G_workOf_113 : decode b_G_workOf 113 = .ok (.aload_n 0, 1) := by decide +kernel
theorem d_G_workOf_114 : decode b_G_workOf 114 = .ok (.aload_n 1, 1) := by decide +kernel
theorem d_G_workOf_115 : decode b_G_workOf 115 = .ok (.invokevirtual 149, 3) := by decide +kernel
theorem d_G_workOf_118 : decode b_G_workOf 118 = .ok (.ireturn, 1) := by decide +kernel
theorem d_G_workOf_119 : decode b_G_workOf 119 = .ok (.bipush 8, 2) := by decide +kernel
theorem d_G_workOf_121 : decode b_G_workOf 121 = .ok (.aload_n 0, 1) := by decide +kernel
theorem d_G_workOf_122 : decode b_G_workOf 122 = .ok (.aload_n 1, 1) := by decide +kernel
theorem d_G_workOf_123 : decode b_G_workOf 123 = .ok (.invokevirtual 149, 3) := by decide +kernel
theorem d_G_workOf_126 : decode b_G_workOf 126 = .ok (.imul, 1) := by decide +kernel
theorem d_G_workOf_127 : decode b_G_workOf 127 = .ok (.ireturn, 1) := by decide +kernel
theorem d_G_workOf_128 : decode b_G_workOf 128 = .ok (.iconst 1, 1) := by decide +kernel
theorem d_G_workOf_129 : decode b_G_workOf 129 = .ok (.aload_n 0, 1) := by decide +kernel
theorem d_G_workOf_130 : decode b_G_workOf 130 = .ok (.getfield 18, 3) := by decide +kernel
theorem d_G_workOf_133 : decode b_G_workOf 133 = .ok (.aload_n 1, 1) := by decide +kernel
theorem d_G_workOf_134 : decode b_G_workOf 134 = .ok (.getfield 132, 3) := by decide +kernel
theorem d_G_workOf_137 : decode b_G_workOf 137 = .ok (.aaload, 1) := by decide +kernel
theorem d_G_workOf_138 : decode b_G_workOf 138 = .ok (.getfield 71, 3) := by decide +kernel
theorem d_G_workOf_141 : decode b_G_workOf 141 = .ok (.iadd, 1) := by decide +kernel
theorem d_G_workOf_142 : decode b_G_workOf 142 = .ok (.aload_n 0, 1) := by decide +kernel
theorem d_G_workOf_143 : decode b_G_workOf 143 = .ok (.getfield 18, 3) := by decide +kernel
theorem d_G_workOf_146 : decode b_G_workOf 146 = .ok (.aload_n 1, 1) := by decide +kernel
theorem d_G_workOf_147 : decode b_G_workOf 147 = .ok (.getfield 135, 3) := by decide +kernel
theorem d_G_workOf_150 : decode b_G_workOf 150 = .ok (.aaload, 1) := by decide +kernel
theorem d_G_workOf_151 : decode b_G_workOf 151 = .ok (.getfield 71, 3) := by decide +kernel
theorem d_G_workOf_154 : decode b_G_workOf 154 = .ok (.iadd, 1) := by decide +kernel
theorem d_G_workOf_155 : decode b_G_workOf 155 = .ok (.ireturn, 1) := by decide +kernel
theorem d_G_workOf_156 : decode b_G_workOf 156 = .ok (.iconst 1, 1) := by decide +kernel
theorem d_G_workOf_157 : decode b_G_workOf 157 = .ok (.aload_n 0, 1) := by decide +kernel
theorem d_G_workOf_158 : decode b_G_workOf 158 = .ok (.getfield 18, 3) := by decide +kernel
theorem d_G_workOf_161 : decode b_G_workOf 161 = .ok (.aload_n 1, 1) := by decide +kernel
theorem d_G_workOf_162 : decode b_G_workOf 162 = .ok (.getfield 132, 3) := by decide +kernel
theorem d_G_workOf_165 : decode b_G_workOf 165 = .ok (.aaload, 1) := by decide +kernel
theorem d_G_workOf_166 : decode b_G_workOf 166 = .ok (.getfield 71, 3) := by decide +kernel
theorem d_G_workOf_169 : decode b_G_workOf 169 = .ok (.iadd, 1) := by decide +kernel
theorem d_G_workOf_170 : decode b_G_workOf 170 = .ok (.aload_n 0, 1) := by decide +kernel
theorem d_G_workOf_171 : decode b_G_workOf 171 = .ok (.getfield 18, 3) := by decide +kernel
theorem d_G_workOf_174 : decode b_G_workOf 174 = .ok (.aload_n 1, 1) := by decide +kernel
theorem d_G_workOf_175 : decode b_G_workOf 175 = .ok (.getfield 135, 3) := by decide +kernel
theorem d_G_workOf_178 : decode b_G_workOf 178 = .ok (.aaload, 1) := by decide +kernel
theorem d_G_workOf_179 : decode b_G_workOf 179 = .ok (.getfield 71, 3) := by decide +kernel
theorem d_G_workOf_182 : decode b_G_workOf 182 = .ok (.iadd, 1) := by decide +kernel
theorem d_G_workOf_183 : decode b_G_workOf 183 = .ok (.aload_n 0, 1) := by decide +kernel
theorem d_G_workOf_184 : decode b_G_workOf 184 = .ok (.getfield 18, 3) := by decide +kernel
theorem d_G_workOf_187 : decode b_G_workOf 187 = .ok (.aload_n 1, 1) := by decide +kernel
theorem d_G_workOf_188 : decode b_G_workOf 188 = .ok (.getfield 138, 3) := by decide +kernel
theorem d_G_workOf_191 : decode b_G_workOf 191 = .ok (.aaload, 1) := by decide +kernel
theorem d_G_workOf_192 : decode b_G_workOf 192 = .ok (.getfield 71, 3) := by decide +kernel
theorem d_G_workOf_195 : decode b_G_workOf 195 = .ok (.iadd, 1) := by decide +kernel
theorem d_G_workOf_196 : decode b_G_workOf 196 = .ok (.ireturn, 1) := by decide +kernel
theorem d_G_workOf_197 : decode b_G_workOf 197 = .ok (.iconst 1, 1) := by decide +kernel
theorem d_G_workOf_198 : decode b_G_workOf 198 = .ok (.ireturn, 1) := by decide +kernel
theorem d_G_workOfPairs_0 : decode b_G_workOfPairs 0 = .ok (.iconst 1, 1) := by decide +kernel
theorem d_G_workOfPairs_1 : decode b_G_workOfPairs 1 = .ok (.aload_n 0, 1) := by decide +kernel
theorem d_G_workOfPairs_2 : decode b_G_workOfPairs 2 = .ok (.getfield 18, 3) := by decide +kernel
theorem d_G_workOfPairs_5 : decode b_G_workOfPairs 5 = .ok (.aload_n 1, 1) := by decide +kernel
theorem d_G_workOfPairs_6 : decode b_G_workOfPairs 6 = .ok (.getfield 132, 3) := by decide +kernel
theorem d_G_workOfPairs_9 : decode b_G_workOfPairs 9 = .ok (.aaload, 1) := by decide +kernel
theorem d_G_workOfPairs_10 : decode b_G_workOfPairs 10 = .ok (.getfield 71, 3) := by decide +kernel
theorem d_G_workOfPairs_13 : decode b_G_workOfPairs 13 = .ok (.iadd, 1) := by decide +kernel
theorem d_G_workOfPairs_14 : decode b_G_workOfPairs 14 = .ok (.aload_n 0, 1) := by decide +kernel
theorem d_G_workOfPairs_15 : decode b_G_workOfPairs 15 = .ok (.getfield 18, 3) := by decide +kernel
theorem d_G_workOfPairs_18 : decode b_G_workOfPairs 18 = .ok (.aload_n 1, 1) := by decide +kernel
theorem d_G_workOfPairs_19 : decode b_G_workOfPairs 19 = .ok (.getfield 132, 3) := by decide +kernel
theorem d_G_workOfPairs_22 : decode b_G_workOfPairs 22 = .ok (.aaload, 1) := by decide +kernel
theorem d_G_workOfPairs_23 : decode b_G_workOfPairs 23 = .ok (.getfield 65, 3) := by decide +kernel
theorem d_G_workOfPairs_26 : decode b_G_workOfPairs 26 = .ok (.aload_n 0, 1) := by decide +kernel
theorem d_G_workOfPairs_27 : decode b_G_workOfPairs 27 = .ok (.getfield 18, 3) := by decide +kernel
theorem d_G_workOfPairs_30 : decode b_G_workOfPairs 30 = .ok (.aload_n 1, 1) := by decide +kernel
theorem d_G_workOfPairs_31 : decode b_G_workOfPairs 31 = .ok (.getfield 135, 3) := by decide +kernel
theorem d_G_workOfPairs_34 : decode b_G_workOfPairs 34 = .ok (.aaload, 1) := by decide +kernel
theorem d_G_workOfPairs_35 : decode b_G_workOfPairs 35 = .ok (.getfield 71, 3) := by decide +kernel
theorem d_G_workOfPairs_38 : decode b_G_workOfPairs 38 = .ok (.imul, 1) := by decide +kernel
theorem d_G_workOfPairs_39 : decode b_G_workOfPairs 39 = .ok (.iadd, 1) := by decide +kernel
theorem d_G_workOfPairs_40 : decode b_G_workOfPairs 40 = .ok (.ireturn, 1) := by decide +kernel
theorem d_G_levelOf_0 : decode b_G_levelOf 0 = .ok (.getstatic 49, 3) := by decide +kernel
theorem d_G_levelOf_3 : decode b_G_levelOf 3 = .ok (.aload_n 1, 1) := by decide +kernel
theorem d_G_levelOf_4 : decode b_G_levelOf 4 = .ok (.getfield 129, 3) := by decide +kernel
theorem d_G_levelOf_7 : decode b_G_levelOf 7 = .ok (.iaload, 1) := by decide +kernel
theorem d_G_levelOf_8 : decode b_G_levelOf 8 = .ok (.istore_n 2, 1) := by decide +kernel
theorem d_G_levelOf_9 : decode b_G_levelOf 9 = .ok (.iconst 0, 1) := by decide +kernel
theorem d_G_levelOf_10 : decode b_G_levelOf 10 = .ok (.istore_n 3, 1) := by decide +kernel
theorem d_G_levelOf_11 : decode b_G_levelOf 11 = .ok (.iload_n 2, 1) := by decide +kernel
theorem d_G_levelOf_12 : decode b_G_levelOf 12 = .ok (.iconst 1, 1) := by decide +kernel
theorem d_G_levelOf_13 : decode b_G_levelOf 13 = .ok (.iand, 1) := by decide +kernel
theorem d_G_levelOf_14 : decode b_G_levelOf 14 = .ok (.ifCond .eq 20, 3) := by decide +kernel
theorem d_G_levelOf_17 : decode b_G_levelOf 17 = .ok (.iload_n 3, 1) := by decide +kernel
theorem d_G_levelOf_18 : decode b_G_levelOf 18 = .ok (.aload_n 0, 1) := by decide +kernel
theorem d_G_levelOf_19 : decode b_G_levelOf 19 = .ok (.getfield 18, 3) := by decide +kernel
theorem d_G_levelOf_22 : decode b_G_levelOf 22 = .ok (.aload_n 1, 1) := by decide +kernel
theorem d_G_levelOf_23 : decode b_G_levelOf 23 = .ok (.getfield 132, 3) := by decide +kernel
theorem d_G_levelOf_26 : decode b_G_levelOf 26 = .ok (.aaload, 1) := by decide +kernel
theorem d_G_levelOf_27 : decode b_G_levelOf 27 = .ok (.getfield 77, 3) := by decide +kernel
theorem d_G_levelOf_30 : decode b_G_levelOf 30 = .ok (.invokestatic 146, 3) := by decide +kernel
theorem d_G_levelOf_33 : decode b_G_levelOf 33 = .ok (.istore_n 3, 1) := by decide +kernel
theorem d_G_levelOf_34 : decode b_G_levelOf 34 = .ok (.iload_n 2, 1) := by decide +kernel
theorem d_G_levelOf_35 : decode b_G_levelOf 35 = .ok (.iconst 2, 1) := by decide +kernel
theorem d_G_levelOf_36 : decode b_G_levelOf 36 = .ok (.iand, 1) := by decide +kernel
theorem d_G_levelOf_37 : decode b_G_levelOf 37 = .ok (.ifCond .eq 20, 3) := by decide +kernel
theorem d_G_levelOf_40 : decode b_G_levelOf 40 = .ok (.iload_n 3, 1) := by decide +kernel
theorem d_G_levelOf_41 : decode b_G_levelOf 41 = .ok (.aload_n 0, 1) := by decide +kernel
theorem d_G_levelOf_42 : decode b_G_levelOf 42 = .ok (.getfield 18, 3) := by decide +kernel
theorem d_G_levelOf_45 : decode b_G_levelOf 45 = .ok (.aload_n 1, 1) := by decide +kernel
theorem d_G_levelOf_46 : decode b_G_levelOf 46 = .ok (.getfield 135, 3) := by decide +kernel
theorem d_G_levelOf_49 : decode b_G_levelOf 49 = .ok (.aaload, 1) := by decide +kernel
theorem d_G_levelOf_50 : decode b_G_levelOf 50 = .ok (.getfield 77, 3) := by decide +kernel
theorem d_G_levelOf_53 : decode b_G_levelOf 53 = .ok (.invokestatic 146, 3) := by decide +kernel
theorem d_G_levelOf_56 : decode b_G_levelOf 56 = .ok (.istore_n 3, 1) := by decide +kernel
theorem d_G_levelOf_57 : decode b_G_levelOf 57 = .ok (.iload_n 2, 1) := by decide +kernel
theorem d_G_levelOf_58 : decode b_G_levelOf 58 = .ok (.iconst 4, 1) := by decide +kernel
theorem d_G_levelOf_59 : decode b_G_levelOf 59 = .ok (.iand, 1) := by decide +kernel
theorem d_G_levelOf_60 : decode b_G_levelOf 60 = .ok (.ifCond .eq 20, 3) := by decide +kernel
theorem d_G_levelOf_63 : decode b_G_levelOf 63 = .ok (.iload_n 3, 1) := by decide +kernel
theorem d_G_levelOf_64 : decode b_G_levelOf 64 = .ok (.aload_n 0, 1) := by decide +kernel
theorem d_G_levelOf_65 : decode b_G_levelOf 65 = .ok (.getfield 18, 3) := by decide +kernel
theorem d_G_levelOf_68 : decode b_G_levelOf 68 = .ok (.aload_n 1, 1) := by decide +kernel
theorem d_G_levelOf_69 : decode b_G_levelOf 69 = .ok (.getfield 138, 3) := by decide +kernel
theorem d_G_levelOf_72 : decode b_G_levelOf 72 = .ok (.aaload, 1) := by decide +kernel
theorem d_G_levelOf_73 : decode b_G_levelOf 73 = .ok (.getfield 77, 3) := by decide +kernel
theorem d_G_levelOf_76 : decode b_G_levelOf 76 = .ok (.invokestatic 146, 3) := by decide +kernel
theorem d_G_levelOf_79 : decode b_G_levelOf 79 = .ok (.istore_n 3, 1) := by decide +kernel
theorem d_G_levelOf_80 : decode b_G_levelOf 80 = .ok (.iload_n 3, 1) := by decide +kernel
theorem d_G_levelOf_81 : decode b_G_levelOf 81 = .ok (.iconst 1, 1) := by decide +kernel
theorem d_G_levelOf_82 : decode b_G_levelOf 82 = .ok (.iadd, 1) := by decide +kernel
theorem d_G_levelOf_83 : decode b_G_levelOf 83 = .ok (.ireturn, 1) := by decide +kernel
theorem d_G_useOperands_0 : decode b_G_useOperands 0 = .ok (.getstatic 49, 3) := by decide +kernel
theorem d_G_useOperands_3 : decode b_G_useOperands 3 = .ok (.aload_n 1, 1) := by decide +kernel
theorem d_G_useOperands_4 : decode b_G_useOperands 4 = .ok (.getfield 129, 3) := by decide +kernel
theorem d_G_useOperands_7 : decode b_G_useOperands 7 = .ok (.iaload, 1) := by decide +kernel
theorem d_G_useOperands_8 : decode b_G_useOperands 8 = .ok (.istore_n 2, 1) := by decide +kernel
theorem d_G_useOperands_9 : decode b_G_useOperands 9 = .ok (.iload_n 2, 1) := by decide +kernel
theorem d_G_useOperands_10 : decode b_G_useOperands 10 = .ok (.iconst 1, 1) := by decide +kernel
theorem d_G_useOperands_11 : decode b_G_useOperands 11 = .ok (.iand, 1) := by decide +kernel
theorem d_G_useOperands_12 : decode b_G_useOperands 12 = .ok (.ifCond .eq 16, 3) := by decide +kernel
theorem d_G_useOperands_15 : decode b_G_useOperands 15 = .ok (.aload_n 0, 1) := by decide +kernel
theorem d_G_useOperands_16 : decode b_G_useOperands 16 = .ok (.getfield 18, 3) := by decide +kernel
theorem d_G_useOperands_19 : decode b_G_useOperands 19 = .ok (.aload_n 1, 1) := by decide +kernel
theorem d_G_useOperands_20 : decode b_G_useOperands 20 = .ok (.getfield 132, 3) := by decide +kernel
theorem d_G_useOperands_23 : decode b_G_useOperands 23 = .ok (.aaload, 1) := by decide +kernel
theorem d_G_useOperands_24 : decode b_G_useOperands 24 = .ok (.iconst 1, 1) := by decide +kernel
theorem d_G_useOperands_25 : decode b_G_useOperands 25 = .ok (.putfield 110, 3) := by decide +kernel
theorem d_G_useOperands_28 : decode b_G_useOperands 28 = .ok (.iload_n 2, 1) := by decide +kernel
theorem d_G_useOperands_29 : decode b_G_useOperands 29 = .ok (.iconst 2, 1) := by decide +kernel
theorem d_G_useOperands_30 : decode b_G_useOperands 30 = .ok (.iand, 1) := by decide +kernel
theorem d_G_useOperands_31 : decode b_G_useOperands 31 = .ok (.ifCond .eq 16, 3) := by decide +kernel
theorem d_G_useOperands_34 : decode b_G_useOperands 34 = .ok (.aload_n 0, 1) := by decide +kernel
theorem d_G_useOperands_35 : decode b_G_useOperands 35 = .ok (.getfield 18, 3) := by decide +kernel
theorem d_G_useOperands_38 : decode b_G_useOperands 38 = .ok (.aload_n 1, 1) := by decide +kernel
theorem d_G_useOperands_39 : decode b_G_useOperands 39 = .ok (.getfield 135, 3) := by decide +kernel
theorem d_G_useOperands_42 : decode b_G_useOperands 42 = .ok (.aaload, 1) := by decide +kernel
theorem d_G_useOperands_43 : decode b_G_useOperands 43 = .ok (.iconst 1, 1) := by decide +kernel
theorem d_G_useOperands_44 : decode b_G_useOperands 44 = .ok (.putfield 110, 3) := by decide +kernel
theorem d_G_useOperands_47 : decode b_G_useOperands 47 = .ok (.iload_n 2, 1) := by decide +kernel
theorem d_G_useOperands_48 : decode b_G_useOperands 48 = .ok (.iconst 4, 1) := by decide +kernel
theorem d_G_useOperands_49 : decode b_G_useOperands 49 = .ok (.iand, 1) := by decide +kernel
theorem d_G_useOperands_50 : decode b_G_useOperands 50 = .ok (.ifCond .eq 16, 3) := by decide +kernel
theorem d_G_useOperands_53 : decode b_G_useOperands 53 = .ok (.aload_n 0, 1) := by decide +kernel
theorem d_G_useOperands_54 : decode b_G_useOperands 54 = .ok (.getfield 18, 3) := by decide +kernel
theorem d_G_useOperands_57 : decode b_G_useOperands 57 = .ok (.aload_n 1, 1) := by decide +kernel
theorem d_G_useOperands_58 : decode b_G_useOperands 58 = .ok (.getfield 138, 3) := by decide +kernel
theorem d_G_useOperands_61 : decode b_G_useOperands 61 = .ok (.aaload, 1) := by decide +kernel
theorem d_G_useOperands_62 : decode b_G_useOperands 62 = .ok (.iconst 1, 1) := by decide +kernel
theorem d_G_useOperands_63 : decode b_G_useOperands 63 = .ok (.putfield 110, 3) := by decide +kernel
theorem d_G_useOperands_66 : decode b_G_useOperands 66 = .ok (.return_, 1) := by decide +kernel
theorem d_G_clear_0 : decode b_G_clear 0 = .ok (.aload_n 0, 1) := by decide +kernel
theorem d_G_clear_1 : decode b_G_clear 1 = .ok (.getfield 42, 3) := by decide +kernel
theorem d_G_clear_4 : decode b_G_clear 4 = .ok (.istore_n 1, 1) := by decide +kernel
theorem d_G_clear_5 : decode b_G_clear 5 = .ok (.aload_n 0, 1) := by decide +kernel
theorem d_G_clear_6 : decode b_G_clear 6 = .ok (.iconst 0, 1) := by decide +kernel
theorem d_G_clear_7 : decode b_G_clear 7 = .ok (.putfield 42, 3) := by decide +kernel
theorem d_G_clear_10 : decode b_G_clear 10 = .ok (.iload_n 1, 1) := by decide +kernel
theorem d_G_clear_11 : decode b_G_clear 11 = .ok (.ireturn, 1) := by decide +kernel
theorem d_G_evaluate_0 : decode b_G_evaluate 0 = .ok (.aload_n 0, 1) := by decide +kernel
theorem d_G_evaluate_1 : decode b_G_evaluate 1 = .ok (.iload_n 1, 1) := by decide +kernel
theorem d_G_evaluate_2 : decode b_G_evaluate 2 = .ok (.bipush 64, 2) := by decide +kernel
theorem d_G_evaluate_4 : decode b_G_evaluate 4 = .ok (.invokevirtual 84, 3) := by decide +kernel
theorem d_G_evaluate_7 : decode b_G_evaluate 7 = .ok (.ireturn, 1) := by decide +kernel
theorem d_G_keepResults_0 : decode b_G_keepResults 0 = .ok (.aload_n 0, 1) := by decide +kernel
theorem d_G_keepResults_1 : decode b_G_keepResults 1 = .ok (.iload_n 1, 1) := by decide +kernel
theorem d_G_keepResults_2 : decode b_G_keepResults 2 = .ok (.invokevirtual 107, 3) := by decide +kernel
theorem d_G_keepResults_5 : decode b_G_keepResults 5 = .ok (.ifCond .ne 5, 3) := by decide +kernel
theorem d_G_keepResults_8 : decode b_G_keepResults 8 = .ok (.iconst (-1), 1) := by decide +kernel
theorem d_G_keepResults_9 : decode b_G_keepResults 9 = .ok (.ireturn, 1) := by decide +kernel
theorem d_G_keepResults_10 : decode b_G_keepResults 10 = .ok (.aload_n 0, 1) := by decide +kernel
theorem d_G_keepResults_11 : decode b_G_keepResults 11 = .ok (.getfield 28, 3) := by decide +kernel
theorem d_G_keepResults_14 : decode b_G_keepResults 14 = .ok (.iconst 1, 1) := by decide +kernel
theorem d_G_keepResults_15 : decode b_G_keepResults 15 = .ok (.putfield 114, 3) := by decide +kernel
theorem d_G_keepResults_18 : decode b_G_keepResults 18 = .ok (.aload_n 0, 1) := by decide +kernel
theorem d_G_keepResults_19 : decode b_G_keepResults 19 = .ok (.iload_n 1, 1) := by decide +kernel
theorem d_G_keepResults_20 : decode b_G_keepResults 20 = .ok (.iconst 0, 1) := by decide +kernel
theorem d_G_keepResults_21 : decode b_G_keepResults 21 = .ok (.invokevirtual 152, 3) := by decide +kernel
theorem d_G_keepResults_24 : decode b_G_keepResults 24 = .ok (.aload_n 0, 1) := by decide +kernel
theorem d_G_keepResults_25 : decode b_G_keepResults 25 = .ok (.getfield 32, 3) := by decide +kernel
theorem d_G_keepResults_28 : decode b_G_keepResults 28 = .ok (.aload_n 0, 1) := by decide +kernel
theorem d_G_keepResults_29 : decode b_G_keepResults 29 = .ok (.getfield 28, 3) := by decide +kernel
theorem d_G_keepResults_32 : decode b_G_keepResults 32 = .ok (.iconst 1, 1) := by decide +kernel
theorem d_G_keepResults_33 : decode b_G_keepResults 33 = .ok (.iload_n 2, 1) := by decide +kernel
theorem d_G_keepResults_34 : decode b_G_keepResults 34 = .ok (.invokevirtual 156, 3) := by decide +kernel
theorem d_G_keepResults_37 : decode b_G_keepResults 37 = .ok (.aload_n 0, 1) := by decide +kernel
theorem d_G_keepResults_38 : decode b_G_keepResults 38 = .ok (.aload_n 0, 1) := by decide +kernel
theorem d_G_keepResults_39 : decode b_G_keepResults 39 = .ok (.getfield 12, 3) := by decide +kernel
theorem d_G_keepResults_42 : decode b_G_keepResults 42 = .ok (.getfield 35, 3) := by decide +kernel
theorem d_G_keepResults_45 : decode b_G_keepResults 45 = .ok (.putfield 117, 3) := by decide +kernel
theorem d_G_keepResults_48 : decode b_G_keepResults 48 = .ok (.aload_n 0, 1) := by decide +kernel
theorem d_G_keepResults_49 : decode b_G_keepResults 49 = .ok (.getfield 32, 3) := by decide +kernel
theorem d_G_keepResults_52 : decode b_G_keepResults 52 = .ok (.getfield 114, 3) := by decide +kernel
theorem d_G_keepResults_55 : decode b_G_keepResults 55 = .ok (.ireturn, 1) := by decide +kernel
theorem d_G_solve_0 : decode b_G_solve 0 = .ok (.aload_n 0, 1) := by decide +kernel
theorem d_G_solve_1 : decode b_G_solve 1 = .ok (.getfield 18, 3) := by decide +kernel
theorem d_G_solve_4 : decode b_G_solve 4 = .ok (.iload_n 1, 1) := by decide +kernel
theorem d_G_solve_5 : decode b_G_solve 5 = .ok (.aaload, 1) := by decide +kernel
theorem d_G_solve_6 : decode b_G_solve 6 = .ok (.astore_n 3, 1) := by decide +kernel
theorem d_G_solve_7 : decode b_G_solve 7 = .ok (.aload_n 3, 1) := by decide +kernel
theorem d_G_solve_8 : decode b_G_solve 8 = .ok (.getfield 129, 3) := by decide +kernel
theorem d_G_solve_11 : decode b_G_solve 11 = .ok (.tableswitch 295 0 21 #[101, 116, 139, 158, 176, 188, 200, 208, 220, 295, 295, 295, 295, 295, 295, 229, 295, 250, 259, 268, 277, 286], 101) := by decide +kernel
theorem d_G_solve_112 : decode b_G_solve 112 = .ok (.aload_n 0, 1) := by decide +kernel
theorem d_G_solve_113 : decode b_G_solve 113 = .ok (.getfield 28, 3) := by decide +kernel
theorem d_G_solve_116 : decode b_G_solve 116 = .ok (.aload_n 3, 1) := by decide +kernel
theorem d_G_solve_117 : decode b_G_solve 117 = .ok (.getfield 132, 3) := by decide +kernel
theorem d_G_solve_120 : decode b_G_solve 120 = .ok (.iload_n 2, 1) := by decide +kernel
theorem d_G_solve_121 : decode b_G_solve 121 = .ok (.invokevirtual 160, 3) := by decide +kernel
theorem d_G_solve_124 : decode b_G_solve 124 = .ok (.goto 188, 3) := by decide +kernel
theorem d_G_solve_127 : decode b_G_solve 127 = .ok (.aload_n 0, 1) := by decide +kernel
theorem d_G_solve_128 : decode b_G_solve 128 = .ok (.getfield 28, 3) := by decide +kernel
theorem d_G_solve_131 : decode b_G_solve 131 = .ok (.aload_n 0, 1) := by decide +kernel
theorem d_G_solve_132 : decode b_G_solve 132 = .ok (.getfield 28, 3) := by decide +kernel
theorem d_G_solve_135 : decode b_G_solve 135 = .ok (.iload_n 2, 1) := by decide +kernel
theorem d_G_solve_136 : decode b_G_solve 136 = .ok (.aload_n 3, 1) := by decide +kernel
theorem d_G_solve_137 : decode b_G_solve 137 = .ok (.getfield 132, 3) := by decide +kernel
theorem d_G_solve_140 : decode b_G_solve 140 = .ok (.invokevirtual 104, 3) := by decide +kernel
theorem d_G_solve_143 : decode b_G_solve 143 = .ok (.iload_n 2, 1) := by decide +kernel
theorem d_G_solve_144 : decode b_G_solve 144 = .ok (.invokevirtual 160, 3) := by decide +kernel
theorem d_G_solve_147 : decode b_G_solve 147 = .ok (.goto 165, 3) := by decide +kernel
theorem d_G_solve_150 : decode b_G_solve 150 = .ok (.aload_n 0, 1) := by decide +kernel
theorem d_G_solve_151 : decode b_G_solve 151 = .ok (.getfield 28, 3) := by decide +kernel
theorem d_G_solve_154 : decode b_G_solve 154 = .ok (.aload_n 0, 1) := by decide +kernel
theorem d_G_solve_155 : decode b_G_solve 155 = .ok (.getfield 28, 3) := by decide +kernel
theorem d_G_solve_158 : decode b_G_solve 158 = .ok (.iload_n 2, 1) := by decide +kernel
theorem d_G_solve_159 : decode b_G_solve 159 = .ok (.invokevirtual 98, 3) := by decide +kernel
theorem d_G_solve_162 : decode b_G_solve 162 = .ok (.iload_n 2, 1) := by decide +kernel
theorem d_G_solve_163 : decode b_G_solve 163 = .ok (.invokevirtual 160, 3) := by decide +kernel
theorem d_G_solve_166 : decode b_G_solve 166 = .ok (.goto 146, 3) := by decide +kernel
theorem d_G_solve_169 : decode b_G_solve 169 = .ok (.aload_n 0, 1) := by decide +kernel
theorem d_G_solve_170 : decode b_G_solve 170 = .ok (.getfield 28, 3) := by decide +kernel
theorem d_G_solve_173 : decode b_G_solve 173 = .ok (.aload_n 0, 1) := by decide +kernel
theorem d_G_solve_174 : decode b_G_solve 174 = .ok (.getfield 12, 3) := by decide +kernel
