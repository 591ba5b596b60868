theorem d_M_stepOr_54 : decode b_M_stepOr 54 = .ok (.aload_n 0, 1) := by decide +kernel
theorem d_M_stepOr_55 : decode b_M_stepOr 55 = .ok (.getfield 32, 3) := by decide +kernel
theorem d_M_stepOr_58 : decode b_M_stepOr 58 = .ok (.iload_n 1, 1) := by decide +kernel
theorem d_M_stepOr_59 : decode b_M_stepOr 59 = .ok (.iaload, 1) := by decide +kernel
theorem d_M_stepOr_60 : decode b_M_stepOr 60 = .ok (.iconst (-1), 1) := by decide +kernel
theorem d_M_stepOr_61 : decode b_M_stepOr 61 = .ok (.invokevirtual 112, 3) := by decide +kernel
theorem d_M_stepOr_64 : decode b_M_stepOr 64 = .ok (.goto 13, 3) := by decide +kernel
theorem d_M_stepOr_67 : decode b_M_stepOr 67 = .ok (.aload_n 0, 1) := by decide +kernel
theorem d_M_stepOr_68 : decode b_M_stepOr 68 = .ok (.dup, 1) := by decide +kernel
theorem d_M_stepOr_69 : decode b_M_stepOr 69 = .ok (.getfield 57, 3) := by decide +kernel
theorem d_M_stepOr_72 : decode b_M_stepOr 72 = .ok (.iconst 1, 1) := by decide +kernel
theorem d_M_stepOr_73 : decode b_M_stepOr 73 = .ok (.isub, 1) := by decide +kernel
theorem d_M_stepOr_74 : decode b_M_stepOr 74 = .ok (.putfield 57, 3) := by decide +kernel
theorem d_M_stepOr_77 : decode b_M_stepOr 77 = .ok (.return_, 1) := by decide +kernel
theorem d_M_giveAll_0 : decode b_M_giveAll 0 = .ok (.iconst 0, 1) := by decide +kernel
theorem d_M_giveAll_1 : decode b_M_giveAll 1 = .ok (.istore_n 1, 1) := by decide +kernel
theorem d_M_giveAll_2 : decode b_M_giveAll 2 = .ok (.iload_n 1, 1) := by decide +kernel
theorem d_M_giveAll_3 : decode b_M_giveAll 3 = .ok (.aload_n 0, 1) := by decide +kernel
theorem d_M_giveAll_4 : decode b_M_giveAll 4 = .ok (.getfield 54, 3) := by decide +kernel
theorem d_M_giveAll_7 : decode b_M_giveAll 7 = .ok (.aload_n 0, 1) := by decide +kernel
theorem d_M_giveAll_8 : decode b_M_giveAll 8 = .ok (.getfield 57, 3) := by decide +kernel
theorem d_M_giveAll_11 : decode b_M_giveAll 11 = .ok (.iaload, 1) := by decide +kernel
theorem d_M_giveAll_12 : decode b_M_giveAll 12 = .ok (.if_icmp .ge 30, 3) := by decide +kernel
theorem d_M_giveAll_15 : decode b_M_giveAll 15 = .ok (.aload_n 0, 1) := by decide +kernel
theorem d_M_giveAll_16 : decode b_M_giveAll 16 = .ok (.aload_n 0, 1) := by decide +kernel
theorem d_M_giveAll_17 : decode b_M_giveAll 17 = .ok (.getfield 51, 3) := by decide +kernel
theorem d_M_giveAll_20 : decode b_M_giveAll 20 = .ok (.aload_n 0, 1) := by decide +kernel
theorem d_M_giveAll_21 : decode b_M_giveAll 21 = .ok (.iload_n 1, 1) := by decide +kernel
theorem d_M_giveAll_22 : decode b_M_giveAll 22 = .ok (.invokevirtual 115, 3) := by decide +kernel
theorem d_M_giveAll_25 : decode b_M_giveAll 25 = .ok (.iaload, 1) := by decide +kernel
theorem d_M_giveAll_26 : decode b_M_giveAll 26 = .ok (.aload_n 0, 1) := by decide +kernel
theorem d_M_giveAll_27 : decode b_M_giveAll 27 = .ok (.iload_n 1, 1) := by decide +kernel
theorem d_M_giveAll_28 : decode b_M_giveAll 28 = .ok (.invokevirtual 115, 3) := by decide +kernel
theorem d_M_giveAll_31 : decode b_M_giveAll 31 = .ok (.iconst 1, 1) := by decide +kernel
theorem d_M_giveAll_32 : decode b_M_giveAll 32 = .ok (.iadd, 1) := by decide +kernel
theorem d_M_giveAll_33 : decode b_M_giveAll 33 = .ok (.invokevirtual 119, 3) := by decide +kernel
theorem d_M_giveAll_36 : decode b_M_giveAll 36 = .ok (.iinc 1 1, 3) := by decide +kernel
theorem d_M_giveAll_39 : decode b_M_giveAll 39 = .ok (.goto (-37), 3) := by decide +kernel
theorem d_M_giveAll_42 : decode b_M_giveAll 42 = .ok (.return_, 1) := by decide +kernel
theorem d_M_operand_0 : decode b_M_operand 0 = .ok (.aload_n 0, 1) := by decide +kernel
theorem d_M_operand_1 : decode b_M_operand 1 = .ok (.getfield 57, 3) := by decide +kernel
theorem d_M_operand_4 : decode b_M_operand 4 = .ok (.sipush 384, 3) := by decide +kernel
theorem d_M_operand_7 : decode b_M_operand 7 = .ok (.imul, 1) := by decide +kernel
theorem d_M_operand_8 : decode b_M_operand 8 = .ok (.iload_n 1, 1) := by decide +kernel
theorem d_M_operand_9 : decode b_M_operand 9 = .ok (.bipush 6, 2) := by decide +kernel
theorem d_M_operand_11 : decode b_M_operand 11 = .ok (.imul, 1) := by decide +kernel
theorem d_M_operand_12 : decode b_M_operand 12 = .ok (.iadd, 1) := by decide +kernel
theorem d_M_operand_13 : decode b_M_operand 13 = .ok (.ireturn, 1) := by decide +kernel
theorem d_M_give_0 : decode b_M_give 0 = .ok (.aload_n 0, 1) := by decide +kernel
theorem d_M_give_1 : decode b_M_give 1 = .ok (.getfield 57, 3) := by decide +kernel
theorem d_M_give_4 : decode b_M_give 4 = .ok (.iconst 1, 1) := by decide +kernel
theorem d_M_give_5 : decode b_M_give 5 = .ok (.isub, 1) := by decide +kernel
theorem d_M_give_6 : decode b_M_give 6 = .ok (.istore_n 3, 1) := by decide +kernel
theorem d_M_give_7 : decode b_M_give 7 = .ok (.iload_n 3, 1) := by decide +kernel
theorem d_M_give_8 : decode b_M_give 8 = .ok (.sipush 384, 3) := by decide +kernel
theorem d_M_give_11 : decode b_M_give 11 = .ok (.imul, 1) := by decide +kernel
theorem d_M_give_12 : decode b_M_give 12 = .ok (.aload_n 0, 1) := by decide +kernel
theorem d_M_give_13 : decode b_M_give 13 = .ok (.getfield 54, 3) := by decide +kernel
theorem d_M_give_16 : decode b_M_give 16 = .ok (.iload_n 3, 1) := by decide +kernel
theorem d_M_give_17 : decode b_M_give 17 = .ok (.iaload, 1) := by decide +kernel
theorem d_M_give_18 : decode b_M_give 18 = .ok (.bipush 6, 2) := by decide +kernel
theorem d_M_give_20 : decode b_M_give 20 = .ok (.imul, 1) := by decide +kernel
theorem d_M_give_21 : decode b_M_give 21 = .ok (.iadd, 1) := by decide +kernel
theorem d_M_give_22 : decode b_M_give 22 = .ok (.istore 4, 2) := by decide +kernel
theorem d_M_give_24 : decode b_M_give 24 = .ok (.aload_n 0, 1) := by decide +kernel
theorem d_M_give_25 : decode b_M_give 25 = .ok (.getfield 51, 3) := by decide +kernel
theorem d_M_give_28 : decode b_M_give 28 = .ok (.iload 4, 2) := by decide +kernel
theorem d_M_give_30 : decode b_M_give 30 = .ok (.iload_n 1, 1) := by decide +kernel
theorem d_M_give_31 : decode b_M_give 31 = .ok (.iastore, 1) := by decide +kernel
theorem d_M_give_32 : decode b_M_give 32 = .ok (.iconst 0, 1) := by decide +kernel
theorem d_M_give_33 : decode b_M_give 33 = .ok (.istore 5, 2) := by decide +kernel
theorem d_M_give_35 : decode b_M_give 35 = .ok (.iload 5, 2) := by decide +kernel
theorem d_M_give_37 : decode b_M_give 37 = .ok (.iconst 5, 1) := by decide +kernel
theorem d_M_give_38 : decode b_M_give 38 = .ok (.if_icmp .ge 30, 3) := by decide +kernel
theorem d_M_give_41 : decode b_M_give 41 = .ok (.aload_n 0, 1) := by decide +kernel
theorem d_M_give_42 : decode b_M_give 42 = .ok (.getfield 51, 3) := by decide +kernel
theorem d_M_give_45 : decode b_M_give 45 = .ok (.iload 4, 2) := by decide +kernel
theorem d_M_give_47 : decode b_M_give 47 = .ok (.iconst 1, 1) := by decide +kernel
theorem d_M_give_48 : decode b_M_give 48 = .ok (.iadd, 1) := by decide +kernel
theorem d_M_give_49 : decode b_M_give 49 = .ok (.iload 5, 2) := by decide +kernel
theorem d_M_give_51 : decode b_M_give 51 = .ok (.iadd, 1) := by decide +kernel
theorem d_M_give_52 : decode b_M_give 52 = .ok (.aload_n 0, 1) := by decide +kernel
theorem d_M_give_53 : decode b_M_give 53 = .ok (.getfield 51, 3) := by decide +kernel
theorem d_M_give_56 : decode b_M_give 56 = .ok (.iload_n 2, 1) := by decide +kernel
theorem d_M_give_57 : decode b_M_give 57 = .ok (.iload 5, 2) := by decide +kernel
theorem d_M_give_59 : decode b_M_give 59 = .ok (.iadd, 1) := by decide +kernel
theorem d_M_give_60 : decode b_M_give 60 = .ok (.iaload, 1) := by decide +kernel
theorem d_M_give_61 : decode b_M_give 61 = .ok (.iastore, 1) := by decide +kernel
theorem d_M_give_62 : decode b_M_give 62 = .ok (.iinc 5 1, 3) := by decide +kernel
theorem d_M_give_65 : decode b_M_give 65 = .ok (.goto (-30), 3) := by decide +kernel
theorem d_M_give_68 : decode b_M_give 68 = .ok (.aload_n 0, 1) := by decide +kernel
theorem d_M_give_69 : decode b_M_give 69 = .ok (.getfield 54, 3) := by decide +kernel
theorem d_M_give_72 : decode b_M_give 72 = .ok (.iload_n 3, 1) := by decide +kernel
theorem d_M_give_73 : decode b_M_give 73 = .ok (.dup2, 1) := by decide +kernel
theorem d_M_give_74 : decode b_M_give 74 = .ok (.iaload, 1) := by decide +kernel
theorem d_M_give_75 : decode b_M_give 75 = .ok (.iconst 1, 1) := by decide +kernel
theorem d_M_give_76 : decode b_M_give 76 = .ok (.iadd, 1) := by decide +kernel
theorem d_M_give_77 : decode b_M_give 77 = .ok (.iastore, 1) := by decide +kernel
theorem d_M_give_78 : decode b_M_give 78 = .ok (.return_, 1) := by decide +kernel
theorem d_M_stepIf_0 : decode b_M_stepIf 0 = .ok (.aload_n 0, 1) := by decide +kernel
theorem d_M_stepIf_1 : decode b_M_stepIf 1 = .ok (.getfield 63, 3) := by decide +kernel
theorem d_M_stepIf_4 : decode b_M_stepIf 4 = .ok (.aload_n 0, 1) := by decide +kernel
theorem d_M_stepIf_5 : decode b_M_stepIf 5 = .ok (.getfield 57, 3) := by decide +kernel
theorem d_M_stepIf_8 : decode b_M_stepIf 8 = .ok (.iconst 1, 1) := by decide +kernel
theorem d_M_stepIf_9 : decode b_M_stepIf 9 = .ok (.isub, 1) := by decide +kernel
theorem d_M_stepIf_10 : decode b_M_stepIf 10 = .ok (.iaload, 1) := by decide +kernel
theorem d_M_stepIf_11 : decode b_M_stepIf 11 = .ok (.istore_n 2, 1) := by decide +kernel
theorem d_M_stepIf_12 : decode b_M_stepIf 12 = .ok (.aload_n 0, 1) := by decide +kernel
theorem d_M_stepIf_13 : decode b_M_stepIf 13 = .ok (.getfield 63, 3) := by decide +kernel
theorem d_M_stepIf_16 : decode b_M_stepIf 16 = .ok (.aload_n 0, 1) := by decide +kernel
theorem d_M_stepIf_17 : decode b_M_stepIf 17 = .ok (.getfield 57, 3) := by decide +kernel
theorem d_M_stepIf_20 : decode b_M_stepIf 20 = .ok (.iconst 1, 1) := by decide +kernel
theorem d_M_stepIf_21 : decode b_M_stepIf 21 = .ok (.isub, 1) := by decide +kernel
theorem d_M_stepIf_22 : decode b_M_stepIf 22 = .ok (.dup2, 1) := by decide +kernel
theorem d_M_stepIf_23 : decode b_M_stepIf 23 = .ok (.iaload, 1) := by decide +kernel
theorem d_M_stepIf_24 : decode b_M_stepIf 24 = .ok (.iconst 1, 1) := by decide +kernel
theorem d_M_stepIf_25 : decode b_M_stepIf 25 = .ok (.iadd, 1) := by decide +kernel
theorem d_M_stepIf_26 : decode b_M_stepIf 26 = .ok (.iastore, 1) := by decide +kernel
theorem d_M_stepIf_27 : decode b_M_stepIf 27 = .ok (.iload_n 2, 1) := by decide +kernel
theorem d_M_stepIf_28 : decode b_M_stepIf 28 = .ok (.ifCond .ne 17, 3) := by decide +kernel
theorem d_M_stepIf_31 : decode b_M_stepIf 31 = .ok (.aload_n 0, 1) := by decide +kernel
theorem d_M_stepIf_32 : decode b_M_stepIf 32 = .ok (.aload_n 0, 1) := by decide +kernel
theorem d_M_stepIf_33 : decode b_M_stepIf 33 = .ok (.getfield 29, 3) := by decide +kernel
theorem d_M_stepIf_36 : decode b_M_stepIf 36 = .ok (.iload_n 1, 1) := by decide +kernel
theorem d_M_stepIf_37 : decode b_M_stepIf 37 = .ok (.iaload, 1) := by decide +kernel
theorem d_M_stepIf_38 : decode b_M_stepIf 38 = .ok (.iconst (-1), 1) := by decide +kernel
theorem d_M_stepIf_39 : decode b_M_stepIf 39 = .ok (.invokevirtual 112, 3) := by decide +kernel
theorem d_M_stepIf_42 : decode b_M_stepIf 42 = .ok (.goto 73, 3) := by decide +kernel
theorem d_M_stepIf_45 : decode b_M_stepIf 45 = .ok (.iload_n 2, 1) := by decide +kernel
theorem d_M_stepIf_46 : decode b_M_stepIf 46 = .ok (.iconst 1, 1) := by decide +kernel
theorem d_M_stepIf_47 : decode b_M_stepIf 47 = .ok (.if_icmp .ne 35, 3) := by decide +kernel
theorem d_M_stepIf_50 : decode b_M_stepIf 50 = .ok (.aload_n 0, 1) := by decide +kernel
theorem d_M_stepIf_51 : decode b_M_stepIf 51 = .ok (.getfield 54, 3) := by decide +kernel
theorem d_M_stepIf_54 : decode b_M_stepIf 54 = .ok (.aload_n 0, 1) := by decide +kernel
theorem d_M_stepIf_55 : decode b_M_stepIf 55 = .ok (.getfield 57, 3) := by decide +kernel
theorem d_M_stepIf_58 : decode b_M_stepIf 58 = .ok (.iaload, 1) := by decide +kernel
theorem d_M_stepIf_59 : decode b_M_stepIf 59 = .ok (.ifCond .le 23, 3) := by decide +kernel
theorem d_M_stepIf_62 : decode b_M_stepIf 62 = .ok (.aload_n 0, 1) := by decide +kernel
theorem d_M_stepIf_63 : decode b_M_stepIf 63 = .ok (.aload_n 0, 1) := by decide +kernel
theorem d_M_stepIf_64 : decode b_M_stepIf 64 = .ok (.getfield 32, 3) := by decide +kernel
theorem d_M_stepIf_67 : decode b_M_stepIf 67 = .ok (.iload_n 1, 1) := by decide +kernel
theorem d_M_stepIf_68 : decode b_M_stepIf 68 = .ok (.iaload, 1) := by decide +kernel
theorem d_M_stepIf_69 : decode b_M_stepIf 69 = .ok (.aload_n 0, 1) := by decide +kernel
theorem d_M_stepIf_70 : decode b_M_stepIf 70 = .ok (.iconst 0, 1) := by decide +kernel
theorem d_M_stepIf_71 : decode b_M_stepIf 71 = .ok (.invokevirtual 115, 3) := by decide +kernel
theorem d_M_stepIf_74 : decode b_M_stepIf 74 = .ok (.iconst 1, 1) := by decide +kernel
theorem d_M_stepIf_75 : decode b_M_stepIf 75 = .ok (.iadd, 1) := by decide +kernel
theorem d_M_stepIf_76 : decode b_M_stepIf 76 = .ok (.invokevirtual 112, 3) := by decide +kernel
theorem d_M_stepIf_79 : decode b_M_stepIf 79 = .ok (.goto 36, 3) := by decide +kernel
theorem d_M_stepIf_82 : decode b_M_stepIf 82 = .ok (.iload_n 2, 1) := by decide +kernel
theorem d_M_stepIf_83 : decode b_M_stepIf 83 = .ok (.iconst 1, 1) := by decide +kernel
theorem d_M_stepIf_84 : decode b_M_stepIf 84 = .ok (.if_icmp .ne 17, 3) := by decide +kernel
theorem d_M_stepIf_87 : decode b_M_stepIf 87 = .ok (.aload_n 0, 1) := by decide +kernel
theorem d_M_stepIf_88 : decode b_M_stepIf 88 = .ok (.aload_n 0, 1) := by decide +kernel
theorem d_M_stepIf_89 : decode b_M_stepIf 89 = .ok (.getfield 35, 3) := by decide +kernel
theorem d_M_stepIf_92 : decode b_M_stepIf 92 = .ok (.iload_n 1, 1) := by decide +kernel
theorem d_M_stepIf_93 : decode b_M_stepIf 93 = .ok (.iaload, 1) := by decide +kernel
theorem d_M_stepIf_94 : decode b_M_stepIf 94 = .ok (.iconst (-1), 1) := by decide +kernel
theorem d_M_stepIf_95 : decode b_M_stepIf 95 = .ok (.invokevirtual 112, 3) := by decide +kernel
theorem d_M_stepIf_98 : decode b_M_stepIf 98 = .ok (.goto 17, 3) := by decide +kernel
theorem d_M_stepIf_101 : decode b_M_stepIf 101 = .ok (.aload_n 0, 1) := by decide +kernel
theorem d_M_stepIf_102 : decode b_M_stepIf 102 = .ok (.invokevirtual 122, 3) := by decide +kernel
theorem d_M_stepIf_105 : decode b_M_stepIf 105 = .ok (.aload_n 0, 1) := by decide +kernel
theorem d_M_stepIf_106 : decode b_M_stepIf 106 = .ok (.dup, 1) := by decide +kernel
theorem d_M_stepIf_107 : decode b_M_stepIf 107 = .ok (.getfield 57, 3) := by decide +kernel
theorem d_M_stepIf_110 : decode b_M_stepIf 110 = .ok (.iconst 1, 1) := by decide +kernel
theorem d_M_stepIf_111 : decode b_M_stepIf 111 = .ok (.isub, 1) := by decide +kernel
theorem d_M_stepIf_112 : decode b_M_stepIf 112 = .ok (.putfield 57, 3) := by decide +kernel
theorem d_M_stepIf_115 : decode b_M_stepIf 115 = .ok (.return_, 1) := by decide +kernel
theorem d_M_stepPairs_0 : decode b_M_stepPairs 0 = .ok (.aload_n 0, 1) := by decide +kernel
theorem d_M_stepPairs_1 : decode b_M_stepPairs 1 = .ok (.getfield 57, 3) := by decide +kernel
theorem d_M_stepPairs_4 : decode b_M_stepPairs 4 = .ok (.iconst 1, 1) := by decide +kernel
theorem d_M_stepPairs_5 : decode b_M_stepPairs 5 = .ok (.isub, 1) := by decide +kernel
theorem d_M_stepPairs_6 : decode b_M_stepPairs 6 = .ok (.istore_n 3, 1) := by decide +kernel
theorem d_M_stepPairs_7 : decode b_M_stepPairs 7 = .ok (.bipush 8, 2) := by decide +kernel
theorem d_M_stepPairs_9 : decode b_M_stepPairs 9 = .ok (.iload_n 3, 1) := by decide +kernel
theorem d_M_stepPairs_10 : decode b_M_stepPairs 10 = .ok (.iadd, 1) := by decide +kernel
theorem d_M_stepPairs_11 : decode b_M_stepPairs 11 = .ok (.sipush 384, 3) := by decide +kernel
theorem d_M_stepPairs_14 : decode b_M_stepPairs 14 = .ok (.imul, 1) := by decide +kernel
theorem d_M_stepPairs_15 : decode b_M_stepPairs 15 = .ok (.istore 4, 2) := by decide +kernel
theorem d_M_stepPairs_17 : decode b_M_stepPairs 17 = .ok (.aload_n 0, 1) := by decide +kernel
theorem d_M_stepPairs_18 : decode b_M_stepPairs 18 = .ok (.getfield 63, 3) := by decide +kernel
theorem d_M_stepPairs_21 : decode b_M_stepPairs 21 = .ok (.iload_n 3, 1) := by decide +kernel
theorem d_M_stepPairs_22 : decode b_M_stepPairs 22 = .ok (.iaload, 1) := by decide +kernel
theorem d_M_stepPairs_23 : decode b_M_stepPairs 23 = .ok (.ifCond .ne 22, 3) := by decide +kernel
theorem d_M_stepPairs_26 : decode b_M_stepPairs 26 = .ok (.aload_n 0, 1) := by decide +kernel
theorem d_M_stepPairs_27 : decode b_M_stepPairs 27 = .ok (.getfield 63, 3) := by decide +kernel
theorem d_M_stepPairs_30 : decode b_M_stepPairs 30 = .ok (.iload_n 3, 1) := by decide +kernel
theorem d_M_stepPairs_31 : decode b_M_stepPairs 31 = .ok (.iconst 1, 1) := by decide +kernel
theorem d_M_stepPairs_32 : decode b_M_stepPairs 32 = .ok (.iastore, 1) := by decide +kernel
theorem d_M_stepPairs_33 : decode b_M_stepPairs 33 = .ok (.aload_n 0, 1) := by decide +kernel
theorem d_M_stepPairs_34 : decode b_M_stepPairs 34 = .ok (.aload_n 0, 1) := by decide +kernel
theorem d_M_stepPairs_35 : decode b_M_stepPairs 35 = .ok (.getfield 29, 3) := by decide +kernel
theorem d_M_stepPairs_38 : decode b_M_stepPairs 38 = .ok (.iload_n 1, 1) := by decide +kernel
theorem d_M_stepPairs_39 : decode b_M_stepPairs 39 = .ok (.iaload, 1) := by decide +kernel
theorem d_M_stepPairs_40 : decode b_M_stepPairs 40 = .ok (.iconst (-1), 1) := by decide +kernel
theorem d_M_stepPairs_41 : decode b_M_stepPairs 41 = .ok (.invokevirtual 112, 3) := by decide +kernel
theorem d_M_stepPairs_44 : decode b_M_stepPairs 44 = .ok (.return_, 1) := by decide +kernel
theorem d_M_stepPairs_45 : decode b_M_stepPairs 45 = .ok (.aload_n 0, 1) := by decide +kernel
theorem d_M_stepPairs_46 : decode b_M_stepPairs 46 = .ok (.getfield 63, 3) := by decide +kernel
theorem d_M_stepPairs_49 : decode b_M_stepPairs 49 = .ok (.iload_n 3, 1) := by decide +kernel
theorem d_M_stepPairs_50 : decode b_M_stepPairs 50 = .ok (.iaload, 1) := by decide +kernel
theorem d_M_stepPairs_51 : decode b_M_stepPairs 51 = .ok (.iconst 1, 1) := by decide +kernel
theorem d_M_stepPairs_52 : decode b_M_stepPairs 52 = .ok (.if_icmp .ne 90, 3) := by decide +kernel
theorem d_M_stepPairs_55 : decode b_M_stepPairs 55 = .ok (.aload_n 0, 1) := by decide +kernel
theorem d_M_stepPairs_56 : decode b_M_stepPairs 56 = .ok (.getfield 54, 3) := by decide +kernel
theorem d_M_stepPairs_59 : decode b_M_stepPairs 59 = .ok (.bipush 8, 2) := by decide +kernel
theorem d_M_stepPairs_61 : decode b_M_stepPairs 61 = .ok (.iload_n 3, 1) := by decide +kernel
theorem d_M_stepPairs_62 : decode b_M_stepPairs 62 = .ok (.iadd, 1) := by decide +kernel
theorem d_M_stepPairs_63 : decode b_M_stepPairs 63 = .ok (.aload_n 0, 1) := by decide +kernel
theorem d_M_stepPairs_64 : decode b_M_stepPairs 64 = .ok (.getfield 54, 3) := by decide +kernel
theorem d_M_stepPairs_67 : decode b_M_stepPairs 67 = .ok (.aload_n 0, 1) := by decide +kernel
theorem d_M_stepPairs_68 : decode b_M_stepPairs 68 = .ok (.getfield 57, 3) := by decide +kernel
theorem d_M_stepPairs_71 : decode b_M_stepPairs 71 = .ok (.iaload, 1) := by decide +kernel
theorem d_M_stepPairs_72 : decode b_M_stepPairs 72 = .ok (.iastore, 1) := by decide +kernel
theorem d_M_stepPairs_73 : decode b_M_stepPairs 73 = .ok (.iconst 0, 1) := by decide +kernel
theorem d_M_stepPairs_74 : decode b_M_stepPairs 74 = .ok (.istore 5, 2) := by decide +kernel
theorem d_M_stepPairs_76 : decode b_M_stepPairs 76 = .ok (.iload 5, 2) := by decide +kernel
theorem d_M_stepPairs_78 : decode b_M_stepPairs 78 = .ok (.aload_n 0, 1) := by decide +kernel
theorem d_M_stepPairs_79 : decode b_M_stepPairs 79 = .ok (.getfield 54, 3) := by decide +kernel
theorem d_M_stepPairs_82 : decode b_M_stepPairs 82 = .ok (.aload_n 0, 1) := by decide +kernel
theorem d_M_stepPairs_83 : decode b_M_stepPairs 83 = .ok (.getfield 57, 3) := by decide +kernel
theorem d_M_stepPairs_86 : decode b_M_stepPairs 86 = .ok (.iaload, 1) := by decide +kernel
theorem d_M_stepPairs_87 : decode b_M_stepPairs 87 = .ok (.bipush 6, 2) := by decide +kernel
theorem d_M_stepPairs_89 : decode b_M_stepPairs 89 = .ok (.imul, 1) := by decide +kernel
theorem d_M_stepPairs_90 : decode b_M_stepPairs 90 = .ok (.if_icmp .ge 35, 3) := by decide +kernel
theorem d_M_stepPairs_93 : decode b_M_stepPairs 93 = .ok (.aload_n 0, 1) := by decide +kernel
theorem d_M_stepPairs_94 : decode b_M_stepPairs 94 = .ok (.getfield 51, 3) := by decide +kernel
theorem d_M_stepPairs_97 : decode b_M_stepPairs 97 = .ok (.iload 4, 2) := by decide +kernel
theorem d_M_stepPairs_99 : decode b_M_stepPairs 99 = .ok (.iload 5, 2) := by decide +kernel
theorem d_M_stepPairs_101 : decode b_M_stepPairs 101 = .ok (.iadd, 1) := by decide +kernel
theorem d_M_stepPairs_102 : decode b_M_stepPairs 102 = .ok (.aload_n 0, 1) := by decide +kernel
theorem d_M_stepPairs_103 : decode b_M_stepPairs 103 = .ok (.getfield 51, 3) := by decide +kernel
theorem d_M_stepPairs_106 : decode b_M_stepPairs 106 = .ok (.aload_n 0, 1) := by decide +kernel
theorem d_M_stepPairs_107 : decode b_M_stepPairs 107 = .ok (.getfield 57, 3) := by decide +kernel
theorem d_M_stepPairs_110 : decode b_M_stepPairs 110 = .ok (.sipush 384, 3) := by decide +kernel
theorem d_M_stepPairs_113 : decode b_M_stepPairs 113 = .ok (.imul, 1) := by decide +kernel
theorem d_M_stepPairs_114 : decode b_M_stepPairs 114 = .ok (.iload 5, 2) := by decide +kernel
theorem d_M_stepPairs_116 : decode b_M_stepPairs 116 = .ok (.iadd, 1) := by decide +kernel
theorem d_M_stepPairs_117 : decode b_M_stepPairs 117 = .ok (.iaload, 1) := by decide +kernel
theorem d_M_stepPairs_118 : decode b_M_stepPairs 118 = .ok (.iastore, 1) := by decide +kernel
theorem d_M_stepPairs_119 : decode b_M_stepPairs 119 = .ok (.iinc 5 1, 3) := by decide +kernel
theorem d_M_stepPairs_122 : decode b_M_stepPairs 122 = .ok (.goto (-46), 3) := by decide +kernel
theorem d_M_stepPairs_125 : decode b_M_stepPairs 125 = .ok (.aload_n 0, 1) := by decide +kernel
theorem d_M_stepPairs_126 : decode b_M_stepPairs 126 = .ok (.getfield 66, 3) := by decide +kernel
theorem d_M_stepPairs_129 : decode b_M_stepPairs 129 = .ok (.iload_n 3, 1) := by decide +kernel
theorem d_M_stepPairs_130 : decode b_M_stepPairs 130 = .ok (.iconst 0, 1) := by decide +kernel
theorem d_M_stepPairs_131 : decode b_M_stepPairs 131 = .ok (.iastore, 1) := by decide +kernel
theorem d_M_stepPairs_132 : decode b_M_stepPairs 132 = .ok (.aload_n 0, 1) := by decide +kernel
theorem d_M_stepPairs_133 : decode b_M_stepPairs 133 = .ok (.getfield 63, 3) := by decide +kernel
theorem d_M_stepPairs_136 : decode b_M_stepPairs 136 = .ok (.iload_n 3, 1) := by decide +kernel
theorem d_M_stepPairs_137 : decode b_M_stepPairs 137 = .ok (.iconst 2, 1) := by decide +kernel
theorem d_M_stepPairs_138 : decode b_M_stepPairs 138 = .ok (.iastore, 1) := by decide +kernel
theorem d_M_stepPairs_139 : decode b_M_stepPairs 139 = .ok (.goto 60, 3) := by decide +kernel
theorem d_M_stepPairs_142 : decode b_M_stepPairs 142 = .ok (.iconst 0, 1) := by decide +kernel
theorem d_M_stepPairs_143 : decode b_M_stepPairs 143 = .ok (.istore 5, 2) := by decide +kernel
theorem d_M_stepPairs_145 : decode b_M_stepPairs 145 = .ok (.iload 5, 2) := by decide +kernel
theorem d_M_stepPairs_147 : decode b_M_stepPairs 147 = .ok (.aload_n 0, 1) := by decide +kernel
theorem d_M_stepPairs_148 : decode b_M_stepPairs 148 = .ok (.getfield 54, 3) := by decide +kernel
theorem d_M_stepPairs_151 : decode b_M_stepPairs 151 = .ok (.aload_n 0, 1) := by decide +kernel
theorem d_M_stepPairs_152 : decode b_M_stepPairs 152 = .ok (.getfield 57, 3) := by decide +kernel
theorem d_M_stepPairs_155 : decode b_M_stepPairs 155 = .ok (.iaload, 1) := by decide +kernel
theorem d_M_stepPairs_156 : decode b_M_stepPairs 156 = .ok (.if_icmp .ge 33, 3) := by decide +kernel
theorem d_M_stepPairs_159 : decode b_M_stepPairs 159 = .ok (.aload_n 0, 1) := by decide +kernel
theorem d_M_stepPairs_160 : decode b_M_stepPairs 160 = .ok (.iload_n 2, 1) := by decide +kernel
theorem d_M_stepPairs_161 : decode b_M_stepPairs 161 = .ok (.aload_n 0, 1) := by decide +kernel
theorem d_M_stepPairs_162 : decode b_M_stepPairs 162 = .ok (.getfield 51, 3) := by decide +kernel
theorem d_M_stepPairs_165 : decode b_M_stepPairs 165 = .ok (.iload 4, 2) := by decide +kernel
theorem d_M_stepPairs_167 : decode b_M_stepPairs 167 = .ok (.aload_n 0, 1) := by decide +kernel
theorem d_M_stepPairs_168 : decode b_M_stepPairs 168 = .ok (.getfield 66, 3) := by decide +kernel
theorem d_M_stepPairs_171 : decode b_M_stepPairs 171 = .ok (.iload_n 3, 1) := by decide +kernel
theorem d_M_stepPairs_172 : decode b_M_stepPairs 172 = .ok (.iaload, 1) := by decide +kernel
theorem d_M_stepPairs_173 : decode b_M_stepPairs 173 = .ok (.bipush 6, 2) := by decide +kernel
theorem d_M_stepPairs_175 : decode b_M_stepPairs 175 = .ok (.imul, 1) := by decide +kernel
theorem d_M_stepPairs_176 : decode b_M_stepPairs 176 = .ok (.iadd, 1) := by decide +kernel
theorem d_M_stepPairs_177 : decode b_M_stepPairs 177 = .ok (.iaload, 1) := by decide +kernel
theorem d_M_stepPairs_178 : decode b_M_stepPairs 178 = .ok (.iload 5, 2) := by decide +kernel
theorem d_M_stepPairs_180 : decode b_M_stepPairs 180 = .ok (.invokevirtual 127, 3) := by decide +kernel
theorem d_M_stepPairs_183 : decode b_M_stepPairs 183 = .ok (.iinc 5 1, 3) := by decide +kernel
theorem d_M_stepPairs_186 : decode b_M_stepPairs 186 = .ok (.goto (-41), 3) := by decide +kernel
theorem d_M_stepPairs_189 : decode b_M_stepPairs 189 = .ok (.aload_n 0, 1) := by decide +kernel
theorem d_M_stepPairs_190 : decode b_M_stepPairs 190 = .ok (.getfield 66, 3) := by decide +kernel
theorem d_M_stepPairs_193 : decode b_M_stepPairs 193 = .ok (.iload_n 3, 1) := by decide +kernel
theorem d_M_stepPairs_194 : decode b_M_stepPairs 194 = .ok (.dup2, 1) := by decide +kernel
theorem d_M_stepPairs_195 : decode b_M_stepPairs 195 = .ok (.iaload, 1) := by decide +kernel
theorem d_M_stepPairs_196 : decode b_M_stepPairs 196 = .ok (.iconst 1, 1) := by decide +kernel
theorem d_M_stepPairs_197 : decode b_M_stepPairs 197 = .ok (.iadd, 1) := by decide +kernel
theorem d_M_stepPairs_198 : decode b_M_stepPairs 198 = .ok (.iastore, 1) := by decide +kernel
theorem d_M_stepPairs_199 : decode b_M_stepPairs 199 = .ok (.aload_n 0, 1) := by decide +kernel
theorem d_M_stepPairs_200 : decode b_M_stepPairs 200 = .ok (.getfield 66, 3) := by decide +kernel
theorem d_M_stepPairs_203 : decode b_M_stepPairs 203 = .ok (.iload_n 3, 1) := by decide +kernel
theorem d_M_stepPairs_204 : decode b_M_stepPairs 204 = .ok (.iaload, 1) := by decide +kernel
theorem d_M_stepPairs_205 : decode b_M_stepPairs 205 = .ok (.aload_n 0, 1) := by decide +kernel
theorem d_M_stepPairs_206 : decode b_M_stepPairs 206 = .ok (.getfield 54, 3) := by decide +kernel
theorem d_M_stepPairs_209 : decode b_M_stepPairs 209 = .ok (.bipush 8, 2) := by decide +kernel
theorem d_M_stepPairs_211 : decode b_M_stepPairs 211 = .ok (.iload_n 3, 1) := by decide +kernel
theorem d_M_stepPairs_212 : decode b_M_stepPairs 212 = .ok (.iadd, 1) := by decide +kernel
theorem d_M_stepPairs_213 : decode b_M_stepPairs 213 = .ok (.iaload, 1) := by decide +kernel
theorem d_M_stepPairs_214 : decode b_M_stepPairs 214 = .ok (.if_icmp .ge 30, 3) := by decide +kernel
theorem d_M_stepPairs_217 : decode b_M_stepPairs 217 = .ok (.aload_n 0, 1) := by decide +kernel
theorem d_M_stepPairs_218 : decode b_M_stepPairs 218 = .ok (.aload_n 0, 1) := by decide +kernel
theorem d_M_stepPairs_219 : decode b_M_stepPairs 219 = .ok (.getfield 32, 3) := by decide +kernel
theorem d_M_stepPairs_222 : decode b_M_stepPairs 222 = .ok (.iload_n 1, 1) := by decide +kernel
theorem d_M_stepPairs_223 : decode b_M_stepPairs 223 = .ok (.iaload, 1) := by decide +kernel
theorem d_M_stepPairs_224 : decode b_M_stepPairs 224 = .ok (.iload 4, 2) := by decide +kernel
theorem d_M_stepPairs_226 : decode b_M_stepPairs 226 = .ok (.aload_n 0, 1) := by decide +kernel
theorem d_M_stepPairs_227 : decode b_M_stepPairs 227 = .ok (.getfield 66, 3) := by decide +kernel
theorem d_M_stepPairs_230 : decode b_M_stepPairs 230 = .ok (.iload_n 3, 1) := by decide +kernel
theorem d_M_stepPairs_231 : decode b_M_stepPairs 231 = .ok (.iaload, 1) := by decide +kernel
theorem d_M_stepPairs_232 : decode b_M_stepPairs 232 = .ok (.bipush 6, 2) := by decide +kernel
theorem d_M_stepPairs_234 : decode b_M_stepPairs 234 = .ok (.imul, 1) := by decide +kernel
theorem d_M_stepPairs_235 : decode b_M_stepPairs 235 = .ok (.iadd, 1) := by decide +kernel
theorem d_M_stepPairs_236 : decode b_M_stepPairs 236 = .ok (.iconst 1, 1) := by decide +kernel
theorem d_M_stepPairs_237 : decode b_M_stepPairs 237 = .ok (.iadd, 1) := by decide +kernel
theorem d_M_stepPairs_238 : decode b_M_stepPairs 238 = .ok (.invokevirtual 112, 3) := by decide +kernel
theorem d_M_stepPairs_241 : decode b_M_stepPairs 241 = .ok (.goto 13, 3) := by decide +kernel
theorem d_M_stepPairs_244 : decode b_M_stepPairs 244 = .ok (.aload_n 0, 1) := by decide +kernel
theorem d_M_stepPairs_245 : decode b_M_stepPairs 245 = .ok (.dup, 1) := by decide +kernel
theorem d_M_stepPairs_246 : decode b_M_stepPairs 246 = .ok (.getfield 57, 3) := by decide +kernel
theorem d_M_stepPairs_249 : decode b_M_stepPairs 249 = .ok (.iconst 1, 1) := by decide +kernel
theorem d_M_stepPairs_250 : decode b_M_stepPairs 250 = .ok (.isub, 1) := by decide +kernel
theorem d_M_stepPairs_251 : decode b_M_stepPairs 251 = .ok (.putfield 57, 3) := by decide +kernel
theorem d_M_stepPairs_254 : decode b_M_stepPairs 254 = .ok (.return_, 1) := by decide +kernel
theorem d_M_pair_0 : decode b_M_pair 0 = .ok (.aload_n 0, 1) := by decide +kernel
theorem d_M_pair_1 : decode b_M_pair 1 = .ok (.getfield 51, 3) := by decide +kernel
theorem d_M_pair_4 : decode b_M_pair 4 = .ok (.aload_n 0, 1) := by decide +kernel
theorem d_M_pair_5 : decode b_M_pair 5 = .ok (.iload_n 3, 1) := by decide +kernel
theorem d_M_pair_6 : decode b_M_pair 6 = .ok (.invokevirtual 115, 3) := by decide +kernel
theorem d_M_pair_9 : decode b_M_pair 9 = .ok (.iaload, 1) := by decide +kernel
theorem d_M_pair_10 : decode b_M_pair 10 = .ok (.istore 4, 2) := by decide +kernel
theorem d_M_pair_12 : decode b_M_pair 12 = .ok (.aload_n 0, 1) := by decide +kernel
theorem d_M_pair_13 : decode b_M_pair 13 = .ok (.iload_n 3, 1) := by decide +kernel
theorem d_M_pair_14 : decode b_M_pair 14 = .ok (.invokevirtual 115, 3) := by decide +kernel
theorem d_M_pair_17 : decode b_M_pair 17 = .ok (.iconst 1, 1) := by decide +kernel
theorem d_M_pair_18 : decode b_M_pair 18 = .ok (.iadd, 1) := by decide +kernel
theorem d_M_pair_19 : decode b_M_pair 19 = .ok (.istore 5, 2) := by decide +kernel
theorem d_M_pair_21 : decode b_M_pair 21 = .ok (.iload_n 1, 1) := by decide +kernel
theorem d_M_pair_22 : decode b_M_pair 22 = .ok (.bipush 9, 2) := by decide +kernel
theorem d_M_pair_24 : decode b_M_pair 24 = .ok (.if_icmp .ne 13, 3) := by decide +kernel
theorem d_M_pair_27 : decode b_M_pair 27 = .ok (.aload_n 0, 1) := by decide +kernel
theorem d_M_pair_28 : decode b_M_pair 28 = .ok (.iload_n 2, 1) := by decide +kernel
theorem d_M_pair_29 : decode b_M_pair 29 = .ok (.iload 4, 2) := by decide +kernel
theorem d_M_pair_31 : decode b_M_pair 31 = .ok (.iadd, 1) := by decide +kernel
theorem d_M_pair_32 : decode b_M_pair 32 = .ok (.iload 5, 2) := by decide +kernel
theorem d_M_pair_34 : decode b_M_pair 34 = .ok (.invokevirtual 119, 3) := by decide +kernel
theorem d_M_pair_37 : decode b_M_pair 37 = .ok (.iload_n 1, 1) := by decide +kernel
theorem d_M_pair_38 : decode b_M_pair 38 = .ok (.bipush 10, 2) := by decide +kernel
theorem d_M_pair_40 : decode b_M_pair 40 = .ok (.if_icmp .ne 13, 3) := by decide +kernel
theorem d_M_pair_43 : decode b_M_pair 43 = .ok (.aload_n 0, 1) := by decide +kernel
theorem d_M_pair_44 : decode b_M_pair 44 = .ok (.iload_n 2, 1) := by decide +kernel
theorem d_M_pair_45 : decode b_M_pair 45 = .ok (.iload 4, 2) := by decide +kernel
theorem d_M_pair_47 : decode b_M_pair 47 = .ok (.isub, 1) := by decide +kernel
theorem d_M_pair_48 : decode b_M_pair 48 = .ok (.iload 5, 2) := by decide +kernel
theorem d_M_pair_50 : decode b_M_pair 50 = .ok (.invokevirtual 119, 3) := by decide +kernel
theorem d_M_pair_53 : decode b_M_pair 53 = .ok (.iload_n 1, 1) := by decide +kernel
theorem d_M_pair_54 : decode b_M_pair 54 = .ok (.bipush 11, 2) := by decide +kernel
theorem d_M_pair_56 : decode b_M_pair 56 = .ok (.if_icmp .ne 13, 3) := by decide +kernel
theorem d_M_pair_59 : decode b_M_pair 59 = .ok (.aload_n 0, 1) := by decide +kernel
theorem d_M_pair_60 : decode b_M_pair 60 = .ok (.iload_n 2, 1) := by decide +kernel
theorem d_M_pair_61 : decode b_M_pair 61 = .ok (.iload 4, 2) := by decide +kernel
theorem d_M_pair_63 : decode b_M_pair 63 = .ok (.imul, 1) := by decide +kernel
theorem d_M_pair_64 : decode b_M_pair 64 = .ok (.iload 5, 2) := by decide +kernel
theorem d_M_pair_66 : decode b_M_pair 66 = .ok (.invokevirtual 119, 3) := by decide +kernel
theorem d_M_pair_69 : decode b_M_pair 69 = .ok (.iload_n 1, 1) := by decide +kernel
theorem d_M_pair_70 : decode b_M_pair 70 = .ok (.bipush 12, 2) := by decide +kernel
theorem d_M_pair_72 : decode b_M_pair 72 = .ok (.if_icmp .ne 9, 3) := by decide +kernel
theorem d_M_pair_75 : decode b_M_pair 75 = .ok (.iload_n 2, 1) := by decide +kernel
theorem d_M_pair_76 : decode b_M_pair 76 = .ok (.iload 4, 2) := by decide +kernel
theorem d_M_pair_78 : decode b_M_pair 78 = .ok (.if_icmp .lt 21, 3) := by decide +kernel
theorem d_M_pair_81 : decode b_M_pair 81 = .ok (.iload_n 1, 1) := by decide +kernel
theorem d_M_pair_82 : decode b_M_pair 82 = .ok (.bipush 13, 2) := by decide +kernel
theorem d_M_pair_84 : decode b_M_pair 84 = .ok (.if_icmp .ne 9, 3) := by decide +kernel
theorem d_M_pair_87 : decode b_M_pair 87 = .ok (.iload_n 2, 1) := by decide +kernel
theorem d_M_pair_88 : decode b_M_pair 88 = .ok (.iload 4, 2) := by decide +kernel
theorem d_M_pair_90 : decode b_M_pair 90 = .ok (.if_icmp .eq 9, 3) := by decide +kernel
theorem d_M_pair_93 : decode b_M_pair 93 = .ok (.iload_n 1, 1) := by decide +kernel
theorem d_M_pair_94 : decode b_M_pair 94 = .ok (.bipush 16, 2) := by decide +kernel
theorem d_M_pair_96 : decode b_M_pair 96 = .ok (.if_icmp .ne 11, 3) := by decide +kernel
theorem d_M_pair_99 : decode b_M_pair 99 = .ok (.aload_n 0, 1) := by decide +kernel
theorem d_M_pair_100 : decode b_M_pair 100 = .ok (.iload 4, 2) := by decide +kernel
theorem d_M_pair_102 : decode b_M_pair 102 = .ok (.iload 5, 2) := by decide +kernel
theorem d_M_pair_104 : decode b_M_pair 104 = .ok (.invokevirtual 119, 3) := by decide +kernel
theorem d_M_pair_107 : decode b_M_pair 107 = .ok (.iload_n 1, 1) := by decide +kernel
theorem d_M_pair_108 : decode b_M_pair 108 = .ok (.bipush 14, 2) := by decide +kernel
theorem d_M_pair_110 : decode b_M_pair 110 = .ok (.if_icmp .ne 46, 3) := by decide +kernel
theorem d_M_pair_113 : decode b_M_pair 113 = .ok (.iload_n 2, 1) := by decide +kernel
theorem d_M_pair_114 : decode b_M_pair 114 = .ok (.i2l, 1) := by decide +kernel
theorem d_M_pair_115 : decode b_M_pair 115 = .ok (.lstore 6, 2) := by decide +kernel
theorem d_M_pair_117 : decode b_M_pair 117 = .ok (.lload 6, 2) := by decide +kernel
theorem d_M_pair_119 : decode b_M_pair 119 = .ok (.iload 4, 2) := by decide +kernel
theorem d_M_pair_121 : decode b_M_pair 121 = .ok (.i2l, 1) := by decide +kernel
theorem d_M_pair_122 : decode b_M_pair 122 = .ok (.lcmp, 1) := by decide +kernel
theorem d_M_pair_123 : decode b_M_pair 123 = .ok (.ifCond .gt 33, 3) := by decide +kernel
theorem d_M_pair_126 : decode b_M_pair 126 = .ok (.lload 6, 2) := by decide +kernel
theorem d_M_pair_128 : decode b_M_pair 128 = .ok (.iload_n 2, 1) := by decide +kernel
theorem d_M_pair_129 : decode b_M_pair 129 = .ok (.i2l, 1) := by decide +kernel
theorem d_M_pair_130 : decode b_M_pair 130 = .ok (.ldc2_w 125, 3) := by decide +kernel
theorem d_M_pair_133 : decode b_M_pair 133 = .ok (.ladd, 1) := by decide +kernel
theorem d_M_pair_134 : decode b_M_pair 134 = .ok (.lcmp, 1) := by decide +kernel
theorem d_M_pair_135 : decode b_M_pair 135 = .ok (.ifCond .ge 21, 3) := by decide +kernel
theorem d_M_pair_138 : decode b_M_pair 138 = .ok (.aload_n 0, 1) := by decide +kernel
theorem d_M_pair_139 : decode b_M_pair 139 = .ok (.lload 6, 2) := by decide +kernel
theorem d_M_pair_141 : decode b_M_pair 141 = .ok (.l2i, 1) := by decide +kernel
theorem d_M_pair_142 : decode b_M_pair 142 = .ok (.iload 5, 2) := by decide +kernel
theorem d_M_pair_144 : decode b_M_pair 144 = .ok (.invokevirtual 119, 3) := by decide +kernel
theorem d_M_pair_147 : decode b_M_pair 147 = .ok (.lload 6, 2) := by decide +kernel
theorem d_M_pair_149 : decode b_M_pair 149 = .ok (.lconst 1, 1) := by decide +kernel
theorem d_M_pair_150 : decode b_M_pair 150 = .ok (.ladd, 1) := by decide +kernel
theorem d_M_pair_151 : decode b_M_pair 151 = .ok (.lstore 6, 2) := by decide +kernel
theorem d_M_pair_153 : decode b_M_pair 153 = .ok (.goto (-36), 3) := by decide +kernel
theorem d_M_pair_156 : decode b_M_pair 156 = .ok (.return_, 1) := by decide +kernel
theorem d_M_stepOne_0 : decode b_M_stepOne 0 = .ok (.aload_n 0, 1) := by decide +kernel
theorem d_M_stepOne_1 : decode b_M_stepOne 1 = .ok (.getfield 63, 3) := by decide +kernel
theorem d_M_stepOne_4 : decode b_M_stepOne 4 = .ok (.aload_n 0, 1) := by decide +kernel
theorem d_M_stepOne_5 : decode b_M_stepOne 5 = .ok (.getfield 57, 3) := by decide +kernel
theorem d_M_stepOne_8 : decode b_M_stepOne 8 = .ok (.iconst 1, 1) := by decide +kernel
theorem d_M_stepOne_9 : decode b_M_stepOne 9 = .ok (.isub, 1) := by decide +kernel
theorem d_M_stepOne_10 : decode b_M_stepOne 10 = .ok (.iaload, 1) := by decide +kernel
theorem d_M_stepOne_11 : decode b_M_stepOne 11 = .ok (.ifCond .ne 48, 3) := by decide +kernel
theorem d_M_stepOne_14 : decode b_M_stepOne 14 = .ok (.aload_n 0, 1) := by decide +kernel
theorem d_M_stepOne_15 : decode b_M_stepOne 15 = .ok (.getfield 63, 3) := by decide +kernel
theorem d_M_stepOne_18 : decode b_M_stepOne 18 = .ok (.aload_n 0, 1) := by decide +kernel
theorem d_M_stepOne_19 : decode b_M_stepOne 19 = .ok (.getfield 57, 3) := by decide +kernel
theorem d_M_stepOne_22 : decode b_M_stepOne 22 = .ok (.iconst 1, 1) := by decide +kernel
theorem d_M_stepOne_23 : decode b_M_stepOne 23 = .ok (.isub, 1) := by decide +kernel
theorem d_M_stepOne_24 : decode b_M_stepOne 24 = .ok (.iconst 1, 1) := by decide +kernel
theorem d_M_stepOne_25 : decode b_M_stepOne 25 = .ok (.iastore, 1) := by decide +kernel
theorem d_M_stepOne_26 : decode b_M_stepOne 26 = .ok (.aload_n 0, 1) := by decide +kernel
theorem d_M_stepOne_27 : decode b_M_stepOne 27 = .ok (.iload_n 2, 1) := by decide +kernel
theorem d_M_stepOne_28 : decode b_M_stepOne 28 = .ok (.bipush 17, 2) := by decide +kernel
theorem d_M_stepOne_30 : decode b_M_stepOne 30 = .ok (.if_icmp .eq 9, 3) := by decide +kernel
theorem d_M_stepOne_33 : decode b_M_stepOne 33 = .ok (.iload_n 2, 1) := by decide +kernel
theorem d_M_stepOne_34 : decode b_M_stepOne 34 = .ok (.bipush 18, 2) := by decide +kernel
theorem d_M_stepOne_36 : decode b_M_stepOne 36 = .ok (.if_icmp .ne 12, 3) := by decide +kernel
theorem d_M_stepOne_39 : decode b_M_stepOne 39 = .ok (.aload_n 0, 1) := by decide +kernel
theorem d_M_stepOne_40 : decode b_M_stepOne 40 = .ok (.getfield 32, 3) := by decide +kernel
theorem d_M_stepOne_43 : decode b_M_stepOne 43 = .ok (.iload_n 1, 1) := by decide +kernel
theorem d_M_stepOne_44 : decode b_M_stepOne 44 = .ok (.iaload, 1) := by decide +kernel
theorem d_M_stepOne_45 : decode b_M_stepOne 45 = .ok (.goto 9, 3) := by decide +kernel
theorem d_M_stepOne_48 : decode b_M_stepOne 48 = .ok (.aload_n 0, 1) := by decide +kernel
theorem d_M_stepOne_49 : decode b_M_stepOne 49 = .ok (.getfield 29, 3) := by decide +kernel
theorem d_M_stepOne_52 : decode b_M_stepOne 52 = .ok (.iload_n 1, 1) := by decide +kernel
theorem d_M_stepOne_53 : decode b_M_stepOne 53 = .ok (.iaload, 1) := by decide +kernel
theorem d_M_stepOne_54 : decode b_M_stepOne 54 = .ok (.iconst (-1), 1) := by decide +kernel
theorem d_M_stepOne_55 : decode b_M_stepOne 55 = .ok (.invokevirtual 112, 3) := by decide +kernel
theorem d_M_stepOne_58 : decode b_M_stepOne 58 = .ok (.return_, 1) := by decide +kernel
theorem d_M_stepOne_59 : decode b_M_stepOne 59 = .ok (.aload_n 0, 1) := by decide +kernel
theorem d_M_stepOne_60 : decode b_M_stepOne 60 = .ok (.getfield 54, 3) := by decide +kernel
theorem d_M_stepOne_63 : decode b_M_stepOne 63 = .ok (.aload_n 0, 1) := by decide +kernel
theorem d_M_stepOne_64 : decode b_M_stepOne 64 = .ok (.getfield 57, 3) := by decide +kernel
theorem d_M_stepOne_67 : decode b_M_stepOne 67 = .ok (.iaload, 1) := by decide +kernel
theorem d_M_stepOne_68 : decode b_M_stepOne 68 = .ok (.istore_n 3, 1) := by decide +kernel
theorem d_M_stepOne_69 : decode b_M_stepOne 69 = .ok (.iconst 0, 1) := by decide +kernel
theorem d_M_stepOne_70 : decode b_M_stepOne 70 = .ok (.istore 4, 2) := by decide +kernel
theorem d_M_stepOne_72 : decode b_M_stepOne 72 = .ok (.aload_n 0, 1) := by decide +kernel
theorem d_M_stepOne_73 : decode b_M_stepOne 73 = .ok (.getfield 57, 3) := by decide +kernel
theorem d_M_stepOne_76 : decode b_M_stepOne 76 = .ok (.iconst 1, 1) := by decide +kernel
theorem d_M_stepOne_77 : decode b_M_stepOne 77 = .ok (.isub, 1) := by decide +kernel
theorem d_M_stepOne_78 : decode b_M_stepOne 78 = .ok (.istore 5, 2) := by decide +kernel
theorem d_M_stepOne_80 : decode b_M_stepOne 80 = .ok (.iconst 0, 1) := by decide +kernel
theorem d_M_stepOne_81 : decode b_M_stepOne 81 = .ok (.istore 6, 2) := by decide +kernel
theorem d_M_stepOne_83 : decode b_M_stepOne 83 = .ok (.iload 6, 2) := by decide +kernel
theorem d_M_stepOne_85 : decode b_M_stepOne 85 = .ok (.iload_n 3, 1) := by decide +kernel
theorem d_M_stepOne_86 : decode b_M_stepOne 86 = .ok (.if_icmp .ge 190, 3) := by decide +kernel
theorem d_M_stepOne_89 : decode b_M_stepOne 89 = .ok (.aload_n 0, 1) := by decide +kernel
theorem d_M_stepOne_90 : decode b_M_stepOne 90 = .ok (.getfield 51, 3) := by decide +kernel
theorem d_M_stepOne_93 : decode b_M_stepOne 93 = .ok (.aload_n 0, 1) := by decide +kernel
theorem d_M_stepOne_94 : decode b_M_stepOne 94 = .ok (.iload 6, 2) := by decide +kernel
theorem d_M_stepOne_96 : decode b_M_stepOne 96 = .ok (.invokevirtual 115, 3) := by decide +kernel
theorem d_M_stepOne_99 : decode b_M_stepOne 99 = .ok (.iaload, 1) := by decide +kernel
theorem d_M_stepOne_100 : decode b_M_stepOne 100 = .ok (.istore 7, 2) := by decide +kernel
theorem d_M_stepOne_102 : decode b_M_stepOne 102 = .ok (.iload_n 2, 1) := by decide +kernel
theorem d_M_stepOne_103 : decode b_M_stepOne 103 = .ok (.bipush 8, 2) := by decide +kernel
theorem d_M_stepOne_105 : decode b_M_stepOne 105 = .ok (.if_icmp .ne 59, 3) := by decide +kernel
theorem d_M_stepOne_108 : decode b_M_stepOne 108 = .ok (.iload 7, 2) := by decide +kernel
theorem d_M_stepOne_110 : decode b_M_stepOne 110 = .ok (.ifCond .lt 54, 3) := by decide +kernel
theorem d_M_stepOne_113 : decode b_M_stepOne 113 = .ok (.iload 7, 2) := by decide +kernel
theorem d_M_stepOne_115 : decode b_M_stepOne 115 = .ok (.aload_n 0, 1) := by decide +kernel
theorem d_M_stepOne_116 : decode b_M_stepOne 116 = .ok (.getfield 7, 3) := by decide +kernel
theorem d_M_stepOne_119 : decode b_M_stepOne 119 = .ok (.if_icmp .gt 45, 3) := by decide +kernel
theorem d_M_stepOne_122 : decode b_M_stepOne 122 = .ok (.aload_n 0, 1) := by decide +kernel
theorem d_M_stepOne_123 : decode b_M_stepOne 123 = .ok (.iload 7, 2) := by decide +kernel
theorem d_M_stepOne_125 : decode b_M_stepOne 125 = .ok (.aload_n 0, 1) := by decide +kernel
theorem d_M_stepOne_126 : decode b_M_stepOne 126 = .ok (.iload 6, 2) := by decide +kernel
theorem d_M_stepOne_128 : decode b_M_stepOne 128 = .ok (.invokevirtual 115, 3) := by decide +kernel
theorem d_M_stepOne_131 : decode b_M_stepOne 131 = .ok (.iconst 1, 1) := by decide +kernel
theorem d_M_stepOne_132 : decode b_M_stepOne 132 = .ok (.iadd, 1) := by decide +kernel
theorem d_M_stepOne_133 : decode b_M_stepOne 133 = .ok (.invokevirtual 119, 3) := by decide +kernel
theorem d_M_stepOne_136 : decode b_M_stepOne 136 = .ok (.aload_n 0, 1) := by decide +kernel
theorem d_M_stepOne_137 : decode b_M_stepOne 137 = .ok (.getfield 51, 3) := by decide +kernel
theorem d_M_stepOne_140 : decode b_M_stepOne 140 = .ok (.iload 5, 2) := by decide +kernel
theorem d_M_stepOne_142 : decode b_M_stepOne 142 = .ok (.sipush 384, 3) := by decide +kernel
theorem d_M_stepOne_145 : decode b_M_stepOne 145 = .ok (.imul, 1) := by decide +kernel
theorem d_M_stepOne_146 : decode b_M_stepOne 146 = .ok (.aload_n 0, 1) := by decide +kernel
theorem d_M_stepOne_147 : decode b_M_stepOne 147 = .ok (.getfield 54, 3) := by decide +kernel
theorem d_M_stepOne_150 : decode b_M_stepOne 150 = .ok (.iload 5, 2) := by decide +kernel
theorem d_M_stepOne_152 : decode b_M_stepOne 152 = .ok (.iaload, 1) := by decide +kernel
theorem d_M_stepOne_153 : decode b_M_stepOne 153 = .ok (.iconst 1, 1) := by decide +kernel
theorem d_M_stepOne_154 : decode b_M_stepOne 154 = .ok (.isub, 1) := by decide +kernel
theorem d_M_stepOne_155 : decode b_M_stepOne 155 = .ok (.bipush 6, 2) := by decide +kernel
theorem d_M_stepOne_157 : decode b_M_stepOne 157 = .ok (.imul, 1) := by decide +kernel
theorem d_M_stepOne_158 : decode b_M_stepOne 158 = .ok (.iadd, 1) := by decide +kernel
theorem d_M_stepOne_159 : decode b_M_stepOne 159 = .ok (.iconst 1, 1) := by decide +kernel
theorem d_M_stepOne_160 : decode b_M_stepOne 160 = .ok (.iadd, 1) := by decide +kernel
theorem d_M_stepOne_161 : decode b_M_stepOne 161 = .ok (.iload 7, 2) := by decide +kernel
theorem d_M_stepOne_163 : decode b_M_stepOne 163 = .ok (.iastore, 1) := by decide +kernel
theorem d_M_stepOne_164 : decode b_M_stepOne 164 = .ok (.iload_n 2, 1) := by decide +kernel
theorem d_M_stepOne_165 : decode b_M_stepOne 165 = .ok (.bipush 17, 2) := by decide +kernel
theorem d_M_stepOne_167 : decode b_M_stepOne 167 = .ok (.if_icmp .ne 52, 3) := by decide +kernel
theorem d_M_stepOne_170 : decode b_M_stepOne 170 = .ok (.aload_n 0, 1) := by decide +kernel
theorem d_M_stepOne_171 : decode b_M_stepOne 171 = .ok (.iload 7, 2) := by decide +kernel
theorem d_M_stepOne_173 : decode b_M_stepOne 173 = .ok (.aload_n 0, 1) := by decide +kernel
theorem d_M_stepOne_174 : decode b_M_stepOne 174 = .ok (.iload 6, 2) := by decide +kernel
theorem d_M_stepOne_176 : decode b_M_stepOne 176 = .ok (.invokevirtual 115, 3) := by decide +kernel
theorem d_M_stepOne_179 : decode b_M_stepOne 179 = .ok (.iconst 1, 1) := by decide +kernel
theorem d_M_stepOne_180 : decode b_M_stepOne 180 = .ok (.iadd, 1) := by decide +kernel
theorem d_M_stepOne_181 : decode b_M_stepOne 181 = .ok (.invokevirtual 119, 3) := by decide +kernel
theorem d_M_stepOne_184 : decode b_M_stepOne 184 = .ok (.aload_n 0, 1) := by decide +kernel
theorem d_M_stepOne_185 : decode b_M_stepOne 185 = .ok (.getfield 51, 3) := by decide +kernel
theorem d_M_stepOne_188 : decode b_M_stepOne 188 = .ok (.iload 5, 2) := by decide +kernel
theorem d_M_stepOne_190 : decode b_M_stepOne 190 = .ok (.sipush 384, 3) := by decide +kernel
theorem d_M_stepOne_193 : decode b_M_stepOne 193 = .ok (.imul, 1) := by decide +kernel
theorem d_M_stepOne_194 : decode b_M_stepOne 194 = .ok (.aload_n 0, 1) := by decide +kernel
theorem d_M_stepOne_195 : decode b_M_stepOne 195 = .ok (.getfield 54, 3) := by decide +kernel
theorem d_M_stepOne_198 : decode b_M_stepOne 198 = .ok (.iload 5, 2) := by decide +kernel
theorem d_M_stepOne_200 : decode b_M_stepOne 200 = .ok (.iaload, 1) := by decide +kernel
theorem d_M_stepOne_201 : decode b_M_stepOne 201 = .ok (.iconst 1, 1) := by decide +kernel
theorem d_M_stepOne_202 : decode b_M_stepOne 202 = .ok (.isub, 1) := by decide +kernel
theorem d_M_stepOne_203 : decode b_M_stepOne 203 = .ok (.bipush 6, 2) := by decide +kernel
theorem d_M_stepOne_205 : decode b_M_stepOne 205 = .ok (.imul, 1) := by decide +kernel
theorem d_M_stepOne_206 : decode b_M_stepOne 206 = .ok (.iadd, 1) := by decide +kernel
theorem d_M_stepOne_207 : decode b_M_stepOne 207 = .ok (.iconst 2, 1) := by decide +kernel
theorem d_M_stepOne_208 : decode b_M_stepOne 208 = .ok (.iadd, 1) := by decide +kernel
theorem d_M_stepOne_209 : decode b_M_stepOne 209 = .ok (.aload_n 0, 1) := by decide +kernel
theorem d_M_stepOne_210 : decode b_M_stepOne 210 = .ok (.getfield 29, 3) := by decide +kernel
theorem d_M_stepOne_213 : decode b_M_stepOne 213 = .ok (.iload_n 1, 1) := by decide +kernel
theorem d_M_stepOne_214 : decode b_M_stepOne 214 = .ok (.iaload, 1) := by decide +kernel
theorem d_M_stepOne_215 : decode b_M_stepOne 215 = .ok (.iadd, 1) := by decide +kernel
theorem d_M_stepOne_216 : decode b_M_stepOne 216 = .ok (.iload 7, 2) := by decide +kernel
theorem d_M_stepOne_218 : decode b_M_stepOne 218 = .ok (.iastore, 1) := by decide +kernel
theorem d_M_stepOne_219 : decode b_M_stepOne 219 = .ok (.iload_n 2, 1) := by decide +kernel
theorem d_M_stepOne_220 : decode b_M_stepOne 220 = .ok (.bipush 18, 2) := by decide +kernel
theorem d_M_stepOne_222 : decode b_M_stepOne 222 = .ok (.if_icmp .ne 28, 3) := by decide +kernel
theorem d_M_stepOne_225 : decode b_M_stepOne 225 = .ok (.iload 6, 2) := by decide +kernel
theorem d_M_stepOne_227 : decode b_M_stepOne 227 = .ok (.aload_n 0, 1) := by decide +kernel
theorem d_M_stepOne_228 : decode b_M_stepOne 228 = .ok (.getfield 29, 3) := by decide +kernel
theorem d_M_stepOne_231 : decode b_M_stepOne 231 = .ok (.iload_n 1, 1) := by decide +kernel
theorem d_M_stepOne_232 : decode b_M_stepOne 232 = .ok (.iaload, 1) := by decide +kernel
theorem d_M_stepOne_233 : decode b_M_stepOne 233 = .ok (.if_icmp .ge 17, 3) := by decide +kernel
theorem d_M_stepOne_236 : decode b_M_stepOne 236 = .ok (.aload_n 0, 1) := by decide +kernel
theorem d_M_stepOne_237 : decode b_M_stepOne 237 = .ok (.iload 7, 2) := by decide +kernel
theorem d_M_stepOne_239 : decode b_M_stepOne 239 = .ok (.aload_n 0, 1) := by decide +kernel
theorem d_M_stepOne_240 : decode b_M_stepOne 240 = .ok (.iload 6, 2) := by decide +kernel
theorem d_M_stepOne_242 : decode b_M_stepOne 242 = .ok (.invokevirtual 115, 3) := by decide +kernel
theorem d_M_stepOne_245 : decode b_M_stepOne 245 = .ok (.iconst 1, 1) := by decide +kernel
theorem d_M_stepOne_246 : decode b_M_stepOne 246 = .ok (.iadd, 1) := by decide +kernel
theorem d_M_stepOne_247 : decode b_M_stepOne 247 = .ok (.invokevirtual 119, 3) := by decide +kernel
theorem d_M_stepOne_250 : decode b_M_stepOne 250 = .ok (.iload 7, 2) := by decide +kernel
theorem d_M_stepOne_252 : decode b_M_stepOne 252 = .ok (.aload_n 0, 1) := by decide +kernel
theorem d_M_stepOne_253 : decode b_M_stepOne 253 = .ok (.getfield 51, 3) := by decide +kernel
theorem d_M_stepOne_256 : decode b_M_stepOne 256 = .ok (.aload_n 0, 1) := by decide +kernel
theorem d_M_stepOne_257 : decode b_M_stepOne 257 = .ok (.iload 4, 2) := by decide +kernel
theorem d_M_stepOne_259 : decode b_M_stepOne 259 = .ok (.invokevirtual 115, 3) := by decide +kernel
theorem d_M_stepOne_262 : decode b_M_stepOne 262 = .ok (.iaload, 1) := by decide +kernel
theorem d_M_stepOne_263 : decode b_M_stepOne 263 = .ok (.if_icmp .le 7, 3) := by decide +kernel
theorem d_M_stepOne_266 : decode b_M_stepOne 266 = .ok (.iload 6, 2) := by decide +kernel
theorem d_M_stepOne_268 : decode b_M_stepOne 268 = .ok (.istore 4, 2) := by decide +kernel
theorem d_M_stepOne_270 : decode b_M_stepOne 270 = .ok (.iinc 6 1, 3) := by decide +kernel
theorem d_M_stepOne_273 : decode b_M_stepOne 273 = .ok (.goto (-190), 3) := by decide +kernel
theorem d_M_stepOne_276 : decode b_M_stepOne 276 = .ok (.iload_n 2, 1) := by decide +kernel
theorem d_M_stepOne_277 : decode b_M_stepOne 277 = .ok (.bipush 20, 2) := by decide +kernel
theorem d_M_stepOne_279 : decode b_M_stepOne 279 = .ok (.if_icmp .ne 21, 3) := by decide +kernel
theorem d_M_stepOne_282 : decode b_M_stepOne 282 = .ok (.iload_n 3, 1) := by decide +kernel
theorem d_M_stepOne_283 : decode b_M_stepOne 283 = .ok (.ifCond .ne 17, 3) := by decide +kernel
theorem d_M_stepOne_286 : decode b_M_stepOne 286 = .ok (.aload_n 0, 1) := by decide +kernel
theorem d_M_stepOne_287 : decode b_M_stepOne 287 = .ok (.iconst 0, 1) := by decide +kernel
theorem d_M_stepOne_288 : decode b_M_stepOne 288 = .ok (.aload_n 0, 1) := by decide +kernel
theorem d_M_stepOne_289 : decode b_M_stepOne 289 = .ok (.getfield 69, 3) := by decide +kernel
theorem d_M_stepOne_292 : decode b_M_stepOne 292 = .ok (.iload 5, 2) := by decide +kernel
theorem d_M_stepOne_294 : decode b_M_stepOne 294 = .ok (.iconst 5, 1) := by decide +kernel
theorem d_M_stepOne_295 : decode b_M_stepOne 295 = .ok (.imul, 1) := by decide +kernel
theorem d_M_stepOne_296 : decode b_M_stepOne 296 = .ok (.iaload, 1) := by decide +kernel
theorem d_M_stepOne_297 : decode b_M_stepOne 297 = .ok (.invokevirtual 104, 3) := by decide +kernel
theorem d_M_stepOne_300 : decode b_M_stepOne 300 = .ok (.iload_n 2, 1) := by decide +kernel
theorem d_M_stepOne_301 : decode b_M_stepOne 301 = .ok (.bipush 21, 2) := by decide +kernel
theorem d_M_stepOne_303 : decode b_M_stepOne 303 = .ok (.if_icmp .ne 30, 3) := by decide +kernel
theorem d_M_stepOne_306 : decode b_M_stepOne 306 = .ok (.iload_n 3, 1) := by decide +kernel
theorem d_M_stepOne_307 : decode b_M_stepOne 307 = .ok (.ifCond .le 26, 3) := by decide +kernel
theorem d_M_stepOne_310 : decode b_M_stepOne 310 = .ok (.aload_n 0, 1) := by decide +kernel
theorem d_M_stepOne_311 : decode b_M_stepOne 311 = .ok (.aload_n 0, 1) := by decide +kernel
theorem d_M_stepOne_312 : decode b_M_stepOne 312 = .ok (.getfield 51, 3) := by decide +kernel
theorem d_M_stepOne_315 : decode b_M_stepOne 315 = .ok (.aload_n 0, 1) := by decide +kernel
theorem d_M_stepOne_316 : decode b_M_stepOne 316 = .ok (.iload 4, 2) := by decide +kernel
theorem d_M_stepOne_318 : decode b_M_stepOne 318 = .ok (.invokevirtual 115, 3) := by decide +kernel
theorem d_M_stepOne_321 : decode b_M_stepOne 321 = .ok (.iaload, 1) := by decide +kernel
theorem d_M_stepOne_322 : decode b_M_stepOne 322 = .ok (.aload_n 0, 1) := by decide +kernel
theorem d_M_stepOne_323 : decode b_M_stepOne 323 = .ok (.iload 4, 2) := by decide +kernel
theorem d_M_stepOne_325 : decode b_M_stepOne 325 = .ok (.invokevirtual 115, 3) := by decide +kernel
theorem d_M_stepOne_328 : decode b_M_stepOne 328 = .ok (.iconst 1, 1) := by decide +kernel
theorem d_M_stepOne_329 : decode b_M_stepOne 329 = .ok (.iadd, 1) := by decide +kernel
theorem d_M_stepOne_330 : decode b_M_stepOne 330 = .ok (.invokevirtual 119, 3) := by decide +kernel
theorem d_M_stepOne_333 : decode b_M_stepOne 333 = .ok (.aload_n 0, 1) := by decide +kernel
theorem d_M_stepOne_334 : decode b_M_stepOne 334 = .ok (.dup, 1) := by decide +kernel
theorem d_M_stepOne_335 : decode b_M_stepOne 335 = .ok (.getfield 57, 3) := by decide +kernel
theorem d_M_stepOne_338 : decode b_M_stepOne 338 = .ok (.iconst 1, 1) := by decide +kernel
theorem d_M_stepOne_339 : decode b_M_stepOne 339 = .ok (.isub, 1) := by decide +kernel
theorem d_M_stepOne_340 : decode b_M_stepOne 340 = .ok (.putfield 57, 3) := by decide +kernel
theorem d_M_stepOne_343 : decode b_M_stepOne 343 = .ok (.return_, 1) := by decide +kernel
theorem d_M_keep_0 : decode b_M_keep 0 = .ok (.aload_n 0, 1) := by decide +kernel
theorem d_M_keep_1 : decode b_M_keep 1 = .ok (.aload_n 0, 1) := by decide +kernel
theorem d_M_keep_2 : decode b_M_keep 2 = .ok (.getfield 54, 3) := by decide +kernel
theorem d_M_keep_5 : decode b_M_keep 5 = .ok (.iconst 0, 1) := by decide +kernel
theorem d_M_keep_6 : decode b_M_keep 6 = .ok (.iaload, 1) := by decide +kernel
theorem d_M_keep_7 : decode b_M_keep 7 = .ok (.iload_n 1, 1) := by decide +kernel
theorem d_M_keep_8 : decode b_M_keep 8 = .ok (.if_icmp .ge 12, 3) := by decide +kernel
theorem d_M_keep_11 : decode b_M_keep 11 = .ok (.aload_n 0, 1) := by decide +kernel
theorem d_M_keep_12 : decode b_M_keep 12 = .ok (.getfield 54, 3) := by decide +kernel
theorem d_M_keep_15 : decode b_M_keep 15 = .ok (.iconst 0, 1) := by decide +kernel
theorem d_M_keep_16 : decode b_M_keep 16 = .ok (.iaload, 1) := by decide +kernel
theorem d_M_keep_17 : decode b_M_keep 17 = .ok (.goto 4, 3) := by decide +kernel
theorem d_M_keep_20 : decode b_M_keep 20 = .ok (.iload_n 1, 1) := by decide +kernel
theorem d_M_keep_21 : decode b_M_keep 21 = .ok (.putfield 16, 3) := by decide +kernel
theorem d_M_keep_24 : decode b_M_keep 24 = .ok (.aload_n 0, 1) := by decide +kernel
theorem d_M_keep_25 : decode b_M_keep 25 = .ok (.iconst 0, 1) := by decide +kernel
theorem d_M_keep_26 : decode b_M_keep 26 = .ok (.putfield 19, 3) := by decide +kernel
theorem d_M_keep_29 : decode b_M_keep 29 = .ok (.iconst 0, 1) := by decide +kernel
theorem d_M_keep_30 : decode b_M_keep 30 = .ok (.istore_n 2, 1) := by decide +kernel
theorem d_M_keep_31 : decode b_M_keep 31 = .ok (.iload_n 2, 1) := by decide +kernel
theorem d_M_keep_32 : decode b_M_keep 32 = .ok (.aload_n 0, 1) := by decide +kernel
theorem d_M_keep_33 : decode b_M_keep 33 = .ok (.getfield 16, 3) := by decide +kernel
theorem d_M_keep_36 : decode b_M_keep 36 = .ok (.bipush 6, 2) := by decide +kernel
theorem d_M_keep_38 : decode b_M_keep 38 = .ok (.imul, 1) := by decide +kernel
theorem d_M_keep_39 : decode b_M_keep 39 = .ok (.if_icmp .ge 25, 3) := by decide +kernel
theorem d_M_keep_42 : decode b_M_keep 42 = .ok (.aload_n 0, 1) := by decide +kernel
theorem d_M_keep_43 : decode b_M_keep 43 = .ok (.getfield 51, 3) := by decide +kernel
theorem d_M_keep_46 : decode b_M_keep 46 = .ok (.sipush 6144, 3) := by decide +kernel
theorem d_M_keep_49 : decode b_M_keep 49 = .ok (.iload_n 2, 1) := by decide +kernel
theorem d_M_keep_50 : decode b_M_keep 50 = .ok (.iadd, 1) := by decide +kernel
theorem d_M_keep_51 : decode b_M_keep 51 = .ok (.aload_n 0, 1) := by decide +kernel
theorem d_M_keep_52 : decode b_M_keep 52 = .ok (.getfield 51, 3) := by decide +kernel
theorem d_M_keep_55 : decode b_M_keep 55 = .ok (.iload_n 2, 1) := by decide +kernel
theorem d_M_keep_56 : decode b_M_keep 56 = .ok (.iaload, 1) := by decide +kernel
theorem d_M_keep_57 : decode b_M_keep 57 = .ok (.iastore, 1) := by decide +kernel
theorem d_M_keep_58 : decode b_M_keep 58 = .ok (.iinc 2 1, 3) := by decide +kernel
theorem d_M_keep_61 : decode b_M_keep 61 = .ok (.goto (-30), 3) := by decide +kernel
theorem d_M_keep_64 : decode b_M_keep 64 = .ok (.iconst 0, 1) := by decide +kernel
theorem d_M_keep_65 : decode b_M_keep 65 = .ok (.istore_n 2, 1) := by decide +kernel
theorem d_M_keep_66 : decode b_M_keep 66 = .ok (.iload_n 2, 1) := by decide +kernel
theorem d_M_keep_67 : decode b_M_keep 67 = .ok (.aload_n 0, 1) := by decide +kernel
theorem d_M_keep_68 : decode b_M_keep 68 = .ok (.getfield 16, 3) := by decide +kernel
theorem d_M_keep_71 : decode b_M_keep 71 = .ok (.if_icmp .ge 41, 3) := by decide +kernel
theorem d_M_keep_74 : decode b_M_keep 74 = .ok (.aload_n 0, 1) := by decide +kernel
theorem d_M_keep_75 : decode b_M_keep 75 = .ok (.getfield 51, 3) := by decide +kernel
theorem d_M_keep_78 : decode b_M_keep 78 = .ok (.sipush 6144, 3) := by decide +kernel
theorem d_M_keep_81 : decode b_M_keep 81 = .ok (.iload_n 2, 1) := by decide +kernel
theorem d_M_keep_82 : decode b_M_keep 82 = .ok (.bipush 6, 2) := by decide +kernel
theorem d_M_keep_84 : decode b_M_keep 84 = .ok (.imul, 1) := by decide +kernel
theorem d_M_keep_85 : decode b_M_keep 85 = .ok (.iadd, 1) := by decide +kernel
theorem d_M_keep_86 : decode b_M_keep 86 = .ok (.iconst 1, 1) := by decide +kernel
theorem d_M_keep_87 : decode b_M_keep 87 = .ok (.iadd, 1) := by decide +kernel
theorem d_M_keep_88 : decode b_M_keep 88 = .ok (.iaload, 1) := by decide +kernel
theorem d_M_keep_89 : decode b_M_keep 89 = .ok (.aload_n 0, 1) := by decide +kernel
theorem d_M_keep_90 : decode b_M_keep 90 = .ok (.getfield 7, 3) := by decide +kernel
theorem d_M_keep_93 : decode b_M_keep 93 = .ok (.if_icmp .ne 13, 3) := by decide +kernel
theorem d_M_keep_96 : decode b_M_keep 96 = .ok (.aload_n 0, 1) := by decide +kernel
theorem d_M_keep_97 : decode b_M_keep 97 = .ok (.dup, 1) := by decide +kernel
theorem d_M_keep_98 : decode b_M_keep 98 = .ok (.getfield 19, 3) := by decide +kernel
theorem d_M_keep_101 : decode b_M_keep 101 = .ok (.iconst 1, 1) := by decide +kernel
theorem d_M_keep_102 : decode b_M_keep 102 = .ok (.iadd, 1) := by decide +kernel
theorem d_M_keep_103 : decode b_M_keep 103 = .ok (.putfield 19, 3) := by decide +kernel
theorem d_M_keep_106 : decode b_M_keep 106 = .ok (.iinc 2 1, 3) := by decide +kernel
theorem d_M_keep_109 : decode b_M_keep 109 = .ok (.goto (-43), 3) := by decide +kernel
theorem d_M_keep_112 : decode b_M_keep 112 = .ok (.aload_n 0, 1) := by decide +kernel
theorem d_M_keep_113 : decode b_M_keep 113 = .ok (.getfield 16, 3) := by decide +kernel
theorem d_M_keep_116 : decode b_M_keep 116 = .ok (.ireturn, 1) := by decide +kernel
theorem d_M_attempt_0 : decode b_M_attempt 0 = .ok (.iload_n 1, 1) := by decide +kernel
theorem d_M_attempt_1 : decode b_M_attempt 1 = .ok (.ifCond .lt 11, 3) := by decide +kernel
theorem d_M_attempt_4 : decode b_M_attempt 4 = .ok (.iload_n 1, 1) := by decide +kernel
theorem d_M_attempt_5 : decode b_M_attempt 5 = .ok (.aload_n 0, 1) := by decide +kernel
theorem d_M_attempt_6 : decode b_M_attempt 6 = .ok (.getfield 13, 3) := by decide +kernel
theorem d_M_attempt_9 : decode b_M_attempt 9 = .ok (.if_icmp .lt 5, 3) := by decide +kernel
theorem d_M_attempt_12 : decode b_M_attempt 12 = .ok (.iconst (-1), 1) := by decide +kernel
theorem d_M_attempt_13 : decode b_M_attempt 13 = .ok (.ireturn, 1) := by decide +kernel
theorem d_M_attempt_14 : decode b_M_attempt 14 = .ok (.aload_n 0, 1) := by decide +kernel
theorem d_M_attempt_15 : decode b_M_attempt 15 = .ok (.iload_n 1, 1) := by decide +kernel
theorem d_M_attempt_16 : decode b_M_attempt 16 = .ok (.invokevirtual 147, 3) := by decide +kernel
theorem d_M_attempt_19 : decode b_M_attempt 19 = .ok (.aload_n 0, 1) := by decide +kernel
theorem d_M_attempt_20 : decode b_M_attempt 20 = .ok (.iconst 1, 1) := by decide +kernel
theorem d_M_attempt_21 : decode b_M_attempt 21 = .ok (.invokevirtual 150, 3) := by decide +kernel
theorem d_M_attempt_24 : decode b_M_attempt 24 = .ok (.ireturn, 1) := by decide +kernel
theorem d_M_result_0 : decode b_M_result 0 = .ok (.aload_n 0, 1) := by decide +kernel
theorem d_M_result_1 : decode b_M_result 1 = .ok (.iload_n 1, 1) := by decide +kernel
theorem d_M_result_2 : decode b_M_result 2 = .ok (.invokevirtual 153, 3) := by decide +kernel
theorem d_M_result_5 : decode b_M_result 5 = .ok (.ifCond .eq 9, 3) := by decide +kernel
theorem d_M_result_8 : decode b_M_result 8 = .ok (.ldc2_w 156, 3) := by decide +kernel
theorem d_M_result_11 : decode b_M_result 11 = .ok (.goto 17, 3) := by decide +kernel
theorem d_M_result_14 : decode b_M_result 14 = .ok (.aload_n 0, 1) := by decide +kernel
theorem d_M_result_15 : decode b_M_result 15 = .ok (.getfield 51, 3) := by decide +kernel
theorem d_M_result_18 : decode b_M_result 18 = .ok (.sipush 6144, 3) := by decide +kernel
theorem d_M_result_21 : decode b_M_result 21 = .ok (.iload_n 1, 1) := by decide +kernel
