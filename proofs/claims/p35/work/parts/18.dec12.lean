theorem dX12_move_96 : decode cX12_move 96 = .ok (.iaload, 1) := by decide +kernel
theorem dX12_move_97 : decode cX12_move 97 = .ok (.iadd, 1) := by decide +kernel
theorem dX12_move_98 : decode cX12_move 98 = .ok (.iaload, 1) := by decide +kernel
theorem dX12_move_99 : decode cX12_move 99 = .ok (.if_icmp .lt 6, 3) := by decide +kernel
theorem dX12_move_102 : decode cX12_move 102 = .ok (.bipush (-2), 2) := by decide +kernel
theorem dX12_move_104 : decode cX12_move 104 = .ok (.ireturn, 1) := by decide +kernel
theorem dX12_move_105 : decode cX12_move 105 = .ok (.aload_n 0, 1) := by decide +kernel
theorem dX12_move_106 : decode cX12_move 106 = .ok (.getfield 186, 3) := by decide +kernel
theorem dX12_move_109 : decode cX12_move 109 = .ok (.sipush 500, 3) := by decide +kernel
theorem dX12_move_112 : decode cX12_move 112 = .ok (.if_icmp .ne 6, 3) := by decide +kernel
theorem dX12_move_115 : decode cX12_move 115 = .ok (.bipush (-3), 2) := by decide +kernel
theorem dX12_move_117 : decode cX12_move 117 = .ok (.ireturn, 1) := by decide +kernel
theorem dX12_move_118 : decode cX12_move 118 = .ok (.aload_n 0, 1) := by decide +kernel
theorem dX12_move_119 : decode cX12_move 119 = .ok (.iload_n 1, 1) := by decide +kernel
theorem dX12_move_120 : decode cX12_move 120 = .ok (.invokevirtual 205, 3) := by decide +kernel
theorem dX12_move_123 : decode cX12_move 123 = .ok (.aload_n 0, 1) := by decide +kernel
theorem dX12_move_124 : decode cX12_move 124 = .ok (.iload_n 1, 1) := by decide +kernel
theorem dX12_move_125 : decode cX12_move 125 = .ok (.iload_n 2, 1) := by decide +kernel
theorem dX12_move_126 : decode cX12_move 126 = .ok (.invokevirtual 198, 3) := by decide +kernel
theorem dX12_move_129 : decode cX12_move 129 = .ok (.iconst 1, 1) := by decide +kernel
theorem dX12_move_130 : decode cX12_move 130 = .ok (.ireturn, 1) := by decide +kernel
theorem dX12_swap_0 : decode cX12_swap 0 = .ok (.aload_n 0, 1) := by decide +kernel
theorem dX12_swap_1 : decode cX12_swap 1 = .ok (.iload_n 1, 1) := by decide +kernel
theorem dX12_swap_2 : decode cX12_swap 2 = .ok (.invokevirtual 202, 3) := by decide +kernel
theorem dX12_swap_5 : decode cX12_swap 5 = .ok (.ifCond .eq 11, 3) := by decide +kernel
theorem dX12_swap_8 : decode cX12_swap 8 = .ok (.aload_n 0, 1) := by decide +kernel
theorem dX12_swap_9 : decode cX12_swap 9 = .ok (.iload_n 2, 1) := by decide +kernel
theorem dX12_swap_10 : decode cX12_swap 10 = .ok (.invokevirtual 202, 3) := by decide +kernel
theorem dX12_swap_13 : decode cX12_swap 13 = .ok (.ifCond .ne 5, 3) := by decide +kernel
theorem dX12_swap_16 : decode cX12_swap 16 = .ok (.iconst (-1), 1) := by decide +kernel
theorem dX12_swap_17 : decode cX12_swap 17 = .ok (.ireturn, 1) := by decide +kernel
theorem dX12_swap_18 : decode cX12_swap 18 = .ok (.aload_n 0, 1) := by decide +kernel
theorem dX12_swap_19 : decode cX12_swap 19 = .ok (.getfield 46, 3) := by decide +kernel
theorem dX12_swap_22 : decode cX12_swap 22 = .ok (.iload_n 1, 1) := by decide +kernel
theorem dX12_swap_23 : decode cX12_swap 23 = .ok (.iaload, 1) := by decide +kernel
theorem dX12_swap_24 : decode cX12_swap 24 = .ok (.bipush 10, 2) := by decide +kernel
theorem dX12_swap_26 : decode cX12_swap 26 = .ok (.if_icmp .ge 29, 3) := by decide +kernel
theorem dX12_swap_29 : decode cX12_swap 29 = .ok (.aload_n 0, 1) := by decide +kernel
theorem dX12_swap_30 : decode cX12_swap 30 = .ok (.getfield 46, 3) := by decide +kernel
theorem dX12_swap_33 : decode cX12_swap 33 = .ok (.iload_n 2, 1) := by decide +kernel
theorem dX12_swap_34 : decode cX12_swap 34 = .ok (.iaload, 1) := by decide +kernel
theorem dX12_swap_35 : decode cX12_swap 35 = .ok (.bipush 11, 2) := by decide +kernel
theorem dX12_swap_37 : decode cX12_swap 37 = .ok (.if_icmp .ne 18, 3) := by decide +kernel
theorem dX12_swap_40 : decode cX12_swap 40 = .ok (.aload_n 0, 1) := by decide +kernel
theorem dX12_swap_41 : decode cX12_swap 41 = .ok (.getfield 40, 3) := by decide +kernel
theorem dX12_swap_44 : decode cX12_swap 44 = .ok (.iload_n 1, 1) := by decide +kernel
theorem dX12_swap_45 : decode cX12_swap 45 = .ok (.iaload, 1) := by decide +kernel
theorem dX12_swap_46 : decode cX12_swap 46 = .ok (.aload_n 0, 1) := by decide +kernel
theorem dX12_swap_47 : decode cX12_swap 47 = .ok (.getfield 40, 3) := by decide +kernel
theorem dX12_swap_50 : decode cX12_swap 50 = .ok (.iload_n 2, 1) := by decide +kernel
theorem dX12_swap_51 : decode cX12_swap 51 = .ok (.iaload, 1) := by decide +kernel
theorem dX12_swap_52 : decode cX12_swap 52 = .ok (.if_icmp .eq 6, 3) := by decide +kernel
theorem dX12_swap_55 : decode cX12_swap 55 = .ok (.bipush (-2), 2) := by decide +kernel
theorem dX12_swap_57 : decode cX12_swap 57 = .ok (.ireturn, 1) := by decide +kernel
theorem dX12_swap_58 : decode cX12_swap 58 = .ok (.aload_n 0, 1) := by decide +kernel
theorem dX12_swap_59 : decode cX12_swap 59 = .ok (.getfield 186, 3) := by decide +kernel
theorem dX12_swap_62 : decode cX12_swap 62 = .ok (.iconst 2, 1) := by decide +kernel
theorem dX12_swap_63 : decode cX12_swap 63 = .ok (.iadd, 1) := by decide +kernel
theorem dX12_swap_64 : decode cX12_swap 64 = .ok (.sipush 500, 3) := by decide +kernel
theorem dX12_swap_67 : decode cX12_swap 67 = .ok (.if_icmp .le 6, 3) := by decide +kernel
theorem dX12_swap_70 : decode cX12_swap 70 = .ok (.bipush (-3), 2) := by decide +kernel
theorem dX12_swap_72 : decode cX12_swap 72 = .ok (.ireturn, 1) := by decide +kernel
theorem dX12_swap_73 : decode cX12_swap 73 = .ok (.aload_n 0, 1) := by decide +kernel
theorem dX12_swap_74 : decode cX12_swap 74 = .ok (.getfield 46, 3) := by decide +kernel
theorem dX12_swap_77 : decode cX12_swap 77 = .ok (.iload_n 1, 1) := by decide +kernel
theorem dX12_swap_78 : decode cX12_swap 78 = .ok (.iaload, 1) := by decide +kernel
theorem dX12_swap_79 : decode cX12_swap 79 = .ok (.istore_n 3, 1) := by decide +kernel
theorem dX12_swap_80 : decode cX12_swap 80 = .ok (.aload_n 0, 1) := by decide +kernel
theorem dX12_swap_81 : decode cX12_swap 81 = .ok (.iload_n 1, 1) := by decide +kernel
theorem dX12_swap_82 : decode cX12_swap 82 = .ok (.invokevirtual 205, 3) := by decide +kernel
theorem dX12_swap_85 : decode cX12_swap 85 = .ok (.aload_n 0, 1) := by decide +kernel
theorem dX12_swap_86 : decode cX12_swap 86 = .ok (.iload_n 1, 1) := by decide +kernel
theorem dX12_swap_87 : decode cX12_swap 87 = .ok (.bipush 11, 2) := by decide +kernel
theorem dX12_swap_89 : decode cX12_swap 89 = .ok (.invokevirtual 198, 3) := by decide +kernel
theorem dX12_swap_92 : decode cX12_swap 92 = .ok (.aload_n 0, 1) := by decide +kernel
theorem dX12_swap_93 : decode cX12_swap 93 = .ok (.iload_n 2, 1) := by decide +kernel
theorem dX12_swap_94 : decode cX12_swap 94 = .ok (.invokevirtual 205, 3) := by decide +kernel
theorem dX12_swap_97 : decode cX12_swap 97 = .ok (.aload_n 0, 1) := by decide +kernel
theorem dX12_swap_98 : decode cX12_swap 98 = .ok (.iload_n 2, 1) := by decide +kernel
theorem dX12_swap_99 : decode cX12_swap 99 = .ok (.iload_n 3, 1) := by decide +kernel
theorem dX12_swap_100 : decode cX12_swap 100 = .ok (.invokevirtual 198, 3) := by decide +kernel
theorem dX12_swap_103 : decode cX12_swap 103 = .ok (.iconst 1, 1) := by decide +kernel
theorem dX12_swap_104 : decode cX12_swap 104 = .ok (.ireturn, 1) := by decide +kernel
theorem dX12_repair_0 : decode cX12_repair 0 = .ok (.aload_n 0, 1) := by decide +kernel
theorem dX12_repair_1 : decode cX12_repair 1 = .ok (.iload_n 1, 1) := by decide +kernel
theorem dX12_repair_2 : decode cX12_repair 2 = .ok (.invokevirtual 202, 3) := by decide +kernel
theorem dX12_repair_5 : decode cX12_repair 5 = .ok (.ifCond .eq 13, 3) := by decide +kernel
theorem dX12_repair_8 : decode cX12_repair 8 = .ok (.iload_n 2, 1) := by decide +kernel
theorem dX12_repair_9 : decode cX12_repair 9 = .ok (.iconst 1, 1) := by decide +kernel
theorem dX12_repair_10 : decode cX12_repair 10 = .ok (.bipush 7, 2) := by decide +kernel
theorem dX12_repair_12 : decode cX12_repair 12 = .ok (.invokestatic 151, 3) := by decide +kernel
theorem dX12_repair_15 : decode cX12_repair 15 = .ok (.ifCond .ne 5, 3) := by decide +kernel
theorem dX12_repair_18 : decode cX12_repair 18 = .ok (.iconst (-1), 1) := by decide +kernel
theorem dX12_repair_19 : decode cX12_repair 19 = .ok (.ireturn, 1) := by decide +kernel
theorem dX12_repair_20 : decode cX12_repair 20 = .ok (.aload_n 0, 1) := by decide +kernel
theorem dX12_repair_21 : decode cX12_repair 21 = .ok (.getfield 46, 3) := by decide +kernel
theorem dX12_repair_24 : decode cX12_repair 24 = .ok (.iload_n 1, 1) := by decide +kernel
theorem dX12_repair_25 : decode cX12_repair 25 = .ok (.iaload, 1) := by decide +kernel
theorem dX12_repair_26 : decode cX12_repair 26 = .ok (.bipush 10, 2) := by decide +kernel
theorem dX12_repair_28 : decode cX12_repair 28 = .ok (.if_icmp .eq 6, 3) := by decide +kernel
theorem dX12_repair_31 : decode cX12_repair 31 = .ok (.bipush (-2), 2) := by decide +kernel
theorem dX12_repair_33 : decode cX12_repair 33 = .ok (.ireturn, 1) := by decide +kernel
theorem dX12_repair_34 : decode cX12_repair 34 = .ok (.iconst 0, 1) := by decide +kernel
theorem dX12_repair_35 : decode cX12_repair 35 = .ok (.istore_n 3, 1) := by decide +kernel
theorem dX12_repair_36 : decode cX12_repair 36 = .ok (.iload_n 3, 1) := by decide +kernel
theorem dX12_repair_37 : decode cX12_repair 37 = .ok (.iconst 3, 1) := by decide +kernel
theorem dX12_repair_38 : decode cX12_repair 38 = .ok (.if_icmp .ge 29, 3) := by decide +kernel
theorem dX12_repair_41 : decode cX12_repair 41 = .ok (.iload_n 2, 1) := by decide +kernel
theorem dX12_repair_42 : decode cX12_repair 42 = .ok (.iload_n 3, 1) := by decide +kernel
theorem dX12_repair_43 : decode cX12_repair 43 = .ok (.ishr, 1) := by decide +kernel
theorem dX12_repair_44 : decode cX12_repair 44 = .ok (.iconst 1, 1) := by decide +kernel
theorem dX12_repair_45 : decode cX12_repair 45 = .ok (.iand, 1) := by decide +kernel
theorem dX12_repair_46 : decode cX12_repair 46 = .ok (.iconst 1, 1) := by decide +kernel
theorem dX12_repair_47 : decode cX12_repair 47 = .ok (.if_icmp .ne 14, 3) := by decide +kernel
theorem dX12_repair_50 : decode cX12_repair 50 = .ok (.aload_n 0, 1) := by decide +kernel
theorem dX12_repair_51 : decode cX12_repair 51 = .ok (.getfield 49, 3) := by decide +kernel
theorem dX12_repair_54 : decode cX12_repair 54 = .ok (.iconst 3, 1) := by decide +kernel
theorem dX12_repair_55 : decode cX12_repair 55 = .ok (.iload_n 1, 1) := by decide +kernel
theorem dX12_repair_56 : decode cX12_repair 56 = .ok (.imul, 1) := by decide +kernel
theorem dX12_repair_57 : decode cX12_repair 57 = .ok (.iload_n 3, 1) := by decide +kernel
theorem dX12_repair_58 : decode cX12_repair 58 = .ok (.iadd, 1) := by decide +kernel
theorem dX12_repair_59 : decode cX12_repair 59 = .ok (.iconst 0, 1) := by decide +kernel
theorem dX12_repair_60 : decode cX12_repair 60 = .ok (.iastore, 1) := by decide +kernel
theorem dX12_repair_61 : decode cX12_repair 61 = .ok (.iinc 3 1, 3) := by decide +kernel
theorem dX12_repair_64 : decode cX12_repair 64 = .ok (.goto (-28), 3) := by decide +kernel
theorem dX12_repair_67 : decode cX12_repair 67 = .ok (.iconst 1, 1) := by decide +kernel
theorem dX12_repair_68 : decode cX12_repair 68 = .ok (.ireturn, 1) := by decide +kernel
theorem dX12_isGap_0 : decode cX12_isGap 0 = .ok (.aload_n 0, 1) := by decide +kernel
theorem dX12_isGap_1 : decode cX12_isGap 1 = .ok (.getfield 61, 3) := by decide +kernel
theorem dX12_isGap_4 : decode cX12_isGap 4 = .ok (.iload_n 1, 1) := by decide +kernel
theorem dX12_isGap_5 : decode cX12_isGap 5 = .ok (.iaload, 1) := by decide +kernel
theorem dX12_isGap_6 : decode cX12_isGap 6 = .ok (.ldc 189, 2) := by decide +kernel
theorem dX12_isGap_8 : decode cX12_isGap 8 = .ok (.if_icmp .eq 16, 3) := by decide +kernel
theorem dX12_isGap_11 : decode cX12_isGap 11 = .ok (.aload_n 0, 1) := by decide +kernel
theorem dX12_isGap_12 : decode cX12_isGap 12 = .ok (.getfield 76, 3) := by decide +kernel
theorem dX12_isGap_15 : decode cX12_isGap 15 = .ok (.iload_n 1, 1) := by decide +kernel
theorem dX12_isGap_16 : decode cX12_isGap 16 = .ok (.baload, 1) := by decide +kernel
theorem dX12_isGap_17 : decode cX12_isGap 17 = .ok (.ifCond .ne 7, 3) := by decide +kernel
theorem dX12_isGap_20 : decode cX12_isGap 20 = .ok (.iconst 1, 1) := by decide +kernel
theorem dX12_isGap_21 : decode cX12_isGap 21 = .ok (.goto 4, 3) := by decide +kernel
theorem dX12_isGap_24 : decode cX12_isGap 24 = .ok (.iconst 0, 1) := by decide +kernel
theorem dX12_isGap_25 : decode cX12_isGap 25 = .ok (.ireturn, 1) := by decide +kernel
theorem dX12_gapsOf_0 : decode cX12_gapsOf 0 = .ok (.iconst 0, 1) := by decide +kernel
theorem dX12_gapsOf_1 : decode cX12_gapsOf 1 = .ok (.istore_n 2, 1) := by decide +kernel
theorem dX12_gapsOf_2 : decode cX12_gapsOf 2 = .ok (.iconst 0, 1) := by decide +kernel
theorem dX12_gapsOf_3 : decode cX12_gapsOf 3 = .ok (.istore_n 3, 1) := by decide +kernel
theorem dX12_gapsOf_4 : decode cX12_gapsOf 4 = .ok (.iload_n 3, 1) := by decide +kernel
theorem dX12_gapsOf_5 : decode cX12_gapsOf 5 = .ok (.aload_n 0, 1) := by decide +kernel
theorem dX12_gapsOf_6 : decode cX12_gapsOf 6 = .ok (.getfield 186, 3) := by decide +kernel
theorem dX12_gapsOf_9 : decode cX12_gapsOf 9 = .ok (.if_icmp .ge 35, 3) := by decide +kernel
theorem dX12_gapsOf_12 : decode cX12_gapsOf 12 = .ok (.iload_n 2, 1) := by decide +kernel
theorem dX12_gapsOf_13 : decode cX12_gapsOf 13 = .ok (.aload_n 0, 1) := by decide +kernel
theorem dX12_gapsOf_14 : decode cX12_gapsOf 14 = .ok (.getfield 52, 3) := by decide +kernel
theorem dX12_gapsOf_17 : decode cX12_gapsOf 17 = .ok (.iload_n 3, 1) := by decide +kernel
theorem dX12_gapsOf_18 : decode cX12_gapsOf 18 = .ok (.iaload, 1) := by decide +kernel
theorem dX12_gapsOf_19 : decode cX12_gapsOf 19 = .ok (.iload_n 1, 1) := by decide +kernel
theorem dX12_gapsOf_20 : decode cX12_gapsOf 20 = .ok (.if_icmp .ne 15, 3) := by decide +kernel
theorem dX12_gapsOf_23 : decode cX12_gapsOf 23 = .ok (.aload_n 0, 1) := by decide +kernel
theorem dX12_gapsOf_24 : decode cX12_gapsOf 24 = .ok (.iload_n 3, 1) := by decide +kernel
theorem dX12_gapsOf_25 : decode cX12_gapsOf 25 = .ok (.invokevirtual 209, 3) := by decide +kernel
theorem dX12_gapsOf_28 : decode cX12_gapsOf 28 = .ok (.ifCond .eq 7, 3) := by decide +kernel
theorem dX12_gapsOf_31 : decode cX12_gapsOf 31 = .ok (.iconst 1, 1) := by decide +kernel
theorem dX12_gapsOf_32 : decode cX12_gapsOf 32 = .ok (.goto 4, 3) := by decide +kernel
theorem dX12_gapsOf_35 : decode cX12_gapsOf 35 = .ok (.iconst 0, 1) := by decide +kernel
theorem dX12_gapsOf_36 : decode cX12_gapsOf 36 = .ok (.iadd, 1) := by decide +kernel
theorem dX12_gapsOf_37 : decode cX12_gapsOf 37 = .ok (.istore_n 2, 1) := by decide +kernel
theorem dX12_gapsOf_38 : decode cX12_gapsOf 38 = .ok (.iinc 3 1, 3) := by decide +kernel
theorem dX12_gapsOf_41 : decode cX12_gapsOf 41 = .ok (.goto (-37), 3) := by decide +kernel
theorem dX12_gapsOf_44 : decode cX12_gapsOf 44 = .ok (.iload_n 2, 1) := by decide +kernel
theorem dX12_gapsOf_45 : decode cX12_gapsOf 45 = .ok (.ireturn, 1) := by decide +kernel
theorem dX12_lastDay_0 : decode cX12_lastDay 0 = .ok (.aload_n 0, 1) := by decide +kernel
theorem dX12_lastDay_1 : decode cX12_lastDay 1 = .ok (.getfield 61, 3) := by decide +kernel
theorem dX12_lastDay_4 : decode cX12_lastDay 4 = .ok (.iload_n 1, 1) := by decide +kernel
theorem dX12_lastDay_5 : decode cX12_lastDay 5 = .ok (.iaload, 1) := by decide +kernel
theorem dX12_lastDay_6 : decode cX12_lastDay 6 = .ok (.ldc 189, 2) := by decide +kernel
theorem dX12_lastDay_8 : decode cX12_lastDay 8 = .ok (.if_icmp .ne 10, 3) := by decide +kernel
theorem dX12_lastDay_11 : decode cX12_lastDay 11 = .ok (.aload_n 0, 1) := by decide +kernel
theorem dX12_lastDay_12 : decode cX12_lastDay 12 = .ok (.getfield 183, 3) := by decide +kernel
theorem dX12_lastDay_15 : decode cX12_lastDay 15 = .ok (.goto 9, 3) := by decide +kernel
theorem dX12_lastDay_18 : decode cX12_lastDay 18 = .ok (.aload_n 0, 1) := by decide +kernel
theorem dX12_lastDay_19 : decode cX12_lastDay 19 = .ok (.getfield 61, 3) := by decide +kernel
theorem dX12_lastDay_22 : decode cX12_lastDay 22 = .ok (.iload_n 1, 1) := by decide +kernel
theorem dX12_lastDay_23 : decode cX12_lastDay 23 = .ok (.iaload, 1) := by decide +kernel
theorem dX12_lastDay_24 : decode cX12_lastDay 24 = .ok (.ireturn, 1) := by decide +kernel
theorem dX12_hoursEnd_0 : decode cX12_hoursEnd 0 = .ok (.aload_n 0, 1) := by decide +kernel
theorem dX12_hoursEnd_1 : decode cX12_hoursEnd 1 = .ok (.getfield 61, 3) := by decide +kernel
theorem dX12_hoursEnd_4 : decode cX12_hoursEnd 4 = .ok (.iload_n 1, 1) := by decide +kernel
theorem dX12_hoursEnd_5 : decode cX12_hoursEnd 5 = .ok (.iaload, 1) := by decide +kernel
theorem dX12_hoursEnd_6 : decode cX12_hoursEnd 6 = .ok (.ldc 189, 2) := by decide +kernel
theorem dX12_hoursEnd_8 : decode cX12_hoursEnd 8 = .ok (.if_icmp .ne 19, 3) := by decide +kernel
theorem dX12_hoursEnd_11 : decode cX12_hoursEnd 11 = .ok (.aload_n 0, 1) := by decide +kernel
theorem dX12_hoursEnd_12 : decode cX12_hoursEnd 12 = .ok (.getfield 49, 3) := by decide +kernel
theorem dX12_hoursEnd_15 : decode cX12_hoursEnd 15 = .ok (.iconst 3, 1) := by decide +kernel
theorem dX12_hoursEnd_16 : decode cX12_hoursEnd 16 = .ok (.aload_n 0, 1) := by decide +kernel
theorem dX12_hoursEnd_17 : decode cX12_hoursEnd 17 = .ok (.getfield 52, 3) := by decide +kernel
theorem dX12_hoursEnd_20 : decode cX12_hoursEnd 20 = .ok (.iload_n 1, 1) := by decide +kernel
theorem dX12_hoursEnd_21 : decode cX12_hoursEnd 21 = .ok (.iaload, 1) := by decide +kernel
theorem dX12_hoursEnd_22 : decode cX12_hoursEnd 22 = .ok (.imul, 1) := by decide +kernel
theorem dX12_hoursEnd_23 : decode cX12_hoursEnd 23 = .ok (.iaload, 1) := by decide +kernel
theorem dX12_hoursEnd_24 : decode cX12_hoursEnd 24 = .ok (.goto 9, 3) := by decide +kernel
theorem dX12_hoursEnd_27 : decode cX12_hoursEnd 27 = .ok (.aload_n 0, 1) := by decide +kernel
theorem dX12_hoursEnd_28 : decode cX12_hoursEnd 28 = .ok (.getfield 67, 3) := by decide +kernel
theorem dX12_hoursEnd_31 : decode cX12_hoursEnd 31 = .ok (.iload_n 1, 1) := by decide +kernel
theorem dX12_hoursEnd_32 : decode cX12_hoursEnd 32 = .ok (.iaload, 1) := by decide +kernel
theorem dX12_hoursEnd_33 : decode cX12_hoursEnd 33 = .ok (.ireturn, 1) := by decide +kernel
theorem dX12_landingsEnd_0 : decode cX12_landingsEnd 0 = .ok (.aload_n 0, 1) := by decide +kernel
theorem dX12_landingsEnd_1 : decode cX12_landingsEnd 1 = .ok (.getfield 61, 3) := by decide +kernel
theorem dX12_landingsEnd_4 : decode cX12_landingsEnd 4 = .ok (.iload_n 1, 1) := by decide +kernel
theorem dX12_landingsEnd_5 : decode cX12_landingsEnd 5 = .ok (.iaload, 1) := by decide +kernel
theorem dX12_landingsEnd_6 : decode cX12_landingsEnd 6 = .ok (.ldc 189, 2) := by decide +kernel
theorem dX12_landingsEnd_8 : decode cX12_landingsEnd 8 = .ok (.if_icmp .ne 21, 3) := by decide +kernel
theorem dX12_landingsEnd_11 : decode cX12_landingsEnd 11 = .ok (.aload_n 0, 1) := by decide +kernel
theorem dX12_landingsEnd_12 : decode cX12_landingsEnd 12 = .ok (.getfield 49, 3) := by decide +kernel
theorem dX12_landingsEnd_15 : decode cX12_landingsEnd 15 = .ok (.iconst 3, 1) := by decide +kernel
theorem dX12_landingsEnd_16 : decode cX12_landingsEnd 16 = .ok (.aload_n 0, 1) := by decide +kernel
theorem dX12_landingsEnd_17 : decode cX12_landingsEnd 17 = .ok (.getfield 52, 3) := by decide +kernel
theorem dX12_landingsEnd_20 : decode cX12_landingsEnd 20 = .ok (.iload_n 1, 1) := by decide +kernel
theorem dX12_landingsEnd_21 : decode cX12_landingsEnd 21 = .ok (.iaload, 1) := by decide +kernel
theorem dX12_landingsEnd_22 : decode cX12_landingsEnd 22 = .ok (.imul, 1) := by decide +kernel
theorem dX12_landingsEnd_23 : decode cX12_landingsEnd 23 = .ok (.iconst 1, 1) := by decide +kernel
theorem dX12_landingsEnd_24 : decode cX12_landingsEnd 24 = .ok (.iadd, 1) := by decide +kernel
theorem dX12_landingsEnd_25 : decode cX12_landingsEnd 25 = .ok (.iaload, 1) := by decide +kernel
theorem dX12_landingsEnd_26 : decode cX12_landingsEnd 26 = .ok (.goto 9, 3) := by decide +kernel
theorem dX12_landingsEnd_29 : decode cX12_landingsEnd 29 = .ok (.aload_n 0, 1) := by decide +kernel
theorem dX12_landingsEnd_30 : decode cX12_landingsEnd 30 = .ok (.getfield 73, 3) := by decide +kernel
theorem dX12_landingsEnd_33 : decode cX12_landingsEnd 33 = .ok (.iload_n 1, 1) := by decide +kernel
theorem dX12_landingsEnd_34 : decode cX12_landingsEnd 34 = .ok (.iaload, 1) := by decide +kernel
theorem dX12_landingsEnd_35 : decode cX12_landingsEnd 35 = .ok (.ireturn, 1) := by decide +kernel
theorem dX12_areTwice_0 : decode cX12_areTwice 0 = .ok (.iconst 0, 1) := by decide +kernel
theorem dX12_areTwice_1 : decode cX12_areTwice 1 = .ok (.istore_n 2, 1) := by decide +kernel
theorem dX12_areTwice_2 : decode cX12_areTwice 2 = .ok (.iload_n 2, 1) := by decide +kernel
theorem dX12_areTwice_3 : decode cX12_areTwice 3 = .ok (.aload_n 0, 1) := by decide +kernel
theorem dX12_areTwice_4 : decode cX12_areTwice 4 = .ok (.getfield 186, 3) := by decide +kernel
theorem dX12_areTwice_7 : decode cX12_areTwice 7 = .ok (.if_icmp .ge 93, 3) := by decide +kernel
theorem dX12_areTwice_10 : decode cX12_areTwice 10 = .ok (.aload_n 0, 1) := by decide +kernel
theorem dX12_areTwice_11 : decode cX12_areTwice 11 = .ok (.getfield 52, 3) := by decide +kernel
theorem dX12_areTwice_14 : decode cX12_areTwice 14 = .ok (.iload_n 2, 1) := by decide +kernel
theorem dX12_areTwice_15 : decode cX12_areTwice 15 = .ok (.iaload, 1) := by decide +kernel
theorem dX12_areTwice_16 : decode cX12_areTwice 16 = .ok (.iload_n 1, 1) := by decide +kernel
theorem dX12_areTwice_17 : decode cX12_areTwice 17 = .ok (.if_icmp .eq 6, 3) := by decide +kernel
theorem dX12_areTwice_20 : decode cX12_areTwice 20 = .ok (.goto 74, 3) := by decide +kernel
theorem dX12_areTwice_23 : decode cX12_areTwice 23 = .ok (.iconst 0, 1) := by decide +kernel
theorem dX12_areTwice_24 : decode cX12_areTwice 24 = .ok (.istore_n 3, 1) := by decide +kernel
theorem dX12_areTwice_25 : decode cX12_areTwice 25 = .ok (.iload_n 3, 1) := by decide +kernel
theorem dX12_areTwice_26 : decode cX12_areTwice 26 = .ok (.aload_n 0, 1) := by decide +kernel
theorem dX12_areTwice_27 : decode cX12_areTwice 27 = .ok (.getfield 186, 3) := by decide +kernel
theorem dX12_areTwice_30 : decode cX12_areTwice 30 = .ok (.if_icmp .ge 64, 3) := by decide +kernel
theorem dX12_areTwice_33 : decode cX12_areTwice 33 = .ok (.aload_n 0, 1) := by decide +kernel
theorem dX12_areTwice_34 : decode cX12_areTwice 34 = .ok (.getfield 52, 3) := by decide +kernel
theorem dX12_areTwice_37 : decode cX12_areTwice 37 = .ok (.iload_n 3, 1) := by decide +kernel
theorem dX12_areTwice_38 : decode cX12_areTwice 38 = .ok (.iaload, 1) := by decide +kernel
theorem dX12_areTwice_39 : decode cX12_areTwice 39 = .ok (.iload_n 1, 1) := by decide +kernel
theorem dX12_areTwice_40 : decode cX12_areTwice 40 = .ok (.if_icmp .ne 48, 3) := by decide +kernel
theorem dX12_areTwice_43 : decode cX12_areTwice 43 = .ok (.aload_n 0, 1) := by decide +kernel
theorem dX12_areTwice_44 : decode cX12_areTwice 44 = .ok (.getfield 55, 3) := by decide +kernel
theorem dX12_areTwice_47 : decode cX12_areTwice 47 = .ok (.iload_n 3, 1) := by decide +kernel
theorem dX12_areTwice_48 : decode cX12_areTwice 48 = .ok (.iaload, 1) := by decide +kernel
theorem dX12_areTwice_49 : decode cX12_areTwice 49 = .ok (.aload_n 0, 1) := by decide +kernel
theorem dX12_areTwice_50 : decode cX12_areTwice 50 = .ok (.getfield 55, 3) := by decide +kernel
theorem dX12_areTwice_53 : decode cX12_areTwice 53 = .ok (.iload_n 2, 1) := by decide +kernel
theorem dX12_areTwice_54 : decode cX12_areTwice 54 = .ok (.iaload, 1) := by decide +kernel
theorem dX12_areTwice_55 : decode cX12_areTwice 55 = .ok (.if_icmp .eq 33, 3) := by decide +kernel
theorem dX12_areTwice_58 : decode cX12_areTwice 58 = .ok (.aload_n 0, 1) := by decide +kernel
theorem dX12_areTwice_59 : decode cX12_areTwice 59 = .ok (.getfield 58, 3) := by decide +kernel
theorem dX12_areTwice_62 : decode cX12_areTwice 62 = .ok (.iload_n 2, 1) := by decide +kernel
theorem dX12_areTwice_63 : decode cX12_areTwice 63 = .ok (.iaload, 1) := by decide +kernel
theorem dX12_areTwice_64 : decode cX12_areTwice 64 = .ok (.aload_n 0, 1) := by decide +kernel
theorem dX12_areTwice_65 : decode cX12_areTwice 65 = .ok (.iload_n 3, 1) := by decide +kernel
theorem dX12_areTwice_66 : decode cX12_areTwice 66 = .ok (.invokevirtual 212, 3) := by decide +kernel
theorem dX12_areTwice_69 : decode cX12_areTwice 69 = .ok (.if_icmp .ge 19, 3) := by decide +kernel
theorem dX12_areTwice_72 : decode cX12_areTwice 72 = .ok (.aload_n 0, 1) := by decide +kernel
theorem dX12_areTwice_73 : decode cX12_areTwice 73 = .ok (.getfield 58, 3) := by decide +kernel
theorem dX12_areTwice_76 : decode cX12_areTwice 76 = .ok (.iload_n 3, 1) := by decide +kernel
theorem dX12_areTwice_77 : decode cX12_areTwice 77 = .ok (.iaload, 1) := by decide +kernel
theorem dX12_areTwice_78 : decode cX12_areTwice 78 = .ok (.aload_n 0, 1) := by decide +kernel
theorem dX12_areTwice_79 : decode cX12_areTwice 79 = .ok (.iload_n 2, 1) := by decide +kernel
theorem dX12_areTwice_80 : decode cX12_areTwice 80 = .ok (.invokevirtual 212, 3) := by decide +kernel
theorem dX12_areTwice_83 : decode cX12_areTwice 83 = .ok (.if_icmp .ge 5, 3) := by decide +kernel
theorem dX12_areTwice_86 : decode cX12_areTwice 86 = .ok (.iconst 1, 1) := by decide +kernel
theorem dX12_areTwice_87 : decode cX12_areTwice 87 = .ok (.ireturn, 1) := by decide +kernel
theorem dX12_areTwice_88 : decode cX12_areTwice 88 = .ok (.iinc 3 1, 3) := by decide +kernel
theorem dX12_areTwice_91 : decode cX12_areTwice 91 = .ok (.goto (-66), 3) := by decide +kernel
theorem dX12_areTwice_94 : decode cX12_areTwice 94 = .ok (.iinc 2 1, 3) := by decide +kernel
theorem dX12_areTwice_97 : decode cX12_areTwice 97 = .ok (.goto (-95), 3) := by decide +kernel
theorem dX12_areTwice_100 : decode cX12_areTwice 100 = .ok (.iconst 0, 1) := by decide +kernel
theorem dX12_areTwice_101 : decode cX12_areTwice 101 = .ok (.ireturn, 1) := by decide +kernel
theorem dX12_isLess_0 : decode cX12_isLess 0 = .ok (.aload_n 0, 1) := by decide +kernel
theorem dX12_isLess_1 : decode cX12_isLess 1 = .ok (.iload_n 1, 1) := by decide +kernel
theorem dX12_isLess_2 : decode cX12_isLess 2 = .ok (.invokevirtual 215, 3) := by decide +kernel
theorem dX12_isLess_5 : decode cX12_isLess 5 = .ok (.istore_n 2, 1) := by decide +kernel
theorem dX12_isLess_6 : decode cX12_isLess 6 = .ok (.iconst (-1), 1) := by decide +kernel
theorem dX12_isLess_7 : decode cX12_isLess 7 = .ok (.istore_n 3, 1) := by decide +kernel
theorem dX12_isLess_8 : decode cX12_isLess 8 = .ok (.iconst 0, 1) := by decide +kernel
theorem dX12_isLess_9 : decode cX12_isLess 9 = .ok (.istore 4, 2) := by decide +kernel
theorem dX12_isLess_11 : decode cX12_isLess 11 = .ok (.iload 4, 2) := by decide +kernel
theorem dX12_isLess_13 : decode cX12_isLess 13 = .ok (.iload_n 2, 1) := by decide +kernel
theorem dX12_isLess_14 : decode cX12_isLess 14 = .ok (.if_icmp .ge 126, 3) := by decide +kernel
theorem dX12_isLess_17 : decode cX12_isLess 17 = .ok (.aload_n 0, 1) := by decide +kernel
theorem dX12_isLess_18 : decode cX12_isLess 18 = .ok (.iload_n 1, 1) := by decide +kernel
theorem dX12_isLess_19 : decode cX12_isLess 19 = .ok (.iload 4, 2) := by decide +kernel
theorem dX12_isLess_21 : decode cX12_isLess 21 = .ok (.invokevirtual 218, 3) := by decide +kernel
theorem dX12_isLess_24 : decode cX12_isLess 24 = .ok (.istore 5, 2) := by decide +kernel
theorem dX12_isLess_26 : decode cX12_isLess 26 = .ok (.aload_n 0, 1) := by decide +kernel
theorem dX12_isLess_27 : decode cX12_isLess 27 = .ok (.getfield 55, 3) := by decide +kernel
theorem dX12_isLess_30 : decode cX12_isLess 30 = .ok (.iload 5, 2) := by decide +kernel
theorem dX12_isLess_32 : decode cX12_isLess 32 = .ok (.iaload, 1) := by decide +kernel
theorem dX12_isLess_33 : decode cX12_isLess 33 = .ok (.bipush 10, 2) := by decide +kernel
theorem dX12_isLess_35 : decode cX12_isLess 35 = .ok (.if_icmp .eq 37, 3) := by decide +kernel
theorem dX12_isLess_38 : decode cX12_isLess 38 = .ok (.aload_n 0, 1) := by decide +kernel
theorem dX12_isLess_39 : decode cX12_isLess 39 = .ok (.iload 5, 2) := by decide +kernel
theorem dX12_isLess_41 : decode cX12_isLess 41 = .ok (.invokevirtual 221, 3) := by decide +kernel
theorem dX12_isLess_44 : decode cX12_isLess 44 = .ok (.aload_n 0, 1) := by decide +kernel
theorem dX12_isLess_45 : decode cX12_isLess 45 = .ok (.getfield 64, 3) := by decide +kernel
theorem dX12_isLess_48 : decode cX12_isLess 48 = .ok (.iload 5, 2) := by decide +kernel
theorem dX12_isLess_50 : decode cX12_isLess 50 = .ok (.iaload, 1) := by decide +kernel
theorem dX12_isLess_51 : decode cX12_isLess 51 = .ok (.if_icmp .lt 19, 3) := by decide +kernel
theorem dX12_isLess_54 : decode cX12_isLess 54 = .ok (.aload_n 0, 1) := by decide +kernel
theorem dX12_isLess_55 : decode cX12_isLess 55 = .ok (.iload 5, 2) := by decide +kernel
theorem dX12_isLess_57 : decode cX12_isLess 57 = .ok (.invokevirtual 224, 3) := by decide +kernel
theorem dX12_isLess_60 : decode cX12_isLess 60 = .ok (.aload_n 0, 1) := by decide +kernel
theorem dX12_isLess_61 : decode cX12_isLess 61 = .ok (.getfield 70, 3) := by decide +kernel
theorem dX12_isLess_64 : decode cX12_isLess 64 = .ok (.iload 5, 2) := by decide +kernel
theorem dX12_isLess_66 : decode cX12_isLess 66 = .ok (.iaload, 1) := by decide +kernel
theorem dX12_isLess_67 : decode cX12_isLess 67 = .ok (.if_icmp .ge 5, 3) := by decide +kernel
theorem dX12_isLess_70 : decode cX12_isLess 70 = .ok (.iconst 1, 1) := by decide +kernel
theorem dX12_isLess_71 : decode cX12_isLess 71 = .ok (.ireturn, 1) := by decide +kernel
theorem dX12_isLess_72 : decode cX12_isLess 72 = .ok (.iload_n 3, 1) := by decide +kernel
theorem dX12_isLess_73 : decode cX12_isLess 73 = .ok (.ifCond .lt 58, 3) := by decide +kernel
theorem dX12_isLess_76 : decode cX12_isLess 76 = .ok (.aload_n 0, 1) := by decide +kernel
theorem dX12_isLess_77 : decode cX12_isLess 77 = .ok (.getfield 55, 3) := by decide +kernel
theorem dX12_isLess_80 : decode cX12_isLess 80 = .ok (.iload_n 3, 1) := by decide +kernel
theorem dX12_isLess_81 : decode cX12_isLess 81 = .ok (.iaload, 1) := by decide +kernel
theorem dX12_isLess_82 : decode cX12_isLess 82 = .ok (.bipush 10, 2) := by decide +kernel
theorem dX12_isLess_84 : decode cX12_isLess 84 = .ok (.if_icmp .eq 47, 3) := by decide +kernel
theorem dX12_isLess_87 : decode cX12_isLess 87 = .ok (.aload_n 0, 1) := by decide +kernel
theorem dX12_isLess_88 : decode cX12_isLess 88 = .ok (.getfield 55, 3) := by decide +kernel
theorem dX12_isLess_91 : decode cX12_isLess 91 = .ok (.iload 5, 2) := by decide +kernel
theorem dX12_isLess_93 : decode cX12_isLess 93 = .ok (.iaload, 1) := by decide +kernel
theorem dX12_isLess_94 : decode cX12_isLess 94 = .ok (.bipush 10, 2) := by decide +kernel
theorem dX12_isLess_96 : decode cX12_isLess 96 = .ok (.if_icmp .eq 35, 3) := by decide +kernel
theorem dX12_isLess_99 : decode cX12_isLess 99 = .ok (.aload_n 0, 1) := by decide +kernel
theorem dX12_isLess_100 : decode cX12_isLess 100 = .ok (.getfield 64, 3) := by decide +kernel
theorem dX12_isLess_103 : decode cX12_isLess 103 = .ok (.iload 5, 2) := by decide +kernel
theorem dX12_isLess_105 : decode cX12_isLess 105 = .ok (.iaload, 1) := by decide +kernel
theorem dX12_isLess_106 : decode cX12_isLess 106 = .ok (.aload_n 0, 1) := by decide +kernel
theorem dX12_isLess_107 : decode cX12_isLess 107 = .ok (.iload_n 3, 1) := by decide +kernel
theorem dX12_isLess_108 : decode cX12_isLess 108 = .ok (.invokevirtual 221, 3) := by decide +kernel
theorem dX12_isLess_111 : decode cX12_isLess 111 = .ok (.if_icmp .lt 18, 3) := by decide +kernel
theorem dX12_isLess_114 : decode cX12_isLess 114 = .ok (.aload_n 0, 1) := by decide +kernel
theorem dX12_isLess_115 : decode cX12_isLess 115 = .ok (.getfield 70, 3) := by decide +kernel
theorem dX12_isLess_118 : decode cX12_isLess 118 = .ok (.iload 5, 2) := by decide +kernel
theorem dX12_isLess_120 : decode cX12_isLess 120 = .ok (.iaload, 1) := by decide +kernel
theorem dX12_isLess_121 : decode cX12_isLess 121 = .ok (.aload_n 0, 1) := by decide +kernel
theorem dX12_isLess_122 : decode cX12_isLess 122 = .ok (.iload_n 3, 1) := by decide +kernel
theorem dX12_isLess_123 : decode cX12_isLess 123 = .ok (.invokevirtual 224, 3) := by decide +kernel
theorem dX12_isLess_126 : decode cX12_isLess 126 = .ok (.if_icmp .ge 5, 3) := by decide +kernel
theorem dX12_isLess_129 : decode cX12_isLess 129 = .ok (.iconst 1, 1) := by decide +kernel
theorem dX12_isLess_130 : decode cX12_isLess 130 = .ok (.ireturn, 1) := by decide +kernel
theorem dX12_isLess_131 : decode cX12_isLess 131 = .ok (.iload 5, 2) := by decide +kernel
theorem dX12_isLess_133 : decode cX12_isLess 133 = .ok (.istore_n 3, 1) := by decide +kernel
theorem dX12_isLess_134 : decode cX12_isLess 134 = .ok (.iinc 4 1, 3) := by decide +kernel
theorem dX12_isLess_137 : decode cX12_isLess 137 = .ok (.goto (-126), 3) := by decide +kernel
theorem dX12_isLess_140 : decode cX12_isLess 140 = .ok (.iconst 0, 1) := by decide +kernel
theorem dX12_isLess_141 : decode cX12_isLess 141 = .ok (.ireturn, 1) := by decide +kernel
theorem dX12_isDouble_0 : decode cX12_isDouble 0 = .ok (.iconst 0, 1) := by decide +kernel
theorem dX12_isDouble_1 : decode cX12_isDouble 1 = .ok (.istore_n 2, 1) := by decide +kernel
theorem dX12_isDouble_2 : decode cX12_isDouble 2 = .ok (.iload_n 2, 1) := by decide +kernel
theorem dX12_isDouble_3 : decode cX12_isDouble 3 = .ok (.aload_n 0, 1) := by decide +kernel
theorem dX12_isDouble_4 : decode cX12_isDouble 4 = .ok (.getfield 166, 3) := by decide +kernel
theorem dX12_isDouble_7 : decode cX12_isDouble 7 = .ok (.if_icmp .ge 57, 3) := by decide +kernel
theorem dX12_isDouble_10 : decode cX12_isDouble 10 = .ok (.iload_n 2, 1) := by decide +kernel
theorem dX12_isDouble_11 : decode cX12_isDouble 11 = .ok (.iload_n 1, 1) := by decide +kernel
theorem dX12_isDouble_12 : decode cX12_isDouble 12 = .ok (.if_icmp .eq 46, 3) := by decide +kernel
theorem dX12_isDouble_15 : decode cX12_isDouble 15 = .ok (.aload_n 0, 1) := by decide +kernel
theorem dX12_isDouble_16 : decode cX12_isDouble 16 = .ok (.getfield 40, 3) := by decide +kernel
theorem dX12_isDouble_19 : decode cX12_isDouble 19 = .ok (.iload_n 2, 1) := by decide +kernel
theorem dX12_isDouble_20 : decode cX12_isDouble 20 = .ok (.iaload, 1) := by decide +kernel
theorem dX12_isDouble_21 : decode cX12_isDouble 21 = .ok (.aload_n 0, 1) := by decide +kernel
theorem dX12_isDouble_22 : decode cX12_isDouble 22 = .ok (.getfield 40, 3) := by decide +kernel
theorem dX12_isDouble_25 : decode cX12_isDouble 25 = .ok (.iload_n 1, 1) := by decide +kernel
theorem dX12_isDouble_26 : decode cX12_isDouble 26 = .ok (.iaload, 1) := by decide +kernel
theorem dX12_isDouble_27 : decode cX12_isDouble 27 = .ok (.if_icmp .ne 31, 3) := by decide +kernel
theorem dX12_isDouble_30 : decode cX12_isDouble 30 = .ok (.aload_n 0, 1) := by decide +kernel
theorem dX12_isDouble_31 : decode cX12_isDouble 31 = .ok (.getfield 43, 3) := by decide +kernel
theorem dX12_isDouble_34 : decode cX12_isDouble 34 = .ok (.iload_n 2, 1) := by decide +kernel
theorem dX12_isDouble_35 : decode cX12_isDouble 35 = .ok (.iaload, 1) := by decide +kernel
theorem dX12_isDouble_36 : decode cX12_isDouble 36 = .ok (.aload_n 0, 1) := by decide +kernel
theorem dX12_isDouble_37 : decode cX12_isDouble 37 = .ok (.getfield 43, 3) := by decide +kernel
theorem dX12_isDouble_40 : decode cX12_isDouble 40 = .ok (.iload_n 1, 1) := by decide +kernel
theorem dX12_isDouble_41 : decode cX12_isDouble 41 = .ok (.iaload, 1) := by decide +kernel
theorem dX12_isDouble_42 : decode cX12_isDouble 42 = .ok (.if_icmp .ne 16, 3) := by decide +kernel
theorem dX12_isDouble_45 : decode cX12_isDouble 45 = .ok (.aload_n 0, 1) := by decide +kernel
theorem dX12_isDouble_46 : decode cX12_isDouble 46 = .ok (.getfield 46, 3) := by decide +kernel
theorem dX12_isDouble_49 : decode cX12_isDouble 49 = .ok (.iload_n 2, 1) := by decide +kernel
theorem dX12_isDouble_50 : decode cX12_isDouble 50 = .ok (.iaload, 1) := by decide +kernel
theorem dX12_isDouble_51 : decode cX12_isDouble 51 = .ok (.bipush 12, 2) := by decide +kernel
theorem dX12_isDouble_53 : decode cX12_isDouble 53 = .ok (.if_icmp .eq 5, 3) := by decide +kernel
theorem dX12_isDouble_56 : decode cX12_isDouble 56 = .ok (.iconst 1, 1) := by decide +kernel
theorem dX12_isDouble_57 : decode cX12_isDouble 57 = .ok (.ireturn, 1) := by decide +kernel
theorem dX12_isDouble_58 : decode cX12_isDouble 58 = .ok (.iinc 2 1, 3) := by decide +kernel
theorem dX12_isDouble_61 : decode cX12_isDouble 61 = .ok (.goto (-59), 3) := by decide +kernel
theorem dX12_isDouble_64 : decode cX12_isDouble 64 = .ok (.iconst 0, 1) := by decide +kernel
theorem dX12_isDouble_65 : decode cX12_isDouble 65 = .ok (.ireturn, 1) := by decide +kernel
theorem dX12_cannot_0 : decode cX12_cannot 0 = .ok (.aload_n 0, 1) := by decide +kernel
theorem dX12_cannot_1 : decode cX12_cannot 1 = .ok (.iload_n 1, 1) := by decide +kernel
theorem dX12_cannot_2 : decode cX12_cannot 2 = .ok (.invokevirtual 227, 3) := by decide +kernel
theorem dX12_cannot_5 : decode cX12_cannot 5 = .ok (.ifCond .eq 7, 3) := by decide +kernel
theorem dX12_cannot_8 : decode cX12_cannot 8 = .ok (.iconst 1, 1) := by decide +kernel
theorem dX12_cannot_9 : decode cX12_cannot 9 = .ok (.goto 28, 3) := by decide +kernel
theorem dX12_cannot_12 : decode cX12_cannot 12 = .ok (.aload_n 0, 1) := by decide +kernel
theorem dX12_cannot_13 : decode cX12_cannot 13 = .ok (.iload_n 1, 1) := by decide +kernel
theorem dX12_cannot_14 : decode cX12_cannot 14 = .ok (.invokevirtual 230, 3) := by decide +kernel
theorem dX12_cannot_17 : decode cX12_cannot 17 = .ok (.ifCond .eq 7, 3) := by decide +kernel
theorem dX12_cannot_20 : decode cX12_cannot 20 = .ok (.iconst 2, 1) := by decide +kernel
theorem dX12_cannot_21 : decode cX12_cannot 21 = .ok (.goto 16, 3) := by decide +kernel
theorem dX12_cannot_24 : decode cX12_cannot 24 = .ok (.aload_n 0, 1) := by decide +kernel
theorem dX12_cannot_25 : decode cX12_cannot 25 = .ok (.iload_n 1, 1) := by decide +kernel
theorem dX12_cannot_26 : decode cX12_cannot 26 = .ok (.invokevirtual 233, 3) := by decide +kernel
theorem dX12_cannot_29 : decode cX12_cannot 29 = .ok (.ifCond .eq 7, 3) := by decide +kernel
theorem dX12_cannot_32 : decode cX12_cannot 32 = .ok (.iconst 3, 1) := by decide +kernel
theorem dX12_cannot_33 : decode cX12_cannot 33 = .ok (.goto 4, 3) := by decide +kernel
theorem dX12_cannot_36 : decode cX12_cannot 36 = .ok (.iconst 0, 1) := by decide +kernel
theorem dX12_cannot_37 : decode cX12_cannot 37 = .ok (.ireturn, 1) := by decide +kernel
theorem dX12_ofPart_0 : decode cX12_ofPart 0 = .ok (.aload_n 0, 1) := by decide +kernel
theorem dX12_ofPart_1 : decode cX12_ofPart 1 = .ok (.iload_n 1, 1) := by decide +kernel
theorem dX12_ofPart_2 : decode cX12_ofPart 2 = .ok (.invokevirtual 202, 3) := by decide +kernel
theorem dX12_ofPart_5 : decode cX12_ofPart 5 = .ok (.ifCond .ne 6, 3) := by decide +kernel
theorem dX12_ofPart_8 : decode cX12_ofPart 8 = .ok (.ldc 236, 2) := by decide +kernel
theorem dX12_ofPart_10 : decode cX12_ofPart 10 = .ok (.ireturn, 1) := by decide +kernel
theorem dX12_ofPart_11 : decode cX12_ofPart 11 = .ok (.iload_n 2, 1) := by decide +kernel
theorem dX12_ofPart_12 : decode cX12_ofPart 12 = .ok (.tableswitch 122 0 8 #[52, 59, 66, 73, 82, 93, 104, 110, 116], 52) := by decide +kernel
theorem dX12_ofPart_64 : decode cX12_ofPart 64 = .ok (.aload_n 0, 1) := by decide +kernel
theorem dX12_ofPart_65 : decode cX12_ofPart 65 = .ok (.getfield 40, 3) := by decide +kernel
theorem dX12_ofPart_68 : decode cX12_ofPart 68 = .ok (.iload_n 1, 1) := by decide +kernel
theorem dX12_ofPart_69 : decode cX12_ofPart 69 = .ok (.iaload, 1) := by decide +kernel
theorem dX12_ofPart_70 : decode cX12_ofPart 70 = .ok (.ireturn, 1) := by decide +kernel
theorem dX12_ofPart_71 : decode cX12_ofPart 71 = .ok (.aload_n 0, 1) := by decide +kernel
theorem dX12_ofPart_72 : decode cX12_ofPart 72 = .ok (.getfield 43, 3) := by decide +kernel
theorem dX12_ofPart_75 : decode cX12_ofPart 75 = .ok (.iload_n 1, 1) := by decide +kernel
theorem dX12_ofPart_76 : decode cX12_ofPart 76 = .ok (.iaload, 1) := by decide +kernel
theorem dX12_ofPart_77 : decode cX12_ofPart 77 = .ok (.ireturn, 1) := by decide +kernel
theorem dX12_ofPart_78 : decode cX12_ofPart 78 = .ok (.aload_n 0, 1) := by decide +kernel
theorem dX12_ofPart_79 : decode cX12_ofPart 79 = .ok (.getfield 46, 3) := by decide +kernel
theorem dX12_ofPart_82 : decode cX12_ofPart 82 = .ok (.iload_n 1, 1) := by decide +kernel
theorem dX12_ofPart_83 : decode cX12_ofPart 83 = .ok (.iaload, 1) := by decide +kernel
theorem dX12_ofPart_84 : decode cX12_ofPart 84 = .ok (.ireturn, 1) := by decide +kernel
theorem dX12_ofPart_85 : decode cX12_ofPart 85 = .ok (.aload_n 0, 1) := by decide +kernel
theorem dX12_ofPart_86 : decode cX12_ofPart 86 = .ok (.getfield 49, 3) := by decide +kernel
theorem dX12_ofPart_89 : decode cX12_ofPart 89 = .ok (.iconst 3, 1) := by decide +kernel
theorem dX12_ofPart_90 : decode cX12_ofPart 90 = .ok (.iload_n 1, 1) := by decide +kernel
theorem dX12_ofPart_91 : decode cX12_ofPart 91 = .ok (.imul, 1) := by decide +kernel
theorem dX12_ofPart_92 : decode cX12_ofPart 92 = .ok (.iaload, 1) := by decide +kernel
theorem dX12_ofPart_93 : decode cX12_ofPart 93 = .ok (.ireturn, 1) := by decide +kernel
theorem dX12_ofPart_94 : decode cX12_ofPart 94 = .ok (.aload_n 0, 1) := by decide +kernel
theorem dX12_ofPart_95 : decode cX12_ofPart 95 = .ok (.getfield 49, 3) := by decide +kernel
theorem dX12_ofPart_98 : decode cX12_ofPart 98 = .ok (.iconst 3, 1) := by decide +kernel
theorem dX12_ofPart_99 : decode cX12_ofPart 99 = .ok (.iload_n 1, 1) := by decide +kernel
theorem dX12_ofPart_100 : decode cX12_ofPart 100 = .ok (.imul, 1) := by decide +kernel
theorem dX12_ofPart_101 : decode cX12_ofPart 101 = .ok (.iconst 1, 1) := by decide +kernel
theorem dX12_ofPart_102 : decode cX12_ofPart 102 = .ok (.iadd, 1) := by decide +kernel
theorem dX12_ofPart_103 : decode cX12_ofPart 103 = .ok (.iaload, 1) := by decide +kernel
theorem dX12_ofPart_104 : decode cX12_ofPart 104 = .ok (.ireturn, 1) := by decide +kernel
theorem dX12_ofPart_105 : decode cX12_ofPart 105 = .ok (.aload_n 0, 1) := by decide +kernel
theorem dX12_ofPart_106 : decode cX12_ofPart 106 = .ok (.getfield 49, 3) := by decide +kernel
theorem dX12_ofPart_109 : decode cX12_ofPart 109 = .ok (.iconst 3, 1) := by decide +kernel
theorem dX12_ofPart_110 : decode cX12_ofPart 110 = .ok (.iload_n 1, 1) := by decide +kernel
theorem dX12_ofPart_111 : decode cX12_ofPart 111 = .ok (.imul, 1) := by decide +kernel
theorem dX12_ofPart_112 : decode cX12_ofPart 112 = .ok (.iconst 2, 1) := by decide +kernel
theorem dX12_ofPart_113 : decode cX12_ofPart 113 = .ok (.iadd, 1) := by decide +kernel
theorem dX12_ofPart_114 : decode cX12_ofPart 114 = .ok (.iaload, 1) := by decide +kernel
theorem dX12_ofPart_115 : decode cX12_ofPart 115 = .ok (.ireturn, 1) := by decide +kernel
theorem dX12_ofPart_116 : decode cX12_ofPart 116 = .ok (.aload_n 0, 1) := by decide +kernel
theorem dX12_ofPart_117 : decode cX12_ofPart 117 = .ok (.iload_n 1, 1) := by decide +kernel
theorem dX12_ofPart_118 : decode cX12_ofPart 118 = .ok (.invokevirtual 215, 3) := by decide +kernel
theorem dX12_ofPart_121 : decode cX12_ofPart 121 = .ok (.ireturn, 1) := by decide +kernel
theorem dX12_ofPart_122 : decode cX12_ofPart 122 = .ok (.aload_n 0, 1) := by decide +kernel
theorem dX12_ofPart_123 : decode cX12_ofPart 123 = .ok (.iload_n 1, 1) := by decide +kernel
theorem dX12_ofPart_124 : decode cX12_ofPart 124 = .ok (.invokevirtual 237, 3) := by decide +kernel
theorem dX12_ofPart_127 : decode cX12_ofPart 127 = .ok (.ireturn, 1) := by decide +kernel
theorem dX12_ofPart_128 : decode cX12_ofPart 128 = .ok (.aload_n 0, 1) := by decide +kernel
theorem dX12_ofPart_129 : decode cX12_ofPart 129 = .ok (.iload_n 1, 1) := by decide +kernel
theorem dX12_ofPart_130 : decode cX12_ofPart 130 = .ok (.invokevirtual 240, 3) := by decide +kernel
theorem dX12_ofPart_133 : decode cX12_ofPart 133 = .ok (.ireturn, 1) := by decide +kernel
theorem dX12_ofPart_134 : decode cX12_ofPart 134 = .ok (.ldc 236, 2) := by decide +kernel
theorem dX12_ofPart_136 : decode cX12_ofPart 136 = .ok (.ireturn, 1) := by decide +kernel
theorem dX12_stay_0 : decode cX12_stay 0 = .ok (.aload_n 0, 1) := by decide +kernel
theorem dX12_stay_1 : decode cX12_stay 1 = .ok (.iload_n 1, 1) := by decide +kernel
theorem dX12_stay_2 : decode cX12_stay 2 = .ok (.invokevirtual 202, 3) := by decide +kernel
theorem dX12_stay_5 : decode cX12_stay 5 = .ok (.ifCond .eq 13, 3) := by decide +kernel
theorem dX12_stay_8 : decode cX12_stay 8 = .ok (.iload_n 3, 1) := by decide +kernel
theorem dX12_stay_9 : decode cX12_stay 9 = .ok (.iconst 0, 1) := by decide +kernel
theorem dX12_stay_10 : decode cX12_stay 10 = .ok (.bipush 7, 2) := by decide +kernel
theorem dX12_stay_12 : decode cX12_stay 12 = .ok (.invokestatic 151, 3) := by decide +kernel
theorem dX12_stay_15 : decode cX12_stay 15 = .ok (.ifCond .ne 6, 3) := by decide +kernel
theorem dX12_stay_18 : decode cX12_stay 18 = .ok (.ldc 236, 2) := by decide +kernel
theorem dX12_stay_20 : decode cX12_stay 20 = .ok (.ireturn, 1) := by decide +kernel
theorem dX12_stay_21 : decode cX12_stay 21 = .ok (.aload_n 0, 1) := by decide +kernel
theorem dX12_stay_22 : decode cX12_stay 22 = .ok (.iload_n 1, 1) := by decide +kernel
theorem dX12_stay_23 : decode cX12_stay 23 = .ok (.iload_n 2, 1) := by decide +kernel
theorem dX12_stay_24 : decode cX12_stay 24 = .ok (.invokevirtual 218, 3) := by decide +kernel
