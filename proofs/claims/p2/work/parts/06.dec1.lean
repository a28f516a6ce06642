theorem dX9_gapsAhead_42 : decode cX9_gapsAhead 42 = .ok (.aload_n 0, 1) := by decide +kernel
theorem dX9_gapsAhead_43 : decode cX9_gapsAhead 43 = .ok (.iload 4, 2) := by decide +kernel
theorem dX9_gapsAhead_45 : decode cX9_gapsAhead 45 = .ok (.invokevirtual 56, 3) := by decide +kernel
theorem dX9_gapsAhead_48 : decode cX9_gapsAhead 48 = .ok (.ifCond .eq 43, 3) := by decide +kernel
theorem dX9_gapsAhead_91 : decode cX9_gapsAhead 91 = .ok (.aload_n 0, 1) := by decide +kernel
theorem dX9_gapsAhead_92 : decode cX9_gapsAhead 92 = .ok (.getfield 37, 3) := by decide +kernel
theorem dX9_gapsAhead_95 : decode cX9_gapsAhead 95 = .ok (.iload 4, 2) := by decide +kernel
theorem dX9_gapsAhead_97 : decode cX9_gapsAhead 97 = .ok (.iaload, 1) := by decide +kernel
theorem dX9_gapsAhead_98 : decode cX9_gapsAhead 98 = .ok (.istore 4, 2) := by decide +kernel
theorem dX9_gapsAhead_100 : decode cX9_gapsAhead 100 = .ok (.iinc 6 1, 3) := by decide +kernel
theorem dX9_gapsAhead_103 : decode cX9_gapsAhead 103 = .ok (.goto (-87), 3) := by decide +kernel
theorem dX9_gapsAhead_51 : decode cX9_gapsAhead 51 = .ok (.aload_n 0, 1) := by decide +kernel
theorem dX9_gapsAhead_52 : decode cX9_gapsAhead 52 = .ok (.getfield 18, 3) := by decide +kernel
theorem dX9_gapsAhead_55 : decode cX9_gapsAhead 55 = .ok (.iload 4, 2) := by decide +kernel
theorem dX9_gapsAhead_57 : decode cX9_gapsAhead 57 = .ok (.iaload, 1) := by decide +kernel
theorem dX9_gapsAhead_58 : decode cX9_gapsAhead 58 = .ok (.aload_n 0, 1) := by decide +kernel
theorem dX9_gapsAhead_59 : decode cX9_gapsAhead 59 = .ok (.getfield 18, 3) := by decide +kernel
theorem dX9_gapsAhead_62 : decode cX9_gapsAhead 62 = .ok (.iload_n 2, 1) := by decide +kernel
theorem dX9_gapsAhead_63 : decode cX9_gapsAhead 63 = .ok (.iaload, 1) := by decide +kernel
theorem dX9_gapsAhead_64 : decode cX9_gapsAhead 64 = .ok (.if_icmp .lt 24, 3) := by decide +kernel
theorem dX9_gapsAhead_88 : decode cX9_gapsAhead 88 = .ok (.iinc 3 1, 3) := by decide +kernel
theorem dX9_gapsAhead_67 : decode cX9_gapsAhead 67 = .ok (.iload 5, 2) := by decide +kernel
theorem dX9_gapsAhead_69 : decode cX9_gapsAhead 69 = .ok (.ifCond .eq 22, 3) := by decide +kernel
theorem dX9_gapsAhead_72 : decode cX9_gapsAhead 72 = .ok (.aload_n 0, 1) := by decide +kernel
theorem dX9_gapsAhead_73 : decode cX9_gapsAhead 73 = .ok (.getfield 18, 3) := by decide +kernel
theorem dX9_gapsAhead_76 : decode cX9_gapsAhead 76 = .ok (.iload 4, 2) := by decide +kernel
theorem dX9_gapsAhead_78 : decode cX9_gapsAhead 78 = .ok (.iaload, 1) := by decide +kernel
theorem dX9_gapsAhead_79 : decode cX9_gapsAhead 79 = .ok (.aload_n 0, 1) := by decide +kernel
theorem dX9_gapsAhead_80 : decode cX9_gapsAhead 80 = .ok (.getfield 18, 3) := by decide +kernel
theorem dX9_gapsAhead_83 : decode cX9_gapsAhead 83 = .ok (.iload_n 2, 1) := by decide +kernel
theorem dX9_gapsAhead_84 : decode cX9_gapsAhead 84 = .ok (.iaload, 1) := by decide +kernel
theorem dX9_gapsAhead_85 : decode cX9_gapsAhead 85 = .ok (.if_icmp .ne 6, 3) := by decide +kernel
theorem dX9_gapsAhead_36 : decode cX9_gapsAhead 36 = .ok (.iconst 0, 1) := by decide +kernel
theorem dX9_gapsAhead_37 : decode cX9_gapsAhead 37 = .ok (.istore 5, 2) := by decide +kernel
theorem dX9_gapsAhead_39 : decode cX9_gapsAhead 39 = .ok (.goto 52, 3) := by decide +kernel
theorem dX9_lastDay_0 : decode cX9_lastDay 0 = .ok (.aload_n 0, 1) := by decide +kernel
theorem dX9_lastDay_1 : decode cX9_lastDay 1 = .ok (.iload_n 1, 1) := by decide +kernel
theorem dX9_lastDay_2 : decode cX9_lastDay 2 = .ok (.invokevirtual 52, 3) := by decide +kernel
theorem dX9_lastDay_5 : decode cX9_lastDay 5 = .ok (.ifCond .eq 7, 3) := by decide +kernel
theorem dX9_lastDay_12 : decode cX9_lastDay 12 = .ok (.aload_n 0, 1) := by decide +kernel
theorem dX9_lastDay_13 : decode cX9_lastDay 13 = .ok (.getfield 18, 3) := by decide +kernel
theorem dX9_lastDay_16 : decode cX9_lastDay 16 = .ok (.iload_n 1, 1) := by decide +kernel
theorem dX9_lastDay_17 : decode cX9_lastDay 17 = .ok (.iaload, 1) := by decide +kernel
theorem dX9_lastDay_18 : decode cX9_lastDay 18 = .ok (.ireturn, 1) := by decide +kernel
theorem dX9_lastDay_8 : decode cX9_lastDay 8 = .ok (.iload_n 2, 1) := by decide +kernel
theorem dX9_lastDay_9 : decode cX9_lastDay 9 = .ok (.goto 9, 3) := by decide +kernel
theorem dX9_overlap_0 : decode cX9_overlap 0 = .ok (.aload_n 0, 1) := by decide +kernel
theorem dX9_overlap_1 : decode cX9_overlap 1 = .ok (.getfield 40, 3) := by decide +kernel
theorem dX9_overlap_4 : decode cX9_overlap 4 = .ok (.iload_n 1, 1) := by decide +kernel
theorem dX9_overlap_5 : decode cX9_overlap 5 = .ok (.iaload, 1) := by decide +kernel
theorem dX9_overlap_6 : decode cX9_overlap 6 = .ok (.istore_n 3, 1) := by decide +kernel
theorem dX9_overlap_7 : decode cX9_overlap 7 = .ok (.iconst 0, 1) := by decide +kernel
theorem dX9_overlap_8 : decode cX9_overlap 8 = .ok (.istore 4, 2) := by decide +kernel
theorem dX9_overlap_10 : decode cX9_overlap 10 = .ok (.iload 4, 2) := by decide +kernel
theorem dX9_overlap_12 : decode cX9_overlap 12 = .ok (.sipush 500, 3) := by decide +kernel
theorem dX9_overlap_15 : decode cX9_overlap 15 = .ok (.if_icmp .ge 111, 3) := by decide +kernel
theorem dX9_overlap_126 : decode cX9_overlap 126 = .ok (.iconst 0, 1) := by decide +kernel
theorem dX9_overlap_127 : decode cX9_overlap 127 = .ok (.ireturn, 1) := by decide +kernel
theorem dX9_overlap_18 : decode cX9_overlap 18 = .ok (.iload_n 3, 1) := by decide +kernel
theorem dX9_overlap_19 : decode cX9_overlap 19 = .ok (.iconst (-1), 1) := by decide +kernel
theorem dX9_overlap_20 : decode cX9_overlap 20 = .ok (.if_icmp .eq 106, 3) := by decide +kernel
theorem dX9_overlap_23 : decode cX9_overlap 23 = .ok (.aload_n 0, 1) := by decide +kernel
theorem dX9_overlap_24 : decode cX9_overlap 24 = .ok (.getfield 37, 3) := by decide +kernel
theorem dX9_overlap_27 : decode cX9_overlap 27 = .ok (.iload_n 3, 1) := by decide +kernel
theorem dX9_overlap_28 : decode cX9_overlap 28 = .ok (.iaload, 1) := by decide +kernel
theorem dX9_overlap_29 : decode cX9_overlap 29 = .ok (.istore 5, 2) := by decide +kernel
theorem dX9_overlap_31 : decode cX9_overlap 31 = .ok (.iconst 0, 1) := by decide +kernel
theorem dX9_overlap_32 : decode cX9_overlap 32 = .ok (.istore 6, 2) := by decide +kernel
theorem dX9_overlap_34 : decode cX9_overlap 34 = .ok (.iload 6, 2) := by decide +kernel
theorem dX9_overlap_36 : decode cX9_overlap 36 = .ok (.sipush 500, 3) := by decide +kernel
theorem dX9_overlap_39 : decode cX9_overlap 39 = .ok (.if_icmp .ge 74, 3) := by decide +kernel
theorem dX9_overlap_113 : decode cX9_overlap 113 = .ok (.aload_n 0, 1) := by decide +kernel
theorem dX9_overlap_114 : decode cX9_overlap 114 = .ok (.getfield 37, 3) := by decide +kernel
theorem dX9_overlap_117 : decode cX9_overlap 117 = .ok (.iload_n 3, 1) := by decide +kernel
theorem dX9_overlap_118 : decode cX9_overlap 118 = .ok (.iaload, 1) := by decide +kernel
theorem dX9_overlap_119 : decode cX9_overlap 119 = .ok (.istore_n 3, 1) := by decide +kernel
theorem dX9_overlap_120 : decode cX9_overlap 120 = .ok (.iinc 4 1, 3) := by decide +kernel
theorem dX9_overlap_123 : decode cX9_overlap 123 = .ok (.goto (-113), 3) := by decide +kernel
theorem dX9_overlap_42 : decode cX9_overlap 42 = .ok (.iload 5, 2) := by decide +kernel
theorem dX9_overlap_44 : decode cX9_overlap 44 = .ok (.iconst (-1), 1) := by decide +kernel
theorem dX9_overlap_45 : decode cX9_overlap 45 = .ok (.if_icmp .eq 68, 3) := by decide +kernel
theorem dX9_overlap_48 : decode cX9_overlap 48 = .ok (.aload_n 0, 1) := by decide +kernel
theorem dX9_overlap_49 : decode cX9_overlap 49 = .ok (.getfield 9, 3) := by decide +kernel
theorem dX9_overlap_52 : decode cX9_overlap 52 = .ok (.iload_n 3, 1) := by decide +kernel
theorem dX9_overlap_53 : decode cX9_overlap 53 = .ok (.iaload, 1) := by decide +kernel
theorem dX9_overlap_54 : decode cX9_overlap 54 = .ok (.aload_n 0, 1) := by decide +kernel
theorem dX9_overlap_55 : decode cX9_overlap 55 = .ok (.getfield 9, 3) := by decide +kernel
theorem dX9_overlap_58 : decode cX9_overlap 58 = .ok (.iload 5, 2) := by decide +kernel
theorem dX9_overlap_60 : decode cX9_overlap 60 = .ok (.iaload, 1) := by decide +kernel
theorem dX9_overlap_61 : decode cX9_overlap 61 = .ok (.if_icmp .eq 37, 3) := by decide +kernel
theorem dX9_overlap_98 : decode cX9_overlap 98 = .ok (.aload_n 0, 1) := by decide +kernel
theorem dX9_overlap_99 : decode cX9_overlap 99 = .ok (.getfield 37, 3) := by decide +kernel
theorem dX9_overlap_102 : decode cX9_overlap 102 = .ok (.iload 5, 2) := by decide +kernel
theorem dX9_overlap_104 : decode cX9_overlap 104 = .ok (.iaload, 1) := by decide +kernel
theorem dX9_overlap_105 : decode cX9_overlap 105 = .ok (.istore 5, 2) := by decide +kernel
theorem dX9_overlap_107 : decode cX9_overlap 107 = .ok (.iinc 6 1, 3) := by decide +kernel
theorem dX9_overlap_110 : decode cX9_overlap 110 = .ok (.goto (-76), 3) := by decide +kernel
theorem dX9_overlap_64 : decode cX9_overlap 64 = .ok (.aload_n 0, 1) := by decide +kernel
theorem dX9_overlap_65 : decode cX9_overlap 65 = .ok (.getfield 15, 3) := by decide +kernel
theorem dX9_overlap_68 : decode cX9_overlap 68 = .ok (.iload_n 3, 1) := by decide +kernel
theorem dX9_overlap_69 : decode cX9_overlap 69 = .ok (.iaload, 1) := by decide +kernel
theorem dX9_overlap_70 : decode cX9_overlap 70 = .ok (.aload_n 0, 1) := by decide +kernel
theorem dX9_overlap_71 : decode cX9_overlap 71 = .ok (.iload 5, 2) := by decide +kernel
theorem dX9_overlap_73 : decode cX9_overlap 73 = .ok (.iload_n 2, 1) := by decide +kernel
theorem dX9_overlap_74 : decode cX9_overlap 74 = .ok (.invokevirtual 59, 3) := by decide +kernel
theorem dX9_overlap_77 : decode cX9_overlap 77 = .ok (.if_icmp .ge 21, 3) := by decide +kernel
theorem dX9_overlap_80 : decode cX9_overlap 80 = .ok (.aload_n 0, 1) := by decide +kernel
theorem dX9_overlap_81 : decode cX9_overlap 81 = .ok (.getfield 15, 3) := by decide +kernel
theorem dX9_overlap_84 : decode cX9_overlap 84 = .ok (.iload 5, 2) := by decide +kernel
theorem dX9_overlap_86 : decode cX9_overlap 86 = .ok (.iaload, 1) := by decide +kernel
theorem dX9_overlap_87 : decode cX9_overlap 87 = .ok (.aload_n 0, 1) := by decide +kernel
theorem dX9_overlap_88 : decode cX9_overlap 88 = .ok (.iload_n 3, 1) := by decide +kernel
theorem dX9_overlap_89 : decode cX9_overlap 89 = .ok (.iload_n 2, 1) := by decide +kernel
theorem dX9_overlap_90 : decode cX9_overlap 90 = .ok (.invokevirtual 59, 3) := by decide +kernel
theorem dX9_overlap_93 : decode cX9_overlap 93 = .ok (.if_icmp .ge 5, 3) := by decide +kernel
theorem dX9_overlap_96 : decode cX9_overlap 96 = .ok (.iconst 1, 1) := by decide +kernel
theorem dX9_overlap_97 : decode cX9_overlap 97 = .ok (.ireturn, 1) := by decide +kernel
theorem dX9_chain_0 : decode cX9_chain 0 = .ok (.iconst (-1), 1) := by decide +kernel
theorem dX9_chain_1 : decode cX9_chain 1 = .ok (.istore_n 3, 1) := by decide +kernel
theorem dX9_chain_2 : decode cX9_chain 2 = .ok (.aload_n 0, 1) := by decide +kernel
theorem dX9_chain_3 : decode cX9_chain 3 = .ok (.getfield 40, 3) := by decide +kernel
theorem dX9_chain_6 : decode cX9_chain 6 = .ok (.iload_n 1, 1) := by decide +kernel
theorem dX9_chain_7 : decode cX9_chain 7 = .ok (.iaload, 1) := by decide +kernel
theorem dX9_chain_8 : decode cX9_chain 8 = .ok (.istore 4, 2) := by decide +kernel
theorem dX9_chain_10 : decode cX9_chain 10 = .ok (.iconst 0, 1) := by decide +kernel
theorem dX9_chain_11 : decode cX9_chain 11 = .ok (.istore 5, 2) := by decide +kernel
theorem dX9_chain_13 : decode cX9_chain 13 = .ok (.iload 5, 2) := by decide +kernel
theorem dX9_chain_15 : decode cX9_chain 15 = .ok (.sipush 500, 3) := by decide +kernel
theorem dX9_chain_18 : decode cX9_chain 18 = .ok (.if_icmp .ge 43, 3) := by decide +kernel
theorem dX9_chain_61 : decode cX9_chain 61 = .ok (.aload_n 0, 1) := by decide +kernel
theorem dX9_chain_62 : decode cX9_chain 62 = .ok (.getfield 37, 3) := by decide +kernel
theorem dX9_chain_65 : decode cX9_chain 65 = .ok (.iload_n 2, 1) := by decide +kernel
theorem dX9_chain_66 : decode cX9_chain 66 = .ok (.iload 4, 2) := by decide +kernel
theorem dX9_chain_68 : decode cX9_chain 68 = .ok (.iastore, 1) := by decide +kernel
theorem dX9_chain_69 : decode cX9_chain 69 = .ok (.iload_n 3, 1) := by decide +kernel
theorem dX9_chain_70 : decode cX9_chain 70 = .ok (.iconst (-1), 1) := by decide +kernel
theorem dX9_chain_71 : decode cX9_chain 71 = .ok (.if_icmp .ne 13, 3) := by decide +kernel
theorem dX9_chain_84 : decode cX9_chain 84 = .ok (.aload_n 0, 1) := by decide +kernel
theorem dX9_chain_85 : decode cX9_chain 85 = .ok (.getfield 37, 3) := by decide +kernel
theorem dX9_chain_88 : decode cX9_chain 88 = .ok (.iload_n 3, 1) := by decide +kernel
theorem dX9_chain_89 : decode cX9_chain 89 = .ok (.iload_n 2, 1) := by decide +kernel
theorem dX9_chain_90 : decode cX9_chain 90 = .ok (.iastore, 1) := by decide +kernel
theorem dX9_chain_91 : decode cX9_chain 91 = .ok (.return_, 1) := by decide +kernel
theorem dX9_chain_74 : decode cX9_chain 74 = .ok (.aload_n 0, 1) := by decide +kernel
theorem dX9_chain_75 : decode cX9_chain 75 = .ok (.getfield 40, 3) := by decide +kernel
theorem dX9_chain_78 : decode cX9_chain 78 = .ok (.iload_n 1, 1) := by decide +kernel
theorem dX9_chain_79 : decode cX9_chain 79 = .ok (.iload_n 2, 1) := by decide +kernel
theorem dX9_chain_80 : decode cX9_chain 80 = .ok (.iastore, 1) := by decide +kernel
theorem dX9_chain_81 : decode cX9_chain 81 = .ok (.goto 10, 3) := by decide +kernel
theorem dX9_chain_21 : decode cX9_chain 21 = .ok (.iload 4, 2) := by decide +kernel
theorem dX9_chain_23 : decode cX9_chain 23 = .ok (.iconst (-1), 1) := by decide +kernel
theorem dX9_chain_24 : decode cX9_chain 24 = .ok (.if_icmp .eq 37, 3) := by decide +kernel
theorem dX9_chain_27 : decode cX9_chain 27 = .ok (.aload_n 0, 1) := by decide +kernel
theorem dX9_chain_28 : decode cX9_chain 28 = .ok (.getfield 15, 3) := by decide +kernel
theorem dX9_chain_31 : decode cX9_chain 31 = .ok (.iload 4, 2) := by decide +kernel
theorem dX9_chain_33 : decode cX9_chain 33 = .ok (.iaload, 1) := by decide +kernel
theorem dX9_chain_34 : decode cX9_chain 34 = .ok (.aload_n 0, 1) := by decide +kernel
theorem dX9_chain_35 : decode cX9_chain 35 = .ok (.getfield 15, 3) := by decide +kernel
theorem dX9_chain_38 : decode cX9_chain 38 = .ok (.iload_n 2, 1) := by decide +kernel
theorem dX9_chain_39 : decode cX9_chain 39 = .ok (.iaload, 1) := by decide +kernel
theorem dX9_chain_40 : decode cX9_chain 40 = .ok (.if_icmp .gt 21, 3) := by decide +kernel
theorem dX9_chain_43 : decode cX9_chain 43 = .ok (.iload 4, 2) := by decide +kernel
theorem dX9_chain_45 : decode cX9_chain 45 = .ok (.istore_n 3, 1) := by decide +kernel
theorem dX9_chain_46 : decode cX9_chain 46 = .ok (.aload_n 0, 1) := by decide +kernel
theorem dX9_chain_47 : decode cX9_chain 47 = .ok (.getfield 37, 3) := by decide +kernel
theorem dX9_chain_50 : decode cX9_chain 50 = .ok (.iload 4, 2) := by decide +kernel
theorem dX9_chain_52 : decode cX9_chain 52 = .ok (.iaload, 1) := by decide +kernel
theorem dX9_chain_53 : decode cX9_chain 53 = .ok (.istore 4, 2) := by decide +kernel
theorem dX9_chain_55 : decode cX9_chain 55 = .ok (.iinc 5 1, 3) := by decide +kernel
theorem dX9_chain_58 : decode cX9_chain 58 = .ok (.goto (-45), 3) := by decide +kernel
theorem dX9_add_0 : decode cX9_add 0 = .ok (.aload_n 0, 1) := by decide +kernel
theorem dX9_add_1 : decode cX9_add 1 = .ok (.getfield 43, 3) := by decide +kernel
theorem dX9_add_4 : decode cX9_add 4 = .ok (.sipush 500, 3) := by decide +kernel
theorem dX9_add_7 : decode cX9_add 7 = .ok (.if_icmp .lt 5, 3) := by decide +kernel
theorem dX9_add_12 : decode cX9_add 12 = .ok (.aload_n 0, 1) := by decide +kernel
theorem dX9_add_13 : decode cX9_add 13 = .ok (.getfield 9, 3) := by decide +kernel
theorem dX9_add_16 : decode cX9_add 16 = .ok (.aload_n 0, 1) := by decide +kernel
theorem dX9_add_17 : decode cX9_add 17 = .ok (.getfield 43, 3) := by decide +kernel
theorem dX9_add_20 : decode cX9_add 20 = .ok (.iload_n 2, 1) := by decide +kernel
theorem dX9_add_21 : decode cX9_add 21 = .ok (.iastore, 1) := by decide +kernel
theorem dX9_add_22 : decode cX9_add 22 = .ok (.aload_n 0, 1) := by decide +kernel
theorem dX9_add_23 : decode cX9_add 23 = .ok (.getfield 15, 3) := by decide +kernel
theorem dX9_add_26 : decode cX9_add 26 = .ok (.aload_n 0, 1) := by decide +kernel
theorem dX9_add_27 : decode cX9_add 27 = .ok (.getfield 43, 3) := by decide +kernel
theorem dX9_add_30 : decode cX9_add 30 = .ok (.iload_n 3, 1) := by decide +kernel
theorem dX9_add_31 : decode cX9_add 31 = .ok (.iastore, 1) := by decide +kernel
theorem dX9_add_32 : decode cX9_add 32 = .ok (.aload_n 0, 1) := by decide +kernel
theorem dX9_add_33 : decode cX9_add 33 = .ok (.getfield 18, 3) := by decide +kernel
theorem dX9_add_36 : decode cX9_add 36 = .ok (.aload_n 0, 1) := by decide +kernel
theorem dX9_add_37 : decode cX9_add 37 = .ok (.getfield 43, 3) := by decide +kernel
theorem dX9_add_40 : decode cX9_add 40 = .ok (.ldc 47, 2) := by decide +kernel
theorem dX9_add_42 : decode cX9_add 42 = .ok (.iastore, 1) := by decide +kernel
theorem dX9_add_43 : decode cX9_add 43 = .ok (.aload_n 0, 1) := by decide +kernel
theorem dX9_add_44 : decode cX9_add 44 = .ok (.getfield 21, 3) := by decide +kernel
theorem dX9_add_47 : decode cX9_add 47 = .ok (.aload_n 0, 1) := by decide +kernel
theorem dX9_add_48 : decode cX9_add 48 = .ok (.getfield 43, 3) := by decide +kernel
theorem dX9_add_51 : decode cX9_add 51 = .ok (.iload 4, 2) := by decide +kernel
theorem dX9_add_53 : decode cX9_add 53 = .ok (.iastore, 1) := by decide +kernel
theorem dX9_add_54 : decode cX9_add 54 = .ok (.aload_n 0, 1) := by decide +kernel
theorem dX9_add_55 : decode cX9_add 55 = .ok (.getfield 27, 3) := by decide +kernel
theorem dX9_add_58 : decode cX9_add 58 = .ok (.aload_n 0, 1) := by decide +kernel
theorem dX9_add_59 : decode cX9_add 59 = .ok (.getfield 43, 3) := by decide +kernel
theorem dX9_add_62 : decode cX9_add 62 = .ok (.iload 5, 2) := by decide +kernel
theorem dX9_add_64 : decode cX9_add 64 = .ok (.iastore, 1) := by decide +kernel
theorem dX9_add_65 : decode cX9_add 65 = .ok (.aload_n 0, 1) := by decide +kernel
theorem dX9_add_66 : decode cX9_add 66 = .ok (.iload_n 1, 1) := by decide +kernel
theorem dX9_add_67 : decode cX9_add 67 = .ok (.aload_n 0, 1) := by decide +kernel
theorem dX9_add_68 : decode cX9_add 68 = .ok (.getfield 43, 3) := by decide +kernel
theorem dX9_add_71 : decode cX9_add 71 = .ok (.invokevirtual 48, 3) := by decide +kernel
theorem dX9_add_74 : decode cX9_add 74 = .ok (.aload_n 0, 1) := by decide +kernel
theorem dX9_add_75 : decode cX9_add 75 = .ok (.dup, 1) := by decide +kernel
theorem dX9_add_76 : decode cX9_add 76 = .ok (.getfield 43, 3) := by decide +kernel
theorem dX9_add_79 : decode cX9_add 79 = .ok (.dup_x1, 1) := by decide +kernel
theorem dX9_add_80 : decode cX9_add 80 = .ok (.iconst 1, 1) := by decide +kernel
theorem dX9_add_81 : decode cX9_add 81 = .ok (.iadd, 1) := by decide +kernel
theorem dX9_add_82 : decode cX9_add 82 = .ok (.putfield 43, 3) := by decide +kernel
theorem dX9_add_85 : decode cX9_add 85 = .ok (.ireturn, 1) := by decide +kernel
theorem dX9_add_10 : decode cX9_add 10 = .ok (.iconst (-1), 1) := by decide +kernel
theorem dX9_add_11 : decode cX9_add 11 = .ok (.ireturn, 1) := by decide +kernel
