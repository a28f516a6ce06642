theorem dX11_swap_33 : decode cX11_swap 33 = .ok (.istore_n 3, 1) := by decide +kernel
theorem dX11_swap_34 : decode cX11_swap 34 = .ok (.aload_n 0, 1) := by decide +kernel
theorem dX11_swap_35 : decode cX11_swap 35 = .ok (.getfield 19, 3) := by decide +kernel
theorem dX11_swap_38 : decode cX11_swap 38 = .ok (.iload_n 3, 1) := by decide +kernel
theorem dX11_swap_39 : decode cX11_swap 39 = .ok (.invokevirtual 117, 3) := by decide +kernel
theorem dX11_swap_42 : decode cX11_swap 42 = .ok (.ifCond .eq 38, 3) := by decide +kernel
theorem dX11_swap_45 : decode cX11_swap 45 = .ok (.aload_n 0, 1) := by decide +kernel
theorem dX11_swap_46 : decode cX11_swap 46 = .ok (.getfield 35, 3) := by decide +kernel
theorem dX11_swap_49 : decode cX11_swap 49 = .ok (.getfield 204, 3) := by decide +kernel
theorem dX11_swap_52 : decode cX11_swap 52 = .ok (.iload_n 2, 1) := by decide +kernel
theorem dX11_swap_53 : decode cX11_swap 53 = .ok (.iaload, 1) := by decide +kernel
theorem dX11_swap_54 : decode cX11_swap 54 = .ok (.bipush 11, 2) := by decide +kernel
theorem dX11_swap_56 : decode cX11_swap 56 = .ok (.if_icmp .ne 24, 3) := by decide +kernel
theorem dX11_swap_59 : decode cX11_swap 59 = .ok (.aload_n 0, 1) := by decide +kernel
theorem dX11_swap_60 : decode cX11_swap 60 = .ok (.getfield 35, 3) := by decide +kernel
theorem dX11_swap_63 : decode cX11_swap 63 = .ok (.getfield 207, 3) := by decide +kernel
theorem dX11_swap_66 : decode cX11_swap 66 = .ok (.iload_n 1, 1) := by decide +kernel
theorem dX11_swap_67 : decode cX11_swap 67 = .ok (.iaload, 1) := by decide +kernel
theorem dX11_swap_68 : decode cX11_swap 68 = .ok (.aload_n 0, 1) := by decide +kernel
theorem dX11_swap_69 : decode cX11_swap 69 = .ok (.getfield 35, 3) := by decide +kernel
theorem dX11_swap_72 : decode cX11_swap 72 = .ok (.getfield 207, 3) := by decide +kernel
theorem dX11_swap_75 : decode cX11_swap 75 = .ok (.iload_n 2, 1) := by decide +kernel
theorem dX11_swap_76 : decode cX11_swap 76 = .ok (.iaload, 1) := by decide +kernel
theorem dX11_swap_77 : decode cX11_swap 77 = .ok (.if_icmp .eq 6, 3) := by decide +kernel
theorem dX11_swap_80 : decode cX11_swap 80 = .ok (.bipush (-2), 2) := by decide +kernel
theorem dX11_swap_82 : decode cX11_swap 82 = .ok (.ireturn, 1) := by decide +kernel
theorem dX11_swap_83 : decode cX11_swap 83 = .ok (.aload_n 0, 1) := by decide +kernel
theorem dX11_swap_84 : decode cX11_swap 84 = .ok (.getfield 26, 3) := by decide +kernel
theorem dX11_swap_87 : decode cX11_swap 87 = .ok (.iconst 2, 1) := by decide +kernel
theorem dX11_swap_88 : decode cX11_swap 88 = .ok (.invokevirtual 188, 3) := by decide +kernel
theorem dX11_swap_91 : decode cX11_swap 91 = .ok (.ifCond .ne 6, 3) := by decide +kernel
theorem dX11_swap_94 : decode cX11_swap 94 = .ok (.bipush (-3), 2) := by decide +kernel
theorem dX11_swap_96 : decode cX11_swap 96 = .ok (.ireturn, 1) := by decide +kernel
theorem dX11_swap_97 : decode cX11_swap 97 = .ok (.aload_n 0, 1) := by decide +kernel
theorem dX11_swap_98 : decode cX11_swap 98 = .ok (.getfield 35, 3) := by decide +kernel
theorem dX11_swap_101 : decode cX11_swap 101 = .ok (.iload_n 1, 1) := by decide +kernel
theorem dX11_swap_102 : decode cX11_swap 102 = .ok (.bipush 11, 2) := by decide +kernel
theorem dX11_swap_104 : decode cX11_swap 104 = .ok (.aload_n 0, 1) := by decide +kernel
theorem dX11_swap_105 : decode cX11_swap 105 = .ok (.getfield 132, 3) := by decide +kernel
theorem dX11_swap_108 : decode cX11_swap 108 = .ok (.invokevirtual 214, 3) := by decide +kernel
theorem dX11_swap_111 : decode cX11_swap 111 = .ok (.aload_n 0, 1) := by decide +kernel
theorem dX11_swap_112 : decode cX11_swap 112 = .ok (.getfield 35, 3) := by decide +kernel
theorem dX11_swap_115 : decode cX11_swap 115 = .ok (.iload_n 2, 1) := by decide +kernel
theorem dX11_swap_116 : decode cX11_swap 116 = .ok (.iload_n 3, 1) := by decide +kernel
theorem dX11_swap_117 : decode cX11_swap 117 = .ok (.aload_n 0, 1) := by decide +kernel
theorem dX11_swap_118 : decode cX11_swap 118 = .ok (.getfield 132, 3) := by decide +kernel
theorem dX11_swap_121 : decode cX11_swap 121 = .ok (.invokevirtual 214, 3) := by decide +kernel
theorem dX11_swap_124 : decode cX11_swap 124 = .ok (.iconst 1, 1) := by decide +kernel
theorem dX11_swap_125 : decode cX11_swap 125 = .ok (.ireturn, 1) := by decide +kernel
theorem dX11_repair_0 : decode cX11_repair 0 = .ok (.aload_n 0, 1) := by decide +kernel
theorem dX11_repair_1 : decode cX11_repair 1 = .ok (.getfield 35, 3) := by decide +kernel
theorem dX11_repair_4 : decode cX11_repair 4 = .ok (.iload_n 1, 1) := by decide +kernel
theorem dX11_repair_5 : decode cX11_repair 5 = .ok (.invokevirtual 200, 3) := by decide +kernel
theorem dX11_repair_8 : decode cX11_repair 8 = .ok (.ifCond .eq 13, 3) := by decide +kernel
theorem dX11_repair_11 : decode cX11_repair 11 = .ok (.iload_n 2, 1) := by decide +kernel
theorem dX11_repair_12 : decode cX11_repair 12 = .ok (.iconst 1, 1) := by decide +kernel
theorem dX11_repair_13 : decode cX11_repair 13 = .ok (.bipush 7, 2) := by decide +kernel
theorem dX11_repair_15 : decode cX11_repair 15 = .ok (.invokestatic 106, 3) := by decide +kernel
theorem dX11_repair_18 : decode cX11_repair 18 = .ok (.ifCond .ne 5, 3) := by decide +kernel
theorem dX11_repair_21 : decode cX11_repair 21 = .ok (.iconst (-1), 1) := by decide +kernel
theorem dX11_repair_22 : decode cX11_repair 22 = .ok (.ireturn, 1) := by decide +kernel
theorem dX11_repair_23 : decode cX11_repair 23 = .ok (.aload_n 0, 1) := by decide +kernel
theorem dX11_repair_24 : decode cX11_repair 24 = .ok (.getfield 35, 3) := by decide +kernel
theorem dX11_repair_27 : decode cX11_repair 27 = .ok (.getfield 204, 3) := by decide +kernel
theorem dX11_repair_30 : decode cX11_repair 30 = .ok (.iload_n 1, 1) := by decide +kernel
theorem dX11_repair_31 : decode cX11_repair 31 = .ok (.iaload, 1) := by decide +kernel
theorem dX11_repair_32 : decode cX11_repair 32 = .ok (.bipush 10, 2) := by decide +kernel
theorem dX11_repair_34 : decode cX11_repair 34 = .ok (.if_icmp .eq 6, 3) := by decide +kernel
theorem dX11_repair_37 : decode cX11_repair 37 = .ok (.bipush (-2), 2) := by decide +kernel
theorem dX11_repair_39 : decode cX11_repair 39 = .ok (.ireturn, 1) := by decide +kernel
theorem dX11_repair_40 : decode cX11_repair 40 = .ok (.aload_n 0, 1) := by decide +kernel
theorem dX11_repair_41 : decode cX11_repair 41 = .ok (.getfield 35, 3) := by decide +kernel
theorem dX11_repair_44 : decode cX11_repair 44 = .ok (.iload_n 1, 1) := by decide +kernel
theorem dX11_repair_45 : decode cX11_repair 45 = .ok (.iload_n 2, 1) := by decide +kernel
theorem dX11_repair_46 : decode cX11_repair 46 = .ok (.invokevirtual 217, 3) := by decide +kernel
theorem dX11_repair_49 : decode cX11_repair 49 = .ok (.iconst 1, 1) := by decide +kernel
theorem dX11_repair_50 : decode cX11_repair 50 = .ok (.ireturn, 1) := by decide +kernel
theorem dX11_ofPart_0 : decode cX11_ofPart 0 = .ok (.aload_n 0, 1) := by decide +kernel
theorem dX11_ofPart_1 : decode cX11_ofPart 1 = .ok (.getfield 35, 3) := by decide +kernel
theorem dX11_ofPart_4 : decode cX11_ofPart 4 = .ok (.iload_n 1, 1) := by decide +kernel
theorem dX11_ofPart_5 : decode cX11_ofPart 5 = .ok (.invokevirtual 200, 3) := by decide +kernel
theorem dX11_ofPart_8 : decode cX11_ofPart 8 = .ok (.ifCond .ne 6, 3) := by decide +kernel
theorem dX11_ofPart_11 : decode cX11_ofPart 11 = .ok (.ldc 96, 2) := by decide +kernel
theorem dX11_ofPart_13 : decode cX11_ofPart 13 = .ok (.ireturn, 1) := by decide +kernel
theorem dX11_ofPart_14 : decode cX11_ofPart 14 = .ok (.iload_n 2, 1) := by decide +kernel
theorem dX11_ofPart_15 : decode cX11_ofPart 15 = .ok (.tableswitch 140 0 8 #[49, 59, 69, 79, 89, 99, 109, 118, 127], 49) := by decide +kernel
theorem dX11_ofPart_64 : decode cX11_ofPart 64 = .ok (.aload_n 0, 1) := by decide +kernel
theorem dX11_ofPart_65 : decode cX11_ofPart 65 = .ok (.getfield 35, 3) := by decide +kernel
theorem dX11_ofPart_68 : decode cX11_ofPart 68 = .ok (.getfield 207, 3) := by decide +kernel
theorem dX11_ofPart_71 : decode cX11_ofPart 71 = .ok (.iload_n 1, 1) := by decide +kernel
theorem dX11_ofPart_72 : decode cX11_ofPart 72 = .ok (.iaload, 1) := by decide +kernel
theorem dX11_ofPart_73 : decode cX11_ofPart 73 = .ok (.ireturn, 1) := by decide +kernel
theorem dX11_ofPart_74 : decode cX11_ofPart 74 = .ok (.aload_n 0, 1) := by decide +kernel
theorem dX11_ofPart_75 : decode cX11_ofPart 75 = .ok (.getfield 35, 3) := by decide +kernel
theorem dX11_ofPart_78 : decode cX11_ofPart 78 = .ok (.getfield 220, 3) := by decide +kernel
theorem dX11_ofPart_81 : decode cX11_ofPart 81 = .ok (.iload_n 1, 1) := by decide +kernel
theorem dX11_ofPart_82 : decode cX11_ofPart 82 = .ok (.iaload, 1) := by decide +kernel
theorem dX11_ofPart_83 : decode cX11_ofPart 83 = .ok (.ireturn, 1) := by decide +kernel
theorem dX11_ofPart_84 : decode cX11_ofPart 84 = .ok (.aload_n 0, 1) := by decide +kernel
theorem dX11_ofPart_85 : decode cX11_ofPart 85 = .ok (.getfield 35, 3) := by decide +kernel
theorem dX11_ofPart_88 : decode cX11_ofPart 88 = .ok (.getfield 204, 3) := by decide +kernel
theorem dX11_ofPart_91 : decode cX11_ofPart 91 = .ok (.iload_n 1, 1) := by decide +kernel
theorem dX11_ofPart_92 : decode cX11_ofPart 92 = .ok (.iaload, 1) := by decide +kernel
theorem dX11_ofPart_93 : decode cX11_ofPart 93 = .ok (.ireturn, 1) := by decide +kernel
theorem dX11_ofPart_94 : decode cX11_ofPart 94 = .ok (.aload_n 0, 1) := by decide +kernel
theorem dX11_ofPart_95 : decode cX11_ofPart 95 = .ok (.getfield 35, 3) := by decide +kernel
theorem dX11_ofPart_98 : decode cX11_ofPart 98 = .ok (.iload_n 1, 1) := by decide +kernel
theorem dX11_ofPart_99 : decode cX11_ofPart 99 = .ok (.iconst 0, 1) := by decide +kernel
theorem dX11_ofPart_100 : decode cX11_ofPart 100 = .ok (.invokevirtual 223, 3) := by decide +kernel
theorem dX11_ofPart_103 : decode cX11_ofPart 103 = .ok (.ireturn, 1) := by decide +kernel
theorem dX11_ofPart_104 : decode cX11_ofPart 104 = .ok (.aload_n 0, 1) := by decide +kernel
theorem dX11_ofPart_105 : decode cX11_ofPart 105 = .ok (.getfield 35, 3) := by decide +kernel
theorem dX11_ofPart_108 : decode cX11_ofPart 108 = .ok (.iload_n 1, 1) := by decide +kernel
theorem dX11_ofPart_109 : decode cX11_ofPart 109 = .ok (.iconst 1, 1) := by decide +kernel
theorem dX11_ofPart_110 : decode cX11_ofPart 110 = .ok (.invokevirtual 223, 3) := by decide +kernel
theorem dX11_ofPart_113 : decode cX11_ofPart 113 = .ok (.ireturn, 1) := by decide +kernel
theorem dX11_ofPart_114 : decode cX11_ofPart 114 = .ok (.aload_n 0, 1) := by decide +kernel
theorem dX11_ofPart_115 : decode cX11_ofPart 115 = .ok (.getfield 35, 3) := by decide +kernel
theorem dX11_ofPart_118 : decode cX11_ofPart 118 = .ok (.iload_n 1, 1) := by decide +kernel
theorem dX11_ofPart_119 : decode cX11_ofPart 119 = .ok (.iconst 2, 1) := by decide +kernel
theorem dX11_ofPart_120 : decode cX11_ofPart 120 = .ok (.invokevirtual 223, 3) := by decide +kernel
theorem dX11_ofPart_123 : decode cX11_ofPart 123 = .ok (.ireturn, 1) := by decide +kernel
theorem dX11_ofPart_124 : decode cX11_ofPart 124 = .ok (.aload_n 0, 1) := by decide +kernel
theorem dX11_ofPart_125 : decode cX11_ofPart 125 = .ok (.getfield 26, 3) := by decide +kernel
theorem dX11_ofPart_128 : decode cX11_ofPart 128 = .ok (.iload_n 1, 1) := by decide +kernel
theorem dX11_ofPart_129 : decode cX11_ofPart 129 = .ok (.invokevirtual 226, 3) := by decide +kernel
theorem dX11_ofPart_132 : decode cX11_ofPart 132 = .ok (.ireturn, 1) := by decide +kernel
theorem dX11_ofPart_133 : decode cX11_ofPart 133 = .ok (.aload_n 0, 1) := by decide +kernel
theorem dX11_ofPart_134 : decode cX11_ofPart 134 = .ok (.getfield 26, 3) := by decide +kernel
theorem dX11_ofPart_137 : decode cX11_ofPart 137 = .ok (.iload_n 1, 1) := by decide +kernel
theorem dX11_ofPart_138 : decode cX11_ofPart 138 = .ok (.invokevirtual 229, 3) := by decide +kernel
theorem dX11_ofPart_141 : decode cX11_ofPart 141 = .ok (.ireturn, 1) := by decide +kernel
theorem dX11_ofPart_142 : decode cX11_ofPart 142 = .ok (.aload_n 0, 1) := by decide +kernel
theorem dX11_ofPart_143 : decode cX11_ofPart 143 = .ok (.getfield 35, 3) := by decide +kernel
theorem dX11_ofPart_146 : decode cX11_ofPart 146 = .ok (.iload_n 1, 1) := by decide +kernel
theorem dX11_ofPart_147 : decode cX11_ofPart 147 = .ok (.aload_n 0, 1) := by decide +kernel
theorem dX11_ofPart_148 : decode cX11_ofPart 148 = .ok (.getfield 132, 3) := by decide +kernel
theorem dX11_ofPart_151 : decode cX11_ofPart 151 = .ok (.invokevirtual 232, 3) := by decide +kernel
theorem dX11_ofPart_154 : decode cX11_ofPart 154 = .ok (.ireturn, 1) := by decide +kernel
theorem dX11_ofPart_155 : decode cX11_ofPart 155 = .ok (.ldc 96, 2) := by decide +kernel
theorem dX11_ofPart_157 : decode cX11_ofPart 157 = .ok (.ireturn, 1) := by decide +kernel
theorem dX11_left_0 : decode cX11_left 0 = .ok (.aload_n 0, 1) := by decide +kernel
theorem dX11_left_1 : decode cX11_left 1 = .ok (.getfield 35, 3) := by decide +kernel
theorem dX11_left_4 : decode cX11_left 4 = .ok (.iload_n 1, 1) := by decide +kernel
theorem dX11_left_5 : decode cX11_left 5 = .ok (.invokevirtual 200, 3) := by decide +kernel
theorem dX11_left_8 : decode cX11_left 8 = .ok (.ifCond .eq 19, 3) := by decide +kernel
theorem dX11_left_11 : decode cX11_left 11 = .ok (.iload_n 2, 1) := by decide +kernel
theorem dX11_left_12 : decode cX11_left 12 = .ok (.iconst 0, 1) := by decide +kernel
theorem dX11_left_13 : decode cX11_left 13 = .ok (.iconst 2, 1) := by decide +kernel
theorem dX11_left_14 : decode cX11_left 14 = .ok (.invokestatic 106, 3) := by decide +kernel
theorem dX11_left_17 : decode cX11_left 17 = .ok (.ifCond .eq 10, 3) := by decide +kernel
theorem dX11_left_20 : decode cX11_left 20 = .ok (.iload_n 3, 1) := by decide +kernel
theorem dX11_left_21 : decode cX11_left 21 = .ok (.invokestatic 181, 3) := by decide +kernel
theorem dX11_left_24 : decode cX11_left 24 = .ok (.ifCond .ne 6, 3) := by decide +kernel
theorem dX11_left_27 : decode cX11_left 27 = .ok (.ldc 96, 2) := by decide +kernel
theorem dX11_left_29 : decode cX11_left 29 = .ok (.ireturn, 1) := by decide +kernel
theorem dX11_left_30 : decode cX11_left 30 = .ok (.aload_n 0, 1) := by decide +kernel
theorem dX11_left_31 : decode cX11_left 31 = .ok (.getfield 10, 3) := by decide +kernel
theorem dX11_left_34 : decode cX11_left 34 = .ok (.aload_n 0, 1) := by decide +kernel
theorem dX11_left_35 : decode cX11_left 35 = .ok (.getfield 35, 3) := by decide +kernel
theorem dX11_left_38 : decode cX11_left 38 = .ok (.getfield 207, 3) := by decide +kernel
theorem dX11_left_41 : decode cX11_left 41 = .ok (.iload_n 1, 1) := by decide +kernel
theorem dX11_left_42 : decode cX11_left 42 = .ok (.iaload, 1) := by decide +kernel
theorem dX11_left_43 : decode cX11_left 43 = .ok (.iload_n 2, 1) := by decide +kernel
theorem dX11_left_44 : decode cX11_left 44 = .ok (.invokevirtual 235, 3) := by decide +kernel
theorem dX11_left_47 : decode cX11_left 47 = .ok (.ifCond .ne 6, 3) := by decide +kernel
theorem dX11_left_50 : decode cX11_left 50 = .ok (.ldc 96, 2) := by decide +kernel
theorem dX11_left_52 : decode cX11_left 52 = .ok (.ireturn, 1) := by decide +kernel
theorem dX11_left_53 : decode cX11_left 53 = .ok (.aload_n 0, 1) := by decide +kernel
theorem dX11_left_54 : decode cX11_left 54 = .ok (.getfield 83, 3) := by decide +kernel
theorem dX11_left_57 : decode cX11_left 57 = .ok (.iload_n 1, 1) := by decide +kernel
theorem dX11_left_58 : decode cX11_left 58 = .ok (.iload_n 3, 1) := by decide +kernel
theorem dX11_left_59 : decode cX11_left 59 = .ok (.invokevirtual 238, 3) := by decide +kernel
theorem dX11_left_62 : decode cX11_left 62 = .ok (.aload_n 0, 1) := by decide +kernel
theorem dX11_left_63 : decode cX11_left 63 = .ok (.getfield 83, 3) := by decide +kernel
theorem dX11_left_66 : decode cX11_left 66 = .ok (.getfield 241, 3) := by decide +kernel
theorem dX11_left_69 : decode cX11_left 69 = .ok (.iload_n 2, 1) := by decide +kernel
theorem dX11_left_70 : decode cX11_left 70 = .ok (.iaload, 1) := by decide +kernel
theorem dX11_left_71 : decode cX11_left 71 = .ok (.ireturn, 1) := by decide +kernel
theorem dX11_least_0 : decode cX11_least 0 = .ok (.aload_n 0, 1) := by decide +kernel
theorem dX11_least_1 : decode cX11_least 1 = .ok (.getfield 35, 3) := by decide +kernel
theorem dX11_least_4 : decode cX11_least 4 = .ok (.iload_n 1, 1) := by decide +kernel
theorem dX11_least_5 : decode cX11_least 5 = .ok (.invokevirtual 200, 3) := by decide +kernel
theorem dX11_least_8 : decode cX11_least 8 = .ok (.ifCond .eq 10, 3) := by decide +kernel
theorem dX11_least_11 : decode cX11_least 11 = .ok (.iload_n 2, 1) := by decide +kernel
theorem dX11_least_12 : decode cX11_least 12 = .ok (.invokestatic 181, 3) := by decide +kernel
theorem dX11_least_15 : decode cX11_least 15 = .ok (.ifCond .ne 5, 3) := by decide +kernel
theorem dX11_least_18 : decode cX11_least 18 = .ok (.iconst (-1), 1) := by decide +kernel
theorem dX11_least_19 : decode cX11_least 19 = .ok (.ireturn, 1) := by decide +kernel
theorem dX11_least_20 : decode cX11_least 20 = .ok (.aload_n 0, 1) := by decide +kernel
theorem dX11_least_21 : decode cX11_least 21 = .ok (.getfield 83, 3) := by decide +kernel
theorem dX11_least_24 : decode cX11_least 24 = .ok (.iload_n 1, 1) := by decide +kernel
theorem dX11_least_25 : decode cX11_least 25 = .ok (.iload_n 2, 1) := by decide +kernel
theorem dX11_least_26 : decode cX11_least 26 = .ok (.invokevirtual 244, 3) := by decide +kernel
theorem dX11_least_29 : decode cX11_least 29 = .ok (.istore_n 3, 1) := by decide +kernel
theorem dX11_least_30 : decode cX11_least 30 = .ok (.iload_n 3, 1) := by decide +kernel
theorem dX11_least_31 : decode cX11_least 31 = .ok (.iconst (-1), 1) := by decide +kernel
theorem dX11_least_32 : decode cX11_least 32 = .ok (.if_icmp .ne 8, 3) := by decide +kernel
theorem dX11_least_35 : decode cX11_least 35 = .ok (.bipush (-2), 2) := by decide +kernel
theorem dX11_least_37 : decode cX11_least 37 = .ok (.goto 4, 3) := by decide +kernel
theorem dX11_least_40 : decode cX11_least 40 = .ok (.iload_n 3, 1) := by decide +kernel
theorem dX11_least_41 : decode cX11_least 41 = .ok (.ireturn, 1) := by decide +kernel
theorem dX11_stay_0 : decode cX11_stay 0 = .ok (.aload_n 0, 1) := by decide +kernel
theorem dX11_stay_1 : decode cX11_stay 1 = .ok (.iload_n 1, 1) := by decide +kernel
theorem dX11_stay_2 : decode cX11_stay 2 = .ok (.iload_n 2, 1) := by decide +kernel
theorem dX11_stay_3 : decode cX11_stay 3 = .ok (.invokevirtual 247, 3) := by decide +kernel
theorem dX11_stay_6 : decode cX11_stay 6 = .ok (.istore 4, 2) := by decide +kernel
theorem dX11_stay_8 : decode cX11_stay 8 = .ok (.iload 4, 2) := by decide +kernel
theorem dX11_stay_10 : decode cX11_stay 10 = .ok (.iconst (-1), 1) := by decide +kernel
theorem dX11_stay_11 : decode cX11_stay 11 = .ok (.if_icmp .ne 6, 3) := by decide +kernel
theorem dX11_stay_14 : decode cX11_stay 14 = .ok (.ldc 96, 2) := by decide +kernel
theorem dX11_stay_16 : decode cX11_stay 16 = .ok (.ireturn, 1) := by decide +kernel
theorem dX11_stay_17 : decode cX11_stay 17 = .ok (.iload_n 3, 1) := by decide +kernel
theorem dX11_stay_18 : decode cX11_stay 18 = .ok (.tableswitch 144 0 7 #[46, 57, 68, 79, 90, 102, 113, 125], 46) := by decide +kernel
theorem dX11_stay_64 : decode cX11_stay 64 = .ok (.aload_n 0, 1) := by decide +kernel
theorem dX11_stay_65 : decode cX11_stay 65 = .ok (.getfield 26, 3) := by decide +kernel
theorem dX11_stay_68 : decode cX11_stay 68 = .ok (.getfield 250, 3) := by decide +kernel
theorem dX11_stay_71 : decode cX11_stay 71 = .ok (.iload 4, 2) := by decide +kernel
theorem dX11_stay_73 : decode cX11_stay 73 = .ok (.iaload, 1) := by decide +kernel
theorem dX11_stay_74 : decode cX11_stay 74 = .ok (.ireturn, 1) := by decide +kernel
theorem dX11_stay_75 : decode cX11_stay 75 = .ok (.aload_n 0, 1) := by decide +kernel
theorem dX11_stay_76 : decode cX11_stay 76 = .ok (.getfield 26, 3) := by decide +kernel
theorem dX11_stay_79 : decode cX11_stay 79 = .ok (.getfield 253, 3) := by decide +kernel
theorem dX11_stay_82 : decode cX11_stay 82 = .ok (.iload 4, 2) := by decide +kernel
theorem dX11_stay_84 : decode cX11_stay 84 = .ok (.iaload, 1) := by decide +kernel
theorem dX11_stay_85 : decode cX11_stay 85 = .ok (.ireturn, 1) := by decide +kernel
theorem dX11_stay_86 : decode cX11_stay 86 = .ok (.aload_n 0, 1) := by decide +kernel
theorem dX11_stay_87 : decode cX11_stay 87 = .ok (.getfield 26, 3) := by decide +kernel
theorem dX11_stay_90 : decode cX11_stay 90 = .ok (.getfield 256, 3) := by decide +kernel
theorem dX11_stay_93 : decode cX11_stay 93 = .ok (.iload 4, 2) := by decide +kernel
theorem dX11_stay_95 : decode cX11_stay 95 = .ok (.iaload, 1) := by decide +kernel
theorem dX11_stay_96 : decode cX11_stay 96 = .ok (.ireturn, 1) := by decide +kernel
theorem dX11_stay_97 : decode cX11_stay 97 = .ok (.aload_n 0, 1) := by decide +kernel
theorem dX11_stay_98 : decode cX11_stay 98 = .ok (.getfield 26, 3) := by decide +kernel
theorem dX11_stay_101 : decode cX11_stay 101 = .ok (.iload 4, 2) := by decide +kernel
theorem dX11_stay_103 : decode cX11_stay 103 = .ok (.iconst 0, 1) := by decide +kernel
theorem dX11_stay_104 : decode cX11_stay 104 = .ok (.invokevirtual 259, 3) := by decide +kernel
theorem dX11_stay_107 : decode cX11_stay 107 = .ok (.ireturn, 1) := by decide +kernel
theorem dX11_stay_108 : decode cX11_stay 108 = .ok (.aload_n 0, 1) := by decide +kernel
theorem dX11_stay_109 : decode cX11_stay 109 = .ok (.getfield 35, 3) := by decide +kernel
theorem dX11_stay_112 : decode cX11_stay 112 = .ok (.iload_n 1, 1) := by decide +kernel
theorem dX11_stay_113 : decode cX11_stay 113 = .ok (.iload 4, 2) := by decide +kernel
theorem dX11_stay_115 : decode cX11_stay 115 = .ok (.iconst 0, 1) := by decide +kernel
theorem dX11_stay_116 : decode cX11_stay 116 = .ok (.invokevirtual 262, 3) := by decide +kernel
theorem dX11_stay_119 : decode cX11_stay 119 = .ok (.ireturn, 1) := by decide +kernel
theorem dX11_stay_120 : decode cX11_stay 120 = .ok (.aload_n 0, 1) := by decide +kernel
theorem dX11_stay_121 : decode cX11_stay 121 = .ok (.getfield 26, 3) := by decide +kernel
theorem dX11_stay_124 : decode cX11_stay 124 = .ok (.iload 4, 2) := by decide +kernel
theorem dX11_stay_126 : decode cX11_stay 126 = .ok (.iconst 1, 1) := by decide +kernel
theorem dX11_stay_127 : decode cX11_stay 127 = .ok (.invokevirtual 259, 3) := by decide +kernel
theorem dX11_stay_130 : decode cX11_stay 130 = .ok (.ireturn, 1) := by decide +kernel
theorem dX11_stay_131 : decode cX11_stay 131 = .ok (.aload_n 0, 1) := by decide +kernel
theorem dX11_stay_132 : decode cX11_stay 132 = .ok (.getfield 35, 3) := by decide +kernel
theorem dX11_stay_135 : decode cX11_stay 135 = .ok (.iload_n 1, 1) := by decide +kernel
theorem dX11_stay_136 : decode cX11_stay 136 = .ok (.iload 4, 2) := by decide +kernel
theorem dX11_stay_138 : decode cX11_stay 138 = .ok (.iconst 1, 1) := by decide +kernel
theorem dX11_stay_139 : decode cX11_stay 139 = .ok (.invokevirtual 262, 3) := by decide +kernel
theorem dX11_stay_142 : decode cX11_stay 142 = .ok (.ireturn, 1) := by decide +kernel
theorem dX11_stay_143 : decode cX11_stay 143 = .ok (.aload_n 0, 1) := by decide +kernel
theorem dX11_stay_144 : decode cX11_stay 144 = .ok (.getfield 26, 3) := by decide +kernel
theorem dX11_stay_147 : decode cX11_stay 147 = .ok (.getfield 265, 3) := by decide +kernel
theorem dX11_stay_150 : decode cX11_stay 150 = .ok (.iload 4, 2) := by decide +kernel
theorem dX11_stay_152 : decode cX11_stay 152 = .ok (.baload, 1) := by decide +kernel
theorem dX11_stay_153 : decode cX11_stay 153 = .ok (.ifCond .eq 7, 3) := by decide +kernel
theorem dX11_stay_156 : decode cX11_stay 156 = .ok (.iconst 1, 1) := by decide +kernel
theorem dX11_stay_157 : decode cX11_stay 157 = .ok (.goto 4, 3) := by decide +kernel
theorem dX11_stay_160 : decode cX11_stay 160 = .ok (.iconst 0, 1) := by decide +kernel
theorem dX11_stay_161 : decode cX11_stay 161 = .ok (.ireturn, 1) := by decide +kernel
theorem dX11_stay_162 : decode cX11_stay 162 = .ok (.ldc 96, 2) := by decide +kernel
theorem dX11_stay_164 : decode cX11_stay 164 = .ok (.ireturn, 1) := by decide +kernel
theorem dX11_paper_0 : decode cX11_paper 0 = .ok (.aload_n 0, 1) := by decide +kernel
theorem dX11_paper_1 : decode cX11_paper 1 = .ok (.iload_n 1, 1) := by decide +kernel
theorem dX11_paper_2 : decode cX11_paper 2 = .ok (.iload_n 2, 1) := by decide +kernel
theorem dX11_paper_3 : decode cX11_paper 3 = .ok (.invokevirtual 247, 3) := by decide +kernel
theorem dX11_paper_6 : decode cX11_paper 6 = .ok (.istore 4, 2) := by decide +kernel
theorem dX11_paper_8 : decode cX11_paper 8 = .ok (.iload 4, 2) := by decide +kernel
theorem dX11_paper_10 : decode cX11_paper 10 = .ok (.iconst (-1), 1) := by decide +kernel
theorem dX11_paper_11 : decode cX11_paper 11 = .ok (.if_icmp .eq 12, 3) := by decide +kernel
theorem dX11_paper_14 : decode cX11_paper 14 = .ok (.iload_n 3, 1) := by decide +kernel
theorem dX11_paper_15 : decode cX11_paper 15 = .ok (.iconst 0, 1) := by decide +kernel
theorem dX11_paper_16 : decode cX11_paper 16 = .ok (.iconst 1, 1) := by decide +kernel
theorem dX11_paper_17 : decode cX11_paper 17 = .ok (.invokestatic 106, 3) := by decide +kernel
theorem dX11_paper_20 : decode cX11_paper 20 = .ok (.ifCond .ne 5, 3) := by decide +kernel
theorem dX11_paper_23 : decode cX11_paper 23 = .ok (.iconst (-1), 1) := by decide +kernel
theorem dX11_paper_24 : decode cX11_paper 24 = .ok (.ireturn, 1) := by decide +kernel
theorem dX11_paper_25 : decode cX11_paper 25 = .ok (.aload_n 0, 1) := by decide +kernel
theorem dX11_paper_26 : decode cX11_paper 26 = .ok (.getfield 26, 3) := by decide +kernel
theorem dX11_paper_29 : decode cX11_paper 29 = .ok (.iload 4, 2) := by decide +kernel
theorem dX11_paper_31 : decode cX11_paper 31 = .ok (.invokevirtual 269, 3) := by decide +kernel
theorem dX11_paper_34 : decode cX11_paper 34 = .ok (.ifCond .eq 6, 3) := by decide +kernel
theorem dX11_paper_37 : decode cX11_paper 37 = .ok (.bipush (-2), 2) := by decide +kernel
theorem dX11_paper_39 : decode cX11_paper 39 = .ok (.ireturn, 1) := by decide +kernel
theorem dX11_paper_40 : decode cX11_paper 40 = .ok (.aload_n 0, 1) := by decide +kernel
theorem dX11_paper_41 : decode cX11_paper 41 = .ok (.getfield 26, 3) := by decide +kernel
theorem dX11_paper_44 : decode cX11_paper 44 = .ok (.getfield 265, 3) := by decide +kernel
theorem dX11_paper_47 : decode cX11_paper 47 = .ok (.iload 4, 2) := by decide +kernel
theorem dX11_paper_49 : decode cX11_paper 49 = .ok (.baload, 1) := by decide +kernel
theorem dX11_paper_50 : decode cX11_paper 50 = .ok (.ifCond .eq 7, 3) := by decide +kernel
theorem dX11_paper_53 : decode cX11_paper 53 = .ok (.iconst 1, 1) := by decide +kernel
theorem dX11_paper_54 : decode cX11_paper 54 = .ok (.goto 4, 3) := by decide +kernel
theorem dX11_paper_57 : decode cX11_paper 57 = .ok (.iconst 0, 1) := by decide +kernel
theorem dX11_paper_58 : decode cX11_paper 58 = .ok (.istore 5, 2) := by decide +kernel
theorem dX11_paper_60 : decode cX11_paper 60 = .ok (.aload_n 0, 1) := by decide +kernel
theorem dX11_paper_61 : decode cX11_paper 61 = .ok (.getfield 26, 3) := by decide +kernel
theorem dX11_paper_64 : decode cX11_paper 64 = .ok (.getfield 265, 3) := by decide +kernel
theorem dX11_paper_67 : decode cX11_paper 67 = .ok (.iload 4, 2) := by decide +kernel
theorem dX11_paper_69 : decode cX11_paper 69 = .ok (.iload_n 3, 1) := by decide +kernel
theorem dX11_paper_70 : decode cX11_paper 70 = .ok (.iconst 1, 1) := by decide +kernel
theorem dX11_paper_71 : decode cX11_paper 71 = .ok (.if_icmp .ne 7, 3) := by decide +kernel
theorem dX11_paper_74 : decode cX11_paper 74 = .ok (.iconst 1, 1) := by decide +kernel
theorem dX11_paper_75 : decode cX11_paper 75 = .ok (.goto 4, 3) := by decide +kernel
theorem dX11_paper_78 : decode cX11_paper 78 = .ok (.iconst 0, 1) := by decide +kernel
theorem dX11_paper_79 : decode cX11_paper 79 = .ok (.bastore, 1) := by decide +kernel
theorem dX11_paper_80 : decode cX11_paper 80 = .ok (.iload 5, 2) := by decide +kernel
theorem dX11_paper_82 : decode cX11_paper 82 = .ok (.ireturn, 1) := by decide +kernel
theorem dX11_past_0 : decode cX11_past 0 = .ok (.aload_n 0, 1) := by decide +kernel
theorem dX11_past_1 : decode cX11_past 1 = .ok (.getfield 35, 3) := by decide +kernel
theorem dX11_past_4 : decode cX11_past 4 = .ok (.iload_n 1, 1) := by decide +kernel
theorem dX11_past_5 : decode cX11_past 5 = .ok (.invokevirtual 200, 3) := by decide +kernel
theorem dX11_past_8 : decode cX11_past 8 = .ok (.ifCond .eq 27, 3) := by decide +kernel
theorem dX11_past_11 : decode cX11_past 11 = .ok (.aload_n 0, 1) := by decide +kernel
theorem dX11_past_12 : decode cX11_past 12 = .ok (.iload_n 2, 1) := by decide +kernel
theorem dX11_past_13 : decode cX11_past 13 = .ok (.invokevirtual 201, 3) := by decide +kernel
theorem dX11_past_16 : decode cX11_past 16 = .ok (.ifCond .eq 19, 3) := by decide +kernel
theorem dX11_past_19 : decode cX11_past 19 = .ok (.iload 4, 2) := by decide +kernel
theorem dX11_past_21 : decode cX11_past 21 = .ok (.invokestatic 101, 3) := by decide +kernel
theorem dX11_past_24 : decode cX11_past 24 = .ok (.ifCond .eq 11, 3) := by decide +kernel
theorem dX11_past_27 : decode cX11_past 27 = .ok (.iload 5, 2) := by decide +kernel
theorem dX11_past_29 : decode cX11_past 29 = .ok (.invokestatic 101, 3) := by decide +kernel
theorem dX11_past_32 : decode cX11_past 32 = .ok (.ifCond .ne 5, 3) := by decide +kernel
theorem dX11_past_35 : decode cX11_past 35 = .ok (.iconst (-1), 1) := by decide +kernel
theorem dX11_past_36 : decode cX11_past 36 = .ok (.ireturn, 1) := by decide +kernel
theorem dX11_past_37 : decode cX11_past 37 = .ok (.iload_n 3, 1) := by decide +kernel
theorem dX11_past_38 : decode cX11_past 38 = .ok (.ifCond .lt 8, 3) := by decide +kernel
theorem dX11_past_41 : decode cX11_past 41 = .ok (.iload 6, 2) := by decide +kernel
theorem dX11_past_43 : decode cX11_past 43 = .ok (.ifCond .ge 5, 3) := by decide +kernel
theorem dX11_past_46 : decode cX11_past 46 = .ok (.iconst (-1), 1) := by decide +kernel
theorem dX11_past_47 : decode cX11_past 47 = .ok (.ireturn, 1) := by decide +kernel
theorem dX11_past_48 : decode cX11_past 48 = .ok (.iload_n 3, 1) := by decide +kernel
theorem dX11_past_49 : decode cX11_past 49 = .ok (.sipush 20000, 3) := by decide +kernel
theorem dX11_past_52 : decode cX11_past 52 = .ok (.idiv, 1) := by decide +kernel
theorem dX11_past_53 : decode cX11_past 53 = .ok (.istore 7, 2) := by decide +kernel
theorem dX11_past_55 : decode cX11_past 55 = .ok (.iload_n 3, 1) := by decide +kernel
theorem dX11_past_56 : decode cX11_past 56 = .ok (.sipush 20000, 3) := by decide +kernel
theorem dX11_past_59 : decode cX11_past 59 = .ok (.irem, 1) := by decide +kernel
theorem dX11_past_60 : decode cX11_past 60 = .ok (.istore 8, 2) := by decide +kernel
theorem dX11_past_62 : decode cX11_past 62 = .ok (.iload 6, 2) := by decide +kernel
theorem dX11_past_64 : decode cX11_past 64 = .ok (.ldc_w 272, 3) := by decide +kernel
theorem dX11_past_67 : decode cX11_past 67 = .ok (.idiv, 1) := by decide +kernel
theorem dX11_past_68 : decode cX11_past 68 = .ok (.sipush 500, 3) := by decide +kernel
theorem dX11_past_71 : decode cX11_past 71 = .ok (.isub, 1) := by decide +kernel
theorem dX11_past_72 : decode cX11_past 72 = .ok (.istore 9, 2) := by decide +kernel
theorem dX11_past_74 : decode cX11_past 74 = .ok (.iload 6, 2) := by decide +kernel
theorem dX11_past_76 : decode cX11_past 76 = .ok (.ldc_w 272, 3) := by decide +kernel
theorem dX11_past_79 : decode cX11_past 79 = .ok (.irem, 1) := by decide +kernel
theorem dX11_past_80 : decode cX11_past 80 = .ok (.istore 10, 2) := by decide +kernel
theorem dX11_past_82 : decode cX11_past 82 = .ok (.iload 5, 2) := by decide +kernel
theorem dX11_past_84 : decode cX11_past 84 = .ok (.iload 9, 2) := by decide +kernel
theorem dX11_past_86 : decode cX11_past 86 = .ok (.iadd, 1) := by decide +kernel
theorem dX11_past_87 : decode cX11_past 87 = .ok (.istore 11, 2) := by decide +kernel
theorem dX11_past_89 : decode cX11_past 89 = .ok (.iload 8, 2) := by decide +kernel
theorem dX11_past_91 : decode cX11_past 91 = .ok (.sipush 9999, 3) := by decide +kernel
theorem dX11_past_94 : decode cX11_past 94 = .ok (.if_icmp .gt 26, 3) := by decide +kernel
theorem dX11_past_97 : decode cX11_past 97 = .ok (.iload 7, 2) := by decide +kernel
theorem dX11_past_99 : decode cX11_past 99 = .ok (.iload 8, 2) := by decide +kernel
theorem dX11_past_101 : decode cX11_past 101 = .ok (.if_icmp .gt 19, 3) := by decide +kernel
theorem dX11_past_104 : decode cX11_past 104 = .ok (.iload 9, 2) := by decide +kernel
theorem dX11_past_106 : decode cX11_past 106 = .ok (.sipush 499, 3) := by decide +kernel
theorem dX11_past_109 : decode cX11_past 109 = .ok (.if_icmp .gt 11, 3) := by decide +kernel
theorem dX11_past_112 : decode cX11_past 112 = .ok (.iload 11, 2) := by decide +kernel
theorem dX11_past_114 : decode cX11_past 114 = .ok (.invokestatic 101, 3) := by decide +kernel
theorem dX11_past_117 : decode cX11_past 117 = .ok (.ifCond .ne 5, 3) := by decide +kernel
theorem dX11_past_120 : decode cX11_past 120 = .ok (.iconst (-1), 1) := by decide +kernel
theorem dX11_past_121 : decode cX11_past 121 = .ok (.ireturn, 1) := by decide +kernel
theorem dX11_past_122 : decode cX11_past 122 = .ok (.aload_n 0, 1) := by decide +kernel
theorem dX11_past_123 : decode cX11_past 123 = .ok (.getfield 26, 3) := by decide +kernel
theorem dX11_past_126 : decode cX11_past 126 = .ok (.iconst 1, 1) := by decide +kernel
theorem dX11_past_127 : decode cX11_past 127 = .ok (.invokevirtual 188, 3) := by decide +kernel
theorem dX11_past_130 : decode cX11_past 130 = .ok (.ifCond .ne 6, 3) := by decide +kernel
theorem dX11_past_133 : decode cX11_past 133 = .ok (.bipush (-3), 2) := by decide +kernel
theorem dX11_past_135 : decode cX11_past 135 = .ok (.ireturn, 1) := by decide +kernel
theorem dX11_past_136 : decode cX11_past 136 = .ok (.aload_n 0, 1) := by decide +kernel
theorem dX11_past_137 : decode cX11_past 137 = .ok (.getfield 26, 3) := by decide +kernel
theorem dX11_past_140 : decode cX11_past 140 = .ok (.iload_n 1, 1) := by decide +kernel
theorem dX11_past_141 : decode cX11_past 141 = .ok (.iload_n 2, 1) := by decide +kernel
theorem dX11_past_142 : decode cX11_past 142 = .ok (.iload 7, 2) := by decide +kernel
theorem dX11_past_144 : decode cX11_past 144 = .ok (.sipush 9999, 3) := by decide +kernel
theorem dX11_past_147 : decode cX11_past 147 = .ok (.isub, 1) := by decide +kernel
theorem dX11_past_148 : decode cX11_past 148 = .ok (.iload 4, 2) := by decide +kernel
theorem dX11_past_150 : decode cX11_past 150 = .ok (.iload 5, 2) := by decide +kernel
theorem dX11_past_152 : decode cX11_past 152 = .ok (.invokevirtual 273, 3) := by decide +kernel
theorem dX11_past_155 : decode cX11_past 155 = .ok (.istore 12, 2) := by decide +kernel
theorem dX11_past_157 : decode cX11_past 157 = .ok (.aload_n 0, 1) := by decide +kernel
theorem dX11_past_158 : decode cX11_past 158 = .ok (.getfield 26, 3) := by decide +kernel
theorem dX11_past_161 : decode cX11_past 161 = .ok (.iload 12, 2) := by decide +kernel
theorem dX11_past_163 : decode cX11_past 163 = .ok (.iload 8, 2) := by decide +kernel
theorem dX11_past_165 : decode cX11_past 165 = .ok (.sipush 9999, 3) := by decide +kernel
theorem dX11_past_168 : decode cX11_past 168 = .ok (.isub, 1) := by decide +kernel
theorem dX11_past_169 : decode cX11_past 169 = .ok (.iload 10, 2) := by decide +kernel
theorem dX11_past_171 : decode cX11_past 171 = .ok (.iload 11, 2) := by decide +kernel
theorem dX11_past_173 : decode cX11_past 173 = .ok (.invokevirtual 276, 3) := by decide +kernel
theorem dX11_past_176 : decode cX11_past 176 = .ok (.aload_n 0, 1) := by decide +kernel
theorem dX11_past_177 : decode cX11_past 177 = .ok (.getfield 26, 3) := by decide +kernel
theorem dX11_past_180 : decode cX11_past 180 = .ok (.iload_n 1, 1) := by decide +kernel
theorem dX11_past_181 : decode cX11_past 181 = .ok (.invokevirtual 226, 3) := by decide +kernel
theorem dX11_past_184 : decode cX11_past 184 = .ok (.ireturn, 1) := by decide +kernel
theorem dX11_feed_0 : decode cX11_feed 0 = .ok (.iload_n 1, 1) := by decide +kernel
theorem dX11_feed_1 : decode cX11_feed 1 = .ok (.iconst 1, 1) := by decide +kernel
theorem dX11_feed_2 : decode cX11_feed 2 = .ok (.iconst 4, 1) := by decide +kernel
theorem dX11_feed_3 : decode cX11_feed 3 = .ok (.invokestatic 106, 3) := by decide +kernel
theorem dX11_feed_6 : decode cX11_feed 6 = .ok (.ifCond .ne 5, 3) := by decide +kernel
theorem dX11_feed_9 : decode cX11_feed 9 = .ok (.iconst (-1), 1) := by decide +kernel
theorem dX11_feed_10 : decode cX11_feed 10 = .ok (.ireturn, 1) := by decide +kernel
theorem dX11_feed_11 : decode cX11_feed 11 = .ok (.aload_n 0, 1) := by decide +kernel
theorem dX11_feed_12 : decode cX11_feed 12 = .ok (.getfield 42, 3) := by decide +kernel
theorem dX11_feed_15 : decode cX11_feed 15 = .ok (.iload_n 1, 1) := by decide +kernel
theorem dX11_feed_16 : decode cX11_feed 16 = .ok (.iload_n 2, 1) := by decide +kernel
theorem dX11_feed_17 : decode cX11_feed 17 = .ok (.invokevirtual 279, 3) := by decide +kernel
theorem dX11_feed_20 : decode cX11_feed 20 = .ok (.ireturn, 1) := by decide +kernel
theorem dX11_law_0 : decode cX11_law 0 = .ok (.iload_n 1, 1) := by decide +kernel
theorem dX11_law_1 : decode cX11_law 1 = .ok (.invokestatic 181, 3) := by decide +kernel
theorem dX11_law_4 : decode cX11_law 4 = .ok (.ifCond .ne 5, 3) := by decide +kernel
theorem dX11_law_7 : decode cX11_law 7 = .ok (.iconst (-1), 1) := by decide +kernel
theorem dX11_law_8 : decode cX11_law 8 = .ok (.ireturn, 1) := by decide +kernel
theorem dX11_law_9 : decode cX11_law 9 = .ok (.aload_n 0, 1) := by decide +kernel
theorem dX11_law_10 : decode cX11_law 10 = .ok (.getfield 49, 3) := by decide +kernel
theorem dX11_law_13 : decode cX11_law 13 = .ok (.getfield 282, 3) := by decide +kernel
theorem dX11_law_16 : decode cX11_law 16 = .ok (.bipush 10, 2) := by decide +kernel
theorem dX11_law_18 : decode cX11_law 18 = .ok (.if_icmp .lt 6, 3) := by decide +kernel
theorem dX11_law_21 : decode cX11_law 21 = .ok (.bipush (-3), 2) := by decide +kernel
theorem dX11_law_23 : decode cX11_law 23 = .ok (.ireturn, 1) := by decide +kernel
theorem dX11_law_24 : decode cX11_law 24 = .ok (.aload_n 0, 1) := by decide +kernel
theorem dX11_law_25 : decode cX11_law 25 = .ok (.getfield 58, 3) := by decide +kernel
theorem dX11_law_28 : decode cX11_law 28 = .ok (.aload_n 0, 1) := by decide +kernel
theorem dX11_law_29 : decode cX11_law 29 = .ok (.getfield 49, 3) := by decide +kernel
theorem dX11_law_32 : decode cX11_law 32 = .ok (.getfield 283, 3) := by decide +kernel
theorem dX11_law_35 : decode cX11_law 35 = .ok (.aload_n 0, 1) := by decide +kernel
theorem dX11_law_36 : decode cX11_law 36 = .ok (.getfield 49, 3) := by decide +kernel
theorem dX11_law_39 : decode cX11_law 39 = .ok (.getfield 282, 3) := by decide +kernel
theorem dX11_law_42 : decode cX11_law 42 = .ok (.aaload, 1) := by decide +kernel
theorem dX11_law_43 : decode cX11_law 43 = .ok (.invokevirtual 287, 3) := by decide +kernel
theorem dX11_law_46 : decode cX11_law 46 = .ok (.istore_n 2, 1) := by decide +kernel
theorem dX11_law_47 : decode cX11_law 47 = .ok (.aload_n 0, 1) := by decide +kernel
theorem dX11_law_48 : decode cX11_law 48 = .ok (.getfield 42, 3) := by decide +kernel
theorem dX11_law_51 : decode cX11_law 51 = .ok (.iconst 0, 1) := by decide +kernel
theorem dX11_law_52 : decode cX11_law 52 = .ok (.putfield 291, 3) := by decide +kernel
theorem dX11_law_55 : decode cX11_law 55 = .ok (.iload_n 2, 1) := by decide +kernel
theorem dX11_law_56 : decode cX11_law 56 = .ok (.iconst (-1), 1) := by decide +kernel
theorem dX11_law_57 : decode cX11_law 57 = .ok (.if_icmp .eq 8, 3) := by decide +kernel
theorem dX11_law_60 : decode cX11_law 60 = .ok (.bipush (-100), 2) := by decide +kernel
theorem dX11_law_62 : decode cX11_law 62 = .ok (.iload_n 2, 1) := by decide +kernel
theorem dX11_law_63 : decode cX11_law 63 = .ok (.isub, 1) := by decide +kernel
theorem dX11_law_64 : decode cX11_law 64 = .ok (.ireturn, 1) := by decide +kernel
theorem dX11_law_65 : decode cX11_law 65 = .ok (.aload_n 0, 1) := by decide +kernel
theorem dX11_law_66 : decode cX11_law 66 = .ok (.getfield 49, 3) := by decide +kernel
theorem dX11_law_69 : decode cX11_law 69 = .ok (.aload_n 0, 1) := by decide +kernel
theorem dX11_law_70 : decode cX11_law 70 = .ok (.getfield 132, 3) := by decide +kernel
theorem dX11_law_73 : decode cX11_law 73 = .ok (.iload_n 1, 1) := by decide +kernel
theorem dX11_law_74 : decode cX11_law 74 = .ok (.aload_n 0, 1) := by decide +kernel
theorem dX11_law_75 : decode cX11_law 75 = .ok (.getfield 58, 3) := by decide +kernel
theorem dX11_law_78 : decode cX11_law 78 = .ok (.getfield 292, 3) := by decide +kernel
theorem dX11_law_81 : decode cX11_law 81 = .ok (.invokevirtual 293, 3) := by decide +kernel
theorem dX11_law_84 : decode cX11_law 84 = .ok (.ireturn, 1) := by decide +kernel
theorem dX11_lost_0 : decode cX11_lost 0 = .ok (.aload_n 0, 1) := by decide +kernel
theorem dX11_lost_1 : decode cX11_lost 1 = .ok (.iload_n 1, 1) := by decide +kernel
theorem dX11_lost_2 : decode cX11_lost 2 = .ok (.iload_n 2, 1) := by decide +kernel
theorem dX11_lost_3 : decode cX11_lost 3 = .ok (.invokevirtual 247, 3) := by decide +kernel
theorem dX11_lost_6 : decode cX11_lost 6 = .ok (.istore 4, 2) := by decide +kernel
theorem dX11_lost_8 : decode cX11_lost 8 = .ok (.iload 4, 2) := by decide +kernel
theorem dX11_lost_10 : decode cX11_lost 10 = .ok (.iconst (-1), 1) := by decide +kernel
theorem dX11_lost_11 : decode cX11_lost 11 = .ok (.if_icmp .eq 10, 3) := by decide +kernel
theorem dX11_lost_14 : decode cX11_lost 14 = .ok (.iload_n 3, 1) := by decide +kernel
theorem dX11_lost_15 : decode cX11_lost 15 = .ok (.invokestatic 181, 3) := by decide +kernel
theorem dX11_lost_18 : decode cX11_lost 18 = .ok (.ifCond .ne 5, 3) := by decide +kernel
theorem dX11_lost_21 : decode cX11_lost 21 = .ok (.iconst (-1), 1) := by decide +kernel
theorem dX11_lost_22 : decode cX11_lost 22 = .ok (.ireturn, 1) := by decide +kernel
theorem dX11_lost_23 : decode cX11_lost 23 = .ok (.aload_n 0, 1) := by decide +kernel
theorem dX11_lost_24 : decode cX11_lost 24 = .ok (.getfield 26, 3) := by decide +kernel
theorem dX11_lost_27 : decode cX11_lost 27 = .ok (.iload 4, 2) := by decide +kernel
theorem dX11_lost_29 : decode cX11_lost 29 = .ok (.invokevirtual 295, 3) := by decide +kernel
theorem dX11_lost_32 : decode cX11_lost 32 = .ok (.ifCond .eq 17, 3) := by decide +kernel
theorem dX11_lost_35 : decode cX11_lost 35 = .ok (.aload_n 0, 1) := by decide +kernel
theorem dX11_lost_36 : decode cX11_lost 36 = .ok (.getfield 83, 3) := by decide +kernel
theorem dX11_lost_39 : decode cX11_lost 39 = .ok (.iload_n 1, 1) := by decide +kernel
theorem dX11_lost_40 : decode cX11_lost 40 = .ok (.iload 4, 2) := by decide +kernel
theorem dX11_lost_42 : decode cX11_lost 42 = .ok (.iload_n 3, 1) := by decide +kernel
theorem dX11_lost_43 : decode cX11_lost 43 = .ok (.invokevirtual 298, 3) := by decide +kernel
theorem dX11_lost_46 : decode cX11_lost 46 = .ok (.goto 5, 3) := by decide +kernel
theorem dX11_lost_49 : decode cX11_lost 49 = .ok (.bipush (-2), 2) := by decide +kernel
theorem dX11_lost_51 : decode cX11_lost 51 = .ok (.ireturn, 1) := by decide +kernel
theorem dX11_order_0 : decode cX11_order 0 = .ok (.aload_n 0, 1) := by decide +kernel
theorem dX11_order_1 : decode cX11_order 1 = .ok (.getfield 10, 3) := by decide +kernel
theorem dX11_order_4 : decode cX11_order 4 = .ok (.iload_n 1, 1) := by decide +kernel
theorem dX11_order_5 : decode cX11_order 5 = .ok (.invokevirtual 120, 3) := by decide +kernel
theorem dX11_order_8 : decode cX11_order 8 = .ok (.ifCond .eq 10, 3) := by decide +kernel
theorem dX11_order_11 : decode cX11_order 11 = .ok (.iload_n 2, 1) := by decide +kernel
theorem dX11_order_12 : decode cX11_order 12 = .ok (.invokestatic 181, 3) := by decide +kernel
theorem dX11_order_15 : decode cX11_order 15 = .ok (.ifCond .ne 5, 3) := by decide +kernel
theorem dX11_order_18 : decode cX11_order 18 = .ok (.iconst (-1), 1) := by decide +kernel
theorem dX11_order_19 : decode cX11_order 19 = .ok (.ireturn, 1) := by decide +kernel
