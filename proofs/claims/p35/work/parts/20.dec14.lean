theorem dX12_operand_141 : decode cX12_operand 141 = .ok (.aload_n 0, 1) := by decide +kernel
theorem dX12_operand_142 : decode cX12_operand 142 = .ok (.iconst 1, 1) := by decide +kernel
theorem dX12_operand_143 : decode cX12_operand 143 = .ok (.aload_n 0, 1) := by decide +kernel
theorem dX12_operand_144 : decode cX12_operand 144 = .ok (.getfield 266, 3) := by decide +kernel
theorem dX12_operand_147 : decode cX12_operand 147 = .ok (.invokevirtual 276, 3) := by decide +kernel
theorem dX12_operand_150 : decode cX12_operand 150 = .ok (.return_, 1) := by decide +kernel
theorem dX12_product_0 : decode cX12_product 0 = .ok (.aload_n 0, 1) := by decide +kernel
theorem dX12_product_1 : decode cX12_product 1 = .ok (.invokevirtual 283, 3) := by decide +kernel
theorem dX12_product_4 : decode cX12_product 4 = .ok (.aload_n 0, 1) := by decide +kernel
theorem dX12_product_5 : decode cX12_product 5 = .ok (.getfield 251, 3) := by decide +kernel
theorem dX12_product_8 : decode cX12_product 8 = .ok (.ifCond .ge 49, 3) := by decide +kernel
theorem dX12_product_11 : decode cX12_product 11 = .ok (.aload_n 0, 1) := by decide +kernel
theorem dX12_product_12 : decode cX12_product 12 = .ok (.invokevirtual 269, 3) := by decide +kernel
theorem dX12_product_15 : decode cX12_product 15 = .ok (.bipush 42, 2) := by decide +kernel
theorem dX12_product_17 : decode cX12_product 17 = .ok (.if_icmp .eq 12, 3) := by decide +kernel
theorem dX12_product_20 : decode cX12_product 20 = .ok (.aload_n 0, 1) := by decide +kernel
theorem dX12_product_21 : decode cX12_product 21 = .ok (.invokevirtual 269, 3) := by decide +kernel
theorem dX12_product_24 : decode cX12_product 24 = .ok (.bipush 47, 2) := by decide +kernel
theorem dX12_product_26 : decode cX12_product 26 = .ok (.if_icmp .ne 31, 3) := by decide +kernel
theorem dX12_product_29 : decode cX12_product 29 = .ok (.aload_n 0, 1) := by decide +kernel
theorem dX12_product_30 : decode cX12_product 30 = .ok (.invokevirtual 269, 3) := by decide +kernel
theorem dX12_product_33 : decode cX12_product 33 = .ok (.istore_n 1, 1) := by decide +kernel
theorem dX12_product_34 : decode cX12_product 34 = .ok (.aload_n 0, 1) := by decide +kernel
theorem dX12_product_35 : decode cX12_product 35 = .ok (.dup, 1) := by decide +kernel
theorem dX12_product_36 : decode cX12_product 36 = .ok (.getfield 248, 3) := by decide +kernel
theorem dX12_product_39 : decode cX12_product 39 = .ok (.iconst 1, 1) := by decide +kernel
theorem dX12_product_40 : decode cX12_product 40 = .ok (.iadd, 1) := by decide +kernel
theorem dX12_product_41 : decode cX12_product 41 = .ok (.putfield 248, 3) := by decide +kernel
theorem dX12_product_44 : decode cX12_product 44 = .ok (.aload_n 0, 1) := by decide +kernel
theorem dX12_product_45 : decode cX12_product 45 = .ok (.invokevirtual 283, 3) := by decide +kernel
theorem dX12_product_48 : decode cX12_product 48 = .ok (.aload_n 0, 1) := by decide +kernel
theorem dX12_product_49 : decode cX12_product 49 = .ok (.iload_n 1, 1) := by decide +kernel
theorem dX12_product_50 : decode cX12_product 50 = .ok (.iconst 0, 1) := by decide +kernel
theorem dX12_product_51 : decode cX12_product 51 = .ok (.invokevirtual 276, 3) := by decide +kernel
theorem dX12_product_54 : decode cX12_product 54 = .ok (.goto (-50), 3) := by decide +kernel
theorem dX12_product_57 : decode cX12_product 57 = .ok (.return_, 1) := by decide +kernel
theorem dX12_sum_0 : decode cX12_sum 0 = .ok (.aload_n 0, 1) := by decide +kernel
theorem dX12_sum_1 : decode cX12_sum 1 = .ok (.invokevirtual 292, 3) := by decide +kernel
theorem dX12_sum_4 : decode cX12_sum 4 = .ok (.aload_n 0, 1) := by decide +kernel
theorem dX12_sum_5 : decode cX12_sum 5 = .ok (.getfield 251, 3) := by decide +kernel
theorem dX12_sum_8 : decode cX12_sum 8 = .ok (.ifCond .ge 49, 3) := by decide +kernel
theorem dX12_sum_11 : decode cX12_sum 11 = .ok (.aload_n 0, 1) := by decide +kernel
theorem dX12_sum_12 : decode cX12_sum 12 = .ok (.invokevirtual 269, 3) := by decide +kernel
theorem dX12_sum_15 : decode cX12_sum 15 = .ok (.bipush 43, 2) := by decide +kernel
theorem dX12_sum_17 : decode cX12_sum 17 = .ok (.if_icmp .eq 12, 3) := by decide +kernel
theorem dX12_sum_20 : decode cX12_sum 20 = .ok (.aload_n 0, 1) := by decide +kernel
theorem dX12_sum_21 : decode cX12_sum 21 = .ok (.invokevirtual 269, 3) := by decide +kernel
theorem dX12_sum_24 : decode cX12_sum 24 = .ok (.bipush 45, 2) := by decide +kernel
theorem dX12_sum_26 : decode cX12_sum 26 = .ok (.if_icmp .ne 31, 3) := by decide +kernel
theorem dX12_sum_29 : decode cX12_sum 29 = .ok (.aload_n 0, 1) := by decide +kernel
theorem dX12_sum_30 : decode cX12_sum 30 = .ok (.invokevirtual 269, 3) := by decide +kernel
theorem dX12_sum_33 : decode cX12_sum 33 = .ok (.istore_n 1, 1) := by decide +kernel
theorem dX12_sum_34 : decode cX12_sum 34 = .ok (.aload_n 0, 1) := by decide +kernel
theorem dX12_sum_35 : decode cX12_sum 35 = .ok (.dup, 1) := by decide +kernel
theorem dX12_sum_36 : decode cX12_sum 36 = .ok (.getfield 248, 3) := by decide +kernel
theorem dX12_sum_39 : decode cX12_sum 39 = .ok (.iconst 1, 1) := by decide +kernel
theorem dX12_sum_40 : decode cX12_sum 40 = .ok (.iadd, 1) := by decide +kernel
theorem dX12_sum_41 : decode cX12_sum 41 = .ok (.putfield 248, 3) := by decide +kernel
theorem dX12_sum_44 : decode cX12_sum 44 = .ok (.aload_n 0, 1) := by decide +kernel
theorem dX12_sum_45 : decode cX12_sum 45 = .ok (.invokevirtual 292, 3) := by decide +kernel
theorem dX12_sum_48 : decode cX12_sum 48 = .ok (.aload_n 0, 1) := by decide +kernel
theorem dX12_sum_49 : decode cX12_sum 49 = .ok (.iload_n 1, 1) := by decide +kernel
theorem dX12_sum_50 : decode cX12_sum 50 = .ok (.iconst 0, 1) := by decide +kernel
theorem dX12_sum_51 : decode cX12_sum 51 = .ok (.invokevirtual 276, 3) := by decide +kernel
theorem dX12_sum_54 : decode cX12_sum 54 = .ok (.goto (-50), 3) := by decide +kernel
theorem dX12_sum_57 : decode cX12_sum 57 = .ok (.return_, 1) := by decide +kernel
theorem dX12_either_0 : decode cX12_either 0 = .ok (.aload_n 0, 1) := by decide +kernel
theorem dX12_either_1 : decode cX12_either 1 = .ok (.invokevirtual 295, 3) := by decide +kernel
theorem dX12_either_4 : decode cX12_either 4 = .ok (.aload_n 0, 1) := by decide +kernel
theorem dX12_either_5 : decode cX12_either 5 = .ok (.invokevirtual 269, 3) := by decide +kernel
theorem dX12_either_8 : decode cX12_either 8 = .ok (.istore_n 1, 1) := by decide +kernel
theorem dX12_either_9 : decode cX12_either 9 = .ok (.aload_n 0, 1) := by decide +kernel
theorem dX12_either_10 : decode cX12_either 10 = .ok (.getfield 251, 3) := by decide +kernel
theorem dX12_either_13 : decode cX12_either 13 = .ok (.ifCond .ge 41, 3) := by decide +kernel
theorem dX12_either_16 : decode cX12_either 16 = .ok (.iload_n 1, 1) := by decide +kernel
theorem dX12_either_17 : decode cX12_either 17 = .ok (.bipush 60, 2) := by decide +kernel
theorem dX12_either_19 : decode cX12_either 19 = .ok (.if_icmp .eq 15, 3) := by decide +kernel
theorem dX12_either_22 : decode cX12_either 22 = .ok (.iload_n 1, 1) := by decide +kernel
theorem dX12_either_23 : decode cX12_either 23 = .ok (.bipush 61, 2) := by decide +kernel
theorem dX12_either_25 : decode cX12_either 25 = .ok (.if_icmp .eq 9, 3) := by decide +kernel
theorem dX12_either_28 : decode cX12_either 28 = .ok (.iload_n 1, 1) := by decide +kernel
theorem dX12_either_29 : decode cX12_either 29 = .ok (.bipush 62, 2) := by decide +kernel
theorem dX12_either_31 : decode cX12_either 31 = .ok (.if_icmp .ne 23, 3) := by decide +kernel
theorem dX12_either_34 : decode cX12_either 34 = .ok (.aload_n 0, 1) := by decide +kernel
theorem dX12_either_35 : decode cX12_either 35 = .ok (.dup, 1) := by decide +kernel
theorem dX12_either_36 : decode cX12_either 36 = .ok (.getfield 248, 3) := by decide +kernel
theorem dX12_either_39 : decode cX12_either 39 = .ok (.iconst 1, 1) := by decide +kernel
theorem dX12_either_40 : decode cX12_either 40 = .ok (.iadd, 1) := by decide +kernel
theorem dX12_either_41 : decode cX12_either 41 = .ok (.putfield 248, 3) := by decide +kernel
theorem dX12_either_44 : decode cX12_either 44 = .ok (.aload_n 0, 1) := by decide +kernel
theorem dX12_either_45 : decode cX12_either 45 = .ok (.invokevirtual 295, 3) := by decide +kernel
theorem dX12_either_48 : decode cX12_either 48 = .ok (.aload_n 0, 1) := by decide +kernel
theorem dX12_either_49 : decode cX12_either 49 = .ok (.iload_n 1, 1) := by decide +kernel
theorem dX12_either_50 : decode cX12_either 50 = .ok (.iconst 0, 1) := by decide +kernel
theorem dX12_either_51 : decode cX12_either 51 = .ok (.invokevirtual 276, 3) := by decide +kernel
theorem dX12_either_54 : decode cX12_either 54 = .ok (.aload_n 0, 1) := by decide +kernel
theorem dX12_either_55 : decode cX12_either 55 = .ok (.getfield 251, 3) := by decide +kernel
theorem dX12_either_58 : decode cX12_either 58 = .ok (.ifCond .ge 12, 3) := by decide +kernel
theorem dX12_either_61 : decode cX12_either 61 = .ok (.aload_n 0, 1) := by decide +kernel
theorem dX12_either_62 : decode cX12_either 62 = .ok (.invokevirtual 269, 3) := by decide +kernel
theorem dX12_either_65 : decode cX12_either 65 = .ok (.bipush 63, 2) := by decide +kernel
theorem dX12_either_67 : decode cX12_either 67 = .ok (.if_icmp .eq 4, 3) := by decide +kernel
theorem dX12_either_70 : decode cX12_either 70 = .ok (.return_, 1) := by decide +kernel
theorem dX12_either_71 : decode cX12_either 71 = .ok (.aload_n 0, 1) := by decide +kernel
theorem dX12_either_72 : decode cX12_either 72 = .ok (.invokevirtual 279, 3) := by decide +kernel
theorem dX12_either_75 : decode cX12_either 75 = .ok (.ifCond .ne 4, 3) := by decide +kernel
theorem dX12_either_78 : decode cX12_either 78 = .ok (.return_, 1) := by decide +kernel
theorem dX12_either_79 : decode cX12_either 79 = .ok (.aload_n 0, 1) := by decide +kernel
theorem dX12_either_80 : decode cX12_either 80 = .ok (.invokevirtual 286, 3) := by decide +kernel
theorem dX12_either_83 : decode cX12_either 83 = .ok (.aload_n 0, 1) := by decide +kernel
theorem dX12_either_84 : decode cX12_either 84 = .ok (.getfield 251, 3) := by decide +kernel
theorem dX12_either_87 : decode cX12_either 87 = .ok (.ifCond .lt 4, 3) := by decide +kernel
theorem dX12_either_90 : decode cX12_either 90 = .ok (.return_, 1) := by decide +kernel
theorem dX12_either_91 : decode cX12_either 91 = .ok (.aload_n 0, 1) := by decide +kernel
theorem dX12_either_92 : decode cX12_either 92 = .ok (.invokevirtual 269, 3) := by decide +kernel
theorem dX12_either_95 : decode cX12_either 95 = .ok (.bipush 58, 2) := by decide +kernel
theorem dX12_either_97 : decode cX12_either 97 = .ok (.if_icmp .eq 8, 3) := by decide +kernel
theorem dX12_either_100 : decode cX12_either 100 = .ok (.aload_n 0, 1) := by decide +kernel
theorem dX12_either_101 : decode cX12_either 101 = .ok (.invokevirtual 263, 3) := by decide +kernel
theorem dX12_either_104 : decode cX12_either 104 = .ok (.return_, 1) := by decide +kernel
theorem dX12_either_105 : decode cX12_either 105 = .ok (.aload_n 0, 1) := by decide +kernel
theorem dX12_either_106 : decode cX12_either 106 = .ok (.dup, 1) := by decide +kernel
theorem dX12_either_107 : decode cX12_either 107 = .ok (.getfield 248, 3) := by decide +kernel
theorem dX12_either_110 : decode cX12_either 110 = .ok (.iconst 1, 1) := by decide +kernel
theorem dX12_either_111 : decode cX12_either 111 = .ok (.iadd, 1) := by decide +kernel
theorem dX12_either_112 : decode cX12_either 112 = .ok (.putfield 248, 3) := by decide +kernel
theorem dX12_either_115 : decode cX12_either 115 = .ok (.aload_n 0, 1) := by decide +kernel
theorem dX12_either_116 : decode cX12_either 116 = .ok (.invokevirtual 286, 3) := by decide +kernel
theorem dX12_either_119 : decode cX12_either 119 = .ok (.aload_n 0, 1) := by decide +kernel
theorem dX12_either_120 : decode cX12_either 120 = .ok (.iconst 4, 1) := by decide +kernel
theorem dX12_either_121 : decode cX12_either 121 = .ok (.iconst 0, 1) := by decide +kernel
theorem dX12_either_122 : decode cX12_either 122 = .ok (.invokevirtual 276, 3) := by decide +kernel
theorem dX12_either_125 : decode cX12_either 125 = .ok (.aload_n 0, 1) := by decide +kernel
theorem dX12_either_126 : decode cX12_either 126 = .ok (.dup, 1) := by decide +kernel
theorem dX12_either_127 : decode cX12_either 127 = .ok (.getfield 260, 3) := by decide +kernel
theorem dX12_either_130 : decode cX12_either 130 = .ok (.iconst 1, 1) := by decide +kernel
theorem dX12_either_131 : decode cX12_either 131 = .ok (.isub, 1) := by decide +kernel
theorem dX12_either_132 : decode cX12_either 132 = .ok (.putfield 260, 3) := by decide +kernel
theorem dX12_either_135 : decode cX12_either 135 = .ok (.return_, 1) := by decide +kernel
theorem dX12_law_0 : decode cX12_law 0 = .ok (.iload_n 1, 1) := by decide +kernel
theorem dX12_law_1 : decode cX12_law 1 = .ok (.invokestatic 298, 3) := by decide +kernel
theorem dX12_law_4 : decode cX12_law 4 = .ok (.ifCond .ne 5, 3) := by decide +kernel
theorem dX12_law_7 : decode cX12_law 7 = .ok (.iconst (-1), 1) := by decide +kernel
theorem dX12_law_8 : decode cX12_law 8 = .ok (.ireturn, 1) := by decide +kernel
theorem dX12_law_9 : decode cX12_law 9 = .ok (.aload_n 0, 1) := by decide +kernel
theorem dX12_law_10 : decode cX12_law 10 = .ok (.getfield 301, 3) := by decide +kernel
theorem dX12_law_13 : decode cX12_law 13 = .ok (.bipush 10, 2) := by decide +kernel
theorem dX12_law_15 : decode cX12_law 15 = .ok (.if_icmp .ne 6, 3) := by decide +kernel
theorem dX12_law_18 : decode cX12_law 18 = .ok (.bipush (-3), 2) := by decide +kernel
theorem dX12_law_20 : decode cX12_law 20 = .ok (.ireturn, 1) := by decide +kernel
theorem dX12_law_21 : decode cX12_law 21 = .ok (.aload_n 0, 1) := by decide +kernel
theorem dX12_law_22 : decode cX12_law 22 = .ok (.aload_n 0, 1) := by decide +kernel
theorem dX12_law_23 : decode cX12_law 23 = .ok (.getfield 301, 3) := by decide +kernel
theorem dX12_law_26 : decode cX12_law 26 = .ok (.putfield 254, 3) := by decide +kernel
theorem dX12_law_29 : decode cX12_law 29 = .ok (.aload_n 0, 1) := by decide +kernel
theorem dX12_law_30 : decode cX12_law 30 = .ok (.iconst 0, 1) := by decide +kernel
theorem dX12_law_31 : decode cX12_law 31 = .ok (.putfield 257, 3) := by decide +kernel
theorem dX12_law_34 : decode cX12_law 34 = .ok (.aload_n 0, 1) := by decide +kernel
theorem dX12_law_35 : decode cX12_law 35 = .ok (.iconst 0, 1) := by decide +kernel
theorem dX12_law_36 : decode cX12_law 36 = .ok (.putfield 248, 3) := by decide +kernel
theorem dX12_law_39 : decode cX12_law 39 = .ok (.aload_n 0, 1) := by decide +kernel
theorem dX12_law_40 : decode cX12_law 40 = .ok (.iconst (-1), 1) := by decide +kernel
theorem dX12_law_41 : decode cX12_law 41 = .ok (.putfield 251, 3) := by decide +kernel
theorem dX12_law_44 : decode cX12_law 44 = .ok (.aload_n 0, 1) := by decide +kernel
theorem dX12_law_45 : decode cX12_law 45 = .ok (.iconst 0, 1) := by decide +kernel
theorem dX12_law_46 : decode cX12_law 46 = .ok (.putfield 260, 3) := by decide +kernel
theorem dX12_law_49 : decode cX12_law 49 = .ok (.aload_n 0, 1) := by decide +kernel
theorem dX12_law_50 : decode cX12_law 50 = .ok (.invokevirtual 286, 3) := by decide +kernel
theorem dX12_law_53 : decode cX12_law 53 = .ok (.aload_n 0, 1) := by decide +kernel
theorem dX12_law_54 : decode cX12_law 54 = .ok (.getfield 248, 3) := by decide +kernel
theorem dX12_law_57 : decode cX12_law 57 = .ok (.aload_n 0, 1) := by decide +kernel
theorem dX12_law_58 : decode cX12_law 58 = .ok (.getfield 245, 3) := by decide +kernel
theorem dX12_law_61 : decode cX12_law 61 = .ok (.if_icmp .ge 7, 3) := by decide +kernel
theorem dX12_law_64 : decode cX12_law 64 = .ok (.aload_n 0, 1) := by decide +kernel
theorem dX12_law_65 : decode cX12_law 65 = .ok (.invokevirtual 263, 3) := by decide +kernel
theorem dX12_law_68 : decode cX12_law 68 = .ok (.aload_n 0, 1) := by decide +kernel
theorem dX12_law_69 : decode cX12_law 69 = .ok (.iconst 0, 1) := by decide +kernel
theorem dX12_law_70 : decode cX12_law 70 = .ok (.putfield 245, 3) := by decide +kernel
theorem dX12_law_73 : decode cX12_law 73 = .ok (.aload_n 0, 1) := by decide +kernel
theorem dX12_law_74 : decode cX12_law 74 = .ok (.getfield 251, 3) := by decide +kernel
theorem dX12_law_77 : decode cX12_law 77 = .ok (.ifCond .lt 11, 3) := by decide +kernel
theorem dX12_law_80 : decode cX12_law 80 = .ok (.bipush (-100), 2) := by decide +kernel
theorem dX12_law_82 : decode cX12_law 82 = .ok (.aload_n 0, 1) := by decide +kernel
theorem dX12_law_83 : decode cX12_law 83 = .ok (.getfield 251, 3) := by decide +kernel
theorem dX12_law_86 : decode cX12_law 86 = .ok (.isub, 1) := by decide +kernel
theorem dX12_law_87 : decode cX12_law 87 = .ok (.ireturn, 1) := by decide +kernel
theorem dX12_law_88 : decode cX12_law 88 = .ok (.aload_n 0, 1) := by decide +kernel
theorem dX12_law_89 : decode cX12_law 89 = .ok (.getfield 84, 3) := by decide +kernel
theorem dX12_law_92 : decode cX12_law 92 = .ok (.aload_n 0, 1) := by decide +kernel
theorem dX12_law_93 : decode cX12_law 93 = .ok (.getfield 301, 3) := by decide +kernel
theorem dX12_law_96 : decode cX12_law 96 = .ok (.aload_n 0, 1) := by decide +kernel
theorem dX12_law_97 : decode cX12_law 97 = .ok (.getfield 183, 3) := by decide +kernel
theorem dX12_law_100 : decode cX12_law 100 = .ok (.iastore, 1) := by decide +kernel
theorem dX12_law_101 : decode cX12_law 101 = .ok (.aload_n 0, 1) := by decide +kernel
theorem dX12_law_102 : decode cX12_law 102 = .ok (.getfield 87, 3) := by decide +kernel
theorem dX12_law_105 : decode cX12_law 105 = .ok (.aload_n 0, 1) := by decide +kernel
theorem dX12_law_106 : decode cX12_law 106 = .ok (.getfield 301, 3) := by decide +kernel
theorem dX12_law_109 : decode cX12_law 109 = .ok (.iload_n 1, 1) := by decide +kernel
theorem dX12_law_110 : decode cX12_law 110 = .ok (.iastore, 1) := by decide +kernel
theorem dX12_law_111 : decode cX12_law 111 = .ok (.aload_n 0, 1) := by decide +kernel
theorem dX12_law_112 : decode cX12_law 112 = .ok (.getfield 90, 3) := by decide +kernel
theorem dX12_law_115 : decode cX12_law 115 = .ok (.aload_n 0, 1) := by decide +kernel
theorem dX12_law_116 : decode cX12_law 116 = .ok (.getfield 301, 3) := by decide +kernel
theorem dX12_law_119 : decode cX12_law 119 = .ok (.aload_n 0, 1) := by decide +kernel
theorem dX12_law_120 : decode cX12_law 120 = .ok (.getfield 257, 3) := by decide +kernel
theorem dX12_law_123 : decode cX12_law 123 = .ok (.iastore, 1) := by decide +kernel
theorem dX12_law_124 : decode cX12_law 124 = .ok (.aload_n 0, 1) := by decide +kernel
theorem dX12_law_125 : decode cX12_law 125 = .ok (.dup, 1) := by decide +kernel
theorem dX12_law_126 : decode cX12_law 126 = .ok (.getfield 301, 3) := by decide +kernel
theorem dX12_law_129 : decode cX12_law 129 = .ok (.iconst 1, 1) := by decide +kernel
theorem dX12_law_130 : decode cX12_law 130 = .ok (.iadd, 1) := by decide +kernel
theorem dX12_law_131 : decode cX12_law 131 = .ok (.putfield 301, 3) := by decide +kernel
theorem dX12_law_134 : decode cX12_law 134 = .ok (.aload_n 0, 1) := by decide +kernel
theorem dX12_law_135 : decode cX12_law 135 = .ok (.getfield 301, 3) := by decide +kernel
theorem dX12_law_138 : decode cX12_law 138 = .ok (.iconst 1, 1) := by decide +kernel
theorem dX12_law_139 : decode cX12_law 139 = .ok (.isub, 1) := by decide +kernel
theorem dX12_law_140 : decode cX12_law 140 = .ok (.ireturn, 1) := by decide +kernel
theorem dX12_both_0 : decode cX12_both 0 = .ok (.iload_n 0, 1) := by decide +kernel
theorem dX12_both_1 : decode cX12_both 1 = .ok (.tableswitch 151 42 61 #[103, 95, 151, 99, 151, 107, 151, 151, 151, 151, 151, 151, 151, 151, 151, 151, 151, 151, 129, 140], 95) := by decide +kernel
theorem dX12_both_96 : decode cX12_both 96 = .ok (.iload_n 1, 1) := by decide +kernel
theorem dX12_both_97 : decode cX12_both 97 = .ok (.iload_n 2, 1) := by decide +kernel
theorem dX12_both_98 : decode cX12_both 98 = .ok (.iadd, 1) := by decide +kernel
theorem dX12_both_99 : decode cX12_both 99 = .ok (.ireturn, 1) := by decide +kernel
theorem dX12_both_100 : decode cX12_both 100 = .ok (.iload_n 1, 1) := by decide +kernel
theorem dX12_both_101 : decode cX12_both 101 = .ok (.iload_n 2, 1) := by decide +kernel
theorem dX12_both_102 : decode cX12_both 102 = .ok (.isub, 1) := by decide +kernel
theorem dX12_both_103 : decode cX12_both 103 = .ok (.ireturn, 1) := by decide +kernel
theorem dX12_both_104 : decode cX12_both 104 = .ok (.iload_n 1, 1) := by decide +kernel
theorem dX12_both_105 : decode cX12_both 105 = .ok (.iload_n 2, 1) := by decide +kernel
theorem dX12_both_106 : decode cX12_both 106 = .ok (.imul, 1) := by decide +kernel
theorem dX12_both_107 : decode cX12_both 107 = .ok (.ireturn, 1) := by decide +kernel
theorem dX12_both_108 : decode cX12_both 108 = .ok (.iload_n 2, 1) := by decide +kernel
theorem dX12_both_109 : decode cX12_both 109 = .ok (.ifCond .ne 7, 3) := by decide +kernel
theorem dX12_both_112 : decode cX12_both 112 = .ok (.iconst 0, 1) := by decide +kernel
theorem dX12_both_113 : decode cX12_both 113 = .ok (.goto 16, 3) := by decide +kernel
theorem dX12_both_116 : decode cX12_both 116 = .ok (.iload_n 2, 1) := by decide +kernel
theorem dX12_both_117 : decode cX12_both 117 = .ok (.iconst (-1), 1) := by decide +kernel
theorem dX12_both_118 : decode cX12_both 118 = .ok (.if_icmp .ne 8, 3) := by decide +kernel
theorem dX12_both_121 : decode cX12_both 121 = .ok (.iload_n 1, 1) := by decide +kernel
theorem dX12_both_122 : decode cX12_both 122 = .ok (.ineg, 1) := by decide +kernel
theorem dX12_both_123 : decode cX12_both 123 = .ok (.goto 6, 3) := by decide +kernel
theorem dX12_both_126 : decode cX12_both 126 = .ok (.iload_n 1, 1) := by decide +kernel
theorem dX12_both_127 : decode cX12_both 127 = .ok (.iload_n 2, 1) := by decide +kernel
theorem dX12_both_128 : decode cX12_both 128 = .ok (.idiv, 1) := by decide +kernel
theorem dX12_both_129 : decode cX12_both 129 = .ok (.ireturn, 1) := by decide +kernel
theorem dX12_both_130 : decode cX12_both 130 = .ok (.iload_n 1, 1) := by decide +kernel
theorem dX12_both_131 : decode cX12_both 131 = .ok (.iload_n 2, 1) := by decide +kernel
theorem dX12_both_132 : decode cX12_both 132 = .ok (.if_icmp .ge 7, 3) := by decide +kernel
theorem dX12_both_135 : decode cX12_both 135 = .ok (.iconst 1, 1) := by decide +kernel
theorem dX12_both_136 : decode cX12_both 136 = .ok (.goto 4, 3) := by decide +kernel
theorem dX12_both_139 : decode cX12_both 139 = .ok (.iconst 0, 1) := by decide +kernel
theorem dX12_both_140 : decode cX12_both 140 = .ok (.ireturn, 1) := by decide +kernel
theorem dX12_both_141 : decode cX12_both 141 = .ok (.iload_n 1, 1) := by decide +kernel
theorem dX12_both_142 : decode cX12_both 142 = .ok (.iload_n 2, 1) := by decide +kernel
theorem dX12_both_143 : decode cX12_both 143 = .ok (.if_icmp .ne 7, 3) := by decide +kernel
theorem dX12_both_146 : decode cX12_both 146 = .ok (.iconst 1, 1) := by decide +kernel
theorem dX12_both_147 : decode cX12_both 147 = .ok (.goto 4, 3) := by decide +kernel
theorem dX12_both_150 : decode cX12_both 150 = .ok (.iconst 0, 1) := by decide +kernel
theorem dX12_both_151 : decode cX12_both 151 = .ok (.ireturn, 1) := by decide +kernel
theorem dX12_both_152 : decode cX12_both 152 = .ok (.iload_n 1, 1) := by decide +kernel
theorem dX12_both_153 : decode cX12_both 153 = .ok (.iload_n 2, 1) := by decide +kernel
theorem dX12_both_154 : decode cX12_both 154 = .ok (.if_icmp .le 7, 3) := by decide +kernel
theorem dX12_both_157 : decode cX12_both 157 = .ok (.iconst 1, 1) := by decide +kernel
theorem dX12_both_158 : decode cX12_both 158 = .ok (.goto 4, 3) := by decide +kernel
theorem dX12_both_161 : decode cX12_both 161 = .ok (.iconst 0, 1) := by decide +kernel
theorem dX12_both_162 : decode cX12_both 162 = .ok (.ireturn, 1) := by decide +kernel
theorem dX12_works_0 : decode cX12_works 0 = .ok (.iconst 0, 1) := by decide +kernel
theorem dX12_works_1 : decode cX12_works 1 = .ok (.istore_n 2, 1) := by decide +kernel
theorem dX12_works_2 : decode cX12_works 2 = .ok (.sipush 130, 3) := by decide +kernel
theorem dX12_works_5 : decode cX12_works 5 = .ok (.iload_n 1, 1) := by decide +kernel
theorem dX12_works_6 : decode cX12_works 6 = .ok (.imul, 1) := by decide +kernel
theorem dX12_works_7 : decode cX12_works 7 = .ok (.istore_n 3, 1) := by decide +kernel
theorem dX12_works_8 : decode cX12_works 8 = .ok (.iload_n 3, 1) := by decide +kernel
theorem dX12_works_9 : decode cX12_works 9 = .ok (.sipush 130, 3) := by decide +kernel
theorem dX12_works_12 : decode cX12_works 12 = .ok (.iload_n 1, 1) := by decide +kernel
theorem dX12_works_13 : decode cX12_works 13 = .ok (.imul, 1) := by decide +kernel
theorem dX12_works_14 : decode cX12_works 14 = .ok (.aload_n 0, 1) := by decide +kernel
theorem dX12_works_15 : decode cX12_works 15 = .ok (.getfield 90, 3) := by decide +kernel
theorem dX12_works_18 : decode cX12_works 18 = .ok (.iload_n 1, 1) := by decide +kernel
theorem dX12_works_19 : decode cX12_works 19 = .ok (.iaload, 1) := by decide +kernel
theorem dX12_works_20 : decode cX12_works 20 = .ok (.iadd, 1) := by decide +kernel
theorem dX12_works_21 : decode cX12_works 21 = .ok (.if_icmp .ge 171, 3) := by decide +kernel
theorem dX12_works_24 : decode cX12_works 24 = .ok (.aload_n 0, 1) := by decide +kernel
theorem dX12_works_25 : decode cX12_works 25 = .ok (.getfield 93, 3) := by decide +kernel
theorem dX12_works_28 : decode cX12_works 28 = .ok (.iload_n 3, 1) := by decide +kernel
theorem dX12_works_29 : decode cX12_works 29 = .ok (.iaload, 1) := by decide +kernel
theorem dX12_works_30 : decode cX12_works 30 = .ok (.istore 4, 2) := by decide +kernel
theorem dX12_works_32 : decode cX12_works 32 = .ok (.iload 4, 2) := by decide +kernel
theorem dX12_works_34 : decode cX12_works 34 = .ok (.iconst 1, 1) := by decide +kernel
theorem dX12_works_35 : decode cX12_works 35 = .ok (.if_icmp .eq 9, 3) := by decide +kernel
theorem dX12_works_38 : decode cX12_works 38 = .ok (.iload 4, 2) := by decide +kernel
theorem dX12_works_40 : decode cX12_works 40 = .ok (.iconst 2, 1) := by decide +kernel
theorem dX12_works_41 : decode cX12_works 41 = .ok (.if_icmp .ne 41, 3) := by decide +kernel
theorem dX12_works_44 : decode cX12_works 44 = .ok (.aload_n 0, 1) := by decide +kernel
theorem dX12_works_45 : decode cX12_works 45 = .ok (.getfield 99, 3) := by decide +kernel
theorem dX12_works_48 : decode cX12_works 48 = .ok (.iload_n 2, 1) := by decide +kernel
theorem dX12_works_49 : decode cX12_works 49 = .ok (.iload 4, 2) := by decide +kernel
theorem dX12_works_51 : decode cX12_works 51 = .ok (.iconst 1, 1) := by decide +kernel
theorem dX12_works_52 : decode cX12_works 52 = .ok (.if_icmp .ne 12, 3) := by decide +kernel
theorem dX12_works_55 : decode cX12_works 55 = .ok (.aload_n 0, 1) := by decide +kernel
theorem dX12_works_56 : decode cX12_works 56 = .ok (.getfield 96, 3) := by decide +kernel
theorem dX12_works_59 : decode cX12_works 59 = .ok (.iload_n 3, 1) := by decide +kernel
theorem dX12_works_60 : decode cX12_works 60 = .ok (.iaload, 1) := by decide +kernel
theorem dX12_works_61 : decode cX12_works 61 = .ok (.goto 14, 3) := by decide +kernel
theorem dX12_works_64 : decode cX12_works 64 = .ok (.aload_n 0, 1) := by decide +kernel
theorem dX12_works_65 : decode cX12_works 65 = .ok (.getfield 102, 3) := by decide +kernel
theorem dX12_works_68 : decode cX12_works 68 = .ok (.aload_n 0, 1) := by decide +kernel
theorem dX12_works_69 : decode cX12_works 69 = .ok (.getfield 96, 3) := by decide +kernel
theorem dX12_works_72 : decode cX12_works 72 = .ok (.iload_n 3, 1) := by decide +kernel
theorem dX12_works_73 : decode cX12_works 73 = .ok (.iaload, 1) := by decide +kernel
theorem dX12_works_74 : decode cX12_works 74 = .ok (.iaload, 1) := by decide +kernel
theorem dX12_works_75 : decode cX12_works 75 = .ok (.iastore, 1) := by decide +kernel
theorem dX12_works_76 : decode cX12_works 76 = .ok (.iinc 2 1, 3) := by decide +kernel
theorem dX12_works_79 : decode cX12_works 79 = .ok (.goto 107, 3) := by decide +kernel
theorem dX12_works_82 : decode cX12_works 82 = .ok (.iload 4, 2) := by decide +kernel
theorem dX12_works_84 : decode cX12_works 84 = .ok (.iconst 3, 1) := by decide +kernel
theorem dX12_works_85 : decode cX12_works 85 = .ok (.if_icmp .ne 23, 3) := by decide +kernel
theorem dX12_works_88 : decode cX12_works 88 = .ok (.aload_n 0, 1) := by decide +kernel
theorem dX12_works_89 : decode cX12_works 89 = .ok (.getfield 99, 3) := by decide +kernel
theorem dX12_works_92 : decode cX12_works 92 = .ok (.iload_n 2, 1) := by decide +kernel
theorem dX12_works_93 : decode cX12_works 93 = .ok (.iconst 1, 1) := by decide +kernel
theorem dX12_works_94 : decode cX12_works 94 = .ok (.isub, 1) := by decide +kernel
theorem dX12_works_95 : decode cX12_works 95 = .ok (.aload_n 0, 1) := by decide +kernel
theorem dX12_works_96 : decode cX12_works 96 = .ok (.getfield 99, 3) := by decide +kernel
theorem dX12_works_99 : decode cX12_works 99 = .ok (.iload_n 2, 1) := by decide +kernel
theorem dX12_works_100 : decode cX12_works 100 = .ok (.iconst 1, 1) := by decide +kernel
theorem dX12_works_101 : decode cX12_works 101 = .ok (.isub, 1) := by decide +kernel
theorem dX12_works_102 : decode cX12_works 102 = .ok (.iaload, 1) := by decide +kernel
theorem dX12_works_103 : decode cX12_works 103 = .ok (.ineg, 1) := by decide +kernel
theorem dX12_works_104 : decode cX12_works 104 = .ok (.iastore, 1) := by decide +kernel
theorem dX12_works_105 : decode cX12_works 105 = .ok (.goto 81, 3) := by decide +kernel
theorem dX12_works_108 : decode cX12_works 108 = .ok (.iload 4, 2) := by decide +kernel
theorem dX12_works_110 : decode cX12_works 110 = .ok (.iconst 4, 1) := by decide +kernel
theorem dX12_works_111 : decode cX12_works 111 = .ok (.if_icmp .ne 45, 3) := by decide +kernel
theorem dX12_works_114 : decode cX12_works 114 = .ok (.iinc 2 (-2), 3) := by decide +kernel
theorem dX12_works_117 : decode cX12_works 117 = .ok (.aload_n 0, 1) := by decide +kernel
theorem dX12_works_118 : decode cX12_works 118 = .ok (.getfield 99, 3) := by decide +kernel
theorem dX12_works_121 : decode cX12_works 121 = .ok (.iload_n 2, 1) := by decide +kernel
theorem dX12_works_122 : decode cX12_works 122 = .ok (.iconst 1, 1) := by decide +kernel
theorem dX12_works_123 : decode cX12_works 123 = .ok (.isub, 1) := by decide +kernel
theorem dX12_works_124 : decode cX12_works 124 = .ok (.aload_n 0, 1) := by decide +kernel
theorem dX12_works_125 : decode cX12_works 125 = .ok (.getfield 99, 3) := by decide +kernel
theorem dX12_works_128 : decode cX12_works 128 = .ok (.iload_n 2, 1) := by decide +kernel
theorem dX12_works_129 : decode cX12_works 129 = .ok (.iconst 1, 1) := by decide +kernel
theorem dX12_works_130 : decode cX12_works 130 = .ok (.isub, 1) := by decide +kernel
theorem dX12_works_131 : decode cX12_works 131 = .ok (.iaload, 1) := by decide +kernel
theorem dX12_works_132 : decode cX12_works 132 = .ok (.ifCond .eq 12, 3) := by decide +kernel
theorem dX12_works_135 : decode cX12_works 135 = .ok (.aload_n 0, 1) := by decide +kernel
theorem dX12_works_136 : decode cX12_works 136 = .ok (.getfield 99, 3) := by decide +kernel
theorem dX12_works_139 : decode cX12_works 139 = .ok (.iload_n 2, 1) := by decide +kernel
theorem dX12_works_140 : decode cX12_works 140 = .ok (.iaload, 1) := by decide +kernel
theorem dX12_works_141 : decode cX12_works 141 = .ok (.goto 11, 3) := by decide +kernel
theorem dX12_works_144 : decode cX12_works 144 = .ok (.aload_n 0, 1) := by decide +kernel
theorem dX12_works_145 : decode cX12_works 145 = .ok (.getfield 99, 3) := by decide +kernel
theorem dX12_works_148 : decode cX12_works 148 = .ok (.iload_n 2, 1) := by decide +kernel
theorem dX12_works_149 : decode cX12_works 149 = .ok (.iconst 1, 1) := by decide +kernel
theorem dX12_works_150 : decode cX12_works 150 = .ok (.iadd, 1) := by decide +kernel
theorem dX12_works_151 : decode cX12_works 151 = .ok (.iaload, 1) := by decide +kernel
theorem dX12_works_152 : decode cX12_works 152 = .ok (.iastore, 1) := by decide +kernel
theorem dX12_works_153 : decode cX12_works 153 = .ok (.goto 33, 3) := by decide +kernel
theorem dX12_works_156 : decode cX12_works 156 = .ok (.iinc 2 (-1), 3) := by decide +kernel
theorem dX12_works_159 : decode cX12_works 159 = .ok (.aload_n 0, 1) := by decide +kernel
theorem dX12_works_160 : decode cX12_works 160 = .ok (.getfield 99, 3) := by decide +kernel
theorem dX12_works_163 : decode cX12_works 163 = .ok (.iload_n 2, 1) := by decide +kernel
theorem dX12_works_164 : decode cX12_works 164 = .ok (.iconst 1, 1) := by decide +kernel
theorem dX12_works_165 : decode cX12_works 165 = .ok (.isub, 1) := by decide +kernel
theorem dX12_works_166 : decode cX12_works 166 = .ok (.iload 4, 2) := by decide +kernel
theorem dX12_works_168 : decode cX12_works 168 = .ok (.aload_n 0, 1) := by decide +kernel
theorem dX12_works_169 : decode cX12_works 169 = .ok (.getfield 99, 3) := by decide +kernel
theorem dX12_works_172 : decode cX12_works 172 = .ok (.iload_n 2, 1) := by decide +kernel
theorem dX12_works_173 : decode cX12_works 173 = .ok (.iconst 1, 1) := by decide +kernel
theorem dX12_works_174 : decode cX12_works 174 = .ok (.isub, 1) := by decide +kernel
theorem dX12_works_175 : decode cX12_works 175 = .ok (.iaload, 1) := by decide +kernel
theorem dX12_works_176 : decode cX12_works 176 = .ok (.aload_n 0, 1) := by decide +kernel
theorem dX12_works_177 : decode cX12_works 177 = .ok (.getfield 99, 3) := by decide +kernel
theorem dX12_works_180 : decode cX12_works 180 = .ok (.iload_n 2, 1) := by decide +kernel
theorem dX12_works_181 : decode cX12_works 181 = .ok (.iaload, 1) := by decide +kernel
theorem dX12_works_182 : decode cX12_works 182 = .ok (.invokestatic 304, 3) := by decide +kernel
theorem dX12_works_185 : decode cX12_works 185 = .ok (.iastore, 1) := by decide +kernel
theorem dX12_works_186 : decode cX12_works 186 = .ok (.iinc 3 1, 3) := by decide +kernel
theorem dX12_works_189 : decode cX12_works 189 = .ok (.goto (-181), 3) := by decide +kernel
theorem dX12_works_192 : decode cX12_works 192 = .ok (.aload_n 0, 1) := by decide +kernel
theorem dX12_works_193 : decode cX12_works 193 = .ok (.getfield 99, 3) := by decide +kernel
theorem dX12_works_196 : decode cX12_works 196 = .ok (.iconst 0, 1) := by decide +kernel
theorem dX12_works_197 : decode cX12_works 197 = .ok (.iaload, 1) := by decide +kernel
theorem dX12_works_198 : decode cX12_works 198 = .ok (.ireturn, 1) := by decide +kernel
theorem dX12_lostBy_0 : decode cX12_lostBy 0 = .ok (.aload_n 0, 1) := by decide +kernel
theorem dX12_lostBy_1 : decode cX12_lostBy 1 = .ok (.getfield 301, 3) := by decide +kernel
theorem dX12_lostBy_4 : decode cX12_lostBy 4 = .ok (.iconst 1, 1) := by decide +kernel
theorem dX12_lostBy_5 : decode cX12_lostBy 5 = .ok (.isub, 1) := by decide +kernel
theorem dX12_lostBy_6 : decode cX12_lostBy 6 = .ok (.istore_n 3, 1) := by decide +kernel
theorem dX12_lostBy_7 : decode cX12_lostBy 7 = .ok (.iload_n 3, 1) := by decide +kernel
theorem dX12_lostBy_8 : decode cX12_lostBy 8 = .ok (.ifCond .lt 34, 3) := by decide +kernel
theorem dX12_lostBy_11 : decode cX12_lostBy 11 = .ok (.aload_n 0, 1) := by decide +kernel
theorem dX12_lostBy_12 : decode cX12_lostBy 12 = .ok (.getfield 84, 3) := by decide +kernel
theorem dX12_lostBy_15 : decode cX12_lostBy 15 = .ok (.iload_n 3, 1) := by decide +kernel
theorem dX12_lostBy_16 : decode cX12_lostBy 16 = .ok (.iaload, 1) := by decide +kernel
theorem dX12_lostBy_17 : decode cX12_lostBy 17 = .ok (.iload_n 2, 1) := by decide +kernel
theorem dX12_lostBy_18 : decode cX12_lostBy 18 = .ok (.if_icmp .gt 18, 3) := by decide +kernel
theorem dX12_lostBy_21 : decode cX12_lostBy 21 = .ok (.aload_n 0, 1) := by decide +kernel
theorem dX12_lostBy_22 : decode cX12_lostBy 22 = .ok (.getfield 87, 3) := by decide +kernel
theorem dX12_lostBy_25 : decode cX12_lostBy 25 = .ok (.iload_n 3, 1) := by decide +kernel
theorem dX12_lostBy_26 : decode cX12_lostBy 26 = .ok (.iaload, 1) := by decide +kernel
theorem dX12_lostBy_27 : decode cX12_lostBy 27 = .ok (.aload_n 0, 1) := by decide +kernel
theorem dX12_lostBy_28 : decode cX12_lostBy 28 = .ok (.getfield 61, 3) := by decide +kernel
theorem dX12_lostBy_31 : decode cX12_lostBy 31 = .ok (.iload_n 1, 1) := by decide +kernel
theorem dX12_lostBy_32 : decode cX12_lostBy 32 = .ok (.iaload, 1) := by decide +kernel
theorem dX12_lostBy_33 : decode cX12_lostBy 33 = .ok (.if_icmp .le 9, 3) := by decide +kernel
theorem dX12_lostBy_36 : decode cX12_lostBy 36 = .ok (.iinc 3 (-1), 3) := by decide +kernel
theorem dX12_lostBy_39 : decode cX12_lostBy 39 = .ok (.goto (-32), 3) := by decide +kernel
theorem dX12_lostBy_42 : decode cX12_lostBy 42 = .ok (.iload_n 3, 1) := by decide +kernel
theorem dX12_lostBy_43 : decode cX12_lostBy 43 = .ok (.ifCond .ge 5, 3) := by decide +kernel
theorem dX12_lostBy_46 : decode cX12_lostBy 46 = .ok (.iconst 0, 1) := by decide +kernel
theorem dX12_lostBy_47 : decode cX12_lostBy 47 = .ok (.ireturn, 1) := by decide +kernel
theorem dX12_lostBy_48 : decode cX12_lostBy 48 = .ok (.iconst 0, 1) := by decide +kernel
theorem dX12_lostBy_49 : decode cX12_lostBy 49 = .ok (.istore 4, 2) := by decide +kernel
theorem dX12_lostBy_51 : decode cX12_lostBy 51 = .ok (.iconst 0, 1) := by decide +kernel
theorem dX12_lostBy_52 : decode cX12_lostBy 52 = .ok (.istore 5, 2) := by decide +kernel
theorem dX12_lostBy_54 : decode cX12_lostBy 54 = .ok (.iload 5, 2) := by decide +kernel
theorem dX12_lostBy_56 : decode cX12_lostBy 56 = .ok (.aload_n 0, 1) := by decide +kernel
theorem dX12_lostBy_57 : decode cX12_lostBy 57 = .ok (.getfield 186, 3) := by decide +kernel
theorem dX12_lostBy_60 : decode cX12_lostBy 60 = .ok (.if_icmp .ge 92, 3) := by decide +kernel
theorem dX12_lostBy_63 : decode cX12_lostBy 63 = .ok (.iload 4, 2) := by decide +kernel
theorem dX12_lostBy_65 : decode cX12_lostBy 65 = .ok (.iload 5, 2) := by decide +kernel
theorem dX12_lostBy_67 : decode cX12_lostBy 67 = .ok (.iload_n 1, 1) := by decide +kernel
theorem dX12_lostBy_68 : decode cX12_lostBy 68 = .ok (.if_icmp .eq 74, 3) := by decide +kernel
theorem dX12_lostBy_71 : decode cX12_lostBy 71 = .ok (.aload_n 0, 1) := by decide +kernel
theorem dX12_lostBy_72 : decode cX12_lostBy 72 = .ok (.getfield 52, 3) := by decide +kernel
theorem dX12_lostBy_75 : decode cX12_lostBy 75 = .ok (.iload 5, 2) := by decide +kernel
theorem dX12_lostBy_77 : decode cX12_lostBy 77 = .ok (.iaload, 1) := by decide +kernel
theorem dX12_lostBy_78 : decode cX12_lostBy 78 = .ok (.aload_n 0, 1) := by decide +kernel
theorem dX12_lostBy_79 : decode cX12_lostBy 79 = .ok (.getfield 52, 3) := by decide +kernel
theorem dX12_lostBy_82 : decode cX12_lostBy 82 = .ok (.iload_n 1, 1) := by decide +kernel
theorem dX12_lostBy_83 : decode cX12_lostBy 83 = .ok (.iaload, 1) := by decide +kernel
theorem dX12_lostBy_84 : decode cX12_lostBy 84 = .ok (.if_icmp .ne 58, 3) := by decide +kernel
theorem dX12_lostBy_87 : decode cX12_lostBy 87 = .ok (.aload_n 0, 1) := by decide +kernel
theorem dX12_lostBy_88 : decode cX12_lostBy 88 = .ok (.iload 5, 2) := by decide +kernel
theorem dX12_lostBy_90 : decode cX12_lostBy 90 = .ok (.invokevirtual 209, 3) := by decide +kernel
theorem dX12_lostBy_93 : decode cX12_lostBy 93 = .ok (.ifCond .eq 49, 3) := by decide +kernel
theorem dX12_lostBy_96 : decode cX12_lostBy 96 = .ok (.aload_n 0, 1) := by decide +kernel
theorem dX12_lostBy_97 : decode cX12_lostBy 97 = .ok (.getfield 61, 3) := by decide +kernel
theorem dX12_lostBy_100 : decode cX12_lostBy 100 = .ok (.iload 5, 2) := by decide +kernel
theorem dX12_lostBy_102 : decode cX12_lostBy 102 = .ok (.iaload, 1) := by decide +kernel
theorem dX12_lostBy_103 : decode cX12_lostBy 103 = .ok (.aload_n 0, 1) := by decide +kernel
theorem dX12_lostBy_104 : decode cX12_lostBy 104 = .ok (.getfield 61, 3) := by decide +kernel
theorem dX12_lostBy_107 : decode cX12_lostBy 107 = .ok (.iload_n 1, 1) := by decide +kernel
theorem dX12_lostBy_108 : decode cX12_lostBy 108 = .ok (.iaload, 1) := by decide +kernel
theorem dX12_lostBy_109 : decode cX12_lostBy 109 = .ok (.if_icmp .lt 29, 3) := by decide +kernel
theorem dX12_lostBy_112 : decode cX12_lostBy 112 = .ok (.aload_n 0, 1) := by decide +kernel
theorem dX12_lostBy_113 : decode cX12_lostBy 113 = .ok (.getfield 61, 3) := by decide +kernel
theorem dX12_lostBy_116 : decode cX12_lostBy 116 = .ok (.iload 5, 2) := by decide +kernel
theorem dX12_lostBy_118 : decode cX12_lostBy 118 = .ok (.iaload, 1) := by decide +kernel
theorem dX12_lostBy_119 : decode cX12_lostBy 119 = .ok (.aload_n 0, 1) := by decide +kernel
theorem dX12_lostBy_120 : decode cX12_lostBy 120 = .ok (.getfield 61, 3) := by decide +kernel
theorem dX12_lostBy_123 : decode cX12_lostBy 123 = .ok (.iload_n 1, 1) := by decide +kernel
theorem dX12_lostBy_124 : decode cX12_lostBy 124 = .ok (.iaload, 1) := by decide +kernel
theorem dX12_lostBy_125 : decode cX12_lostBy 125 = .ok (.if_icmp .ne 17, 3) := by decide +kernel
theorem dX12_lostBy_128 : decode cX12_lostBy 128 = .ok (.aload_n 0, 1) := by decide +kernel
theorem dX12_lostBy_129 : decode cX12_lostBy 129 = .ok (.iload 5, 2) := by decide +kernel
theorem dX12_lostBy_131 : decode cX12_lostBy 131 = .ok (.iload_n 1, 1) := by decide +kernel
theorem dX12_lostBy_132 : decode cX12_lostBy 132 = .ok (.invokevirtual 194, 3) := by decide +kernel
theorem dX12_lostBy_135 : decode cX12_lostBy 135 = .ok (.ifCond .eq 7, 3) := by decide +kernel
theorem dX12_lostBy_138 : decode cX12_lostBy 138 = .ok (.iconst 1, 1) := by decide +kernel
theorem dX12_lostBy_139 : decode cX12_lostBy 139 = .ok (.goto 4, 3) := by decide +kernel
theorem dX12_lostBy_142 : decode cX12_lostBy 142 = .ok (.iconst 0, 1) := by decide +kernel
theorem dX12_lostBy_143 : decode cX12_lostBy 143 = .ok (.iadd, 1) := by decide +kernel
theorem dX12_lostBy_144 : decode cX12_lostBy 144 = .ok (.istore 4, 2) := by decide +kernel
theorem dX12_lostBy_146 : decode cX12_lostBy 146 = .ok (.iinc 5 1, 3) := by decide +kernel
theorem dX12_lostBy_149 : decode cX12_lostBy 149 = .ok (.goto (-95), 3) := by decide +kernel
theorem dX12_lostBy_152 : decode cX12_lostBy 152 = .ok (.aload_n 0, 1) := by decide +kernel
theorem dX12_lostBy_153 : decode cX12_lostBy 153 = .ok (.getfield 102, 3) := by decide +kernel
theorem dX12_lostBy_156 : decode cX12_lostBy 156 = .ok (.iconst 0, 1) := by decide +kernel
theorem dX12_lostBy_157 : decode cX12_lostBy 157 = .ok (.aload_n 0, 1) := by decide +kernel
theorem dX12_lostBy_158 : decode cX12_lostBy 158 = .ok (.getfield 61, 3) := by decide +kernel
theorem dX12_lostBy_161 : decode cX12_lostBy 161 = .ok (.iload_n 1, 1) := by decide +kernel
theorem dX12_lostBy_162 : decode cX12_lostBy 162 = .ok (.iaload, 1) := by decide +kernel
theorem dX12_lostBy_163 : decode cX12_lostBy 163 = .ok (.aload_n 0, 1) := by decide +kernel
theorem dX12_lostBy_164 : decode cX12_lostBy 164 = .ok (.getfield 58, 3) := by decide +kernel
theorem dX12_lostBy_167 : decode cX12_lostBy 167 = .ok (.iload_n 1, 1) := by decide +kernel
theorem dX12_lostBy_168 : decode cX12_lostBy 168 = .ok (.iaload, 1) := by decide +kernel
theorem dX12_lostBy_169 : decode cX12_lostBy 169 = .ok (.isub, 1) := by decide +kernel
theorem dX12_lostBy_170 : decode cX12_lostBy 170 = .ok (.iastore, 1) := by decide +kernel
theorem dX12_lostBy_171 : decode cX12_lostBy 171 = .ok (.aload_n 0, 1) := by decide +kernel
theorem dX12_lostBy_172 : decode cX12_lostBy 172 = .ok (.getfield 102, 3) := by decide +kernel
theorem dX12_lostBy_175 : decode cX12_lostBy 175 = .ok (.iconst 1, 1) := by decide +kernel
theorem dX12_lostBy_176 : decode cX12_lostBy 176 = .ok (.aload_n 0, 1) := by decide +kernel
theorem dX12_lostBy_177 : decode cX12_lostBy 177 = .ok (.getfield 67, 3) := by decide +kernel
theorem dX12_lostBy_180 : decode cX12_lostBy 180 = .ok (.iload_n 1, 1) := by decide +kernel
theorem dX12_lostBy_181 : decode cX12_lostBy 181 = .ok (.iaload, 1) := by decide +kernel
theorem dX12_lostBy_182 : decode cX12_lostBy 182 = .ok (.aload_n 0, 1) := by decide +kernel
theorem dX12_lostBy_183 : decode cX12_lostBy 183 = .ok (.getfield 64, 3) := by decide +kernel
theorem dX12_lostBy_186 : decode cX12_lostBy 186 = .ok (.iload_n 1, 1) := by decide +kernel
theorem dX12_lostBy_187 : decode cX12_lostBy 187 = .ok (.iaload, 1) := by decide +kernel
theorem dX12_lostBy_188 : decode cX12_lostBy 188 = .ok (.isub, 1) := by decide +kernel
theorem dX12_lostBy_189 : decode cX12_lostBy 189 = .ok (.iastore, 1) := by decide +kernel
theorem dX12_lostBy_190 : decode cX12_lostBy 190 = .ok (.aload_n 0, 1) := by decide +kernel
theorem dX12_lostBy_191 : decode cX12_lostBy 191 = .ok (.getfield 102, 3) := by decide +kernel
theorem dX12_lostBy_194 : decode cX12_lostBy 194 = .ok (.iconst 2, 1) := by decide +kernel
theorem dX12_lostBy_195 : decode cX12_lostBy 195 = .ok (.aload_n 0, 1) := by decide +kernel
theorem dX12_lostBy_196 : decode cX12_lostBy 196 = .ok (.getfield 73, 3) := by decide +kernel
