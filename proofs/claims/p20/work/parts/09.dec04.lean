theorem dX12_either_36 : decode cX12_either 36 = .ok (.getfield 248, 3) := by decide +kernel
theorem dX12_either_39 : decode cX12_either 39 = .ok (.iconst 1, 1) := by decide +kernel
theorem dX12_either_40 : decode cX12_either 40 = .ok (.iadd, 1) := by decide +kernel
theorem dX12_either_41 : decode cX12_either 41 = .ok (.putfield 248, 3) := by decide +kernel
theorem dX12_either_44 : decode cX12_either 44 = .ok (.aload_n 0, 1) := by decide +kernel
theorem dX12_either_45 : decode cX12_either 45 = .ok (.invokevirtual 295, 3) := by decide +kernel
theorem dX12_either_48 : decode cX12_either 48 = .ok (.aload_n 0, 1) := by decide +kernel
theorem dX12_either_49 : decode cX12_either 49 = .ok (.iload_n 1, 1) := by decide +kernel
theorem dX12_either_50 : decode cX12_either 50 = .ok (.iconst 0, 1) := by decide +kernel
theorem dX12_either_51 : decode cX12_either 51 = .ok (.invokevirtual 276, 3) := by decide +kernel
theorem dX12_either_54 : decode cX12_either 54 = .ok (.aload_n 0, 1) := by decide +kernel
theorem dX12_either_55 : decode cX12_either 55 = .ok (.getfield 251, 3) := by decide +kernel
theorem dX12_either_58 : decode cX12_either 58 = .ok (.ifCond .ge 12, 3) := by decide +kernel
theorem dX12_either_61 : decode cX12_either 61 = .ok (.aload_n 0, 1) := by decide +kernel
theorem dX12_either_62 : decode cX12_either 62 = .ok (.invokevirtual 269, 3) := by decide +kernel
theorem dX12_either_65 : decode cX12_either 65 = .ok (.bipush 63, 2) := by decide +kernel
theorem dX12_either_67 : decode cX12_either 67 = .ok (.if_icmp .eq 4, 3) := by decide +kernel
theorem dX12_either_70 : decode cX12_either 70 = .ok (.return_, 1) := by decide +kernel
theorem dX12_either_71 : decode cX12_either 71 = .ok (.aload_n 0, 1) := by decide +kernel
theorem dX12_either_72 : decode cX12_either 72 = .ok (.invokevirtual 279, 3) := by decide +kernel
theorem dX12_either_75 : decode cX12_either 75 = .ok (.ifCond .ne 4, 3) := by decide +kernel
theorem dX12_either_78 : decode cX12_either 78 = .ok (.return_, 1) := by decide +kernel
theorem dX12_either_79 : decode cX12_either 79 = .ok (.aload_n 0, 1) := by decide +kernel
theorem dX12_either_80 : decode cX12_either 80 = .ok (.invokevirtual 286, 3) := by decide +kernel
theorem dX12_either_83 : decode cX12_either 83 = .ok (.aload_n 0, 1) := by decide +kernel
theorem dX12_either_84 : decode cX12_either 84 = .ok (.getfield 251, 3) := by decide +kernel
theorem dX12_either_87 : decode cX12_either 87 = .ok (.ifCond .lt 4, 3) := by decide +kernel
theorem dX12_either_90 : decode cX12_either 90 = .ok (.return_, 1) := by decide +kernel
theorem dX12_either_91 : decode cX12_either 91 = .ok (.aload_n 0, 1) := by decide +kernel
theorem dX12_either_92 : decode cX12_either 92 = .ok (.invokevirtual 269, 3) := by decide +kernel
theorem dX12_either_95 : decode cX12_either 95 = .ok (.bipush 58, 2) := by decide +kernel
theorem dX12_either_97 : decode cX12_either 97 = .ok (.if_icmp .eq 8, 3) := by decide +kernel
theorem dX12_either_100 : decode cX12_either 100 = .ok (.aload_n 0, 1) := by decide +kernel
theorem dX12_either_101 : decode cX12_either 101 = .ok (.invokevirtual 263, 3) := by decide +kernel
theorem dX12_either_104 : decode cX12_either 104 = .ok (.return_, 1) := by decide +kernel
theorem dX12_either_105 : decode cX12_either 105 = .ok (.aload_n 0, 1) := by decide +kernel
theorem dX12_either_106 : decode cX12_either 106 = .ok (.dup, 1) := by decide +kernel
theorem dX12_either_107 : decode cX12_either 107 = .ok (.getfield 248, 3) := by decide +kernel
theorem dX12_either_110 : decode cX12_either 110 = .ok (.iconst 1, 1) := by decide +kernel
theorem dX12_either_111 : decode cX12_either 111 = .ok (.iadd, 1) := by decide +kernel
theorem dX12_either_112 : decode cX12_either 112 = .ok (.putfield 248, 3) := by decide +kernel
theorem dX12_either_115 : decode cX12_either 115 = .ok (.aload_n 0, 1) := by decide +kernel
theorem dX12_either_116 : decode cX12_either 116 = .ok (.invokevirtual 286, 3) := by decide +kernel
theorem dX12_either_119 : decode cX12_either 119 = .ok (.aload_n 0, 1) := by decide +kernel
theorem dX12_either_120 : decode cX12_either 120 = .ok (.iconst 4, 1) := by decide +kernel
theorem dX12_either_121 : decode cX12_either 121 = .ok (.iconst 0, 1) := by decide +kernel
theorem dX12_either_122 : decode cX12_either 122 = .ok (.invokevirtual 276, 3) := by decide +kernel
theorem dX12_either_125 : decode cX12_either 125 = .ok (.aload_n 0, 1) := by decide +kernel
theorem dX12_either_126 : decode cX12_either 126 = .ok (.dup, 1) := by decide +kernel
theorem dX12_either_127 : decode cX12_either 127 = .ok (.getfield 260, 3) := by decide +kernel
theorem dX12_either_130 : decode cX12_either 130 = .ok (.iconst 1, 1) := by decide +kernel
theorem dX12_either_131 : decode cX12_either 131 = .ok (.isub, 1) := by decide +kernel
theorem dX12_either_132 : decode cX12_either 132 = .ok (.putfield 260, 3) := by decide +kernel
theorem dX12_either_135 : decode cX12_either 135 = .ok (.return_, 1) := by decide +kernel
theorem dX12_law_0 : decode cX12_law 0 = .ok (.iload_n 1, 1) := by decide +kernel
theorem dX12_law_1 : decode cX12_law 1 = .ok (.invokestatic 298, 3) := by decide +kernel
theorem dX12_law_4 : decode cX12_law 4 = .ok (.ifCond .ne 5, 3) := by decide +kernel
theorem dX12_law_7 : decode cX12_law 7 = .ok (.iconst (-1), 1) := by decide +kernel
theorem dX12_law_8 : decode cX12_law 8 = .ok (.ireturn, 1) := by decide +kernel
theorem dX12_law_9 : decode cX12_law 9 = .ok (.aload_n 0, 1) := by decide +kernel
theorem dX12_law_10 : decode cX12_law 10 = .ok (.getfield 301, 3) := by decide +kernel
theorem dX12_law_13 : decode cX12_law 13 = .ok (.bipush 10, 2) := by decide +kernel
theorem dX12_law_15 : decode cX12_law 15 = .ok (.if_icmp .ne 6, 3) := by decide +kernel
theorem dX12_law_18 : decode cX12_law 18 = .ok (.bipush (-3), 2) := by decide +kernel
theorem dX12_law_20 : decode cX12_law 20 = .ok (.ireturn, 1) := by decide +kernel
theorem dX12_law_21 : decode cX12_law 21 = .ok (.aload_n 0, 1) := by decide +kernel
theorem dX12_law_22 : decode cX12_law 22 = .ok (.aload_n 0, 1) := by decide +kernel
theorem dX12_law_23 : decode cX12_law 23 = .ok (.getfield 301, 3) := by decide +kernel
theorem dX12_law_26 : decode cX12_law 26 = .ok (.putfield 254, 3) := by decide +kernel
theorem dX12_law_29 : decode cX12_law 29 = .ok (.aload_n 0, 1) := by decide +kernel
theorem dX12_law_30 : decode cX12_law 30 = .ok (.iconst 0, 1) := by decide +kernel
theorem dX12_law_31 : decode cX12_law 31 = .ok (.putfield 257, 3) := by decide +kernel
theorem dX12_law_34 : decode cX12_law 34 = .ok (.aload_n 0, 1) := by decide +kernel
theorem dX12_law_35 : decode cX12_law 35 = .ok (.iconst 0, 1) := by decide +kernel
theorem dX12_law_36 : decode cX12_law 36 = .ok (.putfield 248, 3) := by decide +kernel
theorem dX12_law_39 : decode cX12_law 39 = .ok (.aload_n 0, 1) := by decide +kernel
theorem dX12_law_40 : decode cX12_law 40 = .ok (.iconst (-1), 1) := by decide +kernel
theorem dX12_law_41 : decode cX12_law 41 = .ok (.putfield 251, 3) := by decide +kernel
theorem dX12_law_44 : decode cX12_law 44 = .ok (.aload_n 0, 1) := by decide +kernel
theorem dX12_law_45 : decode cX12_law 45 = .ok (.iconst 0, 1) := by decide +kernel
theorem dX12_law_46 : decode cX12_law 46 = .ok (.putfield 260, 3) := by decide +kernel
theorem dX12_law_49 : decode cX12_law 49 = .ok (.aload_n 0, 1) := by decide +kernel
theorem dX12_law_50 : decode cX12_law 50 = .ok (.invokevirtual 286, 3) := by decide +kernel
theorem dX12_law_53 : decode cX12_law 53 = .ok (.aload_n 0, 1) := by decide +kernel
theorem dX12_law_54 : decode cX12_law 54 = .ok (.getfield 248, 3) := by decide +kernel
theorem dX12_law_57 : decode cX12_law 57 = .ok (.aload_n 0, 1) := by decide +kernel
theorem dX12_law_58 : decode cX12_law 58 = .ok (.getfield 245, 3) := by decide +kernel
theorem dX12_law_61 : decode cX12_law 61 = .ok (.if_icmp .ge 7, 3) := by decide +kernel
theorem dX12_law_64 : decode cX12_law 64 = .ok (.aload_n 0, 1) := by decide +kernel
theorem dX12_law_65 : decode cX12_law 65 = .ok (.invokevirtual 263, 3) := by decide +kernel
theorem dX12_law_68 : decode cX12_law 68 = .ok (.aload_n 0, 1) := by decide +kernel
theorem dX12_law_69 : decode cX12_law 69 = .ok (.iconst 0, 1) := by decide +kernel
theorem dX12_law_70 : decode cX12_law 70 = .ok (.putfield 245, 3) := by decide +kernel
theorem dX12_law_73 : decode cX12_law 73 = .ok (.aload_n 0, 1) := by decide +kernel
theorem dX12_law_74 : decode cX12_law 74 = .ok (.getfield 251, 3) := by decide +kernel
theorem dX12_law_77 : decode cX12_law 77 = .ok (.ifCond .lt 11, 3) := by decide +kernel
theorem dX12_law_80 : decode cX12_law 80 = .ok (.bipush (-100), 2) := by decide +kernel
theorem dX12_law_82 : decode cX12_law 82 = .ok (.aload_n 0, 1) := by decide +kernel
theorem dX12_law_83 : decode cX12_law 83 = .ok (.getfield 251, 3) := by decide +kernel
theorem dX12_law_86 : decode cX12_law 86 = .ok (.isub, 1) := by decide +kernel
theorem dX12_law_87 : decode cX12_law 87 = .ok (.ireturn, 1) := by decide +kernel
theorem dX12_law_88 : decode cX12_law 88 = .ok (.aload_n 0, 1) := by decide +kernel
theorem dX12_law_89 : decode cX12_law 89 = .ok (.getfield 84, 3) := by decide +kernel
theorem dX12_law_92 : decode cX12_law 92 = .ok (.aload_n 0, 1) := by decide +kernel
theorem dX12_law_93 : decode cX12_law 93 = .ok (.getfield 301, 3) := by decide +kernel
theorem dX12_law_96 : decode cX12_law 96 = .ok (.aload_n 0, 1) := by decide +kernel
theorem dX12_law_97 : decode cX12_law 97 = .ok (.getfield 183, 3) := by decide +kernel
theorem dX12_law_100 : decode cX12_law 100 = .ok (.iastore, 1) := by decide +kernel
theorem dX12_law_101 : decode cX12_law 101 = .ok (.aload_n 0, 1) := by decide +kernel
theorem dX12_law_102 : decode cX12_law 102 = .ok (.getfield 87, 3) := by decide +kernel
theorem dX12_law_105 : decode cX12_law 105 = .ok (.aload_n 0, 1) := by decide +kernel
theorem dX12_law_106 : decode cX12_law 106 = .ok (.getfield 301, 3) := by decide +kernel
theorem dX12_law_109 : decode cX12_law 109 = .ok (.iload_n 1, 1) := by decide +kernel
theorem dX12_law_110 : decode cX12_law 110 = .ok (.iastore, 1) := by decide +kernel
theorem dX12_law_111 : decode cX12_law 111 = .ok (.aload_n 0, 1) := by decide +kernel
theorem dX12_law_112 : decode cX12_law 112 = .ok (.getfield 90, 3) := by decide +kernel
theorem dX12_law_115 : decode cX12_law 115 = .ok (.aload_n 0, 1) := by decide +kernel
theorem dX12_law_116 : decode cX12_law 116 = .ok (.getfield 301, 3) := by decide +kernel
theorem dX12_law_119 : decode cX12_law 119 = .ok (.aload_n 0, 1) := by decide +kernel
theorem dX12_law_120 : decode cX12_law 120 = .ok (.getfield 257, 3) := by decide +kernel
theorem dX12_law_123 : decode cX12_law 123 = .ok (.iastore, 1) := by decide +kernel
theorem dX12_law_124 : decode cX12_law 124 = .ok (.aload_n 0, 1) := by decide +kernel
theorem dX12_law_125 : decode cX12_law 125 = .ok (.dup, 1) := by decide +kernel
theorem dX12_law_126 : decode cX12_law 126 = .ok (.getfield 301, 3) := by decide +kernel
theorem dX12_law_129 : decode cX12_law 129 = .ok (.iconst 1, 1) := by decide +kernel
theorem dX12_law_130 : decode cX12_law 130 = .ok (.iadd, 1) := by decide +kernel
theorem dX12_law_131 : decode cX12_law 131 = .ok (.putfield 301, 3) := by decide +kernel
theorem dX12_law_134 : decode cX12_law 134 = .ok (.aload_n 0, 1) := by decide +kernel
theorem dX12_law_135 : decode cX12_law 135 = .ok (.getfield 301, 3) := by decide +kernel
theorem dX12_law_138 : decode cX12_law 138 = .ok (.iconst 1, 1) := by decide +kernel
theorem dX12_law_139 : decode cX12_law 139 = .ok (.isub, 1) := by decide +kernel
theorem dX12_law_140 : decode cX12_law 140 = .ok (.ireturn, 1) := by decide +kernel
theorem dX12_both_0 : decode cX12_both 0 = .ok (.iload_n 0, 1) := by decide +kernel
theorem dX12_both_1 : decode cX12_both 1 = .ok (.tableswitch 151 42 61 #[103, 95, 151, 99, 151, 107, 151, 151, 151, 151, 151, 151, 151, 151, 151, 151, 151, 151, 129, 140], 95) := by decide +kernel
theorem dX12_both_96 : decode cX12_both 96 = .ok (.iload_n 1, 1) := by decide +kernel
theorem dX12_both_97 : decode cX12_both 97 = .ok (.iload_n 2, 1) := by decide +kernel
theorem dX12_both_98 : decode cX12_both 98 = .ok (.iadd, 1) := by decide +kernel
theorem dX12_both_99 : decode cX12_both 99 = .ok (.ireturn, 1) := by decide +kernel
theorem dX12_both_100 : decode cX12_both 100 = .ok (.iload_n 1, 1) := by decide +kernel
theorem dX12_both_101 : decode cX12_both 101 = .ok (.iload_n 2, 1) := by decide +kernel
theorem dX12_both_102 : decode cX12_both 102 = .ok (.isub, 1) := by decide +kernel
theorem dX12_both_103 : decode cX12_both 103 = .ok (.ireturn, 1) := by decide +kernel
theorem dX12_both_104 : decode cX12_both 104 = .ok (.iload_n 1, 1) := by decide +kernel
theorem dX12_both_105 : decode cX12_both 105 = .ok (.iload_n 2, 1) := by decide +kernel
theorem dX12_both_106 : decode cX12_both 106 = .ok (.imul, 1) := by decide +kernel
theorem dX12_both_107 : decode cX12_both 107 = .ok (.ireturn, 1) := by decide +kernel
theorem dX12_both_108 : decode cX12_both 108 = .ok (.iload_n 2, 1) := by decide +kernel
theorem dX12_both_109 : decode cX12_both 109 = .ok (.ifCond .ne 7, 3) := by decide +kernel
theorem dX12_both_112 : decode cX12_both 112 = .ok (.iconst 0, 1) := by decide +kernel
theorem dX12_both_113 : decode cX12_both 113 = .ok (.goto 16, 3) := by decide +kernel
theorem dX12_both_116 : decode cX12_both 116 = .ok (.iload_n 2, 1) := by decide +kernel
theorem dX12_both_117 : decode cX12_both 117 = .ok (.iconst (-1), 1) := by decide +kernel
theorem dX12_both_118 : decode cX12_both 118 = .ok (.if_icmp .ne 8, 3) := by decide +kernel
theorem dX12_both_121 : decode cX12_both 121 = .ok (.iload_n 1, 1) := by decide +kernel
theorem dX12_both_122 : decode cX12_both 122 = .ok (.ineg, 1) := by decide +kernel
theorem dX12_both_123 : decode cX12_both 123 = .ok (.goto 6, 3) := by decide +kernel
theorem dX12_both_126 : decode cX12_both 126 = .ok (.iload_n 1, 1) := by decide +kernel
theorem dX12_both_127 : decode cX12_both 127 = .ok (.iload_n 2, 1) := by decide +kernel
theorem dX12_both_128 : decode cX12_both 128 = .ok (.idiv, 1) := by decide +kernel
theorem dX12_both_129 : decode cX12_both 129 = .ok (.ireturn, 1) := by decide +kernel
theorem dX12_both_130 : decode cX12_both 130 = .ok (.iload_n 1, 1) := by decide +kernel
theorem dX12_both_131 : decode cX12_both 131 = .ok (.iload_n 2, 1) := by decide +kernel
theorem dX12_both_132 : decode cX12_both 132 = .ok (.if_icmp .ge 7, 3) := by decide +kernel
theorem dX12_both_135 : decode cX12_both 135 = .ok (.iconst 1, 1) := by decide +kernel
theorem dX12_both_136 : decode cX12_both 136 = .ok (.goto 4, 3) := by decide +kernel
theorem dX12_both_139 : decode cX12_both 139 = .ok (.iconst 0, 1) := by decide +kernel
theorem dX12_both_140 : decode cX12_both 140 = .ok (.ireturn, 1) := by decide +kernel
theorem dX12_both_141 : decode cX12_both 141 = .ok (.iload_n 1, 1) := by decide +kernel
theorem dX12_both_142 : decode cX12_both 142 = .ok (.iload_n 2, 1) := by decide +kernel
theorem dX12_both_143 : decode cX12_both 143 = .ok (.if_icmp .ne 7, 3) := by decide +kernel
theorem dX12_both_146 : decode cX12_both 146 = .ok (.iconst 1, 1) := by decide +kernel
theorem dX12_both_147 : decode cX12_both 147 = .ok (.goto 4, 3) := by decide +kernel
theorem dX12_both_150 : decode cX12_both 150 = .ok (.iconst 0, 1) := by decide +kernel
theorem dX12_both_151 : decode cX12_both 151 = .ok (.ireturn, 1) := by decide +kernel
theorem dX12_both_152 : decode cX12_both 152 = .ok (.iload_n 1, 1) := by decide +kernel
theorem dX12_both_153 : decode cX12_both 153 = .ok (.iload_n 2, 1) := by decide +kernel
theorem dX12_both_154 : decode cX12_both 154 = .ok (.if_icmp .le 7, 3) := by decide +kernel
theorem dX12_both_157 : decode cX12_both 157 = .ok (.iconst 1, 1) := by decide +kernel
theorem dX12_both_158 : decode cX12_both 158 = .ok (.goto 4, 3) := by decide +kernel
theorem dX12_both_161 : decode cX12_both 161 = .ok (.iconst 0, 1) := by decide +kernel
theorem dX12_both_162 : decode cX12_both 162 = .ok (.ireturn, 1) := by decide +kernel
theorem dX12_works_0 : decode cX12_works 0 = .ok (.iconst 0, 1) := by decide +kernel
theorem dX12_works_1 : decode cX12_works 1 = .ok (.istore_n 2, 1) := by decide +kernel
theorem dX12_works_2 : decode cX12_works 2 = .ok (.sipush 130, 3) := by decide +kernel
theorem dX12_works_5 : decode cX12_works 5 = .ok (.iload_n 1, 1) := by decide +kernel
theorem dX12_works_6 : decode cX12_works 6 = .ok (.imul, 1) := by decide +kernel
theorem dX12_works_7 : decode cX12_works 7 = .ok (.istore_n 3, 1) := by decide +kernel
theorem dX12_works_8 : decode cX12_works 8 = .ok (.iload_n 3, 1) := by decide +kernel
theorem dX12_works_9 : decode cX12_works 9 = .ok (.sipush 130, 3) := by decide +kernel
theorem dX12_works_12 : decode cX12_works 12 = .ok (.iload_n 1, 1) := by decide +kernel
theorem dX12_works_13 : decode cX12_works 13 = .ok (.imul, 1) := by decide +kernel
theorem dX12_works_14 : decode cX12_works 14 = .ok (.aload_n 0, 1) := by decide +kernel
theorem dX12_works_15 : decode cX12_works 15 = .ok (.getfield 90, 3) := by decide +kernel
theorem dX12_works_18 : decode cX12_works 18 = .ok (.iload_n 1, 1) := by decide +kernel
theorem dX12_works_19 : decode cX12_works 19 = .ok (.iaload, 1) := by decide +kernel
theorem dX12_works_20 : decode cX12_works 20 = .ok (.iadd, 1) := by decide +kernel
theorem dX12_works_21 : decode cX12_works 21 = .ok (.if_icmp .ge 171, 3) := by decide +kernel
theorem dX12_works_24 : decode cX12_works 24 = .ok (.aload_n 0, 1) := by decide +kernel
theorem dX12_works_25 : decode cX12_works 25 = .ok (.getfield 93, 3) := by decide +kernel
theorem dX12_works_28 : decode cX12_works 28 = .ok (.iload_n 3, 1) := by decide +kernel
theorem dX12_works_29 : decode cX12_works 29 = .ok (.iaload, 1) := by decide +kernel
theorem dX12_works_30 : decode cX12_works 30 = .ok (.istore 4, 2) := by decide +kernel
theorem dX12_works_32 : decode cX12_works 32 = .ok (.iload 4, 2) := by decide +kernel
theorem dX12_works_34 : decode cX12_works 34 = .ok (.iconst 1, 1) := by decide +kernel
theorem dX12_works_35 : decode cX12_works 35 = .ok (.if_icmp .eq 9, 3) := by decide +kernel
theorem dX12_works_38 : decode cX12_works 38 = .ok (.iload 4, 2) := by decide +kernel
theorem dX12_works_40 : decode cX12_works 40 = .ok (.iconst 2, 1) := by decide +kernel
theorem dX12_works_41 : decode cX12_works 41 = .ok (.if_icmp .ne 41, 3) := by decide +kernel
theorem dX12_works_44 : decode cX12_works 44 = .ok (.aload_n 0, 1) := by decide +kernel
theorem dX12_works_45 : decode cX12_works 45 = .ok (.getfield 99, 3) := by decide +kernel
theorem dX12_works_48 : decode cX12_works 48 = .ok (.iload_n 2, 1) := by decide +kernel
theorem dX12_works_49 : decode cX12_works 49 = .ok (.iload 4, 2) := by decide +kernel
theorem dX12_works_51 : decode cX12_works 51 = .ok (.iconst 1, 1) := by decide +kernel
theorem dX12_works_52 : decode cX12_works 52 = .ok (.if_icmp .ne 12, 3) := by decide +kernel
theorem dX12_works_55 : decode cX12_works 55 = .ok (.aload_n 0, 1) := by decide +kernel
theorem dX12_works_56 : decode cX12_works 56 = .ok (.getfield 96, 3) := by decide +kernel
theorem dX12_works_59 : decode cX12_works 59 = .ok (.iload_n 3, 1) := by decide +kernel
theorem dX12_works_60 : decode cX12_works 60 = .ok (.iaload, 1) := by decide +kernel
theorem dX12_works_61 : decode cX12_works 61 = .ok (.goto 14, 3) := by decide +kernel
theorem dX12_works_64 : decode cX12_works 64 = .ok (.aload_n 0, 1) := by decide +kernel
theorem dX12_works_65 : decode cX12_works 65 = .ok (.getfield 102, 3) := by decide +kernel
theorem dX12_works_68 : decode cX12_works 68 = .ok (.aload_n 0, 1) := by decide +kernel
theorem dX12_works_69 : decode cX12_works 69 = .ok (.getfield 96, 3) := by decide +kernel
theorem dX12_works_72 : decode cX12_works 72 = .ok (.iload_n 3, 1) := by decide +kernel
theorem dX12_works_73 : decode cX12_works 73 = .ok (.iaload, 1) := by decide +kernel
theorem dX12_works_74 : decode cX12_works 74 = .ok (.iaload, 1) := by decide +kernel
theorem dX12_works_75 : decode cX12_works 75 = .ok (.iastore, 1) := by decide +kernel
theorem dX12_works_76 : decode cX12_works 76 = .ok (.iinc 2 1, 3) := by decide +kernel
theorem dX12_works_79 : decode cX12_works 79 = .ok (.goto 107, 3) := by decide +kernel
theorem dX12_works_82 : decode cX12_works 82 = .ok (.iload 4, 2) := by decide +kernel
theorem dX12_works_84 : decode cX12_works 84 = .ok (.iconst 3, 1) := by decide +kernel
theorem dX12_works_85 : decode cX12_works 85 = .ok (.if_icmp .ne 23, 3) := by decide +kernel
theorem dX12_works_88 : decode cX12_works 88 = .ok (.aload_n 0, 1) := by decide +kernel
theorem dX12_works_89 : decode cX12_works 89 = .ok (.getfield 99, 3) := by decide +kernel
theorem dX12_works_92 : decode cX12_works 92 = .ok (.iload_n 2, 1) := by decide +kernel
theorem dX12_works_93 : decode cX12_works 93 = .ok (.iconst 1, 1) := by decide +kernel
theorem dX12_works_94 : decode cX12_works 94 = .ok (.isub, 1) := by decide +kernel
theorem dX12_works_95 : decode cX12_works 95 = .ok (.aload_n 0, 1) := by decide +kernel
theorem dX12_works_96 : decode cX12_works 96 = .ok (.getfield 99, 3) := by decide +kernel
theorem dX12_works_99 : decode cX12_works 99 = .ok (.iload_n 2, 1) := by decide +kernel
theorem dX12_works_100 : decode cX12_works 100 = .ok (.iconst 1, 1) := by decide +kernel
theorem dX12_works_101 : decode cX12_works 101 = .ok (.isub, 1) := by decide +kernel
theorem dX12_works_102 : decode cX12_works 102 = .ok (.iaload, 1) := by decide +kernel
theorem dX12_works_103 : decode cX12_works 103 = .ok (.ineg, 1) := by decide +kernel
theorem dX12_works_104 : decode cX12_works 104 = .ok (.iastore, 1) := by decide +kernel
theorem dX12_works_105 : decode cX12_works 105 = .ok (.goto 81, 3) := by decide +kernel
theorem dX12_works_108 : decode cX12_works 108 = .ok (.iload 4, 2) := by decide +kernel
theorem dX12_works_110 : decode cX12_works 110 = .ok (.iconst 4, 1) := by decide +kernel
theorem dX12_works_111 : decode cX12_works 111 = .ok (.if_icmp .ne 45, 3) := by decide +kernel
theorem dX12_works_114 : decode cX12_works 114 = .ok (.iinc 2 (-2), 3) := by decide +kernel
theorem dX12_works_117 : decode cX12_works 117 = .ok (.aload_n 0, 1) := by decide +kernel
theorem dX12_works_118 : decode cX12_works 118 = .ok (.getfield 99, 3) := by decide +kernel
theorem dX12_works_121 : decode cX12_works 121 = .ok (.iload_n 2, 1) := by decide +kernel
theorem dX12_works_122 : decode cX12_works 122 = .ok (.iconst 1, 1) := by decide +kernel
theorem dX12_works_123 : decode cX12_works 123 = .ok (.isub, 1) := by decide +kernel
theorem dX12_works_124 : decode cX12_works 124 = .ok (.aload_n 0, 1) := by decide +kernel
theorem dX12_works_125 : decode cX12_works 125 = .ok (.getfield 99, 3) := by decide +kernel
theorem dX12_works_128 : decode cX12_works 128 = .ok (.iload_n 2, 1) := by decide +kernel
theorem dX12_works_129 : decode cX12_works 129 = .ok (.iconst 1, 1) := by decide +kernel
theorem dX12_works_130 : decode cX12_works 130 = .ok (.isub, 1) := by decide +kernel
theorem dX12_works_131 : decode cX12_works 131 = .ok (.iaload, 1) := by decide +kernel
theorem dX12_works_132 : decode cX12_works 132 = .ok (.ifCond .eq 12, 3) := by decide +kernel
theorem dX12_works_135 : decode cX12_works 135 = .ok (.aload_n 0, 1) := by decide +kernel
theorem dX12_works_136 : decode cX12_works 136 = .ok (.getfield 99, 3) := by decide +kernel
theorem dX12_works_139 : decode cX12_works 139 = .ok (.iload_n 2, 1) := by decide +kernel
theorem dX12_works_140 : decode cX12_works 140 = .ok (.iaload, 1) := by decide +kernel
theorem dX12_works_141 : decode cX12_works 141 = .ok (.goto 11, 3) := by decide +kernel
theorem dX12_works_144 : decode cX12_works 144 = .ok (.aload_n 0, 1) := by decide +kernel
theorem dX12_works_145 : decode cX12_works 145 = .ok (.getfield 99, 3) := by decide +kernel
theorem dX12_works_148 : decode cX12_works 148 = .ok (.iload_n 2, 1) := by decide +kernel
theorem dX12_works_149 : decode cX12_works 149 = .ok (.iconst 1, 1) := by decide +kernel
theorem dX12_works_150 : decode cX12_works 150 = .ok (.iadd, 1) := by decide +kernel
theorem dX12_works_151 : decode cX12_works 151 = .ok (.iaload, 1) := by decide +kernel
theorem dX12_works_152 : decode cX12_works 152 = .ok (.iastore, 1) := by decide +kernel
theorem dX12_works_153 : decode cX12_works 153 = .ok (.goto 33, 3) := by decide +kernel
theorem dX12_works_156 : decode cX12_works 156 = .ok (.iinc 2 (-1), 3) := by decide +kernel
theorem dX12_works_159 : decode cX12_works 159 = .ok (.aload_n 0, 1) := by decide +kernel
theorem dX12_works_160 : decode cX12_works 160 = .ok (.getfield 99, 3) := by decide +kernel
theorem dX12_works_163 : decode cX12_works 163 = .ok (.iload_n 2, 1) := by decide +kernel
theorem dX12_works_164 : decode cX12_works 164 = .ok (.iconst 1, 1) := by decide +kernel
theorem dX12_works_165 : decode cX12_works 165 = .ok (.isub, 1) := by decide +kernel
theorem dX12_works_166 : decode cX12_works 166 = .ok (.iload 4, 2) := by decide +kernel
theorem dX12_works_168 : decode cX12_works 168 = .ok (.aload_n 0, 1) := by decide +kernel
theorem dX12_works_169 : decode cX12_works 169 = .ok (.getfield 99, 3) := by decide +kernel
theorem dX12_works_172 : decode cX12_works 172 = .ok (.iload_n 2, 1) := by decide +kernel
theorem dX12_works_173 : decode cX12_works 173 = .ok (.iconst 1, 1) := by decide +kernel
theorem dX12_works_174 : decode cX12_works 174 = .ok (.isub, 1) := by decide +kernel
theorem dX12_works_175 : decode cX12_works 175 = .ok (.iaload, 1) := by decide +kernel
theorem dX12_works_176 : decode cX12_works 176 = .ok (.aload_n 0, 1) := by decide +kernel
theorem dX12_works_177 : decode cX12_works 177 = .ok (.getfield 99, 3) := by decide +kernel
theorem dX12_works_180 : decode cX12_works 180 = .ok (.iload_n 2, 1) := by decide +kernel
theorem dX12_works_181 : decode cX12_works 181 = .ok (.iaload, 1) := by decide +kernel
theorem dX12_works_182 : decode cX12_works 182 = .ok (.invokestatic 304, 3) := by decide +kernel
theorem dX12_works_185 : decode cX12_works 185 = .ok (.iastore, 1) := by decide +kernel
theorem dX12_works_186 : decode cX12_works 186 = .ok (.iinc 3 1, 3) := by decide +kernel
theorem dX12_works_189 : decode cX12_works 189 = .ok (.goto (-181), 3) := by decide +kernel
theorem dX12_works_192 : decode cX12_works 192 = .ok (.aload_n 0, 1) := by decide +kernel
theorem dX12_works_193 : decode cX12_works 193 = .ok (.getfield 99, 3) := by decide +kernel
theorem dX12_works_196 : decode cX12_works 196 = .ok (.iconst 0, 1) := by decide +kernel
theorem dX12_works_197 : decode cX12_works 197 = .ok (.iaload, 1) := by decide +kernel
theorem dX12_works_198 : decode cX12_works 198 = .ok (.ireturn, 1) := by decide +kernel
theorem dX12_order_0 : decode cX12_order 0 = .ok (.aload_n 0, 1) := by decide +kernel
theorem dX12_order_1 : decode cX12_order 1 = .ok (.iload_n 1, 1) := by decide +kernel
theorem dX12_order_2 : decode cX12_order 2 = .ok (.invokevirtual 173, 3) := by decide +kernel
theorem dX12_order_5 : decode cX12_order 5 = .ok (.ifCond .eq 10, 3) := by decide +kernel
theorem dX12_order_8 : decode cX12_order 8 = .ok (.iload_n 2, 1) := by decide +kernel
theorem dX12_order_9 : decode cX12_order 9 = .ok (.invokestatic 298, 3) := by decide +kernel
theorem dX12_order_12 : decode cX12_order 12 = .ok (.ifCond .ne 5, 3) := by decide +kernel
theorem dX12_order_15 : decode cX12_order 15 = .ok (.iconst (-1), 1) := by decide +kernel
theorem dX12_order_16 : decode cX12_order 16 = .ok (.ireturn, 1) := by decide +kernel
theorem dX12_order_17 : decode cX12_order 17 = .ok (.aload_n 0, 1) := by decide +kernel
theorem dX12_order_18 : decode cX12_order 18 = .ok (.getfield 324, 3) := by decide +kernel
theorem dX12_order_21 : decode cX12_order 21 = .ok (.bipush 20, 2) := by decide +kernel
theorem dX12_order_23 : decode cX12_order 23 = .ok (.if_icmp .ne 6, 3) := by decide +kernel
theorem dX12_order_26 : decode cX12_order 26 = .ok (.bipush (-3), 2) := by decide +kernel
theorem dX12_order_28 : decode cX12_order 28 = .ok (.ireturn, 1) := by decide +kernel
theorem dX12_order_29 : decode cX12_order 29 = .ok (.aload_n 0, 1) := by decide +kernel
theorem dX12_order_30 : decode cX12_order 30 = .ok (.getfield 105, 3) := by decide +kernel
theorem dX12_order_33 : decode cX12_order 33 = .ok (.aload_n 0, 1) := by decide +kernel
theorem dX12_order_34 : decode cX12_order 34 = .ok (.getfield 324, 3) := by decide +kernel
theorem dX12_order_37 : decode cX12_order 37 = .ok (.iload_n 1, 1) := by decide +kernel
theorem dX12_order_38 : decode cX12_order 38 = .ok (.iastore, 1) := by decide +kernel
theorem dX12_order_39 : decode cX12_order 39 = .ok (.aload_n 0, 1) := by decide +kernel
theorem dX12_order_40 : decode cX12_order 40 = .ok (.getfield 108, 3) := by decide +kernel
theorem dX12_order_43 : decode cX12_order 43 = .ok (.aload_n 0, 1) := by decide +kernel
theorem dX12_order_44 : decode cX12_order 44 = .ok (.getfield 324, 3) := by decide +kernel
theorem dX12_order_47 : decode cX12_order 47 = .ok (.iload_n 2, 1) := by decide +kernel
theorem dX12_order_48 : decode cX12_order 48 = .ok (.iastore, 1) := by decide +kernel
theorem dX12_order_49 : decode cX12_order 49 = .ok (.aload_n 0, 1) := by decide +kernel
theorem dX12_order_50 : decode cX12_order 50 = .ok (.dup, 1) := by decide +kernel
theorem dX12_order_51 : decode cX12_order 51 = .ok (.getfield 324, 3) := by decide +kernel
theorem dX12_order_54 : decode cX12_order 54 = .ok (.iconst 1, 1) := by decide +kernel
theorem dX12_order_55 : decode cX12_order 55 = .ok (.iadd, 1) := by decide +kernel
theorem dX12_order_56 : decode cX12_order 56 = .ok (.putfield 324, 3) := by decide +kernel
theorem dX12_order_59 : decode cX12_order 59 = .ok (.aload_n 0, 1) := by decide +kernel
theorem dX12_order_60 : decode cX12_order 60 = .ok (.getfield 324, 3) := by decide +kernel
theorem dX12_order_63 : decode cX12_order 63 = .ok (.iconst 1, 1) := by decide +kernel
theorem dX12_order_64 : decode cX12_order 64 = .ok (.isub, 1) := by decide +kernel
theorem dX12_order_65 : decode cX12_order 65 = .ok (.ireturn, 1) := by decide +kernel
theorem dX12_takesNumber_0 : decode cX12_takesNumber 0 = .ok (.aload_n 0, 1) := by decide +kernel
theorem dX12_takesNumber_1 : decode cX12_takesNumber 1 = .ok (.invokevirtual 269, 3) := by decide +kernel
theorem dX12_takesNumber_4 : decode cX12_takesNumber 4 = .ok (.bipush 32, 2) := by decide +kernel
theorem dX12_takesNumber_6 : decode cX12_takesNumber 6 = .ok (.if_icmp .eq 9, 3) := by decide +kernel
theorem dX12_takesNumber_9 : decode cX12_takesNumber 9 = .ok (.aload_n 0, 1) := by decide +kernel
theorem dX12_takesNumber_10 : decode cX12_takesNumber 10 = .ok (.invokevirtual 263, 3) := by decide +kernel
theorem dX12_takesNumber_13 : decode cX12_takesNumber 13 = .ok (.iconst 0, 1) := by decide +kernel
theorem dX12_takesNumber_14 : decode cX12_takesNumber 14 = .ok (.ireturn, 1) := by decide +kernel
theorem dX12_takesNumber_15 : decode cX12_takesNumber 15 = .ok (.aload_n 0, 1) := by decide +kernel
theorem dX12_takesNumber_16 : decode cX12_takesNumber 16 = .ok (.dup, 1) := by decide +kernel
theorem dX12_takesNumber_17 : decode cX12_takesNumber 17 = .ok (.getfield 248, 3) := by decide +kernel
theorem dX12_takesNumber_20 : decode cX12_takesNumber 20 = .ok (.iconst 1, 1) := by decide +kernel
theorem dX12_takesNumber_21 : decode cX12_takesNumber 21 = .ok (.iadd, 1) := by decide +kernel
theorem dX12_takesNumber_22 : decode cX12_takesNumber 22 = .ok (.putfield 248, 3) := by decide +kernel
theorem dX12_takesNumber_25 : decode cX12_takesNumber 25 = .ok (.aload_n 0, 1) := by decide +kernel
theorem dX12_takesNumber_26 : decode cX12_takesNumber 26 = .ok (.invokevirtual 289, 3) := by decide +kernel
theorem dX12_takesNumber_29 : decode cX12_takesNumber 29 = .ok (.ireturn, 1) := by decide +kernel
theorem dX12_numbersOf_0 : decode cX12_numbersOf 0 = .ok (.iload_n 0, 1) := by decide +kernel
theorem dX12_numbersOf_1 : decode cX12_numbersOf 1 = .ok (.tableswitch 89 100 116 #[83, 89, 89, 85, 83, 89, 89, 89, 83, 85, 89, 85, 89, 89, 89, 89, 87], 83) := by decide +kernel
theorem dX12_numbersOf_84 : decode cX12_numbersOf 84 = .ok (.iconst 3, 1) := by decide +kernel
theorem dX12_numbersOf_85 : decode cX12_numbersOf 85 = .ok (.ireturn, 1) := by decide +kernel
theorem dX12_numbersOf_86 : decode cX12_numbersOf 86 = .ok (.iconst 1, 1) := by decide +kernel
theorem dX12_numbersOf_87 : decode cX12_numbersOf 87 = .ok (.ireturn, 1) := by decide +kernel
theorem dX12_numbersOf_88 : decode cX12_numbersOf 88 = .ok (.iconst 2, 1) := by decide +kernel
theorem dX12_numbersOf_89 : decode cX12_numbersOf 89 = .ok (.ireturn, 1) := by decide +kernel
theorem dX12_numbersOf_90 : decode cX12_numbersOf 90 = .ok (.iconst 0, 1) := by decide +kernel
theorem dX12_numbersOf_91 : decode cX12_numbersOf 91 = .ok (.ireturn, 1) := by decide +kernel
theorem dX12_readLine_0 : decode cX12_readLine 0 = .ok (.aload_n 0, 1) := by decide +kernel
theorem dX12_readLine_1 : decode cX12_readLine 1 = .ok (.invokevirtual 269, 3) := by decide +kernel
theorem dX12_readLine_4 : decode cX12_readLine 4 = .ok (.istore_n 2, 1) := by decide +kernel
theorem dX12_readLine_5 : decode cX12_readLine 5 = .ok (.iload_n 2, 1) := by decide +kernel
theorem dX12_readLine_6 : decode cX12_readLine 6 = .ok (.invokestatic 337, 3) := by decide +kernel
theorem dX12_readLine_9 : decode cX12_readLine 9 = .ok (.istore_n 3, 1) := by decide +kernel
theorem dX12_readLine_10 : decode cX12_readLine 10 = .ok (.iload_n 3, 1) := by decide +kernel
theorem dX12_readLine_11 : decode cX12_readLine 11 = .ok (.ifCond .ne 8, 3) := by decide +kernel
theorem dX12_readLine_14 : decode cX12_readLine 14 = .ok (.aload_n 0, 1) := by decide +kernel
theorem dX12_readLine_15 : decode cX12_readLine 15 = .ok (.invokevirtual 263, 3) := by decide +kernel
theorem dX12_readLine_18 : decode cX12_readLine 18 = .ok (.return_, 1) := by decide +kernel
theorem dX12_readLine_19 : decode cX12_readLine 19 = .ok (.aload_n 0, 1) := by decide +kernel
theorem dX12_readLine_20 : decode cX12_readLine 20 = .ok (.dup, 1) := by decide +kernel
theorem dX12_readLine_21 : decode cX12_readLine 21 = .ok (.getfield 248, 3) := by decide +kernel
theorem dX12_readLine_24 : decode cX12_readLine 24 = .ok (.iconst 1, 1) := by decide +kernel
theorem dX12_readLine_25 : decode cX12_readLine 25 = .ok (.iadd, 1) := by decide +kernel
theorem dX12_readLine_26 : decode cX12_readLine 26 = .ok (.putfield 248, 3) := by decide +kernel
theorem dX12_readLine_29 : decode cX12_readLine 29 = .ok (.bipush 32, 2) := by decide +kernel
theorem dX12_readLine_31 : decode cX12_readLine 31 = .ok (.iload_n 1, 1) := by decide +kernel
theorem dX12_readLine_32 : decode cX12_readLine 32 = .ok (.imul, 1) := by decide +kernel
theorem dX12_readLine_33 : decode cX12_readLine 33 = .ok (.aload_n 0, 1) := by decide +kernel
theorem dX12_readLine_34 : decode cX12_readLine 34 = .ok (.getfield 120, 3) := by decide +kernel
theorem dX12_readLine_37 : decode cX12_readLine 37 = .ok (.iload_n 1, 1) := by decide +kernel
theorem dX12_readLine_38 : decode cX12_readLine 38 = .ok (.iaload, 1) := by decide +kernel
theorem dX12_readLine_39 : decode cX12_readLine 39 = .ok (.iadd, 1) := by decide +kernel
theorem dX12_readLine_40 : decode cX12_readLine 40 = .ok (.istore 4, 2) := by decide +kernel
theorem dX12_readLine_42 : decode cX12_readLine 42 = .ok (.aload_n 0, 1) := by decide +kernel
theorem dX12_readLine_43 : decode cX12_readLine 43 = .ok (.getfield 123, 3) := by decide +kernel
theorem dX12_readLine_46 : decode cX12_readLine 46 = .ok (.iload 4, 2) := by decide +kernel
theorem dX12_readLine_48 : decode cX12_readLine 48 = .ok (.iload_n 2, 1) := by decide +kernel
theorem dX12_readLine_49 : decode cX12_readLine 49 = .ok (.iastore, 1) := by decide +kernel
theorem dX12_readLine_50 : decode cX12_readLine 50 = .ok (.iconst 0, 1) := by decide +kernel
theorem dX12_readLine_51 : decode cX12_readLine 51 = .ok (.istore 5, 2) := by decide +kernel
theorem dX12_readLine_53 : decode cX12_readLine 53 = .ok (.iload 5, 2) := by decide +kernel
theorem dX12_readLine_55 : decode cX12_readLine 55 = .ok (.iload_n 3, 1) := by decide +kernel
theorem dX12_readLine_56 : decode cX12_readLine 56 = .ok (.if_icmp .ge 67, 3) := by decide +kernel
theorem dX12_readLine_59 : decode cX12_readLine 59 = .ok (.aload_n 0, 1) := by decide +kernel
theorem dX12_readLine_60 : decode cX12_readLine 60 = .ok (.invokevirtual 340, 3) := by decide +kernel
theorem dX12_readLine_63 : decode cX12_readLine 63 = .ok (.ifCond .ne 4, 3) := by decide +kernel
theorem dX12_readLine_66 : decode cX12_readLine 66 = .ok (.return_, 1) := by decide +kernel
theorem dX12_readLine_67 : decode cX12_readLine 67 = .ok (.iload 5, 2) := by decide +kernel
theorem dX12_readLine_69 : decode cX12_readLine 69 = .ok (.ifCond .ne 17, 3) := by decide +kernel
theorem dX12_readLine_72 : decode cX12_readLine 72 = .ok (.aload_n 0, 1) := by decide +kernel
theorem dX12_readLine_73 : decode cX12_readLine 73 = .ok (.getfield 126, 3) := by decide +kernel
theorem dX12_readLine_76 : decode cX12_readLine 76 = .ok (.iload 4, 2) := by decide +kernel
theorem dX12_readLine_78 : decode cX12_readLine 78 = .ok (.aload_n 0, 1) := by decide +kernel
theorem dX12_readLine_79 : decode cX12_readLine 79 = .ok (.getfield 266, 3) := by decide +kernel
theorem dX12_readLine_82 : decode cX12_readLine 82 = .ok (.iastore, 1) := by decide +kernel
theorem dX12_readLine_83 : decode cX12_readLine 83 = .ok (.goto 34, 3) := by decide +kernel
theorem dX12_readLine_86 : decode cX12_readLine 86 = .ok (.iload 5, 2) := by decide +kernel
theorem dX12_readLine_88 : decode cX12_readLine 88 = .ok (.iconst 1, 1) := by decide +kernel
theorem dX12_readLine_89 : decode cX12_readLine 89 = .ok (.if_icmp .ne 17, 3) := by decide +kernel
theorem dX12_readLine_92 : decode cX12_readLine 92 = .ok (.aload_n 0, 1) := by decide +kernel
theorem dX12_readLine_93 : decode cX12_readLine 93 = .ok (.getfield 129, 3) := by decide +kernel
theorem dX12_readLine_96 : decode cX12_readLine 96 = .ok (.iload 4, 2) := by decide +kernel
theorem dX12_readLine_98 : decode cX12_readLine 98 = .ok (.aload_n 0, 1) := by decide +kernel
theorem dX12_readLine_99 : decode cX12_readLine 99 = .ok (.getfield 266, 3) := by decide +kernel
theorem dX12_readLine_102 : decode cX12_readLine 102 = .ok (.iastore, 1) := by decide +kernel
theorem dX12_readLine_103 : decode cX12_readLine 103 = .ok (.goto 14, 3) := by decide +kernel
theorem dX12_readLine_106 : decode cX12_readLine 106 = .ok (.aload_n 0, 1) := by decide +kernel
theorem dX12_readLine_107 : decode cX12_readLine 107 = .ok (.getfield 132, 3) := by decide +kernel
theorem dX12_readLine_110 : decode cX12_readLine 110 = .ok (.iload 4, 2) := by decide +kernel
theorem dX12_readLine_112 : decode cX12_readLine 112 = .ok (.aload_n 0, 1) := by decide +kernel
theorem dX12_readLine_113 : decode cX12_readLine 113 = .ok (.getfield 266, 3) := by decide +kernel
theorem dX12_readLine_116 : decode cX12_readLine 116 = .ok (.iastore, 1) := by decide +kernel
theorem dX12_readLine_117 : decode cX12_readLine 117 = .ok (.iinc 5 1, 3) := by decide +kernel
theorem dX12_readLine_120 : decode cX12_readLine 120 = .ok (.goto (-67), 3) := by decide +kernel
theorem dX12_readLine_123 : decode cX12_readLine 123 = .ok (.aload_n 0, 1) := by decide +kernel
theorem dX12_readLine_124 : decode cX12_readLine 124 = .ok (.invokevirtual 269, 3) := by decide +kernel
theorem dX12_readLine_127 : decode cX12_readLine 127 = .ok (.bipush 59, 2) := by decide +kernel
theorem dX12_readLine_129 : decode cX12_readLine 129 = .ok (.if_icmp .eq 8, 3) := by decide +kernel
theorem dX12_readLine_132 : decode cX12_readLine 132 = .ok (.aload_n 0, 1) := by decide +kernel
theorem dX12_readLine_133 : decode cX12_readLine 133 = .ok (.invokevirtual 263, 3) := by decide +kernel
theorem dX12_readLine_136 : decode cX12_readLine 136 = .ok (.return_, 1) := by decide +kernel
theorem dX12_readLine_137 : decode cX12_readLine 137 = .ok (.aload_n 0, 1) := by decide +kernel
theorem dX12_readLine_138 : decode cX12_readLine 138 = .ok (.dup, 1) := by decide +kernel
theorem dX12_readLine_139 : decode cX12_readLine 139 = .ok (.getfield 248, 3) := by decide +kernel
theorem dX12_readLine_142 : decode cX12_readLine 142 = .ok (.iconst 1, 1) := by decide +kernel
theorem dX12_readLine_143 : decode cX12_readLine 143 = .ok (.iadd, 1) := by decide +kernel
theorem dX12_readLine_144 : decode cX12_readLine 144 = .ok (.putfield 248, 3) := by decide +kernel
theorem dX12_readLine_147 : decode cX12_readLine 147 = .ok (.aload_n 0, 1) := by decide +kernel
theorem dX12_readLine_148 : decode cX12_readLine 148 = .ok (.getfield 120, 3) := by decide +kernel
theorem dX12_readLine_151 : decode cX12_readLine 151 = .ok (.iload_n 1, 1) := by decide +kernel
theorem dX12_readLine_152 : decode cX12_readLine 152 = .ok (.dup2, 1) := by decide +kernel
theorem dX12_readLine_153 : decode cX12_readLine 153 = .ok (.iaload, 1) := by decide +kernel
theorem dX12_readLine_154 : decode cX12_readLine 154 = .ok (.iconst 1, 1) := by decide +kernel
theorem dX12_readLine_155 : decode cX12_readLine 155 = .ok (.iadd, 1) := by decide +kernel
theorem dX12_readLine_156 : decode cX12_readLine 156 = .ok (.iastore, 1) := by decide +kernel
theorem dX12_readLine_157 : decode cX12_readLine 157 = .ok (.return_, 1) := by decide +kernel
theorem dX12_contract_0 : decode cX12_contract 0 = .ok (.aload_n 0, 1) := by decide +kernel
theorem dX12_contract_1 : decode cX12_contract 1 = .ok (.iload_n 1, 1) := by decide +kernel
theorem dX12_contract_2 : decode cX12_contract 2 = .ok (.invokevirtual 169, 3) := by decide +kernel
theorem dX12_contract_5 : decode cX12_contract 5 = .ok (.ifCond .eq 20, 3) := by decide +kernel
theorem dX12_contract_8 : decode cX12_contract 8 = .ok (.iload_n 2, 1) := by decide +kernel
theorem dX12_contract_9 : decode cX12_contract 9 = .ok (.invokestatic 298, 3) := by decide +kernel
theorem dX12_contract_12 : decode cX12_contract 12 = .ok (.ifCond .eq 13, 3) := by decide +kernel
theorem dX12_contract_15 : decode cX12_contract 15 = .ok (.iload_n 3, 1) := by decide +kernel
theorem dX12_contract_16 : decode cX12_contract 16 = .ok (.iconst 0, 1) := by decide +kernel
theorem dX12_contract_17 : decode cX12_contract 17 = .ok (.ldc 164, 2) := by decide +kernel
theorem dX12_contract_19 : decode cX12_contract 19 = .ok (.invokestatic 151, 3) := by decide +kernel
theorem dX12_contract_22 : decode cX12_contract 22 = .ok (.ifCond .ne 5, 3) := by decide +kernel
theorem dX12_contract_25 : decode cX12_contract 25 = .ok (.iconst (-1), 1) := by decide +kernel
theorem dX12_contract_26 : decode cX12_contract 26 = .ok (.ireturn, 1) := by decide +kernel
theorem dX12_contract_27 : decode cX12_contract 27 = .ok (.aload_n 0, 1) := by decide +kernel
theorem dX12_contract_28 : decode cX12_contract 28 = .ok (.iload_n 1, 1) := by decide +kernel
theorem dX12_contract_29 : decode cX12_contract 29 = .ok (.invokevirtual 176, 3) := by decide +kernel
theorem dX12_contract_32 : decode cX12_contract 32 = .ok (.ifCond .eq 6, 3) := by decide +kernel
theorem dX12_contract_35 : decode cX12_contract 35 = .ok (.bipush (-2), 2) := by decide +kernel
theorem dX12_contract_37 : decode cX12_contract 37 = .ok (.ireturn, 1) := by decide +kernel
theorem dX12_contract_38 : decode cX12_contract 38 = .ok (.aload_n 0, 1) := by decide +kernel
theorem dX12_contract_39 : decode cX12_contract 39 = .ok (.iconst 0, 1) := by decide +kernel
theorem dX12_contract_40 : decode cX12_contract 40 = .ok (.putfield 248, 3) := by decide +kernel
theorem dX12_contract_43 : decode cX12_contract 43 = .ok (.aload_n 0, 1) := by decide +kernel
theorem dX12_contract_44 : decode cX12_contract 44 = .ok (.iconst (-1), 1) := by decide +kernel
theorem dX12_contract_45 : decode cX12_contract 45 = .ok (.putfield 251, 3) := by decide +kernel
theorem dX12_contract_48 : decode cX12_contract 48 = .ok (.aload_n 0, 1) := by decide +kernel
theorem dX12_contract_49 : decode cX12_contract 49 = .ok (.getfield 120, 3) := by decide +kernel
theorem dX12_contract_52 : decode cX12_contract 52 = .ok (.bipush 10, 2) := by decide +kernel
theorem dX12_contract_54 : decode cX12_contract 54 = .ok (.iconst 0, 1) := by decide +kernel
theorem dX12_contract_55 : decode cX12_contract 55 = .ok (.iastore, 1) := by decide +kernel
theorem dX12_contract_56 : decode cX12_contract 56 = .ok (.aload_n 0, 1) := by decide +kernel
theorem dX12_contract_57 : decode cX12_contract 57 = .ok (.bipush 10, 2) := by decide +kernel
theorem dX12_contract_59 : decode cX12_contract 59 = .ok (.invokevirtual 343, 3) := by decide +kernel
theorem dX12_contract_62 : decode cX12_contract 62 = .ok (.aload_n 0, 1) := by decide +kernel
theorem dX12_contract_63 : decode cX12_contract 63 = .ok (.getfield 251, 3) := by decide +kernel
theorem dX12_contract_66 : decode cX12_contract 66 = .ok (.ifCond .ge 23, 3) := by decide +kernel
theorem dX12_contract_69 : decode cX12_contract 69 = .ok (.aload_n 0, 1) := by decide +kernel
theorem dX12_contract_70 : decode cX12_contract 70 = .ok (.getfield 248, 3) := by decide +kernel
theorem dX12_contract_73 : decode cX12_contract 73 = .ok (.aload_n 0, 1) := by decide +kernel
theorem dX12_contract_74 : decode cX12_contract 74 = .ok (.getfield 245, 3) := by decide +kernel
theorem dX12_contract_77 : decode cX12_contract 77 = .ok (.if_icmp .ge 12, 3) := by decide +kernel
theorem dX12_contract_80 : decode cX12_contract 80 = .ok (.aload_n 0, 1) := by decide +kernel
theorem dX12_contract_81 : decode cX12_contract 81 = .ok (.bipush 10, 2) := by decide +kernel
theorem dX12_contract_83 : decode cX12_contract 83 = .ok (.invokevirtual 343, 3) := by decide +kernel
