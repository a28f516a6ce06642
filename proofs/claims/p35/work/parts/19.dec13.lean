theorem dX12_stay_27 : decode cX12_stay 27 = .ok (.istore 4, 2) := by decide +kernel
theorem dX12_stay_29 : decode cX12_stay 29 = .ok (.iload 4, 2) := by decide +kernel
theorem dX12_stay_31 : decode cX12_stay 31 = .ok (.ifCond .ge 6, 3) := by decide +kernel
theorem dX12_stay_34 : decode cX12_stay 34 = .ok (.ldc 236, 2) := by decide +kernel
theorem dX12_stay_36 : decode cX12_stay 36 = .ok (.ireturn, 1) := by decide +kernel
theorem dX12_stay_37 : decode cX12_stay 37 = .ok (.iload_n 3, 1) := by decide +kernel
theorem dX12_stay_38 : decode cX12_stay 38 = .ok (.tableswitch 113 0 6 #[42, 50, 58, 83, 91, 98, 106], 42) := by decide +kernel
theorem dX12_stay_80 : decode cX12_stay 80 = .ok (.aload_n 0, 1) := by decide +kernel
theorem dX12_stay_81 : decode cX12_stay 81 = .ok (.getfield 55, 3) := by decide +kernel
theorem dX12_stay_84 : decode cX12_stay 84 = .ok (.iload 4, 2) := by decide +kernel
theorem dX12_stay_86 : decode cX12_stay 86 = .ok (.iaload, 1) := by decide +kernel
theorem dX12_stay_87 : decode cX12_stay 87 = .ok (.ireturn, 1) := by decide +kernel
theorem dX12_stay_88 : decode cX12_stay 88 = .ok (.aload_n 0, 1) := by decide +kernel
theorem dX12_stay_89 : decode cX12_stay 89 = .ok (.getfield 58, 3) := by decide +kernel
theorem dX12_stay_92 : decode cX12_stay 92 = .ok (.iload 4, 2) := by decide +kernel
theorem dX12_stay_94 : decode cX12_stay 94 = .ok (.iaload, 1) := by decide +kernel
theorem dX12_stay_95 : decode cX12_stay 95 = .ok (.ireturn, 1) := by decide +kernel
theorem dX12_stay_96 : decode cX12_stay 96 = .ok (.aload_n 0, 1) := by decide +kernel
theorem dX12_stay_97 : decode cX12_stay 97 = .ok (.getfield 61, 3) := by decide +kernel
theorem dX12_stay_100 : decode cX12_stay 100 = .ok (.iload 4, 2) := by decide +kernel
theorem dX12_stay_102 : decode cX12_stay 102 = .ok (.iaload, 1) := by decide +kernel
theorem dX12_stay_103 : decode cX12_stay 103 = .ok (.ldc 189, 2) := by decide +kernel
theorem dX12_stay_105 : decode cX12_stay 105 = .ok (.if_icmp .ne 8, 3) := by decide +kernel
theorem dX12_stay_108 : decode cX12_stay 108 = .ok (.ldc 236, 2) := by decide +kernel
theorem dX12_stay_110 : decode cX12_stay 110 = .ok (.goto 10, 3) := by decide +kernel
theorem dX12_stay_113 : decode cX12_stay 113 = .ok (.aload_n 0, 1) := by decide +kernel
theorem dX12_stay_114 : decode cX12_stay 114 = .ok (.getfield 61, 3) := by decide +kernel
theorem dX12_stay_117 : decode cX12_stay 117 = .ok (.iload 4, 2) := by decide +kernel
theorem dX12_stay_119 : decode cX12_stay 119 = .ok (.iaload, 1) := by decide +kernel
theorem dX12_stay_120 : decode cX12_stay 120 = .ok (.ireturn, 1) := by decide +kernel
theorem dX12_stay_121 : decode cX12_stay 121 = .ok (.aload_n 0, 1) := by decide +kernel
theorem dX12_stay_122 : decode cX12_stay 122 = .ok (.getfield 64, 3) := by decide +kernel
theorem dX12_stay_125 : decode cX12_stay 125 = .ok (.iload 4, 2) := by decide +kernel
theorem dX12_stay_127 : decode cX12_stay 127 = .ok (.iaload, 1) := by decide +kernel
theorem dX12_stay_128 : decode cX12_stay 128 = .ok (.ireturn, 1) := by decide +kernel
theorem dX12_stay_129 : decode cX12_stay 129 = .ok (.aload_n 0, 1) := by decide +kernel
theorem dX12_stay_130 : decode cX12_stay 130 = .ok (.iload 4, 2) := by decide +kernel
theorem dX12_stay_132 : decode cX12_stay 132 = .ok (.invokevirtual 221, 3) := by decide +kernel
theorem dX12_stay_135 : decode cX12_stay 135 = .ok (.ireturn, 1) := by decide +kernel
theorem dX12_stay_136 : decode cX12_stay 136 = .ok (.aload_n 0, 1) := by decide +kernel
theorem dX12_stay_137 : decode cX12_stay 137 = .ok (.getfield 70, 3) := by decide +kernel
theorem dX12_stay_140 : decode cX12_stay 140 = .ok (.iload 4, 2) := by decide +kernel
theorem dX12_stay_142 : decode cX12_stay 142 = .ok (.iaload, 1) := by decide +kernel
theorem dX12_stay_143 : decode cX12_stay 143 = .ok (.ireturn, 1) := by decide +kernel
theorem dX12_stay_144 : decode cX12_stay 144 = .ok (.aload_n 0, 1) := by decide +kernel
theorem dX12_stay_145 : decode cX12_stay 145 = .ok (.iload 4, 2) := by decide +kernel
theorem dX12_stay_147 : decode cX12_stay 147 = .ok (.invokevirtual 224, 3) := by decide +kernel
theorem dX12_stay_150 : decode cX12_stay 150 = .ok (.ireturn, 1) := by decide +kernel
theorem dX12_stay_151 : decode cX12_stay 151 = .ok (.aload_n 0, 1) := by decide +kernel
theorem dX12_stay_152 : decode cX12_stay 152 = .ok (.getfield 76, 3) := by decide +kernel
theorem dX12_stay_155 : decode cX12_stay 155 = .ok (.iload 4, 2) := by decide +kernel
theorem dX12_stay_157 : decode cX12_stay 157 = .ok (.baload, 1) := by decide +kernel
theorem dX12_stay_158 : decode cX12_stay 158 = .ok (.ifCond .eq 7, 3) := by decide +kernel
theorem dX12_stay_161 : decode cX12_stay 161 = .ok (.iconst 1, 1) := by decide +kernel
theorem dX12_stay_162 : decode cX12_stay 162 = .ok (.goto 4, 3) := by decide +kernel
theorem dX12_stay_165 : decode cX12_stay 165 = .ok (.iconst 0, 1) := by decide +kernel
theorem dX12_stay_166 : decode cX12_stay 166 = .ok (.ireturn, 1) := by decide +kernel
theorem dX12_paper_0 : decode cX12_paper 0 = .ok (.aload_n 0, 1) := by decide +kernel
theorem dX12_paper_1 : decode cX12_paper 1 = .ok (.iload_n 1, 1) := by decide +kernel
theorem dX12_paper_2 : decode cX12_paper 2 = .ok (.invokevirtual 202, 3) := by decide +kernel
theorem dX12_paper_5 : decode cX12_paper 5 = .ok (.ifCond .eq 12, 3) := by decide +kernel
theorem dX12_paper_8 : decode cX12_paper 8 = .ok (.iload_n 3, 1) := by decide +kernel
theorem dX12_paper_9 : decode cX12_paper 9 = .ok (.iconst 0, 1) := by decide +kernel
theorem dX12_paper_10 : decode cX12_paper 10 = .ok (.iconst 1, 1) := by decide +kernel
theorem dX12_paper_11 : decode cX12_paper 11 = .ok (.invokestatic 151, 3) := by decide +kernel
theorem dX12_paper_14 : decode cX12_paper 14 = .ok (.ifCond .ne 5, 3) := by decide +kernel
theorem dX12_paper_17 : decode cX12_paper 17 = .ok (.iconst (-1), 1) := by decide +kernel
theorem dX12_paper_18 : decode cX12_paper 18 = .ok (.ireturn, 1) := by decide +kernel
theorem dX12_paper_19 : decode cX12_paper 19 = .ok (.aload_n 0, 1) := by decide +kernel
theorem dX12_paper_20 : decode cX12_paper 20 = .ok (.iload_n 1, 1) := by decide +kernel
theorem dX12_paper_21 : decode cX12_paper 21 = .ok (.iload_n 2, 1) := by decide +kernel
theorem dX12_paper_22 : decode cX12_paper 22 = .ok (.invokevirtual 218, 3) := by decide +kernel
theorem dX12_paper_25 : decode cX12_paper 25 = .ok (.istore 4, 2) := by decide +kernel
theorem dX12_paper_27 : decode cX12_paper 27 = .ok (.iload 4, 2) := by decide +kernel
theorem dX12_paper_29 : decode cX12_paper 29 = .ok (.ifCond .ge 5, 3) := by decide +kernel
theorem dX12_paper_32 : decode cX12_paper 32 = .ok (.iconst (-1), 1) := by decide +kernel
theorem dX12_paper_33 : decode cX12_paper 33 = .ok (.ireturn, 1) := by decide +kernel
theorem dX12_paper_34 : decode cX12_paper 34 = .ok (.aload_n 0, 1) := by decide +kernel
theorem dX12_paper_35 : decode cX12_paper 35 = .ok (.getfield 61, 3) := by decide +kernel
theorem dX12_paper_38 : decode cX12_paper 38 = .ok (.iload 4, 2) := by decide +kernel
theorem dX12_paper_40 : decode cX12_paper 40 = .ok (.iaload, 1) := by decide +kernel
theorem dX12_paper_41 : decode cX12_paper 41 = .ok (.ldc 189, 2) := by decide +kernel
theorem dX12_paper_43 : decode cX12_paper 43 = .ok (.if_icmp .ne 6, 3) := by decide +kernel
theorem dX12_paper_46 : decode cX12_paper 46 = .ok (.bipush (-2), 2) := by decide +kernel
theorem dX12_paper_48 : decode cX12_paper 48 = .ok (.ireturn, 1) := by decide +kernel
theorem dX12_paper_49 : decode cX12_paper 49 = .ok (.aload_n 0, 1) := by decide +kernel
theorem dX12_paper_50 : decode cX12_paper 50 = .ok (.getfield 76, 3) := by decide +kernel
theorem dX12_paper_53 : decode cX12_paper 53 = .ok (.iload 4, 2) := by decide +kernel
theorem dX12_paper_55 : decode cX12_paper 55 = .ok (.baload, 1) := by decide +kernel
theorem dX12_paper_56 : decode cX12_paper 56 = .ok (.ifCond .eq 7, 3) := by decide +kernel
theorem dX12_paper_59 : decode cX12_paper 59 = .ok (.iconst 1, 1) := by decide +kernel
theorem dX12_paper_60 : decode cX12_paper 60 = .ok (.goto 4, 3) := by decide +kernel
theorem dX12_paper_63 : decode cX12_paper 63 = .ok (.iconst 0, 1) := by decide +kernel
theorem dX12_paper_64 : decode cX12_paper 64 = .ok (.istore 5, 2) := by decide +kernel
theorem dX12_paper_66 : decode cX12_paper 66 = .ok (.aload_n 0, 1) := by decide +kernel
theorem dX12_paper_67 : decode cX12_paper 67 = .ok (.getfield 76, 3) := by decide +kernel
theorem dX12_paper_70 : decode cX12_paper 70 = .ok (.iload 4, 2) := by decide +kernel
theorem dX12_paper_72 : decode cX12_paper 72 = .ok (.iload_n 3, 1) := by decide +kernel
theorem dX12_paper_73 : decode cX12_paper 73 = .ok (.iconst 1, 1) := by decide +kernel
theorem dX12_paper_74 : decode cX12_paper 74 = .ok (.if_icmp .ne 7, 3) := by decide +kernel
theorem dX12_paper_77 : decode cX12_paper 77 = .ok (.iconst 1, 1) := by decide +kernel
theorem dX12_paper_78 : decode cX12_paper 78 = .ok (.goto 4, 3) := by decide +kernel
theorem dX12_paper_81 : decode cX12_paper 81 = .ok (.iconst 0, 1) := by decide +kernel
theorem dX12_paper_82 : decode cX12_paper 82 = .ok (.bastore, 1) := by decide +kernel
theorem dX12_paper_83 : decode cX12_paper 83 = .ok (.iload 5, 2) := by decide +kernel
theorem dX12_paper_85 : decode cX12_paper 85 = .ok (.ireturn, 1) := by decide +kernel
theorem dX12_past_0 : decode cX12_past 0 = .ok (.aload_n 0, 1) := by decide +kernel
theorem dX12_past_1 : decode cX12_past 1 = .ok (.iload_n 1, 1) := by decide +kernel
theorem dX12_past_2 : decode cX12_past 2 = .ok (.invokevirtual 202, 3) := by decide +kernel
theorem dX12_past_5 : decode cX12_past 5 = .ok (.ifCond .eq 31, 3) := by decide +kernel
theorem dX12_past_8 : decode cX12_past 8 = .ok (.iload_n 2, 1) := by decide +kernel
theorem dX12_past_9 : decode cX12_past 9 = .ok (.iconst 0, 1) := by decide +kernel
theorem dX12_past_10 : decode cX12_past 10 = .ok (.bipush 11, 2) := by decide +kernel
theorem dX12_past_12 : decode cX12_past 12 = .ok (.invokestatic 151, 3) := by decide +kernel
theorem dX12_past_15 : decode cX12_past 15 = .ok (.ifCond .eq 21, 3) := by decide +kernel
theorem dX12_past_18 : decode cX12_past 18 = .ok (.iload_n 2, 1) := by decide +kernel
theorem dX12_past_19 : decode cX12_past 19 = .ok (.bipush 10, 2) := by decide +kernel
theorem dX12_past_21 : decode cX12_past 21 = .ok (.if_icmp .ge 11, 3) := by decide +kernel
theorem dX12_past_24 : decode cX12_past 24 = .ok (.aload_n 0, 1) := by decide +kernel
theorem dX12_past_25 : decode cX12_past 25 = .ok (.iload_n 2, 1) := by decide +kernel
theorem dX12_past_26 : decode cX12_past 26 = .ok (.invokevirtual 169, 3) := by decide +kernel
theorem dX12_past_29 : decode cX12_past 29 = .ok (.ifCond .eq 7, 3) := by decide +kernel
theorem dX12_past_32 : decode cX12_past 32 = .ok (.iload_n 3, 1) := by decide +kernel
theorem dX12_past_33 : decode cX12_past 33 = .ok (.ifCond .ge 5, 3) := by decide +kernel
theorem dX12_past_36 : decode cX12_past 36 = .ok (.iconst (-1), 1) := by decide +kernel
theorem dX12_past_37 : decode cX12_past 37 = .ok (.ireturn, 1) := by decide +kernel
theorem dX12_past_38 : decode cX12_past 38 = .ok (.iload_n 3, 1) := by decide +kernel
theorem dX12_past_39 : decode cX12_past 39 = .ok (.sipush 20000, 3) := by decide +kernel
theorem dX12_past_42 : decode cX12_past 42 = .ok (.idiv, 1) := by decide +kernel
theorem dX12_past_43 : decode cX12_past 43 = .ok (.istore 7, 2) := by decide +kernel
theorem dX12_past_45 : decode cX12_past 45 = .ok (.iload_n 3, 1) := by decide +kernel
theorem dX12_past_46 : decode cX12_past 46 = .ok (.sipush 20000, 3) := by decide +kernel
theorem dX12_past_49 : decode cX12_past 49 = .ok (.irem, 1) := by decide +kernel
theorem dX12_past_50 : decode cX12_past 50 = .ok (.istore 8, 2) := by decide +kernel
theorem dX12_past_52 : decode cX12_past 52 = .ok (.iload 7, 2) := by decide +kernel
theorem dX12_past_54 : decode cX12_past 54 = .ok (.iconst 0, 1) := by decide +kernel
theorem dX12_past_55 : decode cX12_past 55 = .ok (.sipush 9999, 3) := by decide +kernel
theorem dX12_past_58 : decode cX12_past 58 = .ok (.invokestatic 151, 3) := by decide +kernel
theorem dX12_past_61 : decode cX12_past 61 = .ok (.ifCond .eq 49, 3) := by decide +kernel
theorem dX12_past_64 : decode cX12_past 64 = .ok (.iload 8, 2) := by decide +kernel
theorem dX12_past_66 : decode cX12_past 66 = .ok (.iload 7, 2) := by decide +kernel
theorem dX12_past_68 : decode cX12_past 68 = .ok (.sipush 9999, 3) := by decide +kernel
theorem dX12_past_71 : decode cX12_past 71 = .ok (.invokestatic 151, 3) := by decide +kernel
theorem dX12_past_74 : decode cX12_past 74 = .ok (.ifCond .eq 36, 3) := by decide +kernel
theorem dX12_past_77 : decode cX12_past 77 = .ok (.iload 4, 2) := by decide +kernel
theorem dX12_past_79 : decode cX12_past 79 = .ok (.iconst 0, 1) := by decide +kernel
theorem dX12_past_80 : decode cX12_past 80 = .ok (.ldc 164, 2) := by decide +kernel
theorem dX12_past_82 : decode cX12_past 82 = .ok (.invokestatic 151, 3) := by decide +kernel
theorem dX12_past_85 : decode cX12_past 85 = .ok (.ifCond .eq 25, 3) := by decide +kernel
theorem dX12_past_88 : decode cX12_past 88 = .ok (.iload 5, 2) := by decide +kernel
theorem dX12_past_90 : decode cX12_past 90 = .ok (.iconst 0, 1) := by decide +kernel
theorem dX12_past_91 : decode cX12_past 91 = .ok (.ldc 164, 2) := by decide +kernel
theorem dX12_past_93 : decode cX12_past 93 = .ok (.invokestatic 151, 3) := by decide +kernel
theorem dX12_past_96 : decode cX12_past 96 = .ok (.ifCond .eq 14, 3) := by decide +kernel
theorem dX12_past_99 : decode cX12_past 99 = .ok (.iload 6, 2) := by decide +kernel
theorem dX12_past_101 : decode cX12_past 101 = .ok (.iconst 0, 1) := by decide +kernel
theorem dX12_past_102 : decode cX12_past 102 = .ok (.ldc 243, 2) := by decide +kernel
theorem dX12_past_104 : decode cX12_past 104 = .ok (.invokestatic 151, 3) := by decide +kernel
theorem dX12_past_107 : decode cX12_past 107 = .ok (.ifCond .ne 5, 3) := by decide +kernel
theorem dX12_past_110 : decode cX12_past 110 = .ok (.iconst (-1), 1) := by decide +kernel
theorem dX12_past_111 : decode cX12_past 111 = .ok (.ireturn, 1) := by decide +kernel
theorem dX12_past_112 : decode cX12_past 112 = .ok (.iload 5, 2) := by decide +kernel
theorem dX12_past_114 : decode cX12_past 114 = .ok (.iload 6, 2) := by decide +kernel
theorem dX12_past_116 : decode cX12_past 116 = .ok (.ldc 244, 2) := by decide +kernel
theorem dX12_past_118 : decode cX12_past 118 = .ok (.idiv, 1) := by decide +kernel
theorem dX12_past_119 : decode cX12_past 119 = .ok (.iadd, 1) := by decide +kernel
theorem dX12_past_120 : decode cX12_past 120 = .ok (.sipush 500, 3) := by decide +kernel
theorem dX12_past_123 : decode cX12_past 123 = .ok (.isub, 1) := by decide +kernel
theorem dX12_past_124 : decode cX12_past 124 = .ok (.istore 9, 2) := by decide +kernel
theorem dX12_past_126 : decode cX12_past 126 = .ok (.iload 9, 2) := by decide +kernel
theorem dX12_past_128 : decode cX12_past 128 = .ok (.ifCond .ge 5, 3) := by decide +kernel
theorem dX12_past_131 : decode cX12_past 131 = .ok (.iconst (-1), 1) := by decide +kernel
theorem dX12_past_132 : decode cX12_past 132 = .ok (.ireturn, 1) := by decide +kernel
theorem dX12_past_133 : decode cX12_past 133 = .ok (.aload_n 0, 1) := by decide +kernel
theorem dX12_past_134 : decode cX12_past 134 = .ok (.getfield 186, 3) := by decide +kernel
theorem dX12_past_137 : decode cX12_past 137 = .ok (.sipush 500, 3) := by decide +kernel
theorem dX12_past_140 : decode cX12_past 140 = .ok (.if_icmp .ne 6, 3) := by decide +kernel
theorem dX12_past_143 : decode cX12_past 143 = .ok (.bipush (-3), 2) := by decide +kernel
theorem dX12_past_145 : decode cX12_past 145 = .ok (.ireturn, 1) := by decide +kernel
theorem dX12_past_146 : decode cX12_past 146 = .ok (.aload_n 0, 1) := by decide +kernel
theorem dX12_past_147 : decode cX12_past 147 = .ok (.getfield 52, 3) := by decide +kernel
theorem dX12_past_150 : decode cX12_past 150 = .ok (.aload_n 0, 1) := by decide +kernel
theorem dX12_past_151 : decode cX12_past 151 = .ok (.getfield 186, 3) := by decide +kernel
theorem dX12_past_154 : decode cX12_past 154 = .ok (.iload_n 1, 1) := by decide +kernel
theorem dX12_past_155 : decode cX12_past 155 = .ok (.iastore, 1) := by decide +kernel
theorem dX12_past_156 : decode cX12_past 156 = .ok (.aload_n 0, 1) := by decide +kernel
theorem dX12_past_157 : decode cX12_past 157 = .ok (.getfield 55, 3) := by decide +kernel
theorem dX12_past_160 : decode cX12_past 160 = .ok (.aload_n 0, 1) := by decide +kernel
theorem dX12_past_161 : decode cX12_past 161 = .ok (.getfield 186, 3) := by decide +kernel
theorem dX12_past_164 : decode cX12_past 164 = .ok (.iload_n 2, 1) := by decide +kernel
theorem dX12_past_165 : decode cX12_past 165 = .ok (.iastore, 1) := by decide +kernel
theorem dX12_past_166 : decode cX12_past 166 = .ok (.aload_n 0, 1) := by decide +kernel
theorem dX12_past_167 : decode cX12_past 167 = .ok (.getfield 58, 3) := by decide +kernel
theorem dX12_past_170 : decode cX12_past 170 = .ok (.aload_n 0, 1) := by decide +kernel
theorem dX12_past_171 : decode cX12_past 171 = .ok (.getfield 186, 3) := by decide +kernel
theorem dX12_past_174 : decode cX12_past 174 = .ok (.iload 7, 2) := by decide +kernel
theorem dX12_past_176 : decode cX12_past 176 = .ok (.sipush 9999, 3) := by decide +kernel
theorem dX12_past_179 : decode cX12_past 179 = .ok (.isub, 1) := by decide +kernel
theorem dX12_past_180 : decode cX12_past 180 = .ok (.iastore, 1) := by decide +kernel
theorem dX12_past_181 : decode cX12_past 181 = .ok (.aload_n 0, 1) := by decide +kernel
theorem dX12_past_182 : decode cX12_past 182 = .ok (.getfield 61, 3) := by decide +kernel
theorem dX12_past_185 : decode cX12_past 185 = .ok (.aload_n 0, 1) := by decide +kernel
theorem dX12_past_186 : decode cX12_past 186 = .ok (.getfield 186, 3) := by decide +kernel
theorem dX12_past_189 : decode cX12_past 189 = .ok (.iload 8, 2) := by decide +kernel
theorem dX12_past_191 : decode cX12_past 191 = .ok (.sipush 9999, 3) := by decide +kernel
theorem dX12_past_194 : decode cX12_past 194 = .ok (.isub, 1) := by decide +kernel
theorem dX12_past_195 : decode cX12_past 195 = .ok (.iastore, 1) := by decide +kernel
theorem dX12_past_196 : decode cX12_past 196 = .ok (.aload_n 0, 1) := by decide +kernel
theorem dX12_past_197 : decode cX12_past 197 = .ok (.getfield 64, 3) := by decide +kernel
theorem dX12_past_200 : decode cX12_past 200 = .ok (.aload_n 0, 1) := by decide +kernel
theorem dX12_past_201 : decode cX12_past 201 = .ok (.getfield 186, 3) := by decide +kernel
theorem dX12_past_204 : decode cX12_past 204 = .ok (.iload 4, 2) := by decide +kernel
theorem dX12_past_206 : decode cX12_past 206 = .ok (.iastore, 1) := by decide +kernel
theorem dX12_past_207 : decode cX12_past 207 = .ok (.aload_n 0, 1) := by decide +kernel
theorem dX12_past_208 : decode cX12_past 208 = .ok (.getfield 67, 3) := by decide +kernel
theorem dX12_past_211 : decode cX12_past 211 = .ok (.aload_n 0, 1) := by decide +kernel
theorem dX12_past_212 : decode cX12_past 212 = .ok (.getfield 186, 3) := by decide +kernel
theorem dX12_past_215 : decode cX12_past 215 = .ok (.iload 6, 2) := by decide +kernel
theorem dX12_past_217 : decode cX12_past 217 = .ok (.ldc 244, 2) := by decide +kernel
theorem dX12_past_219 : decode cX12_past 219 = .ok (.irem, 1) := by decide +kernel
theorem dX12_past_220 : decode cX12_past 220 = .ok (.iastore, 1) := by decide +kernel
theorem dX12_past_221 : decode cX12_past 221 = .ok (.aload_n 0, 1) := by decide +kernel
theorem dX12_past_222 : decode cX12_past 222 = .ok (.getfield 70, 3) := by decide +kernel
theorem dX12_past_225 : decode cX12_past 225 = .ok (.aload_n 0, 1) := by decide +kernel
theorem dX12_past_226 : decode cX12_past 226 = .ok (.getfield 186, 3) := by decide +kernel
theorem dX12_past_229 : decode cX12_past 229 = .ok (.iload 5, 2) := by decide +kernel
theorem dX12_past_231 : decode cX12_past 231 = .ok (.iastore, 1) := by decide +kernel
theorem dX12_past_232 : decode cX12_past 232 = .ok (.aload_n 0, 1) := by decide +kernel
theorem dX12_past_233 : decode cX12_past 233 = .ok (.getfield 73, 3) := by decide +kernel
theorem dX12_past_236 : decode cX12_past 236 = .ok (.aload_n 0, 1) := by decide +kernel
theorem dX12_past_237 : decode cX12_past 237 = .ok (.getfield 186, 3) := by decide +kernel
theorem dX12_past_240 : decode cX12_past 240 = .ok (.iload 9, 2) := by decide +kernel
theorem dX12_past_242 : decode cX12_past 242 = .ok (.iastore, 1) := by decide +kernel
theorem dX12_past_243 : decode cX12_past 243 = .ok (.aload_n 0, 1) := by decide +kernel
theorem dX12_past_244 : decode cX12_past 244 = .ok (.getfield 76, 3) := by decide +kernel
theorem dX12_past_247 : decode cX12_past 247 = .ok (.aload_n 0, 1) := by decide +kernel
theorem dX12_past_248 : decode cX12_past 248 = .ok (.getfield 186, 3) := by decide +kernel
theorem dX12_past_251 : decode cX12_past 251 = .ok (.iconst 0, 1) := by decide +kernel
theorem dX12_past_252 : decode cX12_past 252 = .ok (.bastore, 1) := by decide +kernel
theorem dX12_past_253 : decode cX12_past 253 = .ok (.aload_n 0, 1) := by decide +kernel
theorem dX12_past_254 : decode cX12_past 254 = .ok (.dup, 1) := by decide +kernel
theorem dX12_past_255 : decode cX12_past 255 = .ok (.getfield 186, 3) := by decide +kernel
theorem dX12_past_258 : decode cX12_past 258 = .ok (.iconst 1, 1) := by decide +kernel
theorem dX12_past_259 : decode cX12_past 259 = .ok (.iadd, 1) := by decide +kernel
theorem dX12_past_260 : decode cX12_past 260 = .ok (.putfield 186, 3) := by decide +kernel
theorem dX12_past_263 : decode cX12_past 263 = .ok (.aload_n 0, 1) := by decide +kernel
theorem dX12_past_264 : decode cX12_past 264 = .ok (.iload_n 1, 1) := by decide +kernel
theorem dX12_past_265 : decode cX12_past 265 = .ok (.invokevirtual 215, 3) := by decide +kernel
theorem dX12_past_268 : decode cX12_past 268 = .ok (.ireturn, 1) := by decide +kernel
theorem dX12_feed_0 : decode cX12_feed 0 = .ok (.iload_n 1, 1) := by decide +kernel
theorem dX12_feed_1 : decode cX12_feed 1 = .ok (.iconst 1, 1) := by decide +kernel
theorem dX12_feed_2 : decode cX12_feed 2 = .ok (.iconst 4, 1) := by decide +kernel
theorem dX12_feed_3 : decode cX12_feed 3 = .ok (.invokestatic 151, 3) := by decide +kernel
theorem dX12_feed_6 : decode cX12_feed 6 = .ok (.ifCond .ne 5, 3) := by decide +kernel
theorem dX12_feed_9 : decode cX12_feed 9 = .ok (.iconst (-1), 1) := by decide +kernel
theorem dX12_feed_10 : decode cX12_feed 10 = .ok (.ireturn, 1) := by decide +kernel
theorem dX12_feed_11 : decode cX12_feed 11 = .ok (.aload_n 0, 1) := by decide +kernel
theorem dX12_feed_12 : decode cX12_feed 12 = .ok (.getfield 245, 3) := by decide +kernel
theorem dX12_feed_15 : decode cX12_feed 15 = .ok (.iload_n 1, 1) := by decide +kernel
theorem dX12_feed_16 : decode cX12_feed 16 = .ok (.iadd, 1) := by decide +kernel
theorem dX12_feed_17 : decode cX12_feed 17 = .ok (.bipush 120, 2) := by decide +kernel
theorem dX12_feed_19 : decode cX12_feed 19 = .ok (.if_icmp .le 6, 3) := by decide +kernel
theorem dX12_feed_22 : decode cX12_feed 22 = .ok (.bipush (-3), 2) := by decide +kernel
theorem dX12_feed_24 : decode cX12_feed 24 = .ok (.ireturn, 1) := by decide +kernel
theorem dX12_feed_25 : decode cX12_feed 25 = .ok (.iconst 0, 1) := by decide +kernel
theorem dX12_feed_26 : decode cX12_feed 26 = .ok (.istore_n 3, 1) := by decide +kernel
theorem dX12_feed_27 : decode cX12_feed 27 = .ok (.iload_n 3, 1) := by decide +kernel
theorem dX12_feed_28 : decode cX12_feed 28 = .ok (.iload_n 1, 1) := by decide +kernel
theorem dX12_feed_29 : decode cX12_feed 29 = .ok (.if_icmp .ge 35, 3) := by decide +kernel
theorem dX12_feed_32 : decode cX12_feed 32 = .ok (.aload_n 0, 1) := by decide +kernel
theorem dX12_feed_33 : decode cX12_feed 33 = .ok (.getfield 80, 3) := by decide +kernel
theorem dX12_feed_36 : decode cX12_feed 36 = .ok (.aload_n 0, 1) := by decide +kernel
theorem dX12_feed_37 : decode cX12_feed 37 = .ok (.getfield 245, 3) := by decide +kernel
theorem dX12_feed_40 : decode cX12_feed 40 = .ok (.iload_n 2, 1) := by decide +kernel
theorem dX12_feed_41 : decode cX12_feed 41 = .ok (.bipush 8, 2) := by decide +kernel
theorem dX12_feed_43 : decode cX12_feed 43 = .ok (.iload_n 3, 1) := by decide +kernel
theorem dX12_feed_44 : decode cX12_feed 44 = .ok (.imul, 1) := by decide +kernel
theorem dX12_feed_45 : decode cX12_feed 45 = .ok (.ishr, 1) := by decide +kernel
theorem dX12_feed_46 : decode cX12_feed 46 = .ok (.i2b, 1) := by decide +kernel
theorem dX12_feed_47 : decode cX12_feed 47 = .ok (.bastore, 1) := by decide +kernel
theorem dX12_feed_48 : decode cX12_feed 48 = .ok (.aload_n 0, 1) := by decide +kernel
theorem dX12_feed_49 : decode cX12_feed 49 = .ok (.dup, 1) := by decide +kernel
theorem dX12_feed_50 : decode cX12_feed 50 = .ok (.getfield 245, 3) := by decide +kernel
theorem dX12_feed_53 : decode cX12_feed 53 = .ok (.iconst 1, 1) := by decide +kernel
theorem dX12_feed_54 : decode cX12_feed 54 = .ok (.iadd, 1) := by decide +kernel
theorem dX12_feed_55 : decode cX12_feed 55 = .ok (.putfield 245, 3) := by decide +kernel
theorem dX12_feed_58 : decode cX12_feed 58 = .ok (.iinc 3 1, 3) := by decide +kernel
theorem dX12_feed_61 : decode cX12_feed 61 = .ok (.goto (-34), 3) := by decide +kernel
theorem dX12_feed_64 : decode cX12_feed 64 = .ok (.aload_n 0, 1) := by decide +kernel
theorem dX12_feed_65 : decode cX12_feed 65 = .ok (.getfield 245, 3) := by decide +kernel
theorem dX12_feed_68 : decode cX12_feed 68 = .ok (.ireturn, 1) := by decide +kernel
theorem dX12_look_0 : decode cX12_look 0 = .ok (.aload_n 0, 1) := by decide +kernel
theorem dX12_look_1 : decode cX12_look 1 = .ok (.getfield 248, 3) := by decide +kernel
theorem dX12_look_4 : decode cX12_look 4 = .ok (.aload_n 0, 1) := by decide +kernel
theorem dX12_look_5 : decode cX12_look 5 = .ok (.getfield 245, 3) := by decide +kernel
theorem dX12_look_8 : decode cX12_look 8 = .ok (.if_icmp .ge 15, 3) := by decide +kernel
theorem dX12_look_11 : decode cX12_look 11 = .ok (.aload_n 0, 1) := by decide +kernel
theorem dX12_look_12 : decode cX12_look 12 = .ok (.getfield 80, 3) := by decide +kernel
theorem dX12_look_15 : decode cX12_look 15 = .ok (.aload_n 0, 1) := by decide +kernel
theorem dX12_look_16 : decode cX12_look 16 = .ok (.getfield 248, 3) := by decide +kernel
theorem dX12_look_19 : decode cX12_look 19 = .ok (.baload, 1) := by decide +kernel
theorem dX12_look_20 : decode cX12_look 20 = .ok (.goto 4, 3) := by decide +kernel
theorem dX12_look_23 : decode cX12_look 23 = .ok (.iconst (-1), 1) := by decide +kernel
theorem dX12_look_24 : decode cX12_look 24 = .ok (.ireturn, 1) := by decide +kernel
theorem dX12_wrong_0 : decode cX12_wrong 0 = .ok (.aload_n 0, 1) := by decide +kernel
theorem dX12_wrong_1 : decode cX12_wrong 1 = .ok (.getfield 251, 3) := by decide +kernel
theorem dX12_wrong_4 : decode cX12_wrong 4 = .ok (.ifCond .ge 11, 3) := by decide +kernel
theorem dX12_wrong_7 : decode cX12_wrong 7 = .ok (.aload_n 0, 1) := by decide +kernel
theorem dX12_wrong_8 : decode cX12_wrong 8 = .ok (.aload_n 0, 1) := by decide +kernel
theorem dX12_wrong_9 : decode cX12_wrong 9 = .ok (.getfield 248, 3) := by decide +kernel
theorem dX12_wrong_12 : decode cX12_wrong 12 = .ok (.putfield 251, 3) := by decide +kernel
theorem dX12_wrong_15 : decode cX12_wrong 15 = .ok (.return_, 1) := by decide +kernel
theorem dX12_lay_0 : decode cX12_lay 0 = .ok (.aload_n 0, 1) := by decide +kernel
theorem dX12_lay_1 : decode cX12_lay 1 = .ok (.getfield 93, 3) := by decide +kernel
theorem dX12_lay_4 : decode cX12_lay 4 = .ok (.sipush 130, 3) := by decide +kernel
theorem dX12_lay_7 : decode cX12_lay 7 = .ok (.aload_n 0, 1) := by decide +kernel
theorem dX12_lay_8 : decode cX12_lay 8 = .ok (.getfield 254, 3) := by decide +kernel
theorem dX12_lay_11 : decode cX12_lay 11 = .ok (.imul, 1) := by decide +kernel
theorem dX12_lay_12 : decode cX12_lay 12 = .ok (.aload_n 0, 1) := by decide +kernel
theorem dX12_lay_13 : decode cX12_lay 13 = .ok (.getfield 257, 3) := by decide +kernel
theorem dX12_lay_16 : decode cX12_lay 16 = .ok (.iadd, 1) := by decide +kernel
theorem dX12_lay_17 : decode cX12_lay 17 = .ok (.iload_n 1, 1) := by decide +kernel
theorem dX12_lay_18 : decode cX12_lay 18 = .ok (.iastore, 1) := by decide +kernel
theorem dX12_lay_19 : decode cX12_lay 19 = .ok (.aload_n 0, 1) := by decide +kernel
theorem dX12_lay_20 : decode cX12_lay 20 = .ok (.getfield 96, 3) := by decide +kernel
theorem dX12_lay_23 : decode cX12_lay 23 = .ok (.sipush 130, 3) := by decide +kernel
theorem dX12_lay_26 : decode cX12_lay 26 = .ok (.aload_n 0, 1) := by decide +kernel
theorem dX12_lay_27 : decode cX12_lay 27 = .ok (.getfield 254, 3) := by decide +kernel
theorem dX12_lay_30 : decode cX12_lay 30 = .ok (.imul, 1) := by decide +kernel
theorem dX12_lay_31 : decode cX12_lay 31 = .ok (.aload_n 0, 1) := by decide +kernel
theorem dX12_lay_32 : decode cX12_lay 32 = .ok (.getfield 257, 3) := by decide +kernel
theorem dX12_lay_35 : decode cX12_lay 35 = .ok (.iadd, 1) := by decide +kernel
theorem dX12_lay_36 : decode cX12_lay 36 = .ok (.iload_n 2, 1) := by decide +kernel
theorem dX12_lay_37 : decode cX12_lay 37 = .ok (.iastore, 1) := by decide +kernel
theorem dX12_lay_38 : decode cX12_lay 38 = .ok (.aload_n 0, 1) := by decide +kernel
theorem dX12_lay_39 : decode cX12_lay 39 = .ok (.dup, 1) := by decide +kernel
theorem dX12_lay_40 : decode cX12_lay 40 = .ok (.getfield 257, 3) := by decide +kernel
theorem dX12_lay_43 : decode cX12_lay 43 = .ok (.iconst 1, 1) := by decide +kernel
theorem dX12_lay_44 : decode cX12_lay 44 = .ok (.iadd, 1) := by decide +kernel
theorem dX12_lay_45 : decode cX12_lay 45 = .ok (.putfield 257, 3) := by decide +kernel
theorem dX12_lay_48 : decode cX12_lay 48 = .ok (.return_, 1) := by decide +kernel
theorem dX12_opens_0 : decode cX12_opens 0 = .ok (.aload_n 0, 1) := by decide +kernel
theorem dX12_opens_1 : decode cX12_opens 1 = .ok (.getfield 260, 3) := by decide +kernel
theorem dX12_opens_4 : decode cX12_opens 4 = .ok (.bipush 8, 2) := by decide +kernel
theorem dX12_opens_6 : decode cX12_opens 6 = .ok (.if_icmp .ne 9, 3) := by decide +kernel
theorem dX12_opens_9 : decode cX12_opens 9 = .ok (.aload_n 0, 1) := by decide +kernel
theorem dX12_opens_10 : decode cX12_opens 10 = .ok (.invokevirtual 263, 3) := by decide +kernel
theorem dX12_opens_13 : decode cX12_opens 13 = .ok (.iconst 0, 1) := by decide +kernel
theorem dX12_opens_14 : decode cX12_opens 14 = .ok (.ireturn, 1) := by decide +kernel
theorem dX12_opens_15 : decode cX12_opens 15 = .ok (.aload_n 0, 1) := by decide +kernel
theorem dX12_opens_16 : decode cX12_opens 16 = .ok (.dup, 1) := by decide +kernel
theorem dX12_opens_17 : decode cX12_opens 17 = .ok (.getfield 260, 3) := by decide +kernel
theorem dX12_opens_20 : decode cX12_opens 20 = .ok (.iconst 1, 1) := by decide +kernel
theorem dX12_opens_21 : decode cX12_opens 21 = .ok (.iadd, 1) := by decide +kernel
theorem dX12_opens_22 : decode cX12_opens 22 = .ok (.putfield 260, 3) := by decide +kernel
theorem dX12_opens_25 : decode cX12_opens 25 = .ok (.aload_n 0, 1) := by decide +kernel
theorem dX12_opens_26 : decode cX12_opens 26 = .ok (.dup, 1) := by decide +kernel
theorem dX12_opens_27 : decode cX12_opens 27 = .ok (.getfield 248, 3) := by decide +kernel
theorem dX12_opens_30 : decode cX12_opens 30 = .ok (.iconst 1, 1) := by decide +kernel
theorem dX12_opens_31 : decode cX12_opens 31 = .ok (.iadd, 1) := by decide +kernel
theorem dX12_opens_32 : decode cX12_opens 32 = .ok (.putfield 248, 3) := by decide +kernel
theorem dX12_opens_35 : decode cX12_opens 35 = .ok (.iconst 1, 1) := by decide +kernel
theorem dX12_opens_36 : decode cX12_opens 36 = .ok (.ireturn, 1) := by decide +kernel
theorem dX12_nameOf_0 : decode cX12_nameOf 0 = .ok (.iload_n 0, 1) := by decide +kernel
theorem dX12_nameOf_1 : decode cX12_nameOf 1 = .ok (.tableswitch 107 100 119 #[95, 107, 107, 107, 97, 107, 107, 103, 99, 107, 105, 107, 107, 107, 107, 107, 107, 107, 107, 101], 95) := by decide +kernel
theorem dX12_nameOf_96 : decode cX12_nameOf 96 = .ok (.iconst 0, 1) := by decide +kernel
theorem dX12_nameOf_97 : decode cX12_nameOf 97 = .ok (.ireturn, 1) := by decide +kernel
theorem dX12_nameOf_98 : decode cX12_nameOf 98 = .ok (.iconst 1, 1) := by decide +kernel
theorem dX12_nameOf_99 : decode cX12_nameOf 99 = .ok (.ireturn, 1) := by decide +kernel
theorem dX12_nameOf_100 : decode cX12_nameOf 100 = .ok (.iconst 2, 1) := by decide +kernel
theorem dX12_nameOf_101 : decode cX12_nameOf 101 = .ok (.ireturn, 1) := by decide +kernel
theorem dX12_nameOf_102 : decode cX12_nameOf 102 = .ok (.iconst 3, 1) := by decide +kernel
theorem dX12_nameOf_103 : decode cX12_nameOf 103 = .ok (.ireturn, 1) := by decide +kernel
theorem dX12_nameOf_104 : decode cX12_nameOf 104 = .ok (.iconst 4, 1) := by decide +kernel
theorem dX12_nameOf_105 : decode cX12_nameOf 105 = .ok (.ireturn, 1) := by decide +kernel
theorem dX12_nameOf_106 : decode cX12_nameOf 106 = .ok (.iconst 5, 1) := by decide +kernel
theorem dX12_nameOf_107 : decode cX12_nameOf 107 = .ok (.ireturn, 1) := by decide +kernel
theorem dX12_nameOf_108 : decode cX12_nameOf 108 = .ok (.iconst (-1), 1) := by decide +kernel
theorem dX12_nameOf_109 : decode cX12_nameOf 109 = .ok (.ireturn, 1) := by decide +kernel
theorem dX12_digits_0 : decode cX12_digits 0 = .ok (.iconst 0, 1) := by decide +kernel
theorem dX12_digits_1 : decode cX12_digits 1 = .ok (.istore_n 1, 1) := by decide +kernel
theorem dX12_digits_2 : decode cX12_digits 2 = .ok (.aload_n 0, 1) := by decide +kernel
theorem dX12_digits_3 : decode cX12_digits 3 = .ok (.iconst 0, 1) := by decide +kernel
theorem dX12_digits_4 : decode cX12_digits 4 = .ok (.putfield 266, 3) := by decide +kernel
theorem dX12_digits_7 : decode cX12_digits 7 = .ok (.iload_n 1, 1) := by decide +kernel
theorem dX12_digits_8 : decode cX12_digits 8 = .ok (.iconst 5, 1) := by decide +kernel
theorem dX12_digits_9 : decode cX12_digits 9 = .ok (.if_icmp .ge 52, 3) := by decide +kernel
theorem dX12_digits_12 : decode cX12_digits 12 = .ok (.aload_n 0, 1) := by decide +kernel
theorem dX12_digits_13 : decode cX12_digits 13 = .ok (.invokevirtual 269, 3) := by decide +kernel
theorem dX12_digits_16 : decode cX12_digits 16 = .ok (.bipush 48, 2) := by decide +kernel
theorem dX12_digits_18 : decode cX12_digits 18 = .ok (.bipush 57, 2) := by decide +kernel
theorem dX12_digits_20 : decode cX12_digits 20 = .ok (.invokestatic 151, 3) := by decide +kernel
theorem dX12_digits_23 : decode cX12_digits 23 = .ok (.ifCond .eq 38, 3) := by decide +kernel
theorem dX12_digits_26 : decode cX12_digits 26 = .ok (.aload_n 0, 1) := by decide +kernel
theorem dX12_digits_27 : decode cX12_digits 27 = .ok (.bipush 10, 2) := by decide +kernel
theorem dX12_digits_29 : decode cX12_digits 29 = .ok (.aload_n 0, 1) := by decide +kernel
theorem dX12_digits_30 : decode cX12_digits 30 = .ok (.getfield 266, 3) := by decide +kernel
theorem dX12_digits_33 : decode cX12_digits 33 = .ok (.imul, 1) := by decide +kernel
theorem dX12_digits_34 : decode cX12_digits 34 = .ok (.aload_n 0, 1) := by decide +kernel
theorem dX12_digits_35 : decode cX12_digits 35 = .ok (.invokevirtual 269, 3) := by decide +kernel
theorem dX12_digits_38 : decode cX12_digits 38 = .ok (.iadd, 1) := by decide +kernel
theorem dX12_digits_39 : decode cX12_digits 39 = .ok (.bipush 48, 2) := by decide +kernel
theorem dX12_digits_41 : decode cX12_digits 41 = .ok (.isub, 1) := by decide +kernel
theorem dX12_digits_42 : decode cX12_digits 42 = .ok (.putfield 266, 3) := by decide +kernel
theorem dX12_digits_45 : decode cX12_digits 45 = .ok (.iinc 1 1, 3) := by decide +kernel
theorem dX12_digits_48 : decode cX12_digits 48 = .ok (.aload_n 0, 1) := by decide +kernel
theorem dX12_digits_49 : decode cX12_digits 49 = .ok (.dup, 1) := by decide +kernel
theorem dX12_digits_50 : decode cX12_digits 50 = .ok (.getfield 248, 3) := by decide +kernel
theorem dX12_digits_53 : decode cX12_digits 53 = .ok (.iconst 1, 1) := by decide +kernel
theorem dX12_digits_54 : decode cX12_digits 54 = .ok (.iadd, 1) := by decide +kernel
theorem dX12_digits_55 : decode cX12_digits 55 = .ok (.putfield 248, 3) := by decide +kernel
theorem dX12_digits_58 : decode cX12_digits 58 = .ok (.goto (-51), 3) := by decide +kernel
theorem dX12_digits_61 : decode cX12_digits 61 = .ok (.iload_n 1, 1) := by decide +kernel
theorem dX12_digits_62 : decode cX12_digits 62 = .ok (.ifCond .le 19, 3) := by decide +kernel
theorem dX12_digits_65 : decode cX12_digits 65 = .ok (.aload_n 0, 1) := by decide +kernel
theorem dX12_digits_66 : decode cX12_digits 66 = .ok (.invokevirtual 269, 3) := by decide +kernel
theorem dX12_digits_69 : decode cX12_digits 69 = .ok (.bipush 48, 2) := by decide +kernel
theorem dX12_digits_71 : decode cX12_digits 71 = .ok (.bipush 57, 2) := by decide +kernel
theorem dX12_digits_73 : decode cX12_digits 73 = .ok (.invokestatic 151, 3) := by decide +kernel
theorem dX12_digits_76 : decode cX12_digits 76 = .ok (.ifCond .ne 5, 3) := by decide +kernel
theorem dX12_digits_79 : decode cX12_digits 79 = .ok (.iconst 1, 1) := by decide +kernel
theorem dX12_digits_80 : decode cX12_digits 80 = .ok (.ireturn, 1) := by decide +kernel
theorem dX12_digits_81 : decode cX12_digits 81 = .ok (.aload_n 0, 1) := by decide +kernel
theorem dX12_digits_82 : decode cX12_digits 82 = .ok (.invokevirtual 263, 3) := by decide +kernel
theorem dX12_digits_85 : decode cX12_digits 85 = .ok (.iconst 0, 1) := by decide +kernel
theorem dX12_digits_86 : decode cX12_digits 86 = .ok (.ireturn, 1) := by decide +kernel
theorem dX12_operand_0 : decode cX12_operand 0 = .ok (.aload_n 0, 1) := by decide +kernel
theorem dX12_operand_1 : decode cX12_operand 1 = .ok (.invokevirtual 269, 3) := by decide +kernel
theorem dX12_operand_4 : decode cX12_operand 4 = .ok (.istore_n 1, 1) := by decide +kernel
theorem dX12_operand_5 : decode cX12_operand 5 = .ok (.iload_n 1, 1) := by decide +kernel
theorem dX12_operand_6 : decode cX12_operand 6 = .ok (.invokestatic 273, 3) := by decide +kernel
theorem dX12_operand_9 : decode cX12_operand 9 = .ok (.ifCond .lt 25, 3) := by decide +kernel
theorem dX12_operand_12 : decode cX12_operand 12 = .ok (.aload_n 0, 1) := by decide +kernel
theorem dX12_operand_13 : decode cX12_operand 13 = .ok (.iconst 2, 1) := by decide +kernel
theorem dX12_operand_14 : decode cX12_operand 14 = .ok (.iload_n 1, 1) := by decide +kernel
theorem dX12_operand_15 : decode cX12_operand 15 = .ok (.invokestatic 273, 3) := by decide +kernel
theorem dX12_operand_18 : decode cX12_operand 18 = .ok (.invokevirtual 276, 3) := by decide +kernel
theorem dX12_operand_21 : decode cX12_operand 21 = .ok (.aload_n 0, 1) := by decide +kernel
theorem dX12_operand_22 : decode cX12_operand 22 = .ok (.dup, 1) := by decide +kernel
theorem dX12_operand_23 : decode cX12_operand 23 = .ok (.getfield 248, 3) := by decide +kernel
theorem dX12_operand_26 : decode cX12_operand 26 = .ok (.iconst 1, 1) := by decide +kernel
theorem dX12_operand_27 : decode cX12_operand 27 = .ok (.iadd, 1) := by decide +kernel
theorem dX12_operand_28 : decode cX12_operand 28 = .ok (.putfield 248, 3) := by decide +kernel
theorem dX12_operand_31 : decode cX12_operand 31 = .ok (.goto 119, 3) := by decide +kernel
theorem dX12_operand_34 : decode cX12_operand 34 = .ok (.iload_n 1, 1) := by decide +kernel
theorem dX12_operand_35 : decode cX12_operand 35 = .ok (.bipush 45, 2) := by decide +kernel
theorem dX12_operand_37 : decode cX12_operand 37 = .ok (.if_icmp .ne 34, 3) := by decide +kernel
theorem dX12_operand_40 : decode cX12_operand 40 = .ok (.aload_n 0, 1) := by decide +kernel
theorem dX12_operand_41 : decode cX12_operand 41 = .ok (.invokevirtual 279, 3) := by decide +kernel
theorem dX12_operand_44 : decode cX12_operand 44 = .ok (.ifCond .ne 4, 3) := by decide +kernel
theorem dX12_operand_47 : decode cX12_operand 47 = .ok (.return_, 1) := by decide +kernel
theorem dX12_operand_48 : decode cX12_operand 48 = .ok (.aload_n 0, 1) := by decide +kernel
theorem dX12_operand_49 : decode cX12_operand 49 = .ok (.invokevirtual 283, 3) := by decide +kernel
theorem dX12_operand_52 : decode cX12_operand 52 = .ok (.aload_n 0, 1) := by decide +kernel
theorem dX12_operand_53 : decode cX12_operand 53 = .ok (.iconst 3, 1) := by decide +kernel
theorem dX12_operand_54 : decode cX12_operand 54 = .ok (.iconst 0, 1) := by decide +kernel
theorem dX12_operand_55 : decode cX12_operand 55 = .ok (.invokevirtual 276, 3) := by decide +kernel
theorem dX12_operand_58 : decode cX12_operand 58 = .ok (.aload_n 0, 1) := by decide +kernel
theorem dX12_operand_59 : decode cX12_operand 59 = .ok (.dup, 1) := by decide +kernel
theorem dX12_operand_60 : decode cX12_operand 60 = .ok (.getfield 260, 3) := by decide +kernel
theorem dX12_operand_63 : decode cX12_operand 63 = .ok (.iconst 1, 1) := by decide +kernel
theorem dX12_operand_64 : decode cX12_operand 64 = .ok (.isub, 1) := by decide +kernel
theorem dX12_operand_65 : decode cX12_operand 65 = .ok (.putfield 260, 3) := by decide +kernel
theorem dX12_operand_68 : decode cX12_operand 68 = .ok (.goto 82, 3) := by decide +kernel
theorem dX12_operand_71 : decode cX12_operand 71 = .ok (.iload_n 1, 1) := by decide +kernel
theorem dX12_operand_72 : decode cX12_operand 72 = .ok (.bipush 40, 2) := by decide +kernel
theorem dX12_operand_74 : decode cX12_operand 74 = .ok (.if_icmp .ne 60, 3) := by decide +kernel
theorem dX12_operand_77 : decode cX12_operand 77 = .ok (.aload_n 0, 1) := by decide +kernel
theorem dX12_operand_78 : decode cX12_operand 78 = .ok (.invokevirtual 279, 3) := by decide +kernel
theorem dX12_operand_81 : decode cX12_operand 81 = .ok (.ifCond .ne 4, 3) := by decide +kernel
theorem dX12_operand_84 : decode cX12_operand 84 = .ok (.return_, 1) := by decide +kernel
theorem dX12_operand_85 : decode cX12_operand 85 = .ok (.aload_n 0, 1) := by decide +kernel
theorem dX12_operand_86 : decode cX12_operand 86 = .ok (.invokevirtual 286, 3) := by decide +kernel
theorem dX12_operand_89 : decode cX12_operand 89 = .ok (.aload_n 0, 1) := by decide +kernel
theorem dX12_operand_90 : decode cX12_operand 90 = .ok (.getfield 251, 3) := by decide +kernel
theorem dX12_operand_93 : decode cX12_operand 93 = .ok (.ifCond .lt 4, 3) := by decide +kernel
theorem dX12_operand_96 : decode cX12_operand 96 = .ok (.return_, 1) := by decide +kernel
theorem dX12_operand_97 : decode cX12_operand 97 = .ok (.aload_n 0, 1) := by decide +kernel
theorem dX12_operand_98 : decode cX12_operand 98 = .ok (.invokevirtual 269, 3) := by decide +kernel
theorem dX12_operand_101 : decode cX12_operand 101 = .ok (.bipush 41, 2) := by decide +kernel
theorem dX12_operand_103 : decode cX12_operand 103 = .ok (.if_icmp .eq 8, 3) := by decide +kernel
theorem dX12_operand_106 : decode cX12_operand 106 = .ok (.aload_n 0, 1) := by decide +kernel
theorem dX12_operand_107 : decode cX12_operand 107 = .ok (.invokevirtual 263, 3) := by decide +kernel
theorem dX12_operand_110 : decode cX12_operand 110 = .ok (.return_, 1) := by decide +kernel
theorem dX12_operand_111 : decode cX12_operand 111 = .ok (.aload_n 0, 1) := by decide +kernel
theorem dX12_operand_112 : decode cX12_operand 112 = .ok (.dup, 1) := by decide +kernel
theorem dX12_operand_113 : decode cX12_operand 113 = .ok (.getfield 248, 3) := by decide +kernel
theorem dX12_operand_116 : decode cX12_operand 116 = .ok (.iconst 1, 1) := by decide +kernel
theorem dX12_operand_117 : decode cX12_operand 117 = .ok (.iadd, 1) := by decide +kernel
theorem dX12_operand_118 : decode cX12_operand 118 = .ok (.putfield 248, 3) := by decide +kernel
theorem dX12_operand_121 : decode cX12_operand 121 = .ok (.aload_n 0, 1) := by decide +kernel
theorem dX12_operand_122 : decode cX12_operand 122 = .ok (.dup, 1) := by decide +kernel
theorem dX12_operand_123 : decode cX12_operand 123 = .ok (.getfield 260, 3) := by decide +kernel
theorem dX12_operand_126 : decode cX12_operand 126 = .ok (.iconst 1, 1) := by decide +kernel
theorem dX12_operand_127 : decode cX12_operand 127 = .ok (.isub, 1) := by decide +kernel
theorem dX12_operand_128 : decode cX12_operand 128 = .ok (.putfield 260, 3) := by decide +kernel
theorem dX12_operand_131 : decode cX12_operand 131 = .ok (.goto 19, 3) := by decide +kernel
theorem dX12_operand_134 : decode cX12_operand 134 = .ok (.aload_n 0, 1) := by decide +kernel
theorem dX12_operand_135 : decode cX12_operand 135 = .ok (.invokevirtual 289, 3) := by decide +kernel
theorem dX12_operand_138 : decode cX12_operand 138 = .ok (.ifCond .eq 12, 3) := by decide +kernel
