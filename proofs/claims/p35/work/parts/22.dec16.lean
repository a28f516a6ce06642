theorem dX12_fly_148 : decode cX12_fly 148 = .ok (.getfield 22, 3) := by decide +kernel
theorem dX12_fly_151 : decode cX12_fly 151 = .ok (.iload_n 1, 1) := by decide +kernel
theorem dX12_fly_152 : decode cX12_fly 152 = .ok (.dup2, 1) := by decide +kernel
theorem dX12_fly_153 : decode cX12_fly 153 = .ok (.iaload, 1) := by decide +kernel
theorem dX12_fly_154 : decode cX12_fly 154 = .ok (.iload_n 2, 1) := by decide +kernel
theorem dX12_fly_155 : decode cX12_fly 155 = .ok (.iadd, 1) := by decide +kernel
theorem dX12_fly_156 : decode cX12_fly 156 = .ok (.iastore, 1) := by decide +kernel
theorem dX12_fly_157 : decode cX12_fly 157 = .ok (.aload_n 0, 1) := by decide +kernel
theorem dX12_fly_158 : decode cX12_fly 158 = .ok (.getfield 25, 3) := by decide +kernel
theorem dX12_fly_161 : decode cX12_fly 161 = .ok (.iload_n 1, 1) := by decide +kernel
theorem dX12_fly_162 : decode cX12_fly 162 = .ok (.dup2, 1) := by decide +kernel
theorem dX12_fly_163 : decode cX12_fly 163 = .ok (.iaload, 1) := by decide +kernel
theorem dX12_fly_164 : decode cX12_fly 164 = .ok (.iload_n 3, 1) := by decide +kernel
theorem dX12_fly_165 : decode cX12_fly 165 = .ok (.iadd, 1) := by decide +kernel
theorem dX12_fly_166 : decode cX12_fly 166 = .ok (.iastore, 1) := by decide +kernel
theorem dX12_fly_167 : decode cX12_fly 167 = .ok (.iconst 0, 1) := by decide +kernel
theorem dX12_fly_168 : decode cX12_fly 168 = .ok (.istore 4, 2) := by decide +kernel
theorem dX12_fly_170 : decode cX12_fly 170 = .ok (.iload 4, 2) := by decide +kernel
theorem dX12_fly_172 : decode cX12_fly 172 = .ok (.aload_n 0, 1) := by decide +kernel
theorem dX12_fly_173 : decode cX12_fly 173 = .ok (.getfield 166, 3) := by decide +kernel
theorem dX12_fly_176 : decode cX12_fly 176 = .ok (.if_icmp .ge 99, 3) := by decide +kernel
theorem dX12_fly_179 : decode cX12_fly 179 = .ok (.aload_n 0, 1) := by decide +kernel
theorem dX12_fly_180 : decode cX12_fly 180 = .ok (.getfield 46, 3) := by decide +kernel
theorem dX12_fly_183 : decode cX12_fly 183 = .ok (.iload 4, 2) := by decide +kernel
theorem dX12_fly_185 : decode cX12_fly 185 = .ok (.iaload, 1) := by decide +kernel
theorem dX12_fly_186 : decode cX12_fly 186 = .ok (.iload_n 1, 1) := by decide +kernel
theorem dX12_fly_187 : decode cX12_fly 187 = .ok (.if_icmp .eq 6, 3) := by decide +kernel
theorem dX12_fly_190 : decode cX12_fly 190 = .ok (.goto 79, 3) := by decide +kernel
theorem dX12_fly_193 : decode cX12_fly 193 = .ok (.aload_n 0, 1) := by decide +kernel
theorem dX12_fly_194 : decode cX12_fly 194 = .ok (.getfield 49, 3) := by decide +kernel
theorem dX12_fly_197 : decode cX12_fly 197 = .ok (.iconst 3, 1) := by decide +kernel
theorem dX12_fly_198 : decode cX12_fly 198 = .ok (.iload 4, 2) := by decide +kernel
theorem dX12_fly_200 : decode cX12_fly 200 = .ok (.imul, 1) := by decide +kernel
theorem dX12_fly_201 : decode cX12_fly 201 = .ok (.dup2, 1) := by decide +kernel
theorem dX12_fly_202 : decode cX12_fly 202 = .ok (.iaload, 1) := by decide +kernel
theorem dX12_fly_203 : decode cX12_fly 203 = .ok (.iload_n 2, 1) := by decide +kernel
theorem dX12_fly_204 : decode cX12_fly 204 = .ok (.iadd, 1) := by decide +kernel
theorem dX12_fly_205 : decode cX12_fly 205 = .ok (.iastore, 1) := by decide +kernel
theorem dX12_fly_206 : decode cX12_fly 206 = .ok (.aload_n 0, 1) := by decide +kernel
theorem dX12_fly_207 : decode cX12_fly 207 = .ok (.getfield 49, 3) := by decide +kernel
theorem dX12_fly_210 : decode cX12_fly 210 = .ok (.iconst 3, 1) := by decide +kernel
theorem dX12_fly_211 : decode cX12_fly 211 = .ok (.iload 4, 2) := by decide +kernel
theorem dX12_fly_213 : decode cX12_fly 213 = .ok (.imul, 1) := by decide +kernel
theorem dX12_fly_214 : decode cX12_fly 214 = .ok (.iconst 1, 1) := by decide +kernel
theorem dX12_fly_215 : decode cX12_fly 215 = .ok (.iadd, 1) := by decide +kernel
theorem dX12_fly_216 : decode cX12_fly 216 = .ok (.dup2, 1) := by decide +kernel
theorem dX12_fly_217 : decode cX12_fly 217 = .ok (.iaload, 1) := by decide +kernel
theorem dX12_fly_218 : decode cX12_fly 218 = .ok (.iload_n 3, 1) := by decide +kernel
theorem dX12_fly_219 : decode cX12_fly 219 = .ok (.iadd, 1) := by decide +kernel
theorem dX12_fly_220 : decode cX12_fly 220 = .ok (.iastore, 1) := by decide +kernel
theorem dX12_fly_221 : decode cX12_fly 221 = .ok (.bipush 10, 2) := by decide +kernel
theorem dX12_fly_223 : decode cX12_fly 223 = .ok (.iload_n 1, 1) := by decide +kernel
theorem dX12_fly_224 : decode cX12_fly 224 = .ok (.imul, 1) := by decide +kernel
theorem dX12_fly_225 : decode cX12_fly 225 = .ok (.aload_n 0, 1) := by decide +kernel
theorem dX12_fly_226 : decode cX12_fly 226 = .ok (.getfield 40, 3) := by decide +kernel
theorem dX12_fly_229 : decode cX12_fly 229 = .ok (.iload 4, 2) := by decide +kernel
theorem dX12_fly_231 : decode cX12_fly 231 = .ok (.iaload, 1) := by decide +kernel
theorem dX12_fly_232 : decode cX12_fly 232 = .ok (.iadd, 1) := by decide +kernel
theorem dX12_fly_233 : decode cX12_fly 233 = .ok (.istore 5, 2) := by decide +kernel
theorem dX12_fly_235 : decode cX12_fly 235 = .ok (.aload_n 0, 1) := by decide +kernel
theorem dX12_fly_236 : decode cX12_fly 236 = .ok (.getfield 37, 3) := by decide +kernel
theorem dX12_fly_239 : decode cX12_fly 239 = .ok (.iload 5, 2) := by decide +kernel
theorem dX12_fly_241 : decode cX12_fly 241 = .ok (.aload_n 0, 1) := by decide +kernel
theorem dX12_fly_242 : decode cX12_fly 242 = .ok (.getfield 37, 3) := by decide +kernel
theorem dX12_fly_245 : decode cX12_fly 245 = .ok (.iload 5, 2) := by decide +kernel
theorem dX12_fly_247 : decode cX12_fly 247 = .ok (.iaload, 1) := by decide +kernel
theorem dX12_fly_248 : decode cX12_fly 248 = .ok (.i2l, 1) := by decide +kernel
theorem dX12_fly_249 : decode cX12_fly 249 = .ok (.iload_n 2, 1) := by decide +kernel
theorem dX12_fly_250 : decode cX12_fly 250 = .ok (.aload_n 0, 1) := by decide +kernel
theorem dX12_fly_251 : decode cX12_fly 251 = .ok (.getfield 16, 3) := by decide +kernel
theorem dX12_fly_254 : decode cX12_fly 254 = .ok (.aload_n 0, 1) := by decide +kernel
theorem dX12_fly_255 : decode cX12_fly 255 = .ok (.getfield 40, 3) := by decide +kernel
theorem dX12_fly_258 : decode cX12_fly 258 = .ok (.iload 4, 2) := by decide +kernel
theorem dX12_fly_260 : decode cX12_fly 260 = .ok (.iaload, 1) := by decide +kernel
theorem dX12_fly_261 : decode cX12_fly 261 = .ok (.iaload, 1) := by decide +kernel
theorem dX12_fly_262 : decode cX12_fly 262 = .ok (.imul, 1) := by decide +kernel
theorem dX12_fly_263 : decode cX12_fly 263 = .ok (.i2l, 1) := by decide +kernel
theorem dX12_fly_264 : decode cX12_fly 264 = .ok (.ladd, 1) := by decide +kernel
theorem dX12_fly_265 : decode cX12_fly 265 = .ok (.invokestatic 333, 3) := by decide +kernel
theorem dX12_fly_268 : decode cX12_fly 268 = .ok (.iastore, 1) := by decide +kernel
theorem dX12_fly_269 : decode cX12_fly 269 = .ok (.iinc 4 1, 3) := by decide +kernel
theorem dX12_fly_272 : decode cX12_fly 272 = .ok (.goto (-102), 3) := by decide +kernel
theorem dX12_fly_275 : decode cX12_fly 275 = .ok (.aload_n 0, 1) := by decide +kernel
theorem dX12_fly_276 : decode cX12_fly 276 = .ok (.getfield 22, 3) := by decide +kernel
theorem dX12_fly_279 : decode cX12_fly 279 = .ok (.iload_n 1, 1) := by decide +kernel
theorem dX12_fly_280 : decode cX12_fly 280 = .ok (.iaload, 1) := by decide +kernel
theorem dX12_fly_281 : decode cX12_fly 281 = .ok (.ireturn, 1) := by decide +kernel
theorem dX12_ofPlane_0 : decode cX12_ofPlane 0 = .ok (.aload_n 0, 1) := by decide +kernel
theorem dX12_ofPlane_1 : decode cX12_ofPlane 1 = .ok (.iload_n 1, 1) := by decide +kernel
theorem dX12_ofPlane_2 : decode cX12_ofPlane 2 = .ok (.invokevirtual 169, 3) := by decide +kernel
theorem dX12_ofPlane_5 : decode cX12_ofPlane 5 = .ok (.ifCond .ne 6, 3) := by decide +kernel
theorem dX12_ofPlane_8 : decode cX12_ofPlane 8 = .ok (.ldc 236, 2) := by decide +kernel
theorem dX12_ofPlane_10 : decode cX12_ofPlane 10 = .ok (.ireturn, 1) := by decide +kernel
theorem dX12_ofPlane_11 : decode cX12_ofPlane 11 = .ok (.iconst 0, 1) := by decide +kernel
theorem dX12_ofPlane_12 : decode cX12_ofPlane 12 = .ok (.istore_n 3, 1) := by decide +kernel
theorem dX12_ofPlane_13 : decode cX12_ofPlane 13 = .ok (.iload_n 2, 1) := by decide +kernel
theorem dX12_ofPlane_14 : decode cX12_ofPlane 14 = .ok (.tableswitch 152 0 8 #[50, 57, 64, 78, 117, 124, 131, 138, 145], 50) := by decide +kernel
theorem dX12_ofPlane_64 : decode cX12_ofPlane 64 = .ok (.aload_n 0, 1) := by decide +kernel
theorem dX12_ofPlane_65 : decode cX12_ofPlane 65 = .ok (.getfield 22, 3) := by decide +kernel
theorem dX12_ofPlane_68 : decode cX12_ofPlane 68 = .ok (.iload_n 1, 1) := by decide +kernel
theorem dX12_ofPlane_69 : decode cX12_ofPlane 69 = .ok (.iaload, 1) := by decide +kernel
theorem dX12_ofPlane_70 : decode cX12_ofPlane 70 = .ok (.ireturn, 1) := by decide +kernel
theorem dX12_ofPlane_71 : decode cX12_ofPlane 71 = .ok (.aload_n 0, 1) := by decide +kernel
theorem dX12_ofPlane_72 : decode cX12_ofPlane 72 = .ok (.getfield 25, 3) := by decide +kernel
theorem dX12_ofPlane_75 : decode cX12_ofPlane 75 = .ok (.iload_n 1, 1) := by decide +kernel
theorem dX12_ofPlane_76 : decode cX12_ofPlane 76 = .ok (.iaload, 1) := by decide +kernel
theorem dX12_ofPlane_77 : decode cX12_ofPlane 77 = .ok (.ireturn, 1) := by decide +kernel
theorem dX12_ofPlane_78 : decode cX12_ofPlane 78 = .ok (.aload_n 0, 1) := by decide +kernel
theorem dX12_ofPlane_79 : decode cX12_ofPlane 79 = .ok (.iload_n 1, 1) := by decide +kernel
theorem dX12_ofPlane_80 : decode cX12_ofPlane 80 = .ok (.invokevirtual 176, 3) := by decide +kernel
theorem dX12_ofPlane_83 : decode cX12_ofPlane 83 = .ok (.ifCond .eq 7, 3) := by decide +kernel
theorem dX12_ofPlane_86 : decode cX12_ofPlane 86 = .ok (.iconst 1, 1) := by decide +kernel
theorem dX12_ofPlane_87 : decode cX12_ofPlane 87 = .ok (.goto 4, 3) := by decide +kernel
theorem dX12_ofPlane_90 : decode cX12_ofPlane 90 = .ok (.iconst 0, 1) := by decide +kernel
theorem dX12_ofPlane_91 : decode cX12_ofPlane 91 = .ok (.ireturn, 1) := by decide +kernel
theorem dX12_ofPlane_92 : decode cX12_ofPlane 92 = .ok (.iconst 0, 1) := by decide +kernel
theorem dX12_ofPlane_93 : decode cX12_ofPlane 93 = .ok (.istore 4, 2) := by decide +kernel
theorem dX12_ofPlane_95 : decode cX12_ofPlane 95 = .ok (.iload 4, 2) := by decide +kernel
theorem dX12_ofPlane_97 : decode cX12_ofPlane 97 = .ok (.aload_n 0, 1) := by decide +kernel
theorem dX12_ofPlane_98 : decode cX12_ofPlane 98 = .ok (.getfield 166, 3) := by decide +kernel
theorem dX12_ofPlane_101 : decode cX12_ofPlane 101 = .ok (.if_icmp .ge 28, 3) := by decide +kernel
theorem dX12_ofPlane_104 : decode cX12_ofPlane 104 = .ok (.iload_n 3, 1) := by decide +kernel
theorem dX12_ofPlane_105 : decode cX12_ofPlane 105 = .ok (.aload_n 0, 1) := by decide +kernel
theorem dX12_ofPlane_106 : decode cX12_ofPlane 106 = .ok (.getfield 46, 3) := by decide +kernel
theorem dX12_ofPlane_109 : decode cX12_ofPlane 109 = .ok (.iload 4, 2) := by decide +kernel
theorem dX12_ofPlane_111 : decode cX12_ofPlane 111 = .ok (.iaload, 1) := by decide +kernel
theorem dX12_ofPlane_112 : decode cX12_ofPlane 112 = .ok (.iload_n 1, 1) := by decide +kernel
theorem dX12_ofPlane_113 : decode cX12_ofPlane 113 = .ok (.if_icmp .ne 7, 3) := by decide +kernel
theorem dX12_ofPlane_116 : decode cX12_ofPlane 116 = .ok (.iconst 1, 1) := by decide +kernel
theorem dX12_ofPlane_117 : decode cX12_ofPlane 117 = .ok (.goto 4, 3) := by decide +kernel
theorem dX12_ofPlane_120 : decode cX12_ofPlane 120 = .ok (.iconst 0, 1) := by decide +kernel
theorem dX12_ofPlane_121 : decode cX12_ofPlane 121 = .ok (.iadd, 1) := by decide +kernel
theorem dX12_ofPlane_122 : decode cX12_ofPlane 122 = .ok (.istore_n 3, 1) := by decide +kernel
theorem dX12_ofPlane_123 : decode cX12_ofPlane 123 = .ok (.iinc 4 1, 3) := by decide +kernel
theorem dX12_ofPlane_126 : decode cX12_ofPlane 126 = .ok (.goto (-31), 3) := by decide +kernel
theorem dX12_ofPlane_129 : decode cX12_ofPlane 129 = .ok (.iload_n 3, 1) := by decide +kernel
theorem dX12_ofPlane_130 : decode cX12_ofPlane 130 = .ok (.ireturn, 1) := by decide +kernel
theorem dX12_ofPlane_131 : decode cX12_ofPlane 131 = .ok (.aload_n 0, 1) := by decide +kernel
theorem dX12_ofPlane_132 : decode cX12_ofPlane 132 = .ok (.getfield 19, 3) := by decide +kernel
theorem dX12_ofPlane_135 : decode cX12_ofPlane 135 = .ok (.iload_n 1, 1) := by decide +kernel
theorem dX12_ofPlane_136 : decode cX12_ofPlane 136 = .ok (.iaload, 1) := by decide +kernel
theorem dX12_ofPlane_137 : decode cX12_ofPlane 137 = .ok (.ireturn, 1) := by decide +kernel
theorem dX12_ofPlane_138 : decode cX12_ofPlane 138 = .ok (.aload_n 0, 1) := by decide +kernel
theorem dX12_ofPlane_139 : decode cX12_ofPlane 139 = .ok (.getfield 28, 3) := by decide +kernel
theorem dX12_ofPlane_142 : decode cX12_ofPlane 142 = .ok (.iload_n 1, 1) := by decide +kernel
theorem dX12_ofPlane_143 : decode cX12_ofPlane 143 = .ok (.iaload, 1) := by decide +kernel
theorem dX12_ofPlane_144 : decode cX12_ofPlane 144 = .ok (.ireturn, 1) := by decide +kernel
theorem dX12_ofPlane_145 : decode cX12_ofPlane 145 = .ok (.aload_n 0, 1) := by decide +kernel
theorem dX12_ofPlane_146 : decode cX12_ofPlane 146 = .ok (.getfield 31, 3) := by decide +kernel
theorem dX12_ofPlane_149 : decode cX12_ofPlane 149 = .ok (.iload_n 1, 1) := by decide +kernel
theorem dX12_ofPlane_150 : decode cX12_ofPlane 150 = .ok (.iaload, 1) := by decide +kernel
theorem dX12_ofPlane_151 : decode cX12_ofPlane 151 = .ok (.ireturn, 1) := by decide +kernel
theorem dX12_ofPlane_152 : decode cX12_ofPlane 152 = .ok (.aload_n 0, 1) := by decide +kernel
theorem dX12_ofPlane_153 : decode cX12_ofPlane 153 = .ok (.getfield 114, 3) := by decide +kernel
theorem dX12_ofPlane_156 : decode cX12_ofPlane 156 = .ok (.iload_n 1, 1) := by decide +kernel
theorem dX12_ofPlane_157 : decode cX12_ofPlane 157 = .ok (.iaload, 1) := by decide +kernel
theorem dX12_ofPlane_158 : decode cX12_ofPlane 158 = .ok (.ireturn, 1) := by decide +kernel
theorem dX12_ofPlane_159 : decode cX12_ofPlane 159 = .ok (.aload_n 0, 1) := by decide +kernel
theorem dX12_ofPlane_160 : decode cX12_ofPlane 160 = .ok (.getfield 117, 3) := by decide +kernel
theorem dX12_ofPlane_163 : decode cX12_ofPlane 163 = .ok (.iload_n 1, 1) := by decide +kernel
theorem dX12_ofPlane_164 : decode cX12_ofPlane 164 = .ok (.iaload, 1) := by decide +kernel
theorem dX12_ofPlane_165 : decode cX12_ofPlane 165 = .ok (.ireturn, 1) := by decide +kernel
theorem dX12_ofPlane_166 : decode cX12_ofPlane 166 = .ok (.ldc 236, 2) := by decide +kernel
theorem dX12_ofPlane_168 : decode cX12_ofPlane 168 = .ok (.ireturn, 1) := by decide +kernel
theorem dX12_takesNumber_0 : decode cX12_takesNumber 0 = .ok (.aload_n 0, 1) := by decide +kernel
theorem dX12_takesNumber_1 : decode cX12_takesNumber 1 = .ok (.invokevirtual 269, 3) := by decide +kernel
theorem dX12_takesNumber_4 : decode cX12_takesNumber 4 = .ok (.bipush 32, 2) := by decide +kernel
theorem dX12_takesNumber_6 : decode cX12_takesNumber 6 = .ok (.if_icmp .eq 9, 3) := by decide +kernel
theorem dX12_takesNumber_9 : decode cX12_takesNumber 9 = .ok (.aload_n 0, 1) := by decide +kernel
theorem dX12_takesNumber_10 : decode cX12_takesNumber 10 = .ok (.invokevirtual 263, 3) := by decide +kernel
theorem dX12_takesNumber_13 : decode cX12_takesNumber 13 = .ok (.iconst 0, 1) := by decide +kernel
theorem dX12_takesNumber_14 : decode cX12_takesNumber 14 = .ok (.ireturn, 1) := by decide +kernel
theorem dX12_takesNumber_15 : decode cX12_takesNumber 15 = .ok (.aload_n 0, 1) := by decide +kernel
theorem dX12_takesNumber_16 : decode cX12_takesNumber 16 = .ok (.dup, 1) := by decide +kernel
theorem dX12_takesNumber_17 : decode cX12_takesNumber 17 = .ok (.getfield 248, 3) := by decide +kernel
theorem dX12_takesNumber_20 : decode cX12_takesNumber 20 = .ok (.iconst 1, 1) := by decide +kernel
theorem dX12_takesNumber_21 : decode cX12_takesNumber 21 = .ok (.iadd, 1) := by decide +kernel
theorem dX12_takesNumber_22 : decode cX12_takesNumber 22 = .ok (.putfield 248, 3) := by decide +kernel
theorem dX12_takesNumber_25 : decode cX12_takesNumber 25 = .ok (.aload_n 0, 1) := by decide +kernel
theorem dX12_takesNumber_26 : decode cX12_takesNumber 26 = .ok (.invokevirtual 289, 3) := by decide +kernel
theorem dX12_takesNumber_29 : decode cX12_takesNumber 29 = .ok (.ireturn, 1) := by decide +kernel
theorem dX12_numbersOf_0 : decode cX12_numbersOf 0 = .ok (.iload_n 0, 1) := by decide +kernel
theorem dX12_numbersOf_1 : decode cX12_numbersOf 1 = .ok (.tableswitch 89 100 116 #[83, 89, 89, 85, 83, 89, 89, 89, 83, 85, 89, 85, 89, 89, 89, 89, 87], 83) := by decide +kernel
theorem dX12_numbersOf_84 : decode cX12_numbersOf 84 = .ok (.iconst 3, 1) := by decide +kernel
theorem dX12_numbersOf_85 : decode cX12_numbersOf 85 = .ok (.ireturn, 1) := by decide +kernel
theorem dX12_numbersOf_86 : decode cX12_numbersOf 86 = .ok (.iconst 1, 1) := by decide +kernel
theorem dX12_numbersOf_87 : decode cX12_numbersOf 87 = .ok (.ireturn, 1) := by decide +kernel
theorem dX12_numbersOf_88 : decode cX12_numbersOf 88 = .ok (.iconst 2, 1) := by decide +kernel
theorem dX12_numbersOf_89 : decode cX12_numbersOf 89 = .ok (.ireturn, 1) := by decide +kernel
theorem dX12_numbersOf_90 : decode cX12_numbersOf 90 = .ok (.iconst 0, 1) := by decide +kernel
theorem dX12_numbersOf_91 : decode cX12_numbersOf 91 = .ok (.ireturn, 1) := by decide +kernel
theorem dX12_readLine_0 : decode cX12_readLine 0 = .ok (.aload_n 0, 1) := by decide +kernel
theorem dX12_readLine_1 : decode cX12_readLine 1 = .ok (.invokevirtual 269, 3) := by decide +kernel
theorem dX12_readLine_4 : decode cX12_readLine 4 = .ok (.istore_n 2, 1) := by decide +kernel
theorem dX12_readLine_5 : decode cX12_readLine 5 = .ok (.iload_n 2, 1) := by decide +kernel
theorem dX12_readLine_6 : decode cX12_readLine 6 = .ok (.invokestatic 337, 3) := by decide +kernel
theorem dX12_readLine_9 : decode cX12_readLine 9 = .ok (.istore_n 3, 1) := by decide +kernel
theorem dX12_readLine_10 : decode cX12_readLine 10 = .ok (.iload_n 3, 1) := by decide +kernel
theorem dX12_readLine_11 : decode cX12_readLine 11 = .ok (.ifCond .ne 8, 3) := by decide +kernel
theorem dX12_readLine_14 : decode cX12_readLine 14 = .ok (.aload_n 0, 1) := by decide +kernel
theorem dX12_readLine_15 : decode cX12_readLine 15 = .ok (.invokevirtual 263, 3) := by decide +kernel
theorem dX12_readLine_18 : decode cX12_readLine 18 = .ok (.return_, 1) := by decide +kernel
theorem dX12_readLine_19 : decode cX12_readLine 19 = .ok (.aload_n 0, 1) := by decide +kernel
theorem dX12_readLine_20 : decode cX12_readLine 20 = .ok (.dup, 1) := by decide +kernel
theorem dX12_readLine_21 : decode cX12_readLine 21 = .ok (.getfield 248, 3) := by decide +kernel
theorem dX12_readLine_24 : decode cX12_readLine 24 = .ok (.iconst 1, 1) := by decide +kernel
theorem dX12_readLine_25 : decode cX12_readLine 25 = .ok (.iadd, 1) := by decide +kernel
theorem dX12_readLine_26 : decode cX12_readLine 26 = .ok (.putfield 248, 3) := by decide +kernel
theorem dX12_readLine_29 : decode cX12_readLine 29 = .ok (.bipush 32, 2) := by decide +kernel
theorem dX12_readLine_31 : decode cX12_readLine 31 = .ok (.iload_n 1, 1) := by decide +kernel
theorem dX12_readLine_32 : decode cX12_readLine 32 = .ok (.imul, 1) := by decide +kernel
theorem dX12_readLine_33 : decode cX12_readLine 33 = .ok (.aload_n 0, 1) := by decide +kernel
theorem dX12_readLine_34 : decode cX12_readLine 34 = .ok (.getfield 120, 3) := by decide +kernel
theorem dX12_readLine_37 : decode cX12_readLine 37 = .ok (.iload_n 1, 1) := by decide +kernel
theorem dX12_readLine_38 : decode cX12_readLine 38 = .ok (.iaload, 1) := by decide +kernel
theorem dX12_readLine_39 : decode cX12_readLine 39 = .ok (.iadd, 1) := by decide +kernel
theorem dX12_readLine_40 : decode cX12_readLine 40 = .ok (.istore 4, 2) := by decide +kernel
theorem dX12_readLine_42 : decode cX12_readLine 42 = .ok (.aload_n 0, 1) := by decide +kernel
theorem dX12_readLine_43 : decode cX12_readLine 43 = .ok (.getfield 123, 3) := by decide +kernel
theorem dX12_readLine_46 : decode cX12_readLine 46 = .ok (.iload 4, 2) := by decide +kernel
theorem dX12_readLine_48 : decode cX12_readLine 48 = .ok (.iload_n 2, 1) := by decide +kernel
theorem dX12_readLine_49 : decode cX12_readLine 49 = .ok (.iastore, 1) := by decide +kernel
theorem dX12_readLine_50 : decode cX12_readLine 50 = .ok (.iconst 0, 1) := by decide +kernel
theorem dX12_readLine_51 : decode cX12_readLine 51 = .ok (.istore 5, 2) := by decide +kernel
theorem dX12_readLine_53 : decode cX12_readLine 53 = .ok (.iload 5, 2) := by decide +kernel
theorem dX12_readLine_55 : decode cX12_readLine 55 = .ok (.iload_n 3, 1) := by decide +kernel
theorem dX12_readLine_56 : decode cX12_readLine 56 = .ok (.if_icmp .ge 67, 3) := by decide +kernel
theorem dX12_readLine_59 : decode cX12_readLine 59 = .ok (.aload_n 0, 1) := by decide +kernel
theorem dX12_readLine_60 : decode cX12_readLine 60 = .ok (.invokevirtual 340, 3) := by decide +kernel
theorem dX12_readLine_63 : decode cX12_readLine 63 = .ok (.ifCond .ne 4, 3) := by decide +kernel
theorem dX12_readLine_66 : decode cX12_readLine 66 = .ok (.return_, 1) := by decide +kernel
theorem dX12_readLine_67 : decode cX12_readLine 67 = .ok (.iload 5, 2) := by decide +kernel
theorem dX12_readLine_69 : decode cX12_readLine 69 = .ok (.ifCond .ne 17, 3) := by decide +kernel
theorem dX12_readLine_72 : decode cX12_readLine 72 = .ok (.aload_n 0, 1) := by decide +kernel
theorem dX12_readLine_73 : decode cX12_readLine 73 = .ok (.getfield 126, 3) := by decide +kernel
theorem dX12_readLine_76 : decode cX12_readLine 76 = .ok (.iload 4, 2) := by decide +kernel
theorem dX12_readLine_78 : decode cX12_readLine 78 = .ok (.aload_n 0, 1) := by decide +kernel
theorem dX12_readLine_79 : decode cX12_readLine 79 = .ok (.getfield 266, 3) := by decide +kernel
theorem dX12_readLine_82 : decode cX12_readLine 82 = .ok (.iastore, 1) := by decide +kernel
theorem dX12_readLine_83 : decode cX12_readLine 83 = .ok (.goto 34, 3) := by decide +kernel
theorem dX12_readLine_86 : decode cX12_readLine 86 = .ok (.iload 5, 2) := by decide +kernel
theorem dX12_readLine_88 : decode cX12_readLine 88 = .ok (.iconst 1, 1) := by decide +kernel
theorem dX12_readLine_89 : decode cX12_readLine 89 = .ok (.if_icmp .ne 17, 3) := by decide +kernel
theorem dX12_readLine_92 : decode cX12_readLine 92 = .ok (.aload_n 0, 1) := by decide +kernel
theorem dX12_readLine_93 : decode cX12_readLine 93 = .ok (.getfield 129, 3) := by decide +kernel
theorem dX12_readLine_96 : decode cX12_readLine 96 = .ok (.iload 4, 2) := by decide +kernel
theorem dX12_readLine_98 : decode cX12_readLine 98 = .ok (.aload_n 0, 1) := by decide +kernel
theorem dX12_readLine_99 : decode cX12_readLine 99 = .ok (.getfield 266, 3) := by decide +kernel
theorem dX12_readLine_102 : decode cX12_readLine 102 = .ok (.iastore, 1) := by decide +kernel
theorem dX12_readLine_103 : decode cX12_readLine 103 = .ok (.goto 14, 3) := by decide +kernel
theorem dX12_readLine_106 : decode cX12_readLine 106 = .ok (.aload_n 0, 1) := by decide +kernel
theorem dX12_readLine_107 : decode cX12_readLine 107 = .ok (.getfield 132, 3) := by decide +kernel
theorem dX12_readLine_110 : decode cX12_readLine 110 = .ok (.iload 4, 2) := by decide +kernel
theorem dX12_readLine_112 : decode cX12_readLine 112 = .ok (.aload_n 0, 1) := by decide +kernel
theorem dX12_readLine_113 : decode cX12_readLine 113 = .ok (.getfield 266, 3) := by decide +kernel
theorem dX12_readLine_116 : decode cX12_readLine 116 = .ok (.iastore, 1) := by decide +kernel
theorem dX12_readLine_117 : decode cX12_readLine 117 = .ok (.iinc 5 1, 3) := by decide +kernel
theorem dX12_readLine_120 : decode cX12_readLine 120 = .ok (.goto (-67), 3) := by decide +kernel
theorem dX12_readLine_123 : decode cX12_readLine 123 = .ok (.aload_n 0, 1) := by decide +kernel
theorem dX12_readLine_124 : decode cX12_readLine 124 = .ok (.invokevirtual 269, 3) := by decide +kernel
theorem dX12_readLine_127 : decode cX12_readLine 127 = .ok (.bipush 59, 2) := by decide +kernel
theorem dX12_readLine_129 : decode cX12_readLine 129 = .ok (.if_icmp .eq 8, 3) := by decide +kernel
theorem dX12_readLine_132 : decode cX12_readLine 132 = .ok (.aload_n 0, 1) := by decide +kernel
theorem dX12_readLine_133 : decode cX12_readLine 133 = .ok (.invokevirtual 263, 3) := by decide +kernel
theorem dX12_readLine_136 : decode cX12_readLine 136 = .ok (.return_, 1) := by decide +kernel
theorem dX12_readLine_137 : decode cX12_readLine 137 = .ok (.aload_n 0, 1) := by decide +kernel
theorem dX12_readLine_138 : decode cX12_readLine 138 = .ok (.dup, 1) := by decide +kernel
theorem dX12_readLine_139 : decode cX12_readLine 139 = .ok (.getfield 248, 3) := by decide +kernel
theorem dX12_readLine_142 : decode cX12_readLine 142 = .ok (.iconst 1, 1) := by decide +kernel
theorem dX12_readLine_143 : decode cX12_readLine 143 = .ok (.iadd, 1) := by decide +kernel
theorem dX12_readLine_144 : decode cX12_readLine 144 = .ok (.putfield 248, 3) := by decide +kernel
theorem dX12_readLine_147 : decode cX12_readLine 147 = .ok (.aload_n 0, 1) := by decide +kernel
theorem dX12_readLine_148 : decode cX12_readLine 148 = .ok (.getfield 120, 3) := by decide +kernel
theorem dX12_readLine_151 : decode cX12_readLine 151 = .ok (.iload_n 1, 1) := by decide +kernel
theorem dX12_readLine_152 : decode cX12_readLine 152 = .ok (.dup2, 1) := by decide +kernel
theorem dX12_readLine_153 : decode cX12_readLine 153 = .ok (.iaload, 1) := by decide +kernel
theorem dX12_readLine_154 : decode cX12_readLine 154 = .ok (.iconst 1, 1) := by decide +kernel
theorem dX12_readLine_155 : decode cX12_readLine 155 = .ok (.iadd, 1) := by decide +kernel
theorem dX12_readLine_156 : decode cX12_readLine 156 = .ok (.iastore, 1) := by decide +kernel
theorem dX12_readLine_157 : decode cX12_readLine 157 = .ok (.return_, 1) := by decide +kernel
theorem dX12_contract_0 : decode cX12_contract 0 = .ok (.aload_n 0, 1) := by decide +kernel
theorem dX12_contract_1 : decode cX12_contract 1 = .ok (.iload_n 1, 1) := by decide +kernel
theorem dX12_contract_2 : decode cX12_contract 2 = .ok (.invokevirtual 169, 3) := by decide +kernel
theorem dX12_contract_5 : decode cX12_contract 5 = .ok (.ifCond .eq 20, 3) := by decide +kernel
theorem dX12_contract_8 : decode cX12_contract 8 = .ok (.iload_n 2, 1) := by decide +kernel
theorem dX12_contract_9 : decode cX12_contract 9 = .ok (.invokestatic 298, 3) := by decide +kernel
theorem dX12_contract_12 : decode cX12_contract 12 = .ok (.ifCond .eq 13, 3) := by decide +kernel
theorem dX12_contract_15 : decode cX12_contract 15 = .ok (.iload_n 3, 1) := by decide +kernel
theorem dX12_contract_16 : decode cX12_contract 16 = .ok (.iconst 0, 1) := by decide +kernel
theorem dX12_contract_17 : decode cX12_contract 17 = .ok (.ldc 164, 2) := by decide +kernel
theorem dX12_contract_19 : decode cX12_contract 19 = .ok (.invokestatic 151, 3) := by decide +kernel
theorem dX12_contract_22 : decode cX12_contract 22 = .ok (.ifCond .ne 5, 3) := by decide +kernel
theorem dX12_contract_25 : decode cX12_contract 25 = .ok (.iconst (-1), 1) := by decide +kernel
theorem dX12_contract_26 : decode cX12_contract 26 = .ok (.ireturn, 1) := by decide +kernel
theorem dX12_contract_27 : decode cX12_contract 27 = .ok (.aload_n 0, 1) := by decide +kernel
theorem dX12_contract_28 : decode cX12_contract 28 = .ok (.iload_n 1, 1) := by decide +kernel
theorem dX12_contract_29 : decode cX12_contract 29 = .ok (.invokevirtual 176, 3) := by decide +kernel
theorem dX12_contract_32 : decode cX12_contract 32 = .ok (.ifCond .eq 6, 3) := by decide +kernel
theorem dX12_contract_35 : decode cX12_contract 35 = .ok (.bipush (-2), 2) := by decide +kernel
theorem dX12_contract_37 : decode cX12_contract 37 = .ok (.ireturn, 1) := by decide +kernel
theorem dX12_contract_38 : decode cX12_contract 38 = .ok (.aload_n 0, 1) := by decide +kernel
theorem dX12_contract_39 : decode cX12_contract 39 = .ok (.iconst 0, 1) := by decide +kernel
theorem dX12_contract_40 : decode cX12_contract 40 = .ok (.putfield 248, 3) := by decide +kernel
theorem dX12_contract_43 : decode cX12_contract 43 = .ok (.aload_n 0, 1) := by decide +kernel
theorem dX12_contract_44 : decode cX12_contract 44 = .ok (.iconst (-1), 1) := by decide +kernel
theorem dX12_contract_45 : decode cX12_contract 45 = .ok (.putfield 251, 3) := by decide +kernel
theorem dX12_contract_48 : decode cX12_contract 48 = .ok (.aload_n 0, 1) := by decide +kernel
theorem dX12_contract_49 : decode cX12_contract 49 = .ok (.getfield 120, 3) := by decide +kernel
theorem dX12_contract_52 : decode cX12_contract 52 = .ok (.bipush 10, 2) := by decide +kernel
theorem dX12_contract_54 : decode cX12_contract 54 = .ok (.iconst 0, 1) := by decide +kernel
theorem dX12_contract_55 : decode cX12_contract 55 = .ok (.iastore, 1) := by decide +kernel
theorem dX12_contract_56 : decode cX12_contract 56 = .ok (.aload_n 0, 1) := by decide +kernel
theorem dX12_contract_57 : decode cX12_contract 57 = .ok (.bipush 10, 2) := by decide +kernel
theorem dX12_contract_59 : decode cX12_contract 59 = .ok (.invokevirtual 343, 3) := by decide +kernel
theorem dX12_contract_62 : decode cX12_contract 62 = .ok (.aload_n 0, 1) := by decide +kernel
theorem dX12_contract_63 : decode cX12_contract 63 = .ok (.getfield 251, 3) := by decide +kernel
theorem dX12_contract_66 : decode cX12_contract 66 = .ok (.ifCond .ge 23, 3) := by decide +kernel
theorem dX12_contract_69 : decode cX12_contract 69 = .ok (.aload_n 0, 1) := by decide +kernel
theorem dX12_contract_70 : decode cX12_contract 70 = .ok (.getfield 248, 3) := by decide +kernel
theorem dX12_contract_73 : decode cX12_contract 73 = .ok (.aload_n 0, 1) := by decide +kernel
theorem dX12_contract_74 : decode cX12_contract 74 = .ok (.getfield 245, 3) := by decide +kernel
theorem dX12_contract_77 : decode cX12_contract 77 = .ok (.if_icmp .ge 12, 3) := by decide +kernel
theorem dX12_contract_80 : decode cX12_contract 80 = .ok (.aload_n 0, 1) := by decide +kernel
theorem dX12_contract_81 : decode cX12_contract 81 = .ok (.bipush 10, 2) := by decide +kernel
theorem dX12_contract_83 : decode cX12_contract 83 = .ok (.invokevirtual 343, 3) := by decide +kernel
theorem dX12_contract_86 : decode cX12_contract 86 = .ok (.goto (-24), 3) := by decide +kernel
theorem dX12_contract_89 : decode cX12_contract 89 = .ok (.aload_n 0, 1) := by decide +kernel
theorem dX12_contract_90 : decode cX12_contract 90 = .ok (.iconst 0, 1) := by decide +kernel
theorem dX12_contract_91 : decode cX12_contract 91 = .ok (.putfield 245, 3) := by decide +kernel
theorem dX12_contract_94 : decode cX12_contract 94 = .ok (.aload_n 0, 1) := by decide +kernel
theorem dX12_contract_95 : decode cX12_contract 95 = .ok (.getfield 251, 3) := by decide +kernel
theorem dX12_contract_98 : decode cX12_contract 98 = .ok (.ifCond .lt 11, 3) := by decide +kernel
theorem dX12_contract_101 : decode cX12_contract 101 = .ok (.bipush (-100), 2) := by decide +kernel
theorem dX12_contract_103 : decode cX12_contract 103 = .ok (.aload_n 0, 1) := by decide +kernel
theorem dX12_contract_104 : decode cX12_contract 104 = .ok (.getfield 251, 3) := by decide +kernel
theorem dX12_contract_107 : decode cX12_contract 107 = .ok (.isub, 1) := by decide +kernel
theorem dX12_contract_108 : decode cX12_contract 108 = .ok (.ireturn, 1) := by decide +kernel
theorem dX12_contract_109 : decode cX12_contract 109 = .ok (.aload_n 0, 1) := by decide +kernel
theorem dX12_contract_110 : decode cX12_contract 110 = .ok (.getfield 120, 3) := by decide +kernel
theorem dX12_contract_113 : decode cX12_contract 113 = .ok (.iload_n 1, 1) := by decide +kernel
theorem dX12_contract_114 : decode cX12_contract 114 = .ok (.aload_n 0, 1) := by decide +kernel
theorem dX12_contract_115 : decode cX12_contract 115 = .ok (.getfield 120, 3) := by decide +kernel
theorem dX12_contract_118 : decode cX12_contract 118 = .ok (.bipush 10, 2) := by decide +kernel
theorem dX12_contract_120 : decode cX12_contract 120 = .ok (.iaload, 1) := by decide +kernel
theorem dX12_contract_121 : decode cX12_contract 121 = .ok (.iastore, 1) := by decide +kernel
theorem dX12_contract_122 : decode cX12_contract 122 = .ok (.iconst 0, 1) := by decide +kernel
theorem dX12_contract_123 : decode cX12_contract 123 = .ok (.istore 4, 2) := by decide +kernel
theorem dX12_contract_125 : decode cX12_contract 125 = .ok (.iload 4, 2) := by decide +kernel
theorem dX12_contract_127 : decode cX12_contract 127 = .ok (.aload_n 0, 1) := by decide +kernel
theorem dX12_contract_128 : decode cX12_contract 128 = .ok (.getfield 120, 3) := by decide +kernel
theorem dX12_contract_131 : decode cX12_contract 131 = .ok (.iload_n 1, 1) := by decide +kernel
theorem dX12_contract_132 : decode cX12_contract 132 = .ok (.iaload, 1) := by decide +kernel
theorem dX12_contract_133 : decode cX12_contract 133 = .ok (.if_icmp .ge 101, 3) := by decide +kernel
theorem dX12_contract_136 : decode cX12_contract 136 = .ok (.aload_n 0, 1) := by decide +kernel
theorem dX12_contract_137 : decode cX12_contract 137 = .ok (.getfield 123, 3) := by decide +kernel
theorem dX12_contract_140 : decode cX12_contract 140 = .ok (.bipush 32, 2) := by decide +kernel
theorem dX12_contract_142 : decode cX12_contract 142 = .ok (.iload_n 1, 1) := by decide +kernel
theorem dX12_contract_143 : decode cX12_contract 143 = .ok (.imul, 1) := by decide +kernel
theorem dX12_contract_144 : decode cX12_contract 144 = .ok (.iload 4, 2) := by decide +kernel
theorem dX12_contract_146 : decode cX12_contract 146 = .ok (.iadd, 1) := by decide +kernel
theorem dX12_contract_147 : decode cX12_contract 147 = .ok (.aload_n 0, 1) := by decide +kernel
theorem dX12_contract_148 : decode cX12_contract 148 = .ok (.getfield 123, 3) := by decide +kernel
theorem dX12_contract_151 : decode cX12_contract 151 = .ok (.sipush 320, 3) := by decide +kernel
theorem dX12_contract_154 : decode cX12_contract 154 = .ok (.iload 4, 2) := by decide +kernel
theorem dX12_contract_156 : decode cX12_contract 156 = .ok (.iadd, 1) := by decide +kernel
theorem dX12_contract_157 : decode cX12_contract 157 = .ok (.iaload, 1) := by decide +kernel
theorem dX12_contract_158 : decode cX12_contract 158 = .ok (.iastore, 1) := by decide +kernel
theorem dX12_contract_159 : decode cX12_contract 159 = .ok (.aload_n 0, 1) := by decide +kernel
theorem dX12_contract_160 : decode cX12_contract 160 = .ok (.getfield 126, 3) := by decide +kernel
theorem dX12_contract_163 : decode cX12_contract 163 = .ok (.bipush 32, 2) := by decide +kernel
theorem dX12_contract_165 : decode cX12_contract 165 = .ok (.iload_n 1, 1) := by decide +kernel
theorem dX12_contract_166 : decode cX12_contract 166 = .ok (.imul, 1) := by decide +kernel
theorem dX12_contract_167 : decode cX12_contract 167 = .ok (.iload 4, 2) := by decide +kernel
theorem dX12_contract_169 : decode cX12_contract 169 = .ok (.iadd, 1) := by decide +kernel
theorem dX12_contract_170 : decode cX12_contract 170 = .ok (.aload_n 0, 1) := by decide +kernel
theorem dX12_contract_171 : decode cX12_contract 171 = .ok (.getfield 126, 3) := by decide +kernel
theorem dX12_contract_174 : decode cX12_contract 174 = .ok (.sipush 320, 3) := by decide +kernel
theorem dX12_contract_177 : decode cX12_contract 177 = .ok (.iload 4, 2) := by decide +kernel
theorem dX12_contract_179 : decode cX12_contract 179 = .ok (.iadd, 1) := by decide +kernel
theorem dX12_contract_180 : decode cX12_contract 180 = .ok (.iaload, 1) := by decide +kernel
theorem dX12_contract_181 : decode cX12_contract 181 = .ok (.iastore, 1) := by decide +kernel
theorem dX12_contract_182 : decode cX12_contract 182 = .ok (.aload_n 0, 1) := by decide +kernel
theorem dX12_contract_183 : decode cX12_contract 183 = .ok (.getfield 129, 3) := by decide +kernel
theorem dX12_contract_186 : decode cX12_contract 186 = .ok (.bipush 32, 2) := by decide +kernel
theorem dX12_contract_188 : decode cX12_contract 188 = .ok (.iload_n 1, 1) := by decide +kernel
theorem dX12_contract_189 : decode cX12_contract 189 = .ok (.imul, 1) := by decide +kernel
theorem dX12_contract_190 : decode cX12_contract 190 = .ok (.iload 4, 2) := by decide +kernel
theorem dX12_contract_192 : decode cX12_contract 192 = .ok (.iadd, 1) := by decide +kernel
theorem dX12_contract_193 : decode cX12_contract 193 = .ok (.aload_n 0, 1) := by decide +kernel
theorem dX12_contract_194 : decode cX12_contract 194 = .ok (.getfield 129, 3) := by decide +kernel
theorem dX12_contract_197 : decode cX12_contract 197 = .ok (.sipush 320, 3) := by decide +kernel
theorem dX12_contract_200 : decode cX12_contract 200 = .ok (.iload 4, 2) := by decide +kernel
theorem dX12_contract_202 : decode cX12_contract 202 = .ok (.iadd, 1) := by decide +kernel
theorem dX12_contract_203 : decode cX12_contract 203 = .ok (.iaload, 1) := by decide +kernel
theorem dX12_contract_204 : decode cX12_contract 204 = .ok (.iastore, 1) := by decide +kernel
theorem dX12_contract_205 : decode cX12_contract 205 = .ok (.aload_n 0, 1) := by decide +kernel
theorem dX12_contract_206 : decode cX12_contract 206 = .ok (.getfield 132, 3) := by decide +kernel
theorem dX12_contract_209 : decode cX12_contract 209 = .ok (.bipush 32, 2) := by decide +kernel
theorem dX12_contract_211 : decode cX12_contract 211 = .ok (.iload_n 1, 1) := by decide +kernel
theorem dX12_contract_212 : decode cX12_contract 212 = .ok (.imul, 1) := by decide +kernel
theorem dX12_contract_213 : decode cX12_contract 213 = .ok (.iload 4, 2) := by decide +kernel
theorem dX12_contract_215 : decode cX12_contract 215 = .ok (.iadd, 1) := by decide +kernel
theorem dX12_contract_216 : decode cX12_contract 216 = .ok (.aload_n 0, 1) := by decide +kernel
theorem dX12_contract_217 : decode cX12_contract 217 = .ok (.getfield 132, 3) := by decide +kernel
theorem dX12_contract_220 : decode cX12_contract 220 = .ok (.sipush 320, 3) := by decide +kernel
theorem dX12_contract_223 : decode cX12_contract 223 = .ok (.iload 4, 2) := by decide +kernel
theorem dX12_contract_225 : decode cX12_contract 225 = .ok (.iadd, 1) := by decide +kernel
theorem dX12_contract_226 : decode cX12_contract 226 = .ok (.iaload, 1) := by decide +kernel
theorem dX12_contract_227 : decode cX12_contract 227 = .ok (.iastore, 1) := by decide +kernel
theorem dX12_contract_228 : decode cX12_contract 228 = .ok (.iinc 4 1, 3) := by decide +kernel
theorem dX12_contract_231 : decode cX12_contract 231 = .ok (.goto (-106), 3) := by decide +kernel
theorem dX12_contract_234 : decode cX12_contract 234 = .ok (.aload_n 0, 1) := by decide +kernel
theorem dX12_contract_235 : decode cX12_contract 235 = .ok (.getfield 114, 3) := by decide +kernel
theorem dX12_contract_238 : decode cX12_contract 238 = .ok (.iload_n 1, 1) := by decide +kernel
theorem dX12_contract_239 : decode cX12_contract 239 = .ok (.iload_n 2, 1) := by decide +kernel
theorem dX12_contract_240 : decode cX12_contract 240 = .ok (.iastore, 1) := by decide +kernel
theorem dX12_contract_241 : decode cX12_contract 241 = .ok (.aload_n 0, 1) := by decide +kernel
theorem dX12_contract_242 : decode cX12_contract 242 = .ok (.getfield 117, 3) := by decide +kernel
theorem dX12_contract_245 : decode cX12_contract 245 = .ok (.iload_n 1, 1) := by decide +kernel
theorem dX12_contract_246 : decode cX12_contract 246 = .ok (.iload_n 3, 1) := by decide +kernel
theorem dX12_contract_247 : decode cX12_contract 247 = .ok (.iastore, 1) := by decide +kernel
theorem dX12_contract_248 : decode cX12_contract 248 = .ok (.aload_n 0, 1) := by decide +kernel
theorem dX12_contract_249 : decode cX12_contract 249 = .ok (.getfield 120, 3) := by decide +kernel
theorem dX12_contract_252 : decode cX12_contract 252 = .ok (.iload_n 1, 1) := by decide +kernel
theorem dX12_contract_253 : decode cX12_contract 253 = .ok (.iaload, 1) := by decide +kernel
theorem dX12_contract_254 : decode cX12_contract 254 = .ok (.ireturn, 1) := by decide +kernel
theorem dX12_board_0 : decode cX12_board 0 = .ok (.iconst 0, 1) := by decide +kernel
theorem dX12_board_1 : decode cX12_board 1 = .ok (.istore_n 2, 1) := by decide +kernel
theorem dX12_board_2 : decode cX12_board 2 = .ok (.iload_n 2, 1) := by decide +kernel
theorem dX12_board_3 : decode cX12_board 3 = .ok (.aload_n 0, 1) := by decide +kernel
theorem dX12_board_4 : decode cX12_board 4 = .ok (.getfield 166, 3) := by decide +kernel
theorem dX12_board_7 : decode cX12_board 7 = .ok (.if_icmp .ge 30, 3) := by decide +kernel
theorem dX12_board_10 : decode cX12_board 10 = .ok (.aload_n 0, 1) := by decide +kernel
theorem dX12_board_11 : decode cX12_board 11 = .ok (.getfield 135, 3) := by decide +kernel
theorem dX12_board_14 : decode cX12_board 14 = .ok (.iload_n 2, 1) := by decide +kernel
theorem dX12_board_15 : decode cX12_board 15 = .ok (.aload_n 0, 1) := by decide +kernel
theorem dX12_board_16 : decode cX12_board 16 = .ok (.getfield 46, 3) := by decide +kernel
theorem dX12_board_19 : decode cX12_board 19 = .ok (.iload_n 2, 1) := by decide +kernel
theorem dX12_board_20 : decode cX12_board 20 = .ok (.iaload, 1) := by decide +kernel
theorem dX12_board_21 : decode cX12_board 21 = .ok (.iload_n 1, 1) := by decide +kernel
theorem dX12_board_22 : decode cX12_board 22 = .ok (.if_icmp .ne 7, 3) := by decide +kernel
theorem dX12_board_25 : decode cX12_board 25 = .ok (.iconst 1, 1) := by decide +kernel
theorem dX12_board_26 : decode cX12_board 26 = .ok (.goto 4, 3) := by decide +kernel
theorem dX12_board_29 : decode cX12_board 29 = .ok (.iconst 0, 1) := by decide +kernel
theorem dX12_board_30 : decode cX12_board 30 = .ok (.bastore, 1) := by decide +kernel
theorem dX12_board_31 : decode cX12_board 31 = .ok (.iinc 2 1, 3) := by decide +kernel
theorem dX12_board_34 : decode cX12_board 34 = .ok (.goto (-32), 3) := by decide +kernel
theorem dX12_board_37 : decode cX12_board 37 = .ok (.return_, 1) := by decide +kernel
theorem dX12_late_0 : decode cX12_late 0 = .ok (.iload_n 2, 1) := by decide +kernel
theorem dX12_late_1 : decode cX12_late 1 = .ok (.aload_n 0, 1) := by decide +kernel
theorem dX12_late_2 : decode cX12_late 2 = .ok (.getfield 114, 3) := by decide +kernel
theorem dX12_late_5 : decode cX12_late 5 = .ok (.iload_n 1, 1) := by decide +kernel
theorem dX12_late_6 : decode cX12_late 6 = .ok (.iaload, 1) := by decide +kernel
theorem dX12_late_7 : decode cX12_late 7 = .ok (.if_icmp .le 14, 3) := by decide +kernel
theorem dX12_late_10 : decode cX12_late 10 = .ok (.iload_n 2, 1) := by decide +kernel
theorem dX12_late_11 : decode cX12_late 11 = .ok (.aload_n 0, 1) := by decide +kernel
theorem dX12_late_12 : decode cX12_late 12 = .ok (.getfield 114, 3) := by decide +kernel
theorem dX12_late_15 : decode cX12_late 15 = .ok (.iload_n 1, 1) := by decide +kernel
theorem dX12_late_16 : decode cX12_late 16 = .ok (.iaload, 1) := by decide +kernel
theorem dX12_late_17 : decode cX12_late 17 = .ok (.isub, 1) := by decide +kernel
theorem dX12_late_18 : decode cX12_late 18 = .ok (.goto 4, 3) := by decide +kernel
theorem dX12_late_21 : decode cX12_late 21 = .ok (.iconst 0, 1) := by decide +kernel
theorem dX12_late_22 : decode cX12_late 22 = .ok (.ireturn, 1) := by decide +kernel
theorem dX12_lacksOf_0 : decode cX12_lacksOf 0 = .ok (.bipush 32, 2) := by decide +kernel
theorem dX12_lacksOf_2 : decode cX12_lacksOf 2 = .ok (.iload_n 1, 1) := by decide +kernel
theorem dX12_lacksOf_3 : decode cX12_lacksOf 3 = .ok (.imul, 1) := by decide +kernel
theorem dX12_lacksOf_4 : decode cX12_lacksOf 4 = .ok (.iload_n 2, 1) := by decide +kernel
theorem dX12_lacksOf_5 : decode cX12_lacksOf 5 = .ok (.iadd, 1) := by decide +kernel
theorem dX12_lacksOf_6 : decode cX12_lacksOf 6 = .ok (.istore 5, 2) := by decide +kernel
theorem dX12_lacksOf_8 : decode cX12_lacksOf 8 = .ok (.aload_n 0, 1) := by decide +kernel
theorem dX12_lacksOf_9 : decode cX12_lacksOf 9 = .ok (.getfield 123, 3) := by decide +kernel
theorem dX12_lacksOf_12 : decode cX12_lacksOf 12 = .ok (.iload 5, 2) := by decide +kernel
theorem dX12_lacksOf_14 : decode cX12_lacksOf 14 = .ok (.iaload, 1) := by decide +kernel
theorem dX12_lacksOf_15 : decode cX12_lacksOf 15 = .ok (.istore 6, 2) := by decide +kernel
theorem dX12_lacksOf_17 : decode cX12_lacksOf 17 = .ok (.iconst 0, 1) := by decide +kernel
theorem dX12_lacksOf_18 : decode cX12_lacksOf 18 = .ok (.istore 7, 2) := by decide +kernel
theorem dX12_lacksOf_20 : decode cX12_lacksOf 20 = .ok (.iload 6, 2) := by decide +kernel
theorem dX12_lacksOf_22 : decode cX12_lacksOf 22 = .ok (.tableswitch 409 100 111 #[62, 409, 409, 192, 62, 409, 409, 409, 62, 294, 409, 238], 62) := by decide +kernel
theorem dX12_lacksOf_84 : decode cX12_lacksOf 84 = .ok (.iload 6, 2) := by decide +kernel
theorem dX12_lacksOf_86 : decode cX12_lacksOf 86 = .ok (.bipush 104, 2) := by decide +kernel
theorem dX12_lacksOf_88 : decode cX12_lacksOf 88 = .ok (.if_icmp .ne 7, 3) := by decide +kernel
theorem dX12_lacksOf_91 : decode cX12_lacksOf 91 = .ok (.iconst 0, 1) := by decide +kernel
theorem dX12_lacksOf_92 : decode cX12_lacksOf 92 = .ok (.goto 15, 3) := by decide +kernel
theorem dX12_lacksOf_95 : decode cX12_lacksOf 95 = .ok (.iload 6, 2) := by decide +kernel
theorem dX12_lacksOf_97 : decode cX12_lacksOf 97 = .ok (.bipush 108, 2) := by decide +kernel
theorem dX12_lacksOf_99 : decode cX12_lacksOf 99 = .ok (.if_icmp .ne 7, 3) := by decide +kernel
theorem dX12_lacksOf_102 : decode cX12_lacksOf 102 = .ok (.iconst 1, 1) := by decide +kernel
theorem dX12_lacksOf_103 : decode cX12_lacksOf 103 = .ok (.goto 4, 3) := by decide +kernel
theorem dX12_lacksOf_106 : decode cX12_lacksOf 106 = .ok (.iconst 2, 1) := by decide +kernel
theorem dX12_lacksOf_107 : decode cX12_lacksOf 107 = .ok (.istore 8, 2) := by decide +kernel
theorem dX12_lacksOf_109 : decode cX12_lacksOf 109 = .ok (.iconst 0, 1) := by decide +kernel
theorem dX12_lacksOf_110 : decode cX12_lacksOf 110 = .ok (.istore 9, 2) := by decide +kernel
theorem dX12_lacksOf_112 : decode cX12_lacksOf 112 = .ok (.iload 9, 2) := by decide +kernel
theorem dX12_lacksOf_114 : decode cX12_lacksOf 114 = .ok (.aload_n 0, 1) := by decide +kernel
theorem dX12_lacksOf_115 : decode cX12_lacksOf 115 = .ok (.getfield 166, 3) := by decide +kernel
theorem dX12_lacksOf_118 : decode cX12_lacksOf 118 = .ok (.if_icmp .ge 93, 3) := by decide +kernel
theorem dX12_lacksOf_121 : decode cX12_lacksOf 121 = .ok (.aload_n 0, 1) := by decide +kernel
theorem dX12_lacksOf_122 : decode cX12_lacksOf 122 = .ok (.getfield 135, 3) := by decide +kernel
theorem dX12_lacksOf_125 : decode cX12_lacksOf 125 = .ok (.iload 9, 2) := by decide +kernel
theorem dX12_lacksOf_127 : decode cX12_lacksOf 127 = .ok (.baload, 1) := by decide +kernel
