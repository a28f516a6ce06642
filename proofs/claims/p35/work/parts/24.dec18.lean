theorem dX12_best_111 : decode cX12_best 111 = .ok (.bipush (-4), 2) := by decide +kernel
theorem dX12_best_113 : decode cX12_best 113 = .ok (.ireturn, 1) := by decide +kernel
theorem dX12_best_114 : decode cX12_best 114 = .ok (.aload_n 0, 1) := by decide +kernel
theorem dX12_best_115 : decode cX12_best 115 = .ok (.getfield 138, 3) := by decide +kernel
theorem dX12_best_118 : decode cX12_best 118 = .ok (.iload_n 3, 1) := by decide +kernel
theorem dX12_best_119 : decode cX12_best 119 = .ok (.iload 5, 2) := by decide +kernel
theorem dX12_best_121 : decode cX12_best 121 = .ok (.iastore, 1) := by decide +kernel
theorem dX12_best_122 : decode cX12_best 122 = .ok (.iload 4, 2) := by decide +kernel
theorem dX12_best_124 : decode cX12_best 124 = .ok (.aload_n 0, 1) := by decide +kernel
theorem dX12_best_125 : decode cX12_best 125 = .ok (.getfield 46, 3) := by decide +kernel
theorem dX12_best_128 : decode cX12_best 128 = .ok (.iload 5, 2) := by decide +kernel
theorem dX12_best_130 : decode cX12_best 130 = .ok (.iaload, 1) := by decide +kernel
theorem dX12_best_131 : decode cX12_best 131 = .ok (.iload_n 1, 1) := by decide +kernel
theorem dX12_best_132 : decode cX12_best 132 = .ok (.if_icmp .ne 9, 3) := by decide +kernel
theorem dX12_best_135 : decode cX12_best 135 = .ok (.iconst 1, 1) := by decide +kernel
theorem dX12_best_136 : decode cX12_best 136 = .ok (.iload_n 3, 1) := by decide +kernel
theorem dX12_best_137 : decode cX12_best 137 = .ok (.ishl, 1) := by decide +kernel
theorem dX12_best_138 : decode cX12_best 138 = .ok (.goto 4, 3) := by decide +kernel
theorem dX12_best_141 : decode cX12_best 141 = .ok (.iconst 0, 1) := by decide +kernel
theorem dX12_best_142 : decode cX12_best 142 = .ok (.ior, 1) := by decide +kernel
theorem dX12_best_143 : decode cX12_best 143 = .ok (.istore 4, 2) := by decide +kernel
theorem dX12_best_145 : decode cX12_best 145 = .ok (.iinc 3 1, 3) := by decide +kernel
theorem dX12_best_148 : decode cX12_best 148 = .ok (.iinc 5 1, 3) := by decide +kernel
theorem dX12_best_151 : decode cX12_best 151 = .ok (.goto (-92), 3) := by decide +kernel
theorem dX12_best_154 : decode cX12_best 154 = .ok (.aload_n 0, 1) := by decide +kernel
theorem dX12_best_155 : decode cX12_best 155 = .ok (.getfield 34, 3) := by decide +kernel
theorem dX12_best_158 : decode cX12_best 158 = .ok (.bipush 10, 2) := by decide +kernel
theorem dX12_best_160 : decode cX12_best 160 = .ok (.iload_n 1, 1) := by decide +kernel
theorem dX12_best_161 : decode cX12_best 161 = .ok (.imul, 1) := by decide +kernel
theorem dX12_best_162 : decode cX12_best 162 = .ok (.iload_n 2, 1) := by decide +kernel
theorem dX12_best_163 : decode cX12_best 163 = .ok (.iadd, 1) := by decide +kernel
theorem dX12_best_164 : decode cX12_best 164 = .ok (.iaload, 1) := by decide +kernel
theorem dX12_best_165 : decode cX12_best 165 = .ok (.iload_n 3, 1) := by decide +kernel
theorem dX12_best_166 : decode cX12_best 166 = .ok (.if_icmp .ge 17, 3) := by decide +kernel
theorem dX12_best_169 : decode cX12_best 169 = .ok (.aload_n 0, 1) := by decide +kernel
theorem dX12_best_170 : decode cX12_best 170 = .ok (.getfield 34, 3) := by decide +kernel
theorem dX12_best_173 : decode cX12_best 173 = .ok (.bipush 10, 2) := by decide +kernel
theorem dX12_best_175 : decode cX12_best 175 = .ok (.iload_n 1, 1) := by decide +kernel
theorem dX12_best_176 : decode cX12_best 176 = .ok (.imul, 1) := by decide +kernel
theorem dX12_best_177 : decode cX12_best 177 = .ok (.iload_n 2, 1) := by decide +kernel
theorem dX12_best_178 : decode cX12_best 178 = .ok (.iadd, 1) := by decide +kernel
theorem dX12_best_179 : decode cX12_best 179 = .ok (.iaload, 1) := by decide +kernel
theorem dX12_best_180 : decode cX12_best 180 = .ok (.goto 4, 3) := by decide +kernel
theorem dX12_best_183 : decode cX12_best 183 = .ok (.iload_n 3, 1) := by decide +kernel
theorem dX12_best_184 : decode cX12_best 184 = .ok (.istore 5, 2) := by decide +kernel
theorem dX12_best_186 : decode cX12_best 186 = .ok (.aload_n 0, 1) := by decide +kernel
theorem dX12_best_187 : decode cX12_best 187 = .ok (.iload_n 1, 1) := by decide +kernel
theorem dX12_best_188 : decode cX12_best 188 = .ok (.invokevirtual 359, 3) := by decide +kernel
theorem dX12_best_191 : decode cX12_best 191 = .ok (.iconst (-1), 1) := by decide +kernel
theorem dX12_best_192 : decode cX12_best 192 = .ok (.istore 6, 2) := by decide +kernel
theorem dX12_best_194 : decode cX12_best 194 = .ok (.iconst 0, 1) := by decide +kernel
theorem dX12_best_195 : decode cX12_best 195 = .ok (.istore 7, 2) := by decide +kernel
theorem dX12_best_197 : decode cX12_best 197 = .ok (.iconst 0, 1) := by decide +kernel
theorem dX12_best_198 : decode cX12_best 198 = .ok (.istore 8, 2) := by decide +kernel
theorem dX12_best_200 : decode cX12_best 200 = .ok (.iload 8, 2) := by decide +kernel
theorem dX12_best_202 : decode cX12_best 202 = .ok (.iconst 1, 1) := by decide +kernel
theorem dX12_best_203 : decode cX12_best 203 = .ok (.iload_n 3, 1) := by decide +kernel
theorem dX12_best_204 : decode cX12_best 204 = .ok (.ishl, 1) := by decide +kernel
theorem dX12_best_205 : decode cX12_best 205 = .ok (.if_icmp .ge 162, 3) := by decide +kernel
theorem dX12_best_208 : decode cX12_best 208 = .ok (.iload 8, 2) := by decide +kernel
theorem dX12_best_210 : decode cX12_best 210 = .ok (.invokestatic 365, 3) := by decide +kernel
theorem dX12_best_213 : decode cX12_best 213 = .ok (.iload 5, 2) := by decide +kernel
theorem dX12_best_215 : decode cX12_best 215 = .ok (.if_icmp .eq 6, 3) := by decide +kernel
theorem dX12_best_218 : decode cX12_best 218 = .ok (.goto 143, 3) := by decide +kernel
theorem dX12_best_221 : decode cX12_best 221 = .ok (.iconst 0, 1) := by decide +kernel
theorem dX12_best_222 : decode cX12_best 222 = .ok (.istore 9, 2) := by decide +kernel
theorem dX12_best_224 : decode cX12_best 224 = .ok (.iload 9, 2) := by decide +kernel
theorem dX12_best_226 : decode cX12_best 226 = .ok (.iload_n 3, 1) := by decide +kernel
theorem dX12_best_227 : decode cX12_best 227 = .ok (.if_icmp .ge 37, 3) := by decide +kernel
theorem dX12_best_230 : decode cX12_best 230 = .ok (.aload_n 0, 1) := by decide +kernel
theorem dX12_best_231 : decode cX12_best 231 = .ok (.getfield 135, 3) := by decide +kernel
theorem dX12_best_234 : decode cX12_best 234 = .ok (.aload_n 0, 1) := by decide +kernel
theorem dX12_best_235 : decode cX12_best 235 = .ok (.getfield 138, 3) := by decide +kernel
theorem dX12_best_238 : decode cX12_best 238 = .ok (.iload 9, 2) := by decide +kernel
theorem dX12_best_240 : decode cX12_best 240 = .ok (.iaload, 1) := by decide +kernel
theorem dX12_best_241 : decode cX12_best 241 = .ok (.iload 8, 2) := by decide +kernel
theorem dX12_best_243 : decode cX12_best 243 = .ok (.iload 9, 2) := by decide +kernel
theorem dX12_best_245 : decode cX12_best 245 = .ok (.ishr, 1) := by decide +kernel
theorem dX12_best_246 : decode cX12_best 246 = .ok (.iconst 1, 1) := by decide +kernel
theorem dX12_best_247 : decode cX12_best 247 = .ok (.iand, 1) := by decide +kernel
theorem dX12_best_248 : decode cX12_best 248 = .ok (.iconst 1, 1) := by decide +kernel
theorem dX12_best_249 : decode cX12_best 249 = .ok (.if_icmp .ne 7, 3) := by decide +kernel
theorem dX12_best_252 : decode cX12_best 252 = .ok (.iconst 1, 1) := by decide +kernel
theorem dX12_best_253 : decode cX12_best 253 = .ok (.goto 4, 3) := by decide +kernel
theorem dX12_best_256 : decode cX12_best 256 = .ok (.iconst 0, 1) := by decide +kernel
theorem dX12_best_257 : decode cX12_best 257 = .ok (.bastore, 1) := by decide +kernel
theorem dX12_best_258 : decode cX12_best 258 = .ok (.iinc 9 1, 3) := by decide +kernel
theorem dX12_best_261 : decode cX12_best 261 = .ok (.goto (-37), 3) := by decide +kernel
theorem dX12_best_264 : decode cX12_best 264 = .ok (.aload_n 0, 1) := by decide +kernel
theorem dX12_best_265 : decode cX12_best 265 = .ok (.iload_n 1, 1) := by decide +kernel
theorem dX12_best_266 : decode cX12_best 266 = .ok (.aload_n 0, 1) := by decide +kernel
theorem dX12_best_267 : decode cX12_best 267 = .ok (.getfield 183, 3) := by decide +kernel
theorem dX12_best_270 : decode cX12_best 270 = .ok (.aload_n 0, 1) := by decide +kernel
theorem dX12_best_271 : decode cX12_best 271 = .ok (.getfield 183, 3) := by decide +kernel
theorem dX12_best_274 : decode cX12_best 274 = .ok (.invokevirtual 362, 3) := by decide +kernel
theorem dX12_best_277 : decode cX12_best 277 = .ok (.istore 9, 2) := by decide +kernel
theorem dX12_best_279 : decode cX12_best 279 = .ok (.iload 6, 2) := by decide +kernel
theorem dX12_best_281 : decode cX12_best 281 = .ok (.ifCond .lt 72, 3) := by decide +kernel
theorem dX12_best_284 : decode cX12_best 284 = .ok (.iload 8, 2) := by decide +kernel
theorem dX12_best_286 : decode cX12_best 286 = .ok (.iload 4, 2) := by decide +kernel
theorem dX12_best_288 : decode cX12_best 288 = .ok (.iconst (-1), 1) := by decide +kernel
theorem dX12_best_289 : decode cX12_best 289 = .ok (.ixor, 1) := by decide +kernel
theorem dX12_best_290 : decode cX12_best 290 = .ok (.iand, 1) := by decide +kernel
theorem dX12_best_291 : decode cX12_best 291 = .ok (.invokestatic 365, 3) := by decide +kernel
theorem dX12_best_294 : decode cX12_best 294 = .ok (.iload 6, 2) := by decide +kernel
theorem dX12_best_296 : decode cX12_best 296 = .ok (.iload 4, 2) := by decide +kernel
theorem dX12_best_298 : decode cX12_best 298 = .ok (.iconst (-1), 1) := by decide +kernel
theorem dX12_best_299 : decode cX12_best 299 = .ok (.ixor, 1) := by decide +kernel
theorem dX12_best_300 : decode cX12_best 300 = .ok (.iand, 1) := by decide +kernel
theorem dX12_best_301 : decode cX12_best 301 = .ok (.invokestatic 365, 3) := by decide +kernel
theorem dX12_best_304 : decode cX12_best 304 = .ok (.isub, 1) := by decide +kernel
theorem dX12_best_305 : decode cX12_best 305 = .ok (.istore 10, 2) := by decide +kernel
theorem dX12_best_307 : decode cX12_best 307 = .ok (.iload 8, 2) := by decide +kernel
theorem dX12_best_309 : decode cX12_best 309 = .ok (.iload 6, 2) := by decide +kernel
theorem dX12_best_311 : decode cX12_best 311 = .ok (.ixor, 1) := by decide +kernel
theorem dX12_best_312 : decode cX12_best 312 = .ok (.istore 11, 2) := by decide +kernel
theorem dX12_best_314 : decode cX12_best 314 = .ok (.iload 9, 2) := by decide +kernel
theorem dX12_best_316 : decode cX12_best 316 = .ok (.iload 7, 2) := by decide +kernel
theorem dX12_best_318 : decode cX12_best 318 = .ok (.if_icmp .gt 43, 3) := by decide +kernel
theorem dX12_best_321 : decode cX12_best 321 = .ok (.iload 9, 2) := by decide +kernel
theorem dX12_best_323 : decode cX12_best 323 = .ok (.iload 7, 2) := by decide +kernel
theorem dX12_best_325 : decode cX12_best 325 = .ok (.if_icmp .ne 28, 3) := by decide +kernel
theorem dX12_best_328 : decode cX12_best 328 = .ok (.iload 10, 2) := by decide +kernel
theorem dX12_best_330 : decode cX12_best 330 = .ok (.ifCond .gt 31, 3) := by decide +kernel
theorem dX12_best_333 : decode cX12_best 333 = .ok (.iload 10, 2) := by decide +kernel
theorem dX12_best_335 : decode cX12_best 335 = .ok (.ifCond .ne 18, 3) := by decide +kernel
theorem dX12_best_338 : decode cX12_best 338 = .ok (.iload 8, 2) := by decide +kernel
theorem dX12_best_340 : decode cX12_best 340 = .ok (.iload 11, 2) := by decide +kernel
theorem dX12_best_342 : decode cX12_best 342 = .ok (.iand, 1) := by decide +kernel
theorem dX12_best_343 : decode cX12_best 343 = .ok (.iload 11, 2) := by decide +kernel
theorem dX12_best_345 : decode cX12_best 345 = .ok (.ineg, 1) := by decide +kernel
theorem dX12_best_346 : decode cX12_best 346 = .ok (.iand, 1) := by decide +kernel
theorem dX12_best_347 : decode cX12_best 347 = .ok (.ifCond .ne 6, 3) := by decide +kernel
theorem dX12_best_350 : decode cX12_best 350 = .ok (.goto 11, 3) := by decide +kernel
theorem dX12_best_353 : decode cX12_best 353 = .ok (.iload 8, 2) := by decide +kernel
theorem dX12_best_355 : decode cX12_best 355 = .ok (.istore 6, 2) := by decide +kernel
theorem dX12_best_357 : decode cX12_best 357 = .ok (.iload 9, 2) := by decide +kernel
theorem dX12_best_359 : decode cX12_best 359 = .ok (.istore 7, 2) := by decide +kernel
theorem dX12_best_361 : decode cX12_best 361 = .ok (.iinc 8 1, 3) := by decide +kernel
theorem dX12_best_364 : decode cX12_best 364 = .ok (.goto (-164), 3) := by decide +kernel
theorem dX12_best_367 : decode cX12_best 367 = .ok (.aload_n 0, 1) := by decide +kernel
theorem dX12_best_368 : decode cX12_best 368 = .ok (.iconst 1, 1) := by decide +kernel
theorem dX12_best_369 : decode cX12_best 369 = .ok (.putfield 368, 3) := by decide +kernel
theorem dX12_best_372 : decode cX12_best 372 = .ok (.aload_n 0, 1) := by decide +kernel
theorem dX12_best_373 : decode cX12_best 373 = .ok (.iload 7, 2) := by decide +kernel
theorem dX12_best_375 : decode cX12_best 375 = .ok (.putfield 372, 3) := by decide +kernel
theorem dX12_best_378 : decode cX12_best 378 = .ok (.iload 6, 2) := by decide +kernel
theorem dX12_best_380 : decode cX12_best 380 = .ok (.ireturn, 1) := by decide +kernel
theorem dX12_bestCost_0 : decode cX12_bestCost 0 = .ok (.aload_n 0, 1) := by decide +kernel
theorem dX12_bestCost_1 : decode cX12_bestCost 1 = .ok (.getfield 368, 3) := by decide +kernel
theorem dX12_bestCost_4 : decode cX12_bestCost 4 = .ok (.ifCond .eq 10, 3) := by decide +kernel
theorem dX12_bestCost_7 : decode cX12_bestCost 7 = .ok (.aload_n 0, 1) := by decide +kernel
theorem dX12_bestCost_8 : decode cX12_bestCost 8 = .ok (.getfield 372, 3) := by decide +kernel
theorem dX12_bestCost_11 : decode cX12_bestCost 11 = .ok (.goto 5, 3) := by decide +kernel
theorem dX12_bestCost_14 : decode cX12_bestCost 14 = .ok (.ldc 236, 2) := by decide +kernel
theorem dX12_bestCost_16 : decode cX12_bestCost 16 = .ok (.ireturn, 1) := by decide +kernel
theorem dX12_reserve_0 : decode cX12_reserve 0 = .ok (.aload_n 0, 1) := by decide +kernel
theorem dX12_reserve_1 : decode cX12_reserve 1 = .ok (.iload_n 1, 1) := by decide +kernel
theorem dX12_reserve_2 : decode cX12_reserve 2 = .ok (.invokevirtual 169, 3) := by decide +kernel
theorem dX12_reserve_5 : decode cX12_reserve 5 = .ok (.ifCond .eq 25, 3) := by decide +kernel
theorem dX12_reserve_8 : decode cX12_reserve 8 = .ok (.aload_n 0, 1) := by decide +kernel
theorem dX12_reserve_9 : decode cX12_reserve 9 = .ok (.iload_n 2, 1) := by decide +kernel
theorem dX12_reserve_10 : decode cX12_reserve 10 = .ok (.invokevirtual 173, 3) := by decide +kernel
theorem dX12_reserve_13 : decode cX12_reserve 13 = .ok (.ifCond .eq 17, 3) := by decide +kernel
theorem dX12_reserve_16 : decode cX12_reserve 16 = .ok (.aload_n 0, 1) := by decide +kernel
theorem dX12_reserve_17 : decode cX12_reserve 17 = .ok (.getfield 37, 3) := by decide +kernel
theorem dX12_reserve_20 : decode cX12_reserve 20 = .ok (.bipush 10, 2) := by decide +kernel
theorem dX12_reserve_22 : decode cX12_reserve 22 = .ok (.iload_n 1, 1) := by decide +kernel
theorem dX12_reserve_23 : decode cX12_reserve 23 = .ok (.imul, 1) := by decide +kernel
theorem dX12_reserve_24 : decode cX12_reserve 24 = .ok (.iload_n 2, 1) := by decide +kernel
theorem dX12_reserve_25 : decode cX12_reserve 25 = .ok (.iadd, 1) := by decide +kernel
theorem dX12_reserve_26 : decode cX12_reserve 26 = .ok (.iaload, 1) := by decide +kernel
theorem dX12_reserve_27 : decode cX12_reserve 27 = .ok (.goto 4, 3) := by decide +kernel
theorem dX12_reserve_30 : decode cX12_reserve 30 = .ok (.iconst (-1), 1) := by decide +kernel
theorem dX12_reserve_31 : decode cX12_reserve 31 = .ok (.ireturn, 1) := by decide +kernel
theorem dX12_claim_0 : decode cX12_claim 0 = .ok (.aload_n 0, 1) := by decide +kernel
theorem dX12_claim_1 : decode cX12_claim 1 = .ok (.iload_n 1, 1) := by decide +kernel
theorem dX12_claim_2 : decode cX12_claim 2 = .ok (.invokevirtual 202, 3) := by decide +kernel
theorem dX12_claim_5 : decode cX12_claim 5 = .ok (.ifCond .eq 13, 3) := by decide +kernel
theorem dX12_claim_8 : decode cX12_claim 8 = .ok (.iload_n 2, 1) := by decide +kernel
theorem dX12_claim_9 : decode cX12_claim 9 = .ok (.iconst 1, 1) := by decide +kernel
theorem dX12_claim_10 : decode cX12_claim 10 = .ok (.ldc 165, 2) := by decide +kernel
theorem dX12_claim_12 : decode cX12_claim 12 = .ok (.invokestatic 151, 3) := by decide +kernel
theorem dX12_claim_15 : decode cX12_claim 15 = .ok (.ifCond .ne 5, 3) := by decide +kernel
theorem dX12_claim_18 : decode cX12_claim 18 = .ok (.iconst (-1), 1) := by decide +kernel
theorem dX12_claim_19 : decode cX12_claim 19 = .ok (.ireturn, 1) := by decide +kernel
theorem dX12_claim_20 : decode cX12_claim 20 = .ok (.aload_n 0, 1) := by decide +kernel
theorem dX12_claim_21 : decode cX12_claim 21 = .ok (.getfield 46, 3) := by decide +kernel
theorem dX12_claim_24 : decode cX12_claim 24 = .ok (.iload_n 1, 1) := by decide +kernel
theorem dX12_claim_25 : decode cX12_claim 25 = .ok (.iaload, 1) := by decide +kernel
theorem dX12_claim_26 : decode cX12_claim 26 = .ok (.bipush 10, 2) := by decide +kernel
theorem dX12_claim_28 : decode cX12_claim 28 = .ok (.if_icmp .eq 6, 3) := by decide +kernel
theorem dX12_claim_31 : decode cX12_claim 31 = .ok (.bipush (-2), 2) := by decide +kernel
theorem dX12_claim_33 : decode cX12_claim 33 = .ok (.ireturn, 1) := by decide +kernel
theorem dX12_claim_34 : decode cX12_claim 34 = .ok (.aload_n 0, 1) := by decide +kernel
theorem dX12_claim_35 : decode cX12_claim 35 = .ok (.iload_n 1, 1) := by decide +kernel
theorem dX12_claim_36 : decode cX12_claim 36 = .ok (.invokevirtual 190, 3) := by decide +kernel
theorem dX12_claim_39 : decode cX12_claim 39 = .ok (.istore_n 3, 1) := by decide +kernel
theorem dX12_claim_40 : decode cX12_claim 40 = .ok (.iconst (-1), 1) := by decide +kernel
theorem dX12_claim_41 : decode cX12_claim 41 = .ok (.istore 4, 2) := by decide +kernel
theorem dX12_claim_43 : decode cX12_claim 43 = .ok (.iconst 0, 1) := by decide +kernel
theorem dX12_claim_44 : decode cX12_claim 44 = .ok (.istore 5, 2) := by decide +kernel
theorem dX12_claim_46 : decode cX12_claim 46 = .ok (.iload 5, 2) := by decide +kernel
theorem dX12_claim_48 : decode cX12_claim 48 = .ok (.aload_n 0, 1) := by decide +kernel
theorem dX12_claim_49 : decode cX12_claim 49 = .ok (.getfield 186, 3) := by decide +kernel
theorem dX12_claim_52 : decode cX12_claim 52 = .ok (.if_icmp .ge 56, 3) := by decide +kernel
theorem dX12_claim_55 : decode cX12_claim 55 = .ok (.aload_n 0, 1) := by decide +kernel
theorem dX12_claim_56 : decode cX12_claim 56 = .ok (.getfield 52, 3) := by decide +kernel
theorem dX12_claim_59 : decode cX12_claim 59 = .ok (.iload 5, 2) := by decide +kernel
theorem dX12_claim_61 : decode cX12_claim 61 = .ok (.iaload, 1) := by decide +kernel
theorem dX12_claim_62 : decode cX12_claim 62 = .ok (.iload_n 1, 1) := by decide +kernel
theorem dX12_claim_63 : decode cX12_claim 63 = .ok (.if_icmp .ne 39, 3) := by decide +kernel
theorem dX12_claim_66 : decode cX12_claim 66 = .ok (.iload 5, 2) := by decide +kernel
theorem dX12_claim_68 : decode cX12_claim 68 = .ok (.iload_n 3, 1) := by decide +kernel
theorem dX12_claim_69 : decode cX12_claim 69 = .ok (.if_icmp .eq 33, 3) := by decide +kernel
theorem dX12_claim_72 : decode cX12_claim 72 = .ok (.aload_n 0, 1) := by decide +kernel
theorem dX12_claim_73 : decode cX12_claim 73 = .ok (.iload 5, 2) := by decide +kernel
theorem dX12_claim_75 : decode cX12_claim 75 = .ok (.iload_n 3, 1) := by decide +kernel
theorem dX12_claim_76 : decode cX12_claim 76 = .ok (.invokevirtual 194, 3) := by decide +kernel
theorem dX12_claim_79 : decode cX12_claim 79 = .ok (.ifCond .eq 23, 3) := by decide +kernel
theorem dX12_claim_82 : decode cX12_claim 82 = .ok (.iload 4, 2) := by decide +kernel
theorem dX12_claim_84 : decode cX12_claim 84 = .ok (.ifCond .lt 14, 3) := by decide +kernel
theorem dX12_claim_87 : decode cX12_claim 87 = .ok (.aload_n 0, 1) := by decide +kernel
theorem dX12_claim_88 : decode cX12_claim 88 = .ok (.iload 4, 2) := by decide +kernel
theorem dX12_claim_90 : decode cX12_claim 90 = .ok (.iload 5, 2) := by decide +kernel
theorem dX12_claim_92 : decode cX12_claim 92 = .ok (.invokevirtual 194, 3) := by decide +kernel
theorem dX12_claim_95 : decode cX12_claim 95 = .ok (.ifCond .eq 7, 3) := by decide +kernel
theorem dX12_claim_98 : decode cX12_claim 98 = .ok (.iload 5, 2) := by decide +kernel
theorem dX12_claim_100 : decode cX12_claim 100 = .ok (.istore 4, 2) := by decide +kernel
theorem dX12_claim_102 : decode cX12_claim 102 = .ok (.iinc 5 1, 3) := by decide +kernel
theorem dX12_claim_105 : decode cX12_claim 105 = .ok (.goto (-59), 3) := by decide +kernel
theorem dX12_claim_108 : decode cX12_claim 108 = .ok (.iload 4, 2) := by decide +kernel
theorem dX12_claim_110 : decode cX12_claim 110 = .ok (.ifCond .lt 15, 3) := by decide +kernel
theorem dX12_claim_113 : decode cX12_claim 113 = .ok (.aload_n 0, 1) := by decide +kernel
theorem dX12_claim_114 : decode cX12_claim 114 = .ok (.getfield 55, 3) := by decide +kernel
theorem dX12_claim_117 : decode cX12_claim 117 = .ok (.iload 4, 2) := by decide +kernel
theorem dX12_claim_119 : decode cX12_claim 119 = .ok (.iaload, 1) := by decide +kernel
theorem dX12_claim_120 : decode cX12_claim 120 = .ok (.bipush 10, 2) := by decide +kernel
theorem dX12_claim_122 : decode cX12_claim 122 = .ok (.if_icmp .lt 6, 3) := by decide +kernel
theorem dX12_claim_125 : decode cX12_claim 125 = .ok (.bipush (-2), 2) := by decide +kernel
theorem dX12_claim_127 : decode cX12_claim 127 = .ok (.ireturn, 1) := by decide +kernel
theorem dX12_claim_128 : decode cX12_claim 128 = .ok (.bipush 10, 2) := by decide +kernel
theorem dX12_claim_130 : decode cX12_claim 130 = .ok (.aload_n 0, 1) := by decide +kernel
theorem dX12_claim_131 : decode cX12_claim 131 = .ok (.getfield 55, 3) := by decide +kernel
theorem dX12_claim_134 : decode cX12_claim 134 = .ok (.iload 4, 2) := by decide +kernel
theorem dX12_claim_136 : decode cX12_claim 136 = .ok (.iaload, 1) := by decide +kernel
theorem dX12_claim_137 : decode cX12_claim 137 = .ok (.imul, 1) := by decide +kernel
theorem dX12_claim_138 : decode cX12_claim 138 = .ok (.aload_n 0, 1) := by decide +kernel
theorem dX12_claim_139 : decode cX12_claim 139 = .ok (.getfield 40, 3) := by decide +kernel
theorem dX12_claim_142 : decode cX12_claim 142 = .ok (.iload_n 1, 1) := by decide +kernel
theorem dX12_claim_143 : decode cX12_claim 143 = .ok (.iaload, 1) := by decide +kernel
theorem dX12_claim_144 : decode cX12_claim 144 = .ok (.iadd, 1) := by decide +kernel
theorem dX12_claim_145 : decode cX12_claim 145 = .ok (.istore 5, 2) := by decide +kernel
theorem dX12_claim_147 : decode cX12_claim 147 = .ok (.iload_n 2, 1) := by decide +kernel
theorem dX12_claim_148 : decode cX12_claim 148 = .ok (.aload_n 0, 1) := by decide +kernel
theorem dX12_claim_149 : decode cX12_claim 149 = .ok (.getfield 37, 3) := by decide +kernel
theorem dX12_claim_152 : decode cX12_claim 152 = .ok (.iload 5, 2) := by decide +kernel
theorem dX12_claim_154 : decode cX12_claim 154 = .ok (.iaload, 1) := by decide +kernel
theorem dX12_claim_155 : decode cX12_claim 155 = .ok (.if_icmp .ge 7, 3) := by decide +kernel
theorem dX12_claim_158 : decode cX12_claim 158 = .ok (.iload_n 2, 1) := by decide +kernel
theorem dX12_claim_159 : decode cX12_claim 159 = .ok (.goto 10, 3) := by decide +kernel
theorem dX12_claim_162 : decode cX12_claim 162 = .ok (.aload_n 0, 1) := by decide +kernel
theorem dX12_claim_163 : decode cX12_claim 163 = .ok (.getfield 37, 3) := by decide +kernel
theorem dX12_claim_166 : decode cX12_claim 166 = .ok (.iload 5, 2) := by decide +kernel
theorem dX12_claim_168 : decode cX12_claim 168 = .ok (.iaload, 1) := by decide +kernel
theorem dX12_claim_169 : decode cX12_claim 169 = .ok (.istore 6, 2) := by decide +kernel
theorem dX12_claim_171 : decode cX12_claim 171 = .ok (.aload_n 0, 1) := by decide +kernel
theorem dX12_claim_172 : decode cX12_claim 172 = .ok (.getfield 37, 3) := by decide +kernel
theorem dX12_claim_175 : decode cX12_claim 175 = .ok (.iload 5, 2) := by decide +kernel
theorem dX12_claim_177 : decode cX12_claim 177 = .ok (.dup2, 1) := by decide +kernel
theorem dX12_claim_178 : decode cX12_claim 178 = .ok (.iaload, 1) := by decide +kernel
theorem dX12_claim_179 : decode cX12_claim 179 = .ok (.iload 6, 2) := by decide +kernel
theorem dX12_claim_181 : decode cX12_claim 181 = .ok (.isub, 1) := by decide +kernel
theorem dX12_claim_182 : decode cX12_claim 182 = .ok (.iastore, 1) := by decide +kernel
theorem dX12_claim_183 : decode cX12_claim 183 = .ok (.aload_n 0, 1) := by decide +kernel
theorem dX12_claim_184 : decode cX12_claim 184 = .ok (.dup, 1) := by decide +kernel
theorem dX12_claim_185 : decode cX12_claim 185 = .ok (.getfield 375, 3) := by decide +kernel
theorem dX12_claim_188 : decode cX12_claim 188 = .ok (.iload 6, 2) := by decide +kernel
theorem dX12_claim_190 : decode cX12_claim 190 = .ok (.iadd, 1) := by decide +kernel
theorem dX12_claim_191 : decode cX12_claim 191 = .ok (.putfield 375, 3) := by decide +kernel
theorem dX12_claim_194 : decode cX12_claim 194 = .ok (.iload 6, 2) := by decide +kernel
theorem dX12_claim_196 : decode cX12_claim 196 = .ok (.ireturn, 1) := by decide +kernel
theorem dX12_halfOf_0 : decode cX12_halfOf 0 = .ok (.lconst 0, 1) := by decide +kernel
theorem dX12_halfOf_1 : decode cX12_halfOf 1 = .ok (.lstore_n 3, 1) := by decide +kernel
theorem dX12_halfOf_2 : decode cX12_halfOf 2 = .ok (.iconst 0, 1) := by decide +kernel
theorem dX12_halfOf_3 : decode cX12_halfOf 3 = .ok (.istore 5, 2) := by decide +kernel
theorem dX12_halfOf_5 : decode cX12_halfOf 5 = .ok (.iload 5, 2) := by decide +kernel
theorem dX12_halfOf_7 : decode cX12_halfOf 7 = .ok (.aload_n 0, 1) := by decide +kernel
theorem dX12_halfOf_8 : decode cX12_halfOf 8 = .ok (.getfield 166, 3) := by decide +kernel
theorem dX12_halfOf_11 : decode cX12_halfOf 11 = .ok (.if_icmp .ge 88, 3) := by decide +kernel
theorem dX12_halfOf_14 : decode cX12_halfOf 14 = .ok (.iconst 0, 1) := by decide +kernel
theorem dX12_halfOf_15 : decode cX12_halfOf 15 = .ok (.istore 6, 2) := by decide +kernel
theorem dX12_halfOf_17 : decode cX12_halfOf 17 = .ok (.iload 6, 2) := by decide +kernel
theorem dX12_halfOf_19 : decode cX12_halfOf 19 = .ok (.iconst 3, 1) := by decide +kernel
theorem dX12_halfOf_20 : decode cX12_halfOf 20 = .ok (.if_icmp .ge 73, 3) := by decide +kernel
theorem dX12_halfOf_23 : decode cX12_halfOf 23 = .ok (.aload_n 0, 1) := by decide +kernel
theorem dX12_halfOf_24 : decode cX12_halfOf 24 = .ok (.getfield 46, 3) := by decide +kernel
theorem dX12_halfOf_27 : decode cX12_halfOf 27 = .ok (.iload 5, 2) := by decide +kernel
theorem dX12_halfOf_29 : decode cX12_halfOf 29 = .ok (.iaload, 1) := by decide +kernel
theorem dX12_halfOf_30 : decode cX12_halfOf 30 = .ok (.iload_n 1, 1) := by decide +kernel
theorem dX12_halfOf_31 : decode cX12_halfOf 31 = .ok (.if_icmp .ne 56, 3) := by decide +kernel
theorem dX12_halfOf_34 : decode cX12_halfOf 34 = .ok (.aload_n 0, 1) := by decide +kernel
theorem dX12_halfOf_35 : decode cX12_halfOf 35 = .ok (.iload 5, 2) := by decide +kernel
theorem dX12_halfOf_37 : decode cX12_halfOf 37 = .ok (.iload 6, 2) := by decide +kernel
theorem dX12_halfOf_39 : decode cX12_halfOf 39 = .ok (.invokevirtual 314, 3) := by decide +kernel
theorem dX12_halfOf_42 : decode cX12_halfOf 42 = .ok (.ifCond .le 45, 3) := by decide +kernel
theorem dX12_halfOf_45 : decode cX12_halfOf 45 = .ok (.lload_n 3, 1) := by decide +kernel
theorem dX12_halfOf_46 : decode cX12_halfOf 46 = .ok (.aload_n 0, 1) := by decide +kernel
theorem dX12_halfOf_47 : decode cX12_halfOf 47 = .ok (.iload 5, 2) := by decide +kernel
theorem dX12_halfOf_49 : decode cX12_halfOf 49 = .ok (.iload 6, 2) := by decide +kernel
theorem dX12_halfOf_51 : decode cX12_halfOf 51 = .ok (.iload_n 2, 1) := by decide +kernel
theorem dX12_halfOf_52 : decode cX12_halfOf 52 = .ok (.invokevirtual 319, 3) := by decide +kernel
theorem dX12_halfOf_55 : decode cX12_halfOf 55 = .ok (.aload_n 0, 1) := by decide +kernel
theorem dX12_halfOf_56 : decode cX12_halfOf 56 = .ok (.iload 5, 2) := by decide +kernel
theorem dX12_halfOf_58 : decode cX12_halfOf 58 = .ok (.iload 6, 2) := by decide +kernel
theorem dX12_halfOf_60 : decode cX12_halfOf 60 = .ok (.invokevirtual 314, 3) := by decide +kernel
theorem dX12_halfOf_63 : decode cX12_halfOf 63 = .ok (.iconst 2, 1) := by decide +kernel
theorem dX12_halfOf_64 : decode cX12_halfOf 64 = .ok (.idiv, 1) := by decide +kernel
theorem dX12_halfOf_65 : decode cX12_halfOf 65 = .ok (.isub, 1) := by decide +kernel
theorem dX12_halfOf_66 : decode cX12_halfOf 66 = .ok (.i2l, 1) := by decide +kernel
theorem dX12_halfOf_67 : decode cX12_halfOf 67 = .ok (.aload_n 0, 1) := by decide +kernel
theorem dX12_halfOf_68 : decode cX12_halfOf 68 = .ok (.getfield 13, 3) := by decide +kernel
theorem dX12_halfOf_71 : decode cX12_halfOf 71 = .ok (.aload_n 0, 1) := by decide +kernel
theorem dX12_halfOf_72 : decode cX12_halfOf 72 = .ok (.getfield 40, 3) := by decide +kernel
theorem dX12_halfOf_75 : decode cX12_halfOf 75 = .ok (.iload 5, 2) := by decide +kernel
theorem dX12_halfOf_77 : decode cX12_halfOf 77 = .ok (.iaload, 1) := by decide +kernel
theorem dX12_halfOf_78 : decode cX12_halfOf 78 = .ok (.iaload, 1) := by decide +kernel
theorem dX12_halfOf_79 : decode cX12_halfOf 79 = .ok (.i2l, 1) := by decide +kernel
theorem dX12_halfOf_80 : decode cX12_halfOf 80 = .ok (.lmul, 1) := by decide +kernel
theorem dX12_halfOf_81 : decode cX12_halfOf 81 = .ok (.ldc2_w 317, 3) := by decide +kernel
theorem dX12_halfOf_84 : decode cX12_halfOf 84 = .ok (.ldiv, 1) := by decide +kernel
theorem dX12_halfOf_85 : decode cX12_halfOf 85 = .ok (.ladd, 1) := by decide +kernel
theorem dX12_halfOf_86 : decode cX12_halfOf 86 = .ok (.lstore_n 3, 1) := by decide +kernel
theorem dX12_halfOf_87 : decode cX12_halfOf 87 = .ok (.iinc 6 1, 3) := by decide +kernel
theorem dX12_halfOf_90 : decode cX12_halfOf 90 = .ok (.goto (-73), 3) := by decide +kernel
theorem dX12_halfOf_93 : decode cX12_halfOf 93 = .ok (.iinc 5 1, 3) := by decide +kernel
theorem dX12_halfOf_96 : decode cX12_halfOf 96 = .ok (.goto (-91), 3) := by decide +kernel
theorem dX12_halfOf_99 : decode cX12_halfOf 99 = .ok (.lload_n 3, 1) := by decide +kernel
theorem dX12_halfOf_100 : decode cX12_halfOf 100 = .ok (.ldc2_w 378, 3) := by decide +kernel
theorem dX12_halfOf_103 : decode cX12_halfOf 103 = .ok (.lcmp, 1) := by decide +kernel
theorem dX12_halfOf_104 : decode cX12_halfOf 104 = .ok (.ifCond .le 9, 3) := by decide +kernel
theorem dX12_halfOf_107 : decode cX12_halfOf 107 = .ok (.ldc_w 380, 3) := by decide +kernel
theorem dX12_halfOf_110 : decode cX12_halfOf 110 = .ok (.goto 19, 3) := by decide +kernel
theorem dX12_halfOf_113 : decode cX12_halfOf 113 = .ok (.lload_n 3, 1) := by decide +kernel
theorem dX12_halfOf_114 : decode cX12_halfOf 114 = .ok (.ldc2_w 381, 3) := by decide +kernel
theorem dX12_halfOf_117 : decode cX12_halfOf 117 = .ok (.lcmp, 1) := by decide +kernel
theorem dX12_halfOf_118 : decode cX12_halfOf 118 = .ok (.ifCond .ge 9, 3) := by decide +kernel
theorem dX12_halfOf_121 : decode cX12_halfOf 121 = .ok (.ldc_w 383, 3) := by decide +kernel
theorem dX12_halfOf_124 : decode cX12_halfOf 124 = .ok (.goto 5, 3) := by decide +kernel
theorem dX12_halfOf_127 : decode cX12_halfOf 127 = .ok (.lload_n 3, 1) := by decide +kernel
theorem dX12_halfOf_128 : decode cX12_halfOf 128 = .ok (.l2i, 1) := by decide +kernel
theorem dX12_halfOf_129 : decode cX12_halfOf 129 = .ok (.ireturn, 1) := by decide +kernel
theorem dX12_half_0 : decode cX12_half 0 = .ok (.aload_n 0, 1) := by decide +kernel
theorem dX12_half_1 : decode cX12_half 1 = .ok (.iload_n 1, 1) := by decide +kernel
theorem dX12_half_2 : decode cX12_half 2 = .ok (.invokevirtual 169, 3) := by decide +kernel
theorem dX12_half_5 : decode cX12_half 5 = .ok (.ifCond .eq 19, 3) := by decide +kernel
theorem dX12_half_8 : decode cX12_half 8 = .ok (.iload_n 2, 1) := by decide +kernel
theorem dX12_half_9 : decode cX12_half 9 = .ok (.invokestatic 298, 3) := by decide +kernel
theorem dX12_half_12 : decode cX12_half 12 = .ok (.ifCond .eq 12, 3) := by decide +kernel
theorem dX12_half_15 : decode cX12_half 15 = .ok (.aload_n 0, 1) := by decide +kernel
theorem dX12_half_16 : decode cX12_half 16 = .ok (.iload_n 1, 1) := by decide +kernel
theorem dX12_half_17 : decode cX12_half 17 = .ok (.iload_n 2, 1) := by decide +kernel
theorem dX12_half_18 : decode cX12_half 18 = .ok (.invokevirtual 384, 3) := by decide +kernel
theorem dX12_half_21 : decode cX12_half 21 = .ok (.goto 5, 3) := by decide +kernel
theorem dX12_half_24 : decode cX12_half 24 = .ok (.ldc 236, 2) := by decide +kernel
theorem dX12_half_26 : decode cX12_half 26 = .ok (.ireturn, 1) := by decide +kernel
theorem dX12_insure_0 : decode cX12_insure 0 = .ok (.aload_n 0, 1) := by decide +kernel
theorem dX12_insure_1 : decode cX12_insure 1 = .ok (.iload_n 1, 1) := by decide +kernel
theorem dX12_insure_2 : decode cX12_insure 2 = .ok (.invokevirtual 169, 3) := by decide +kernel
theorem dX12_insure_5 : decode cX12_insure 5 = .ok (.ifCond .ne 5, 3) := by decide +kernel
theorem dX12_insure_8 : decode cX12_insure 8 = .ok (.iconst (-1), 1) := by decide +kernel
theorem dX12_insure_9 : decode cX12_insure 9 = .ok (.ireturn, 1) := by decide +kernel
theorem dX12_insure_10 : decode cX12_insure 10 = .ok (.aload_n 0, 1) := by decide +kernel
theorem dX12_insure_11 : decode cX12_insure 11 = .ok (.iload_n 1, 1) := by decide +kernel
theorem dX12_insure_12 : decode cX12_insure 12 = .ok (.aload_n 0, 1) := by decide +kernel
theorem dX12_insure_13 : decode cX12_insure 13 = .ok (.getfield 183, 3) := by decide +kernel
theorem dX12_insure_16 : decode cX12_insure 16 = .ok (.invokevirtual 330, 3) := by decide +kernel
theorem dX12_insure_19 : decode cX12_insure 19 = .ok (.ifCond .eq 5, 3) := by decide +kernel
theorem dX12_insure_22 : decode cX12_insure 22 = .ok (.iconst 0, 1) := by decide +kernel
theorem dX12_insure_23 : decode cX12_insure 23 = .ok (.ireturn, 1) := by decide +kernel
theorem dX12_insure_24 : decode cX12_insure 24 = .ok (.aload_n 0, 1) := by decide +kernel
theorem dX12_insure_25 : decode cX12_insure 25 = .ok (.iload_n 1, 1) := by decide +kernel
theorem dX12_insure_26 : decode cX12_insure 26 = .ok (.aload_n 0, 1) := by decide +kernel
theorem dX12_insure_27 : decode cX12_insure 27 = .ok (.getfield 183, 3) := by decide +kernel
theorem dX12_insure_30 : decode cX12_insure 30 = .ok (.invokevirtual 384, 3) := by decide +kernel
theorem dX12_insure_33 : decode cX12_insure 33 = .ok (.istore_n 2, 1) := by decide +kernel
theorem dX12_insure_34 : decode cX12_insure 34 = .ok (.aload_n 0, 1) := by decide +kernel
theorem dX12_insure_35 : decode cX12_insure 35 = .ok (.getfield 19, 3) := by decide +kernel
theorem dX12_insure_38 : decode cX12_insure 38 = .ok (.iload_n 1, 1) := by decide +kernel
theorem dX12_insure_39 : decode cX12_insure 39 = .ok (.iaload, 1) := by decide +kernel
theorem dX12_insure_40 : decode cX12_insure 40 = .ok (.iload_n 2, 1) := by decide +kernel
theorem dX12_insure_41 : decode cX12_insure 41 = .ok (.ifCond .ge 7, 3) := by decide +kernel
theorem dX12_insure_44 : decode cX12_insure 44 = .ok (.iconst 0, 1) := by decide +kernel
theorem dX12_insure_45 : decode cX12_insure 45 = .ok (.goto 4, 3) := by decide +kernel
theorem dX12_insure_48 : decode cX12_insure 48 = .ok (.iload_n 2, 1) := by decide +kernel
theorem dX12_insure_49 : decode cX12_insure 49 = .ok (.iadd, 1) := by decide +kernel
theorem dX12_insure_50 : decode cX12_insure 50 = .ok (.sipush 999, 3) := by decide +kernel
theorem dX12_insure_53 : decode cX12_insure 53 = .ok (.iadd, 1) := by decide +kernel
theorem dX12_insure_54 : decode cX12_insure 54 = .ok (.sipush 1000, 3) := by decide +kernel
theorem dX12_insure_57 : decode cX12_insure 57 = .ok (.idiv, 1) := by decide +kernel
theorem dX12_insure_58 : decode cX12_insure 58 = .ok (.ireturn, 1) := by decide +kernel
theorem dX12_link_0 : decode cX12_link 0 = .ok (.aload_n 0, 1) := by decide +kernel
theorem dX12_link_1 : decode cX12_link 1 = .ok (.iload_n 1, 1) := by decide +kernel
theorem dX12_link_2 : decode cX12_link 2 = .ok (.invokevirtual 169, 3) := by decide +kernel
theorem dX12_link_5 : decode cX12_link 5 = .ok (.ifCond .eq 23, 3) := by decide +kernel
theorem dX12_link_8 : decode cX12_link 8 = .ok (.iload_n 2, 1) := by decide +kernel
theorem dX12_link_9 : decode cX12_link 9 = .ok (.iconst 0, 1) := by decide +kernel
theorem dX12_link_10 : decode cX12_link 10 = .ok (.bipush 9, 2) := by decide +kernel
theorem dX12_link_12 : decode cX12_link 12 = .ok (.invokestatic 151, 3) := by decide +kernel
theorem dX12_link_15 : decode cX12_link 15 = .ok (.ifCond .eq 13, 3) := by decide +kernel
theorem dX12_link_18 : decode cX12_link 18 = .ok (.iload_n 3, 1) := by decide +kernel
theorem dX12_link_19 : decode cX12_link 19 = .ok (.iconst 0, 1) := by decide +kernel
theorem dX12_link_20 : decode cX12_link 20 = .ok (.ldc 164, 2) := by decide +kernel
theorem dX12_link_22 : decode cX12_link 22 = .ok (.invokestatic 151, 3) := by decide +kernel
theorem dX12_link_25 : decode cX12_link 25 = .ok (.ifCond .ne 5, 3) := by decide +kernel
theorem dX12_link_28 : decode cX12_link 28 = .ok (.iconst (-1), 1) := by decide +kernel
theorem dX12_link_29 : decode cX12_link 29 = .ok (.ireturn, 1) := by decide +kernel
theorem dX12_link_30 : decode cX12_link 30 = .ok (.aload_n 0, 1) := by decide +kernel
theorem dX12_link_31 : decode cX12_link 31 = .ok (.getfield 141, 3) := by decide +kernel
theorem dX12_link_34 : decode cX12_link 34 = .ok (.iload_n 1, 1) := by decide +kernel
theorem dX12_link_35 : decode cX12_link 35 = .ok (.iaload, 1) := by decide +kernel
theorem dX12_link_36 : decode cX12_link 36 = .ok (.iconst 4, 1) := by decide +kernel
theorem dX12_link_37 : decode cX12_link 37 = .ok (.if_icmp .ne 6, 3) := by decide +kernel
theorem dX12_link_40 : decode cX12_link 40 = .ok (.bipush (-3), 2) := by decide +kernel
theorem dX12_link_42 : decode cX12_link 42 = .ok (.ireturn, 1) := by decide +kernel
theorem dX12_link_43 : decode cX12_link 43 = .ok (.aload_n 0, 1) := by decide +kernel
theorem dX12_link_44 : decode cX12_link 44 = .ok (.getfield 144, 3) := by decide +kernel
theorem dX12_link_47 : decode cX12_link 47 = .ok (.iconst 4, 1) := by decide +kernel
theorem dX12_link_48 : decode cX12_link 48 = .ok (.iload_n 1, 1) := by decide +kernel
theorem dX12_link_49 : decode cX12_link 49 = .ok (.imul, 1) := by decide +kernel
theorem dX12_link_50 : decode cX12_link 50 = .ok (.aload_n 0, 1) := by decide +kernel
theorem dX12_link_51 : decode cX12_link 51 = .ok (.getfield 141, 3) := by decide +kernel
theorem dX12_link_54 : decode cX12_link 54 = .ok (.iload_n 1, 1) := by decide +kernel
theorem dX12_link_55 : decode cX12_link 55 = .ok (.iaload, 1) := by decide +kernel
theorem dX12_link_56 : decode cX12_link 56 = .ok (.iadd, 1) := by decide +kernel
theorem dX12_link_57 : decode cX12_link 57 = .ok (.iload_n 3, 1) := by decide +kernel
theorem dX12_link_58 : decode cX12_link 58 = .ok (.iastore, 1) := by decide +kernel
theorem dX12_link_59 : decode cX12_link 59 = .ok (.aload_n 0, 1) := by decide +kernel
theorem dX12_link_60 : decode cX12_link 60 = .ok (.getfield 141, 3) := by decide +kernel
theorem dX12_link_63 : decode cX12_link 63 = .ok (.iload_n 1, 1) := by decide +kernel
theorem dX12_link_64 : decode cX12_link 64 = .ok (.dup2, 1) := by decide +kernel
theorem dX12_link_65 : decode cX12_link 65 = .ok (.iaload, 1) := by decide +kernel
theorem dX12_link_66 : decode cX12_link 66 = .ok (.iconst 1, 1) := by decide +kernel
theorem dX12_link_67 : decode cX12_link 67 = .ok (.iadd, 1) := by decide +kernel
theorem dX12_link_68 : decode cX12_link 68 = .ok (.iastore, 1) := by decide +kernel
theorem dX12_link_69 : decode cX12_link 69 = .ok (.aload_n 0, 1) := by decide +kernel
theorem dX12_link_70 : decode cX12_link 70 = .ok (.getfield 141, 3) := by decide +kernel
theorem dX12_link_73 : decode cX12_link 73 = .ok (.iload_n 1, 1) := by decide +kernel
theorem dX12_link_74 : decode cX12_link 74 = .ok (.iaload, 1) := by decide +kernel
theorem dX12_link_75 : decode cX12_link 75 = .ok (.ireturn, 1) := by decide +kernel
theorem dX12_net_0 : decode cX12_net 0 = .ok (.aload_n 0, 1) := by decide +kernel
theorem dX12_net_1 : decode cX12_net 1 = .ok (.iload_n 1, 1) := by decide +kernel
theorem dX12_net_2 : decode cX12_net 2 = .ok (.invokevirtual 169, 3) := by decide +kernel
theorem dX12_net_5 : decode cX12_net 5 = .ok (.ifCond .eq 30, 3) := by decide +kernel
theorem dX12_net_8 : decode cX12_net 8 = .ok (.iload_n 2, 1) := by decide +kernel
theorem dX12_net_9 : decode cX12_net 9 = .ok (.iconst 0, 1) := by decide +kernel
theorem dX12_net_10 : decode cX12_net 10 = .ok (.aload_n 0, 1) := by decide +kernel
theorem dX12_net_11 : decode cX12_net 11 = .ok (.getfield 141, 3) := by decide +kernel
theorem dX12_net_14 : decode cX12_net 14 = .ok (.iload_n 1, 1) := by decide +kernel
theorem dX12_net_15 : decode cX12_net 15 = .ok (.iaload, 1) := by decide +kernel
theorem dX12_net_16 : decode cX12_net 16 = .ok (.iconst 1, 1) := by decide +kernel
theorem dX12_net_17 : decode cX12_net 17 = .ok (.isub, 1) := by decide +kernel
theorem dX12_net_18 : decode cX12_net 18 = .ok (.invokestatic 151, 3) := by decide +kernel
theorem dX12_net_21 : decode cX12_net 21 = .ok (.ifCond .eq 14, 3) := by decide +kernel
theorem dX12_net_24 : decode cX12_net 24 = .ok (.iload_n 3, 1) := by decide +kernel
theorem dX12_net_25 : decode cX12_net 25 = .ok (.iconst 1, 1) := by decide +kernel
theorem dX12_net_26 : decode cX12_net 26 = .ok (.sipush 999, 3) := by decide +kernel
theorem dX12_net_29 : decode cX12_net 29 = .ok (.invokestatic 151, 3) := by decide +kernel
theorem dX12_net_32 : decode cX12_net 32 = .ok (.ifCond .ne 6, 3) := by decide +kernel
theorem dX12_net_35 : decode cX12_net 35 = .ok (.ldc 236, 2) := by decide +kernel
theorem dX12_net_37 : decode cX12_net 37 = .ok (.ireturn, 1) := by decide +kernel
theorem dX12_net_38 : decode cX12_net 38 = .ok (.iload_n 2, 1) := by decide +kernel
theorem dX12_net_39 : decode cX12_net 39 = .ok (.iconst 1, 1) := by decide +kernel
theorem dX12_net_40 : decode cX12_net 40 = .ok (.iadd, 1) := by decide +kernel
theorem dX12_net_41 : decode cX12_net 41 = .ok (.aload_n 0, 1) := by decide +kernel
theorem dX12_net_42 : decode cX12_net 42 = .ok (.getfield 141, 3) := by decide +kernel
theorem dX12_net_45 : decode cX12_net 45 = .ok (.iload_n 1, 1) := by decide +kernel
theorem dX12_net_46 : decode cX12_net 46 = .ok (.iaload, 1) := by decide +kernel
theorem dX12_net_47 : decode cX12_net 47 = .ok (.if_icmp .ge 18, 3) := by decide +kernel
theorem dX12_net_50 : decode cX12_net 50 = .ok (.aload_n 0, 1) := by decide +kernel
theorem dX12_net_51 : decode cX12_net 51 = .ok (.getfield 144, 3) := by decide +kernel
theorem dX12_net_54 : decode cX12_net 54 = .ok (.iconst 4, 1) := by decide +kernel
theorem dX12_net_55 : decode cX12_net 55 = .ok (.iload_n 1, 1) := by decide +kernel
theorem dX12_net_56 : decode cX12_net 56 = .ok (.imul, 1) := by decide +kernel
theorem dX12_net_57 : decode cX12_net 57 = .ok (.iload_n 2, 1) := by decide +kernel
theorem dX12_net_58 : decode cX12_net 58 = .ok (.iadd, 1) := by decide +kernel
theorem dX12_net_59 : decode cX12_net 59 = .ok (.iconst 1, 1) := by decide +kernel
theorem dX12_net_60 : decode cX12_net 60 = .ok (.iadd, 1) := by decide +kernel
theorem dX12_net_61 : decode cX12_net 61 = .ok (.iaload, 1) := by decide +kernel
theorem dX12_net_62 : decode cX12_net 62 = .ok (.goto 4, 3) := by decide +kernel
theorem dX12_net_65 : decode cX12_net 65 = .ok (.iconst 0, 1) := by decide +kernel
theorem dX12_net_66 : decode cX12_net 66 = .ok (.istore 4, 2) := by decide +kernel
theorem dX12_net_68 : decode cX12_net 68 = .ok (.aload_n 0, 1) := by decide +kernel
theorem dX12_net_69 : decode cX12_net 69 = .ok (.getfield 144, 3) := by decide +kernel
theorem dX12_net_72 : decode cX12_net 72 = .ok (.iconst 4, 1) := by decide +kernel
theorem dX12_net_73 : decode cX12_net 73 = .ok (.iload_n 1, 1) := by decide +kernel
theorem dX12_net_74 : decode cX12_net 74 = .ok (.imul, 1) := by decide +kernel
theorem dX12_net_75 : decode cX12_net 75 = .ok (.iload_n 2, 1) := by decide +kernel
theorem dX12_net_76 : decode cX12_net 76 = .ok (.iadd, 1) := by decide +kernel
theorem dX12_net_77 : decode cX12_net 77 = .ok (.iaload, 1) := by decide +kernel
