theorem dX12_lacksOf_128 : decode cX12_lacksOf 128 = .ok (.ifCond .eq 77, 3) := by decide +kernel
theorem dX12_lacksOf_131 : decode cX12_lacksOf 131 = .ok (.aload_n 0, 1) := by decide +kernel
theorem dX12_lacksOf_132 : decode cX12_lacksOf 132 = .ok (.getfield 40, 3) := by decide +kernel
theorem dX12_lacksOf_135 : decode cX12_lacksOf 135 = .ok (.iload 9, 2) := by decide +kernel
theorem dX12_lacksOf_137 : decode cX12_lacksOf 137 = .ok (.iaload, 1) := by decide +kernel
theorem dX12_lacksOf_138 : decode cX12_lacksOf 138 = .ok (.aload_n 0, 1) := by decide +kernel
theorem dX12_lacksOf_139 : decode cX12_lacksOf 139 = .ok (.getfield 126, 3) := by decide +kernel
theorem dX12_lacksOf_142 : decode cX12_lacksOf 142 = .ok (.iload 5, 2) := by decide +kernel
theorem dX12_lacksOf_144 : decode cX12_lacksOf 144 = .ok (.iaload, 1) := by decide +kernel
theorem dX12_lacksOf_145 : decode cX12_lacksOf 145 = .ok (.if_icmp .ne 60, 3) := by decide +kernel
theorem dX12_lacksOf_148 : decode cX12_lacksOf 148 = .ok (.aload_n 0, 1) := by decide +kernel
theorem dX12_lacksOf_149 : decode cX12_lacksOf 149 = .ok (.iload 9, 2) := by decide +kernel
theorem dX12_lacksOf_151 : decode cX12_lacksOf 151 = .ok (.iload 8, 2) := by decide +kernel
theorem dX12_lacksOf_153 : decode cX12_lacksOf 153 = .ok (.invokevirtual 314, 3) := by decide +kernel
theorem dX12_lacksOf_156 : decode cX12_lacksOf 156 = .ok (.ifCond .ne 6, 3) := by decide +kernel
theorem dX12_lacksOf_159 : decode cX12_lacksOf 159 = .ok (.goto 46, 3) := by decide +kernel
theorem dX12_lacksOf_162 : decode cX12_lacksOf 162 = .ok (.aload_n 0, 1) := by decide +kernel
theorem dX12_lacksOf_163 : decode cX12_lacksOf 163 = .ok (.iload 9, 2) := by decide +kernel
theorem dX12_lacksOf_165 : decode cX12_lacksOf 165 = .ok (.iload 8, 2) := by decide +kernel
theorem dX12_lacksOf_167 : decode cX12_lacksOf 167 = .ok (.iload 4, 2) := by decide +kernel
theorem dX12_lacksOf_169 : decode cX12_lacksOf 169 = .ok (.invokevirtual 319, 3) := by decide +kernel
theorem dX12_lacksOf_172 : decode cX12_lacksOf 172 = .ok (.istore 10, 2) := by decide +kernel
theorem dX12_lacksOf_174 : decode cX12_lacksOf 174 = .ok (.iload 7, 2) := by decide +kernel
theorem dX12_lacksOf_176 : decode cX12_lacksOf 176 = .ok (.iload 10, 2) := by decide +kernel
theorem dX12_lacksOf_178 : decode cX12_lacksOf 178 = .ok (.aload_n 0, 1) := by decide +kernel
theorem dX12_lacksOf_179 : decode cX12_lacksOf 179 = .ok (.getfield 129, 3) := by decide +kernel
theorem dX12_lacksOf_182 : decode cX12_lacksOf 182 = .ok (.iload 5, 2) := by decide +kernel
theorem dX12_lacksOf_184 : decode cX12_lacksOf 184 = .ok (.iaload, 1) := by decide +kernel
theorem dX12_lacksOf_185 : decode cX12_lacksOf 185 = .ok (.if_icmp .ge 16, 3) := by decide +kernel
theorem dX12_lacksOf_188 : decode cX12_lacksOf 188 = .ok (.aload_n 0, 1) := by decide +kernel
theorem dX12_lacksOf_189 : decode cX12_lacksOf 189 = .ok (.getfield 129, 3) := by decide +kernel
theorem dX12_lacksOf_192 : decode cX12_lacksOf 192 = .ok (.iload 5, 2) := by decide +kernel
theorem dX12_lacksOf_194 : decode cX12_lacksOf 194 = .ok (.iaload, 1) := by decide +kernel
theorem dX12_lacksOf_195 : decode cX12_lacksOf 195 = .ok (.iload 10, 2) := by decide +kernel
theorem dX12_lacksOf_197 : decode cX12_lacksOf 197 = .ok (.isub, 1) := by decide +kernel
theorem dX12_lacksOf_198 : decode cX12_lacksOf 198 = .ok (.goto 4, 3) := by decide +kernel
theorem dX12_lacksOf_201 : decode cX12_lacksOf 201 = .ok (.iconst 0, 1) := by decide +kernel
theorem dX12_lacksOf_202 : decode cX12_lacksOf 202 = .ok (.iadd, 1) := by decide +kernel
theorem dX12_lacksOf_203 : decode cX12_lacksOf 203 = .ok (.istore 7, 2) := by decide +kernel
theorem dX12_lacksOf_205 : decode cX12_lacksOf 205 = .ok (.iinc 9 1, 3) := by decide +kernel
theorem dX12_lacksOf_208 : decode cX12_lacksOf 208 = .ok (.goto (-96), 3) := by decide +kernel
theorem dX12_lacksOf_211 : decode cX12_lacksOf 211 = .ok (.iload 7, 2) := by decide +kernel
theorem dX12_lacksOf_213 : decode cX12_lacksOf 213 = .ok (.ireturn, 1) := by decide +kernel
theorem dX12_lacksOf_214 : decode cX12_lacksOf 214 = .ok (.iconst 0, 1) := by decide +kernel
theorem dX12_lacksOf_215 : decode cX12_lacksOf 215 = .ok (.istore 8, 2) := by decide +kernel
theorem dX12_lacksOf_217 : decode cX12_lacksOf 217 = .ok (.iload 8, 2) := by decide +kernel
theorem dX12_lacksOf_219 : decode cX12_lacksOf 219 = .ok (.aload_n 0, 1) := by decide +kernel
theorem dX12_lacksOf_220 : decode cX12_lacksOf 220 = .ok (.getfield 166, 3) := by decide +kernel
theorem dX12_lacksOf_223 : decode cX12_lacksOf 223 = .ok (.if_icmp .ge 34, 3) := by decide +kernel
theorem dX12_lacksOf_226 : decode cX12_lacksOf 226 = .ok (.iload 7, 2) := by decide +kernel
theorem dX12_lacksOf_228 : decode cX12_lacksOf 228 = .ok (.aload_n 0, 1) := by decide +kernel
theorem dX12_lacksOf_229 : decode cX12_lacksOf 229 = .ok (.getfield 135, 3) := by decide +kernel
theorem dX12_lacksOf_232 : decode cX12_lacksOf 232 = .ok (.iload 8, 2) := by decide +kernel
theorem dX12_lacksOf_234 : decode cX12_lacksOf 234 = .ok (.baload, 1) := by decide +kernel
theorem dX12_lacksOf_235 : decode cX12_lacksOf 235 = .ok (.ifCond .eq 12, 3) := by decide +kernel
theorem dX12_lacksOf_238 : decode cX12_lacksOf 238 = .ok (.aload_n 0, 1) := by decide +kernel
theorem dX12_lacksOf_239 : decode cX12_lacksOf 239 = .ok (.iload 8, 2) := by decide +kernel
theorem dX12_lacksOf_241 : decode cX12_lacksOf 241 = .ok (.invokevirtual 237, 3) := by decide +kernel
theorem dX12_lacksOf_244 : decode cX12_lacksOf 244 = .ok (.goto 4, 3) := by decide +kernel
theorem dX12_lacksOf_247 : decode cX12_lacksOf 247 = .ok (.iconst 0, 1) := by decide +kernel
theorem dX12_lacksOf_248 : decode cX12_lacksOf 248 = .ok (.iadd, 1) := by decide +kernel
theorem dX12_lacksOf_249 : decode cX12_lacksOf 249 = .ok (.istore 7, 2) := by decide +kernel
theorem dX12_lacksOf_251 : decode cX12_lacksOf 251 = .ok (.iinc 8 1, 3) := by decide +kernel
theorem dX12_lacksOf_254 : decode cX12_lacksOf 254 = .ok (.goto (-37), 3) := by decide +kernel
theorem dX12_lacksOf_257 : decode cX12_lacksOf 257 = .ok (.iload 7, 2) := by decide +kernel
theorem dX12_lacksOf_259 : decode cX12_lacksOf 259 = .ok (.ireturn, 1) := by decide +kernel
theorem dX12_lacksOf_260 : decode cX12_lacksOf 260 = .ok (.iconst 0, 1) := by decide +kernel
theorem dX12_lacksOf_261 : decode cX12_lacksOf 261 = .ok (.istore 8, 2) := by decide +kernel
theorem dX12_lacksOf_263 : decode cX12_lacksOf 263 = .ok (.iload 8, 2) := by decide +kernel
theorem dX12_lacksOf_265 : decode cX12_lacksOf 265 = .ok (.aload_n 0, 1) := by decide +kernel
theorem dX12_lacksOf_266 : decode cX12_lacksOf 266 = .ok (.getfield 324, 3) := by decide +kernel
theorem dX12_lacksOf_269 : decode cX12_lacksOf 269 = .ok (.if_icmp .ge 44, 3) := by decide +kernel
theorem dX12_lacksOf_272 : decode cX12_lacksOf 272 = .ok (.iload 7, 2) := by decide +kernel
theorem dX12_lacksOf_274 : decode cX12_lacksOf 274 = .ok (.aload_n 0, 1) := by decide +kernel
theorem dX12_lacksOf_275 : decode cX12_lacksOf 275 = .ok (.iload 8, 2) := by decide +kernel
theorem dX12_lacksOf_277 : decode cX12_lacksOf 277 = .ok (.iload_n 1, 1) := by decide +kernel
theorem dX12_lacksOf_278 : decode cX12_lacksOf 278 = .ok (.invokevirtual 327, 3) := by decide +kernel
theorem dX12_lacksOf_281 : decode cX12_lacksOf 281 = .ok (.ifCond .eq 22, 3) := by decide +kernel
theorem dX12_lacksOf_284 : decode cX12_lacksOf 284 = .ok (.aload_n 0, 1) := by decide +kernel
theorem dX12_lacksOf_285 : decode cX12_lacksOf 285 = .ok (.getfield 111, 3) := by decide +kernel
theorem dX12_lacksOf_288 : decode cX12_lacksOf 288 = .ok (.bipush 10, 2) := by decide +kernel
theorem dX12_lacksOf_290 : decode cX12_lacksOf 290 = .ok (.iload 8, 2) := by decide +kernel
theorem dX12_lacksOf_292 : decode cX12_lacksOf 292 = .ok (.imul, 1) := by decide +kernel
theorem dX12_lacksOf_293 : decode cX12_lacksOf 293 = .ok (.iload_n 1, 1) := by decide +kernel
theorem dX12_lacksOf_294 : decode cX12_lacksOf 294 = .ok (.iadd, 1) := by decide +kernel
theorem dX12_lacksOf_295 : decode cX12_lacksOf 295 = .ok (.baload, 1) := by decide +kernel
theorem dX12_lacksOf_296 : decode cX12_lacksOf 296 = .ok (.ifCond .ne 7, 3) := by decide +kernel
theorem dX12_lacksOf_299 : decode cX12_lacksOf 299 = .ok (.iconst 1, 1) := by decide +kernel
theorem dX12_lacksOf_300 : decode cX12_lacksOf 300 = .ok (.goto 4, 3) := by decide +kernel
theorem dX12_lacksOf_303 : decode cX12_lacksOf 303 = .ok (.iconst 0, 1) := by decide +kernel
theorem dX12_lacksOf_304 : decode cX12_lacksOf 304 = .ok (.iadd, 1) := by decide +kernel
theorem dX12_lacksOf_305 : decode cX12_lacksOf 305 = .ok (.istore 7, 2) := by decide +kernel
theorem dX12_lacksOf_307 : decode cX12_lacksOf 307 = .ok (.iinc 8 1, 3) := by decide +kernel
theorem dX12_lacksOf_310 : decode cX12_lacksOf 310 = .ok (.goto (-47), 3) := by decide +kernel
theorem dX12_lacksOf_313 : decode cX12_lacksOf 313 = .ok (.iload 7, 2) := by decide +kernel
theorem dX12_lacksOf_315 : decode cX12_lacksOf 315 = .ok (.ireturn, 1) := by decide +kernel
theorem dX12_lacksOf_316 : decode cX12_lacksOf 316 = .ok (.iconst 0, 1) := by decide +kernel
theorem dX12_lacksOf_317 : decode cX12_lacksOf 317 = .ok (.istore 8, 2) := by decide +kernel
theorem dX12_lacksOf_319 : decode cX12_lacksOf 319 = .ok (.iload 8, 2) := by decide +kernel
theorem dX12_lacksOf_321 : decode cX12_lacksOf 321 = .ok (.aload_n 0, 1) := by decide +kernel
theorem dX12_lacksOf_322 : decode cX12_lacksOf 322 = .ok (.getfield 158, 3) := by decide +kernel
theorem dX12_lacksOf_325 : decode cX12_lacksOf 325 = .ok (.if_icmp .ge 103, 3) := by decide +kernel
theorem dX12_lacksOf_328 : decode cX12_lacksOf 328 = .ok (.iconst 0, 1) := by decide +kernel
theorem dX12_lacksOf_329 : decode cX12_lacksOf 329 = .ok (.istore 9, 2) := by decide +kernel
theorem dX12_lacksOf_331 : decode cX12_lacksOf 331 = .ok (.iconst 0, 1) := by decide +kernel
theorem dX12_lacksOf_332 : decode cX12_lacksOf 332 = .ok (.istore 10, 2) := by decide +kernel
theorem dX12_lacksOf_334 : decode cX12_lacksOf 334 = .ok (.iload 10, 2) := by decide +kernel
theorem dX12_lacksOf_336 : decode cX12_lacksOf 336 = .ok (.aload_n 0, 1) := by decide +kernel
theorem dX12_lacksOf_337 : decode cX12_lacksOf 337 = .ok (.getfield 166, 3) := by decide +kernel
theorem dX12_lacksOf_340 : decode cX12_lacksOf 340 = .ok (.if_icmp .ge 41, 3) := by decide +kernel
theorem dX12_lacksOf_343 : decode cX12_lacksOf 343 = .ok (.iload 9, 2) := by decide +kernel
theorem dX12_lacksOf_345 : decode cX12_lacksOf 345 = .ok (.aload_n 0, 1) := by decide +kernel
theorem dX12_lacksOf_346 : decode cX12_lacksOf 346 = .ok (.getfield 135, 3) := by decide +kernel
theorem dX12_lacksOf_349 : decode cX12_lacksOf 349 = .ok (.iload 10, 2) := by decide +kernel
theorem dX12_lacksOf_351 : decode cX12_lacksOf 351 = .ok (.baload, 1) := by decide +kernel
theorem dX12_lacksOf_352 : decode cX12_lacksOf 352 = .ok (.ifCond .eq 19, 3) := by decide +kernel
theorem dX12_lacksOf_355 : decode cX12_lacksOf 355 = .ok (.aload_n 0, 1) := by decide +kernel
theorem dX12_lacksOf_356 : decode cX12_lacksOf 356 = .ok (.getfield 40, 3) := by decide +kernel
theorem dX12_lacksOf_359 : decode cX12_lacksOf 359 = .ok (.iload 10, 2) := by decide +kernel
theorem dX12_lacksOf_361 : decode cX12_lacksOf 361 = .ok (.iaload, 1) := by decide +kernel
theorem dX12_lacksOf_362 : decode cX12_lacksOf 362 = .ok (.iload 8, 2) := by decide +kernel
theorem dX12_lacksOf_364 : decode cX12_lacksOf 364 = .ok (.if_icmp .ne 7, 3) := by decide +kernel
theorem dX12_lacksOf_367 : decode cX12_lacksOf 367 = .ok (.iconst 1, 1) := by decide +kernel
theorem dX12_lacksOf_368 : decode cX12_lacksOf 368 = .ok (.goto 4, 3) := by decide +kernel
theorem dX12_lacksOf_371 : decode cX12_lacksOf 371 = .ok (.iconst 0, 1) := by decide +kernel
theorem dX12_lacksOf_372 : decode cX12_lacksOf 372 = .ok (.iadd, 1) := by decide +kernel
theorem dX12_lacksOf_373 : decode cX12_lacksOf 373 = .ok (.istore 9, 2) := by decide +kernel
theorem dX12_lacksOf_375 : decode cX12_lacksOf 375 = .ok (.iinc 10 1, 3) := by decide +kernel
theorem dX12_lacksOf_378 : decode cX12_lacksOf 378 = .ok (.goto (-44), 3) := by decide +kernel
theorem dX12_lacksOf_381 : decode cX12_lacksOf 381 = .ok (.iload 7, 2) := by decide +kernel
theorem dX12_lacksOf_383 : decode cX12_lacksOf 383 = .ok (.iload 9, 2) := by decide +kernel
theorem dX12_lacksOf_385 : decode cX12_lacksOf 385 = .ok (.aload_n 0, 1) := by decide +kernel
theorem dX12_lacksOf_386 : decode cX12_lacksOf 386 = .ok (.getfield 34, 3) := by decide +kernel
theorem dX12_lacksOf_389 : decode cX12_lacksOf 389 = .ok (.bipush 10, 2) := by decide +kernel
theorem dX12_lacksOf_391 : decode cX12_lacksOf 391 = .ok (.iload_n 1, 1) := by decide +kernel
theorem dX12_lacksOf_392 : decode cX12_lacksOf 392 = .ok (.imul, 1) := by decide +kernel
theorem dX12_lacksOf_393 : decode cX12_lacksOf 393 = .ok (.iload 8, 2) := by decide +kernel
theorem dX12_lacksOf_395 : decode cX12_lacksOf 395 = .ok (.iadd, 1) := by decide +kernel
theorem dX12_lacksOf_396 : decode cX12_lacksOf 396 = .ok (.iaload, 1) := by decide +kernel
theorem dX12_lacksOf_397 : decode cX12_lacksOf 397 = .ok (.if_icmp .ge 21, 3) := by decide +kernel
theorem dX12_lacksOf_400 : decode cX12_lacksOf 400 = .ok (.aload_n 0, 1) := by decide +kernel
theorem dX12_lacksOf_401 : decode cX12_lacksOf 401 = .ok (.getfield 34, 3) := by decide +kernel
theorem dX12_lacksOf_404 : decode cX12_lacksOf 404 = .ok (.bipush 10, 2) := by decide +kernel
theorem dX12_lacksOf_406 : decode cX12_lacksOf 406 = .ok (.iload_n 1, 1) := by decide +kernel
theorem dX12_lacksOf_407 : decode cX12_lacksOf 407 = .ok (.imul, 1) := by decide +kernel
theorem dX12_lacksOf_408 : decode cX12_lacksOf 408 = .ok (.iload 8, 2) := by decide +kernel
theorem dX12_lacksOf_410 : decode cX12_lacksOf 410 = .ok (.iadd, 1) := by decide +kernel
theorem dX12_lacksOf_411 : decode cX12_lacksOf 411 = .ok (.iaload, 1) := by decide +kernel
theorem dX12_lacksOf_412 : decode cX12_lacksOf 412 = .ok (.iload 9, 2) := by decide +kernel
theorem dX12_lacksOf_414 : decode cX12_lacksOf 414 = .ok (.isub, 1) := by decide +kernel
theorem dX12_lacksOf_415 : decode cX12_lacksOf 415 = .ok (.goto 4, 3) := by decide +kernel
theorem dX12_lacksOf_418 : decode cX12_lacksOf 418 = .ok (.iconst 0, 1) := by decide +kernel
theorem dX12_lacksOf_419 : decode cX12_lacksOf 419 = .ok (.iadd, 1) := by decide +kernel
theorem dX12_lacksOf_420 : decode cX12_lacksOf 420 = .ok (.istore 7, 2) := by decide +kernel
theorem dX12_lacksOf_422 : decode cX12_lacksOf 422 = .ok (.iinc 8 1, 3) := by decide +kernel
theorem dX12_lacksOf_425 : decode cX12_lacksOf 425 = .ok (.goto (-106), 3) := by decide +kernel
theorem dX12_lacksOf_428 : decode cX12_lacksOf 428 = .ok (.iload 7, 2) := by decide +kernel
theorem dX12_lacksOf_430 : decode cX12_lacksOf 430 = .ok (.ireturn, 1) := by decide +kernel
theorem dX12_lacksOf_431 : decode cX12_lacksOf 431 = .ok (.aload_n 0, 1) := by decide +kernel
theorem dX12_lacksOf_432 : decode cX12_lacksOf 432 = .ok (.iload_n 1, 1) := by decide +kernel
theorem dX12_lacksOf_433 : decode cX12_lacksOf 433 = .ok (.iload_n 3, 1) := by decide +kernel
theorem dX12_lacksOf_434 : decode cX12_lacksOf 434 = .ok (.invokevirtual 346, 3) := by decide +kernel
theorem dX12_lacksOf_437 : decode cX12_lacksOf 437 = .ok (.ireturn, 1) := by decide +kernel
theorem dX12_costOf_0 : decode cX12_costOf 0 = .ok (.bipush 32, 2) := by decide +kernel
theorem dX12_costOf_2 : decode cX12_costOf 2 = .ok (.iload_n 1, 1) := by decide +kernel
theorem dX12_costOf_3 : decode cX12_costOf 3 = .ok (.imul, 1) := by decide +kernel
theorem dX12_costOf_4 : decode cX12_costOf 4 = .ok (.iload_n 2, 1) := by decide +kernel
theorem dX12_costOf_5 : decode cX12_costOf 5 = .ok (.iadd, 1) := by decide +kernel
theorem dX12_costOf_6 : decode cX12_costOf 6 = .ok (.istore 5, 2) := by decide +kernel
theorem dX12_costOf_8 : decode cX12_costOf 8 = .ok (.aload_n 0, 1) := by decide +kernel
theorem dX12_costOf_9 : decode cX12_costOf 9 = .ok (.getfield 123, 3) := by decide +kernel
theorem dX12_costOf_12 : decode cX12_costOf 12 = .ok (.iload 5, 2) := by decide +kernel
theorem dX12_costOf_14 : decode cX12_costOf 14 = .ok (.iaload, 1) := by decide +kernel
theorem dX12_costOf_15 : decode cX12_costOf 15 = .ok (.istore 6, 2) := by decide +kernel
theorem dX12_costOf_17 : decode cX12_costOf 17 = .ok (.aload_n 0, 1) := by decide +kernel
theorem dX12_costOf_18 : decode cX12_costOf 18 = .ok (.iload_n 1, 1) := by decide +kernel
theorem dX12_costOf_19 : decode cX12_costOf 19 = .ok (.iload_n 2, 1) := by decide +kernel
theorem dX12_costOf_20 : decode cX12_costOf 20 = .ok (.iload_n 3, 1) := by decide +kernel
theorem dX12_costOf_21 : decode cX12_costOf 21 = .ok (.iload 4, 2) := by decide +kernel
theorem dX12_costOf_23 : decode cX12_costOf 23 = .ok (.invokevirtual 349, 3) := by decide +kernel
theorem dX12_costOf_26 : decode cX12_costOf 26 = .ok (.i2l, 1) := by decide +kernel
theorem dX12_costOf_27 : decode cX12_costOf 27 = .ok (.lstore 7, 2) := by decide +kernel
theorem dX12_costOf_29 : decode cX12_costOf 29 = .ok (.iload 6, 2) := by decide +kernel
theorem dX12_costOf_31 : decode cX12_costOf 31 = .ok (.bipush 116, 2) := by decide +kernel
theorem dX12_costOf_33 : decode cX12_costOf 33 = .ok (.if_icmp .ne 73, 3) := by decide +kernel
theorem dX12_costOf_36 : decode cX12_costOf 36 = .ok (.lload 7, 2) := by decide +kernel
theorem dX12_costOf_38 : decode cX12_costOf 38 = .ok (.aload_n 0, 1) := by decide +kernel
theorem dX12_costOf_39 : decode cX12_costOf 39 = .ok (.getfield 126, 3) := by decide +kernel
theorem dX12_costOf_42 : decode cX12_costOf 42 = .ok (.iload 5, 2) := by decide +kernel
theorem dX12_costOf_44 : decode cX12_costOf 44 = .ok (.iaload, 1) := by decide +kernel
theorem dX12_costOf_45 : decode cX12_costOf 45 = .ok (.i2l, 1) := by decide +kernel
theorem dX12_costOf_46 : decode cX12_costOf 46 = .ok (.lcmp, 1) := by decide +kernel
theorem dX12_costOf_47 : decode cX12_costOf 47 = .ok (.ifCond .ge 8, 3) := by decide +kernel
theorem dX12_costOf_50 : decode cX12_costOf 50 = .ok (.lload 7, 2) := by decide +kernel
theorem dX12_costOf_52 : decode cX12_costOf 52 = .ok (.goto 11, 3) := by decide +kernel
theorem dX12_costOf_55 : decode cX12_costOf 55 = .ok (.aload_n 0, 1) := by decide +kernel
theorem dX12_costOf_56 : decode cX12_costOf 56 = .ok (.getfield 126, 3) := by decide +kernel
theorem dX12_costOf_59 : decode cX12_costOf 59 = .ok (.iload 5, 2) := by decide +kernel
theorem dX12_costOf_61 : decode cX12_costOf 61 = .ok (.iaload, 1) := by decide +kernel
theorem dX12_costOf_62 : decode cX12_costOf 62 = .ok (.i2l, 1) := by decide +kernel
theorem dX12_costOf_63 : decode cX12_costOf 63 = .ok (.lstore 9, 2) := by decide +kernel
theorem dX12_costOf_65 : decode cX12_costOf 65 = .ok (.lload 9, 2) := by decide +kernel
theorem dX12_costOf_67 : decode cX12_costOf 67 = .ok (.aload_n 0, 1) := by decide +kernel
theorem dX12_costOf_68 : decode cX12_costOf 68 = .ok (.getfield 117, 3) := by decide +kernel
theorem dX12_costOf_71 : decode cX12_costOf 71 = .ok (.iload_n 1, 1) := by decide +kernel
theorem dX12_costOf_72 : decode cX12_costOf 72 = .ok (.iaload, 1) := by decide +kernel
theorem dX12_costOf_73 : decode cX12_costOf 73 = .ok (.i2l, 1) := by decide +kernel
theorem dX12_costOf_74 : decode cX12_costOf 74 = .ok (.lmul, 1) := by decide +kernel
theorem dX12_costOf_75 : decode cX12_costOf 75 = .ok (.lload 7, 2) := by decide +kernel
theorem dX12_costOf_77 : decode cX12_costOf 77 = .ok (.lload 9, 2) := by decide +kernel
theorem dX12_costOf_79 : decode cX12_costOf 79 = .ok (.lsub, 1) := by decide +kernel
theorem dX12_costOf_80 : decode cX12_costOf 80 = .ok (.aload_n 0, 1) := by decide +kernel
theorem dX12_costOf_81 : decode cX12_costOf 81 = .ok (.getfield 117, 3) := by decide +kernel
theorem dX12_costOf_84 : decode cX12_costOf 84 = .ok (.iload_n 1, 1) := by decide +kernel
theorem dX12_costOf_85 : decode cX12_costOf 85 = .ok (.iaload, 1) := by decide +kernel
theorem dX12_costOf_86 : decode cX12_costOf 86 = .ok (.i2l, 1) := by decide +kernel
theorem dX12_costOf_87 : decode cX12_costOf 87 = .ok (.aload_n 0, 1) := by decide +kernel
theorem dX12_costOf_88 : decode cX12_costOf 88 = .ok (.getfield 129, 3) := by decide +kernel
theorem dX12_costOf_91 : decode cX12_costOf 91 = .ok (.iload 5, 2) := by decide +kernel
theorem dX12_costOf_93 : decode cX12_costOf 93 = .ok (.iaload, 1) := by decide +kernel
theorem dX12_costOf_94 : decode cX12_costOf 94 = .ok (.i2l, 1) := by decide +kernel
theorem dX12_costOf_95 : decode cX12_costOf 95 = .ok (.lmul, 1) := by decide +kernel
theorem dX12_costOf_96 : decode cX12_costOf 96 = .ok (.ldc2_w 317, 3) := by decide +kernel
theorem dX12_costOf_99 : decode cX12_costOf 99 = .ok (.ldiv, 1) := by decide +kernel
theorem dX12_costOf_100 : decode cX12_costOf 100 = .ok (.lmul, 1) := by decide +kernel
theorem dX12_costOf_101 : decode cX12_costOf 101 = .ok (.ladd, 1) := by decide +kernel
theorem dX12_costOf_102 : decode cX12_costOf 102 = .ok (.invokestatic 333, 3) := by decide +kernel
theorem dX12_costOf_105 : decode cX12_costOf 105 = .ok (.ireturn, 1) := by decide +kernel
theorem dX12_costOf_106 : decode cX12_costOf 106 = .ok (.lload 7, 2) := by decide +kernel
theorem dX12_costOf_108 : decode cX12_costOf 108 = .ok (.iload 6, 2) := by decide +kernel
theorem dX12_costOf_110 : decode cX12_costOf 110 = .ok (.invokestatic 337, 3) := by decide +kernel
theorem dX12_costOf_113 : decode cX12_costOf 113 = .ok (.iconst 3, 1) := by decide +kernel
theorem dX12_costOf_114 : decode cX12_costOf 114 = .ok (.if_icmp .ne 13, 3) := by decide +kernel
theorem dX12_costOf_117 : decode cX12_costOf 117 = .ok (.aload_n 0, 1) := by decide +kernel
theorem dX12_costOf_118 : decode cX12_costOf 118 = .ok (.getfield 132, 3) := by decide +kernel
theorem dX12_costOf_121 : decode cX12_costOf 121 = .ok (.iload 5, 2) := by decide +kernel
theorem dX12_costOf_123 : decode cX12_costOf 123 = .ok (.iaload, 1) := by decide +kernel
theorem dX12_costOf_124 : decode cX12_costOf 124 = .ok (.goto 10, 3) := by decide +kernel
theorem dX12_costOf_127 : decode cX12_costOf 127 = .ok (.aload_n 0, 1) := by decide +kernel
theorem dX12_costOf_128 : decode cX12_costOf 128 = .ok (.getfield 126, 3) := by decide +kernel
theorem dX12_costOf_131 : decode cX12_costOf 131 = .ok (.iload 5, 2) := by decide +kernel
theorem dX12_costOf_133 : decode cX12_costOf 133 = .ok (.iaload, 1) := by decide +kernel
theorem dX12_costOf_134 : decode cX12_costOf 134 = .ok (.i2l, 1) := by decide +kernel
theorem dX12_costOf_135 : decode cX12_costOf 135 = .ok (.lmul, 1) := by decide +kernel
theorem dX12_costOf_136 : decode cX12_costOf 136 = .ok (.invokestatic 333, 3) := by decide +kernel
theorem dX12_costOf_139 : decode cX12_costOf 139 = .ok (.ireturn, 1) := by decide +kernel
theorem dX12_costOfAll_0 : decode cX12_costOfAll 0 = .ok (.lconst 0, 1) := by decide +kernel
theorem dX12_costOfAll_1 : decode cX12_costOfAll 1 = .ok (.lstore 4, 2) := by decide +kernel
theorem dX12_costOfAll_3 : decode cX12_costOfAll 3 = .ok (.iconst 0, 1) := by decide +kernel
theorem dX12_costOfAll_4 : decode cX12_costOfAll 4 = .ok (.istore 6, 2) := by decide +kernel
theorem dX12_costOfAll_6 : decode cX12_costOfAll 6 = .ok (.iload 6, 2) := by decide +kernel
theorem dX12_costOfAll_8 : decode cX12_costOfAll 8 = .ok (.aload_n 0, 1) := by decide +kernel
theorem dX12_costOfAll_9 : decode cX12_costOfAll 9 = .ok (.getfield 120, 3) := by decide +kernel
theorem dX12_costOfAll_12 : decode cX12_costOfAll 12 = .ok (.iload_n 1, 1) := by decide +kernel
theorem dX12_costOfAll_13 : decode cX12_costOfAll 13 = .ok (.iaload, 1) := by decide +kernel
theorem dX12_costOfAll_14 : decode cX12_costOfAll 14 = .ok (.if_icmp .ge 24, 3) := by decide +kernel
theorem dX12_costOfAll_17 : decode cX12_costOfAll 17 = .ok (.lload 4, 2) := by decide +kernel
theorem dX12_costOfAll_19 : decode cX12_costOfAll 19 = .ok (.aload_n 0, 1) := by decide +kernel
theorem dX12_costOfAll_20 : decode cX12_costOfAll 20 = .ok (.iload_n 1, 1) := by decide +kernel
theorem dX12_costOfAll_21 : decode cX12_costOfAll 21 = .ok (.iload 6, 2) := by decide +kernel
theorem dX12_costOfAll_23 : decode cX12_costOfAll 23 = .ok (.iload_n 2, 1) := by decide +kernel
theorem dX12_costOfAll_24 : decode cX12_costOfAll 24 = .ok (.iload_n 3, 1) := by decide +kernel
theorem dX12_costOfAll_25 : decode cX12_costOfAll 25 = .ok (.invokevirtual 353, 3) := by decide +kernel
theorem dX12_costOfAll_28 : decode cX12_costOfAll 28 = .ok (.i2l, 1) := by decide +kernel
theorem dX12_costOfAll_29 : decode cX12_costOfAll 29 = .ok (.ladd, 1) := by decide +kernel
theorem dX12_costOfAll_30 : decode cX12_costOfAll 30 = .ok (.lstore 4, 2) := by decide +kernel
theorem dX12_costOfAll_32 : decode cX12_costOfAll 32 = .ok (.iinc 6 1, 3) := by decide +kernel
theorem dX12_costOfAll_35 : decode cX12_costOfAll 35 = .ok (.goto (-29), 3) := by decide +kernel
theorem dX12_costOfAll_38 : decode cX12_costOfAll 38 = .ok (.lload 4, 2) := by decide +kernel
theorem dX12_costOfAll_40 : decode cX12_costOfAll 40 = .ok (.invokestatic 333, 3) := by decide +kernel
theorem dX12_costOfAll_43 : decode cX12_costOfAll 43 = .ok (.ireturn, 1) := by decide +kernel
theorem dX12_hasContract_0 : decode cX12_hasContract 0 = .ok (.aload_n 0, 1) := by decide +kernel
theorem dX12_hasContract_1 : decode cX12_hasContract 1 = .ok (.getfield 114, 3) := by decide +kernel
theorem dX12_hasContract_4 : decode cX12_hasContract 4 = .ok (.iload_n 1, 1) := by decide +kernel
theorem dX12_hasContract_5 : decode cX12_hasContract 5 = .ok (.iaload, 1) := by decide +kernel
theorem dX12_hasContract_6 : decode cX12_hasContract 6 = .ok (.ifCond .lt 7, 3) := by decide +kernel
theorem dX12_hasContract_9 : decode cX12_hasContract 9 = .ok (.iconst 1, 1) := by decide +kernel
theorem dX12_hasContract_10 : decode cX12_hasContract 10 = .ok (.goto 4, 3) := by decide +kernel
theorem dX12_hasContract_13 : decode cX12_hasContract 13 = .ok (.iconst 0, 1) := by decide +kernel
theorem dX12_hasContract_14 : decode cX12_hasContract 14 = .ok (.ireturn, 1) := by decide +kernel
theorem dX12_lacks_0 : decode cX12_lacks 0 = .ok (.aload_n 0, 1) := by decide +kernel
theorem dX12_lacks_1 : decode cX12_lacks 1 = .ok (.iload_n 1, 1) := by decide +kernel
theorem dX12_lacks_2 : decode cX12_lacks 2 = .ok (.invokevirtual 169, 3) := by decide +kernel
theorem dX12_lacks_5 : decode cX12_lacks 5 = .ok (.ifCond .eq 42, 3) := by decide +kernel
theorem dX12_lacks_8 : decode cX12_lacks 8 = .ok (.aload_n 0, 1) := by decide +kernel
theorem dX12_lacks_9 : decode cX12_lacks 9 = .ok (.iload_n 1, 1) := by decide +kernel
theorem dX12_lacks_10 : decode cX12_lacks 10 = .ok (.invokevirtual 356, 3) := by decide +kernel
theorem dX12_lacks_13 : decode cX12_lacks 13 = .ok (.ifCond .eq 34, 3) := by decide +kernel
theorem dX12_lacks_16 : decode cX12_lacks 16 = .ok (.iload_n 2, 1) := by decide +kernel
theorem dX12_lacks_17 : decode cX12_lacks 17 = .ok (.iconst 0, 1) := by decide +kernel
theorem dX12_lacks_18 : decode cX12_lacks 18 = .ok (.aload_n 0, 1) := by decide +kernel
theorem dX12_lacks_19 : decode cX12_lacks 19 = .ok (.getfield 120, 3) := by decide +kernel
theorem dX12_lacks_22 : decode cX12_lacks 22 = .ok (.iload_n 1, 1) := by decide +kernel
theorem dX12_lacks_23 : decode cX12_lacks 23 = .ok (.iaload, 1) := by decide +kernel
theorem dX12_lacks_24 : decode cX12_lacks 24 = .ok (.iconst 1, 1) := by decide +kernel
theorem dX12_lacks_25 : decode cX12_lacks 25 = .ok (.isub, 1) := by decide +kernel
theorem dX12_lacks_26 : decode cX12_lacks 26 = .ok (.invokestatic 151, 3) := by decide +kernel
theorem dX12_lacks_29 : decode cX12_lacks 29 = .ok (.ifCond .eq 18, 3) := by decide +kernel
theorem dX12_lacks_32 : decode cX12_lacks 32 = .ok (.iload_n 3, 1) := by decide +kernel
theorem dX12_lacks_33 : decode cX12_lacks 33 = .ok (.invokestatic 298, 3) := by decide +kernel
theorem dX12_lacks_36 : decode cX12_lacks 36 = .ok (.ifCond .eq 11, 3) := by decide +kernel
theorem dX12_lacks_39 : decode cX12_lacks 39 = .ok (.iload 4, 2) := by decide +kernel
theorem dX12_lacks_41 : decode cX12_lacks 41 = .ok (.invokestatic 298, 3) := by decide +kernel
theorem dX12_lacks_44 : decode cX12_lacks 44 = .ok (.ifCond .ne 5, 3) := by decide +kernel
theorem dX12_lacks_47 : decode cX12_lacks 47 = .ok (.iconst (-1), 1) := by decide +kernel
theorem dX12_lacks_48 : decode cX12_lacks 48 = .ok (.ireturn, 1) := by decide +kernel
theorem dX12_lacks_49 : decode cX12_lacks 49 = .ok (.aload_n 0, 1) := by decide +kernel
theorem dX12_lacks_50 : decode cX12_lacks 50 = .ok (.iload_n 1, 1) := by decide +kernel
theorem dX12_lacks_51 : decode cX12_lacks 51 = .ok (.invokevirtual 359, 3) := by decide +kernel
theorem dX12_lacks_54 : decode cX12_lacks 54 = .ok (.aload_n 0, 1) := by decide +kernel
theorem dX12_lacks_55 : decode cX12_lacks 55 = .ok (.iload_n 1, 1) := by decide +kernel
theorem dX12_lacks_56 : decode cX12_lacks 56 = .ok (.iload_n 2, 1) := by decide +kernel
theorem dX12_lacks_57 : decode cX12_lacks 57 = .ok (.iload_n 3, 1) := by decide +kernel
theorem dX12_lacks_58 : decode cX12_lacks 58 = .ok (.iload 4, 2) := by decide +kernel
theorem dX12_lacks_60 : decode cX12_lacks 60 = .ok (.invokevirtual 349, 3) := by decide +kernel
theorem dX12_lacks_63 : decode cX12_lacks 63 = .ok (.ireturn, 1) := by decide +kernel
theorem dX12_costs_0 : decode cX12_costs 0 = .ok (.aload_n 0, 1) := by decide +kernel
theorem dX12_costs_1 : decode cX12_costs 1 = .ok (.iload_n 1, 1) := by decide +kernel
theorem dX12_costs_2 : decode cX12_costs 2 = .ok (.invokevirtual 169, 3) := by decide +kernel
theorem dX12_costs_5 : decode cX12_costs 5 = .ok (.ifCond .eq 42, 3) := by decide +kernel
theorem dX12_costs_8 : decode cX12_costs 8 = .ok (.aload_n 0, 1) := by decide +kernel
theorem dX12_costs_9 : decode cX12_costs 9 = .ok (.iload_n 1, 1) := by decide +kernel
theorem dX12_costs_10 : decode cX12_costs 10 = .ok (.invokevirtual 356, 3) := by decide +kernel
theorem dX12_costs_13 : decode cX12_costs 13 = .ok (.ifCond .eq 34, 3) := by decide +kernel
theorem dX12_costs_16 : decode cX12_costs 16 = .ok (.iload_n 2, 1) := by decide +kernel
theorem dX12_costs_17 : decode cX12_costs 17 = .ok (.iconst (-1), 1) := by decide +kernel
theorem dX12_costs_18 : decode cX12_costs 18 = .ok (.aload_n 0, 1) := by decide +kernel
theorem dX12_costs_19 : decode cX12_costs 19 = .ok (.getfield 120, 3) := by decide +kernel
theorem dX12_costs_22 : decode cX12_costs 22 = .ok (.iload_n 1, 1) := by decide +kernel
theorem dX12_costs_23 : decode cX12_costs 23 = .ok (.iaload, 1) := by decide +kernel
theorem dX12_costs_24 : decode cX12_costs 24 = .ok (.iconst 1, 1) := by decide +kernel
theorem dX12_costs_25 : decode cX12_costs 25 = .ok (.isub, 1) := by decide +kernel
theorem dX12_costs_26 : decode cX12_costs 26 = .ok (.invokestatic 151, 3) := by decide +kernel
theorem dX12_costs_29 : decode cX12_costs 29 = .ok (.ifCond .eq 18, 3) := by decide +kernel
theorem dX12_costs_32 : decode cX12_costs 32 = .ok (.iload_n 3, 1) := by decide +kernel
theorem dX12_costs_33 : decode cX12_costs 33 = .ok (.invokestatic 298, 3) := by decide +kernel
theorem dX12_costs_36 : decode cX12_costs 36 = .ok (.ifCond .eq 11, 3) := by decide +kernel
theorem dX12_costs_39 : decode cX12_costs 39 = .ok (.iload 4, 2) := by decide +kernel
theorem dX12_costs_41 : decode cX12_costs 41 = .ok (.invokestatic 298, 3) := by decide +kernel
theorem dX12_costs_44 : decode cX12_costs 44 = .ok (.ifCond .ne 6, 3) := by decide +kernel
theorem dX12_costs_47 : decode cX12_costs 47 = .ok (.ldc 236, 2) := by decide +kernel
theorem dX12_costs_49 : decode cX12_costs 49 = .ok (.ireturn, 1) := by decide +kernel
theorem dX12_costs_50 : decode cX12_costs 50 = .ok (.aload_n 0, 1) := by decide +kernel
theorem dX12_costs_51 : decode cX12_costs 51 = .ok (.iload_n 1, 1) := by decide +kernel
theorem dX12_costs_52 : decode cX12_costs 52 = .ok (.invokevirtual 359, 3) := by decide +kernel
theorem dX12_costs_55 : decode cX12_costs 55 = .ok (.iload_n 2, 1) := by decide +kernel
theorem dX12_costs_56 : decode cX12_costs 56 = .ok (.ifCond .ge 14, 3) := by decide +kernel
theorem dX12_costs_59 : decode cX12_costs 59 = .ok (.aload_n 0, 1) := by decide +kernel
theorem dX12_costs_60 : decode cX12_costs 60 = .ok (.iload_n 1, 1) := by decide +kernel
theorem dX12_costs_61 : decode cX12_costs 61 = .ok (.iload_n 3, 1) := by decide +kernel
theorem dX12_costs_62 : decode cX12_costs 62 = .ok (.iload 4, 2) := by decide +kernel
theorem dX12_costs_64 : decode cX12_costs 64 = .ok (.invokevirtual 362, 3) := by decide +kernel
theorem dX12_costs_67 : decode cX12_costs 67 = .ok (.goto 12, 3) := by decide +kernel
theorem dX12_costs_70 : decode cX12_costs 70 = .ok (.aload_n 0, 1) := by decide +kernel
theorem dX12_costs_71 : decode cX12_costs 71 = .ok (.iload_n 1, 1) := by decide +kernel
theorem dX12_costs_72 : decode cX12_costs 72 = .ok (.iload_n 2, 1) := by decide +kernel
theorem dX12_costs_73 : decode cX12_costs 73 = .ok (.iload_n 3, 1) := by decide +kernel
theorem dX12_costs_74 : decode cX12_costs 74 = .ok (.iload 4, 2) := by decide +kernel
theorem dX12_costs_76 : decode cX12_costs 76 = .ok (.invokevirtual 353, 3) := by decide +kernel
theorem dX12_costs_79 : decode cX12_costs 79 = .ok (.ireturn, 1) := by decide +kernel
theorem dX12_giveBack_0 : decode cX12_giveBack 0 = .ok (.aload_n 0, 1) := by decide +kernel
theorem dX12_giveBack_1 : decode cX12_giveBack 1 = .ok (.iload_n 1, 1) := by decide +kernel
theorem dX12_giveBack_2 : decode cX12_giveBack 2 = .ok (.invokevirtual 169, 3) := by decide +kernel
theorem dX12_giveBack_5 : decode cX12_giveBack 5 = .ok (.ifCond .ne 5, 3) := by decide +kernel
theorem dX12_giveBack_8 : decode cX12_giveBack 8 = .ok (.iconst (-1), 1) := by decide +kernel
theorem dX12_giveBack_9 : decode cX12_giveBack 9 = .ok (.ireturn, 1) := by decide +kernel
theorem dX12_giveBack_10 : decode cX12_giveBack 10 = .ok (.aload_n 0, 1) := by decide +kernel
theorem dX12_giveBack_11 : decode cX12_giveBack 11 = .ok (.iload_n 1, 1) := by decide +kernel
theorem dX12_giveBack_12 : decode cX12_giveBack 12 = .ok (.invokevirtual 176, 3) := by decide +kernel
theorem dX12_giveBack_15 : decode cX12_giveBack 15 = .ok (.ifCond .ne 11, 3) := by decide +kernel
theorem dX12_giveBack_18 : decode cX12_giveBack 18 = .ok (.aload_n 0, 1) := by decide +kernel
theorem dX12_giveBack_19 : decode cX12_giveBack 19 = .ok (.iload_n 1, 1) := by decide +kernel
theorem dX12_giveBack_20 : decode cX12_giveBack 20 = .ok (.invokevirtual 356, 3) := by decide +kernel
theorem dX12_giveBack_23 : decode cX12_giveBack 23 = .ok (.ifCond .ne 6, 3) := by decide +kernel
theorem dX12_giveBack_26 : decode cX12_giveBack 26 = .ok (.bipush (-2), 2) := by decide +kernel
theorem dX12_giveBack_28 : decode cX12_giveBack 28 = .ok (.ireturn, 1) := by decide +kernel
theorem dX12_giveBack_29 : decode cX12_giveBack 29 = .ok (.aload_n 0, 1) := by decide +kernel
theorem dX12_giveBack_30 : decode cX12_giveBack 30 = .ok (.iload_n 1, 1) := by decide +kernel
theorem dX12_giveBack_31 : decode cX12_giveBack 31 = .ok (.invokevirtual 359, 3) := by decide +kernel
theorem dX12_giveBack_34 : decode cX12_giveBack 34 = .ok (.aload_n 0, 1) := by decide +kernel
theorem dX12_giveBack_35 : decode cX12_giveBack 35 = .ok (.getfield 28, 3) := by decide +kernel
theorem dX12_giveBack_38 : decode cX12_giveBack 38 = .ok (.iload_n 1, 1) := by decide +kernel
theorem dX12_giveBack_39 : decode cX12_giveBack 39 = .ok (.aload_n 0, 1) := by decide +kernel
theorem dX12_giveBack_40 : decode cX12_giveBack 40 = .ok (.iload_n 1, 1) := by decide +kernel
theorem dX12_giveBack_41 : decode cX12_giveBack 41 = .ok (.aload_n 0, 1) := by decide +kernel
theorem dX12_giveBack_42 : decode cX12_giveBack 42 = .ok (.getfield 183, 3) := by decide +kernel
theorem dX12_giveBack_45 : decode cX12_giveBack 45 = .ok (.aload_n 0, 1) := by decide +kernel
theorem dX12_giveBack_46 : decode cX12_giveBack 46 = .ok (.getfield 183, 3) := by decide +kernel
theorem dX12_giveBack_49 : decode cX12_giveBack 49 = .ok (.invokevirtual 362, 3) := by decide +kernel
theorem dX12_giveBack_52 : decode cX12_giveBack 52 = .ok (.iastore, 1) := by decide +kernel
theorem dX12_giveBack_53 : decode cX12_giveBack 53 = .ok (.aload_n 0, 1) := by decide +kernel
theorem dX12_giveBack_54 : decode cX12_giveBack 54 = .ok (.getfield 31, 3) := by decide +kernel
theorem dX12_giveBack_57 : decode cX12_giveBack 57 = .ok (.iload_n 1, 1) := by decide +kernel
theorem dX12_giveBack_58 : decode cX12_giveBack 58 = .ok (.aload_n 0, 1) := by decide +kernel
theorem dX12_giveBack_59 : decode cX12_giveBack 59 = .ok (.getfield 183, 3) := by decide +kernel
theorem dX12_giveBack_62 : decode cX12_giveBack 62 = .ok (.iastore, 1) := by decide +kernel
theorem dX12_giveBack_63 : decode cX12_giveBack 63 = .ok (.iconst 0, 1) := by decide +kernel
theorem dX12_giveBack_64 : decode cX12_giveBack 64 = .ok (.istore_n 2, 1) := by decide +kernel
theorem dX12_giveBack_65 : decode cX12_giveBack 65 = .ok (.iload_n 2, 1) := by decide +kernel
theorem dX12_giveBack_66 : decode cX12_giveBack 66 = .ok (.aload_n 0, 1) := by decide +kernel
theorem dX12_giveBack_67 : decode cX12_giveBack 67 = .ok (.getfield 166, 3) := by decide +kernel
theorem dX12_giveBack_70 : decode cX12_giveBack 70 = .ok (.if_icmp .ge 34, 3) := by decide +kernel
theorem dX12_giveBack_73 : decode cX12_giveBack 73 = .ok (.aload_n 0, 1) := by decide +kernel
theorem dX12_giveBack_74 : decode cX12_giveBack 74 = .ok (.getfield 135, 3) := by decide +kernel
theorem dX12_giveBack_77 : decode cX12_giveBack 77 = .ok (.iload_n 2, 1) := by decide +kernel
theorem dX12_giveBack_78 : decode cX12_giveBack 78 = .ok (.baload, 1) := by decide +kernel
theorem dX12_giveBack_79 : decode cX12_giveBack 79 = .ok (.ifCond .ne 6, 3) := by decide +kernel
theorem dX12_giveBack_82 : decode cX12_giveBack 82 = .ok (.goto 16, 3) := by decide +kernel
theorem dX12_giveBack_85 : decode cX12_giveBack 85 = .ok (.aload_n 0, 1) := by decide +kernel
theorem dX12_giveBack_86 : decode cX12_giveBack 86 = .ok (.iload_n 2, 1) := by decide +kernel
theorem dX12_giveBack_87 : decode cX12_giveBack 87 = .ok (.invokevirtual 205, 3) := by decide +kernel
theorem dX12_giveBack_90 : decode cX12_giveBack 90 = .ok (.aload_n 0, 1) := by decide +kernel
theorem dX12_giveBack_91 : decode cX12_giveBack 91 = .ok (.getfield 46, 3) := by decide +kernel
theorem dX12_giveBack_94 : decode cX12_giveBack 94 = .ok (.iload_n 2, 1) := by decide +kernel
theorem dX12_giveBack_95 : decode cX12_giveBack 95 = .ok (.bipush 12, 2) := by decide +kernel
theorem dX12_giveBack_97 : decode cX12_giveBack 97 = .ok (.iastore, 1) := by decide +kernel
theorem dX12_giveBack_98 : decode cX12_giveBack 98 = .ok (.iinc 2 1, 3) := by decide +kernel
theorem dX12_giveBack_101 : decode cX12_giveBack 101 = .ok (.goto (-36), 3) := by decide +kernel
theorem dX12_giveBack_104 : decode cX12_giveBack 104 = .ok (.aload_n 0, 1) := by decide +kernel
theorem dX12_giveBack_105 : decode cX12_giveBack 105 = .ok (.getfield 28, 3) := by decide +kernel
theorem dX12_giveBack_108 : decode cX12_giveBack 108 = .ok (.iload_n 1, 1) := by decide +kernel
theorem dX12_giveBack_109 : decode cX12_giveBack 109 = .ok (.iaload, 1) := by decide +kernel
theorem dX12_giveBack_110 : decode cX12_giveBack 110 = .ok (.ireturn, 1) := by decide +kernel
theorem dX12_bitsOf_0 : decode cX12_bitsOf 0 = .ok (.iconst 0, 1) := by decide +kernel
theorem dX12_bitsOf_1 : decode cX12_bitsOf 1 = .ok (.istore_n 1, 1) := by decide +kernel
theorem dX12_bitsOf_2 : decode cX12_bitsOf 2 = .ok (.iload_n 0, 1) := by decide +kernel
theorem dX12_bitsOf_3 : decode cX12_bitsOf 3 = .ok (.istore_n 2, 1) := by decide +kernel
theorem dX12_bitsOf_4 : decode cX12_bitsOf 4 = .ok (.iload_n 2, 1) := by decide +kernel
theorem dX12_bitsOf_5 : decode cX12_bitsOf 5 = .ok (.ifCond .eq 15, 3) := by decide +kernel
theorem dX12_bitsOf_8 : decode cX12_bitsOf 8 = .ok (.iinc 1 1, 3) := by decide +kernel
theorem dX12_bitsOf_11 : decode cX12_bitsOf 11 = .ok (.iload_n 2, 1) := by decide +kernel
theorem dX12_bitsOf_12 : decode cX12_bitsOf 12 = .ok (.iload_n 2, 1) := by decide +kernel
theorem dX12_bitsOf_13 : decode cX12_bitsOf 13 = .ok (.iconst 1, 1) := by decide +kernel
theorem dX12_bitsOf_14 : decode cX12_bitsOf 14 = .ok (.isub, 1) := by decide +kernel
theorem dX12_bitsOf_15 : decode cX12_bitsOf 15 = .ok (.iand, 1) := by decide +kernel
theorem dX12_bitsOf_16 : decode cX12_bitsOf 16 = .ok (.istore_n 2, 1) := by decide +kernel
theorem dX12_bitsOf_17 : decode cX12_bitsOf 17 = .ok (.goto (-13), 3) := by decide +kernel
theorem dX12_bitsOf_20 : decode cX12_bitsOf 20 = .ok (.iload_n 1, 1) := by decide +kernel
theorem dX12_bitsOf_21 : decode cX12_bitsOf 21 = .ok (.ireturn, 1) := by decide +kernel
theorem dX12_best_0 : decode cX12_best 0 = .ok (.aload_n 0, 1) := by decide +kernel
theorem dX12_best_1 : decode cX12_best 1 = .ok (.iload_n 1, 1) := by decide +kernel
theorem dX12_best_2 : decode cX12_best 2 = .ok (.invokevirtual 169, 3) := by decide +kernel
theorem dX12_best_5 : decode cX12_best 5 = .ok (.ifCond .eq 11, 3) := by decide +kernel
theorem dX12_best_8 : decode cX12_best 8 = .ok (.aload_n 0, 1) := by decide +kernel
theorem dX12_best_9 : decode cX12_best 9 = .ok (.iload_n 2, 1) := by decide +kernel
theorem dX12_best_10 : decode cX12_best 10 = .ok (.invokevirtual 173, 3) := by decide +kernel
theorem dX12_best_13 : decode cX12_best 13 = .ok (.ifCond .ne 5, 3) := by decide +kernel
theorem dX12_best_16 : decode cX12_best 16 = .ok (.iconst (-1), 1) := by decide +kernel
theorem dX12_best_17 : decode cX12_best 17 = .ok (.ireturn, 1) := by decide +kernel
theorem dX12_best_18 : decode cX12_best 18 = .ok (.aload_n 0, 1) := by decide +kernel
theorem dX12_best_19 : decode cX12_best 19 = .ok (.iload_n 1, 1) := by decide +kernel
theorem dX12_best_20 : decode cX12_best 20 = .ok (.invokevirtual 356, 3) := by decide +kernel
theorem dX12_best_23 : decode cX12_best 23 = .ok (.ifCond .eq 25, 3) := by decide +kernel
theorem dX12_best_26 : decode cX12_best 26 = .ok (.aload_n 0, 1) := by decide +kernel
theorem dX12_best_27 : decode cX12_best 27 = .ok (.iload_n 1, 1) := by decide +kernel
theorem dX12_best_28 : decode cX12_best 28 = .ok (.invokevirtual 176, 3) := by decide +kernel
theorem dX12_best_31 : decode cX12_best 31 = .ok (.ifCond .ne 17, 3) := by decide +kernel
theorem dX12_best_34 : decode cX12_best 34 = .ok (.aload_n 0, 1) := by decide +kernel
theorem dX12_best_35 : decode cX12_best 35 = .ok (.getfield 34, 3) := by decide +kernel
theorem dX12_best_38 : decode cX12_best 38 = .ok (.bipush 10, 2) := by decide +kernel
theorem dX12_best_40 : decode cX12_best 40 = .ok (.iload_n 1, 1) := by decide +kernel
theorem dX12_best_41 : decode cX12_best 41 = .ok (.imul, 1) := by decide +kernel
theorem dX12_best_42 : decode cX12_best 42 = .ok (.iload_n 2, 1) := by decide +kernel
theorem dX12_best_43 : decode cX12_best 43 = .ok (.iadd, 1) := by decide +kernel
theorem dX12_best_44 : decode cX12_best 44 = .ok (.iaload, 1) := by decide +kernel
theorem dX12_best_45 : decode cX12_best 45 = .ok (.ifCond .ne 6, 3) := by decide +kernel
theorem dX12_best_48 : decode cX12_best 48 = .ok (.bipush (-2), 2) := by decide +kernel
theorem dX12_best_50 : decode cX12_best 50 = .ok (.ireturn, 1) := by decide +kernel
theorem dX12_best_51 : decode cX12_best 51 = .ok (.iconst 0, 1) := by decide +kernel
theorem dX12_best_52 : decode cX12_best 52 = .ok (.istore_n 3, 1) := by decide +kernel
theorem dX12_best_53 : decode cX12_best 53 = .ok (.iconst 0, 1) := by decide +kernel
theorem dX12_best_54 : decode cX12_best 54 = .ok (.istore 4, 2) := by decide +kernel
theorem dX12_best_56 : decode cX12_best 56 = .ok (.iconst 0, 1) := by decide +kernel
theorem dX12_best_57 : decode cX12_best 57 = .ok (.istore 5, 2) := by decide +kernel
theorem dX12_best_59 : decode cX12_best 59 = .ok (.iload 5, 2) := by decide +kernel
theorem dX12_best_61 : decode cX12_best 61 = .ok (.aload_n 0, 1) := by decide +kernel
theorem dX12_best_62 : decode cX12_best 62 = .ok (.getfield 166, 3) := by decide +kernel
theorem dX12_best_65 : decode cX12_best 65 = .ok (.if_icmp .ge 89, 3) := by decide +kernel
theorem dX12_best_68 : decode cX12_best 68 = .ok (.aload_n 0, 1) := by decide +kernel
theorem dX12_best_69 : decode cX12_best 69 = .ok (.getfield 40, 3) := by decide +kernel
theorem dX12_best_72 : decode cX12_best 72 = .ok (.iload 5, 2) := by decide +kernel
theorem dX12_best_74 : decode cX12_best 74 = .ok (.iaload, 1) := by decide +kernel
theorem dX12_best_75 : decode cX12_best 75 = .ok (.iload_n 2, 1) := by decide +kernel
theorem dX12_best_76 : decode cX12_best 76 = .ok (.if_icmp .ne 72, 3) := by decide +kernel
theorem dX12_best_79 : decode cX12_best 79 = .ok (.aload_n 0, 1) := by decide +kernel
theorem dX12_best_80 : decode cX12_best 80 = .ok (.getfield 46, 3) := by decide +kernel
theorem dX12_best_83 : decode cX12_best 83 = .ok (.iload 5, 2) := by decide +kernel
theorem dX12_best_85 : decode cX12_best 85 = .ok (.iaload, 1) := by decide +kernel
theorem dX12_best_86 : decode cX12_best 86 = .ok (.iload_n 1, 1) := by decide +kernel
theorem dX12_best_87 : decode cX12_best 87 = .ok (.if_icmp .eq 18, 3) := by decide +kernel
theorem dX12_best_90 : decode cX12_best 90 = .ok (.aload_n 0, 1) := by decide +kernel
theorem dX12_best_91 : decode cX12_best 91 = .ok (.getfield 46, 3) := by decide +kernel
theorem dX12_best_94 : decode cX12_best 94 = .ok (.iload 5, 2) := by decide +kernel
theorem dX12_best_96 : decode cX12_best 96 = .ok (.iaload, 1) := by decide +kernel
theorem dX12_best_97 : decode cX12_best 97 = .ok (.bipush 11, 2) := by decide +kernel
theorem dX12_best_99 : decode cX12_best 99 = .ok (.if_icmp .eq 6, 3) := by decide +kernel
theorem dX12_best_102 : decode cX12_best 102 = .ok (.goto 46, 3) := by decide +kernel
theorem dX12_best_105 : decode cX12_best 105 = .ok (.iload_n 3, 1) := by decide +kernel
theorem dX12_best_106 : decode cX12_best 106 = .ok (.bipush 8, 2) := by decide +kernel
theorem dX12_best_108 : decode cX12_best 108 = .ok (.if_icmp .ne 6, 3) := by decide +kernel
