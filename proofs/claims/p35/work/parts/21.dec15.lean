theorem dX12_lostBy_199 : decode cX12_lostBy 199 = .ok (.iload_n 1, 1) := by decide +kernel
theorem dX12_lostBy_200 : decode cX12_lostBy 200 = .ok (.iaload, 1) := by decide +kernel
theorem dX12_lostBy_201 : decode cX12_lostBy 201 = .ok (.aload_n 0, 1) := by decide +kernel
theorem dX12_lostBy_202 : decode cX12_lostBy 202 = .ok (.getfield 70, 3) := by decide +kernel
theorem dX12_lostBy_205 : decode cX12_lostBy 205 = .ok (.iload_n 1, 1) := by decide +kernel
theorem dX12_lostBy_206 : decode cX12_lostBy 206 = .ok (.iaload, 1) := by decide +kernel
theorem dX12_lostBy_207 : decode cX12_lostBy 207 = .ok (.isub, 1) := by decide +kernel
theorem dX12_lostBy_208 : decode cX12_lostBy 208 = .ok (.iastore, 1) := by decide +kernel
theorem dX12_lostBy_209 : decode cX12_lostBy 209 = .ok (.aload_n 0, 1) := by decide +kernel
theorem dX12_lostBy_210 : decode cX12_lostBy 210 = .ok (.getfield 102, 3) := by decide +kernel
theorem dX12_lostBy_213 : decode cX12_lostBy 213 = .ok (.iconst 3, 1) := by decide +kernel
theorem dX12_lostBy_214 : decode cX12_lostBy 214 = .ok (.aload_n 0, 1) := by decide +kernel
theorem dX12_lostBy_215 : decode cX12_lostBy 215 = .ok (.getfield 55, 3) := by decide +kernel
theorem dX12_lostBy_218 : decode cX12_lostBy 218 = .ok (.iload_n 1, 1) := by decide +kernel
theorem dX12_lostBy_219 : decode cX12_lostBy 219 = .ok (.iaload, 1) := by decide +kernel
theorem dX12_lostBy_220 : decode cX12_lostBy 220 = .ok (.iastore, 1) := by decide +kernel
theorem dX12_lostBy_221 : decode cX12_lostBy 221 = .ok (.aload_n 0, 1) := by decide +kernel
theorem dX12_lostBy_222 : decode cX12_lostBy 222 = .ok (.getfield 102, 3) := by decide +kernel
theorem dX12_lostBy_225 : decode cX12_lostBy 225 = .ok (.iconst 4, 1) := by decide +kernel
theorem dX12_lostBy_226 : decode cX12_lostBy 226 = .ok (.aload_n 0, 1) := by decide +kernel
theorem dX12_lostBy_227 : decode cX12_lostBy 227 = .ok (.getfield 40, 3) := by decide +kernel
theorem dX12_lostBy_230 : decode cX12_lostBy 230 = .ok (.aload_n 0, 1) := by decide +kernel
theorem dX12_lostBy_231 : decode cX12_lostBy 231 = .ok (.getfield 52, 3) := by decide +kernel
theorem dX12_lostBy_234 : decode cX12_lostBy 234 = .ok (.iload_n 1, 1) := by decide +kernel
theorem dX12_lostBy_235 : decode cX12_lostBy 235 = .ok (.iaload, 1) := by decide +kernel
theorem dX12_lostBy_236 : decode cX12_lostBy 236 = .ok (.iaload, 1) := by decide +kernel
theorem dX12_lostBy_237 : decode cX12_lostBy 237 = .ok (.iastore, 1) := by decide +kernel
theorem dX12_lostBy_238 : decode cX12_lostBy 238 = .ok (.aload_n 0, 1) := by decide +kernel
theorem dX12_lostBy_239 : decode cX12_lostBy 239 = .ok (.getfield 102, 3) := by decide +kernel
theorem dX12_lostBy_242 : decode cX12_lostBy 242 = .ok (.iconst 5, 1) := by decide +kernel
theorem dX12_lostBy_243 : decode cX12_lostBy 243 = .ok (.iload 4, 2) := by decide +kernel
theorem dX12_lostBy_245 : decode cX12_lostBy 245 = .ok (.iastore, 1) := by decide +kernel
theorem dX12_lostBy_246 : decode cX12_lostBy 246 = .ok (.aload_n 0, 1) := by decide +kernel
theorem dX12_lostBy_247 : decode cX12_lostBy 247 = .ok (.iload_n 3, 1) := by decide +kernel
theorem dX12_lostBy_248 : decode cX12_lostBy 248 = .ok (.invokevirtual 308, 3) := by decide +kernel
theorem dX12_lostBy_251 : decode cX12_lostBy 251 = .ok (.istore 5, 2) := by decide +kernel
theorem dX12_lostBy_253 : decode cX12_lostBy 253 = .ok (.iload 5, 2) := by decide +kernel
theorem dX12_lostBy_255 : decode cX12_lostBy 255 = .ok (.ifCond .ge 7, 3) := by decide +kernel
theorem dX12_lostBy_258 : decode cX12_lostBy 258 = .ok (.iconst 0, 1) := by decide +kernel
theorem dX12_lostBy_259 : decode cX12_lostBy 259 = .ok (.goto 17, 3) := by decide +kernel
theorem dX12_lostBy_262 : decode cX12_lostBy 262 = .ok (.iload 5, 2) := by decide +kernel
theorem dX12_lostBy_264 : decode cX12_lostBy 264 = .ok (.bipush 100, 2) := by decide +kernel
theorem dX12_lostBy_266 : decode cX12_lostBy 266 = .ok (.if_icmp .le 8, 3) := by decide +kernel
theorem dX12_lostBy_269 : decode cX12_lostBy 269 = .ok (.bipush 100, 2) := by decide +kernel
theorem dX12_lostBy_271 : decode cX12_lostBy 271 = .ok (.goto 5, 3) := by decide +kernel
theorem dX12_lostBy_274 : decode cX12_lostBy 274 = .ok (.iload 5, 2) := by decide +kernel
theorem dX12_lostBy_276 : decode cX12_lostBy 276 = .ok (.ireturn, 1) := by decide +kernel
theorem dX12_lost_0 : decode cX12_lost 0 = .ok (.aload_n 0, 1) := by decide +kernel
theorem dX12_lost_1 : decode cX12_lost 1 = .ok (.iload_n 1, 1) := by decide +kernel
theorem dX12_lost_2 : decode cX12_lost 2 = .ok (.invokevirtual 202, 3) := by decide +kernel
theorem dX12_lost_5 : decode cX12_lost 5 = .ok (.ifCond .eq 10, 3) := by decide +kernel
theorem dX12_lost_8 : decode cX12_lost 8 = .ok (.iload_n 3, 1) := by decide +kernel
theorem dX12_lost_9 : decode cX12_lost 9 = .ok (.invokestatic 298, 3) := by decide +kernel
theorem dX12_lost_12 : decode cX12_lost 12 = .ok (.ifCond .ne 5, 3) := by decide +kernel
theorem dX12_lost_15 : decode cX12_lost 15 = .ok (.iconst (-1), 1) := by decide +kernel
theorem dX12_lost_16 : decode cX12_lost 16 = .ok (.ireturn, 1) := by decide +kernel
theorem dX12_lost_17 : decode cX12_lost 17 = .ok (.aload_n 0, 1) := by decide +kernel
theorem dX12_lost_18 : decode cX12_lost 18 = .ok (.iload_n 1, 1) := by decide +kernel
theorem dX12_lost_19 : decode cX12_lost 19 = .ok (.iload_n 2, 1) := by decide +kernel
theorem dX12_lost_20 : decode cX12_lost 20 = .ok (.invokevirtual 218, 3) := by decide +kernel
theorem dX12_lost_23 : decode cX12_lost 23 = .ok (.istore 4, 2) := by decide +kernel
theorem dX12_lost_25 : decode cX12_lost 25 = .ok (.iload 4, 2) := by decide +kernel
theorem dX12_lost_27 : decode cX12_lost 27 = .ok (.ifCond .ge 5, 3) := by decide +kernel
theorem dX12_lost_30 : decode cX12_lost 30 = .ok (.iconst (-1), 1) := by decide +kernel
theorem dX12_lost_31 : decode cX12_lost 31 = .ok (.ireturn, 1) := by decide +kernel
theorem dX12_lost_32 : decode cX12_lost 32 = .ok (.aload_n 0, 1) := by decide +kernel
theorem dX12_lost_33 : decode cX12_lost 33 = .ok (.iload 4, 2) := by decide +kernel
theorem dX12_lost_35 : decode cX12_lost 35 = .ok (.invokevirtual 209, 3) := by decide +kernel
theorem dX12_lost_38 : decode cX12_lost 38 = .ok (.ifCond .eq 13, 3) := by decide +kernel
theorem dX12_lost_41 : decode cX12_lost 41 = .ok (.aload_n 0, 1) := by decide +kernel
theorem dX12_lost_42 : decode cX12_lost 42 = .ok (.iload 4, 2) := by decide +kernel
theorem dX12_lost_44 : decode cX12_lost 44 = .ok (.iload_n 3, 1) := by decide +kernel
theorem dX12_lost_45 : decode cX12_lost 45 = .ok (.invokevirtual 311, 3) := by decide +kernel
theorem dX12_lost_48 : decode cX12_lost 48 = .ok (.goto 5, 3) := by decide +kernel
theorem dX12_lost_51 : decode cX12_lost 51 = .ok (.bipush (-2), 2) := by decide +kernel
theorem dX12_lost_53 : decode cX12_lost 53 = .ok (.ireturn, 1) := by decide +kernel
theorem dX12_limitOf_0 : decode cX12_limitOf 0 = .ok (.aload_n 0, 1) := by decide +kernel
theorem dX12_limitOf_1 : decode cX12_limitOf 1 = .ok (.getfield 7, 3) := by decide +kernel
theorem dX12_limitOf_4 : decode cX12_limitOf 4 = .ok (.iconst 3, 1) := by decide +kernel
theorem dX12_limitOf_5 : decode cX12_limitOf 5 = .ok (.aload_n 0, 1) := by decide +kernel
theorem dX12_limitOf_6 : decode cX12_limitOf 6 = .ok (.getfield 40, 3) := by decide +kernel
theorem dX12_limitOf_9 : decode cX12_limitOf 9 = .ok (.iload_n 1, 1) := by decide +kernel
theorem dX12_limitOf_10 : decode cX12_limitOf 10 = .ok (.iaload, 1) := by decide +kernel
theorem dX12_limitOf_11 : decode cX12_limitOf 11 = .ok (.imul, 1) := by decide +kernel
theorem dX12_limitOf_12 : decode cX12_limitOf 12 = .ok (.iload_n 2, 1) := by decide +kernel
theorem dX12_limitOf_13 : decode cX12_limitOf 13 = .ok (.iadd, 1) := by decide +kernel
theorem dX12_limitOf_14 : decode cX12_limitOf 14 = .ok (.iaload, 1) := by decide +kernel
theorem dX12_limitOf_15 : decode cX12_limitOf 15 = .ok (.ireturn, 1) := by decide +kernel
theorem dX12_leftOf_0 : decode cX12_leftOf 0 = .ok (.aload_n 0, 1) := by decide +kernel
theorem dX12_leftOf_1 : decode cX12_leftOf 1 = .ok (.iload_n 1, 1) := by decide +kernel
theorem dX12_leftOf_2 : decode cX12_leftOf 2 = .ok (.iload_n 2, 1) := by decide +kernel
theorem dX12_leftOf_3 : decode cX12_leftOf 3 = .ok (.invokevirtual 314, 3) := by decide +kernel
theorem dX12_leftOf_6 : decode cX12_leftOf 6 = .ok (.aload_n 0, 1) := by decide +kernel
theorem dX12_leftOf_7 : decode cX12_leftOf 7 = .ok (.getfield 49, 3) := by decide +kernel
theorem dX12_leftOf_10 : decode cX12_leftOf 10 = .ok (.iconst 3, 1) := by decide +kernel
theorem dX12_leftOf_11 : decode cX12_leftOf 11 = .ok (.iload_n 1, 1) := by decide +kernel
theorem dX12_leftOf_12 : decode cX12_leftOf 12 = .ok (.imul, 1) := by decide +kernel
theorem dX12_leftOf_13 : decode cX12_leftOf 13 = .ok (.iload_n 2, 1) := by decide +kernel
theorem dX12_leftOf_14 : decode cX12_leftOf 14 = .ok (.iadd, 1) := by decide +kernel
theorem dX12_leftOf_15 : decode cX12_leftOf 15 = .ok (.iaload, 1) := by decide +kernel
theorem dX12_leftOf_16 : decode cX12_leftOf 16 = .ok (.isub, 1) := by decide +kernel
theorem dX12_leftOf_17 : decode cX12_leftOf 17 = .ok (.istore 4, 2) := by decide +kernel
theorem dX12_leftOf_19 : decode cX12_leftOf 19 = .ok (.iconst 0, 1) := by decide +kernel
theorem dX12_leftOf_20 : decode cX12_leftOf 20 = .ok (.istore 5, 2) := by decide +kernel
theorem dX12_leftOf_22 : decode cX12_leftOf 22 = .ok (.iload 5, 2) := by decide +kernel
theorem dX12_leftOf_24 : decode cX12_leftOf 24 = .ok (.aload_n 0, 1) := by decide +kernel
theorem dX12_leftOf_25 : decode cX12_leftOf 25 = .ok (.getfield 186, 3) := by decide +kernel
theorem dX12_leftOf_28 : decode cX12_leftOf 28 = .ok (.if_icmp .ge 55, 3) := by decide +kernel
theorem dX12_leftOf_31 : decode cX12_leftOf 31 = .ok (.aload_n 0, 1) := by decide +kernel
theorem dX12_leftOf_32 : decode cX12_leftOf 32 = .ok (.getfield 52, 3) := by decide +kernel
theorem dX12_leftOf_35 : decode cX12_leftOf 35 = .ok (.iload 5, 2) := by decide +kernel
theorem dX12_leftOf_37 : decode cX12_leftOf 37 = .ok (.iaload, 1) := by decide +kernel
theorem dX12_leftOf_38 : decode cX12_leftOf 38 = .ok (.iload_n 1, 1) := by decide +kernel
theorem dX12_leftOf_39 : decode cX12_leftOf 39 = .ok (.if_icmp .ne 38, 3) := by decide +kernel
theorem dX12_leftOf_42 : decode cX12_leftOf 42 = .ok (.aload_n 0, 1) := by decide +kernel
theorem dX12_leftOf_43 : decode cX12_leftOf 43 = .ok (.iload 5, 2) := by decide +kernel
theorem dX12_leftOf_45 : decode cX12_leftOf 45 = .ok (.invokevirtual 209, 3) := by decide +kernel
theorem dX12_leftOf_48 : decode cX12_leftOf 48 = .ok (.ifCond .eq 29, 3) := by decide +kernel
theorem dX12_leftOf_51 : decode cX12_leftOf 51 = .ok (.iload 4, 2) := by decide +kernel
theorem dX12_leftOf_53 : decode cX12_leftOf 53 = .ok (.aload_n 0, 1) := by decide +kernel
theorem dX12_leftOf_54 : decode cX12_leftOf 54 = .ok (.iload_n 1, 1) := by decide +kernel
theorem dX12_leftOf_55 : decode cX12_leftOf 55 = .ok (.iload_n 2, 1) := by decide +kernel
theorem dX12_leftOf_56 : decode cX12_leftOf 56 = .ok (.invokevirtual 314, 3) := by decide +kernel
theorem dX12_leftOf_59 : decode cX12_leftOf 59 = .ok (.i2l, 1) := by decide +kernel
theorem dX12_leftOf_60 : decode cX12_leftOf 60 = .ok (.aload_n 0, 1) := by decide +kernel
theorem dX12_leftOf_61 : decode cX12_leftOf 61 = .ok (.iload 5, 2) := by decide +kernel
theorem dX12_leftOf_63 : decode cX12_leftOf 63 = .ok (.iload_n 3, 1) := by decide +kernel
theorem dX12_leftOf_64 : decode cX12_leftOf 64 = .ok (.invokevirtual 311, 3) := by decide +kernel
theorem dX12_leftOf_67 : decode cX12_leftOf 67 = .ok (.i2l, 1) := by decide +kernel
theorem dX12_leftOf_68 : decode cX12_leftOf 68 = .ok (.lmul, 1) := by decide +kernel
theorem dX12_leftOf_69 : decode cX12_leftOf 69 = .ok (.ldc2_w 317, 3) := by decide +kernel
theorem dX12_leftOf_72 : decode cX12_leftOf 72 = .ok (.ldiv, 1) := by decide +kernel
theorem dX12_leftOf_73 : decode cX12_leftOf 73 = .ok (.l2i, 1) := by decide +kernel
theorem dX12_leftOf_74 : decode cX12_leftOf 74 = .ok (.isub, 1) := by decide +kernel
theorem dX12_leftOf_75 : decode cX12_leftOf 75 = .ok (.istore 4, 2) := by decide +kernel
theorem dX12_leftOf_77 : decode cX12_leftOf 77 = .ok (.iinc 5 1, 3) := by decide +kernel
theorem dX12_leftOf_80 : decode cX12_leftOf 80 = .ok (.goto (-58), 3) := by decide +kernel
theorem dX12_leftOf_83 : decode cX12_leftOf 83 = .ok (.iload 4, 2) := by decide +kernel
theorem dX12_leftOf_85 : decode cX12_leftOf 85 = .ok (.ireturn, 1) := by decide +kernel
theorem dX12_left_0 : decode cX12_left 0 = .ok (.aload_n 0, 1) := by decide +kernel
theorem dX12_left_1 : decode cX12_left 1 = .ok (.iload_n 1, 1) := by decide +kernel
theorem dX12_left_2 : decode cX12_left 2 = .ok (.invokevirtual 202, 3) := by decide +kernel
theorem dX12_left_5 : decode cX12_left 5 = .ok (.ifCond .eq 38, 3) := by decide +kernel
theorem dX12_left_8 : decode cX12_left 8 = .ok (.iload_n 2, 1) := by decide +kernel
theorem dX12_left_9 : decode cX12_left 9 = .ok (.iconst 0, 1) := by decide +kernel
theorem dX12_left_10 : decode cX12_left 10 = .ok (.iconst 2, 1) := by decide +kernel
theorem dX12_left_11 : decode cX12_left 11 = .ok (.invokestatic 151, 3) := by decide +kernel
theorem dX12_left_14 : decode cX12_left 14 = .ok (.ifCond .eq 29, 3) := by decide +kernel
theorem dX12_left_17 : decode cX12_left 17 = .ok (.iload_n 3, 1) := by decide +kernel
theorem dX12_left_18 : decode cX12_left 18 = .ok (.invokestatic 298, 3) := by decide +kernel
theorem dX12_left_21 : decode cX12_left 21 = .ok (.ifCond .eq 22, 3) := by decide +kernel
theorem dX12_left_24 : decode cX12_left 24 = .ok (.aload_n 0, 1) := by decide +kernel
theorem dX12_left_25 : decode cX12_left 25 = .ok (.iload_n 1, 1) := by decide +kernel
theorem dX12_left_26 : decode cX12_left 26 = .ok (.iload_n 2, 1) := by decide +kernel
theorem dX12_left_27 : decode cX12_left 27 = .ok (.invokevirtual 314, 3) := by decide +kernel
theorem dX12_left_30 : decode cX12_left 30 = .ok (.ifCond .le 13, 3) := by decide +kernel
theorem dX12_left_33 : decode cX12_left 33 = .ok (.aload_n 0, 1) := by decide +kernel
theorem dX12_left_34 : decode cX12_left 34 = .ok (.iload_n 1, 1) := by decide +kernel
theorem dX12_left_35 : decode cX12_left 35 = .ok (.iload_n 2, 1) := by decide +kernel
theorem dX12_left_36 : decode cX12_left 36 = .ok (.iload_n 3, 1) := by decide +kernel
theorem dX12_left_37 : decode cX12_left 37 = .ok (.invokevirtual 319, 3) := by decide +kernel
theorem dX12_left_40 : decode cX12_left 40 = .ok (.goto 5, 3) := by decide +kernel
theorem dX12_left_43 : decode cX12_left 43 = .ok (.ldc 236, 2) := by decide +kernel
theorem dX12_left_45 : decode cX12_left 45 = .ok (.ireturn, 1) := by decide +kernel
theorem dX12_least_0 : decode cX12_least 0 = .ok (.aload_n 0, 1) := by decide +kernel
theorem dX12_least_1 : decode cX12_least 1 = .ok (.iload_n 1, 1) := by decide +kernel
theorem dX12_least_2 : decode cX12_least 2 = .ok (.invokevirtual 202, 3) := by decide +kernel
theorem dX12_least_5 : decode cX12_least 5 = .ok (.ifCond .eq 10, 3) := by decide +kernel
theorem dX12_least_8 : decode cX12_least 8 = .ok (.iload_n 2, 1) := by decide +kernel
theorem dX12_least_9 : decode cX12_least 9 = .ok (.invokestatic 298, 3) := by decide +kernel
theorem dX12_least_12 : decode cX12_least 12 = .ok (.ifCond .ne 5, 3) := by decide +kernel
theorem dX12_least_15 : decode cX12_least 15 = .ok (.iconst (-1), 1) := by decide +kernel
theorem dX12_least_16 : decode cX12_least 16 = .ok (.ireturn, 1) := by decide +kernel
theorem dX12_least_17 : decode cX12_least 17 = .ok (.bipush (-2), 2) := by decide +kernel
theorem dX12_least_19 : decode cX12_least 19 = .ok (.istore_n 3, 1) := by decide +kernel
theorem dX12_least_20 : decode cX12_least 20 = .ok (.lconst 0, 1) := by decide +kernel
theorem dX12_least_21 : decode cX12_least 21 = .ok (.lstore 4, 2) := by decide +kernel
theorem dX12_least_23 : decode cX12_least 23 = .ok (.iconst 0, 1) := by decide +kernel
theorem dX12_least_24 : decode cX12_least 24 = .ok (.istore 6, 2) := by decide +kernel
theorem dX12_least_26 : decode cX12_least 26 = .ok (.iload 6, 2) := by decide +kernel
theorem dX12_least_28 : decode cX12_least 28 = .ok (.iconst 3, 1) := by decide +kernel
theorem dX12_least_29 : decode cX12_least 29 = .ok (.if_icmp .ge 68, 3) := by decide +kernel
theorem dX12_least_32 : decode cX12_least 32 = .ok (.aload_n 0, 1) := by decide +kernel
theorem dX12_least_33 : decode cX12_least 33 = .ok (.iload_n 1, 1) := by decide +kernel
theorem dX12_least_34 : decode cX12_least 34 = .ok (.iload 6, 2) := by decide +kernel
theorem dX12_least_36 : decode cX12_least 36 = .ok (.invokevirtual 314, 3) := by decide +kernel
theorem dX12_least_39 : decode cX12_least 39 = .ok (.ifCond .ne 6, 3) := by decide +kernel
theorem dX12_least_42 : decode cX12_least 42 = .ok (.goto 49, 3) := by decide +kernel
theorem dX12_least_45 : decode cX12_least 45 = .ok (.ldc2_w 322, 3) := by decide +kernel
theorem dX12_least_48 : decode cX12_least 48 = .ok (.aload_n 0, 1) := by decide +kernel
theorem dX12_least_49 : decode cX12_least 49 = .ok (.iload_n 1, 1) := by decide +kernel
theorem dX12_least_50 : decode cX12_least 50 = .ok (.iload 6, 2) := by decide +kernel
theorem dX12_least_52 : decode cX12_least 52 = .ok (.iload_n 2, 1) := by decide +kernel
theorem dX12_least_53 : decode cX12_least 53 = .ok (.invokevirtual 319, 3) := by decide +kernel
theorem dX12_least_56 : decode cX12_least 56 = .ok (.i2l, 1) := by decide +kernel
theorem dX12_least_57 : decode cX12_least 57 = .ok (.lmul, 1) := by decide +kernel
theorem dX12_least_58 : decode cX12_least 58 = .ok (.aload_n 0, 1) := by decide +kernel
theorem dX12_least_59 : decode cX12_least 59 = .ok (.iload_n 1, 1) := by decide +kernel
theorem dX12_least_60 : decode cX12_least 60 = .ok (.iload 6, 2) := by decide +kernel
theorem dX12_least_62 : decode cX12_least 62 = .ok (.invokevirtual 314, 3) := by decide +kernel
theorem dX12_least_65 : decode cX12_least 65 = .ok (.i2l, 1) := by decide +kernel
theorem dX12_least_66 : decode cX12_least 66 = .ok (.ldiv, 1) := by decide +kernel
theorem dX12_least_67 : decode cX12_least 67 = .ok (.lstore 7, 2) := by decide +kernel
theorem dX12_least_69 : decode cX12_least 69 = .ok (.iload_n 3, 1) := by decide +kernel
theorem dX12_least_70 : decode cX12_least 70 = .ok (.ifCond .lt 14, 3) := by decide +kernel
theorem dX12_least_73 : decode cX12_least 73 = .ok (.lload 7, 2) := by decide +kernel
theorem dX12_least_75 : decode cX12_least 75 = .ok (.lload 4, 2) := by decide +kernel
theorem dX12_least_77 : decode cX12_least 77 = .ok (.lcmp, 1) := by decide +kernel
theorem dX12_least_78 : decode cX12_least 78 = .ok (.ifCond .lt 6, 3) := by decide +kernel
theorem dX12_least_81 : decode cX12_least 81 = .ok (.goto 10, 3) := by decide +kernel
theorem dX12_least_84 : decode cX12_least 84 = .ok (.iload 6, 2) := by decide +kernel
theorem dX12_least_86 : decode cX12_least 86 = .ok (.istore_n 3, 1) := by decide +kernel
theorem dX12_least_87 : decode cX12_least 87 = .ok (.lload 7, 2) := by decide +kernel
theorem dX12_least_89 : decode cX12_least 89 = .ok (.lstore 4, 2) := by decide +kernel
theorem dX12_least_91 : decode cX12_least 91 = .ok (.iinc 6 1, 3) := by decide +kernel
theorem dX12_least_94 : decode cX12_least 94 = .ok (.goto (-68), 3) := by decide +kernel
theorem dX12_least_97 : decode cX12_least 97 = .ok (.iload_n 3, 1) := by decide +kernel
theorem dX12_least_98 : decode cX12_least 98 = .ok (.ireturn, 1) := by decide +kernel
theorem dX12_order_0 : decode cX12_order 0 = .ok (.aload_n 0, 1) := by decide +kernel
theorem dX12_order_1 : decode cX12_order 1 = .ok (.iload_n 1, 1) := by decide +kernel
theorem dX12_order_2 : decode cX12_order 2 = .ok (.invokevirtual 173, 3) := by decide +kernel
theorem dX12_order_5 : decode cX12_order 5 = .ok (.ifCond .eq 10, 3) := by decide +kernel
theorem dX12_order_8 : decode cX12_order 8 = .ok (.iload_n 2, 1) := by decide +kernel
theorem dX12_order_9 : decode cX12_order 9 = .ok (.invokestatic 298, 3) := by decide +kernel
theorem dX12_order_12 : decode cX12_order 12 = .ok (.ifCond .ne 5, 3) := by decide +kernel
theorem dX12_order_15 : decode cX12_order 15 = .ok (.iconst (-1), 1) := by decide +kernel
theorem dX12_order_16 : decode cX12_order 16 = .ok (.ireturn, 1) := by decide +kernel
theorem dX12_order_17 : decode cX12_order 17 = .ok (.aload_n 0, 1) := by decide +kernel
theorem dX12_order_18 : decode cX12_order 18 = .ok (.getfield 324, 3) := by decide +kernel
theorem dX12_order_21 : decode cX12_order 21 = .ok (.bipush 20, 2) := by decide +kernel
theorem dX12_order_23 : decode cX12_order 23 = .ok (.if_icmp .ne 6, 3) := by decide +kernel
theorem dX12_order_26 : decode cX12_order 26 = .ok (.bipush (-3), 2) := by decide +kernel
theorem dX12_order_28 : decode cX12_order 28 = .ok (.ireturn, 1) := by decide +kernel
theorem dX12_order_29 : decode cX12_order 29 = .ok (.aload_n 0, 1) := by decide +kernel
theorem dX12_order_30 : decode cX12_order 30 = .ok (.getfield 105, 3) := by decide +kernel
theorem dX12_order_33 : decode cX12_order 33 = .ok (.aload_n 0, 1) := by decide +kernel
theorem dX12_order_34 : decode cX12_order 34 = .ok (.getfield 324, 3) := by decide +kernel
theorem dX12_order_37 : decode cX12_order 37 = .ok (.iload_n 1, 1) := by decide +kernel
theorem dX12_order_38 : decode cX12_order 38 = .ok (.iastore, 1) := by decide +kernel
theorem dX12_order_39 : decode cX12_order 39 = .ok (.aload_n 0, 1) := by decide +kernel
theorem dX12_order_40 : decode cX12_order 40 = .ok (.getfield 108, 3) := by decide +kernel
theorem dX12_order_43 : decode cX12_order 43 = .ok (.aload_n 0, 1) := by decide +kernel
theorem dX12_order_44 : decode cX12_order 44 = .ok (.getfield 324, 3) := by decide +kernel
theorem dX12_order_47 : decode cX12_order 47 = .ok (.iload_n 2, 1) := by decide +kernel
theorem dX12_order_48 : decode cX12_order 48 = .ok (.iastore, 1) := by decide +kernel
theorem dX12_order_49 : decode cX12_order 49 = .ok (.aload_n 0, 1) := by decide +kernel
theorem dX12_order_50 : decode cX12_order 50 = .ok (.dup, 1) := by decide +kernel
theorem dX12_order_51 : decode cX12_order 51 = .ok (.getfield 324, 3) := by decide +kernel
theorem dX12_order_54 : decode cX12_order 54 = .ok (.iconst 1, 1) := by decide +kernel
theorem dX12_order_55 : decode cX12_order 55 = .ok (.iadd, 1) := by decide +kernel
theorem dX12_order_56 : decode cX12_order 56 = .ok (.putfield 324, 3) := by decide +kernel
theorem dX12_order_59 : decode cX12_order 59 = .ok (.aload_n 0, 1) := by decide +kernel
theorem dX12_order_60 : decode cX12_order 60 = .ok (.getfield 324, 3) := by decide +kernel
theorem dX12_order_63 : decode cX12_order 63 = .ok (.iconst 1, 1) := by decide +kernel
theorem dX12_order_64 : decode cX12_order 64 = .ok (.isub, 1) := by decide +kernel
theorem dX12_order_65 : decode cX12_order 65 = .ok (.ireturn, 1) := by decide +kernel
theorem dX12_asks_0 : decode cX12_asks 0 = .ok (.aload_n 0, 1) := by decide +kernel
theorem dX12_asks_1 : decode cX12_asks 1 = .ok (.getfield 34, 3) := by decide +kernel
theorem dX12_asks_4 : decode cX12_asks 4 = .ok (.bipush 10, 2) := by decide +kernel
theorem dX12_asks_6 : decode cX12_asks 6 = .ok (.iload_n 2, 1) := by decide +kernel
theorem dX12_asks_7 : decode cX12_asks 7 = .ok (.imul, 1) := by decide +kernel
theorem dX12_asks_8 : decode cX12_asks 8 = .ok (.aload_n 0, 1) := by decide +kernel
theorem dX12_asks_9 : decode cX12_asks 9 = .ok (.getfield 105, 3) := by decide +kernel
theorem dX12_asks_12 : decode cX12_asks 12 = .ok (.iload_n 1, 1) := by decide +kernel
theorem dX12_asks_13 : decode cX12_asks 13 = .ok (.iaload, 1) := by decide +kernel
theorem dX12_asks_14 : decode cX12_asks 14 = .ok (.iadd, 1) := by decide +kernel
theorem dX12_asks_15 : decode cX12_asks 15 = .ok (.iaload, 1) := by decide +kernel
theorem dX12_asks_16 : decode cX12_asks 16 = .ok (.ifCond .le 7, 3) := by decide +kernel
theorem dX12_asks_19 : decode cX12_asks 19 = .ok (.iconst 1, 1) := by decide +kernel
theorem dX12_asks_20 : decode cX12_asks 20 = .ok (.goto 4, 3) := by decide +kernel
theorem dX12_asks_23 : decode cX12_asks 23 = .ok (.iconst 0, 1) := by decide +kernel
theorem dX12_asks_24 : decode cX12_asks 24 = .ok (.ireturn, 1) := by decide +kernel
theorem dX12_done_0 : decode cX12_done 0 = .ok (.iload_n 1, 1) := by decide +kernel
theorem dX12_done_1 : decode cX12_done 1 = .ok (.iconst 0, 1) := by decide +kernel
theorem dX12_done_2 : decode cX12_done 2 = .ok (.aload_n 0, 1) := by decide +kernel
theorem dX12_done_3 : decode cX12_done 3 = .ok (.getfield 324, 3) := by decide +kernel
theorem dX12_done_6 : decode cX12_done 6 = .ok (.iconst 1, 1) := by decide +kernel
theorem dX12_done_7 : decode cX12_done 7 = .ok (.isub, 1) := by decide +kernel
theorem dX12_done_8 : decode cX12_done 8 = .ok (.invokestatic 151, 3) := by decide +kernel
theorem dX12_done_11 : decode cX12_done 11 = .ok (.ifCond .eq 11, 3) := by decide +kernel
theorem dX12_done_14 : decode cX12_done 14 = .ok (.aload_n 0, 1) := by decide +kernel
theorem dX12_done_15 : decode cX12_done 15 = .ok (.iload_n 2, 1) := by decide +kernel
theorem dX12_done_16 : decode cX12_done 16 = .ok (.invokevirtual 169, 3) := by decide +kernel
theorem dX12_done_19 : decode cX12_done 19 = .ok (.ifCond .ne 5, 3) := by decide +kernel
theorem dX12_done_22 : decode cX12_done 22 = .ok (.iconst (-1), 1) := by decide +kernel
theorem dX12_done_23 : decode cX12_done 23 = .ok (.ireturn, 1) := by decide +kernel
theorem dX12_done_24 : decode cX12_done 24 = .ok (.aload_n 0, 1) := by decide +kernel
theorem dX12_done_25 : decode cX12_done 25 = .ok (.getfield 111, 3) := by decide +kernel
theorem dX12_done_28 : decode cX12_done 28 = .ok (.bipush 10, 2) := by decide +kernel
theorem dX12_done_30 : decode cX12_done 30 = .ok (.iload_n 1, 1) := by decide +kernel
theorem dX12_done_31 : decode cX12_done 31 = .ok (.imul, 1) := by decide +kernel
theorem dX12_done_32 : decode cX12_done 32 = .ok (.iload_n 2, 1) := by decide +kernel
theorem dX12_done_33 : decode cX12_done 33 = .ok (.iadd, 1) := by decide +kernel
theorem dX12_done_34 : decode cX12_done 34 = .ok (.baload, 1) := by decide +kernel
theorem dX12_done_35 : decode cX12_done 35 = .ok (.ifCond .ne 12, 3) := by decide +kernel
theorem dX12_done_38 : decode cX12_done 38 = .ok (.aload_n 0, 1) := by decide +kernel
theorem dX12_done_39 : decode cX12_done 39 = .ok (.iload_n 1, 1) := by decide +kernel
theorem dX12_done_40 : decode cX12_done 40 = .ok (.iload_n 2, 1) := by decide +kernel
theorem dX12_done_41 : decode cX12_done 41 = .ok (.invokevirtual 327, 3) := by decide +kernel
theorem dX12_done_44 : decode cX12_done 44 = .ok (.ifCond .ne 6, 3) := by decide +kernel
theorem dX12_done_47 : decode cX12_done 47 = .ok (.bipush (-2), 2) := by decide +kernel
theorem dX12_done_49 : decode cX12_done 49 = .ok (.ireturn, 1) := by decide +kernel
theorem dX12_done_50 : decode cX12_done 50 = .ok (.aload_n 0, 1) := by decide +kernel
theorem dX12_done_51 : decode cX12_done 51 = .ok (.getfield 111, 3) := by decide +kernel
theorem dX12_done_54 : decode cX12_done 54 = .ok (.bipush 10, 2) := by decide +kernel
theorem dX12_done_56 : decode cX12_done 56 = .ok (.iload_n 1, 1) := by decide +kernel
theorem dX12_done_57 : decode cX12_done 57 = .ok (.imul, 1) := by decide +kernel
theorem dX12_done_58 : decode cX12_done 58 = .ok (.iload_n 2, 1) := by decide +kernel
theorem dX12_done_59 : decode cX12_done 59 = .ok (.iadd, 1) := by decide +kernel
theorem dX12_done_60 : decode cX12_done 60 = .ok (.iconst 1, 1) := by decide +kernel
theorem dX12_done_61 : decode cX12_done 61 = .ok (.bastore, 1) := by decide +kernel
theorem dX12_done_62 : decode cX12_done 62 = .ok (.iconst 1, 1) := by decide +kernel
theorem dX12_done_63 : decode cX12_done 63 = .ok (.ireturn, 1) := by decide +kernel
theorem dX12_groundedBy_0 : decode cX12_groundedBy 0 = .ok (.iconst 0, 1) := by decide +kernel
theorem dX12_groundedBy_1 : decode cX12_groundedBy 1 = .ok (.istore_n 3, 1) := by decide +kernel
theorem dX12_groundedBy_2 : decode cX12_groundedBy 2 = .ok (.iload_n 3, 1) := by decide +kernel
theorem dX12_groundedBy_3 : decode cX12_groundedBy 3 = .ok (.aload_n 0, 1) := by decide +kernel
theorem dX12_groundedBy_4 : decode cX12_groundedBy 4 = .ok (.getfield 158, 3) := by decide +kernel
theorem dX12_groundedBy_7 : decode cX12_groundedBy 7 = .ok (.if_icmp .ge 31, 3) := by decide +kernel
theorem dX12_groundedBy_10 : decode cX12_groundedBy 10 = .ok (.aload_n 0, 1) := by decide +kernel
theorem dX12_groundedBy_11 : decode cX12_groundedBy 11 = .ok (.iload_n 1, 1) := by decide +kernel
theorem dX12_groundedBy_12 : decode cX12_groundedBy 12 = .ok (.iload_n 3, 1) := by decide +kernel
theorem dX12_groundedBy_13 : decode cX12_groundedBy 13 = .ok (.invokevirtual 179, 3) := by decide +kernel
theorem dX12_groundedBy_16 : decode cX12_groundedBy 16 = .ok (.aload_n 0, 1) := by decide +kernel
theorem dX12_groundedBy_17 : decode cX12_groundedBy 17 = .ok (.getfield 34, 3) := by decide +kernel
theorem dX12_groundedBy_20 : decode cX12_groundedBy 20 = .ok (.bipush 10, 2) := by decide +kernel
theorem dX12_groundedBy_22 : decode cX12_groundedBy 22 = .ok (.iload_n 1, 1) := by decide +kernel
theorem dX12_groundedBy_23 : decode cX12_groundedBy 23 = .ok (.imul, 1) := by decide +kernel
theorem dX12_groundedBy_24 : decode cX12_groundedBy 24 = .ok (.iload_n 3, 1) := by decide +kernel
theorem dX12_groundedBy_25 : decode cX12_groundedBy 25 = .ok (.iadd, 1) := by decide +kernel
theorem dX12_groundedBy_26 : decode cX12_groundedBy 26 = .ok (.iaload, 1) := by decide +kernel
theorem dX12_groundedBy_27 : decode cX12_groundedBy 27 = .ok (.if_icmp .ge 5, 3) := by decide +kernel
theorem dX12_groundedBy_30 : decode cX12_groundedBy 30 = .ok (.iconst 1, 1) := by decide +kernel
theorem dX12_groundedBy_31 : decode cX12_groundedBy 31 = .ok (.ireturn, 1) := by decide +kernel
theorem dX12_groundedBy_32 : decode cX12_groundedBy 32 = .ok (.iinc 3 1, 3) := by decide +kernel
theorem dX12_groundedBy_35 : decode cX12_groundedBy 35 = .ok (.goto (-33), 3) := by decide +kernel
theorem dX12_groundedBy_38 : decode cX12_groundedBy 38 = .ok (.iconst 0, 1) := by decide +kernel
theorem dX12_groundedBy_39 : decode cX12_groundedBy 39 = .ok (.istore_n 3, 1) := by decide +kernel
theorem dX12_groundedBy_40 : decode cX12_groundedBy 40 = .ok (.iload_n 3, 1) := by decide +kernel
theorem dX12_groundedBy_41 : decode cX12_groundedBy 41 = .ok (.aload_n 0, 1) := by decide +kernel
theorem dX12_groundedBy_42 : decode cX12_groundedBy 42 = .ok (.getfield 166, 3) := by decide +kernel
theorem dX12_groundedBy_45 : decode cX12_groundedBy 45 = .ok (.if_icmp .ge 57, 3) := by decide +kernel
theorem dX12_groundedBy_48 : decode cX12_groundedBy 48 = .ok (.iconst 0, 1) := by decide +kernel
theorem dX12_groundedBy_49 : decode cX12_groundedBy 49 = .ok (.istore 4, 2) := by decide +kernel
theorem dX12_groundedBy_51 : decode cX12_groundedBy 51 = .ok (.iload 4, 2) := by decide +kernel
theorem dX12_groundedBy_53 : decode cX12_groundedBy 53 = .ok (.iconst 3, 1) := by decide +kernel
theorem dX12_groundedBy_54 : decode cX12_groundedBy 54 = .ok (.if_icmp .ge 42, 3) := by decide +kernel
theorem dX12_groundedBy_57 : decode cX12_groundedBy 57 = .ok (.aload_n 0, 1) := by decide +kernel
theorem dX12_groundedBy_58 : decode cX12_groundedBy 58 = .ok (.getfield 46, 3) := by decide +kernel
theorem dX12_groundedBy_61 : decode cX12_groundedBy 61 = .ok (.iload_n 3, 1) := by decide +kernel
theorem dX12_groundedBy_62 : decode cX12_groundedBy 62 = .ok (.iaload, 1) := by decide +kernel
theorem dX12_groundedBy_63 : decode cX12_groundedBy 63 = .ok (.iload_n 1, 1) := by decide +kernel
theorem dX12_groundedBy_64 : decode cX12_groundedBy 64 = .ok (.if_icmp .ne 26, 3) := by decide +kernel
theorem dX12_groundedBy_67 : decode cX12_groundedBy 67 = .ok (.aload_n 0, 1) := by decide +kernel
theorem dX12_groundedBy_68 : decode cX12_groundedBy 68 = .ok (.iload_n 3, 1) := by decide +kernel
theorem dX12_groundedBy_69 : decode cX12_groundedBy 69 = .ok (.iload 4, 2) := by decide +kernel
theorem dX12_groundedBy_71 : decode cX12_groundedBy 71 = .ok (.invokevirtual 314, 3) := by decide +kernel
theorem dX12_groundedBy_74 : decode cX12_groundedBy 74 = .ok (.ifCond .le 16, 3) := by decide +kernel
theorem dX12_groundedBy_77 : decode cX12_groundedBy 77 = .ok (.aload_n 0, 1) := by decide +kernel
theorem dX12_groundedBy_78 : decode cX12_groundedBy 78 = .ok (.iload_n 3, 1) := by decide +kernel
theorem dX12_groundedBy_79 : decode cX12_groundedBy 79 = .ok (.iload 4, 2) := by decide +kernel
theorem dX12_groundedBy_81 : decode cX12_groundedBy 81 = .ok (.iload_n 2, 1) := by decide +kernel
theorem dX12_groundedBy_82 : decode cX12_groundedBy 82 = .ok (.invokevirtual 319, 3) := by decide +kernel
theorem dX12_groundedBy_85 : decode cX12_groundedBy 85 = .ok (.ifCond .ge 5, 3) := by decide +kernel
theorem dX12_groundedBy_88 : decode cX12_groundedBy 88 = .ok (.iconst 2, 1) := by decide +kernel
theorem dX12_groundedBy_89 : decode cX12_groundedBy 89 = .ok (.ireturn, 1) := by decide +kernel
theorem dX12_groundedBy_90 : decode cX12_groundedBy 90 = .ok (.iinc 4 1, 3) := by decide +kernel
theorem dX12_groundedBy_93 : decode cX12_groundedBy 93 = .ok (.goto (-42), 3) := by decide +kernel
theorem dX12_groundedBy_96 : decode cX12_groundedBy 96 = .ok (.iinc 3 1, 3) := by decide +kernel
theorem dX12_groundedBy_99 : decode cX12_groundedBy 99 = .ok (.goto (-59), 3) := by decide +kernel
theorem dX12_groundedBy_102 : decode cX12_groundedBy 102 = .ok (.iconst 0, 1) := by decide +kernel
theorem dX12_groundedBy_103 : decode cX12_groundedBy 103 = .ok (.istore_n 3, 1) := by decide +kernel
theorem dX12_groundedBy_104 : decode cX12_groundedBy 104 = .ok (.iload_n 3, 1) := by decide +kernel
theorem dX12_groundedBy_105 : decode cX12_groundedBy 105 = .ok (.aload_n 0, 1) := by decide +kernel
theorem dX12_groundedBy_106 : decode cX12_groundedBy 106 = .ok (.getfield 324, 3) := by decide +kernel
theorem dX12_groundedBy_109 : decode cX12_groundedBy 109 = .ok (.if_icmp .ge 47, 3) := by decide +kernel
theorem dX12_groundedBy_112 : decode cX12_groundedBy 112 = .ok (.aload_n 0, 1) := by decide +kernel
theorem dX12_groundedBy_113 : decode cX12_groundedBy 113 = .ok (.iload_n 3, 1) := by decide +kernel
theorem dX12_groundedBy_114 : decode cX12_groundedBy 114 = .ok (.iload_n 1, 1) := by decide +kernel
theorem dX12_groundedBy_115 : decode cX12_groundedBy 115 = .ok (.invokevirtual 327, 3) := by decide +kernel
theorem dX12_groundedBy_118 : decode cX12_groundedBy 118 = .ok (.ifCond .eq 32, 3) := by decide +kernel
theorem dX12_groundedBy_121 : decode cX12_groundedBy 121 = .ok (.aload_n 0, 1) := by decide +kernel
theorem dX12_groundedBy_122 : decode cX12_groundedBy 122 = .ok (.getfield 111, 3) := by decide +kernel
theorem dX12_groundedBy_125 : decode cX12_groundedBy 125 = .ok (.bipush 10, 2) := by decide +kernel
theorem dX12_groundedBy_127 : decode cX12_groundedBy 127 = .ok (.iload_n 3, 1) := by decide +kernel
theorem dX12_groundedBy_128 : decode cX12_groundedBy 128 = .ok (.imul, 1) := by decide +kernel
theorem dX12_groundedBy_129 : decode cX12_groundedBy 129 = .ok (.iload_n 1, 1) := by decide +kernel
theorem dX12_groundedBy_130 : decode cX12_groundedBy 130 = .ok (.iadd, 1) := by decide +kernel
theorem dX12_groundedBy_131 : decode cX12_groundedBy 131 = .ok (.baload, 1) := by decide +kernel
theorem dX12_groundedBy_132 : decode cX12_groundedBy 132 = .ok (.ifCond .ne 18, 3) := by decide +kernel
theorem dX12_groundedBy_135 : decode cX12_groundedBy 135 = .ok (.aload_n 0, 1) := by decide +kernel
theorem dX12_groundedBy_136 : decode cX12_groundedBy 136 = .ok (.getfield 108, 3) := by decide +kernel
theorem dX12_groundedBy_139 : decode cX12_groundedBy 139 = .ok (.iload_n 3, 1) := by decide +kernel
theorem dX12_groundedBy_140 : decode cX12_groundedBy 140 = .ok (.iaload, 1) := by decide +kernel
theorem dX12_groundedBy_141 : decode cX12_groundedBy 141 = .ok (.aload_n 0, 1) := by decide +kernel
theorem dX12_groundedBy_142 : decode cX12_groundedBy 142 = .ok (.getfield 183, 3) := by decide +kernel
theorem dX12_groundedBy_145 : decode cX12_groundedBy 145 = .ok (.if_icmp .ge 5, 3) := by decide +kernel
theorem dX12_groundedBy_148 : decode cX12_groundedBy 148 = .ok (.iconst 3, 1) := by decide +kernel
theorem dX12_groundedBy_149 : decode cX12_groundedBy 149 = .ok (.ireturn, 1) := by decide +kernel
theorem dX12_groundedBy_150 : decode cX12_groundedBy 150 = .ok (.iinc 3 1, 3) := by decide +kernel
theorem dX12_groundedBy_153 : decode cX12_groundedBy 153 = .ok (.goto (-49), 3) := by decide +kernel
theorem dX12_groundedBy_156 : decode cX12_groundedBy 156 = .ok (.iconst 0, 1) := by decide +kernel
theorem dX12_groundedBy_157 : decode cX12_groundedBy 157 = .ok (.ireturn, 1) := by decide +kernel
theorem dX12_grounded_0 : decode cX12_grounded 0 = .ok (.aload_n 0, 1) := by decide +kernel
theorem dX12_grounded_1 : decode cX12_grounded 1 = .ok (.iload_n 1, 1) := by decide +kernel
theorem dX12_grounded_2 : decode cX12_grounded 2 = .ok (.invokevirtual 169, 3) := by decide +kernel
theorem dX12_grounded_5 : decode cX12_grounded 5 = .ok (.ifCond .eq 19, 3) := by decide +kernel
theorem dX12_grounded_8 : decode cX12_grounded 8 = .ok (.iload_n 2, 1) := by decide +kernel
theorem dX12_grounded_9 : decode cX12_grounded 9 = .ok (.invokestatic 298, 3) := by decide +kernel
theorem dX12_grounded_12 : decode cX12_grounded 12 = .ok (.ifCond .eq 12, 3) := by decide +kernel
theorem dX12_grounded_15 : decode cX12_grounded 15 = .ok (.aload_n 0, 1) := by decide +kernel
theorem dX12_grounded_16 : decode cX12_grounded 16 = .ok (.iload_n 1, 1) := by decide +kernel
theorem dX12_grounded_17 : decode cX12_grounded 17 = .ok (.iload_n 2, 1) := by decide +kernel
theorem dX12_grounded_18 : decode cX12_grounded 18 = .ok (.invokevirtual 330, 3) := by decide +kernel
theorem dX12_grounded_21 : decode cX12_grounded 21 = .ok (.goto 4, 3) := by decide +kernel
theorem dX12_grounded_24 : decode cX12_grounded 24 = .ok (.iconst (-1), 1) := by decide +kernel
theorem dX12_grounded_25 : decode cX12_grounded 25 = .ok (.ireturn, 1) := by decide +kernel
theorem dX12_fly_0 : decode cX12_fly 0 = .ok (.aload_n 0, 1) := by decide +kernel
theorem dX12_fly_1 : decode cX12_fly 1 = .ok (.iload_n 1, 1) := by decide +kernel
theorem dX12_fly_2 : decode cX12_fly 2 = .ok (.invokevirtual 169, 3) := by decide +kernel
theorem dX12_fly_5 : decode cX12_fly 5 = .ok (.ifCond .eq 25, 3) := by decide +kernel
theorem dX12_fly_8 : decode cX12_fly 8 = .ok (.iload_n 2, 1) := by decide +kernel
theorem dX12_fly_9 : decode cX12_fly 9 = .ok (.iconst 1, 1) := by decide +kernel
theorem dX12_fly_10 : decode cX12_fly 10 = .ok (.sipush 999, 3) := by decide +kernel
theorem dX12_fly_13 : decode cX12_fly 13 = .ok (.invokestatic 151, 3) := by decide +kernel
theorem dX12_fly_16 : decode cX12_fly 16 = .ok (.ifCond .eq 14, 3) := by decide +kernel
theorem dX12_fly_19 : decode cX12_fly 19 = .ok (.iload_n 3, 1) := by decide +kernel
theorem dX12_fly_20 : decode cX12_fly 20 = .ok (.iconst 0, 1) := by decide +kernel
theorem dX12_fly_21 : decode cX12_fly 21 = .ok (.sipush 999, 3) := by decide +kernel
theorem dX12_fly_24 : decode cX12_fly 24 = .ok (.invokestatic 151, 3) := by decide +kernel
theorem dX12_fly_27 : decode cX12_fly 27 = .ok (.ifCond .ne 5, 3) := by decide +kernel
theorem dX12_fly_30 : decode cX12_fly 30 = .ok (.iconst (-1), 1) := by decide +kernel
theorem dX12_fly_31 : decode cX12_fly 31 = .ok (.ireturn, 1) := by decide +kernel
theorem dX12_fly_32 : decode cX12_fly 32 = .ok (.aload_n 0, 1) := by decide +kernel
theorem dX12_fly_33 : decode cX12_fly 33 = .ok (.iload_n 1, 1) := by decide +kernel
theorem dX12_fly_34 : decode cX12_fly 34 = .ok (.invokevirtual 176, 3) := by decide +kernel
theorem dX12_fly_37 : decode cX12_fly 37 = .ok (.ifCond .ne 41, 3) := by decide +kernel
theorem dX12_fly_40 : decode cX12_fly 40 = .ok (.aload_n 0, 1) := by decide +kernel
theorem dX12_fly_41 : decode cX12_fly 41 = .ok (.iload_n 1, 1) := by decide +kernel
theorem dX12_fly_42 : decode cX12_fly 42 = .ok (.aload_n 0, 1) := by decide +kernel
theorem dX12_fly_43 : decode cX12_fly 43 = .ok (.getfield 183, 3) := by decide +kernel
theorem dX12_fly_46 : decode cX12_fly 46 = .ok (.invokevirtual 330, 3) := by decide +kernel
theorem dX12_fly_49 : decode cX12_fly 49 = .ok (.ifCond .ne 29, 3) := by decide +kernel
theorem dX12_fly_52 : decode cX12_fly 52 = .ok (.aload_n 0, 1) := by decide +kernel
theorem dX12_fly_53 : decode cX12_fly 53 = .ok (.getfield 22, 3) := by decide +kernel
theorem dX12_fly_56 : decode cX12_fly 56 = .ok (.iload_n 1, 1) := by decide +kernel
theorem dX12_fly_57 : decode cX12_fly 57 = .ok (.iaload, 1) := by decide +kernel
theorem dX12_fly_58 : decode cX12_fly 58 = .ok (.iload_n 2, 1) := by decide +kernel
theorem dX12_fly_59 : decode cX12_fly 59 = .ok (.iadd, 1) := by decide +kernel
theorem dX12_fly_60 : decode cX12_fly 60 = .ok (.ldc 165, 2) := by decide +kernel
theorem dX12_fly_62 : decode cX12_fly 62 = .ok (.if_icmp .gt 16, 3) := by decide +kernel
theorem dX12_fly_65 : decode cX12_fly 65 = .ok (.aload_n 0, 1) := by decide +kernel
theorem dX12_fly_66 : decode cX12_fly 66 = .ok (.getfield 25, 3) := by decide +kernel
theorem dX12_fly_69 : decode cX12_fly 69 = .ok (.iload_n 1, 1) := by decide +kernel
theorem dX12_fly_70 : decode cX12_fly 70 = .ok (.iaload, 1) := by decide +kernel
theorem dX12_fly_71 : decode cX12_fly 71 = .ok (.iload_n 3, 1) := by decide +kernel
theorem dX12_fly_72 : decode cX12_fly 72 = .ok (.iadd, 1) := by decide +kernel
theorem dX12_fly_73 : decode cX12_fly 73 = .ok (.ldc 165, 2) := by decide +kernel
theorem dX12_fly_75 : decode cX12_fly 75 = .ok (.if_icmp .le 6, 3) := by decide +kernel
theorem dX12_fly_78 : decode cX12_fly 78 = .ok (.bipush (-2), 2) := by decide +kernel
theorem dX12_fly_80 : decode cX12_fly 80 = .ok (.ireturn, 1) := by decide +kernel
theorem dX12_fly_81 : decode cX12_fly 81 = .ok (.iconst 0, 1) := by decide +kernel
theorem dX12_fly_82 : decode cX12_fly 82 = .ok (.istore 4, 2) := by decide +kernel
theorem dX12_fly_84 : decode cX12_fly 84 = .ok (.iload 4, 2) := by decide +kernel
theorem dX12_fly_86 : decode cX12_fly 86 = .ok (.aload_n 0, 1) := by decide +kernel
theorem dX12_fly_87 : decode cX12_fly 87 = .ok (.getfield 166, 3) := by decide +kernel
theorem dX12_fly_90 : decode cX12_fly 90 = .ok (.if_icmp .ge 57, 3) := by decide +kernel
theorem dX12_fly_93 : decode cX12_fly 93 = .ok (.aload_n 0, 1) := by decide +kernel
theorem dX12_fly_94 : decode cX12_fly 94 = .ok (.getfield 46, 3) := by decide +kernel
theorem dX12_fly_97 : decode cX12_fly 97 = .ok (.iload 4, 2) := by decide +kernel
theorem dX12_fly_99 : decode cX12_fly 99 = .ok (.iaload, 1) := by decide +kernel
theorem dX12_fly_100 : decode cX12_fly 100 = .ok (.iload_n 1, 1) := by decide +kernel
theorem dX12_fly_101 : decode cX12_fly 101 = .ok (.if_icmp .ne 40, 3) := by decide +kernel
theorem dX12_fly_104 : decode cX12_fly 104 = .ok (.aload_n 0, 1) := by decide +kernel
theorem dX12_fly_105 : decode cX12_fly 105 = .ok (.getfield 49, 3) := by decide +kernel
theorem dX12_fly_108 : decode cX12_fly 108 = .ok (.iconst 3, 1) := by decide +kernel
theorem dX12_fly_109 : decode cX12_fly 109 = .ok (.iload 4, 2) := by decide +kernel
theorem dX12_fly_111 : decode cX12_fly 111 = .ok (.imul, 1) := by decide +kernel
theorem dX12_fly_112 : decode cX12_fly 112 = .ok (.iaload, 1) := by decide +kernel
theorem dX12_fly_113 : decode cX12_fly 113 = .ok (.iload_n 2, 1) := by decide +kernel
theorem dX12_fly_114 : decode cX12_fly 114 = .ok (.iadd, 1) := by decide +kernel
theorem dX12_fly_115 : decode cX12_fly 115 = .ok (.ldc 165, 2) := by decide +kernel
theorem dX12_fly_117 : decode cX12_fly 117 = .ok (.if_icmp .gt 21, 3) := by decide +kernel
theorem dX12_fly_120 : decode cX12_fly 120 = .ok (.aload_n 0, 1) := by decide +kernel
theorem dX12_fly_121 : decode cX12_fly 121 = .ok (.getfield 49, 3) := by decide +kernel
theorem dX12_fly_124 : decode cX12_fly 124 = .ok (.iconst 3, 1) := by decide +kernel
theorem dX12_fly_125 : decode cX12_fly 125 = .ok (.iload 4, 2) := by decide +kernel
theorem dX12_fly_127 : decode cX12_fly 127 = .ok (.imul, 1) := by decide +kernel
theorem dX12_fly_128 : decode cX12_fly 128 = .ok (.iconst 1, 1) := by decide +kernel
theorem dX12_fly_129 : decode cX12_fly 129 = .ok (.iadd, 1) := by decide +kernel
theorem dX12_fly_130 : decode cX12_fly 130 = .ok (.iaload, 1) := by decide +kernel
theorem dX12_fly_131 : decode cX12_fly 131 = .ok (.iload_n 3, 1) := by decide +kernel
theorem dX12_fly_132 : decode cX12_fly 132 = .ok (.iadd, 1) := by decide +kernel
theorem dX12_fly_133 : decode cX12_fly 133 = .ok (.ldc 165, 2) := by decide +kernel
theorem dX12_fly_135 : decode cX12_fly 135 = .ok (.if_icmp .le 6, 3) := by decide +kernel
theorem dX12_fly_138 : decode cX12_fly 138 = .ok (.bipush (-2), 2) := by decide +kernel
theorem dX12_fly_140 : decode cX12_fly 140 = .ok (.ireturn, 1) := by decide +kernel
theorem dX12_fly_141 : decode cX12_fly 141 = .ok (.iinc 4 1, 3) := by decide +kernel
theorem dX12_fly_144 : decode cX12_fly 144 = .ok (.goto (-60), 3) := by decide +kernel
theorem dX12_fly_147 : decode cX12_fly 147 = .ok (.aload_n 0, 1) := by decide +kernel
