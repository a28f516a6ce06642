theorem dX0_numbersBehind_0 : decode cX0_numbersBehind 0 = .ok (.iload_n 0, 1) := by decide +kernel
theorem dX0_numbersBehind_1 : decode cX0_numbersBehind 1 = .ok (.tableswitch 89 100 116 #[83, 89, 89, 87, 83, 89, 89, 89, 83, 87, 89, 87, 89, 89, 89, 89, 85], 83) := by decide +kernel
theorem dX0_numbersBehind_84 : decode cX0_numbersBehind 84 = .ok (.iconst 3, 1) := by decide +kernel
theorem dX0_numbersBehind_85 : decode cX0_numbersBehind 85 = .ok (.ireturn, 1) := by decide +kernel
theorem dX0_numbersBehind_86 : decode cX0_numbersBehind 86 = .ok (.iconst 2, 1) := by decide +kernel
theorem dX0_numbersBehind_87 : decode cX0_numbersBehind 87 = .ok (.ireturn, 1) := by decide +kernel
theorem dX0_numbersBehind_88 : decode cX0_numbersBehind 88 = .ok (.iconst 1, 1) := by decide +kernel
theorem dX0_numbersBehind_89 : decode cX0_numbersBehind 89 = .ok (.ireturn, 1) := by decide +kernel
theorem dX0_numbersBehind_90 : decode cX0_numbersBehind 90 = .ok (.iconst 0, 1) := by decide +kernel
theorem dX0_numbersBehind_91 : decode cX0_numbersBehind 91 = .ok (.ireturn, 1) := by decide +kernel
theorem dX3_next_0 : decode cX3_next 0 = .ok (.aload_n 0, 1) := by decide +kernel
theorem dX3_next_1 : decode cX3_next 1 = .ok (.getfield 26, 3) := by decide +kernel
theorem dX3_next_4 : decode cX3_next 4 = .ok (.iconst (-1), 1) := by decide +kernel
theorem dX3_next_5 : decode cX3_next 5 = .ok (.if_icmp .ne 17, 3) := by decide +kernel
theorem dX3_next_8 : decode cX3_next 8 = .ok (.aload_n 0, 1) := by decide +kernel
theorem dX3_next_9 : decode cX3_next 9 = .ok (.getfield 9, 3) := by decide +kernel
theorem dX3_next_12 : decode cX3_next 12 = .ok (.aload_n 0, 1) := by decide +kernel
theorem dX3_next_13 : decode cX3_next 13 = .ok (.getfield 23, 3) := by decide +kernel
theorem dX3_next_16 : decode cX3_next 16 = .ok (.invokevirtual 39, 3) := by decide +kernel
theorem dX3_next_19 : decode cX3_next 19 = .ok (.goto 4, 3) := by decide +kernel
theorem dX3_next_22 : decode cX3_next 22 = .ok (.iconst (-1), 1) := by decide +kernel
theorem dX3_next_23 : decode cX3_next 23 = .ok (.ireturn, 1) := by decide +kernel
theorem dX3_fail_0 : decode cX3_fail 0 = .ok (.aload_n 0, 1) := by decide +kernel
theorem dX3_fail_1 : decode cX3_fail 1 = .ok (.getfield 26, 3) := by decide +kernel
theorem dX3_fail_4 : decode cX3_fail 4 = .ok (.iconst (-1), 1) := by decide +kernel
theorem dX3_fail_5 : decode cX3_fail 5 = .ok (.if_icmp .ne 11, 3) := by decide +kernel
theorem dX3_fail_8 : decode cX3_fail 8 = .ok (.aload_n 0, 1) := by decide +kernel
theorem dX3_fail_9 : decode cX3_fail 9 = .ok (.aload_n 0, 1) := by decide +kernel
theorem dX3_fail_10 : decode cX3_fail 10 = .ok (.getfield 23, 3) := by decide +kernel
theorem dX3_fail_13 : decode cX3_fail 13 = .ok (.putfield 26, 3) := by decide +kernel
theorem dX3_fail_16 : decode cX3_fail 16 = .ok (.return_, 1) := by decide +kernel
theorem dX3_take_0 : decode cX3_take 0 = .ok (.aload_n 0, 1) := by decide +kernel
theorem dX3_take_1 : decode cX3_take 1 = .ok (.invokevirtual 43, 3) := by decide +kernel
theorem dX3_take_4 : decode cX3_take 4 = .ok (.iload_n 1, 1) := by decide +kernel
theorem dX3_take_5 : decode cX3_take 5 = .ok (.if_icmp .ne 16, 3) := by decide +kernel
theorem dX3_take_8 : decode cX3_take 8 = .ok (.aload_n 0, 1) := by decide +kernel
theorem dX3_take_9 : decode cX3_take 9 = .ok (.dup, 1) := by decide +kernel
theorem dX3_take_10 : decode cX3_take 10 = .ok (.getfield 23, 3) := by decide +kernel
theorem dX3_take_13 : decode cX3_take 13 = .ok (.iconst 1, 1) := by decide +kernel
theorem dX3_take_14 : decode cX3_take 14 = .ok (.iadd, 1) := by decide +kernel
theorem dX3_take_15 : decode cX3_take 15 = .ok (.putfield 23, 3) := by decide +kernel
theorem dX3_take_18 : decode cX3_take 18 = .ok (.goto 7, 3) := by decide +kernel
theorem dX3_take_21 : decode cX3_take 21 = .ok (.aload_n 0, 1) := by decide +kernel
theorem dX3_take_22 : decode cX3_take 22 = .ok (.invokevirtual 36, 3) := by decide +kernel
theorem dX3_take_25 : decode cX3_take 25 = .ok (.return_, 1) := by decide +kernel
theorem dX3_opens_0 : decode cX3_opens 0 = .ok (.iload_n 1, 1) := by decide +kernel
theorem dX3_opens_1 : decode cX3_opens 1 = .ok (.bipush 8, 2) := by decide +kernel
theorem dX3_opens_3 : decode cX3_opens 3 = .ok (.if_icmp .lt 9, 3) := by decide +kernel
theorem dX3_opens_6 : decode cX3_opens 6 = .ok (.aload_n 0, 1) := by decide +kernel
theorem dX3_opens_7 : decode cX3_opens 7 = .ok (.invokevirtual 36, 3) := by decide +kernel
theorem dX3_opens_10 : decode cX3_opens 10 = .ok (.iconst 0, 1) := by decide +kernel
theorem dX3_opens_11 : decode cX3_opens 11 = .ok (.ireturn, 1) := by decide +kernel
theorem dX3_opens_12 : decode cX3_opens 12 = .ok (.aload_n 0, 1) := by decide +kernel
theorem dX3_opens_13 : decode cX3_opens 13 = .ok (.dup, 1) := by decide +kernel
theorem dX3_opens_14 : decode cX3_opens 14 = .ok (.getfield 23, 3) := by decide +kernel
theorem dX3_opens_17 : decode cX3_opens 17 = .ok (.iconst 1, 1) := by decide +kernel
theorem dX3_opens_18 : decode cX3_opens 18 = .ok (.iadd, 1) := by decide +kernel
theorem dX3_opens_19 : decode cX3_opens 19 = .ok (.putfield 23, 3) := by decide +kernel
theorem dX3_opens_22 : decode cX3_opens 22 = .ok (.iconst 1, 1) := by decide +kernel
theorem dX3_opens_23 : decode cX3_opens 23 = .ok (.ireturn, 1) := by decide +kernel
theorem dX3_put_0 : decode cX3_put 0 = .ok (.aload_n 0, 1) := by decide +kernel
theorem dX3_put_1 : decode cX3_put 1 = .ok (.getfield 19, 3) := by decide +kernel
theorem dX3_put_4 : decode cX3_put 4 = .ok (.aload_n 0, 1) := by decide +kernel
theorem dX3_put_5 : decode cX3_put 5 = .ok (.getfield 15, 3) := by decide +kernel
theorem dX3_put_8 : decode cX3_put 8 = .ok (.arraylength, 1) := by decide +kernel
theorem dX3_put_9 : decode cX3_put 9 = .ok (.if_icmp .ge 27, 3) := by decide +kernel
theorem dX3_put_12 : decode cX3_put 12 = .ok (.aload_n 0, 1) := by decide +kernel
theorem dX3_put_13 : decode cX3_put 13 = .ok (.getfield 15, 3) := by decide +kernel
theorem dX3_put_16 : decode cX3_put 16 = .ok (.aload_n 0, 1) := by decide +kernel
theorem dX3_put_17 : decode cX3_put 17 = .ok (.getfield 19, 3) := by decide +kernel
theorem dX3_put_20 : decode cX3_put 20 = .ok (.iload_n 1, 1) := by decide +kernel
theorem dX3_put_21 : decode cX3_put 21 = .ok (.iload_n 2, 1) := by decide +kernel
theorem dX3_put_22 : decode cX3_put 22 = .ok (.iconst 4, 1) := by decide +kernel
theorem dX3_put_23 : decode cX3_put 23 = .ok (.ishl, 1) := by decide +kernel
theorem dX3_put_24 : decode cX3_put 24 = .ok (.ior, 1) := by decide +kernel
theorem dX3_put_25 : decode cX3_put 25 = .ok (.iastore, 1) := by decide +kernel
theorem dX3_put_26 : decode cX3_put 26 = .ok (.aload_n 0, 1) := by decide +kernel
theorem dX3_put_27 : decode cX3_put 27 = .ok (.dup, 1) := by decide +kernel
theorem dX3_put_28 : decode cX3_put 28 = .ok (.getfield 19, 3) := by decide +kernel
theorem dX3_put_31 : decode cX3_put 31 = .ok (.iconst 1, 1) := by decide +kernel
theorem dX3_put_32 : decode cX3_put 32 = .ok (.iadd, 1) := by decide +kernel
theorem dX3_put_33 : decode cX3_put 33 = .ok (.putfield 19, 3) := by decide +kernel
theorem dX3_put_36 : decode cX3_put 36 = .ok (.aload_n 0, 1) := by decide +kernel
theorem dX3_put_37 : decode cX3_put 37 = .ok (.getfield 19, 3) := by decide +kernel
theorem dX3_put_40 : decode cX3_put 40 = .ok (.iconst 1, 1) := by decide +kernel
theorem dX3_put_41 : decode cX3_put 41 = .ok (.isub, 1) := by decide +kernel
theorem dX3_put_42 : decode cX3_put 42 = .ok (.ireturn, 1) := by decide +kernel
theorem dX3_leadHere_0 : decode cX3_leadHere 0 = .ok (.iload_n 1, 1) := by decide +kernel
theorem dX3_leadHere_1 : decode cX3_leadHere 1 = .ok (.ifCond .lt 34, 3) := by decide +kernel
theorem dX3_leadHere_4 : decode cX3_leadHere 4 = .ok (.iload_n 1, 1) := by decide +kernel
theorem dX3_leadHere_5 : decode cX3_leadHere 5 = .ok (.aload_n 0, 1) := by decide +kernel
theorem dX3_leadHere_6 : decode cX3_leadHere 6 = .ok (.getfield 15, 3) := by decide +kernel
theorem dX3_leadHere_9 : decode cX3_leadHere 9 = .ok (.arraylength, 1) := by decide +kernel
theorem dX3_leadHere_10 : decode cX3_leadHere 10 = .ok (.if_icmp .ge 25, 3) := by decide +kernel
theorem dX3_leadHere_13 : decode cX3_leadHere 13 = .ok (.aload_n 0, 1) := by decide +kernel
theorem dX3_leadHere_14 : decode cX3_leadHere 14 = .ok (.getfield 15, 3) := by decide +kernel
theorem dX3_leadHere_17 : decode cX3_leadHere 17 = .ok (.iload_n 1, 1) := by decide +kernel
theorem dX3_leadHere_18 : decode cX3_leadHere 18 = .ok (.aload_n 0, 1) := by decide +kernel
theorem dX3_leadHere_19 : decode cX3_leadHere 19 = .ok (.getfield 15, 3) := by decide +kernel
theorem dX3_leadHere_22 : decode cX3_leadHere 22 = .ok (.iload_n 1, 1) := by decide +kernel
theorem dX3_leadHere_23 : decode cX3_leadHere 23 = .ok (.iaload, 1) := by decide +kernel
theorem dX3_leadHere_24 : decode cX3_leadHere 24 = .ok (.bipush 15, 2) := by decide +kernel
theorem dX3_leadHere_26 : decode cX3_leadHere 26 = .ok (.iand, 1) := by decide +kernel
theorem dX3_leadHere_27 : decode cX3_leadHere 27 = .ok (.aload_n 0, 1) := by decide +kernel
theorem dX3_leadHere_28 : decode cX3_leadHere 28 = .ok (.getfield 19, 3) := by decide +kernel
theorem dX3_leadHere_31 : decode cX3_leadHere 31 = .ok (.iconst 4, 1) := by decide +kernel
theorem dX3_leadHere_32 : decode cX3_leadHere 32 = .ok (.ishl, 1) := by decide +kernel
theorem dX3_leadHere_33 : decode cX3_leadHere 33 = .ok (.ior, 1) := by decide +kernel
theorem dX3_leadHere_34 : decode cX3_leadHere 34 = .ok (.iastore, 1) := by decide +kernel
theorem dX3_leadHere_35 : decode cX3_leadHere 35 = .ok (.return_, 1) := by decide +kernel
theorem dX3_readChoice_0 : decode cX3_readChoice 0 = .ok (.aload_n 0, 1) := by decide +kernel
theorem dX3_readChoice_1 : decode cX3_readChoice 1 = .ok (.iload_n 1, 1) := by decide +kernel
theorem dX3_readChoice_2 : decode cX3_readChoice 2 = .ok (.invokevirtual 47, 3) := by decide +kernel
theorem dX3_readChoice_5 : decode cX3_readChoice 5 = .ok (.aload_n 0, 1) := by decide +kernel
theorem dX3_readChoice_6 : decode cX3_readChoice 6 = .ok (.invokevirtual 43, 3) := by decide +kernel
theorem dX3_readChoice_9 : decode cX3_readChoice 9 = .ok (.bipush 63, 2) := by decide +kernel
theorem dX3_readChoice_11 : decode cX3_readChoice 11 = .ok (.if_icmp .ne 55, 3) := by decide +kernel
theorem dX3_readChoice_14 : decode cX3_readChoice 14 = .ok (.aload_n 0, 1) := by decide +kernel
theorem dX3_readChoice_15 : decode cX3_readChoice 15 = .ok (.iload_n 1, 1) := by decide +kernel
theorem dX3_readChoice_16 : decode cX3_readChoice 16 = .ok (.invokevirtual 50, 3) := by decide +kernel
theorem dX3_readChoice_19 : decode cX3_readChoice 19 = .ok (.ifCond .eq 47, 3) := by decide +kernel
theorem dX3_readChoice_22 : decode cX3_readChoice 22 = .ok (.aload_n 0, 1) := by decide +kernel
theorem dX3_readChoice_23 : decode cX3_readChoice 23 = .ok (.iconst 4, 1) := by decide +kernel
theorem dX3_readChoice_24 : decode cX3_readChoice 24 = .ok (.iconst 0, 1) := by decide +kernel
theorem dX3_readChoice_25 : decode cX3_readChoice 25 = .ok (.invokevirtual 56, 3) := by decide +kernel
theorem dX3_readChoice_28 : decode cX3_readChoice 28 = .ok (.istore_n 2, 1) := by decide +kernel
theorem dX3_readChoice_29 : decode cX3_readChoice 29 = .ok (.aload_n 0, 1) := by decide +kernel
theorem dX3_readChoice_30 : decode cX3_readChoice 30 = .ok (.iload_n 1, 1) := by decide +kernel
theorem dX3_readChoice_31 : decode cX3_readChoice 31 = .ok (.iconst 1, 1) := by decide +kernel
theorem dX3_readChoice_32 : decode cX3_readChoice 32 = .ok (.iadd, 1) := by decide +kernel
theorem dX3_readChoice_33 : decode cX3_readChoice 33 = .ok (.invokevirtual 29, 3) := by decide +kernel
theorem dX3_readChoice_36 : decode cX3_readChoice 36 = .ok (.aload_n 0, 1) := by decide +kernel
theorem dX3_readChoice_37 : decode cX3_readChoice 37 = .ok (.bipush 58, 2) := by decide +kernel
theorem dX3_readChoice_39 : decode cX3_readChoice 39 = .ok (.invokevirtual 60, 3) := by decide +kernel
theorem dX3_readChoice_42 : decode cX3_readChoice 42 = .ok (.aload_n 0, 1) := by decide +kernel
theorem dX3_readChoice_43 : decode cX3_readChoice 43 = .ok (.iconst 3, 1) := by decide +kernel
theorem dX3_readChoice_44 : decode cX3_readChoice 44 = .ok (.iconst 0, 1) := by decide +kernel
theorem dX3_readChoice_45 : decode cX3_readChoice 45 = .ok (.invokevirtual 56, 3) := by decide +kernel
theorem dX3_readChoice_48 : decode cX3_readChoice 48 = .ok (.istore_n 3, 1) := by decide +kernel
theorem dX3_readChoice_49 : decode cX3_readChoice 49 = .ok (.aload_n 0, 1) := by decide +kernel
theorem dX3_readChoice_50 : decode cX3_readChoice 50 = .ok (.iload_n 2, 1) := by decide +kernel
theorem dX3_readChoice_51 : decode cX3_readChoice 51 = .ok (.invokevirtual 64, 3) := by decide +kernel
theorem dX3_readChoice_54 : decode cX3_readChoice 54 = .ok (.aload_n 0, 1) := by decide +kernel
theorem dX3_readChoice_55 : decode cX3_readChoice 55 = .ok (.iload_n 1, 1) := by decide +kernel
theorem dX3_readChoice_56 : decode cX3_readChoice 56 = .ok (.iconst 1, 1) := by decide +kernel
theorem dX3_readChoice_57 : decode cX3_readChoice 57 = .ok (.iadd, 1) := by decide +kernel
theorem dX3_readChoice_58 : decode cX3_readChoice 58 = .ok (.invokevirtual 29, 3) := by decide +kernel
theorem dX3_readChoice_61 : decode cX3_readChoice 61 = .ok (.aload_n 0, 1) := by decide +kernel
theorem dX3_readChoice_62 : decode cX3_readChoice 62 = .ok (.iload_n 3, 1) := by decide +kernel
theorem dX3_readChoice_63 : decode cX3_readChoice 63 = .ok (.invokevirtual 64, 3) := by decide +kernel
theorem dX3_readChoice_66 : decode cX3_readChoice 66 = .ok (.return_, 1) := by decide +kernel
theorem dX3_readComparison_0 : decode cX3_readComparison 0 = .ok (.aload_n 0, 1) := by decide +kernel
theorem dX3_readComparison_1 : decode cX3_readComparison 1 = .ok (.iload_n 1, 1) := by decide +kernel
theorem dX3_readComparison_2 : decode cX3_readComparison 2 = .ok (.invokevirtual 67, 3) := by decide +kernel
theorem dX3_readComparison_5 : decode cX3_readComparison 5 = .ok (.aload_n 0, 1) := by decide +kernel
theorem dX3_readComparison_6 : decode cX3_readComparison 6 = .ok (.invokevirtual 43, 3) := by decide +kernel
theorem dX3_readComparison_9 : decode cX3_readComparison 9 = .ok (.istore_n 2, 1) := by decide +kernel
theorem dX3_readComparison_10 : decode cX3_readComparison 10 = .ok (.iload_n 2, 1) := by decide +kernel
theorem dX3_readComparison_11 : decode cX3_readComparison 11 = .ok (.bipush 60, 2) := by decide +kernel
theorem dX3_readComparison_13 : decode cX3_readComparison 13 = .ok (.if_icmp .eq 15, 3) := by decide +kernel
theorem dX3_readComparison_16 : decode cX3_readComparison 16 = .ok (.iload_n 2, 1) := by decide +kernel
theorem dX3_readComparison_17 : decode cX3_readComparison 17 = .ok (.bipush 61, 2) := by decide +kernel
theorem dX3_readComparison_19 : decode cX3_readComparison 19 = .ok (.if_icmp .eq 9, 3) := by decide +kernel
theorem dX3_readComparison_22 : decode cX3_readComparison 22 = .ok (.iload_n 2, 1) := by decide +kernel
theorem dX3_readComparison_23 : decode cX3_readComparison 23 = .ok (.bipush 62, 2) := by decide +kernel
theorem dX3_readComparison_25 : decode cX3_readComparison 25 = .ok (.if_icmp .ne 48, 3) := by decide +kernel
theorem dX3_readComparison_28 : decode cX3_readComparison 28 = .ok (.aload_n 0, 1) := by decide +kernel
theorem dX3_readComparison_29 : decode cX3_readComparison 29 = .ok (.dup, 1) := by decide +kernel
theorem dX3_readComparison_30 : decode cX3_readComparison 30 = .ok (.getfield 23, 3) := by decide +kernel
theorem dX3_readComparison_33 : decode cX3_readComparison 33 = .ok (.iconst 1, 1) := by decide +kernel
theorem dX3_readComparison_34 : decode cX3_readComparison 34 = .ok (.iadd, 1) := by decide +kernel
theorem dX3_readComparison_35 : decode cX3_readComparison 35 = .ok (.putfield 23, 3) := by decide +kernel
theorem dX3_readComparison_38 : decode cX3_readComparison 38 = .ok (.aload_n 0, 1) := by decide +kernel
theorem dX3_readComparison_39 : decode cX3_readComparison 39 = .ok (.iload_n 1, 1) := by decide +kernel
theorem dX3_readComparison_40 : decode cX3_readComparison 40 = .ok (.invokevirtual 67, 3) := by decide +kernel
theorem dX3_readComparison_43 : decode cX3_readComparison 43 = .ok (.aload_n 0, 1) := by decide +kernel
theorem dX3_readComparison_44 : decode cX3_readComparison 44 = .ok (.iload_n 2, 1) := by decide +kernel
theorem dX3_readComparison_45 : decode cX3_readComparison 45 = .ok (.bipush 60, 2) := by decide +kernel
theorem dX3_readComparison_47 : decode cX3_readComparison 47 = .ok (.if_icmp .ne 8, 3) := by decide +kernel
theorem dX3_readComparison_50 : decode cX3_readComparison 50 = .ok (.bipush 9, 2) := by decide +kernel
theorem dX3_readComparison_52 : decode cX3_readComparison 52 = .ok (.goto 16, 3) := by decide +kernel
theorem dX3_readComparison_55 : decode cX3_readComparison 55 = .ok (.iload_n 2, 1) := by decide +kernel
theorem dX3_readComparison_56 : decode cX3_readComparison 56 = .ok (.bipush 61, 2) := by decide +kernel
theorem dX3_readComparison_58 : decode cX3_readComparison 58 = .ok (.if_icmp .ne 8, 3) := by decide +kernel
theorem dX3_readComparison_61 : decode cX3_readComparison 61 = .ok (.bipush 10, 2) := by decide +kernel
theorem dX3_readComparison_63 : decode cX3_readComparison 63 = .ok (.goto 5, 3) := by decide +kernel
theorem dX3_readComparison_66 : decode cX3_readComparison 66 = .ok (.bipush 11, 2) := by decide +kernel
theorem dX3_readComparison_68 : decode cX3_readComparison 68 = .ok (.iconst 0, 1) := by decide +kernel
theorem dX3_readComparison_69 : decode cX3_readComparison 69 = .ok (.invokevirtual 56, 3) := by decide +kernel
theorem dX3_readComparison_72 : decode cX3_readComparison 72 = .ok (.pop, 1) := by decide +kernel
theorem dX3_readComparison_73 : decode cX3_readComparison 73 = .ok (.return_, 1) := by decide +kernel
theorem dX3_readSum_0 : decode cX3_readSum 0 = .ok (.aload_n 0, 1) := by decide +kernel
theorem dX3_readSum_1 : decode cX3_readSum 1 = .ok (.iload_n 1, 1) := by decide +kernel
theorem dX3_readSum_2 : decode cX3_readSum 2 = .ok (.invokevirtual 70, 3) := by decide +kernel
theorem dX3_readSum_5 : decode cX3_readSum 5 = .ok (.iconst 0, 1) := by decide +kernel
theorem dX3_readSum_6 : decode cX3_readSum 6 = .ok (.istore_n 2, 1) := by decide +kernel
theorem dX3_readSum_7 : decode cX3_readSum 7 = .ok (.iload_n 2, 1) := by decide +kernel
theorem dX3_readSum_8 : decode cX3_readSum 8 = .ok (.bipush 120, 2) := by decide +kernel
theorem dX3_readSum_10 : decode cX3_readSum 10 = .ok (.if_icmp .ge 65, 3) := by decide +kernel
theorem dX3_readSum_13 : decode cX3_readSum 13 = .ok (.aload_n 0, 1) := by decide +kernel
theorem dX3_readSum_14 : decode cX3_readSum 14 = .ok (.invokevirtual 43, 3) := by decide +kernel
theorem dX3_readSum_17 : decode cX3_readSum 17 = .ok (.bipush 43, 2) := by decide +kernel
theorem dX3_readSum_19 : decode cX3_readSum 19 = .ok (.if_icmp .eq 12, 3) := by decide +kernel
theorem dX3_readSum_22 : decode cX3_readSum 22 = .ok (.aload_n 0, 1) := by decide +kernel
theorem dX3_readSum_23 : decode cX3_readSum 23 = .ok (.invokevirtual 43, 3) := by decide +kernel
theorem dX3_readSum_26 : decode cX3_readSum 26 = .ok (.bipush 45, 2) := by decide +kernel
theorem dX3_readSum_28 : decode cX3_readSum 28 = .ok (.if_icmp .ne 47, 3) := by decide +kernel
theorem dX3_readSum_31 : decode cX3_readSum 31 = .ok (.aload_n 0, 1) := by decide +kernel
theorem dX3_readSum_32 : decode cX3_readSum 32 = .ok (.invokevirtual 43, 3) := by decide +kernel
theorem dX3_readSum_35 : decode cX3_readSum 35 = .ok (.bipush 43, 2) := by decide +kernel
theorem dX3_readSum_37 : decode cX3_readSum 37 = .ok (.if_icmp .ne 7, 3) := by decide +kernel
theorem dX3_readSum_40 : decode cX3_readSum 40 = .ok (.iconst 5, 1) := by decide +kernel
theorem dX3_readSum_41 : decode cX3_readSum 41 = .ok (.goto 5, 3) := by decide +kernel
theorem dX3_readSum_44 : decode cX3_readSum 44 = .ok (.bipush 6, 2) := by decide +kernel
theorem dX3_readSum_46 : decode cX3_readSum 46 = .ok (.istore_n 3, 1) := by decide +kernel
theorem dX3_readSum_47 : decode cX3_readSum 47 = .ok (.aload_n 0, 1) := by decide +kernel
theorem dX3_readSum_48 : decode cX3_readSum 48 = .ok (.dup, 1) := by decide +kernel
theorem dX3_readSum_49 : decode cX3_readSum 49 = .ok (.getfield 23, 3) := by decide +kernel
theorem dX3_readSum_52 : decode cX3_readSum 52 = .ok (.iconst 1, 1) := by decide +kernel
theorem dX3_readSum_53 : decode cX3_readSum 53 = .ok (.iadd, 1) := by decide +kernel
theorem dX3_readSum_54 : decode cX3_readSum 54 = .ok (.putfield 23, 3) := by decide +kernel
theorem dX3_readSum_57 : decode cX3_readSum 57 = .ok (.aload_n 0, 1) := by decide +kernel
theorem dX3_readSum_58 : decode cX3_readSum 58 = .ok (.iload_n 1, 1) := by decide +kernel
theorem dX3_readSum_59 : decode cX3_readSum 59 = .ok (.invokevirtual 70, 3) := by decide +kernel
theorem dX3_readSum_62 : decode cX3_readSum 62 = .ok (.aload_n 0, 1) := by decide +kernel
theorem dX3_readSum_63 : decode cX3_readSum 63 = .ok (.iload_n 3, 1) := by decide +kernel
theorem dX3_readSum_64 : decode cX3_readSum 64 = .ok (.iconst 0, 1) := by decide +kernel
theorem dX3_readSum_65 : decode cX3_readSum 65 = .ok (.invokevirtual 56, 3) := by decide +kernel
theorem dX3_readSum_68 : decode cX3_readSum 68 = .ok (.pop, 1) := by decide +kernel
theorem dX3_readSum_69 : decode cX3_readSum 69 = .ok (.iinc 2 1, 3) := by decide +kernel
theorem dX3_readSum_72 : decode cX3_readSum 72 = .ok (.goto (-65), 3) := by decide +kernel
theorem dX3_readSum_75 : decode cX3_readSum 75 = .ok (.return_, 1) := by decide +kernel
theorem dX3_readProduct_0 : decode cX3_readProduct 0 = .ok (.aload_n 0, 1) := by decide +kernel
theorem dX3_readProduct_1 : decode cX3_readProduct 1 = .ok (.iload_n 1, 1) := by decide +kernel
theorem dX3_readProduct_2 : decode cX3_readProduct 2 = .ok (.invokevirtual 73, 3) := by decide +kernel
theorem dX3_readProduct_5 : decode cX3_readProduct 5 = .ok (.iconst 0, 1) := by decide +kernel
theorem dX3_readProduct_6 : decode cX3_readProduct 6 = .ok (.istore_n 2, 1) := by decide +kernel
theorem dX3_readProduct_7 : decode cX3_readProduct 7 = .ok (.iload_n 2, 1) := by decide +kernel
theorem dX3_readProduct_8 : decode cX3_readProduct 8 = .ok (.bipush 120, 2) := by decide +kernel
theorem dX3_readProduct_10 : decode cX3_readProduct 10 = .ok (.if_icmp .ge 66, 3) := by decide +kernel
theorem dX3_readProduct_13 : decode cX3_readProduct 13 = .ok (.aload_n 0, 1) := by decide +kernel
theorem dX3_readProduct_14 : decode cX3_readProduct 14 = .ok (.invokevirtual 43, 3) := by decide +kernel
theorem dX3_readProduct_17 : decode cX3_readProduct 17 = .ok (.bipush 42, 2) := by decide +kernel
theorem dX3_readProduct_19 : decode cX3_readProduct 19 = .ok (.if_icmp .eq 12, 3) := by decide +kernel
theorem dX3_readProduct_22 : decode cX3_readProduct 22 = .ok (.aload_n 0, 1) := by decide +kernel
theorem dX3_readProduct_23 : decode cX3_readProduct 23 = .ok (.invokevirtual 43, 3) := by decide +kernel
theorem dX3_readProduct_26 : decode cX3_readProduct 26 = .ok (.bipush 47, 2) := by decide +kernel
theorem dX3_readProduct_28 : decode cX3_readProduct 28 = .ok (.if_icmp .ne 48, 3) := by decide +kernel
theorem dX3_readProduct_31 : decode cX3_readProduct 31 = .ok (.aload_n 0, 1) := by decide +kernel
theorem dX3_readProduct_32 : decode cX3_readProduct 32 = .ok (.invokevirtual 43, 3) := by decide +kernel
theorem dX3_readProduct_35 : decode cX3_readProduct 35 = .ok (.bipush 42, 2) := by decide +kernel
theorem dX3_readProduct_37 : decode cX3_readProduct 37 = .ok (.if_icmp .ne 8, 3) := by decide +kernel
theorem dX3_readProduct_40 : decode cX3_readProduct 40 = .ok (.bipush 7, 2) := by decide +kernel
theorem dX3_readProduct_42 : decode cX3_readProduct 42 = .ok (.goto 5, 3) := by decide +kernel
theorem dX3_readProduct_45 : decode cX3_readProduct 45 = .ok (.bipush 8, 2) := by decide +kernel
theorem dX3_readProduct_47 : decode cX3_readProduct 47 = .ok (.istore_n 3, 1) := by decide +kernel
theorem dX3_readProduct_48 : decode cX3_readProduct 48 = .ok (.aload_n 0, 1) := by decide +kernel
theorem dX3_readProduct_49 : decode cX3_readProduct 49 = .ok (.dup, 1) := by decide +kernel
theorem dX3_readProduct_50 : decode cX3_readProduct 50 = .ok (.getfield 23, 3) := by decide +kernel
theorem dX3_readProduct_53 : decode cX3_readProduct 53 = .ok (.iconst 1, 1) := by decide +kernel
theorem dX3_readProduct_54 : decode cX3_readProduct 54 = .ok (.iadd, 1) := by decide +kernel
theorem dX3_readProduct_55 : decode cX3_readProduct 55 = .ok (.putfield 23, 3) := by decide +kernel
theorem dX3_readProduct_58 : decode cX3_readProduct 58 = .ok (.aload_n 0, 1) := by decide +kernel
theorem dX3_readProduct_59 : decode cX3_readProduct 59 = .ok (.iload_n 1, 1) := by decide +kernel
theorem dX3_readProduct_60 : decode cX3_readProduct 60 = .ok (.invokevirtual 73, 3) := by decide +kernel
theorem dX3_readProduct_63 : decode cX3_readProduct 63 = .ok (.aload_n 0, 1) := by decide +kernel
theorem dX3_readProduct_64 : decode cX3_readProduct 64 = .ok (.iload_n 3, 1) := by decide +kernel
theorem dX3_readProduct_65 : decode cX3_readProduct 65 = .ok (.iconst 0, 1) := by decide +kernel
theorem dX3_readProduct_66 : decode cX3_readProduct 66 = .ok (.invokevirtual 56, 3) := by decide +kernel
theorem dX3_readProduct_69 : decode cX3_readProduct 69 = .ok (.pop, 1) := by decide +kernel
theorem dX3_readProduct_70 : decode cX3_readProduct 70 = .ok (.iinc 2 1, 3) := by decide +kernel
theorem dX3_readProduct_73 : decode cX3_readProduct 73 = .ok (.goto (-66), 3) := by decide +kernel
theorem dX3_readProduct_76 : decode cX3_readProduct 76 = .ok (.return_, 1) := by decide +kernel
theorem dX3_readOperand_0 : decode cX3_readOperand 0 = .ok (.aload_n 0, 1) := by decide +kernel
theorem dX3_readOperand_1 : decode cX3_readOperand 1 = .ok (.invokevirtual 43, 3) := by decide +kernel
theorem dX3_readOperand_4 : decode cX3_readOperand 4 = .ok (.istore_n 2, 1) := by decide +kernel
theorem dX3_readOperand_5 : decode cX3_readOperand 5 = .ok (.iload_n 2, 1) := by decide +kernel
theorem dX3_readOperand_6 : decode cX3_readOperand 6 = .ok (.bipush 45, 2) := by decide +kernel
theorem dX3_readOperand_8 : decode cX3_readOperand 8 = .ok (.if_icmp .ne 28, 3) := by decide +kernel
theorem dX3_readOperand_11 : decode cX3_readOperand 11 = .ok (.aload_n 0, 1) := by decide +kernel
theorem dX3_readOperand_12 : decode cX3_readOperand 12 = .ok (.iload_n 1, 1) := by decide +kernel
theorem dX3_readOperand_13 : decode cX3_readOperand 13 = .ok (.invokevirtual 50, 3) := by decide +kernel
theorem dX3_readOperand_16 : decode cX3_readOperand 16 = .ok (.ifCond .eq 55, 3) := by decide +kernel
theorem dX3_readOperand_19 : decode cX3_readOperand 19 = .ok (.aload_n 0, 1) := by decide +kernel
theorem dX3_readOperand_20 : decode cX3_readOperand 20 = .ok (.iload_n 1, 1) := by decide +kernel
theorem dX3_readOperand_21 : decode cX3_readOperand 21 = .ok (.iconst 1, 1) := by decide +kernel
theorem dX3_readOperand_22 : decode cX3_readOperand 22 = .ok (.iadd, 1) := by decide +kernel
theorem dX3_readOperand_23 : decode cX3_readOperand 23 = .ok (.invokevirtual 73, 3) := by decide +kernel
theorem dX3_readOperand_26 : decode cX3_readOperand 26 = .ok (.aload_n 0, 1) := by decide +kernel
theorem dX3_readOperand_27 : decode cX3_readOperand 27 = .ok (.iconst 2, 1) := by decide +kernel
theorem dX3_readOperand_28 : decode cX3_readOperand 28 = .ok (.iconst 0, 1) := by decide +kernel
theorem dX3_readOperand_29 : decode cX3_readOperand 29 = .ok (.invokevirtual 56, 3) := by decide +kernel
theorem dX3_readOperand_32 : decode cX3_readOperand 32 = .ok (.pop, 1) := by decide +kernel
theorem dX3_readOperand_33 : decode cX3_readOperand 33 = .ok (.goto 38, 3) := by decide +kernel
theorem dX3_readOperand_36 : decode cX3_readOperand 36 = .ok (.iload_n 2, 1) := by decide +kernel
theorem dX3_readOperand_37 : decode cX3_readOperand 37 = .ok (.bipush 40, 2) := by decide +kernel
theorem dX3_readOperand_39 : decode cX3_readOperand 39 = .ok (.if_icmp .ne 27, 3) := by decide +kernel
theorem dX3_readOperand_42 : decode cX3_readOperand 42 = .ok (.aload_n 0, 1) := by decide +kernel
theorem dX3_readOperand_43 : decode cX3_readOperand 43 = .ok (.iload_n 1, 1) := by decide +kernel
theorem dX3_readOperand_44 : decode cX3_readOperand 44 = .ok (.invokevirtual 50, 3) := by decide +kernel
theorem dX3_readOperand_47 : decode cX3_readOperand 47 = .ok (.ifCond .eq 24, 3) := by decide +kernel
theorem dX3_readOperand_50 : decode cX3_readOperand 50 = .ok (.aload_n 0, 1) := by decide +kernel
theorem dX3_readOperand_51 : decode cX3_readOperand 51 = .ok (.iload_n 1, 1) := by decide +kernel
theorem dX3_readOperand_52 : decode cX3_readOperand 52 = .ok (.iconst 1, 1) := by decide +kernel
theorem dX3_readOperand_53 : decode cX3_readOperand 53 = .ok (.iadd, 1) := by decide +kernel
theorem dX3_readOperand_54 : decode cX3_readOperand 54 = .ok (.invokevirtual 29, 3) := by decide +kernel
theorem dX3_readOperand_57 : decode cX3_readOperand 57 = .ok (.aload_n 0, 1) := by decide +kernel
theorem dX3_readOperand_58 : decode cX3_readOperand 58 = .ok (.bipush 41, 2) := by decide +kernel
theorem dX3_readOperand_60 : decode cX3_readOperand 60 = .ok (.invokevirtual 60, 3) := by decide +kernel
theorem dX3_readOperand_63 : decode cX3_readOperand 63 = .ok (.goto 8, 3) := by decide +kernel
theorem dX3_readOperand_66 : decode cX3_readOperand 66 = .ok (.aload_n 0, 1) := by decide +kernel
theorem dX3_readOperand_67 : decode cX3_readOperand 67 = .ok (.iload_n 2, 1) := by decide +kernel
theorem dX3_readOperand_68 : decode cX3_readOperand 68 = .ok (.invokevirtual 76, 3) := by decide +kernel
theorem dX3_readOperand_71 : decode cX3_readOperand 71 = .ok (.return_, 1) := by decide +kernel
theorem dX3_readNumberOrName_0 : decode cX3_readNumberOrName 0 = .ok (.iload_n 1, 1) := by decide +kernel
theorem dX3_readNumberOrName_1 : decode cX3_readNumberOrName 1 = .ok (.iconst (-1), 1) := by decide +kernel
theorem dX3_readNumberOrName_2 : decode cX3_readNumberOrName 2 = .ok (.if_icmp .ne 7, 3) := by decide +kernel
theorem dX3_readNumberOrName_5 : decode cX3_readNumberOrName 5 = .ok (.iconst (-1), 1) := by decide +kernel
theorem dX3_readNumberOrName_6 : decode cX3_readNumberOrName 6 = .ok (.goto 10, 3) := by decide +kernel
theorem dX3_readNumberOrName_9 : decode cX3_readNumberOrName 9 = .ok (.ldc 79, 2) := by decide +kernel
theorem dX3_readNumberOrName_11 : decode cX3_readNumberOrName 11 = .ok (.iload_n 1, 1) := by decide +kernel
theorem dX3_readNumberOrName_12 : decode cX3_readNumberOrName 12 = .ok (.i2c, 1) := by decide +kernel
theorem dX3_readNumberOrName_13 : decode cX3_readNumberOrName 13 = .ok (.invokevirtual 81, 3) := by decide +kernel
theorem dX3_readNumberOrName_16 : decode cX3_readNumberOrName 16 = .ok (.istore_n 2, 1) := by decide +kernel
theorem dX3_readNumberOrName_17 : decode cX3_readNumberOrName 17 = .ok (.iload_n 1, 1) := by decide +kernel
theorem dX3_readNumberOrName_18 : decode cX3_readNumberOrName 18 = .ok (.iconst (-1), 1) := by decide +kernel
theorem dX3_readNumberOrName_19 : decode cX3_readNumberOrName 19 = .ok (.if_icmp .ne 7, 3) := by decide +kernel
theorem dX3_readNumberOrName_22 : decode cX3_readNumberOrName 22 = .ok (.iconst 0, 1) := by decide +kernel
theorem dX3_readNumberOrName_23 : decode cX3_readNumberOrName 23 = .ok (.goto 14, 3) := by decide +kernel
theorem dX3_readNumberOrName_26 : decode cX3_readNumberOrName 26 = .ok (.aload_n 0, 1) := by decide +kernel
theorem dX3_readNumberOrName_27 : decode cX3_readNumberOrName 27 = .ok (.getfield 9, 3) := by decide +kernel
theorem dX3_readNumberOrName_30 : decode cX3_readNumberOrName 30 = .ok (.aload_n 0, 1) := by decide +kernel
theorem dX3_readNumberOrName_31 : decode cX3_readNumberOrName 31 = .ok (.getfield 23, 3) := by decide +kernel
theorem dX3_readNumberOrName_34 : decode cX3_readNumberOrName 34 = .ok (.invokevirtual 86, 3) := by decide +kernel
theorem dX3_readNumberOrName_37 : decode cX3_readNumberOrName 37 = .ok (.istore_n 3, 1) := by decide +kernel
theorem dX3_readNumberOrName_38 : decode cX3_readNumberOrName 38 = .ok (.iload_n 2, 1) := by decide +kernel
theorem dX3_readNumberOrName_39 : decode cX3_readNumberOrName 39 = .ok (.ifCond .lt 23, 3) := by decide +kernel
theorem dX3_readNumberOrName_42 : decode cX3_readNumberOrName 42 = .ok (.aload_n 0, 1) := by decide +kernel
theorem dX3_readNumberOrName_43 : decode cX3_readNumberOrName 43 = .ok (.iconst 1, 1) := by decide +kernel
theorem dX3_readNumberOrName_44 : decode cX3_readNumberOrName 44 = .ok (.iload_n 2, 1) := by decide +kernel
theorem dX3_readNumberOrName_45 : decode cX3_readNumberOrName 45 = .ok (.invokevirtual 56, 3) := by decide +kernel
theorem dX3_readNumberOrName_48 : decode cX3_readNumberOrName 48 = .ok (.pop, 1) := by decide +kernel
theorem dX3_readNumberOrName_49 : decode cX3_readNumberOrName 49 = .ok (.aload_n 0, 1) := by decide +kernel
theorem dX3_readNumberOrName_50 : decode cX3_readNumberOrName 50 = .ok (.dup, 1) := by decide +kernel
theorem dX3_readNumberOrName_51 : decode cX3_readNumberOrName 51 = .ok (.getfield 23, 3) := by decide +kernel
theorem dX3_readNumberOrName_54 : decode cX3_readNumberOrName 54 = .ok (.iconst 1, 1) := by decide +kernel
theorem dX3_readNumberOrName_55 : decode cX3_readNumberOrName 55 = .ok (.iadd, 1) := by decide +kernel
theorem dX3_readNumberOrName_56 : decode cX3_readNumberOrName 56 = .ok (.putfield 23, 3) := by decide +kernel
theorem dX3_readNumberOrName_59 : decode cX3_readNumberOrName 59 = .ok (.goto 42, 3) := by decide +kernel
theorem dX3_readNumberOrName_62 : decode cX3_readNumberOrName 62 = .ok (.iload_n 3, 1) := by decide +kernel
theorem dX3_readNumberOrName_63 : decode cX3_readNumberOrName 63 = .ok (.ifCond .le 34, 3) := by decide +kernel
theorem dX3_readNumberOrName_66 : decode cX3_readNumberOrName 66 = .ok (.aload_n 0, 1) := by decide +kernel
theorem dX3_readNumberOrName_67 : decode cX3_readNumberOrName 67 = .ok (.iconst 0, 1) := by decide +kernel
theorem dX3_readNumberOrName_68 : decode cX3_readNumberOrName 68 = .ok (.aload_n 0, 1) := by decide +kernel
theorem dX3_readNumberOrName_69 : decode cX3_readNumberOrName 69 = .ok (.getfield 9, 3) := by decide +kernel
theorem dX3_readNumberOrName_72 : decode cX3_readNumberOrName 72 = .ok (.aload_n 0, 1) := by decide +kernel
theorem dX3_readNumberOrName_73 : decode cX3_readNumberOrName 73 = .ok (.getfield 23, 3) := by decide +kernel
theorem dX3_readNumberOrName_76 : decode cX3_readNumberOrName 76 = .ok (.iload_n 3, 1) := by decide +kernel
theorem dX3_readNumberOrName_77 : decode cX3_readNumberOrName 77 = .ok (.invokevirtual 89, 3) := by decide +kernel
theorem dX3_readNumberOrName_80 : decode cX3_readNumberOrName 80 = .ok (.invokevirtual 56, 3) := by decide +kernel
theorem dX3_readNumberOrName_83 : decode cX3_readNumberOrName 83 = .ok (.pop, 1) := by decide +kernel
theorem dX3_readNumberOrName_84 : decode cX3_readNumberOrName 84 = .ok (.aload_n 0, 1) := by decide +kernel
theorem dX3_readNumberOrName_85 : decode cX3_readNumberOrName 85 = .ok (.dup, 1) := by decide +kernel
theorem dX3_readNumberOrName_86 : decode cX3_readNumberOrName 86 = .ok (.getfield 23, 3) := by decide +kernel
theorem dX3_readNumberOrName_89 : decode cX3_readNumberOrName 89 = .ok (.iload_n 3, 1) := by decide +kernel
theorem dX3_readNumberOrName_90 : decode cX3_readNumberOrName 90 = .ok (.iadd, 1) := by decide +kernel
theorem dX3_readNumberOrName_91 : decode cX3_readNumberOrName 91 = .ok (.putfield 23, 3) := by decide +kernel
theorem dX3_readNumberOrName_94 : decode cX3_readNumberOrName 94 = .ok (.goto 7, 3) := by decide +kernel
theorem dX3_readNumberOrName_97 : decode cX3_readNumberOrName 97 = .ok (.aload_n 0, 1) := by decide +kernel
theorem dX3_readNumberOrName_98 : decode cX3_readNumberOrName 98 = .ok (.invokevirtual 36, 3) := by decide +kernel
theorem dX3_readNumberOrName_101 : decode cX3_readNumberOrName 101 = .ok (.return_, 1) := by decide +kernel
theorem dX4_join_0 : decode cX4_join 0 = .ok (.iload_n 0, 1) := by decide +kernel
theorem dX4_join_1 : decode cX4_join 1 = .ok (.tableswitch 85 5 10 #[39, 43, 47, 51, 63, 74], 39) := by decide +kernel
theorem dX4_join_40 : decode cX4_join 40 = .ok (.iload_n 1, 1) := by decide +kernel
theorem dX4_join_41 : decode cX4_join 41 = .ok (.iload_n 2, 1) := by decide +kernel
theorem dX4_join_42 : decode cX4_join 42 = .ok (.iadd, 1) := by decide +kernel
theorem dX4_join_43 : decode cX4_join 43 = .ok (.ireturn, 1) := by decide +kernel
theorem dX4_join_44 : decode cX4_join 44 = .ok (.iload_n 1, 1) := by decide +kernel
theorem dX4_join_45 : decode cX4_join 45 = .ok (.iload_n 2, 1) := by decide +kernel
theorem dX4_join_46 : decode cX4_join 46 = .ok (.isub, 1) := by decide +kernel
theorem dX4_join_47 : decode cX4_join 47 = .ok (.ireturn, 1) := by decide +kernel
theorem dX4_join_48 : decode cX4_join 48 = .ok (.iload_n 1, 1) := by decide +kernel
theorem dX4_join_49 : decode cX4_join 49 = .ok (.iload_n 2, 1) := by decide +kernel
theorem dX4_join_50 : decode cX4_join 50 = .ok (.imul, 1) := by decide +kernel
theorem dX4_join_51 : decode cX4_join 51 = .ok (.ireturn, 1) := by decide +kernel
theorem dX4_join_52 : decode cX4_join 52 = .ok (.iload_n 2, 1) := by decide +kernel
theorem dX4_join_53 : decode cX4_join 53 = .ok (.ifCond .ne 7, 3) := by decide +kernel
theorem dX4_join_56 : decode cX4_join 56 = .ok (.iconst 0, 1) := by decide +kernel
theorem dX4_join_57 : decode cX4_join 57 = .ok (.goto 6, 3) := by decide +kernel
theorem dX4_join_60 : decode cX4_join 60 = .ok (.iload_n 1, 1) := by decide +kernel
theorem dX4_join_61 : decode cX4_join 61 = .ok (.iload_n 2, 1) := by decide +kernel
theorem dX4_join_62 : decode cX4_join 62 = .ok (.idiv, 1) := by decide +kernel
theorem dX4_join_63 : decode cX4_join 63 = .ok (.ireturn, 1) := by decide +kernel
theorem dX4_join_64 : decode cX4_join 64 = .ok (.iload_n 1, 1) := by decide +kernel
theorem dX4_join_65 : decode cX4_join 65 = .ok (.iload_n 2, 1) := by decide +kernel
theorem dX4_join_66 : decode cX4_join 66 = .ok (.if_icmp .ge 7, 3) := by decide +kernel
theorem dX4_join_69 : decode cX4_join 69 = .ok (.iconst 1, 1) := by decide +kernel
theorem dX4_join_70 : decode cX4_join 70 = .ok (.goto 4, 3) := by decide +kernel
theorem dX4_join_73 : decode cX4_join 73 = .ok (.iconst 0, 1) := by decide +kernel
theorem dX4_join_74 : decode cX4_join 74 = .ok (.ireturn, 1) := by decide +kernel
theorem dX4_join_75 : decode cX4_join 75 = .ok (.iload_n 1, 1) := by decide +kernel
theorem dX4_join_76 : decode cX4_join 76 = .ok (.iload_n 2, 1) := by decide +kernel
theorem dX4_join_77 : decode cX4_join 77 = .ok (.if_icmp .ne 7, 3) := by decide +kernel
theorem dX4_join_80 : decode cX4_join 80 = .ok (.iconst 1, 1) := by decide +kernel
theorem dX4_join_81 : decode cX4_join 81 = .ok (.goto 4, 3) := by decide +kernel
theorem dX4_join_84 : decode cX4_join 84 = .ok (.iconst 0, 1) := by decide +kernel
theorem dX4_join_85 : decode cX4_join 85 = .ok (.ireturn, 1) := by decide +kernel
theorem dX4_join_86 : decode cX4_join 86 = .ok (.iload_n 1, 1) := by decide +kernel
theorem dX4_join_87 : decode cX4_join 87 = .ok (.iload_n 2, 1) := by decide +kernel
theorem dX4_join_88 : decode cX4_join 88 = .ok (.if_icmp .le 7, 3) := by decide +kernel
theorem dX4_join_91 : decode cX4_join 91 = .ok (.iconst 1, 1) := by decide +kernel
theorem dX4_join_92 : decode cX4_join 92 = .ok (.goto 4, 3) := by decide +kernel
theorem dX4_join_95 : decode cX4_join 95 = .ok (.iconst 0, 1) := by decide +kernel
theorem dX4_join_96 : decode cX4_join 96 = .ok (.ireturn, 1) := by decide +kernel
theorem dX10_at_0 : decode cX10_at 0 = .ok (.iload_n 1, 1) := by decide +kernel
theorem dX10_at_1 : decode cX10_at 1 = .ok (.ifCond .lt 20, 3) := by decide +kernel
theorem dX10_at_4 : decode cX10_at 4 = .ok (.iload_n 1, 1) := by decide +kernel
theorem dX10_at_5 : decode cX10_at 5 = .ok (.aload_n 0, 1) := by decide +kernel
theorem dX10_at_6 : decode cX10_at 6 = .ok (.getfield 15, 3) := by decide +kernel
theorem dX10_at_9 : decode cX10_at 9 = .ok (.if_icmp .ge 12, 3) := by decide +kernel
theorem dX10_at_12 : decode cX10_at 12 = .ok (.aload_n 0, 1) := by decide +kernel
theorem dX10_at_13 : decode cX10_at 13 = .ok (.getfield 9, 3) := by decide +kernel
theorem dX10_at_16 : decode cX10_at 16 = .ok (.iload_n 1, 1) := by decide +kernel
theorem dX10_at_17 : decode cX10_at 17 = .ok (.iaload, 1) := by decide +kernel
theorem dX10_at_18 : decode cX10_at 18 = .ok (.goto 4, 3) := by decide +kernel
theorem dX10_at_21 : decode cX10_at 21 = .ok (.iconst (-1), 1) := by decide +kernel
theorem dX10_at_22 : decode cX10_at 22 = .ok (.ireturn, 1) := by decide +kernel
theorem dX10_hasDigitAt_0 : decode cX10_hasDigitAt 0 = .ok (.aload_n 0, 1) := by decide +kernel
theorem dX10_hasDigitAt_1 : decode cX10_hasDigitAt 1 = .ok (.iload_n 1, 1) := by decide +kernel
theorem dX10_hasDigitAt_2 : decode cX10_hasDigitAt 2 = .ok (.invokevirtual 19, 3) := by decide +kernel
theorem dX10_hasDigitAt_5 : decode cX10_hasDigitAt 5 = .ok (.bipush 48, 2) := by decide +kernel
theorem dX10_hasDigitAt_7 : decode cX10_hasDigitAt 7 = .ok (.if_icmp .lt 17, 3) := by decide +kernel
theorem dX10_hasDigitAt_10 : decode cX10_hasDigitAt 10 = .ok (.aload_n 0, 1) := by decide +kernel
theorem dX10_hasDigitAt_11 : decode cX10_hasDigitAt 11 = .ok (.iload_n 1, 1) := by decide +kernel
theorem dX10_hasDigitAt_12 : decode cX10_hasDigitAt 12 = .ok (.invokevirtual 19, 3) := by decide +kernel
theorem dX10_hasDigitAt_15 : decode cX10_hasDigitAt 15 = .ok (.bipush 57, 2) := by decide +kernel
theorem dX10_hasDigitAt_17 : decode cX10_hasDigitAt 17 = .ok (.if_icmp .gt 7, 3) := by decide +kernel
theorem dX10_hasDigitAt_20 : decode cX10_hasDigitAt 20 = .ok (.iconst 1, 1) := by decide +kernel
theorem dX10_hasDigitAt_21 : decode cX10_hasDigitAt 21 = .ok (.goto 4, 3) := by decide +kernel
theorem dX10_hasDigitAt_24 : decode cX10_hasDigitAt 24 = .ok (.iconst 0, 1) := by decide +kernel
theorem dX10_hasDigitAt_25 : decode cX10_hasDigitAt 25 = .ok (.ireturn, 1) := by decide +kernel
theorem dX10_digitsAt_0 : decode cX10_digitsAt 0 = .ok (.iconst 0, 1) := by decide +kernel
theorem dX10_digitsAt_1 : decode cX10_digitsAt 1 = .ok (.istore_n 2, 1) := by decide +kernel
theorem dX10_digitsAt_2 : decode cX10_digitsAt 2 = .ok (.iload_n 2, 1) := by decide +kernel
theorem dX10_digitsAt_3 : decode cX10_digitsAt 3 = .ok (.iconst 5, 1) := by decide +kernel
theorem dX10_digitsAt_4 : decode cX10_digitsAt 4 = .ok (.if_icmp .ge 19, 3) := by decide +kernel
theorem dX10_digitsAt_7 : decode cX10_digitsAt 7 = .ok (.aload_n 0, 1) := by decide +kernel
theorem dX10_digitsAt_8 : decode cX10_digitsAt 8 = .ok (.iload_n 1, 1) := by decide +kernel
theorem dX10_digitsAt_9 : decode cX10_digitsAt 9 = .ok (.iload_n 2, 1) := by decide +kernel
theorem dX10_digitsAt_10 : decode cX10_digitsAt 10 = .ok (.iadd, 1) := by decide +kernel
theorem dX10_digitsAt_11 : decode cX10_digitsAt 11 = .ok (.invokevirtual 23, 3) := by decide +kernel
theorem dX10_digitsAt_14 : decode cX10_digitsAt 14 = .ok (.ifCond .eq 9, 3) := by decide +kernel
theorem dX10_digitsAt_17 : decode cX10_digitsAt 17 = .ok (.iinc 2 1, 3) := by decide +kernel
theorem dX10_digitsAt_20 : decode cX10_digitsAt 20 = .ok (.goto (-18), 3) := by decide +kernel
theorem dX10_digitsAt_23 : decode cX10_digitsAt 23 = .ok (.iload_n 2, 1) := by decide +kernel
theorem dX10_digitsAt_24 : decode cX10_digitsAt 24 = .ok (.ireturn, 1) := by decide +kernel
theorem dX10_numberAt_0 : decode cX10_numberAt 0 = .ok (.iconst 0, 1) := by decide +kernel
theorem dX10_numberAt_1 : decode cX10_numberAt 1 = .ok (.istore_n 3, 1) := by decide +kernel
theorem dX10_numberAt_2 : decode cX10_numberAt 2 = .ok (.iconst 0, 1) := by decide +kernel
theorem dX10_numberAt_3 : decode cX10_numberAt 3 = .ok (.istore 4, 2) := by decide +kernel
theorem dX10_numberAt_5 : decode cX10_numberAt 5 = .ok (.iload 4, 2) := by decide +kernel
theorem dX10_numberAt_7 : decode cX10_numberAt 7 = .ok (.iload_n 2, 1) := by decide +kernel
theorem dX10_numberAt_8 : decode cX10_numberAt 8 = .ok (.if_icmp .ge 26, 3) := by decide +kernel
theorem dX10_numberAt_11 : decode cX10_numberAt 11 = .ok (.iload_n 3, 1) := by decide +kernel
theorem dX10_numberAt_12 : decode cX10_numberAt 12 = .ok (.bipush 10, 2) := by decide +kernel
theorem dX10_numberAt_14 : decode cX10_numberAt 14 = .ok (.imul, 1) := by decide +kernel
theorem dX10_numberAt_15 : decode cX10_numberAt 15 = .ok (.aload_n 0, 1) := by decide +kernel
theorem dX10_numberAt_16 : decode cX10_numberAt 16 = .ok (.iload_n 1, 1) := by decide +kernel
theorem dX10_numberAt_17 : decode cX10_numberAt 17 = .ok (.iload 4, 2) := by decide +kernel
theorem dX10_numberAt_19 : decode cX10_numberAt 19 = .ok (.iadd, 1) := by decide +kernel
theorem dX10_numberAt_20 : decode cX10_numberAt 20 = .ok (.invokevirtual 19, 3) := by decide +kernel
theorem dX10_numberAt_23 : decode cX10_numberAt 23 = .ok (.iadd, 1) := by decide +kernel
theorem dX10_numberAt_24 : decode cX10_numberAt 24 = .ok (.bipush 48, 2) := by decide +kernel
theorem dX10_numberAt_26 : decode cX10_numberAt 26 = .ok (.isub, 1) := by decide +kernel
theorem dX10_numberAt_27 : decode cX10_numberAt 27 = .ok (.istore_n 3, 1) := by decide +kernel
theorem dX10_numberAt_28 : decode cX10_numberAt 28 = .ok (.iinc 4 1, 3) := by decide +kernel
theorem dX10_numberAt_31 : decode cX10_numberAt 31 = .ok (.goto (-26), 3) := by decide +kernel
theorem dX10_numberAt_34 : decode cX10_numberAt 34 = .ok (.iload_n 3, 1) := by decide +kernel
theorem dX10_numberAt_35 : decode cX10_numberAt 35 = .ok (.ireturn, 1) := by decide +kernel
theorem dX11_within_0 : decode cX11_within 0 = .ok (.iload_n 0, 1) := by decide +kernel
theorem dX11_within_1 : decode cX11_within 1 = .ok (.iload_n 1, 1) := by decide +kernel
theorem dX11_within_2 : decode cX11_within 2 = .ok (.if_icmp .lt 12, 3) := by decide +kernel
theorem dX11_within_5 : decode cX11_within 5 = .ok (.iload_n 0, 1) := by decide +kernel
theorem dX11_within_6 : decode cX11_within 6 = .ok (.iload_n 2, 1) := by decide +kernel
theorem dX11_within_7 : decode cX11_within 7 = .ok (.if_icmp .gt 7, 3) := by decide +kernel
theorem dX11_within_10 : decode cX11_within 10 = .ok (.iconst 1, 1) := by decide +kernel
theorem dX11_within_11 : decode cX11_within 11 = .ok (.goto 4, 3) := by decide +kernel
theorem dX11_within_14 : decode cX11_within 14 = .ok (.iconst 0, 1) := by decide +kernel
theorem dX11_within_15 : decode cX11_within 15 = .ok (.ireturn, 1) := by decide +kernel
theorem dX11_isDay_0 : decode cX11_isDay 0 = .ok (.iload_n 0, 1) := by decide +kernel
theorem dX11_isDay_1 : decode cX11_isDay 1 = .ok (.iconst 0, 1) := by decide +kernel
theorem dX11_isDay_2 : decode cX11_isDay 2 = .ok (.sipush 9999, 3) := by decide +kernel
theorem dX11_isDay_5 : decode cX11_isDay 5 = .ok (.invokestatic 106, 3) := by decide +kernel
theorem dX11_isDay_8 : decode cX11_isDay 8 = .ok (.ireturn, 1) := by decide +kernel
theorem dX11_isTold_0 : decode cX11_isTold 0 = .ok (.iload_n 0, 1) := by decide +kernel
theorem dX11_isTold_1 : decode cX11_isTold 1 = .ok (.iconst 0, 1) := by decide +kernel
theorem dX11_isTold_2 : decode cX11_isTold 2 = .ok (.ldc 184, 2) := by decide +kernel
theorem dX11_isTold_4 : decode cX11_isTold 4 = .ok (.invokestatic 106, 3) := by decide +kernel
theorem dX11_isTold_7 : decode cX11_isTold 7 = .ok (.ireturn, 1) := by decide +kernel
theorem dX11_held_0 : decode cX11_held 0 = .ok (.ldc2_w 387, 3) := by decide +kernel
