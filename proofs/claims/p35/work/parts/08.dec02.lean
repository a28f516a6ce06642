theorem dX3_fail_10 : decode cX3_fail 10 = .ok (.getfield 23, 3) := by decide +kernel
theorem dX3_fail_13 : decode cX3_fail 13 = .ok (.putfield 26, 3) := by decide +kernel
theorem dX3_fail_16 : decode cX3_fail 16 = .ok (.return_, 1) := by decide +kernel
theorem dX3_take_0 : decode cX3_take 0 = .ok (.aload_n 0, 1) := by decide +kernel
theorem dX3_take_1 : decode cX3_take 1 = .ok (.invokevirtual 43, 3) := by decide +kernel
theorem dX3_take_4 : decode cX3_take 4 = .ok (.iload_n 1, 1) := by decide +kernel
theorem dX3_take_5 : decode cX3_take 5 = .ok (.if_icmp .ne 16, 3) := by decide +kernel
theorem dX3_take_8 : decode cX3_take 8 = .ok (.aload_n 0, 1) := by decide +kernel
theorem dX3_take_9 : decode cX3_take 9 = .ok (.dup, 1) := by decide +kernel
theorem dX3_take_10 : decode cX3_take 10 = .ok (.getfield 23, 3) := by decide +kernel
theorem dX3_take_13 : decode cX3_take 13 = .ok (.iconst 1, 1) := by decide +kernel
theorem dX3_take_14 : decode cX3_take 14 = .ok (.iadd, 1) := by decide +kernel
theorem dX3_take_15 : decode cX3_take 15 = .ok (.putfield 23, 3) := by decide +kernel
theorem dX3_take_18 : decode cX3_take 18 = .ok (.goto 7, 3) := by decide +kernel
theorem dX3_take_21 : decode cX3_take 21 = .ok (.aload_n 0, 1) := by decide +kernel
theorem dX3_take_22 : decode cX3_take 22 = .ok (.invokevirtual 36, 3) := by decide +kernel
theorem dX3_take_25 : decode cX3_take 25 = .ok (.return_, 1) := by decide +kernel
theorem dX3_opens_0 : decode cX3_opens 0 = .ok (.iload_n 1, 1) := by decide +kernel
theorem dX3_opens_1 : decode cX3_opens 1 = .ok (.bipush 8, 2) := by decide +kernel
theorem dX3_opens_3 : decode cX3_opens 3 = .ok (.if_icmp .lt 9, 3) := by decide +kernel
theorem dX3_opens_6 : decode cX3_opens 6 = .ok (.aload_n 0, 1) := by decide +kernel
theorem dX3_opens_7 : decode cX3_opens 7 = .ok (.invokevirtual 36, 3) := by decide +kernel
theorem dX3_opens_10 : decode cX3_opens 10 = .ok (.iconst 0, 1) := by decide +kernel
theorem dX3_opens_11 : decode cX3_opens 11 = .ok (.ireturn, 1) := by decide +kernel
theorem dX3_opens_12 : decode cX3_opens 12 = .ok (.aload_n 0, 1) := by decide +kernel
theorem dX3_opens_13 : decode cX3_opens 13 = .ok (.dup, 1) := by decide +kernel
theorem dX3_opens_14 : decode cX3_opens 14 = .ok (.getfield 23, 3) := by decide +kernel
theorem dX3_opens_17 : decode cX3_opens 17 = .ok (.iconst 1, 1) := by decide +kernel
theorem dX3_opens_18 : decode cX3_opens 18 = .ok (.iadd, 1) := by decide +kernel
theorem dX3_opens_19 : decode cX3_opens 19 = .ok (.putfield 23, 3) := by decide +kernel
theorem dX3_opens_22 : decode cX3_opens 22 = .ok (.iconst 1, 1) := by decide +kernel
theorem dX3_opens_23 : decode cX3_opens 23 = .ok (.ireturn, 1) := by decide +kernel
theorem dX3_put_0 : decode cX3_put 0 = .ok (.aload_n 0, 1) := by decide +kernel
theorem dX3_put_1 : decode cX3_put 1 = .ok (.getfield 19, 3) := by decide +kernel
theorem dX3_put_4 : decode cX3_put 4 = .ok (.aload_n 0, 1) := by decide +kernel
theorem dX3_put_5 : decode cX3_put 5 = .ok (.getfield 15, 3) := by decide +kernel
theorem dX3_put_8 : decode cX3_put 8 = .ok (.arraylength, 1) := by decide +kernel
theorem dX3_put_9 : decode cX3_put 9 = .ok (.if_icmp .ge 27, 3) := by decide +kernel
theorem dX3_put_12 : decode cX3_put 12 = .ok (.aload_n 0, 1) := by decide +kernel
theorem dX3_put_13 : decode cX3_put 13 = .ok (.getfield 15, 3) := by decide +kernel
theorem dX3_put_16 : decode cX3_put 16 = .ok (.aload_n 0, 1) := by decide +kernel
theorem dX3_put_17 : decode cX3_put 17 = .ok (.getfield 19, 3) := by decide +kernel
theorem dX3_put_20 : decode cX3_put 20 = .ok (.iload_n 1, 1) := by decide +kernel
theorem dX3_put_21 : decode cX3_put 21 = .ok (.iload_n 2, 1) := by decide +kernel
theorem dX3_put_22 : decode cX3_put 22 = .ok (.iconst 4, 1) := by decide +kernel
theorem dX3_put_23 : decode cX3_put 23 = .ok (.ishl, 1) := by decide +kernel
theorem dX3_put_24 : decode cX3_put 24 = .ok (.ior, 1) := by decide +kernel
theorem dX3_put_25 : decode cX3_put 25 = .ok (.iastore, 1) := by decide +kernel
theorem dX3_put_26 : decode cX3_put 26 = .ok (.aload_n 0, 1) := by decide +kernel
theorem dX3_put_27 : decode cX3_put 27 = .ok (.dup, 1) := by decide +kernel
theorem dX3_put_28 : decode cX3_put 28 = .ok (.getfield 19, 3) := by decide +kernel
theorem dX3_put_31 : decode cX3_put 31 = .ok (.iconst 1, 1) := by decide +kernel
theorem dX3_put_32 : decode cX3_put 32 = .ok (.iadd, 1) := by decide +kernel
theorem dX3_put_33 : decode cX3_put 33 = .ok (.putfield 19, 3) := by decide +kernel
theorem dX3_put_36 : decode cX3_put 36 = .ok (.aload_n 0, 1) := by decide +kernel
theorem dX3_put_37 : decode cX3_put 37 = .ok (.getfield 19, 3) := by decide +kernel
theorem dX3_put_40 : decode cX3_put 40 = .ok (.iconst 1, 1) := by decide +kernel
theorem dX3_put_41 : decode cX3_put 41 = .ok (.isub, 1) := by decide +kernel
theorem dX3_put_42 : decode cX3_put 42 = .ok (.ireturn, 1) := by decide +kernel
theorem dX3_leadHere_0 : decode cX3_leadHere 0 = .ok (.iload_n 1, 1) := by decide +kernel
theorem dX3_leadHere_1 : decode cX3_leadHere 1 = .ok (.ifCond .lt 34, 3) := by decide +kernel
theorem dX3_leadHere_4 : decode cX3_leadHere 4 = .ok (.iload_n 1, 1) := by decide +kernel
theorem dX3_leadHere_5 : decode cX3_leadHere 5 = .ok (.aload_n 0, 1) := by decide +kernel
theorem dX3_leadHere_6 : decode cX3_leadHere 6 = .ok (.getfield 15, 3) := by decide +kernel
theorem dX3_leadHere_9 : decode cX3_leadHere 9 = .ok (.arraylength, 1) := by decide +kernel
theorem dX3_leadHere_10 : decode cX3_leadHere 10 = .ok (.if_icmp .ge 25, 3) := by decide +kernel
theorem dX3_leadHere_13 : decode cX3_leadHere 13 = .ok (.aload_n 0, 1) := by decide +kernel
theorem dX3_leadHere_14 : decode cX3_leadHere 14 = .ok (.getfield 15, 3) := by decide +kernel
theorem dX3_leadHere_17 : decode cX3_leadHere 17 = .ok (.iload_n 1, 1) := by decide +kernel
theorem dX3_leadHere_18 : decode cX3_leadHere 18 = .ok (.aload_n 0, 1) := by decide +kernel
theorem dX3_leadHere_19 : decode cX3_leadHere 19 = .ok (.getfield 15, 3) := by decide +kernel
theorem dX3_leadHere_22 : decode cX3_leadHere 22 = .ok (.iload_n 1, 1) := by decide +kernel
theorem dX3_leadHere_23 : decode cX3_leadHere 23 = .ok (.iaload, 1) := by decide +kernel
theorem dX3_leadHere_24 : decode cX3_leadHere 24 = .ok (.bipush 15, 2) := by decide +kernel
theorem dX3_leadHere_26 : decode cX3_leadHere 26 = .ok (.iand, 1) := by decide +kernel
theorem dX3_leadHere_27 : decode cX3_leadHere 27 = .ok (.aload_n 0, 1) := by decide +kernel
theorem dX3_leadHere_28 : decode cX3_leadHere 28 = .ok (.getfield 19, 3) := by decide +kernel
theorem dX3_leadHere_31 : decode cX3_leadHere 31 = .ok (.iconst 4, 1) := by decide +kernel
theorem dX3_leadHere_32 : decode cX3_leadHere 32 = .ok (.ishl, 1) := by decide +kernel
theorem dX3_leadHere_33 : decode cX3_leadHere 33 = .ok (.ior, 1) := by decide +kernel
theorem dX3_leadHere_34 : decode cX3_leadHere 34 = .ok (.iastore, 1) := by decide +kernel
theorem dX3_leadHere_35 : decode cX3_leadHere 35 = .ok (.return_, 1) := by decide +kernel
theorem dX3_readChoice_0 : decode cX3_readChoice 0 = .ok (.aload_n 0, 1) := by decide +kernel
theorem dX3_readChoice_1 : decode cX3_readChoice 1 = .ok (.iload_n 1, 1) := by decide +kernel
theorem dX3_readChoice_2 : decode cX3_readChoice 2 = .ok (.invokevirtual 47, 3) := by decide +kernel
theorem dX3_readChoice_5 : decode cX3_readChoice 5 = .ok (.aload_n 0, 1) := by decide +kernel
theorem dX3_readChoice_6 : decode cX3_readChoice 6 = .ok (.invokevirtual 43, 3) := by decide +kernel
theorem dX3_readChoice_9 : decode cX3_readChoice 9 = .ok (.bipush 63, 2) := by decide +kernel
theorem dX3_readChoice_11 : decode cX3_readChoice 11 = .ok (.if_icmp .ne 55, 3) := by decide +kernel
theorem dX3_readChoice_14 : decode cX3_readChoice 14 = .ok (.aload_n 0, 1) := by decide +kernel
theorem dX3_readChoice_15 : decode cX3_readChoice 15 = .ok (.iload_n 1, 1) := by decide +kernel
theorem dX3_readChoice_16 : decode cX3_readChoice 16 = .ok (.invokevirtual 50, 3) := by decide +kernel
theorem dX3_readChoice_19 : decode cX3_readChoice 19 = .ok (.ifCond .eq 47, 3) := by decide +kernel
theorem dX3_readChoice_22 : decode cX3_readChoice 22 = .ok (.aload_n 0, 1) := by decide +kernel
theorem dX3_readChoice_23 : decode cX3_readChoice 23 = .ok (.iconst 4, 1) := by decide +kernel
theorem dX3_readChoice_24 : decode cX3_readChoice 24 = .ok (.iconst 0, 1) := by decide +kernel
theorem dX3_readChoice_25 : decode cX3_readChoice 25 = .ok (.invokevirtual 56, 3) := by decide +kernel
theorem dX3_readChoice_28 : decode cX3_readChoice 28 = .ok (.istore_n 2, 1) := by decide +kernel
theorem dX3_readChoice_29 : decode cX3_readChoice 29 = .ok (.aload_n 0, 1) := by decide +kernel
theorem dX3_readChoice_30 : decode cX3_readChoice 30 = .ok (.iload_n 1, 1) := by decide +kernel
theorem dX3_readChoice_31 : decode cX3_readChoice 31 = .ok (.iconst 1, 1) := by decide +kernel
theorem dX3_readChoice_32 : decode cX3_readChoice 32 = .ok (.iadd, 1) := by decide +kernel
theorem dX3_readChoice_33 : decode cX3_readChoice 33 = .ok (.invokevirtual 29, 3) := by decide +kernel
theorem dX3_readChoice_36 : decode cX3_readChoice 36 = .ok (.aload_n 0, 1) := by decide +kernel
theorem dX3_readChoice_37 : decode cX3_readChoice 37 = .ok (.bipush 58, 2) := by decide +kernel
theorem dX3_readChoice_39 : decode cX3_readChoice 39 = .ok (.invokevirtual 60, 3) := by decide +kernel
theorem dX3_readChoice_42 : decode cX3_readChoice 42 = .ok (.aload_n 0, 1) := by decide +kernel
theorem dX3_readChoice_43 : decode cX3_readChoice 43 = .ok (.iconst 3, 1) := by decide +kernel
theorem dX3_readChoice_44 : decode cX3_readChoice 44 = .ok (.iconst 0, 1) := by decide +kernel
theorem dX3_readChoice_45 : decode cX3_readChoice 45 = .ok (.invokevirtual 56, 3) := by decide +kernel
theorem dX3_readChoice_48 : decode cX3_readChoice 48 = .ok (.istore_n 3, 1) := by decide +kernel
theorem dX3_readChoice_49 : decode cX3_readChoice 49 = .ok (.aload_n 0, 1) := by decide +kernel
theorem dX3_readChoice_50 : decode cX3_readChoice 50 = .ok (.iload_n 2, 1) := by decide +kernel
theorem dX3_readChoice_51 : decode cX3_readChoice 51 = .ok (.invokevirtual 64, 3) := by decide +kernel
theorem dX3_readChoice_54 : decode cX3_readChoice 54 = .ok (.aload_n 0, 1) := by decide +kernel
theorem dX3_readChoice_55 : decode cX3_readChoice 55 = .ok (.iload_n 1, 1) := by decide +kernel
theorem dX3_readChoice_56 : decode cX3_readChoice 56 = .ok (.iconst 1, 1) := by decide +kernel
theorem dX3_readChoice_57 : decode cX3_readChoice 57 = .ok (.iadd, 1) := by decide +kernel
theorem dX3_readChoice_58 : decode cX3_readChoice 58 = .ok (.invokevirtual 29, 3) := by decide +kernel
theorem dX3_readChoice_61 : decode cX3_readChoice 61 = .ok (.aload_n 0, 1) := by decide +kernel
theorem dX3_readChoice_62 : decode cX3_readChoice 62 = .ok (.iload_n 3, 1) := by decide +kernel
theorem dX3_readChoice_63 : decode cX3_readChoice 63 = .ok (.invokevirtual 64, 3) := by decide +kernel
theorem dX3_readChoice_66 : decode cX3_readChoice 66 = .ok (.return_, 1) := by decide +kernel
theorem dX3_readComparison_0 : decode cX3_readComparison 0 = .ok (.aload_n 0, 1) := by decide +kernel
theorem dX3_readComparison_1 : decode cX3_readComparison 1 = .ok (.iload_n 1, 1) := by decide +kernel
theorem dX3_readComparison_2 : decode cX3_readComparison 2 = .ok (.invokevirtual 67, 3) := by decide +kernel
theorem dX3_readComparison_5 : decode cX3_readComparison 5 = .ok (.aload_n 0, 1) := by decide +kernel
theorem dX3_readComparison_6 : decode cX3_readComparison 6 = .ok (.invokevirtual 43, 3) := by decide +kernel
theorem dX3_readComparison_9 : decode cX3_readComparison 9 = .ok (.istore_n 2, 1) := by decide +kernel
theorem dX3_readComparison_10 : decode cX3_readComparison 10 = .ok (.iload_n 2, 1) := by decide +kernel
theorem dX3_readComparison_11 : decode cX3_readComparison 11 = .ok (.bipush 60, 2) := by decide +kernel
theorem dX3_readComparison_13 : decode cX3_readComparison 13 = .ok (.if_icmp .eq 15, 3) := by decide +kernel
theorem dX3_readComparison_16 : decode cX3_readComparison 16 = .ok (.iload_n 2, 1) := by decide +kernel
theorem dX3_readComparison_17 : decode cX3_readComparison 17 = .ok (.bipush 61, 2) := by decide +kernel
theorem dX3_readComparison_19 : decode cX3_readComparison 19 = .ok (.if_icmp .eq 9, 3) := by decide +kernel
theorem dX3_readComparison_22 : decode cX3_readComparison 22 = .ok (.iload_n 2, 1) := by decide +kernel
theorem dX3_readComparison_23 : decode cX3_readComparison 23 = .ok (.bipush 62, 2) := by decide +kernel
theorem dX3_readComparison_25 : decode cX3_readComparison 25 = .ok (.if_icmp .ne 48, 3) := by decide +kernel
theorem dX3_readComparison_28 : decode cX3_readComparison 28 = .ok (.aload_n 0, 1) := by decide +kernel
theorem dX3_readComparison_29 : decode cX3_readComparison 29 = .ok (.dup, 1) := by decide +kernel
theorem dX3_readComparison_30 : decode cX3_readComparison 30 = .ok (.getfield 23, 3) := by decide +kernel
theorem dX3_readComparison_33 : decode cX3_readComparison 33 = .ok (.iconst 1, 1) := by decide +kernel
theorem dX3_readComparison_34 : decode cX3_readComparison 34 = .ok (.iadd, 1) := by decide +kernel
theorem dX3_readComparison_35 : decode cX3_readComparison 35 = .ok (.putfield 23, 3) := by decide +kernel
theorem dX3_readComparison_38 : decode cX3_readComparison 38 = .ok (.aload_n 0, 1) := by decide +kernel
theorem dX3_readComparison_39 : decode cX3_readComparison 39 = .ok (.iload_n 1, 1) := by decide +kernel
theorem dX3_readComparison_40 : decode cX3_readComparison 40 = .ok (.invokevirtual 67, 3) := by decide +kernel
theorem dX3_readComparison_43 : decode cX3_readComparison 43 = .ok (.aload_n 0, 1) := by decide +kernel
theorem dX3_readComparison_44 : decode cX3_readComparison 44 = .ok (.iload_n 2, 1) := by decide +kernel
theorem dX3_readComparison_45 : decode cX3_readComparison 45 = .ok (.bipush 60, 2) := by decide +kernel
theorem dX3_readComparison_47 : decode cX3_readComparison 47 = .ok (.if_icmp .ne 8, 3) := by decide +kernel
theorem dX3_readComparison_50 : decode cX3_readComparison 50 = .ok (.bipush 9, 2) := by decide +kernel
theorem dX3_readComparison_52 : decode cX3_readComparison 52 = .ok (.goto 16, 3) := by decide +kernel
theorem dX3_readComparison_55 : decode cX3_readComparison 55 = .ok (.iload_n 2, 1) := by decide +kernel
theorem dX3_readComparison_56 : decode cX3_readComparison 56 = .ok (.bipush 61, 2) := by decide +kernel
theorem dX3_readComparison_58 : decode cX3_readComparison 58 = .ok (.if_icmp .ne 8, 3) := by decide +kernel
theorem dX3_readComparison_61 : decode cX3_readComparison 61 = .ok (.bipush 10, 2) := by decide +kernel
theorem dX3_readComparison_63 : decode cX3_readComparison 63 = .ok (.goto 5, 3) := by decide +kernel
theorem dX3_readComparison_66 : decode cX3_readComparison 66 = .ok (.bipush 11, 2) := by decide +kernel
theorem dX3_readComparison_68 : decode cX3_readComparison 68 = .ok (.iconst 0, 1) := by decide +kernel
theorem dX3_readComparison_69 : decode cX3_readComparison 69 = .ok (.invokevirtual 56, 3) := by decide +kernel
theorem dX3_readComparison_72 : decode cX3_readComparison 72 = .ok (.pop, 1) := by decide +kernel
theorem dX3_readComparison_73 : decode cX3_readComparison 73 = .ok (.return_, 1) := by decide +kernel
theorem dX3_readSum_0 : decode cX3_readSum 0 = .ok (.aload_n 0, 1) := by decide +kernel
theorem dX3_readSum_1 : decode cX3_readSum 1 = .ok (.iload_n 1, 1) := by decide +kernel
theorem dX3_readSum_2 : decode cX3_readSum 2 = .ok (.invokevirtual 70, 3) := by decide +kernel
theorem dX3_readSum_5 : decode cX3_readSum 5 = .ok (.iconst 0, 1) := by decide +kernel
theorem dX3_readSum_6 : decode cX3_readSum 6 = .ok (.istore_n 2, 1) := by decide +kernel
theorem dX3_readSum_7 : decode cX3_readSum 7 = .ok (.iload_n 2, 1) := by decide +kernel
theorem dX3_readSum_8 : decode cX3_readSum 8 = .ok (.bipush 120, 2) := by decide +kernel
theorem dX3_readSum_10 : decode cX3_readSum 10 = .ok (.if_icmp .ge 65, 3) := by decide +kernel
theorem dX3_readSum_13 : decode cX3_readSum 13 = .ok (.aload_n 0, 1) := by decide +kernel
theorem dX3_readSum_14 : decode cX3_readSum 14 = .ok (.invokevirtual 43, 3) := by decide +kernel
theorem dX3_readSum_17 : decode cX3_readSum 17 = .ok (.bipush 43, 2) := by decide +kernel
theorem dX3_readSum_19 : decode cX3_readSum 19 = .ok (.if_icmp .eq 12, 3) := by decide +kernel
theorem dX3_readSum_22 : decode cX3_readSum 22 = .ok (.aload_n 0, 1) := by decide +kernel
theorem dX3_readSum_23 : decode cX3_readSum 23 = .ok (.invokevirtual 43, 3) := by decide +kernel
theorem dX3_readSum_26 : decode cX3_readSum 26 = .ok (.bipush 45, 2) := by decide +kernel
theorem dX3_readSum_28 : decode cX3_readSum 28 = .ok (.if_icmp .ne 47, 3) := by decide +kernel
theorem dX3_readSum_31 : decode cX3_readSum 31 = .ok (.aload_n 0, 1) := by decide +kernel
theorem dX3_readSum_32 : decode cX3_readSum 32 = .ok (.invokevirtual 43, 3) := by decide +kernel
theorem dX3_readSum_35 : decode cX3_readSum 35 = .ok (.bipush 43, 2) := by decide +kernel
theorem dX3_readSum_37 : decode cX3_readSum 37 = .ok (.if_icmp .ne 7, 3) := by decide +kernel
theorem dX3_readSum_40 : decode cX3_readSum 40 = .ok (.iconst 5, 1) := by decide +kernel
theorem dX3_readSum_41 : decode cX3_readSum 41 = .ok (.goto 5, 3) := by decide +kernel
theorem dX3_readSum_44 : decode cX3_readSum 44 = .ok (.bipush 6, 2) := by decide +kernel
theorem dX3_readSum_46 : decode cX3_readSum 46 = .ok (.istore_n 3, 1) := by decide +kernel
theorem dX3_readSum_47 : decode cX3_readSum 47 = .ok (.aload_n 0, 1) := by decide +kernel
theorem dX3_readSum_48 : decode cX3_readSum 48 = .ok (.dup, 1) := by decide +kernel
theorem dX3_readSum_49 : decode cX3_readSum 49 = .ok (.getfield 23, 3) := by decide +kernel
theorem dX3_readSum_52 : decode cX3_readSum 52 = .ok (.iconst 1, 1) := by decide +kernel
theorem dX3_readSum_53 : decode cX3_readSum 53 = .ok (.iadd, 1) := by decide +kernel
theorem dX3_readSum_54 : decode cX3_readSum 54 = .ok (.putfield 23, 3) := by decide +kernel
theorem dX3_readSum_57 : decode cX3_readSum 57 = .ok (.aload_n 0, 1) := by decide +kernel
theorem dX3_readSum_58 : decode cX3_readSum 58 = .ok (.iload_n 1, 1) := by decide +kernel
theorem dX3_readSum_59 : decode cX3_readSum 59 = .ok (.invokevirtual 70, 3) := by decide +kernel
theorem dX3_readSum_62 : decode cX3_readSum 62 = .ok (.aload_n 0, 1) := by decide +kernel
theorem dX3_readSum_63 : decode cX3_readSum 63 = .ok (.iload_n 3, 1) := by decide +kernel
theorem dX3_readSum_64 : decode cX3_readSum 64 = .ok (.iconst 0, 1) := by decide +kernel
theorem dX3_readSum_65 : decode cX3_readSum 65 = .ok (.invokevirtual 56, 3) := by decide +kernel
theorem dX3_readSum_68 : decode cX3_readSum 68 = .ok (.pop, 1) := by decide +kernel
theorem dX3_readSum_69 : decode cX3_readSum 69 = .ok (.iinc 2 1, 3) := by decide +kernel
theorem dX3_readSum_72 : decode cX3_readSum 72 = .ok (.goto (-65), 3) := by decide +kernel
theorem dX3_readSum_75 : decode cX3_readSum 75 = .ok (.return_, 1) := by decide +kernel
theorem dX3_readProduct_0 : decode cX3_readProduct 0 = .ok (.aload_n 0, 1) := by decide +kernel
theorem dX3_readProduct_1 : decode cX3_readProduct 1 = .ok (.iload_n 1, 1) := by decide +kernel
theorem dX3_readProduct_2 : decode cX3_readProduct 2 = .ok (.invokevirtual 73, 3) := by decide +kernel
theorem dX3_readProduct_5 : decode cX3_readProduct 5 = .ok (.iconst 0, 1) := by decide +kernel
theorem dX3_readProduct_6 : decode cX3_readProduct 6 = .ok (.istore_n 2, 1) := by decide +kernel
theorem dX3_readProduct_7 : decode cX3_readProduct 7 = .ok (.iload_n 2, 1) := by decide +kernel
theorem dX3_readProduct_8 : decode cX3_readProduct 8 = .ok (.bipush 120, 2) := by decide +kernel
theorem dX3_readProduct_10 : decode cX3_readProduct 10 = .ok (.if_icmp .ge 66, 3) := by decide +kernel
theorem dX3_readProduct_13 : decode cX3_readProduct 13 = .ok (.aload_n 0, 1) := by decide +kernel
theorem dX3_readProduct_14 : decode cX3_readProduct 14 = .ok (.invokevirtual 43, 3) := by decide +kernel
theorem dX3_readProduct_17 : decode cX3_readProduct 17 = .ok (.bipush 42, 2) := by decide +kernel
theorem dX3_readProduct_19 : decode cX3_readProduct 19 = .ok (.if_icmp .eq 12, 3) := by decide +kernel
theorem dX3_readProduct_22 : decode cX3_readProduct 22 = .ok (.aload_n 0, 1) := by decide +kernel
theorem dX3_readProduct_23 : decode cX3_readProduct 23 = .ok (.invokevirtual 43, 3) := by decide +kernel
theorem dX3_readProduct_26 : decode cX3_readProduct 26 = .ok (.bipush 47, 2) := by decide +kernel
theorem dX3_readProduct_28 : decode cX3_readProduct 28 = .ok (.if_icmp .ne 48, 3) := by decide +kernel
theorem dX3_readProduct_31 : decode cX3_readProduct 31 = .ok (.aload_n 0, 1) := by decide +kernel
theorem dX3_readProduct_32 : decode cX3_readProduct 32 = .ok (.invokevirtual 43, 3) := by decide +kernel
theorem dX3_readProduct_35 : decode cX3_readProduct 35 = .ok (.bipush 42, 2) := by decide +kernel
theorem dX3_readProduct_37 : decode cX3_readProduct 37 = .ok (.if_icmp .ne 8, 3) := by decide +kernel
theorem dX3_readProduct_40 : decode cX3_readProduct 40 = .ok (.bipush 7, 2) := by decide +kernel
theorem dX3_readProduct_42 : decode cX3_readProduct 42 = .ok (.goto 5, 3) := by decide +kernel
theorem dX3_readProduct_45 : decode cX3_readProduct 45 = .ok (.bipush 8, 2) := by decide +kernel
theorem dX3_readProduct_47 : decode cX3_readProduct 47 = .ok (.istore_n 3, 1) := by decide +kernel
theorem dX3_readProduct_48 : decode cX3_readProduct 48 = .ok (.aload_n 0, 1) := by decide +kernel
theorem dX3_readProduct_49 : decode cX3_readProduct 49 = .ok (.dup, 1) := by decide +kernel
theorem dX3_readProduct_50 : decode cX3_readProduct 50 = .ok (.getfield 23, 3) := by decide +kernel
theorem dX3_readProduct_53 : decode cX3_readProduct 53 = .ok (.iconst 1, 1) := by decide +kernel
theorem dX3_readProduct_54 : decode cX3_readProduct 54 = .ok (.iadd, 1) := by decide +kernel
theorem dX3_readProduct_55 : decode cX3_readProduct 55 = .ok (.putfield 23, 3) := by decide +kernel
theorem dX3_readProduct_58 : decode cX3_readProduct 58 = .ok (.aload_n 0, 1) := by decide +kernel
theorem dX3_readProduct_59 : decode cX3_readProduct 59 = .ok (.iload_n 1, 1) := by decide +kernel
theorem dX3_readProduct_60 : decode cX3_readProduct 60 = .ok (.invokevirtual 73, 3) := by decide +kernel
theorem dX3_readProduct_63 : decode cX3_readProduct 63 = .ok (.aload_n 0, 1) := by decide +kernel
theorem dX3_readProduct_64 : decode cX3_readProduct 64 = .ok (.iload_n 3, 1) := by decide +kernel
theorem dX3_readProduct_65 : decode cX3_readProduct 65 = .ok (.iconst 0, 1) := by decide +kernel
theorem dX3_readProduct_66 : decode cX3_readProduct 66 = .ok (.invokevirtual 56, 3) := by decide +kernel
theorem dX3_readProduct_69 : decode cX3_readProduct 69 = .ok (.pop, 1) := by decide +kernel
theorem dX3_readProduct_70 : decode cX3_readProduct 70 = .ok (.iinc 2 1, 3) := by decide +kernel
theorem dX3_readProduct_73 : decode cX3_readProduct 73 = .ok (.goto (-66), 3) := by decide +kernel
theorem dX3_readProduct_76 : decode cX3_readProduct 76 = .ok (.return_, 1) := by decide +kernel
theorem dX3_readOperand_0 : decode cX3_readOperand 0 = .ok (.aload_n 0, 1) := by decide +kernel
theorem dX3_readOperand_1 : decode cX3_readOperand 1 = .ok (.invokevirtual 43, 3) := by decide +kernel
theorem dX3_readOperand_4 : decode cX3_readOperand 4 = .ok (.istore_n 2, 1) := by decide +kernel
theorem dX3_readOperand_5 : decode cX3_readOperand 5 = .ok (.iload_n 2, 1) := by decide +kernel
theorem dX3_readOperand_6 : decode cX3_readOperand 6 = .ok (.bipush 45, 2) := by decide +kernel
theorem dX3_readOperand_8 : decode cX3_readOperand 8 = .ok (.if_icmp .ne 28, 3) := by decide +kernel
theorem dX3_readOperand_11 : decode cX3_readOperand 11 = .ok (.aload_n 0, 1) := by decide +kernel
theorem dX3_readOperand_12 : decode cX3_readOperand 12 = .ok (.iload_n 1, 1) := by decide +kernel
theorem dX3_readOperand_13 : decode cX3_readOperand 13 = .ok (.invokevirtual 50, 3) := by decide +kernel
theorem dX3_readOperand_16 : decode cX3_readOperand 16 = .ok (.ifCond .eq 55, 3) := by decide +kernel
theorem dX3_readOperand_19 : decode cX3_readOperand 19 = .ok (.aload_n 0, 1) := by decide +kernel
theorem dX3_readOperand_20 : decode cX3_readOperand 20 = .ok (.iload_n 1, 1) := by decide +kernel
theorem dX3_readOperand_21 : decode cX3_readOperand 21 = .ok (.iconst 1, 1) := by decide +kernel
theorem dX3_readOperand_22 : decode cX3_readOperand 22 = .ok (.iadd, 1) := by decide +kernel
theorem dX3_readOperand_23 : decode cX3_readOperand 23 = .ok (.invokevirtual 73, 3) := by decide +kernel
theorem dX3_readOperand_26 : decode cX3_readOperand 26 = .ok (.aload_n 0, 1) := by decide +kernel
theorem dX3_readOperand_27 : decode cX3_readOperand 27 = .ok (.iconst 2, 1) := by decide +kernel
theorem dX3_readOperand_28 : decode cX3_readOperand 28 = .ok (.iconst 0, 1) := by decide +kernel
theorem dX3_readOperand_29 : decode cX3_readOperand 29 = .ok (.invokevirtual 56, 3) := by decide +kernel
theorem dX3_readOperand_32 : decode cX3_readOperand 32 = .ok (.pop, 1) := by decide +kernel
theorem dX3_readOperand_33 : decode cX3_readOperand 33 = .ok (.goto 38, 3) := by decide +kernel
theorem dX3_readOperand_36 : decode cX3_readOperand 36 = .ok (.iload_n 2, 1) := by decide +kernel
theorem dX3_readOperand_37 : decode cX3_readOperand 37 = .ok (.bipush 40, 2) := by decide +kernel
theorem dX3_readOperand_39 : decode cX3_readOperand 39 = .ok (.if_icmp .ne 27, 3) := by decide +kernel
theorem dX3_readOperand_42 : decode cX3_readOperand 42 = .ok (.aload_n 0, 1) := by decide +kernel
theorem dX3_readOperand_43 : decode cX3_readOperand 43 = .ok (.iload_n 1, 1) := by decide +kernel
theorem dX3_readOperand_44 : decode cX3_readOperand 44 = .ok (.invokevirtual 50, 3) := by decide +kernel
theorem dX3_readOperand_47 : decode cX3_readOperand 47 = .ok (.ifCond .eq 24, 3) := by decide +kernel
theorem dX3_readOperand_50 : decode cX3_readOperand 50 = .ok (.aload_n 0, 1) := by decide +kernel
theorem dX3_readOperand_51 : decode cX3_readOperand 51 = .ok (.iload_n 1, 1) := by decide +kernel
theorem dX3_readOperand_52 : decode cX3_readOperand 52 = .ok (.iconst 1, 1) := by decide +kernel
theorem dX3_readOperand_53 : decode cX3_readOperand 53 = .ok (.iadd, 1) := by decide +kernel
theorem dX3_readOperand_54 : decode cX3_readOperand 54 = .ok (.invokevirtual 29, 3) := by decide +kernel
theorem dX3_readOperand_57 : decode cX3_readOperand 57 = .ok (.aload_n 0, 1) := by decide +kernel
theorem dX3_readOperand_58 : decode cX3_readOperand 58 = .ok (.bipush 41, 2) := by decide +kernel
theorem dX3_readOperand_60 : decode cX3_readOperand 60 = .ok (.invokevirtual 60, 3) := by decide +kernel
theorem dX3_readOperand_63 : decode cX3_readOperand 63 = .ok (.goto 8, 3) := by decide +kernel
theorem dX3_readOperand_66 : decode cX3_readOperand 66 = .ok (.aload_n 0, 1) := by decide +kernel
theorem dX3_readOperand_67 : decode cX3_readOperand 67 = .ok (.iload_n 2, 1) := by decide +kernel
theorem dX3_readOperand_68 : decode cX3_readOperand 68 = .ok (.invokevirtual 76, 3) := by decide +kernel
theorem dX3_readOperand_71 : decode cX3_readOperand 71 = .ok (.return_, 1) := by decide +kernel
theorem dX3_readNumberOrName_0 : decode cX3_readNumberOrName 0 = .ok (.iload_n 1, 1) := by decide +kernel
theorem dX3_readNumberOrName_1 : decode cX3_readNumberOrName 1 = .ok (.iconst (-1), 1) := by decide +kernel
theorem dX3_readNumberOrName_2 : decode cX3_readNumberOrName 2 = .ok (.if_icmp .ne 7, 3) := by decide +kernel
theorem dX3_readNumberOrName_5 : decode cX3_readNumberOrName 5 = .ok (.iconst (-1), 1) := by decide +kernel
theorem dX3_readNumberOrName_6 : decode cX3_readNumberOrName 6 = .ok (.goto 10, 3) := by decide +kernel
theorem dX3_readNumberOrName_9 : decode cX3_readNumberOrName 9 = .ok (.ldc 79, 2) := by decide +kernel
theorem dX3_readNumberOrName_11 : decode cX3_readNumberOrName 11 = .ok (.iload_n 1, 1) := by decide +kernel
theorem dX3_readNumberOrName_12 : decode cX3_readNumberOrName 12 = .ok (.i2c, 1) := by decide +kernel
theorem dX3_readNumberOrName_13 : decode cX3_readNumberOrName 13 = .ok (.invokevirtual 81, 3) := by decide +kernel
theorem dX3_readNumberOrName_16 : decode cX3_readNumberOrName 16 = .ok (.istore_n 2, 1) := by decide +kernel
theorem dX3_readNumberOrName_17 : decode cX3_readNumberOrName 17 = .ok (.iload_n 1, 1) := by decide +kernel
theorem dX3_readNumberOrName_18 : decode cX3_readNumberOrName 18 = .ok (.iconst (-1), 1) := by decide +kernel
theorem dX3_readNumberOrName_19 : decode cX3_readNumberOrName 19 = .ok (.if_icmp .ne 7, 3) := by decide +kernel
theorem dX3_readNumberOrName_22 : decode cX3_readNumberOrName 22 = .ok (.iconst 0, 1) := by decide +kernel
theorem dX3_readNumberOrName_23 : decode cX3_readNumberOrName 23 = .ok (.goto 14, 3) := by decide +kernel
theorem dX3_readNumberOrName_26 : decode cX3_readNumberOrName 26 = .ok (.aload_n 0, 1) := by decide +kernel
theorem dX3_readNumberOrName_27 : decode cX3_readNumberOrName 27 = .ok (.getfield 9, 3) := by decide +kernel
theorem dX3_readNumberOrName_30 : decode cX3_readNumberOrName 30 = .ok (.aload_n 0, 1) := by decide +kernel
theorem dX3_readNumberOrName_31 : decode cX3_readNumberOrName 31 = .ok (.getfield 23, 3) := by decide +kernel
theorem dX3_readNumberOrName_34 : decode cX3_readNumberOrName 34 = .ok (.invokevirtual 86, 3) := by decide +kernel
theorem dX3_readNumberOrName_37 : decode cX3_readNumberOrName 37 = .ok (.istore_n 3, 1) := by decide +kernel
theorem dX3_readNumberOrName_38 : decode cX3_readNumberOrName 38 = .ok (.iload_n 2, 1) := by decide +kernel
theorem dX3_readNumberOrName_39 : decode cX3_readNumberOrName 39 = .ok (.ifCond .lt 23, 3) := by decide +kernel
theorem dX3_readNumberOrName_42 : decode cX3_readNumberOrName 42 = .ok (.aload_n 0, 1) := by decide +kernel
theorem dX3_readNumberOrName_43 : decode cX3_readNumberOrName 43 = .ok (.iconst 1, 1) := by decide +kernel
theorem dX3_readNumberOrName_44 : decode cX3_readNumberOrName 44 = .ok (.iload_n 2, 1) := by decide +kernel
theorem dX3_readNumberOrName_45 : decode cX3_readNumberOrName 45 = .ok (.invokevirtual 56, 3) := by decide +kernel
theorem dX3_readNumberOrName_48 : decode cX3_readNumberOrName 48 = .ok (.pop, 1) := by decide +kernel
theorem dX3_readNumberOrName_49 : decode cX3_readNumberOrName 49 = .ok (.aload_n 0, 1) := by decide +kernel
theorem dX3_readNumberOrName_50 : decode cX3_readNumberOrName 50 = .ok (.dup, 1) := by decide +kernel
theorem dX3_readNumberOrName_51 : decode cX3_readNumberOrName 51 = .ok (.getfield 23, 3) := by decide +kernel
theorem dX3_readNumberOrName_54 : decode cX3_readNumberOrName 54 = .ok (.iconst 1, 1) := by decide +kernel
theorem dX3_readNumberOrName_55 : decode cX3_readNumberOrName 55 = .ok (.iadd, 1) := by decide +kernel
theorem dX3_readNumberOrName_56 : decode cX3_readNumberOrName 56 = .ok (.putfield 23, 3) := by decide +kernel
theorem dX3_readNumberOrName_59 : decode cX3_readNumberOrName 59 = .ok (.goto 42, 3) := by decide +kernel
theorem dX3_readNumberOrName_62 : decode cX3_readNumberOrName 62 = .ok (.iload_n 3, 1) := by decide +kernel
theorem dX3_readNumberOrName_63 : decode cX3_readNumberOrName 63 = .ok (.ifCond .le 34, 3) := by decide +kernel
theorem dX3_readNumberOrName_66 : decode cX3_readNumberOrName 66 = .ok (.aload_n 0, 1) := by decide +kernel
theorem dX3_readNumberOrName_67 : decode cX3_readNumberOrName 67 = .ok (.iconst 0, 1) := by decide +kernel
theorem dX3_readNumberOrName_68 : decode cX3_readNumberOrName 68 = .ok (.aload_n 0, 1) := by decide +kernel
theorem dX3_readNumberOrName_69 : decode cX3_readNumberOrName 69 = .ok (.getfield 9, 3) := by decide +kernel
theorem dX3_readNumberOrName_72 : decode cX3_readNumberOrName 72 = .ok (.aload_n 0, 1) := by decide +kernel
theorem dX3_readNumberOrName_73 : decode cX3_readNumberOrName 73 = .ok (.getfield 23, 3) := by decide +kernel
theorem dX3_readNumberOrName_76 : decode cX3_readNumberOrName 76 = .ok (.iload_n 3, 1) := by decide +kernel
theorem dX3_readNumberOrName_77 : decode cX3_readNumberOrName 77 = .ok (.invokevirtual 89, 3) := by decide +kernel
theorem dX3_readNumberOrName_80 : decode cX3_readNumberOrName 80 = .ok (.invokevirtual 56, 3) := by decide +kernel
theorem dX3_readNumberOrName_83 : decode cX3_readNumberOrName 83 = .ok (.pop, 1) := by decide +kernel
theorem dX3_readNumberOrName_84 : decode cX3_readNumberOrName 84 = .ok (.aload_n 0, 1) := by decide +kernel
theorem dX3_readNumberOrName_85 : decode cX3_readNumberOrName 85 = .ok (.dup, 1) := by decide +kernel
theorem dX3_readNumberOrName_86 : decode cX3_readNumberOrName 86 = .ok (.getfield 23, 3) := by decide +kernel
theorem dX3_readNumberOrName_89 : decode cX3_readNumberOrName 89 = .ok (.iload_n 3, 1) := by decide +kernel
theorem dX3_readNumberOrName_90 : decode cX3_readNumberOrName 90 = .ok (.iadd, 1) := by decide +kernel
theorem dX3_readNumberOrName_91 : decode cX3_readNumberOrName 91 = .ok (.putfield 23, 3) := by decide +kernel
theorem dX3_readNumberOrName_94 : decode cX3_readNumberOrName 94 = .ok (.goto 7, 3) := by decide +kernel
theorem dX3_readNumberOrName_97 : decode cX3_readNumberOrName 97 = .ok (.aload_n 0, 1) := by decide +kernel
theorem dX3_readNumberOrName_98 : decode cX3_readNumberOrName 98 = .ok (.invokevirtual 36, 3) := by decide +kernel
theorem dX3_readNumberOrName_101 : decode cX3_readNumberOrName 101 = .ok (.return_, 1) := by decide +kernel
theorem dX4_init_0 : decode cX4_init 0 = .ok (.aload_n 0, 1) := by decide +kernel
theorem dX4_init_1 : decode cX4_init 1 = .ok (.invokespecial 3, 3) := by decide +kernel
theorem dX4_init_4 : decode cX4_init 4 = .ok (.aload_n 0, 1) := by decide +kernel
theorem dX4_init_5 : decode cX4_init 5 = .ok (.bipush 10, 2) := by decide +kernel
theorem dX4_init_7 : decode cX4_init 7 = .ok (.newarray .int, 2) := by decide +kernel
theorem dX4_init_9 : decode cX4_init 9 = .ok (.putfield 9, 3) := by decide +kernel
theorem dX4_init_12 : decode cX4_init 12 = .ok (.aload_n 0, 1) := by decide +kernel
theorem dX4_init_13 : decode cX4_init 13 = .ok (.bipush 10, 2) := by decide +kernel
theorem dX4_init_15 : decode cX4_init 15 = .ok (.newarray .int, 2) := by decide +kernel
theorem dX4_init_17 : decode cX4_init 17 = .ok (.putfield 15, 3) := by decide +kernel
theorem dX4_init_20 : decode cX4_init 20 = .ok (.aload_n 0, 1) := by decide +kernel
theorem dX4_init_21 : decode cX4_init 21 = .ok (.bipush 10, 2) := by decide +kernel
theorem dX4_init_23 : decode cX4_init 23 = .ok (.newarray .int, 2) := by decide +kernel
theorem dX4_init_25 : decode cX4_init 25 = .ok (.putfield 18, 3) := by decide +kernel
theorem dX4_init_28 : decode cX4_init 28 = .ok (.aload_n 0, 1) := by decide +kernel
theorem dX4_init_29 : decode cX4_init 29 = .ok (.bipush 10, 2) := by decide +kernel
theorem dX4_init_31 : decode cX4_init 31 = .ok (.bipush 120, 2) := by decide +kernel
theorem dX4_init_33 : decode cX4_init 33 = .ok (.multianewarray 21 2, 4) := by decide +kernel
theorem dX4_init_37 : decode cX4_init 37 = .ok (.putfield 23, 3) := by decide +kernel
theorem dX4_init_40 : decode cX4_init 40 = .ok (.aload_n 0, 1) := by decide +kernel
theorem dX4_init_41 : decode cX4_init 41 = .ok (.bipush 120, 2) := by decide +kernel
theorem dX4_init_43 : decode cX4_init 43 = .ok (.newarray .int, 2) := by decide +kernel
theorem dX4_init_45 : decode cX4_init 45 = .ok (.putfield 26, 3) := by decide +kernel
theorem dX4_init_48 : decode cX4_init 48 = .ok (.return_, 1) := by decide +kernel
theorem dX4_add_0 : decode cX4_add 0 = .ok (.aload_n 0, 1) := by decide +kernel
theorem dX4_add_1 : decode cX4_add 1 = .ok (.getfield 29, 3) := by decide +kernel
theorem dX4_add_4 : decode cX4_add 4 = .ok (.bipush 10, 2) := by decide +kernel
theorem dX4_add_6 : decode cX4_add 6 = .ok (.if_icmp .lt 6, 3) := by decide +kernel
theorem dX4_add_9 : decode cX4_add 9 = .ok (.bipush (-3), 2) := by decide +kernel
theorem dX4_add_11 : decode cX4_add 11 = .ok (.ireturn, 1) := by decide +kernel
theorem dX4_add_12 : decode cX4_add 12 = .ok (.aload_n 0, 1) := by decide +kernel
theorem dX4_add_13 : decode cX4_add 13 = .ok (.getfield 9, 3) := by decide +kernel
theorem dX4_add_16 : decode cX4_add 16 = .ok (.aload_n 0, 1) := by decide +kernel
theorem dX4_add_17 : decode cX4_add 17 = .ok (.getfield 29, 3) := by decide +kernel
theorem dX4_add_20 : decode cX4_add 20 = .ok (.iload_n 1, 1) := by decide +kernel
theorem dX4_add_21 : decode cX4_add 21 = .ok (.iastore, 1) := by decide +kernel
theorem dX4_add_22 : decode cX4_add 22 = .ok (.aload_n 0, 1) := by decide +kernel
theorem dX4_add_23 : decode cX4_add 23 = .ok (.getfield 15, 3) := by decide +kernel
theorem dX4_add_26 : decode cX4_add 26 = .ok (.aload_n 0, 1) := by decide +kernel
theorem dX4_add_27 : decode cX4_add 27 = .ok (.getfield 29, 3) := by decide +kernel
theorem dX4_add_30 : decode cX4_add 30 = .ok (.iload_n 2, 1) := by decide +kernel
theorem dX4_add_31 : decode cX4_add 31 = .ok (.iastore, 1) := by decide +kernel
theorem dX4_add_32 : decode cX4_add 32 = .ok (.aload_n 0, 1) := by decide +kernel
theorem dX4_add_33 : decode cX4_add 33 = .ok (.getfield 18, 3) := by decide +kernel
theorem dX4_add_36 : decode cX4_add 36 = .ok (.aload_n 0, 1) := by decide +kernel
theorem dX4_add_37 : decode cX4_add 37 = .ok (.getfield 29, 3) := by decide +kernel
theorem dX4_add_40 : decode cX4_add 40 = .ok (.iload_n 3, 1) := by decide +kernel
theorem dX4_add_41 : decode cX4_add 41 = .ok (.iastore, 1) := by decide +kernel
theorem dX4_add_42 : decode cX4_add 42 = .ok (.aload_n 0, 1) := by decide +kernel
theorem dX4_add_43 : decode cX4_add 43 = .ok (.dup, 1) := by decide +kernel
theorem dX4_add_44 : decode cX4_add 44 = .ok (.getfield 29, 3) := by decide +kernel
theorem dX4_add_47 : decode cX4_add 47 = .ok (.dup_x1, 1) := by decide +kernel
theorem dX4_add_48 : decode cX4_add 48 = .ok (.iconst 1, 1) := by decide +kernel
theorem dX4_add_49 : decode cX4_add 49 = .ok (.iadd, 1) := by decide +kernel
theorem dX4_add_50 : decode cX4_add 50 = .ok (.putfield 29, 3) := by decide +kernel
theorem dX4_add_53 : decode cX4_add 53 = .ok (.ireturn, 1) := by decide +kernel
theorem dX4_inForce_0 : decode cX4_inForce 0 = .ok (.aload_n 0, 1) := by decide +kernel
theorem dX4_inForce_1 : decode cX4_inForce 1 = .ok (.getfield 29, 3) := by decide +kernel
theorem dX4_inForce_4 : decode cX4_inForce 4 = .ok (.iconst 1, 1) := by decide +kernel
theorem dX4_inForce_5 : decode cX4_inForce 5 = .ok (.isub, 1) := by decide +kernel
theorem dX4_inForce_6 : decode cX4_inForce 6 = .ok (.istore_n 3, 1) := by decide +kernel
theorem dX4_inForce_7 : decode cX4_inForce 7 = .ok (.iload_n 3, 1) := by decide +kernel
theorem dX4_inForce_8 : decode cX4_inForce 8 = .ok (.ifCond .lt 31, 3) := by decide +kernel
theorem dX4_inForce_11 : decode cX4_inForce 11 = .ok (.aload_n 0, 1) := by decide +kernel
theorem dX4_inForce_12 : decode cX4_inForce 12 = .ok (.getfield 9, 3) := by decide +kernel
theorem dX4_inForce_15 : decode cX4_inForce 15 = .ok (.iload_n 3, 1) := by decide +kernel
theorem dX4_inForce_16 : decode cX4_inForce 16 = .ok (.iaload, 1) := by decide +kernel
theorem dX4_inForce_17 : decode cX4_inForce 17 = .ok (.iload_n 2, 1) := by decide +kernel
theorem dX4_inForce_18 : decode cX4_inForce 18 = .ok (.if_icmp .gt 15, 3) := by decide +kernel
theorem dX4_inForce_21 : decode cX4_inForce 21 = .ok (.aload_n 0, 1) := by decide +kernel
theorem dX4_inForce_22 : decode cX4_inForce 22 = .ok (.getfield 15, 3) := by decide +kernel
theorem dX4_inForce_25 : decode cX4_inForce 25 = .ok (.iload_n 3, 1) := by decide +kernel
theorem dX4_inForce_26 : decode cX4_inForce 26 = .ok (.iaload, 1) := by decide +kernel
theorem dX4_inForce_27 : decode cX4_inForce 27 = .ok (.iload_n 1, 1) := by decide +kernel
theorem dX4_inForce_28 : decode cX4_inForce 28 = .ok (.if_icmp .gt 5, 3) := by decide +kernel
theorem dX4_inForce_31 : decode cX4_inForce 31 = .ok (.iload_n 3, 1) := by decide +kernel
theorem dX4_inForce_32 : decode cX4_inForce 32 = .ok (.ireturn, 1) := by decide +kernel
theorem dX4_inForce_33 : decode cX4_inForce 33 = .ok (.iinc 3 (-1), 3) := by decide +kernel
theorem dX4_inForce_36 : decode cX4_inForce 36 = .ok (.goto (-29), 3) := by decide +kernel
theorem dX4_inForce_39 : decode cX4_inForce 39 = .ok (.iconst (-1), 1) := by decide +kernel
theorem dX4_inForce_40 : decode cX4_inForce 40 = .ok (.ireturn, 1) := by decide +kernel
theorem dX4_workOut_0 : decode cX4_workOut 0 = .ok (.aload_n 0, 1) := by decide +kernel
theorem dX4_workOut_1 : decode cX4_workOut 1 = .ok (.iconst 0, 1) := by decide +kernel
theorem dX4_workOut_2 : decode cX4_workOut 2 = .ok (.putfield 33, 3) := by decide +kernel
theorem dX4_workOut_5 : decode cX4_workOut 5 = .ok (.iconst 0, 1) := by decide +kernel
theorem dX4_workOut_6 : decode cX4_workOut 6 = .ok (.istore_n 3, 1) := by decide +kernel
theorem dX4_workOut_7 : decode cX4_workOut 7 = .ok (.iload_n 3, 1) := by decide +kernel
theorem dX4_workOut_8 : decode cX4_workOut 8 = .ok (.aload_n 0, 1) := by decide +kernel
theorem dX4_workOut_9 : decode cX4_workOut 9 = .ok (.getfield 18, 3) := by decide +kernel
theorem dX4_workOut_12 : decode cX4_workOut 12 = .ok (.iload_n 1, 1) := by decide +kernel
theorem dX4_workOut_13 : decode cX4_workOut 13 = .ok (.iaload, 1) := by decide +kernel
theorem dX4_workOut_14 : decode cX4_workOut 14 = .ok (.if_icmp .ge 171, 3) := by decide +kernel
theorem dX4_workOut_17 : decode cX4_workOut 17 = .ok (.aload_n 0, 1) := by decide +kernel
theorem dX4_workOut_18 : decode cX4_workOut 18 = .ok (.getfield 23, 3) := by decide +kernel
theorem dX4_workOut_21 : decode cX4_workOut 21 = .ok (.iload_n 1, 1) := by decide +kernel
theorem dX4_workOut_22 : decode cX4_workOut 22 = .ok (.aaload, 1) := by decide +kernel
theorem dX4_workOut_23 : decode cX4_workOut 23 = .ok (.iload_n 3, 1) := by decide +kernel
theorem dX4_workOut_24 : decode cX4_workOut 24 = .ok (.iaload, 1) := by decide +kernel
theorem dX4_workOut_25 : decode cX4_workOut 25 = .ok (.bipush 15, 2) := by decide +kernel
theorem dX4_workOut_27 : decode cX4_workOut 27 = .ok (.iand, 1) := by decide +kernel
theorem dX4_workOut_28 : decode cX4_workOut 28 = .ok (.istore 4, 2) := by decide +kernel
theorem dX4_workOut_30 : decode cX4_workOut 30 = .ok (.aload_n 0, 1) := by decide +kernel
theorem dX4_workOut_31 : decode cX4_workOut 31 = .ok (.getfield 23, 3) := by decide +kernel
theorem dX4_workOut_34 : decode cX4_workOut 34 = .ok (.iload_n 1, 1) := by decide +kernel
theorem dX4_workOut_35 : decode cX4_workOut 35 = .ok (.aaload, 1) := by decide +kernel
theorem dX4_workOut_36 : decode cX4_workOut 36 = .ok (.iload_n 3, 1) := by decide +kernel
theorem dX4_workOut_37 : decode cX4_workOut 37 = .ok (.iaload, 1) := by decide +kernel
theorem dX4_workOut_38 : decode cX4_workOut 38 = .ok (.iconst 4, 1) := by decide +kernel
theorem dX4_workOut_39 : decode cX4_workOut 39 = .ok (.ishr, 1) := by decide +kernel
theorem dX4_workOut_40 : decode cX4_workOut 40 = .ok (.istore 5, 2) := by decide +kernel
theorem dX4_workOut_42 : decode cX4_workOut 42 = .ok (.iload 4, 2) := by decide +kernel
theorem dX4_workOut_44 : decode cX4_workOut 44 = .ok (.tableswitch 114 0 4 #[36, 45, 67, 79, 91], 36) := by decide +kernel
theorem dX4_workOut_80 : decode cX4_workOut 80 = .ok (.aload_n 0, 1) := by decide +kernel
theorem dX4_workOut_81 : decode cX4_workOut 81 = .ok (.iload 5, 2) := by decide +kernel
theorem dX4_workOut_83 : decode cX4_workOut 83 = .ok (.invokevirtual 36, 3) := by decide +kernel
theorem dX4_workOut_86 : decode cX4_workOut 86 = .ok (.goto 93, 3) := by decide +kernel
theorem dX4_workOut_89 : decode cX4_workOut 89 = .ok (.aload_n 0, 1) := by decide +kernel
theorem dX4_workOut_90 : decode cX4_workOut 90 = .ok (.iload 5, 2) := by decide +kernel
theorem dX4_workOut_92 : decode cX4_workOut 92 = .ok (.aload_n 2, 1) := by decide +kernel
theorem dX4_workOut_93 : decode cX4_workOut 93 = .ok (.arraylength, 1) := by decide +kernel
theorem dX4_workOut_94 : decode cX4_workOut 94 = .ok (.if_icmp .ge 10, 3) := by decide +kernel
theorem dX4_workOut_97 : decode cX4_workOut 97 = .ok (.aload_n 2, 1) := by decide +kernel
theorem dX4_workOut_98 : decode cX4_workOut 98 = .ok (.iload 5, 2) := by decide +kernel
theorem dX4_workOut_100 : decode cX4_workOut 100 = .ok (.iaload, 1) := by decide +kernel
theorem dX4_workOut_101 : decode cX4_workOut 101 = .ok (.goto 4, 3) := by decide +kernel
theorem dX4_workOut_104 : decode cX4_workOut 104 = .ok (.iconst 0, 1) := by decide +kernel
theorem dX4_workOut_105 : decode cX4_workOut 105 = .ok (.invokevirtual 36, 3) := by decide +kernel
theorem dX4_workOut_108 : decode cX4_workOut 108 = .ok (.goto 71, 3) := by decide +kernel
theorem dX4_workOut_111 : decode cX4_workOut 111 = .ok (.aload_n 0, 1) := by decide +kernel
theorem dX4_workOut_112 : decode cX4_workOut 112 = .ok (.aload_n 0, 1) := by decide +kernel
theorem dX4_workOut_113 : decode cX4_workOut 113 = .ok (.invokevirtual 40, 3) := by decide +kernel
theorem dX4_workOut_116 : decode cX4_workOut 116 = .ok (.ineg, 1) := by decide +kernel
theorem dX4_workOut_117 : decode cX4_workOut 117 = .ok (.invokevirtual 36, 3) := by decide +kernel
theorem dX4_workOut_120 : decode cX4_workOut 120 = .ok (.goto 59, 3) := by decide +kernel
theorem dX4_workOut_123 : decode cX4_workOut 123 = .ok (.iload_n 3, 1) := by decide +kernel
theorem dX4_workOut_124 : decode cX4_workOut 124 = .ok (.iload 5, 2) := by decide +kernel
theorem dX4_workOut_126 : decode cX4_workOut 126 = .ok (.iconst 1, 1) := by decide +kernel
theorem dX4_workOut_127 : decode cX4_workOut 127 = .ok (.isub, 1) := by decide +kernel
theorem dX4_workOut_128 : decode cX4_workOut 128 = .ok (.invokestatic 44, 3) := by decide +kernel
theorem dX4_workOut_131 : decode cX4_workOut 131 = .ok (.istore_n 3, 1) := by decide +kernel
theorem dX4_workOut_132 : decode cX4_workOut 132 = .ok (.goto 47, 3) := by decide +kernel
theorem dX4_workOut_135 : decode cX4_workOut 135 = .ok (.aload_n 0, 1) := by decide +kernel
theorem dX4_workOut_136 : decode cX4_workOut 136 = .ok (.invokevirtual 40, 3) := by decide +kernel
theorem dX4_workOut_139 : decode cX4_workOut 139 = .ok (.ifCond .ne 14, 3) := by decide +kernel
theorem dX4_workOut_142 : decode cX4_workOut 142 = .ok (.iload_n 3, 1) := by decide +kernel
theorem dX4_workOut_143 : decode cX4_workOut 143 = .ok (.iload 5, 2) := by decide +kernel
theorem dX4_workOut_145 : decode cX4_workOut 145 = .ok (.iconst 1, 1) := by decide +kernel
theorem dX4_workOut_146 : decode cX4_workOut 146 = .ok (.isub, 1) := by decide +kernel
theorem dX4_workOut_147 : decode cX4_workOut 147 = .ok (.invokestatic 44, 3) := by decide +kernel
theorem dX4_workOut_150 : decode cX4_workOut 150 = .ok (.goto 4, 3) := by decide +kernel
theorem dX4_workOut_153 : decode cX4_workOut 153 = .ok (.iload_n 3, 1) := by decide +kernel
theorem dX4_workOut_154 : decode cX4_workOut 154 = .ok (.istore_n 3, 1) := by decide +kernel
theorem dX4_workOut_155 : decode cX4_workOut 155 = .ok (.goto 24, 3) := by decide +kernel
theorem dX4_workOut_158 : decode cX4_workOut 158 = .ok (.aload_n 0, 1) := by decide +kernel
theorem dX4_workOut_159 : decode cX4_workOut 159 = .ok (.invokevirtual 40, 3) := by decide +kernel
theorem dX4_workOut_162 : decode cX4_workOut 162 = .ok (.istore 6, 2) := by decide +kernel
theorem dX4_workOut_164 : decode cX4_workOut 164 = .ok (.aload_n 0, 1) := by decide +kernel
