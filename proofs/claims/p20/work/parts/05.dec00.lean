theorem dX0_isSigned_0 : decode cX0_isSigned 0 = .ok (.aload_n 0, 1) := by decide +kernel
theorem dX0_isSigned_1 : decode cX0_isSigned 1 = .ok (.getfield 9, 3) := by decide +kernel
theorem dX0_isSigned_4 : decode cX0_isSigned 4 = .ok (.iload_n 1, 1) := by decide +kernel
theorem dX0_isSigned_5 : decode cX0_isSigned 5 = .ok (.iaload, 1) := by decide +kernel
theorem dX0_isSigned_6 : decode cX0_isSigned 6 = .ok (.ifCond .le 7, 3) := by decide +kernel
theorem dX0_isSigned_9 : decode cX0_isSigned 9 = .ok (.iconst 1, 1) := by decide +kernel
theorem dX0_isSigned_10 : decode cX0_isSigned 10 = .ok (.goto 4, 3) := by decide +kernel
theorem dX0_isSigned_13 : decode cX0_isSigned 13 = .ok (.iconst 0, 1) := by decide +kernel
theorem dX0_isSigned_14 : decode cX0_isSigned 14 = .ok (.ireturn, 1) := by decide +kernel
theorem dX0_hasLine_0 : decode cX0_hasLine 0 = .ok (.iload_n 2, 1) := by decide +kernel
theorem dX0_hasLine_1 : decode cX0_hasLine 1 = .ok (.ifCond .lt 17, 3) := by decide +kernel
theorem dX0_hasLine_4 : decode cX0_hasLine 4 = .ok (.iload_n 2, 1) := by decide +kernel
theorem dX0_hasLine_5 : decode cX0_hasLine 5 = .ok (.aload_n 0, 1) := by decide +kernel
theorem dX0_hasLine_6 : decode cX0_hasLine 6 = .ok (.getfield 9, 3) := by decide +kernel
theorem dX0_hasLine_9 : decode cX0_hasLine 9 = .ok (.iload_n 1, 1) := by decide +kernel
theorem dX0_hasLine_10 : decode cX0_hasLine 10 = .ok (.iaload, 1) := by decide +kernel
theorem dX0_hasLine_11 : decode cX0_hasLine 11 = .ok (.if_icmp .ge 7, 3) := by decide +kernel
theorem dX0_hasLine_14 : decode cX0_hasLine 14 = .ok (.iconst 1, 1) := by decide +kernel
theorem dX0_hasLine_15 : decode cX0_hasLine 15 = .ok (.goto 4, 3) := by decide +kernel
theorem dX0_hasLine_18 : decode cX0_hasLine 18 = .ok (.iconst 0, 1) := by decide +kernel
theorem dX0_hasLine_19 : decode cX0_hasLine 19 = .ok (.ireturn, 1) := by decide +kernel
theorem dX0_letterOf_0 : decode cX0_letterOf 0 = .ok (.aload_n 0, 1) := by decide +kernel
theorem dX0_letterOf_1 : decode cX0_letterOf 1 = .ok (.getfield 23, 3) := by decide +kernel
theorem dX0_letterOf_4 : decode cX0_letterOf 4 = .ok (.iload_n 1, 1) := by decide +kernel
theorem dX0_letterOf_5 : decode cX0_letterOf 5 = .ok (.aaload, 1) := by decide +kernel
theorem dX0_letterOf_6 : decode cX0_letterOf 6 = .ok (.iload_n 2, 1) := by decide +kernel
theorem dX0_letterOf_7 : decode cX0_letterOf 7 = .ok (.iconst 4, 1) := by decide +kernel
theorem dX0_letterOf_8 : decode cX0_letterOf 8 = .ok (.imul, 1) := by decide +kernel
theorem dX0_letterOf_9 : decode cX0_letterOf 9 = .ok (.iaload, 1) := by decide +kernel
theorem dX0_letterOf_10 : decode cX0_letterOf 10 = .ok (.ireturn, 1) := by decide +kernel
theorem dX0_numberOf_0 : decode cX0_numberOf 0 = .ok (.aload_n 0, 1) := by decide +kernel
theorem dX0_numberOf_1 : decode cX0_numberOf 1 = .ok (.getfield 23, 3) := by decide +kernel
theorem dX0_numberOf_4 : decode cX0_numberOf 4 = .ok (.iload_n 1, 1) := by decide +kernel
theorem dX0_numberOf_5 : decode cX0_numberOf 5 = .ok (.aaload, 1) := by decide +kernel
theorem dX0_numberOf_6 : decode cX0_numberOf 6 = .ok (.iload_n 2, 1) := by decide +kernel
theorem dX0_numberOf_7 : decode cX0_numberOf 7 = .ok (.iconst 4, 1) := by decide +kernel
theorem dX0_numberOf_8 : decode cX0_numberOf 8 = .ok (.imul, 1) := by decide +kernel
theorem dX0_numberOf_9 : decode cX0_numberOf 9 = .ok (.iload_n 3, 1) := by decide +kernel
theorem dX0_numberOf_10 : decode cX0_numberOf 10 = .ok (.iadd, 1) := by decide +kernel
theorem dX0_numberOf_11 : decode cX0_numberOf 11 = .ok (.iaload, 1) := by decide +kernel
theorem dX0_numberOf_12 : decode cX0_numberOf 12 = .ok (.ireturn, 1) := by decide +kernel
theorem dX0_sign_0 : decode cX0_sign 0 = .ok (.aload_n 0, 1) := by decide +kernel
theorem dX0_sign_1 : decode cX0_sign 1 = .ok (.getfield 26, 3) := by decide +kernel
theorem dX0_sign_4 : decode cX0_sign 4 = .ok (.iconst 0, 1) := by decide +kernel
theorem dX0_sign_5 : decode cX0_sign 5 = .ok (.aload_n 0, 1) := by decide +kernel
theorem dX0_sign_6 : decode cX0_sign 6 = .ok (.getfield 23, 3) := by decide +kernel
theorem dX0_sign_9 : decode cX0_sign 9 = .ok (.iload_n 1, 1) := by decide +kernel
theorem dX0_sign_10 : decode cX0_sign 10 = .ok (.aaload, 1) := by decide +kernel
theorem dX0_sign_11 : decode cX0_sign 11 = .ok (.iconst 0, 1) := by decide +kernel
theorem dX0_sign_12 : decode cX0_sign 12 = .ok (.aload_n 0, 1) := by decide +kernel
theorem dX0_sign_13 : decode cX0_sign 13 = .ok (.getfield 33, 3) := by decide +kernel
theorem dX0_sign_16 : decode cX0_sign 16 = .ok (.iconst 4, 1) := by decide +kernel
theorem dX0_sign_17 : decode cX0_sign 17 = .ok (.imul, 1) := by decide +kernel
theorem dX0_sign_18 : decode cX0_sign 18 = .ok (.invokestatic 37, 3) := by decide +kernel
theorem dX0_sign_21 : decode cX0_sign 21 = .ok (.aload_n 0, 1) := by decide +kernel
theorem dX0_sign_22 : decode cX0_sign 22 = .ok (.getfield 9, 3) := by decide +kernel
theorem dX0_sign_25 : decode cX0_sign 25 = .ok (.iload_n 1, 1) := by decide +kernel
theorem dX0_sign_26 : decode cX0_sign 26 = .ok (.aload_n 0, 1) := by decide +kernel
theorem dX0_sign_27 : decode cX0_sign 27 = .ok (.getfield 33, 3) := by decide +kernel
theorem dX0_sign_30 : decode cX0_sign 30 = .ok (.iastore, 1) := by decide +kernel
theorem dX0_sign_31 : decode cX0_sign 31 = .ok (.aload_n 0, 1) := by decide +kernel
theorem dX0_sign_32 : decode cX0_sign 32 = .ok (.getfield 15, 3) := by decide +kernel
theorem dX0_sign_35 : decode cX0_sign 35 = .ok (.iload_n 1, 1) := by decide +kernel
theorem dX0_sign_36 : decode cX0_sign 36 = .ok (.iload_n 2, 1) := by decide +kernel
theorem dX0_sign_37 : decode cX0_sign 37 = .ok (.iastore, 1) := by decide +kernel
theorem dX0_sign_38 : decode cX0_sign 38 = .ok (.aload_n 0, 1) := by decide +kernel
theorem dX0_sign_39 : decode cX0_sign 39 = .ok (.getfield 18, 3) := by decide +kernel
theorem dX0_sign_42 : decode cX0_sign 42 = .ok (.iload_n 1, 1) := by decide +kernel
theorem dX0_sign_43 : decode cX0_sign 43 = .ok (.iload_n 3, 1) := by decide +kernel
theorem dX0_sign_44 : decode cX0_sign 44 = .ok (.iastore, 1) := by decide +kernel
theorem dX0_sign_45 : decode cX0_sign 45 = .ok (.aload_n 0, 1) := by decide +kernel
theorem dX0_sign_46 : decode cX0_sign 46 = .ok (.getfield 33, 3) := by decide +kernel
theorem dX0_sign_49 : decode cX0_sign 49 = .ok (.ireturn, 1) := by decide +kernel
theorem dX0_read_0 : decode cX0_read 0 = .ok (.aload_n 0, 1) := by decide +kernel
theorem dX0_read_1 : decode cX0_read 1 = .ok (.iconst 0, 1) := by decide +kernel
theorem dX0_read_2 : decode cX0_read 2 = .ok (.putfield 33, 3) := by decide +kernel
theorem dX0_read_5 : decode cX0_read 5 = .ok (.aload_n 0, 1) := by decide +kernel
theorem dX0_read_6 : decode cX0_read 6 = .ok (.iconst 0, 1) := by decide +kernel
theorem dX0_read_7 : decode cX0_read 7 = .ok (.putfield 43, 3) := by decide +kernel
theorem dX0_read_10 : decode cX0_read 10 = .ok (.aload_n 0, 1) := by decide +kernel
theorem dX0_read_11 : decode cX0_read 11 = .ok (.iconst (-1), 1) := by decide +kernel
theorem dX0_read_12 : decode cX0_read 12 = .ok (.putfield 46, 3) := by decide +kernel
theorem dX0_read_15 : decode cX0_read 15 = .ok (.aload_n 0, 1) := by decide +kernel
theorem dX0_read_16 : decode cX0_read 16 = .ok (.invokevirtual 49, 3) := by decide +kernel
theorem dX0_read_19 : decode cX0_read 19 = .ok (.aload_n 0, 1) := by decide +kernel
theorem dX0_read_20 : decode cX0_read 20 = .ok (.dup, 1) := by decide +kernel
theorem dX0_read_21 : decode cX0_read 21 = .ok (.getfield 33, 3) := by decide +kernel
theorem dX0_read_24 : decode cX0_read 24 = .ok (.iconst 1, 1) := by decide +kernel
theorem dX0_read_25 : decode cX0_read 25 = .ok (.iadd, 1) := by decide +kernel
theorem dX0_read_26 : decode cX0_read 26 = .ok (.putfield 33, 3) := by decide +kernel
theorem dX0_read_29 : decode cX0_read 29 = .ok (.aload_n 0, 1) := by decide +kernel
theorem dX0_read_30 : decode cX0_read 30 = .ok (.getfield 33, 3) := by decide +kernel
theorem dX0_read_33 : decode cX0_read 33 = .ok (.bipush 30, 2) := by decide +kernel
theorem dX0_read_35 : decode cX0_read 35 = .ok (.if_icmp .ge 25, 3) := by decide +kernel
theorem dX0_read_38 : decode cX0_read 38 = .ok (.aload_n 0, 1) := by decide +kernel
theorem dX0_read_39 : decode cX0_read 39 = .ok (.getfield 46, 3) := by decide +kernel
theorem dX0_read_42 : decode cX0_read 42 = .ok (.iconst (-1), 1) := by decide +kernel
theorem dX0_read_43 : decode cX0_read 43 = .ok (.if_icmp .ne 17, 3) := by decide +kernel
theorem dX0_read_46 : decode cX0_read 46 = .ok (.aload_n 0, 1) := by decide +kernel
theorem dX0_read_47 : decode cX0_read 47 = .ok (.getfield 43, 3) := by decide +kernel
theorem dX0_read_50 : decode cX0_read 50 = .ok (.aload_n 0, 1) := by decide +kernel
theorem dX0_read_51 : decode cX0_read 51 = .ok (.getfield 29, 3) := by decide +kernel
theorem dX0_read_54 : decode cX0_read 54 = .ok (.getfield 52, 3) := by decide +kernel
theorem dX0_read_57 : decode cX0_read 57 = .ok (.if_icmp .lt (-42), 3) := by decide +kernel
theorem dX0_read_60 : decode cX0_read 60 = .ok (.aload_n 0, 1) := by decide +kernel
theorem dX0_read_61 : decode cX0_read 61 = .ok (.getfield 46, 3) := by decide +kernel
theorem dX0_read_64 : decode cX0_read 64 = .ok (.ireturn, 1) := by decide +kernel
theorem dX0_readLine_0 : decode cX0_readLine 0 = .ok (.aload_n 0, 1) := by decide +kernel
theorem dX0_readLine_1 : decode cX0_readLine 1 = .ok (.getfield 29, 3) := by decide +kernel
theorem dX0_readLine_4 : decode cX0_readLine 4 = .ok (.aload_n 0, 1) := by decide +kernel
theorem dX0_readLine_5 : decode cX0_readLine 5 = .ok (.getfield 43, 3) := by decide +kernel
theorem dX0_readLine_8 : decode cX0_readLine 8 = .ok (.invokevirtual 57, 3) := by decide +kernel
theorem dX0_readLine_11 : decode cX0_readLine 11 = .ok (.istore_n 1, 1) := by decide +kernel
theorem dX0_readLine_12 : decode cX0_readLine 12 = .ok (.iload_n 1, 1) := by decide +kernel
theorem dX0_readLine_13 : decode cX0_readLine 13 = .ok (.invokestatic 61, 3) := by decide +kernel
theorem dX0_readLine_16 : decode cX0_readLine 16 = .ok (.istore_n 2, 1) := by decide +kernel
theorem dX0_readLine_17 : decode cX0_readLine 17 = .ok (.iload_n 2, 1) := by decide +kernel
theorem dX0_readLine_18 : decode cX0_readLine 18 = .ok (.ifCond .ne 12, 3) := by decide +kernel
theorem dX0_readLine_21 : decode cX0_readLine 21 = .ok (.aload_n 0, 1) := by decide +kernel
theorem dX0_readLine_22 : decode cX0_readLine 22 = .ok (.aload_n 0, 1) := by decide +kernel
theorem dX0_readLine_23 : decode cX0_readLine 23 = .ok (.getfield 43, 3) := by decide +kernel
theorem dX0_readLine_26 : decode cX0_readLine 26 = .ok (.putfield 46, 3) := by decide +kernel
theorem dX0_readLine_29 : decode cX0_readLine 29 = .ok (.return_, 1) := by decide +kernel
theorem dX0_readLine_30 : decode cX0_readLine 30 = .ok (.aload_n 0, 1) := by decide +kernel
theorem dX0_readLine_31 : decode cX0_readLine 31 = .ok (.dup, 1) := by decide +kernel
theorem dX0_readLine_32 : decode cX0_readLine 32 = .ok (.getfield 43, 3) := by decide +kernel
theorem dX0_readLine_35 : decode cX0_readLine 35 = .ok (.iconst 1, 1) := by decide +kernel
theorem dX0_readLine_36 : decode cX0_readLine 36 = .ok (.iadd, 1) := by decide +kernel
theorem dX0_readLine_37 : decode cX0_readLine 37 = .ok (.putfield 43, 3) := by decide +kernel
theorem dX0_readLine_40 : decode cX0_readLine 40 = .ok (.aload_n 0, 1) := by decide +kernel
theorem dX0_readLine_41 : decode cX0_readLine 41 = .ok (.getfield 26, 3) := by decide +kernel
theorem dX0_readLine_44 : decode cX0_readLine 44 = .ok (.aload_n 0, 1) := by decide +kernel
theorem dX0_readLine_45 : decode cX0_readLine 45 = .ok (.getfield 33, 3) := by decide +kernel
theorem dX0_readLine_48 : decode cX0_readLine 48 = .ok (.iconst 4, 1) := by decide +kernel
theorem dX0_readLine_49 : decode cX0_readLine 49 = .ok (.imul, 1) := by decide +kernel
theorem dX0_readLine_50 : decode cX0_readLine 50 = .ok (.iload_n 1, 1) := by decide +kernel
theorem dX0_readLine_51 : decode cX0_readLine 51 = .ok (.iastore, 1) := by decide +kernel
theorem dX0_readLine_52 : decode cX0_readLine 52 = .ok (.iconst 1, 1) := by decide +kernel
theorem dX0_readLine_53 : decode cX0_readLine 53 = .ok (.istore_n 3, 1) := by decide +kernel
theorem dX0_readLine_54 : decode cX0_readLine 54 = .ok (.iload_n 3, 1) := by decide +kernel
theorem dX0_readLine_55 : decode cX0_readLine 55 = .ok (.iload_n 2, 1) := by decide +kernel
theorem dX0_readLine_56 : decode cX0_readLine 56 = .ok (.if_icmp .gt 35, 3) := by decide +kernel
theorem dX0_readLine_59 : decode cX0_readLine 59 = .ok (.aload_n 0, 1) := by decide +kernel
theorem dX0_readLine_60 : decode cX0_readLine 60 = .ok (.getfield 46, 3) := by decide +kernel
theorem dX0_readLine_63 : decode cX0_readLine 63 = .ok (.iconst (-1), 1) := by decide +kernel
theorem dX0_readLine_64 : decode cX0_readLine 64 = .ok (.if_icmp .ne 27, 3) := by decide +kernel
theorem dX0_readLine_67 : decode cX0_readLine 67 = .ok (.aload_n 0, 1) := by decide +kernel
theorem dX0_readLine_68 : decode cX0_readLine 68 = .ok (.bipush 32, 2) := by decide +kernel
theorem dX0_readLine_70 : decode cX0_readLine 70 = .ok (.invokevirtual 64, 3) := by decide +kernel
theorem dX0_readLine_73 : decode cX0_readLine 73 = .ok (.aload_n 0, 1) := by decide +kernel
theorem dX0_readLine_74 : decode cX0_readLine 74 = .ok (.aload_n 0, 1) := by decide +kernel
theorem dX0_readLine_75 : decode cX0_readLine 75 = .ok (.getfield 33, 3) := by decide +kernel
theorem dX0_readLine_78 : decode cX0_readLine 78 = .ok (.iconst 4, 1) := by decide +kernel
theorem dX0_readLine_79 : decode cX0_readLine 79 = .ok (.imul, 1) := by decide +kernel
theorem dX0_readLine_80 : decode cX0_readLine 80 = .ok (.iload_n 3, 1) := by decide +kernel
theorem dX0_readLine_81 : decode cX0_readLine 81 = .ok (.iadd, 1) := by decide +kernel
theorem dX0_readLine_82 : decode cX0_readLine 82 = .ok (.invokevirtual 68, 3) := by decide +kernel
theorem dX0_readLine_85 : decode cX0_readLine 85 = .ok (.iinc 3 1, 3) := by decide +kernel
theorem dX0_readLine_88 : decode cX0_readLine 88 = .ok (.goto (-34), 3) := by decide +kernel
theorem dX0_readLine_91 : decode cX0_readLine 91 = .ok (.aload_n 0, 1) := by decide +kernel
theorem dX0_readLine_92 : decode cX0_readLine 92 = .ok (.bipush 59, 2) := by decide +kernel
theorem dX0_readLine_94 : decode cX0_readLine 94 = .ok (.invokevirtual 64, 3) := by decide +kernel
theorem dX0_readLine_97 : decode cX0_readLine 97 = .ok (.return_, 1) := by decide +kernel
theorem dX0_numbersBehind_0 : decode cX0_numbersBehind 0 = .ok (.iload_n 0, 1) := by decide +kernel
theorem dX0_numbersBehind_1 : decode cX0_numbersBehind 1 = .ok (.tableswitch 89 100 116 #[83, 89, 89, 87, 83, 89, 89, 89, 83, 87, 89, 87, 89, 89, 89, 89, 85], 83) := by decide +kernel
theorem dX0_numbersBehind_84 : decode cX0_numbersBehind 84 = .ok (.iconst 3, 1) := by decide +kernel
theorem dX0_numbersBehind_85 : decode cX0_numbersBehind 85 = .ok (.ireturn, 1) := by decide +kernel
theorem dX0_numbersBehind_86 : decode cX0_numbersBehind 86 = .ok (.iconst 2, 1) := by decide +kernel
theorem dX0_numbersBehind_87 : decode cX0_numbersBehind 87 = .ok (.ireturn, 1) := by decide +kernel
theorem dX0_numbersBehind_88 : decode cX0_numbersBehind 88 = .ok (.iconst 1, 1) := by decide +kernel
theorem dX0_numbersBehind_89 : decode cX0_numbersBehind 89 = .ok (.ireturn, 1) := by decide +kernel
theorem dX0_numbersBehind_90 : decode cX0_numbersBehind 90 = .ok (.iconst 0, 1) := by decide +kernel
theorem dX0_numbersBehind_91 : decode cX0_numbersBehind 91 = .ok (.ireturn, 1) := by decide +kernel
theorem dX0_take_0 : decode cX0_take 0 = .ok (.aload_n 0, 1) := by decide +kernel
theorem dX0_take_1 : decode cX0_take 1 = .ok (.getfield 46, 3) := by decide +kernel
theorem dX0_take_4 : decode cX0_take 4 = .ok (.iconst (-1), 1) := by decide +kernel
theorem dX0_take_5 : decode cX0_take 5 = .ok (.if_icmp .eq 4, 3) := by decide +kernel
theorem dX0_take_8 : decode cX0_take 8 = .ok (.return_, 1) := by decide +kernel
theorem dX0_take_9 : decode cX0_take 9 = .ok (.aload_n 0, 1) := by decide +kernel
theorem dX0_take_10 : decode cX0_take 10 = .ok (.getfield 29, 3) := by decide +kernel
theorem dX0_take_13 : decode cX0_take 13 = .ok (.aload_n 0, 1) := by decide +kernel
theorem dX0_take_14 : decode cX0_take 14 = .ok (.getfield 43, 3) := by decide +kernel
theorem dX0_take_17 : decode cX0_take 17 = .ok (.invokevirtual 57, 3) := by decide +kernel
theorem dX0_take_20 : decode cX0_take 20 = .ok (.iload_n 1, 1) := by decide +kernel
theorem dX0_take_21 : decode cX0_take 21 = .ok (.if_icmp .ne 16, 3) := by decide +kernel
theorem dX0_take_24 : decode cX0_take 24 = .ok (.aload_n 0, 1) := by decide +kernel
theorem dX0_take_25 : decode cX0_take 25 = .ok (.dup, 1) := by decide +kernel
theorem dX0_take_26 : decode cX0_take 26 = .ok (.getfield 43, 3) := by decide +kernel
theorem dX0_take_29 : decode cX0_take 29 = .ok (.iconst 1, 1) := by decide +kernel
theorem dX0_take_30 : decode cX0_take 30 = .ok (.iadd, 1) := by decide +kernel
theorem dX0_take_31 : decode cX0_take 31 = .ok (.putfield 43, 3) := by decide +kernel
theorem dX0_take_34 : decode cX0_take 34 = .ok (.goto 11, 3) := by decide +kernel
theorem dX0_take_37 : decode cX0_take 37 = .ok (.aload_n 0, 1) := by decide +kernel
theorem dX0_take_38 : decode cX0_take 38 = .ok (.aload_n 0, 1) := by decide +kernel
theorem dX0_take_39 : decode cX0_take 39 = .ok (.getfield 43, 3) := by decide +kernel
theorem dX0_take_42 : decode cX0_take 42 = .ok (.putfield 46, 3) := by decide +kernel
theorem dX0_take_45 : decode cX0_take 45 = .ok (.return_, 1) := by decide +kernel
theorem dX0_readNumber_0 : decode cX0_readNumber 0 = .ok (.aload_n 0, 1) := by decide +kernel
theorem dX0_readNumber_1 : decode cX0_readNumber 1 = .ok (.getfield 46, 3) := by decide +kernel
theorem dX0_readNumber_4 : decode cX0_readNumber 4 = .ok (.iconst (-1), 1) := by decide +kernel
theorem dX0_readNumber_5 : decode cX0_readNumber 5 = .ok (.if_icmp .eq 4, 3) := by decide +kernel
theorem dX0_readNumber_8 : decode cX0_readNumber 8 = .ok (.return_, 1) := by decide +kernel
theorem dX0_readNumber_9 : decode cX0_readNumber 9 = .ok (.aload_n 0, 1) := by decide +kernel
theorem dX0_readNumber_10 : decode cX0_readNumber 10 = .ok (.getfield 29, 3) := by decide +kernel
theorem dX0_readNumber_13 : decode cX0_readNumber 13 = .ok (.aload_n 0, 1) := by decide +kernel
theorem dX0_readNumber_14 : decode cX0_readNumber 14 = .ok (.getfield 43, 3) := by decide +kernel
theorem dX0_readNumber_17 : decode cX0_readNumber 17 = .ok (.invokevirtual 72, 3) := by decide +kernel
theorem dX0_readNumber_20 : decode cX0_readNumber 20 = .ok (.istore_n 2, 1) := by decide +kernel
theorem dX0_readNumber_21 : decode cX0_readNumber 21 = .ok (.iload_n 2, 1) := by decide +kernel
theorem dX0_readNumber_22 : decode cX0_readNumber 22 = .ok (.ifCond .ne 12, 3) := by decide +kernel
theorem dX0_readNumber_25 : decode cX0_readNumber 25 = .ok (.aload_n 0, 1) := by decide +kernel
theorem dX0_readNumber_26 : decode cX0_readNumber 26 = .ok (.aload_n 0, 1) := by decide +kernel
theorem dX0_readNumber_27 : decode cX0_readNumber 27 = .ok (.getfield 43, 3) := by decide +kernel
theorem dX0_readNumber_30 : decode cX0_readNumber 30 = .ok (.putfield 46, 3) := by decide +kernel
theorem dX0_readNumber_33 : decode cX0_readNumber 33 = .ok (.return_, 1) := by decide +kernel
theorem dX0_readNumber_34 : decode cX0_readNumber 34 = .ok (.aload_n 0, 1) := by decide +kernel
theorem dX0_readNumber_35 : decode cX0_readNumber 35 = .ok (.getfield 26, 3) := by decide +kernel
theorem dX0_readNumber_38 : decode cX0_readNumber 38 = .ok (.iload_n 1, 1) := by decide +kernel
theorem dX0_readNumber_39 : decode cX0_readNumber 39 = .ok (.aload_n 0, 1) := by decide +kernel
theorem dX0_readNumber_40 : decode cX0_readNumber 40 = .ok (.getfield 29, 3) := by decide +kernel
theorem dX0_readNumber_43 : decode cX0_readNumber 43 = .ok (.aload_n 0, 1) := by decide +kernel
theorem dX0_readNumber_44 : decode cX0_readNumber 44 = .ok (.getfield 43, 3) := by decide +kernel
theorem dX0_readNumber_47 : decode cX0_readNumber 47 = .ok (.iload_n 2, 1) := by decide +kernel
theorem dX0_readNumber_48 : decode cX0_readNumber 48 = .ok (.invokevirtual 75, 3) := by decide +kernel
theorem dX0_readNumber_51 : decode cX0_readNumber 51 = .ok (.iastore, 1) := by decide +kernel
theorem dX0_readNumber_52 : decode cX0_readNumber 52 = .ok (.aload_n 0, 1) := by decide +kernel
theorem dX0_readNumber_53 : decode cX0_readNumber 53 = .ok (.dup, 1) := by decide +kernel
theorem dX0_readNumber_54 : decode cX0_readNumber 54 = .ok (.getfield 43, 3) := by decide +kernel
theorem dX0_readNumber_57 : decode cX0_readNumber 57 = .ok (.iload_n 2, 1) := by decide +kernel
theorem dX0_readNumber_58 : decode cX0_readNumber 58 = .ok (.iadd, 1) := by decide +kernel
theorem dX0_readNumber_59 : decode cX0_readNumber 59 = .ok (.putfield 43, 3) := by decide +kernel
theorem dX0_readNumber_62 : decode cX0_readNumber 62 = .ok (.return_, 1) := by decide +kernel
theorem dX2_has_0 : decode cX2_has 0 = .ok (.iload_n 1, 1) := by decide +kernel
theorem dX2_has_1 : decode cX2_has 1 = .ok (.ifCond .lt 15, 3) := by decide +kernel
theorem dX2_has_4 : decode cX2_has 4 = .ok (.iload_n 1, 1) := by decide +kernel
theorem dX2_has_5 : decode cX2_has 5 = .ok (.aload_n 0, 1) := by decide +kernel
theorem dX2_has_6 : decode cX2_has 6 = .ok (.getfield 21, 3) := by decide +kernel
theorem dX2_has_9 : decode cX2_has 9 = .ok (.if_icmp .ge 7, 3) := by decide +kernel
theorem dX2_has_12 : decode cX2_has 12 = .ok (.iconst 1, 1) := by decide +kernel
theorem dX2_has_13 : decode cX2_has 13 = .ok (.goto 4, 3) := by decide +kernel
theorem dX2_has_16 : decode cX2_has 16 = .ok (.iconst 0, 1) := by decide +kernel
theorem dX2_has_17 : decode cX2_has 17 = .ok (.ireturn, 1) := by decide +kernel
theorem dX2_add_0 : decode cX2_add 0 = .ok (.aload_n 0, 1) := by decide +kernel
theorem dX2_add_1 : decode cX2_add 1 = .ok (.getfield 21, 3) := by decide +kernel
theorem dX2_add_4 : decode cX2_add 4 = .ok (.bipush 10, 2) := by decide +kernel
theorem dX2_add_6 : decode cX2_add 6 = .ok (.if_icmp .lt 6, 3) := by decide +kernel
theorem dX2_add_9 : decode cX2_add 9 = .ok (.bipush (-3), 2) := by decide +kernel
theorem dX2_add_11 : decode cX2_add 11 = .ok (.ireturn, 1) := by decide +kernel
theorem dX2_add_12 : decode cX2_add 12 = .ok (.aload_n 0, 1) := by decide +kernel
theorem dX2_add_13 : decode cX2_add 13 = .ok (.getfield 9, 3) := by decide +kernel
theorem dX2_add_16 : decode cX2_add 16 = .ok (.aload_n 0, 1) := by decide +kernel
theorem dX2_add_17 : decode cX2_add 17 = .ok (.getfield 21, 3) := by decide +kernel
theorem dX2_add_20 : decode cX2_add 20 = .ok (.iconst 3, 1) := by decide +kernel
theorem dX2_add_21 : decode cX2_add 21 = .ok (.imul, 1) := by decide +kernel
theorem dX2_add_22 : decode cX2_add 22 = .ok (.iconst 0, 1) := by decide +kernel
theorem dX2_add_23 : decode cX2_add 23 = .ok (.iadd, 1) := by decide +kernel
theorem dX2_add_24 : decode cX2_add 24 = .ok (.iload_n 1, 1) := by decide +kernel
theorem dX2_add_25 : decode cX2_add 25 = .ok (.iastore, 1) := by decide +kernel
theorem dX2_add_26 : decode cX2_add 26 = .ok (.aload_n 0, 1) := by decide +kernel
theorem dX2_add_27 : decode cX2_add 27 = .ok (.getfield 9, 3) := by decide +kernel
theorem dX2_add_30 : decode cX2_add 30 = .ok (.aload_n 0, 1) := by decide +kernel
theorem dX2_add_31 : decode cX2_add 31 = .ok (.getfield 21, 3) := by decide +kernel
theorem dX2_add_34 : decode cX2_add 34 = .ok (.iconst 3, 1) := by decide +kernel
theorem dX2_add_35 : decode cX2_add 35 = .ok (.imul, 1) := by decide +kernel
theorem dX2_add_36 : decode cX2_add 36 = .ok (.iconst 1, 1) := by decide +kernel
theorem dX2_add_37 : decode cX2_add 37 = .ok (.iadd, 1) := by decide +kernel
theorem dX2_add_38 : decode cX2_add 38 = .ok (.iload_n 2, 1) := by decide +kernel
theorem dX2_add_39 : decode cX2_add 39 = .ok (.iastore, 1) := by decide +kernel
theorem dX2_add_40 : decode cX2_add 40 = .ok (.aload_n 0, 1) := by decide +kernel
theorem dX2_add_41 : decode cX2_add 41 = .ok (.getfield 9, 3) := by decide +kernel
theorem dX2_add_44 : decode cX2_add 44 = .ok (.aload_n 0, 1) := by decide +kernel
theorem dX2_add_45 : decode cX2_add 45 = .ok (.getfield 21, 3) := by decide +kernel
theorem dX2_add_48 : decode cX2_add 48 = .ok (.iconst 3, 1) := by decide +kernel
theorem dX2_add_49 : decode cX2_add 49 = .ok (.imul, 1) := by decide +kernel
theorem dX2_add_50 : decode cX2_add 50 = .ok (.iconst 2, 1) := by decide +kernel
theorem dX2_add_51 : decode cX2_add 51 = .ok (.iadd, 1) := by decide +kernel
theorem dX2_add_52 : decode cX2_add 52 = .ok (.iload_n 3, 1) := by decide +kernel
theorem dX2_add_53 : decode cX2_add 53 = .ok (.iastore, 1) := by decide +kernel
theorem dX2_add_54 : decode cX2_add 54 = .ok (.aload_n 0, 1) := by decide +kernel
theorem dX2_add_55 : decode cX2_add 55 = .ok (.getfield 15, 3) := by decide +kernel
theorem dX2_add_58 : decode cX2_add 58 = .ok (.aload_n 0, 1) := by decide +kernel
theorem dX2_add_59 : decode cX2_add 59 = .ok (.getfield 21, 3) := by decide +kernel
theorem dX2_add_62 : decode cX2_add 62 = .ok (.iload 4, 2) := by decide +kernel
theorem dX2_add_64 : decode cX2_add 64 = .ok (.sipush 1000, 3) := by decide +kernel
theorem dX2_add_67 : decode cX2_add 67 = .ok (.idiv, 1) := by decide +kernel
theorem dX2_add_68 : decode cX2_add 68 = .ok (.iastore, 1) := by decide +kernel
theorem dX2_add_69 : decode cX2_add 69 = .ok (.aload_n 0, 1) := by decide +kernel
theorem dX2_add_70 : decode cX2_add 70 = .ok (.getfield 18, 3) := by decide +kernel
theorem dX2_add_73 : decode cX2_add 73 = .ok (.aload_n 0, 1) := by decide +kernel
theorem dX2_add_74 : decode cX2_add 74 = .ok (.getfield 21, 3) := by decide +kernel
theorem dX2_add_77 : decode cX2_add 77 = .ok (.iload 4, 2) := by decide +kernel
theorem dX2_add_79 : decode cX2_add 79 = .ok (.sipush 1000, 3) := by decide +kernel
theorem dX2_add_82 : decode cX2_add 82 = .ok (.irem, 1) := by decide +kernel
theorem dX2_add_83 : decode cX2_add 83 = .ok (.iastore, 1) := by decide +kernel
theorem dX2_add_84 : decode cX2_add 84 = .ok (.aload_n 0, 1) := by decide +kernel
theorem dX2_add_85 : decode cX2_add 85 = .ok (.dup, 1) := by decide +kernel
theorem dX2_add_86 : decode cX2_add 86 = .ok (.getfield 21, 3) := by decide +kernel
theorem dX2_add_89 : decode cX2_add 89 = .ok (.dup_x1, 1) := by decide +kernel
theorem dX2_add_90 : decode cX2_add 90 = .ok (.iconst 1, 1) := by decide +kernel
theorem dX2_add_91 : decode cX2_add 91 = .ok (.iadd, 1) := by decide +kernel
theorem dX2_add_92 : decode cX2_add 92 = .ok (.putfield 21, 3) := by decide +kernel
theorem dX2_add_95 : decode cX2_add 95 = .ok (.ireturn, 1) := by decide +kernel
theorem dX2_limitOf_0 : decode cX2_limitOf 0 = .ok (.aload_n 0, 1) := by decide +kernel
theorem dX2_limitOf_1 : decode cX2_limitOf 1 = .ok (.getfield 9, 3) := by decide +kernel
theorem dX2_limitOf_4 : decode cX2_limitOf 4 = .ok (.iload_n 1, 1) := by decide +kernel
theorem dX2_limitOf_5 : decode cX2_limitOf 5 = .ok (.iconst 3, 1) := by decide +kernel
theorem dX2_limitOf_6 : decode cX2_limitOf 6 = .ok (.imul, 1) := by decide +kernel
theorem dX2_limitOf_7 : decode cX2_limitOf 7 = .ok (.iload_n 2, 1) := by decide +kernel
theorem dX2_limitOf_8 : decode cX2_limitOf 8 = .ok (.iadd, 1) := by decide +kernel
theorem dX2_limitOf_9 : decode cX2_limitOf 9 = .ok (.iaload, 1) := by decide +kernel
theorem dX2_limitOf_10 : decode cX2_limitOf 10 = .ok (.ireturn, 1) := by decide +kernel
theorem dX3_read_0 : decode cX3_read 0 = .ok (.aload_n 0, 1) := by decide +kernel
theorem dX3_read_1 : decode cX3_read 1 = .ok (.aload_n 1, 1) := by decide +kernel
theorem dX3_read_2 : decode cX3_read 2 = .ok (.putfield 15, 3) := by decide +kernel
theorem dX3_read_5 : decode cX3_read 5 = .ok (.aload_n 0, 1) := by decide +kernel
theorem dX3_read_6 : decode cX3_read 6 = .ok (.iconst 0, 1) := by decide +kernel
theorem dX3_read_7 : decode cX3_read 7 = .ok (.putfield 19, 3) := by decide +kernel
theorem dX3_read_10 : decode cX3_read 10 = .ok (.aload_n 0, 1) := by decide +kernel
theorem dX3_read_11 : decode cX3_read 11 = .ok (.iconst 0, 1) := by decide +kernel
theorem dX3_read_12 : decode cX3_read 12 = .ok (.putfield 23, 3) := by decide +kernel
theorem dX3_read_15 : decode cX3_read 15 = .ok (.aload_n 0, 1) := by decide +kernel
theorem dX3_read_16 : decode cX3_read 16 = .ok (.iconst (-1), 1) := by decide +kernel
theorem dX3_read_17 : decode cX3_read 17 = .ok (.putfield 26, 3) := by decide +kernel
theorem dX3_read_20 : decode cX3_read 20 = .ok (.aload_n 0, 1) := by decide +kernel
theorem dX3_read_21 : decode cX3_read 21 = .ok (.iconst 0, 1) := by decide +kernel
theorem dX3_read_22 : decode cX3_read 22 = .ok (.invokevirtual 29, 3) := by decide +kernel
theorem dX3_read_25 : decode cX3_read 25 = .ok (.aload_n 0, 1) := by decide +kernel
theorem dX3_read_26 : decode cX3_read 26 = .ok (.getfield 23, 3) := by decide +kernel
theorem dX3_read_29 : decode cX3_read 29 = .ok (.aload_n 0, 1) := by decide +kernel
theorem dX3_read_30 : decode cX3_read 30 = .ok (.getfield 9, 3) := by decide +kernel
theorem dX3_read_33 : decode cX3_read 33 = .ok (.getfield 33, 3) := by decide +kernel
theorem dX3_read_36 : decode cX3_read 36 = .ok (.if_icmp .ge 7, 3) := by decide +kernel
theorem dX3_read_39 : decode cX3_read 39 = .ok (.aload_n 0, 1) := by decide +kernel
theorem dX3_read_40 : decode cX3_read 40 = .ok (.invokevirtual 36, 3) := by decide +kernel
theorem dX3_read_43 : decode cX3_read 43 = .ok (.aload_n 0, 1) := by decide +kernel
theorem dX3_read_44 : decode cX3_read 44 = .ok (.getfield 26, 3) := by decide +kernel
theorem dX3_read_47 : decode cX3_read 47 = .ok (.ireturn, 1) := by decide +kernel
theorem dX3_next_0 : decode cX3_next 0 = .ok (.aload_n 0, 1) := by decide +kernel
theorem dX3_next_1 : decode cX3_next 1 = .ok (.getfield 26, 3) := by decide +kernel
theorem dX3_next_4 : decode cX3_next 4 = .ok (.iconst (-1), 1) := by decide +kernel
theorem dX3_next_5 : decode cX3_next 5 = .ok (.if_icmp .ne 17, 3) := by decide +kernel
theorem dX3_next_8 : decode cX3_next 8 = .ok (.aload_n 0, 1) := by decide +kernel
theorem dX3_next_9 : decode cX3_next 9 = .ok (.getfield 9, 3) := by decide +kernel
theorem dX3_next_12 : decode cX3_next 12 = .ok (.aload_n 0, 1) := by decide +kernel
theorem dX3_next_13 : decode cX3_next 13 = .ok (.getfield 23, 3) := by decide +kernel
theorem dX3_next_16 : decode cX3_next 16 = .ok (.invokevirtual 39, 3) := by decide +kernel
theorem dX3_next_19 : decode cX3_next 19 = .ok (.goto 4, 3) := by decide +kernel
theorem dX3_next_22 : decode cX3_next 22 = .ok (.iconst (-1), 1) := by decide +kernel
theorem dX3_next_23 : decode cX3_next 23 = .ok (.ireturn, 1) := by decide +kernel
theorem dX3_fail_0 : decode cX3_fail 0 = .ok (.aload_n 0, 1) := by decide +kernel
theorem dX3_fail_1 : decode cX3_fail 1 = .ok (.getfield 26, 3) := by decide +kernel
theorem dX3_fail_4 : decode cX3_fail 4 = .ok (.iconst (-1), 1) := by decide +kernel
theorem dX3_fail_5 : decode cX3_fail 5 = .ok (.if_icmp .ne 11, 3) := by decide +kernel
theorem dX3_fail_8 : decode cX3_fail 8 = .ok (.aload_n 0, 1) := by decide +kernel
theorem dX3_fail_9 : decode cX3_fail 9 = .ok (.aload_n 0, 1) := by decide +kernel
theorem dX3_fail_10 : decode cX3_fail 10 = .ok (.getfield 23, 3) := by decide +kernel
theorem dX3_fail_13 : decode cX3_fail 13 = .ok (.putfield 26, 3) := by decide +kernel
theorem dX3_fail_16 : decode cX3_fail 16 = .ok (.return_, 1) := by decide +kernel
theorem dX3_take_0 : decode cX3_take 0 = .ok (.aload_n 0, 1) := by decide +kernel
theorem dX3_take_1 : decode cX3_take 1 = .ok (.invokevirtual 43, 3) := by decide +kernel
theorem dX3_take_4 : decode cX3_take 4 = .ok (.iload_n 1, 1) := by decide +kernel
theorem dX3_take_5 : decode cX3_take 5 = .ok (.if_icmp .ne 16, 3) := by decide +kernel
theorem dX3_take_8 : decode cX3_take 8 = .ok (.aload_n 0, 1) := by decide +kernel
theorem dX3_take_9 : decode cX3_take 9 = .ok (.dup, 1) := by decide +kernel
theorem dX3_take_10 : decode cX3_take 10 = .ok (.getfield 23, 3) := by decide +kernel
theorem dX3_take_13 : decode cX3_take 13 = .ok (.iconst 1, 1) := by decide +kernel
theorem dX3_take_14 : decode cX3_take 14 = .ok (.iadd, 1) := by decide +kernel
theorem dX3_take_15 : decode cX3_take 15 = .ok (.putfield 23, 3) := by decide +kernel
theorem dX3_take_18 : decode cX3_take 18 = .ok (.goto 7, 3) := by decide +kernel
theorem dX3_take_21 : decode cX3_take 21 = .ok (.aload_n 0, 1) := by decide +kernel
theorem dX3_take_22 : decode cX3_take 22 = .ok (.invokevirtual 36, 3) := by decide +kernel
theorem dX3_take_25 : decode cX3_take 25 = .ok (.return_, 1) := by decide +kernel
theorem dX3_opens_0 : decode cX3_opens 0 = .ok (.iload_n 1, 1) := by decide +kernel
theorem dX3_opens_1 : decode cX3_opens 1 = .ok (.bipush 8, 2) := by decide +kernel
theorem dX3_opens_3 : decode cX3_opens 3 = .ok (.if_icmp .lt 9, 3) := by decide +kernel
theorem dX3_opens_6 : decode cX3_opens 6 = .ok (.aload_n 0, 1) := by decide +kernel
theorem dX3_opens_7 : decode cX3_opens 7 = .ok (.invokevirtual 36, 3) := by decide +kernel
theorem dX3_opens_10 : decode cX3_opens 10 = .ok (.iconst 0, 1) := by decide +kernel
theorem dX3_opens_11 : decode cX3_opens 11 = .ok (.ireturn, 1) := by decide +kernel
theorem dX3_opens_12 : decode cX3_opens 12 = .ok (.aload_n 0, 1) := by decide +kernel
theorem dX3_opens_13 : decode cX3_opens 13 = .ok (.dup, 1) := by decide +kernel
theorem dX3_opens_14 : decode cX3_opens 14 = .ok (.getfield 23, 3) := by decide +kernel
theorem dX3_opens_17 : decode cX3_opens 17 = .ok (.iconst 1, 1) := by decide +kernel
theorem dX3_opens_18 : decode cX3_opens 18 = .ok (.iadd, 1) := by decide +kernel
theorem dX3_opens_19 : decode cX3_opens 19 = .ok (.putfield 23, 3) := by decide +kernel
theorem dX3_opens_22 : decode cX3_opens 22 = .ok (.iconst 1, 1) := by decide +kernel
theorem dX3_opens_23 : decode cX3_opens 23 = .ok (.ireturn, 1) := by decide +kernel
theorem dX3_put_0 : decode cX3_put 0 = .ok (.aload_n 0, 1) := by decide +kernel
theorem dX3_put_1 : decode cX3_put 1 = .ok (.getfield 19, 3) := by decide +kernel
theorem dX3_put_4 : decode cX3_put 4 = .ok (.aload_n 0, 1) := by decide +kernel
theorem dX3_put_5 : decode cX3_put 5 = .ok (.getfield 15, 3) := by decide +kernel
theorem dX3_put_8 : decode cX3_put 8 = .ok (.arraylength, 1) := by decide +kernel
theorem dX3_put_9 : decode cX3_put 9 = .ok (.if_icmp .ge 27, 3) := by decide +kernel
theorem dX3_put_12 : decode cX3_put 12 = .ok (.aload_n 0, 1) := by decide +kernel
theorem dX3_put_13 : decode cX3_put 13 = .ok (.getfield 15, 3) := by decide +kernel
theorem dX3_put_16 : decode cX3_put 16 = .ok (.aload_n 0, 1) := by decide +kernel
theorem dX3_put_17 : decode cX3_put 17 = .ok (.getfield 19, 3) := by decide +kernel
theorem dX3_put_20 : decode cX3_put 20 = .ok (.iload_n 1, 1) := by decide +kernel
theorem dX3_put_21 : decode cX3_put 21 = .ok (.iload_n 2, 1) := by decide +kernel
theorem dX3_put_22 : decode cX3_put 22 = .ok (.iconst 4, 1) := by decide +kernel
theorem dX3_put_23 : decode cX3_put 23 = .ok (.ishl, 1) := by decide +kernel
theorem dX3_put_24 : decode cX3_put 24 = .ok (.ior, 1) := by decide +kernel
theorem dX3_put_25 : decode cX3_put 25 = .ok (.iastore, 1) := by decide +kernel
theorem dX3_put_26 : decode cX3_put 26 = .ok (.aload_n 0, 1) := by decide +kernel
theorem dX3_put_27 : decode cX3_put 27 = .ok (.dup, 1) := by decide +kernel
theorem dX3_put_28 : decode cX3_put 28 = .ok (.getfield 19, 3) := by decide +kernel
theorem dX3_put_31 : decode cX3_put 31 = .ok (.iconst 1, 1) := by decide +kernel
theorem dX3_put_32 : decode cX3_put 32 = .ok (.iadd, 1) := by decide +kernel
theorem dX3_put_33 : decode cX3_put 33 = .ok (.putfield 19, 3) := by decide +kernel
theorem dX3_put_36 : decode cX3_put 36 = .ok (.aload_n 0, 1) := by decide +kernel
theorem dX3_put_37 : decode cX3_put 37 = .ok (.getfield 19, 3) := by decide +kernel
theorem dX3_put_40 : decode cX3_put 40 = .ok (.iconst 1, 1) := by decide +kernel
theorem dX3_put_41 : decode cX3_put 41 = .ok (.isub, 1) := by decide +kernel
theorem dX3_put_42 : decode cX3_put 42 = .ok (.ireturn, 1) := by decide +kernel
theorem dX3_leadHere_0 : decode cX3_leadHere 0 = .ok (.iload_n 1, 1) := by decide +kernel
theorem dX3_leadHere_1 : decode cX3_leadHere 1 = .ok (.ifCond .lt 34, 3) := by decide +kernel
theorem dX3_leadHere_4 : decode cX3_leadHere 4 = .ok (.iload_n 1, 1) := by decide +kernel
theorem dX3_leadHere_5 : decode cX3_leadHere 5 = .ok (.aload_n 0, 1) := by decide +kernel
theorem dX3_leadHere_6 : decode cX3_leadHere 6 = .ok (.getfield 15, 3) := by decide +kernel
theorem dX3_leadHere_9 : decode cX3_leadHere 9 = .ok (.arraylength, 1) := by decide +kernel
theorem dX3_leadHere_10 : decode cX3_leadHere 10 = .ok (.if_icmp .ge 25, 3) := by decide +kernel
theorem dX3_leadHere_13 : decode cX3_leadHere 13 = .ok (.aload_n 0, 1) := by decide +kernel
theorem dX3_leadHere_14 : decode cX3_leadHere 14 = .ok (.getfield 15, 3) := by decide +kernel
theorem dX3_leadHere_17 : decode cX3_leadHere 17 = .ok (.iload_n 1, 1) := by decide +kernel
theorem dX3_leadHere_18 : decode cX3_leadHere 18 = .ok (.aload_n 0, 1) := by decide +kernel
theorem dX3_leadHere_19 : decode cX3_leadHere 19 = .ok (.getfield 15, 3) := by decide +kernel
theorem dX3_leadHere_22 : decode cX3_leadHere 22 = .ok (.iload_n 1, 1) := by decide +kernel
theorem dX3_leadHere_23 : decode cX3_leadHere 23 = .ok (.iaload, 1) := by decide +kernel
theorem dX3_leadHere_24 : decode cX3_leadHere 24 = .ok (.bipush 15, 2) := by decide +kernel
theorem dX3_leadHere_26 : decode cX3_leadHere 26 = .ok (.iand, 1) := by decide +kernel
theorem dX3_leadHere_27 : decode cX3_leadHere 27 = .ok (.aload_n 0, 1) := by decide +kernel
theorem dX3_leadHere_28 : decode cX3_leadHere 28 = .ok (.getfield 19, 3) := by decide +kernel
theorem dX3_leadHere_31 : decode cX3_leadHere 31 = .ok (.iconst 4, 1) := by decide +kernel
theorem dX3_leadHere_32 : decode cX3_leadHere 32 = .ok (.ishl, 1) := by decide +kernel
theorem dX3_leadHere_33 : decode cX3_leadHere 33 = .ok (.ior, 1) := by decide +kernel
theorem dX3_leadHere_34 : decode cX3_leadHere 34 = .ok (.iastore, 1) := by decide +kernel
theorem dX3_leadHere_35 : decode cX3_leadHere 35 = .ok (.return_, 1) := by decide +kernel
theorem dX3_readChoice_0 : decode cX3_readChoice 0 = .ok (.aload_n 0, 1) := by decide +kernel
theorem dX3_readChoice_1 : decode cX3_readChoice 1 = .ok (.iload_n 1, 1) := by decide +kernel
theorem dX3_readChoice_2 : decode cX3_readChoice 2 = .ok (.invokevirtual 47, 3) := by decide +kernel
theorem dX3_readChoice_5 : decode cX3_readChoice 5 = .ok (.aload_n 0, 1) := by decide +kernel
theorem dX3_readChoice_6 : decode cX3_readChoice 6 = .ok (.invokevirtual 43, 3) := by decide +kernel
theorem dX3_readChoice_9 : decode cX3_readChoice 9 = .ok (.bipush 63, 2) := by decide +kernel
theorem dX3_readChoice_11 : decode cX3_readChoice 11 = .ok (.if_icmp .ne 55, 3) := by decide +kernel
theorem dX3_readChoice_14 : decode cX3_readChoice 14 = .ok (.aload_n 0, 1) := by decide +kernel
theorem dX3_readChoice_15 : decode cX3_readChoice 15 = .ok (.iload_n 1, 1) := by decide +kernel
theorem dX3_readChoice_16 : decode cX3_readChoice 16 = .ok (.invokevirtual 50, 3) := by decide +kernel
theorem dX3_readChoice_19 : decode cX3_readChoice 19 = .ok (.ifCond .eq 47, 3) := by decide +kernel
theorem dX3_readChoice_22 : decode cX3_readChoice 22 = .ok (.aload_n 0, 1) := by decide +kernel
theorem dX3_readChoice_23 : decode cX3_readChoice 23 = .ok (.iconst 4, 1) := by decide +kernel
theorem dX3_readChoice_24 : decode cX3_readChoice 24 = .ok (.iconst 0, 1) := by decide +kernel
theorem dX3_readChoice_25 : decode cX3_readChoice 25 = .ok (.invokevirtual 56, 3) := by decide +kernel
theorem dX3_readChoice_28 : decode cX3_readChoice 28 = .ok (.istore_n 2, 1) := by decide +kernel
theorem dX3_readChoice_29 : decode cX3_readChoice 29 = .ok (.aload_n 0, 1) := by decide +kernel
theorem dX3_readChoice_30 : decode cX3_readChoice 30 = .ok (.iload_n 1, 1) := by decide +kernel
theorem dX3_readChoice_31 : decode cX3_readChoice 31 = .ok (.iconst 1, 1) := by decide +kernel
theorem dX3_readChoice_32 : decode cX3_readChoice 32 = .ok (.iadd, 1) := by decide +kernel
theorem dX3_readChoice_33 : decode cX3_readChoice 33 = .ok (.invokevirtual 29, 3) := by decide +kernel
theorem dX3_readChoice_36 : decode cX3_readChoice 36 = .ok (.aload_n 0, 1) := by decide +kernel
theorem dX3_readChoice_37 : decode cX3_readChoice 37 = .ok (.bipush 58, 2) := by decide +kernel
theorem dX3_readChoice_39 : decode cX3_readChoice 39 = .ok (.invokevirtual 60, 3) := by decide +kernel
theorem dX3_readChoice_42 : decode cX3_readChoice 42 = .ok (.aload_n 0, 1) := by decide +kernel
theorem dX3_readChoice_43 : decode cX3_readChoice 43 = .ok (.iconst 3, 1) := by decide +kernel
theorem dX3_readChoice_44 : decode cX3_readChoice 44 = .ok (.iconst 0, 1) := by decide +kernel
theorem dX3_readChoice_45 : decode cX3_readChoice 45 = .ok (.invokevirtual 56, 3) := by decide +kernel
theorem dX3_readChoice_48 : decode cX3_readChoice 48 = .ok (.istore_n 3, 1) := by decide +kernel
theorem dX3_readChoice_49 : decode cX3_readChoice 49 = .ok (.aload_n 0, 1) := by decide +kernel
theorem dX3_readChoice_50 : decode cX3_readChoice 50 = .ok (.iload_n 2, 1) := by decide +kernel
theorem dX3_readChoice_51 : decode cX3_readChoice 51 = .ok (.invokevirtual 64, 3) := by decide +kernel
theorem dX3_readChoice_54 : decode cX3_readChoice 54 = .ok (.aload_n 0, 1) := by decide +kernel
theorem dX3_readChoice_55 : decode cX3_readChoice 55 = .ok (.iload_n 1, 1) := by decide +kernel
theorem dX3_readChoice_56 : decode cX3_readChoice 56 = .ok (.iconst 1, 1) := by decide +kernel
theorem dX3_readChoice_57 : decode cX3_readChoice 57 = .ok (.iadd, 1) := by decide +kernel
theorem dX3_readChoice_58 : decode cX3_readChoice 58 = .ok (.invokevirtual 29, 3) := by decide +kernel
theorem dX3_readChoice_61 : decode cX3_readChoice 61 = .ok (.aload_n 0, 1) := by decide +kernel
theorem dX3_readChoice_62 : decode cX3_readChoice 62 = .ok (.iload_n 3, 1) := by decide +kernel
theorem dX3_readChoice_63 : decode cX3_readChoice 63 = .ok (.invokevirtual 64, 3) := by decide +kernel
theorem dX3_readChoice_66 : decode cX3_readChoice 66 = .ok (.return_, 1) := by decide +kernel
theorem dX3_readComparison_0 : decode cX3_readComparison 0 = .ok (.aload_n 0, 1) := by decide +kernel
theorem dX3_readComparison_1 : decode cX3_readComparison 1 = .ok (.iload_n 1, 1) := by decide +kernel
theorem dX3_readComparison_2 : decode cX3_readComparison 2 = .ok (.invokevirtual 67, 3) := by decide +kernel
theorem dX3_readComparison_5 : decode cX3_readComparison 5 = .ok (.aload_n 0, 1) := by decide +kernel
theorem dX3_readComparison_6 : decode cX3_readComparison 6 = .ok (.invokevirtual 43, 3) := by decide +kernel
theorem dX3_readComparison_9 : decode cX3_readComparison 9 = .ok (.istore_n 2, 1) := by decide +kernel
theorem dX3_readComparison_10 : decode cX3_readComparison 10 = .ok (.iload_n 2, 1) := by decide +kernel
theorem dX3_readComparison_11 : decode cX3_readComparison 11 = .ok (.bipush 60, 2) := by decide +kernel
theorem dX3_readComparison_13 : decode cX3_readComparison 13 = .ok (.if_icmp .eq 15, 3) := by decide +kernel
theorem dX3_readComparison_16 : decode cX3_readComparison 16 = .ok (.iload_n 2, 1) := by decide +kernel
theorem dX3_readComparison_17 : decode cX3_readComparison 17 = .ok (.bipush 61, 2) := by decide +kernel
theorem dX3_readComparison_19 : decode cX3_readComparison 19 = .ok (.if_icmp .eq 9, 3) := by decide +kernel
theorem dX3_readComparison_22 : decode cX3_readComparison 22 = .ok (.iload_n 2, 1) := by decide +kernel
theorem dX3_readComparison_23 : decode cX3_readComparison 23 = .ok (.bipush 62, 2) := by decide +kernel
theorem dX3_readComparison_25 : decode cX3_readComparison 25 = .ok (.if_icmp .ne 48, 3) := by decide +kernel
theorem dX3_readComparison_28 : decode cX3_readComparison 28 = .ok (.aload_n 0, 1) := by decide +kernel
theorem dX3_readComparison_29 : decode cX3_readComparison 29 = .ok (.dup, 1) := by decide +kernel
theorem dX3_readComparison_30 : decode cX3_readComparison 30 = .ok (.getfield 23, 3) := by decide +kernel
theorem dX3_readComparison_33 : decode cX3_readComparison 33 = .ok (.iconst 1, 1) := by decide +kernel
theorem dX3_readComparison_34 : decode cX3_readComparison 34 = .ok (.iadd, 1) := by decide +kernel
theorem dX3_readComparison_35 : decode cX3_readComparison 35 = .ok (.putfield 23, 3) := by decide +kernel
theorem dX3_readComparison_38 : decode cX3_readComparison 38 = .ok (.aload_n 0, 1) := by decide +kernel
