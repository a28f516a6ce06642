theorem dX0_init_0 : decode cX0_init 0 = .ok (.aload_n 0, 1) := by decide +kernel
theorem dX0_init_1 : decode cX0_init 1 = .ok (.invokespecial 3, 3) := by decide +kernel
theorem dX0_init_4 : decode cX0_init 4 = .ok (.aload_n 0, 1) := by decide +kernel
theorem dX0_init_5 : decode cX0_init 5 = .ok (.bipush 10, 2) := by decide +kernel
theorem dX0_init_7 : decode cX0_init 7 = .ok (.newarray .int, 2) := by decide +kernel
theorem dX0_init_9 : decode cX0_init 9 = .ok (.putfield 9, 3) := by decide +kernel
theorem dX0_init_12 : decode cX0_init 12 = .ok (.aload_n 0, 1) := by decide +kernel
theorem dX0_init_13 : decode cX0_init 13 = .ok (.bipush 10, 2) := by decide +kernel
theorem dX0_init_15 : decode cX0_init 15 = .ok (.newarray .int, 2) := by decide +kernel
theorem dX0_init_17 : decode cX0_init 17 = .ok (.putfield 15, 3) := by decide +kernel
theorem dX0_init_20 : decode cX0_init 20 = .ok (.aload_n 0, 1) := by decide +kernel
theorem dX0_init_21 : decode cX0_init 21 = .ok (.bipush 10, 2) := by decide +kernel
theorem dX0_init_23 : decode cX0_init 23 = .ok (.newarray .int, 2) := by decide +kernel
theorem dX0_init_25 : decode cX0_init 25 = .ok (.putfield 18, 3) := by decide +kernel
theorem dX0_init_28 : decode cX0_init 28 = .ok (.aload_n 0, 1) := by decide +kernel
theorem dX0_init_29 : decode cX0_init 29 = .ok (.bipush 10, 2) := by decide +kernel
theorem dX0_init_31 : decode cX0_init 31 = .ok (.bipush 120, 2) := by decide +kernel
theorem dX0_init_33 : decode cX0_init 33 = .ok (.multianewarray 21 2, 4) := by decide +kernel
theorem dX0_init_37 : decode cX0_init 37 = .ok (.putfield 23, 3) := by decide +kernel
theorem dX0_init_40 : decode cX0_init 40 = .ok (.aload_n 0, 1) := by decide +kernel
theorem dX0_init_41 : decode cX0_init 41 = .ok (.bipush 120, 2) := by decide +kernel
theorem dX0_init_43 : decode cX0_init 43 = .ok (.newarray .int, 2) := by decide +kernel
theorem dX0_init_45 : decode cX0_init 45 = .ok (.putfield 26, 3) := by decide +kernel
theorem dX0_init_48 : decode cX0_init 48 = .ok (.aload_n 0, 1) := by decide +kernel
theorem dX0_init_49 : decode cX0_init 49 = .ok (.aload_n 1, 1) := by decide +kernel
theorem dX0_init_50 : decode cX0_init 50 = .ok (.putfield 29, 3) := by decide +kernel
theorem dX0_init_53 : decode cX0_init 53 = .ok (.iconst 0, 1) := by decide +kernel
theorem dX0_init_54 : decode cX0_init 54 = .ok (.istore_n 2, 1) := by decide +kernel
theorem dX0_init_55 : decode cX0_init 55 = .ok (.iload_n 2, 1) := by decide +kernel
theorem dX0_init_56 : decode cX0_init 56 = .ok (.bipush 10, 2) := by decide +kernel
theorem dX0_init_58 : decode cX0_init 58 = .ok (.if_icmp .ge 16, 3) := by decide +kernel
theorem dX0_init_61 : decode cX0_init 61 = .ok (.aload_n 0, 1) := by decide +kernel
theorem dX0_init_62 : decode cX0_init 62 = .ok (.getfield 15, 3) := by decide +kernel
theorem dX0_init_65 : decode cX0_init 65 = .ok (.iload_n 2, 1) := by decide +kernel
theorem dX0_init_66 : decode cX0_init 66 = .ok (.iconst (-1), 1) := by decide +kernel
theorem dX0_init_67 : decode cX0_init 67 = .ok (.iastore, 1) := by decide +kernel
theorem dX0_init_68 : decode cX0_init 68 = .ok (.iinc 2 1, 3) := by decide +kernel
theorem dX0_init_71 : decode cX0_init 71 = .ok (.goto (-16), 3) := by decide +kernel
theorem dX0_init_74 : decode cX0_init 74 = .ok (.return_, 1) := by decide +kernel
theorem dX0_isSigned_0 : decode cX0_isSigned 0 = .ok (.aload_n 0, 1) := by decide +kernel
theorem dX0_isSigned_1 : decode cX0_isSigned 1 = .ok (.getfield 9, 3) := by decide +kernel
theorem dX0_isSigned_4 : decode cX0_isSigned 4 = .ok (.iload_n 1, 1) := by decide +kernel
theorem dX0_isSigned_5 : decode cX0_isSigned 5 = .ok (.iaload, 1) := by decide +kernel
theorem dX0_isSigned_6 : decode cX0_isSigned 6 = .ok (.ifCond .le 7, 3) := by decide +kernel
theorem dX0_isSigned_9 : decode cX0_isSigned 9 = .ok (.iconst 1, 1) := by decide +kernel
theorem dX0_isSigned_10 : decode cX0_isSigned 10 = .ok (.goto 4, 3) := by decide +kernel
theorem dX0_isSigned_13 : decode cX0_isSigned 13 = .ok (.iconst 0, 1) := by decide +kernel
theorem dX0_isSigned_14 : decode cX0_isSigned 14 = .ok (.ireturn, 1) := by decide +kernel
theorem dX0_hasLine_0 : decode cX0_hasLine 0 = .ok (.iload_n 2, 1) := by decide +kernel
theorem dX0_hasLine_1 : decode cX0_hasLine 1 = .ok (.ifCond .lt 17, 3) := by decide +kernel
theorem dX0_hasLine_4 : decode cX0_hasLine 4 = .ok (.iload_n 2, 1) := by decide +kernel
theorem dX0_hasLine_5 : decode cX0_hasLine 5 = .ok (.aload_n 0, 1) := by decide +kernel
theorem dX0_hasLine_6 : decode cX0_hasLine 6 = .ok (.getfield 9, 3) := by decide +kernel
theorem dX0_hasLine_9 : decode cX0_hasLine 9 = .ok (.iload_n 1, 1) := by decide +kernel
theorem dX0_hasLine_10 : decode cX0_hasLine 10 = .ok (.iaload, 1) := by decide +kernel
theorem dX0_hasLine_11 : decode cX0_hasLine 11 = .ok (.if_icmp .ge 7, 3) := by decide +kernel
theorem dX0_hasLine_14 : decode cX0_hasLine 14 = .ok (.iconst 1, 1) := by decide +kernel
theorem dX0_hasLine_15 : decode cX0_hasLine 15 = .ok (.goto 4, 3) := by decide +kernel
theorem dX0_hasLine_18 : decode cX0_hasLine 18 = .ok (.iconst 0, 1) := by decide +kernel
theorem dX0_hasLine_19 : decode cX0_hasLine 19 = .ok (.ireturn, 1) := by decide +kernel
theorem dX0_letterOf_0 : decode cX0_letterOf 0 = .ok (.aload_n 0, 1) := by decide +kernel
theorem dX0_letterOf_1 : decode cX0_letterOf 1 = .ok (.getfield 23, 3) := by decide +kernel
theorem dX0_letterOf_4 : decode cX0_letterOf 4 = .ok (.iload_n 1, 1) := by decide +kernel
theorem dX0_letterOf_5 : decode cX0_letterOf 5 = .ok (.aaload, 1) := by decide +kernel
theorem dX0_letterOf_6 : decode cX0_letterOf 6 = .ok (.iload_n 2, 1) := by decide +kernel
theorem dX0_letterOf_7 : decode cX0_letterOf 7 = .ok (.iconst 4, 1) := by decide +kernel
theorem dX0_letterOf_8 : decode cX0_letterOf 8 = .ok (.imul, 1) := by decide +kernel
theorem dX0_letterOf_9 : decode cX0_letterOf 9 = .ok (.iaload, 1) := by decide +kernel
theorem dX0_letterOf_10 : decode cX0_letterOf 10 = .ok (.ireturn, 1) := by decide +kernel
theorem dX0_numberOf_0 : decode cX0_numberOf 0 = .ok (.aload_n 0, 1) := by decide +kernel
theorem dX0_numberOf_1 : decode cX0_numberOf 1 = .ok (.getfield 23, 3) := by decide +kernel
theorem dX0_numberOf_4 : decode cX0_numberOf 4 = .ok (.iload_n 1, 1) := by decide +kernel
theorem dX0_numberOf_5 : decode cX0_numberOf 5 = .ok (.aaload, 1) := by decide +kernel
theorem dX0_numberOf_6 : decode cX0_numberOf 6 = .ok (.iload_n 2, 1) := by decide +kernel
theorem dX0_numberOf_7 : decode cX0_numberOf 7 = .ok (.iconst 4, 1) := by decide +kernel
theorem dX0_numberOf_8 : decode cX0_numberOf 8 = .ok (.imul, 1) := by decide +kernel
theorem dX0_numberOf_9 : decode cX0_numberOf 9 = .ok (.iload_n 3, 1) := by decide +kernel
theorem dX0_numberOf_10 : decode cX0_numberOf 10 = .ok (.iadd, 1) := by decide +kernel
theorem dX0_numberOf_11 : decode cX0_numberOf 11 = .ok (.iaload, 1) := by decide +kernel
theorem dX0_numberOf_12 : decode cX0_numberOf 12 = .ok (.ireturn, 1) := by decide +kernel
theorem dX0_sign_0 : decode cX0_sign 0 = .ok (.aload_n 0, 1) := by decide +kernel
theorem dX0_sign_1 : decode cX0_sign 1 = .ok (.getfield 26, 3) := by decide +kernel
theorem dX0_sign_4 : decode cX0_sign 4 = .ok (.iconst 0, 1) := by decide +kernel
theorem dX0_sign_5 : decode cX0_sign 5 = .ok (.aload_n 0, 1) := by decide +kernel
theorem dX0_sign_6 : decode cX0_sign 6 = .ok (.getfield 23, 3) := by decide +kernel
theorem dX0_sign_9 : decode cX0_sign 9 = .ok (.iload_n 1, 1) := by decide +kernel
theorem dX0_sign_10 : decode cX0_sign 10 = .ok (.aaload, 1) := by decide +kernel
theorem dX0_sign_11 : decode cX0_sign 11 = .ok (.iconst 0, 1) := by decide +kernel
theorem dX0_sign_12 : decode cX0_sign 12 = .ok (.aload_n 0, 1) := by decide +kernel
theorem dX0_sign_13 : decode cX0_sign 13 = .ok (.getfield 33, 3) := by decide +kernel
theorem dX0_sign_16 : decode cX0_sign 16 = .ok (.iconst 4, 1) := by decide +kernel
theorem dX0_sign_17 : decode cX0_sign 17 = .ok (.imul, 1) := by decide +kernel
theorem dX0_sign_18 : decode cX0_sign 18 = .ok (.invokestatic 37, 3) := by decide +kernel
theorem dX0_sign_21 : decode cX0_sign 21 = .ok (.aload_n 0, 1) := by decide +kernel
theorem dX0_sign_22 : decode cX0_sign 22 = .ok (.getfield 9, 3) := by decide +kernel
theorem dX0_sign_25 : decode cX0_sign 25 = .ok (.iload_n 1, 1) := by decide +kernel
theorem dX0_sign_26 : decode cX0_sign 26 = .ok (.aload_n 0, 1) := by decide +kernel
theorem dX0_sign_27 : decode cX0_sign 27 = .ok (.getfield 33, 3) := by decide +kernel
theorem dX0_sign_30 : decode cX0_sign 30 = .ok (.iastore, 1) := by decide +kernel
theorem dX0_sign_31 : decode cX0_sign 31 = .ok (.aload_n 0, 1) := by decide +kernel
theorem dX0_sign_32 : decode cX0_sign 32 = .ok (.getfield 15, 3) := by decide +kernel
theorem dX0_sign_35 : decode cX0_sign 35 = .ok (.iload_n 1, 1) := by decide +kernel
theorem dX0_sign_36 : decode cX0_sign 36 = .ok (.iload_n 2, 1) := by decide +kernel
theorem dX0_sign_37 : decode cX0_sign 37 = .ok (.iastore, 1) := by decide +kernel
theorem dX0_sign_38 : decode cX0_sign 38 = .ok (.aload_n 0, 1) := by decide +kernel
theorem dX0_sign_39 : decode cX0_sign 39 = .ok (.getfield 18, 3) := by decide +kernel
theorem dX0_sign_42 : decode cX0_sign 42 = .ok (.iload_n 1, 1) := by decide +kernel
theorem dX0_sign_43 : decode cX0_sign 43 = .ok (.iload_n 3, 1) := by decide +kernel
theorem dX0_sign_44 : decode cX0_sign 44 = .ok (.iastore, 1) := by decide +kernel
theorem dX0_sign_45 : decode cX0_sign 45 = .ok (.aload_n 0, 1) := by decide +kernel
theorem dX0_sign_46 : decode cX0_sign 46 = .ok (.getfield 33, 3) := by decide +kernel
theorem dX0_sign_49 : decode cX0_sign 49 = .ok (.ireturn, 1) := by decide +kernel
theorem dX0_read_0 : decode cX0_read 0 = .ok (.aload_n 0, 1) := by decide +kernel
theorem dX0_read_1 : decode cX0_read 1 = .ok (.iconst 0, 1) := by decide +kernel
theorem dX0_read_2 : decode cX0_read 2 = .ok (.putfield 33, 3) := by decide +kernel
theorem dX0_read_5 : decode cX0_read 5 = .ok (.aload_n 0, 1) := by decide +kernel
theorem dX0_read_6 : decode cX0_read 6 = .ok (.iconst 0, 1) := by decide +kernel
theorem dX0_read_7 : decode cX0_read 7 = .ok (.putfield 43, 3) := by decide +kernel
theorem dX0_read_10 : decode cX0_read 10 = .ok (.aload_n 0, 1) := by decide +kernel
theorem dX0_read_11 : decode cX0_read 11 = .ok (.iconst (-1), 1) := by decide +kernel
theorem dX0_read_12 : decode cX0_read 12 = .ok (.putfield 46, 3) := by decide +kernel
theorem dX0_read_15 : decode cX0_read 15 = .ok (.aload_n 0, 1) := by decide +kernel
theorem dX0_read_16 : decode cX0_read 16 = .ok (.invokevirtual 49, 3) := by decide +kernel
theorem dX0_read_19 : decode cX0_read 19 = .ok (.aload_n 0, 1) := by decide +kernel
theorem dX0_read_20 : decode cX0_read 20 = .ok (.dup, 1) := by decide +kernel
theorem dX0_read_21 : decode cX0_read 21 = .ok (.getfield 33, 3) := by decide +kernel
theorem dX0_read_24 : decode cX0_read 24 = .ok (.iconst 1, 1) := by decide +kernel
theorem dX0_read_25 : decode cX0_read 25 = .ok (.iadd, 1) := by decide +kernel
theorem dX0_read_26 : decode cX0_read 26 = .ok (.putfield 33, 3) := by decide +kernel
theorem dX0_read_29 : decode cX0_read 29 = .ok (.aload_n 0, 1) := by decide +kernel
theorem dX0_read_30 : decode cX0_read 30 = .ok (.getfield 33, 3) := by decide +kernel
theorem dX0_read_33 : decode cX0_read 33 = .ok (.bipush 30, 2) := by decide +kernel
theorem dX0_read_35 : decode cX0_read 35 = .ok (.if_icmp .ge 25, 3) := by decide +kernel
theorem dX0_read_38 : decode cX0_read 38 = .ok (.aload_n 0, 1) := by decide +kernel
theorem dX0_read_39 : decode cX0_read 39 = .ok (.getfield 46, 3) := by decide +kernel
theorem dX0_read_42 : decode cX0_read 42 = .ok (.iconst (-1), 1) := by decide +kernel
theorem dX0_read_43 : decode cX0_read 43 = .ok (.if_icmp .ne 17, 3) := by decide +kernel
theorem dX0_read_46 : decode cX0_read 46 = .ok (.aload_n 0, 1) := by decide +kernel
theorem dX0_read_47 : decode cX0_read 47 = .ok (.getfield 43, 3) := by decide +kernel
theorem dX0_read_50 : decode cX0_read 50 = .ok (.aload_n 0, 1) := by decide +kernel
theorem dX0_read_51 : decode cX0_read 51 = .ok (.getfield 29, 3) := by decide +kernel
theorem dX0_read_54 : decode cX0_read 54 = .ok (.getfield 52, 3) := by decide +kernel
theorem dX0_read_57 : decode cX0_read 57 = .ok (.if_icmp .lt (-42), 3) := by decide +kernel
theorem dX0_read_60 : decode cX0_read 60 = .ok (.aload_n 0, 1) := by decide +kernel
theorem dX0_read_61 : decode cX0_read 61 = .ok (.getfield 46, 3) := by decide +kernel
theorem dX0_read_64 : decode cX0_read 64 = .ok (.ireturn, 1) := by decide +kernel
theorem dX0_readLine_0 : decode cX0_readLine 0 = .ok (.aload_n 0, 1) := by decide +kernel
theorem dX0_readLine_1 : decode cX0_readLine 1 = .ok (.getfield 29, 3) := by decide +kernel
theorem dX0_readLine_4 : decode cX0_readLine 4 = .ok (.aload_n 0, 1) := by decide +kernel
theorem dX0_readLine_5 : decode cX0_readLine 5 = .ok (.getfield 43, 3) := by decide +kernel
theorem dX0_readLine_8 : decode cX0_readLine 8 = .ok (.invokevirtual 57, 3) := by decide +kernel
theorem dX0_readLine_11 : decode cX0_readLine 11 = .ok (.istore_n 1, 1) := by decide +kernel
theorem dX0_readLine_12 : decode cX0_readLine 12 = .ok (.iload_n 1, 1) := by decide +kernel
theorem dX0_readLine_13 : decode cX0_readLine 13 = .ok (.invokestatic 61, 3) := by decide +kernel
theorem dX0_readLine_16 : decode cX0_readLine 16 = .ok (.istore_n 2, 1) := by decide +kernel
theorem dX0_readLine_17 : decode cX0_readLine 17 = .ok (.iload_n 2, 1) := by decide +kernel
theorem dX0_readLine_18 : decode cX0_readLine 18 = .ok (.ifCond .ne 12, 3) := by decide +kernel
theorem dX0_readLine_21 : decode cX0_readLine 21 = .ok (.aload_n 0, 1) := by decide +kernel
theorem dX0_readLine_22 : decode cX0_readLine 22 = .ok (.aload_n 0, 1) := by decide +kernel
theorem dX0_readLine_23 : decode cX0_readLine 23 = .ok (.getfield 43, 3) := by decide +kernel
theorem dX0_readLine_26 : decode cX0_readLine 26 = .ok (.putfield 46, 3) := by decide +kernel
theorem dX0_readLine_29 : decode cX0_readLine 29 = .ok (.return_, 1) := by decide +kernel
theorem dX0_readLine_30 : decode cX0_readLine 30 = .ok (.aload_n 0, 1) := by decide +kernel
theorem dX0_readLine_31 : decode cX0_readLine 31 = .ok (.dup, 1) := by decide +kernel
theorem dX0_readLine_32 : decode cX0_readLine 32 = .ok (.getfield 43, 3) := by decide +kernel
theorem dX0_readLine_35 : decode cX0_readLine 35 = .ok (.iconst 1, 1) := by decide +kernel
theorem dX0_readLine_36 : decode cX0_readLine 36 = .ok (.iadd, 1) := by decide +kernel
theorem dX0_readLine_37 : decode cX0_readLine 37 = .ok (.putfield 43, 3) := by decide +kernel
theorem dX0_readLine_40 : decode cX0_readLine 40 = .ok (.aload_n 0, 1) := by decide +kernel
theorem dX0_readLine_41 : decode cX0_readLine 41 = .ok (.getfield 26, 3) := by decide +kernel
theorem dX0_readLine_44 : decode cX0_readLine 44 = .ok (.aload_n 0, 1) := by decide +kernel
theorem dX0_readLine_45 : decode cX0_readLine 45 = .ok (.getfield 33, 3) := by decide +kernel
theorem dX0_readLine_48 : decode cX0_readLine 48 = .ok (.iconst 4, 1) := by decide +kernel
theorem dX0_readLine_49 : decode cX0_readLine 49 = .ok (.imul, 1) := by decide +kernel
theorem dX0_readLine_50 : decode cX0_readLine 50 = .ok (.iload_n 1, 1) := by decide +kernel
theorem dX0_readLine_51 : decode cX0_readLine 51 = .ok (.iastore, 1) := by decide +kernel
theorem dX0_readLine_52 : decode cX0_readLine 52 = .ok (.iconst 1, 1) := by decide +kernel
theorem dX0_readLine_53 : decode cX0_readLine 53 = .ok (.istore_n 3, 1) := by decide +kernel
theorem dX0_readLine_54 : decode cX0_readLine 54 = .ok (.iload_n 3, 1) := by decide +kernel
theorem dX0_readLine_55 : decode cX0_readLine 55 = .ok (.iload_n 2, 1) := by decide +kernel
theorem dX0_readLine_56 : decode cX0_readLine 56 = .ok (.if_icmp .gt 35, 3) := by decide +kernel
theorem dX0_readLine_59 : decode cX0_readLine 59 = .ok (.aload_n 0, 1) := by decide +kernel
theorem dX0_readLine_60 : decode cX0_readLine 60 = .ok (.getfield 46, 3) := by decide +kernel
theorem dX0_readLine_63 : decode cX0_readLine 63 = .ok (.iconst (-1), 1) := by decide +kernel
theorem dX0_readLine_64 : decode cX0_readLine 64 = .ok (.if_icmp .ne 27, 3) := by decide +kernel
theorem dX0_readLine_67 : decode cX0_readLine 67 = .ok (.aload_n 0, 1) := by decide +kernel
theorem dX0_readLine_68 : decode cX0_readLine 68 = .ok (.bipush 32, 2) := by decide +kernel
theorem dX0_readLine_70 : decode cX0_readLine 70 = .ok (.invokevirtual 64, 3) := by decide +kernel
theorem dX0_readLine_73 : decode cX0_readLine 73 = .ok (.aload_n 0, 1) := by decide +kernel
theorem dX0_readLine_74 : decode cX0_readLine 74 = .ok (.aload_n 0, 1) := by decide +kernel
theorem dX0_readLine_75 : decode cX0_readLine 75 = .ok (.getfield 33, 3) := by decide +kernel
theorem dX0_readLine_78 : decode cX0_readLine 78 = .ok (.iconst 4, 1) := by decide +kernel
theorem dX0_readLine_79 : decode cX0_readLine 79 = .ok (.imul, 1) := by decide +kernel
theorem dX0_readLine_80 : decode cX0_readLine 80 = .ok (.iload_n 3, 1) := by decide +kernel
theorem dX0_readLine_81 : decode cX0_readLine 81 = .ok (.iadd, 1) := by decide +kernel
theorem dX0_readLine_82 : decode cX0_readLine 82 = .ok (.invokevirtual 68, 3) := by decide +kernel
theorem dX0_readLine_85 : decode cX0_readLine 85 = .ok (.iinc 3 1, 3) := by decide +kernel
theorem dX0_readLine_88 : decode cX0_readLine 88 = .ok (.goto (-34), 3) := by decide +kernel
theorem dX0_readLine_91 : decode cX0_readLine 91 = .ok (.aload_n 0, 1) := by decide +kernel
theorem dX0_readLine_92 : decode cX0_readLine 92 = .ok (.bipush 59, 2) := by decide +kernel
theorem dX0_readLine_94 : decode cX0_readLine 94 = .ok (.invokevirtual 64, 3) := by decide +kernel
theorem dX0_readLine_97 : decode cX0_readLine 97 = .ok (.return_, 1) := by decide +kernel
theorem dX0_numbersBehind_0 : decode cX0_numbersBehind 0 = .ok (.iload_n 0, 1) := by decide +kernel
theorem dX0_numbersBehind_1 : decode cX0_numbersBehind 1 = .ok (.tableswitch 89 100 116 #[83, 89, 89, 87, 83, 89, 89, 89, 83, 87, 89, 87, 89, 89, 89, 89, 85], 83) := by decide +kernel
theorem dX0_numbersBehind_84 : decode cX0_numbersBehind 84 = .ok (.iconst 3, 1) := by decide +kernel
theorem dX0_numbersBehind_85 : decode cX0_numbersBehind 85 = .ok (.ireturn, 1) := by decide +kernel
theorem dX0_numbersBehind_86 : decode cX0_numbersBehind 86 = .ok (.iconst 2, 1) := by decide +kernel
theorem dX0_numbersBehind_87 : decode cX0_numbersBehind 87 = .ok (.ireturn, 1) := by decide +kernel
theorem dX0_numbersBehind_88 : decode cX0_numbersBehind 88 = .ok (.iconst 1, 1) := by decide +kernel
theorem dX0_numbersBehind_89 : decode cX0_numbersBehind 89 = .ok (.ireturn, 1) := by decide +kernel
theorem dX0_numbersBehind_90 : decode cX0_numbersBehind 90 = .ok (.iconst 0, 1) := by decide +kernel
theorem dX0_numbersBehind_91 : decode cX0_numbersBehind 91 = .ok (.ireturn, 1) := by decide +kernel
theorem dX0_take_0 : decode cX0_take 0 = .ok (.aload_n 0, 1) := by decide +kernel
theorem dX0_take_1 : decode cX0_take 1 = .ok (.getfield 46, 3) := by decide +kernel
theorem dX0_take_4 : decode cX0_take 4 = .ok (.iconst (-1), 1) := by decide +kernel
theorem dX0_take_5 : decode cX0_take 5 = .ok (.if_icmp .eq 4, 3) := by decide +kernel
theorem dX0_take_8 : decode cX0_take 8 = .ok (.return_, 1) := by decide +kernel
theorem dX0_take_9 : decode cX0_take 9 = .ok (.aload_n 0, 1) := by decide +kernel
theorem dX0_take_10 : decode cX0_take 10 = .ok (.getfield 29, 3) := by decide +kernel
theorem dX0_take_13 : decode cX0_take 13 = .ok (.aload_n 0, 1) := by decide +kernel
theorem dX0_take_14 : decode cX0_take 14 = .ok (.getfield 43, 3) := by decide +kernel
theorem dX0_take_17 : decode cX0_take 17 = .ok (.invokevirtual 57, 3) := by decide +kernel
theorem dX0_take_20 : decode cX0_take 20 = .ok (.iload_n 1, 1) := by decide +kernel
theorem dX0_take_21 : decode cX0_take 21 = .ok (.if_icmp .ne 16, 3) := by decide +kernel
theorem dX0_take_24 : decode cX0_take 24 = .ok (.aload_n 0, 1) := by decide +kernel
theorem dX0_take_25 : decode cX0_take 25 = .ok (.dup, 1) := by decide +kernel
theorem dX0_take_26 : decode cX0_take 26 = .ok (.getfield 43, 3) := by decide +kernel
theorem dX0_take_29 : decode cX0_take 29 = .ok (.iconst 1, 1) := by decide +kernel
theorem dX0_take_30 : decode cX0_take 30 = .ok (.iadd, 1) := by decide +kernel
theorem dX0_take_31 : decode cX0_take 31 = .ok (.putfield 43, 3) := by decide +kernel
theorem dX0_take_34 : decode cX0_take 34 = .ok (.goto 11, 3) := by decide +kernel
theorem dX0_take_37 : decode cX0_take 37 = .ok (.aload_n 0, 1) := by decide +kernel
theorem dX0_take_38 : decode cX0_take 38 = .ok (.aload_n 0, 1) := by decide +kernel
theorem dX0_take_39 : decode cX0_take 39 = .ok (.getfield 43, 3) := by decide +kernel
theorem dX0_take_42 : decode cX0_take 42 = .ok (.putfield 46, 3) := by decide +kernel
theorem dX0_take_45 : decode cX0_take 45 = .ok (.return_, 1) := by decide +kernel
theorem dX0_readNumber_0 : decode cX0_readNumber 0 = .ok (.aload_n 0, 1) := by decide +kernel
theorem dX0_readNumber_1 : decode cX0_readNumber 1 = .ok (.getfield 46, 3) := by decide +kernel
theorem dX0_readNumber_4 : decode cX0_readNumber 4 = .ok (.iconst (-1), 1) := by decide +kernel
theorem dX0_readNumber_5 : decode cX0_readNumber 5 = .ok (.if_icmp .eq 4, 3) := by decide +kernel
theorem dX0_readNumber_8 : decode cX0_readNumber 8 = .ok (.return_, 1) := by decide +kernel
theorem dX0_readNumber_9 : decode cX0_readNumber 9 = .ok (.aload_n 0, 1) := by decide +kernel
theorem dX0_readNumber_10 : decode cX0_readNumber 10 = .ok (.getfield 29, 3) := by decide +kernel
theorem dX0_readNumber_13 : decode cX0_readNumber 13 = .ok (.aload_n 0, 1) := by decide +kernel
theorem dX0_readNumber_14 : decode cX0_readNumber 14 = .ok (.getfield 43, 3) := by decide +kernel
theorem dX0_readNumber_17 : decode cX0_readNumber 17 = .ok (.invokevirtual 72, 3) := by decide +kernel
theorem dX0_readNumber_20 : decode cX0_readNumber 20 = .ok (.istore_n 2, 1) := by decide +kernel
theorem dX0_readNumber_21 : decode cX0_readNumber 21 = .ok (.iload_n 2, 1) := by decide +kernel
theorem dX0_readNumber_22 : decode cX0_readNumber 22 = .ok (.ifCond .ne 12, 3) := by decide +kernel
theorem dX0_readNumber_25 : decode cX0_readNumber 25 = .ok (.aload_n 0, 1) := by decide +kernel
theorem dX0_readNumber_26 : decode cX0_readNumber 26 = .ok (.aload_n 0, 1) := by decide +kernel
theorem dX0_readNumber_27 : decode cX0_readNumber 27 = .ok (.getfield 43, 3) := by decide +kernel
theorem dX0_readNumber_30 : decode cX0_readNumber 30 = .ok (.putfield 46, 3) := by decide +kernel
theorem dX0_readNumber_33 : decode cX0_readNumber 33 = .ok (.return_, 1) := by decide +kernel
theorem dX0_readNumber_34 : decode cX0_readNumber 34 = .ok (.aload_n 0, 1) := by decide +kernel
theorem dX0_readNumber_35 : decode cX0_readNumber 35 = .ok (.getfield 26, 3) := by decide +kernel
theorem dX0_readNumber_38 : decode cX0_readNumber 38 = .ok (.iload_n 1, 1) := by decide +kernel
theorem dX0_readNumber_39 : decode cX0_readNumber 39 = .ok (.aload_n 0, 1) := by decide +kernel
theorem dX0_readNumber_40 : decode cX0_readNumber 40 = .ok (.getfield 29, 3) := by decide +kernel
theorem dX0_readNumber_43 : decode cX0_readNumber 43 = .ok (.aload_n 0, 1) := by decide +kernel
theorem dX0_readNumber_44 : decode cX0_readNumber 44 = .ok (.getfield 43, 3) := by decide +kernel
theorem dX0_readNumber_47 : decode cX0_readNumber 47 = .ok (.iload_n 2, 1) := by decide +kernel
theorem dX0_readNumber_48 : decode cX0_readNumber 48 = .ok (.invokevirtual 75, 3) := by decide +kernel
theorem dX0_readNumber_51 : decode cX0_readNumber 51 = .ok (.iastore, 1) := by decide +kernel
theorem dX0_readNumber_52 : decode cX0_readNumber 52 = .ok (.aload_n 0, 1) := by decide +kernel
theorem dX0_readNumber_53 : decode cX0_readNumber 53 = .ok (.dup, 1) := by decide +kernel
theorem dX0_readNumber_54 : decode cX0_readNumber 54 = .ok (.getfield 43, 3) := by decide +kernel
theorem dX0_readNumber_57 : decode cX0_readNumber 57 = .ok (.iload_n 2, 1) := by decide +kernel
theorem dX0_readNumber_58 : decode cX0_readNumber 58 = .ok (.iadd, 1) := by decide +kernel
theorem dX0_readNumber_59 : decode cX0_readNumber 59 = .ok (.putfield 43, 3) := by decide +kernel
theorem dX0_readNumber_62 : decode cX0_readNumber 62 = .ok (.return_, 1) := by decide +kernel
theorem dX1_init_0 : decode cX1_init 0 = .ok (.aload_n 0, 1) := by decide +kernel
theorem dX1_init_1 : decode cX1_init 1 = .ok (.invokespecial 3, 3) := by decide +kernel
theorem dX1_init_4 : decode cX1_init 4 = .ok (.aload_n 0, 1) := by decide +kernel
theorem dX1_init_5 : decode cX1_init 5 = .ok (.sipush 300, 3) := by decide +kernel
theorem dX1_init_8 : decode cX1_init 8 = .ok (.newarray .int, 2) := by decide +kernel
theorem dX1_init_10 : decode cX1_init 10 = .ok (.putfield 9, 3) := by decide +kernel
theorem dX1_init_13 : decode cX1_init 13 = .ok (.aload_n 0, 1) := by decide +kernel
theorem dX1_init_14 : decode cX1_init 14 = .ok (.bipush 100, 2) := by decide +kernel
theorem dX1_init_16 : decode cX1_init 16 = .ok (.newarray .int, 2) := by decide +kernel
theorem dX1_init_18 : decode cX1_init 18 = .ok (.putfield 15, 3) := by decide +kernel
theorem dX1_init_21 : decode cX1_init 21 = .ok (.aload_n 0, 1) := by decide +kernel
theorem dX1_init_22 : decode cX1_init 22 = .ok (.bipush 100, 2) := by decide +kernel
theorem dX1_init_24 : decode cX1_init 24 = .ok (.newarray .int, 2) := by decide +kernel
theorem dX1_init_26 : decode cX1_init 26 = .ok (.putfield 18, 3) := by decide +kernel
theorem dX1_init_29 : decode cX1_init 29 = .ok (.aload_n 0, 1) := by decide +kernel
theorem dX1_init_30 : decode cX1_init 30 = .ok (.bipush 8, 2) := by decide +kernel
theorem dX1_init_32 : decode cX1_init 32 = .ok (.newarray .int, 2) := by decide +kernel
theorem dX1_init_34 : decode cX1_init 34 = .ok (.putfield 21, 3) := by decide +kernel
theorem dX1_init_37 : decode cX1_init 37 = .ok (.aload_n 0, 1) := by decide +kernel
theorem dX1_init_38 : decode cX1_init 38 = .ok (.aload_n 1, 1) := by decide +kernel
theorem dX1_init_39 : decode cX1_init 39 = .ok (.putfield 24, 3) := by decide +kernel
theorem dX1_init_42 : decode cX1_init 42 = .ok (.aload_n 0, 1) := by decide +kernel
theorem dX1_init_43 : decode cX1_init 43 = .ok (.aload_n 2, 1) := by decide +kernel
theorem dX1_init_44 : decode cX1_init 44 = .ok (.putfield 28, 3) := by decide +kernel
theorem dX1_init_47 : decode cX1_init 47 = .ok (.aload_n 0, 1) := by decide +kernel
theorem dX1_init_48 : decode cX1_init 48 = .ok (.aload_n 2, 1) := by decide +kernel
theorem dX1_init_49 : decode cX1_init 49 = .ok (.getfield 32, 3) := by decide +kernel
theorem dX1_init_52 : decode cX1_init 52 = .ok (.putfield 38, 3) := by decide +kernel
theorem dX1_init_55 : decode cX1_init 55 = .ok (.aload_n 0, 1) := by decide +kernel
theorem dX1_init_56 : decode cX1_init 56 = .ok (.aload_n 2, 1) := by decide +kernel
theorem dX1_init_57 : decode cX1_init 57 = .ok (.getfield 39, 3) := by decide +kernel
theorem dX1_init_60 : decode cX1_init 60 = .ok (.putfield 43, 3) := by decide +kernel
theorem dX1_init_63 : decode cX1_init 63 = .ok (.aload_n 0, 1) := by decide +kernel
theorem dX1_init_64 : decode cX1_init 64 = .ok (.aload_n 3, 1) := by decide +kernel
theorem dX1_init_65 : decode cX1_init 65 = .ok (.putfield 44, 3) := by decide +kernel
theorem dX1_init_68 : decode cX1_init 68 = .ok (.aload_n 0, 1) := by decide +kernel
theorem dX1_init_69 : decode cX1_init 69 = .ok (.aload 4, 2) := by decide +kernel
theorem dX1_init_71 : decode cX1_init 71 = .ok (.putfield 48, 3) := by decide +kernel
theorem dX1_init_74 : decode cX1_init 74 = .ok (.return_, 1) := by decide +kernel
theorem dX1_groundOf_0 : decode cX1_groundOf 0 = .ok (.aload_n 0, 1) := by decide +kernel
theorem dX1_groundOf_1 : decode cX1_groundOf 1 = .ok (.getfield 43, 3) := by decide +kernel
theorem dX1_groundOf_4 : decode cX1_groundOf 4 = .ok (.iload_n 1, 1) := by decide +kernel
theorem dX1_groundOf_5 : decode cX1_groundOf 5 = .ok (.invokevirtual 52, 3) := by decide +kernel
theorem dX1_groundOf_8 : decode cX1_groundOf 8 = .ok (.aload_n 0, 1) := by decide +kernel
theorem dX1_groundOf_9 : decode cX1_groundOf 9 = .ok (.getfield 24, 3) := by decide +kernel
theorem dX1_groundOf_12 : decode cX1_groundOf 12 = .ok (.iload_n 1, 1) := by decide +kernel
theorem dX1_groundOf_13 : decode cX1_groundOf 13 = .ok (.invokevirtual 58, 3) := by decide +kernel
theorem dX1_groundOf_16 : decode cX1_groundOf 16 = .ok (.if_icmp .ge 5, 3) := by decide +kernel
theorem dX1_groundOf_19 : decode cX1_groundOf 19 = .ok (.iconst 1, 1) := by decide +kernel
theorem dX1_groundOf_20 : decode cX1_groundOf 20 = .ok (.ireturn, 1) := by decide +kernel
theorem dX1_groundOf_21 : decode cX1_groundOf 21 = .ok (.iconst 0, 1) := by decide +kernel
theorem dX1_groundOf_22 : decode cX1_groundOf 22 = .ok (.istore 4, 2) := by decide +kernel
theorem dX1_groundOf_24 : decode cX1_groundOf 24 = .ok (.iload 4, 2) := by decide +kernel
theorem dX1_groundOf_26 : decode cX1_groundOf 26 = .ok (.aload_n 0, 1) := by decide +kernel
theorem dX1_groundOf_27 : decode cX1_groundOf 27 = .ok (.getfield 43, 3) := by decide +kernel
theorem dX1_groundOf_30 : decode cX1_groundOf 30 = .ok (.getfield 63, 3) := by decide +kernel
theorem dX1_groundOf_33 : decode cX1_groundOf 33 = .ok (.if_icmp .ge 38, 3) := by decide +kernel
theorem dX1_groundOf_36 : decode cX1_groundOf 36 = .ok (.aload_n 0, 1) := by decide +kernel
theorem dX1_groundOf_37 : decode cX1_groundOf 37 = .ok (.getfield 43, 3) := by decide +kernel
theorem dX1_groundOf_40 : decode cX1_groundOf 40 = .ok (.getfield 67, 3) := by decide +kernel
theorem dX1_groundOf_43 : decode cX1_groundOf 43 = .ok (.iload 4, 2) := by decide +kernel
theorem dX1_groundOf_45 : decode cX1_groundOf 45 = .ok (.iaload, 1) := by decide +kernel
theorem dX1_groundOf_46 : decode cX1_groundOf 46 = .ok (.iload_n 1, 1) := by decide +kernel
theorem dX1_groundOf_47 : decode cX1_groundOf 47 = .ok (.if_icmp .ne 18, 3) := by decide +kernel
theorem dX1_groundOf_50 : decode cX1_groundOf 50 = .ok (.aload_n 0, 1) := by decide +kernel
theorem dX1_groundOf_51 : decode cX1_groundOf 51 = .ok (.getfield 28, 3) := by decide +kernel
theorem dX1_groundOf_54 : decode cX1_groundOf 54 = .ok (.iload 4, 2) := by decide +kernel
theorem dX1_groundOf_56 : decode cX1_groundOf 56 = .ok (.iload_n 2, 1) := by decide +kernel
theorem dX1_groundOf_57 : decode cX1_groundOf 57 = .ok (.invokevirtual 70, 3) := by decide +kernel
theorem dX1_groundOf_60 : decode cX1_groundOf 60 = .ok (.ifCond .eq 5, 3) := by decide +kernel
theorem dX1_groundOf_63 : decode cX1_groundOf 63 = .ok (.iconst 2, 1) := by decide +kernel
theorem dX1_groundOf_64 : decode cX1_groundOf 64 = .ok (.ireturn, 1) := by decide +kernel
theorem dX1_groundOf_65 : decode cX1_groundOf 65 = .ok (.iinc 4 1, 3) := by decide +kernel
theorem dX1_groundOf_68 : decode cX1_groundOf 68 = .ok (.goto (-44), 3) := by decide +kernel
theorem dX1_groundOf_71 : decode cX1_groundOf 71 = .ok (.aload_n 0, 1) := by decide +kernel
theorem dX1_groundOf_72 : decode cX1_groundOf 72 = .ok (.getfield 44, 3) := by decide +kernel
theorem dX1_groundOf_75 : decode cX1_groundOf 75 = .ok (.iload_n 1, 1) := by decide +kernel
theorem dX1_groundOf_76 : decode cX1_groundOf 76 = .ok (.iload_n 3, 1) := by decide +kernel
theorem dX1_groundOf_77 : decode cX1_groundOf 77 = .ok (.invokevirtual 74, 3) := by decide +kernel
theorem dX1_groundOf_80 : decode cX1_groundOf 80 = .ok (.ifCond .eq 7, 3) := by decide +kernel
theorem dX1_groundOf_83 : decode cX1_groundOf 83 = .ok (.iconst 3, 1) := by decide +kernel
theorem dX1_groundOf_84 : decode cX1_groundOf 84 = .ok (.goto 4, 3) := by decide +kernel
theorem dX1_groundOf_87 : decode cX1_groundOf 87 = .ok (.iconst 0, 1) := by decide +kernel
theorem dX1_groundOf_88 : decode cX1_groundOf 88 = .ok (.ireturn, 1) := by decide +kernel
theorem dX1_survey_0 : decode cX1_survey 0 = .ok (.aload_n 0, 1) := by decide +kernel
theorem dX1_survey_1 : decode cX1_survey 1 = .ok (.iconst 0, 1) := by decide +kernel
theorem dX1_survey_2 : decode cX1_survey 2 = .ok (.putfield 79, 3) := by decide +kernel
theorem dX1_survey_5 : decode cX1_survey 5 = .ok (.iconst 0, 1) := by decide +kernel
theorem dX1_survey_6 : decode cX1_survey 6 = .ok (.istore 4, 2) := by decide +kernel
theorem dX1_survey_8 : decode cX1_survey 8 = .ok (.iload 4, 2) := by decide +kernel
theorem dX1_survey_10 : decode cX1_survey 10 = .ok (.aload_n 0, 1) := by decide +kernel
theorem dX1_survey_11 : decode cX1_survey 11 = .ok (.getfield 43, 3) := by decide +kernel
theorem dX1_survey_14 : decode cX1_survey 14 = .ok (.getfield 63, 3) := by decide +kernel
theorem dX1_survey_17 : decode cX1_survey 17 = .ok (.if_icmp .ge 50, 3) := by decide +kernel
theorem dX1_survey_20 : decode cX1_survey 20 = .ok (.aload_n 0, 1) := by decide +kernel
theorem dX1_survey_21 : decode cX1_survey 21 = .ok (.getfield 43, 3) := by decide +kernel
theorem dX1_survey_24 : decode cX1_survey 24 = .ok (.getfield 67, 3) := by decide +kernel
theorem dX1_survey_27 : decode cX1_survey 27 = .ok (.iload 4, 2) := by decide +kernel
theorem dX1_survey_29 : decode cX1_survey 29 = .ok (.iaload, 1) := by decide +kernel
theorem dX1_survey_30 : decode cX1_survey 30 = .ok (.iload_n 1, 1) := by decide +kernel
theorem dX1_survey_31 : decode cX1_survey 31 = .ok (.if_icmp .ne 30, 3) := by decide +kernel
theorem dX1_survey_34 : decode cX1_survey 34 = .ok (.aload_n 0, 1) := by decide +kernel
theorem dX1_survey_35 : decode cX1_survey 35 = .ok (.getfield 43, 3) := by decide +kernel
theorem dX1_survey_38 : decode cX1_survey 38 = .ok (.getfield 82, 3) := by decide +kernel
theorem dX1_survey_41 : decode cX1_survey 41 = .ok (.iload 4, 2) := by decide +kernel
theorem dX1_survey_43 : decode cX1_survey 43 = .ok (.iaload, 1) := by decide +kernel
theorem dX1_survey_44 : decode cX1_survey 44 = .ok (.iload_n 2, 1) := by decide +kernel
theorem dX1_survey_45 : decode cX1_survey 45 = .ok (.if_icmp .eq 16, 3) := by decide +kernel
theorem dX1_survey_48 : decode cX1_survey 48 = .ok (.aload_n 0, 1) := by decide +kernel
theorem dX1_survey_49 : decode cX1_survey 49 = .ok (.iload 4, 2) := by decide +kernel
theorem dX1_survey_51 : decode cX1_survey 51 = .ok (.iload_n 3, 1) := by decide +kernel
theorem dX1_survey_52 : decode cX1_survey 52 = .ok (.invokevirtual 85, 3) := by decide +kernel
theorem dX1_survey_55 : decode cX1_survey 55 = .ok (.aload_n 0, 1) := by decide +kernel
theorem dX1_survey_56 : decode cX1_survey 56 = .ok (.iload 4, 2) := by decide +kernel
theorem dX1_survey_58 : decode cX1_survey 58 = .ok (.invokevirtual 89, 3) := by decide +kernel
theorem dX1_survey_61 : decode cX1_survey 61 = .ok (.iinc 4 1, 3) := by decide +kernel
theorem dX1_survey_64 : decode cX1_survey 64 = .ok (.goto (-56), 3) := by decide +kernel
theorem dX1_survey_67 : decode cX1_survey 67 = .ok (.return_, 1) := by decide +kernel
theorem dX1_look_0 : decode cX1_look 0 = .ok (.aload_n 0, 1) := by decide +kernel
theorem dX1_look_1 : decode cX1_look 1 = .ok (.getfield 28, 3) := by decide +kernel
theorem dX1_look_4 : decode cX1_look 4 = .ok (.iload_n 1, 1) := by decide +kernel
theorem dX1_look_5 : decode cX1_look 5 = .ok (.iload_n 2, 1) := by decide +kernel
theorem dX1_look_6 : decode cX1_look 6 = .ok (.invokevirtual 93, 3) := by decide +kernel
theorem dX1_look_9 : decode cX1_look 9 = .ok (.aload_n 0, 1) := by decide +kernel
theorem dX1_look_10 : decode cX1_look 10 = .ok (.getfield 28, 3) := by decide +kernel
theorem dX1_look_13 : decode cX1_look 13 = .ok (.getfield 96, 3) := by decide +kernel
theorem dX1_look_16 : decode cX1_look 16 = .ok (.iconst 0, 1) := by decide +kernel
theorem dX1_look_17 : decode cX1_look 17 = .ok (.aload_n 0, 1) := by decide +kernel
theorem dX1_look_18 : decode cX1_look 18 = .ok (.getfield 9, 3) := by decide +kernel
theorem dX1_look_21 : decode cX1_look 21 = .ok (.iload_n 1, 1) := by decide +kernel
theorem dX1_look_22 : decode cX1_look 22 = .ok (.iconst 3, 1) := by decide +kernel
theorem dX1_look_23 : decode cX1_look 23 = .ok (.imul, 1) := by decide +kernel
theorem dX1_look_24 : decode cX1_look 24 = .ok (.iconst 3, 1) := by decide +kernel
theorem dX1_look_25 : decode cX1_look 25 = .ok (.invokestatic 99, 3) := by decide +kernel
theorem dX1_look_28 : decode cX1_look 28 = .ok (.aload_n 0, 1) := by decide +kernel
theorem dX1_look_29 : decode cX1_look 29 = .ok (.getfield 15, 3) := by decide +kernel
theorem dX1_look_32 : decode cX1_look 32 = .ok (.iload_n 1, 1) := by decide +kernel
theorem dX1_look_33 : decode cX1_look 33 = .ok (.aload_n 0, 1) := by decide +kernel
theorem dX1_look_34 : decode cX1_look 34 = .ok (.getfield 43, 3) := by decide +kernel
theorem dX1_look_37 : decode cX1_look 37 = .ok (.getfield 105, 3) := by decide +kernel
theorem dX1_look_40 : decode cX1_look 40 = .ok (.iload_n 1, 1) := by decide +kernel
theorem dX1_look_41 : decode cX1_look 41 = .ok (.invokevirtual 109, 3) := by decide +kernel
theorem dX1_look_44 : decode cX1_look 44 = .ok (.iastore, 1) := by decide +kernel
theorem dX1_look_45 : decode cX1_look 45 = .ok (.return_, 1) := by decide +kernel
theorem dX1_judge_0 : decode cX1_judge 0 = .ok (.aload_n 0, 1) := by decide +kernel
theorem dX1_judge_1 : decode cX1_judge 1 = .ok (.getfield 79, 3) := by decide +kernel
theorem dX1_judge_4 : decode cX1_judge 4 = .ok (.aload_n 0, 1) := by decide +kernel
theorem dX1_judge_5 : decode cX1_judge 5 = .ok (.getfield 18, 3) := by decide +kernel
theorem dX1_judge_8 : decode cX1_judge 8 = .ok (.arraylength, 1) := by decide +kernel
theorem dX1_judge_9 : decode cX1_judge 9 = .ok (.if_icmp .ge 23, 3) := by decide +kernel
theorem dX1_judge_12 : decode cX1_judge 12 = .ok (.aload_n 0, 1) := by decide +kernel
theorem dX1_judge_13 : decode cX1_judge 13 = .ok (.getfield 18, 3) := by decide +kernel
theorem dX1_judge_16 : decode cX1_judge 16 = .ok (.aload_n 0, 1) := by decide +kernel
theorem dX1_judge_17 : decode cX1_judge 17 = .ok (.getfield 79, 3) := by decide +kernel
theorem dX1_judge_20 : decode cX1_judge 20 = .ok (.iload_n 1, 1) := by decide +kernel
theorem dX1_judge_21 : decode cX1_judge 21 = .ok (.iastore, 1) := by decide +kernel
theorem dX1_judge_22 : decode cX1_judge 22 = .ok (.aload_n 0, 1) := by decide +kernel
theorem dX1_judge_23 : decode cX1_judge 23 = .ok (.dup, 1) := by decide +kernel
theorem dX1_judge_24 : decode cX1_judge 24 = .ok (.getfield 79, 3) := by decide +kernel
theorem dX1_judge_27 : decode cX1_judge 27 = .ok (.iconst 1, 1) := by decide +kernel
theorem dX1_judge_28 : decode cX1_judge 28 = .ok (.iadd, 1) := by decide +kernel
theorem dX1_judge_29 : decode cX1_judge 29 = .ok (.putfield 79, 3) := by decide +kernel
theorem dX1_judge_32 : decode cX1_judge 32 = .ok (.return_, 1) := by decide +kernel
theorem dX1_priceOf_0 : decode cX1_priceOf 0 = .ok (.lconst 0, 1) := by decide +kernel
theorem dX1_priceOf_1 : decode cX1_priceOf 1 = .ok (.lstore_n 3, 1) := by decide +kernel
theorem dX1_priceOf_2 : decode cX1_priceOf 2 = .ok (.iconst 0, 1) := by decide +kernel
theorem dX1_priceOf_3 : decode cX1_priceOf 3 = .ok (.istore 5, 2) := by decide +kernel
theorem dX1_priceOf_5 : decode cX1_priceOf 5 = .ok (.iload 5, 2) := by decide +kernel
theorem dX1_priceOf_7 : decode cX1_priceOf 7 = .ok (.aload_n 0, 1) := by decide +kernel
theorem dX1_priceOf_8 : decode cX1_priceOf 8 = .ok (.getfield 48, 3) := by decide +kernel
theorem dX1_priceOf_11 : decode cX1_priceOf 11 = .ok (.getfield 114, 3) := by decide +kernel
theorem dX1_priceOf_14 : decode cX1_priceOf 14 = .ok (.iload_n 1, 1) := by decide +kernel
theorem dX1_priceOf_15 : decode cX1_priceOf 15 = .ok (.iaload, 1) := by decide +kernel
theorem dX1_priceOf_16 : decode cX1_priceOf 16 = .ok (.if_icmp .ge 21, 3) := by decide +kernel
theorem dX1_priceOf_19 : decode cX1_priceOf 19 = .ok (.lload_n 3, 1) := by decide +kernel
theorem dX1_priceOf_20 : decode cX1_priceOf 20 = .ok (.aload_n 0, 1) := by decide +kernel
theorem dX1_priceOf_21 : decode cX1_priceOf 21 = .ok (.iload_n 1, 1) := by decide +kernel
theorem dX1_priceOf_22 : decode cX1_priceOf 22 = .ok (.iload 5, 2) := by decide +kernel
theorem dX1_priceOf_24 : decode cX1_priceOf 24 = .ok (.iload_n 2, 1) := by decide +kernel
theorem dX1_priceOf_25 : decode cX1_priceOf 25 = .ok (.invokevirtual 119, 3) := by decide +kernel
theorem dX1_priceOf_28 : decode cX1_priceOf 28 = .ok (.i2l, 1) := by decide +kernel
theorem dX1_priceOf_29 : decode cX1_priceOf 29 = .ok (.ladd, 1) := by decide +kernel
theorem dX1_priceOf_30 : decode cX1_priceOf 30 = .ok (.lstore_n 3, 1) := by decide +kernel
theorem dX1_priceOf_31 : decode cX1_priceOf 31 = .ok (.iinc 5 1, 3) := by decide +kernel
theorem dX1_priceOf_34 : decode cX1_priceOf 34 = .ok (.goto (-29), 3) := by decide +kernel
theorem dX1_priceOf_37 : decode cX1_priceOf 37 = .ok (.lload_n 3, 1) := by decide +kernel
theorem dX1_priceOf_38 : decode cX1_priceOf 38 = .ok (.invokestatic 123, 3) := by decide +kernel
theorem dX1_priceOf_41 : decode cX1_priceOf 41 = .ok (.ireturn, 1) := by decide +kernel
theorem dX1_linePrice_0 : decode cX1_linePrice 0 = .ok (.aload_n 0, 1) := by decide +kernel
theorem dX1_linePrice_1 : decode cX1_linePrice 1 = .ok (.iload_n 1, 1) := by decide +kernel
theorem dX1_linePrice_2 : decode cX1_linePrice 2 = .ok (.iload_n 2, 1) := by decide +kernel
theorem dX1_linePrice_3 : decode cX1_linePrice 3 = .ok (.iload_n 3, 1) := by decide +kernel
theorem dX1_linePrice_4 : decode cX1_linePrice 4 = .ok (.invokevirtual 127, 3) := by decide +kernel
theorem dX1_linePrice_7 : decode cX1_linePrice 7 = .ok (.i2l, 1) := by decide +kernel
theorem dX1_linePrice_8 : decode cX1_linePrice 8 = .ok (.lstore 4, 2) := by decide +kernel
theorem dX1_linePrice_10 : decode cX1_linePrice 10 = .ok (.aload_n 0, 1) := by decide +kernel
theorem dX1_linePrice_11 : decode cX1_linePrice 11 = .ok (.getfield 48, 3) := by decide +kernel
theorem dX1_linePrice_14 : decode cX1_linePrice 14 = .ok (.iload_n 1, 1) := by decide +kernel
theorem dX1_linePrice_15 : decode cX1_linePrice 15 = .ok (.iload_n 2, 1) := by decide +kernel
theorem dX1_linePrice_16 : decode cX1_linePrice 16 = .ok (.invokevirtual 130, 3) := by decide +kernel
theorem dX1_linePrice_19 : decode cX1_linePrice 19 = .ok (.lookupswitch 68 #[(100, 41), (104, 41), (108, 41), (116, 59)], 41) := by decide +kernel
theorem dX1_linePrice_60 : decode cX1_linePrice 60 = .ok (.lload 4, 2) := by decide +kernel
theorem dX1_linePrice_62 : decode cX1_linePrice 62 = .ok (.aload_n 0, 1) := by decide +kernel
theorem dX1_linePrice_63 : decode cX1_linePrice 63 = .ok (.getfield 48, 3) := by decide +kernel
theorem dX1_linePrice_66 : decode cX1_linePrice 66 = .ok (.iload_n 1, 1) := by decide +kernel
theorem dX1_linePrice_67 : decode cX1_linePrice 67 = .ok (.iload_n 2, 1) := by decide +kernel
theorem dX1_linePrice_68 : decode cX1_linePrice 68 = .ok (.iconst 3, 1) := by decide +kernel
theorem dX1_linePrice_69 : decode cX1_linePrice 69 = .ok (.invokevirtual 134, 3) := by decide +kernel
theorem dX1_linePrice_72 : decode cX1_linePrice 72 = .ok (.i2l, 1) := by decide +kernel
theorem dX1_linePrice_73 : decode cX1_linePrice 73 = .ok (.lmul, 1) := by decide +kernel
theorem dX1_linePrice_74 : decode cX1_linePrice 74 = .ok (.invokestatic 123, 3) := by decide +kernel
theorem dX1_linePrice_77 : decode cX1_linePrice 77 = .ok (.ireturn, 1) := by decide +kernel
theorem dX1_linePrice_78 : decode cX1_linePrice 78 = .ok (.aload_n 0, 1) := by decide +kernel
theorem dX1_linePrice_79 : decode cX1_linePrice 79 = .ok (.iload_n 1, 1) := by decide +kernel
theorem dX1_linePrice_80 : decode cX1_linePrice 80 = .ok (.iload_n 2, 1) := by decide +kernel
theorem dX1_linePrice_81 : decode cX1_linePrice 81 = .ok (.lload 4, 2) := by decide +kernel
theorem dX1_linePrice_83 : decode cX1_linePrice 83 = .ok (.invokevirtual 137, 3) := by decide +kernel
theorem dX1_linePrice_86 : decode cX1_linePrice 86 = .ok (.ireturn, 1) := by decide +kernel
theorem dX1_linePrice_87 : decode cX1_linePrice 87 = .ok (.lload 4, 2) := by decide +kernel
theorem dX1_linePrice_89 : decode cX1_linePrice 89 = .ok (.aload_n 0, 1) := by decide +kernel
theorem dX1_linePrice_90 : decode cX1_linePrice 90 = .ok (.getfield 48, 3) := by decide +kernel
theorem dX1_linePrice_93 : decode cX1_linePrice 93 = .ok (.iload_n 1, 1) := by decide +kernel
theorem dX1_linePrice_94 : decode cX1_linePrice 94 = .ok (.iload_n 2, 1) := by decide +kernel
theorem dX1_linePrice_95 : decode cX1_linePrice 95 = .ok (.iconst 1, 1) := by decide +kernel
theorem dX1_linePrice_96 : decode cX1_linePrice 96 = .ok (.invokevirtual 134, 3) := by decide +kernel
theorem dX1_linePrice_99 : decode cX1_linePrice 99 = .ok (.i2l, 1) := by decide +kernel
theorem dX1_linePrice_100 : decode cX1_linePrice 100 = .ok (.lmul, 1) := by decide +kernel
theorem dX1_linePrice_101 : decode cX1_linePrice 101 = .ok (.invokestatic 123, 3) := by decide +kernel
theorem dX1_linePrice_104 : decode cX1_linePrice 104 = .ok (.ireturn, 1) := by decide +kernel
