theorem dX9_hasRoom_9 : decode cX9_hasRoom 9 = .ok (.if_icmp .gt 7, 3) := by decide +kernel
theorem dX9_hasRoom_12 : decode cX9_hasRoom 12 = .ok (.iconst 1, 1) := by decide +kernel
theorem dX9_hasRoom_13 : decode cX9_hasRoom 13 = .ok (.goto 4, 3) := by decide +kernel
theorem dX9_hasRoom_16 : decode cX9_hasRoom 16 = .ok (.iconst 0, 1) := by decide +kernel
theorem dX9_hasRoom_17 : decode cX9_hasRoom 17 = .ok (.ireturn, 1) := by decide +kernel
theorem dX9_add_0 : decode cX9_add 0 = .ok (.aload_n 0, 1) := by decide +kernel
theorem dX9_add_1 : decode cX9_add 1 = .ok (.getfield 43, 3) := by decide +kernel
theorem dX9_add_4 : decode cX9_add 4 = .ok (.sipush 500, 3) := by decide +kernel
theorem dX9_add_7 : decode cX9_add 7 = .ok (.if_icmp .lt 5, 3) := by decide +kernel
theorem dX9_add_10 : decode cX9_add 10 = .ok (.iconst (-1), 1) := by decide +kernel
theorem dX9_add_11 : decode cX9_add 11 = .ok (.ireturn, 1) := by decide +kernel
theorem dX9_add_12 : decode cX9_add 12 = .ok (.aload_n 0, 1) := by decide +kernel
theorem dX9_add_13 : decode cX9_add 13 = .ok (.getfield 9, 3) := by decide +kernel
theorem dX9_add_16 : decode cX9_add 16 = .ok (.aload_n 0, 1) := by decide +kernel
theorem dX9_add_17 : decode cX9_add 17 = .ok (.getfield 43, 3) := by decide +kernel
theorem dX9_add_20 : decode cX9_add 20 = .ok (.iload_n 2, 1) := by decide +kernel
theorem dX9_add_21 : decode cX9_add 21 = .ok (.iastore, 1) := by decide +kernel
theorem dX9_add_22 : decode cX9_add 22 = .ok (.aload_n 0, 1) := by decide +kernel
theorem dX9_add_23 : decode cX9_add 23 = .ok (.getfield 15, 3) := by decide +kernel
theorem dX9_add_26 : decode cX9_add 26 = .ok (.aload_n 0, 1) := by decide +kernel
theorem dX9_add_27 : decode cX9_add 27 = .ok (.getfield 43, 3) := by decide +kernel
theorem dX9_add_30 : decode cX9_add 30 = .ok (.iload_n 3, 1) := by decide +kernel
theorem dX9_add_31 : decode cX9_add 31 = .ok (.iastore, 1) := by decide +kernel
theorem dX9_add_32 : decode cX9_add 32 = .ok (.aload_n 0, 1) := by decide +kernel
theorem dX9_add_33 : decode cX9_add 33 = .ok (.getfield 18, 3) := by decide +kernel
theorem dX9_add_36 : decode cX9_add 36 = .ok (.aload_n 0, 1) := by decide +kernel
theorem dX9_add_37 : decode cX9_add 37 = .ok (.getfield 43, 3) := by decide +kernel
theorem dX9_add_40 : decode cX9_add 40 = .ok (.ldc 47, 2) := by decide +kernel
theorem dX9_add_42 : decode cX9_add 42 = .ok (.iastore, 1) := by decide +kernel
theorem dX9_add_43 : decode cX9_add 43 = .ok (.aload_n 0, 1) := by decide +kernel
theorem dX9_add_44 : decode cX9_add 44 = .ok (.getfield 21, 3) := by decide +kernel
theorem dX9_add_47 : decode cX9_add 47 = .ok (.aload_n 0, 1) := by decide +kernel
theorem dX9_add_48 : decode cX9_add 48 = .ok (.getfield 43, 3) := by decide +kernel
theorem dX9_add_51 : decode cX9_add 51 = .ok (.iload 4, 2) := by decide +kernel
theorem dX9_add_53 : decode cX9_add 53 = .ok (.iastore, 1) := by decide +kernel
theorem dX9_add_54 : decode cX9_add 54 = .ok (.aload_n 0, 1) := by decide +kernel
theorem dX9_add_55 : decode cX9_add 55 = .ok (.getfield 27, 3) := by decide +kernel
theorem dX9_add_58 : decode cX9_add 58 = .ok (.aload_n 0, 1) := by decide +kernel
theorem dX9_add_59 : decode cX9_add 59 = .ok (.getfield 43, 3) := by decide +kernel
theorem dX9_add_62 : decode cX9_add 62 = .ok (.iload 5, 2) := by decide +kernel
theorem dX9_add_64 : decode cX9_add 64 = .ok (.iastore, 1) := by decide +kernel
theorem dX9_add_65 : decode cX9_add 65 = .ok (.aload_n 0, 1) := by decide +kernel
theorem dX9_add_66 : decode cX9_add 66 = .ok (.iload_n 1, 1) := by decide +kernel
theorem dX9_add_67 : decode cX9_add 67 = .ok (.aload_n 0, 1) := by decide +kernel
theorem dX9_add_68 : decode cX9_add 68 = .ok (.getfield 43, 3) := by decide +kernel
theorem dX9_add_71 : decode cX9_add 71 = .ok (.invokevirtual 48, 3) := by decide +kernel
theorem dX9_add_74 : decode cX9_add 74 = .ok (.aload_n 0, 1) := by decide +kernel
theorem dX9_add_75 : decode cX9_add 75 = .ok (.dup, 1) := by decide +kernel
theorem dX9_add_76 : decode cX9_add 76 = .ok (.getfield 43, 3) := by decide +kernel
theorem dX9_add_79 : decode cX9_add 79 = .ok (.dup_x1, 1) := by decide +kernel
theorem dX9_add_80 : decode cX9_add 80 = .ok (.iconst 1, 1) := by decide +kernel
theorem dX9_add_81 : decode cX9_add 81 = .ok (.iadd, 1) := by decide +kernel
theorem dX9_add_82 : decode cX9_add 82 = .ok (.putfield 43, 3) := by decide +kernel
theorem dX9_add_85 : decode cX9_add 85 = .ok (.ireturn, 1) := by decide +kernel
theorem dX9_chain_0 : decode cX9_chain 0 = .ok (.iconst (-1), 1) := by decide +kernel
theorem dX9_chain_1 : decode cX9_chain 1 = .ok (.istore_n 3, 1) := by decide +kernel
theorem dX9_chain_2 : decode cX9_chain 2 = .ok (.aload_n 0, 1) := by decide +kernel
theorem dX9_chain_3 : decode cX9_chain 3 = .ok (.getfield 40, 3) := by decide +kernel
theorem dX9_chain_6 : decode cX9_chain 6 = .ok (.iload_n 1, 1) := by decide +kernel
theorem dX9_chain_7 : decode cX9_chain 7 = .ok (.iaload, 1) := by decide +kernel
theorem dX9_chain_8 : decode cX9_chain 8 = .ok (.istore 4, 2) := by decide +kernel
theorem dX9_chain_10 : decode cX9_chain 10 = .ok (.iconst 0, 1) := by decide +kernel
theorem dX9_chain_11 : decode cX9_chain 11 = .ok (.istore 5, 2) := by decide +kernel
theorem dX9_chain_13 : decode cX9_chain 13 = .ok (.iload 5, 2) := by decide +kernel
theorem dX9_chain_15 : decode cX9_chain 15 = .ok (.sipush 500, 3) := by decide +kernel
theorem dX9_chain_18 : decode cX9_chain 18 = .ok (.if_icmp .ge 43, 3) := by decide +kernel
theorem dX9_chain_21 : decode cX9_chain 21 = .ok (.iload 4, 2) := by decide +kernel
theorem dX9_chain_23 : decode cX9_chain 23 = .ok (.iconst (-1), 1) := by decide +kernel
theorem dX9_chain_24 : decode cX9_chain 24 = .ok (.if_icmp .eq 37, 3) := by decide +kernel
theorem dX9_chain_27 : decode cX9_chain 27 = .ok (.aload_n 0, 1) := by decide +kernel
theorem dX9_chain_28 : decode cX9_chain 28 = .ok (.getfield 15, 3) := by decide +kernel
theorem dX9_chain_31 : decode cX9_chain 31 = .ok (.iload 4, 2) := by decide +kernel
theorem dX9_chain_33 : decode cX9_chain 33 = .ok (.iaload, 1) := by decide +kernel
theorem dX9_chain_34 : decode cX9_chain 34 = .ok (.aload_n 0, 1) := by decide +kernel
theorem dX9_chain_35 : decode cX9_chain 35 = .ok (.getfield 15, 3) := by decide +kernel
theorem dX9_chain_38 : decode cX9_chain 38 = .ok (.iload_n 2, 1) := by decide +kernel
theorem dX9_chain_39 : decode cX9_chain 39 = .ok (.iaload, 1) := by decide +kernel
theorem dX9_chain_40 : decode cX9_chain 40 = .ok (.if_icmp .gt 21, 3) := by decide +kernel
theorem dX9_chain_43 : decode cX9_chain 43 = .ok (.iload 4, 2) := by decide +kernel
theorem dX9_chain_45 : decode cX9_chain 45 = .ok (.istore_n 3, 1) := by decide +kernel
theorem dX9_chain_46 : decode cX9_chain 46 = .ok (.aload_n 0, 1) := by decide +kernel
theorem dX9_chain_47 : decode cX9_chain 47 = .ok (.getfield 37, 3) := by decide +kernel
theorem dX9_chain_50 : decode cX9_chain 50 = .ok (.iload 4, 2) := by decide +kernel
theorem dX9_chain_52 : decode cX9_chain 52 = .ok (.iaload, 1) := by decide +kernel
theorem dX9_chain_53 : decode cX9_chain 53 = .ok (.istore 4, 2) := by decide +kernel
theorem dX9_chain_55 : decode cX9_chain 55 = .ok (.iinc 5 1, 3) := by decide +kernel
theorem dX9_chain_58 : decode cX9_chain 58 = .ok (.goto (-45), 3) := by decide +kernel
theorem dX9_chain_61 : decode cX9_chain 61 = .ok (.aload_n 0, 1) := by decide +kernel
theorem dX9_chain_62 : decode cX9_chain 62 = .ok (.getfield 37, 3) := by decide +kernel
theorem dX9_chain_65 : decode cX9_chain 65 = .ok (.iload_n 2, 1) := by decide +kernel
theorem dX9_chain_66 : decode cX9_chain 66 = .ok (.iload 4, 2) := by decide +kernel
theorem dX9_chain_68 : decode cX9_chain 68 = .ok (.iastore, 1) := by decide +kernel
theorem dX9_chain_69 : decode cX9_chain 69 = .ok (.iload_n 3, 1) := by decide +kernel
theorem dX9_chain_70 : decode cX9_chain 70 = .ok (.iconst (-1), 1) := by decide +kernel
theorem dX9_chain_71 : decode cX9_chain 71 = .ok (.if_icmp .ne 13, 3) := by decide +kernel
theorem dX9_chain_74 : decode cX9_chain 74 = .ok (.aload_n 0, 1) := by decide +kernel
theorem dX9_chain_75 : decode cX9_chain 75 = .ok (.getfield 40, 3) := by decide +kernel
theorem dX9_chain_78 : decode cX9_chain 78 = .ok (.iload_n 1, 1) := by decide +kernel
theorem dX9_chain_79 : decode cX9_chain 79 = .ok (.iload_n 2, 1) := by decide +kernel
theorem dX9_chain_80 : decode cX9_chain 80 = .ok (.iastore, 1) := by decide +kernel
theorem dX9_chain_81 : decode cX9_chain 81 = .ok (.goto 10, 3) := by decide +kernel
theorem dX9_chain_84 : decode cX9_chain 84 = .ok (.aload_n 0, 1) := by decide +kernel
theorem dX9_chain_85 : decode cX9_chain 85 = .ok (.getfield 37, 3) := by decide +kernel
theorem dX9_chain_88 : decode cX9_chain 88 = .ok (.iload_n 3, 1) := by decide +kernel
theorem dX9_chain_89 : decode cX9_chain 89 = .ok (.iload_n 2, 1) := by decide +kernel
theorem dX9_chain_90 : decode cX9_chain 90 = .ok (.iastore, 1) := by decide +kernel
theorem dX9_chain_91 : decode cX9_chain 91 = .ok (.return_, 1) := by decide +kernel
theorem dX9_end_0 : decode cX9_end 0 = .ok (.iload_n 1, 1) := by decide +kernel
theorem dX9_end_1 : decode cX9_end 1 = .ok (.ifCond .lt 11, 3) := by decide +kernel
theorem dX9_end_4 : decode cX9_end 4 = .ok (.iload_n 1, 1) := by decide +kernel
theorem dX9_end_5 : decode cX9_end 5 = .ok (.aload_n 0, 1) := by decide +kernel
theorem dX9_end_6 : decode cX9_end 6 = .ok (.getfield 43, 3) := by decide +kernel
theorem dX9_end_9 : decode cX9_end 9 = .ok (.if_icmp .lt 4, 3) := by decide +kernel
theorem dX9_end_12 : decode cX9_end 12 = .ok (.return_, 1) := by decide +kernel
theorem dX9_end_13 : decode cX9_end 13 = .ok (.aload_n 0, 1) := by decide +kernel
theorem dX9_end_14 : decode cX9_end 14 = .ok (.getfield 18, 3) := by decide +kernel
theorem dX9_end_17 : decode cX9_end 17 = .ok (.iload_n 1, 1) := by decide +kernel
theorem dX9_end_18 : decode cX9_end 18 = .ok (.iload_n 2, 1) := by decide +kernel
theorem dX9_end_19 : decode cX9_end 19 = .ok (.iastore, 1) := by decide +kernel
theorem dX9_end_20 : decode cX9_end 20 = .ok (.aload_n 0, 1) := by decide +kernel
theorem dX9_end_21 : decode cX9_end 21 = .ok (.getfield 24, 3) := by decide +kernel
theorem dX9_end_24 : decode cX9_end 24 = .ok (.iload_n 1, 1) := by decide +kernel
theorem dX9_end_25 : decode cX9_end 25 = .ok (.iload_n 3, 1) := by decide +kernel
theorem dX9_end_26 : decode cX9_end 26 = .ok (.iastore, 1) := by decide +kernel
theorem dX9_end_27 : decode cX9_end 27 = .ok (.aload_n 0, 1) := by decide +kernel
theorem dX9_end_28 : decode cX9_end 28 = .ok (.getfield 30, 3) := by decide +kernel
theorem dX9_end_31 : decode cX9_end 31 = .ok (.iload_n 1, 1) := by decide +kernel
theorem dX9_end_32 : decode cX9_end 32 = .ok (.iload 4, 2) := by decide +kernel
theorem dX9_end_34 : decode cX9_end 34 = .ok (.iastore, 1) := by decide +kernel
theorem dX9_end_35 : decode cX9_end 35 = .ok (.return_, 1) := by decide +kernel
theorem dX9_goesOn_0 : decode cX9_goesOn 0 = .ok (.aload_n 0, 1) := by decide +kernel
theorem dX9_goesOn_1 : decode cX9_goesOn 1 = .ok (.getfield 18, 3) := by decide +kernel
theorem dX9_goesOn_4 : decode cX9_goesOn 4 = .ok (.iload_n 1, 1) := by decide +kernel
theorem dX9_goesOn_5 : decode cX9_goesOn 5 = .ok (.iaload, 1) := by decide +kernel
theorem dX9_goesOn_6 : decode cX9_goesOn 6 = .ok (.ldc 47, 2) := by decide +kernel
theorem dX9_goesOn_8 : decode cX9_goesOn 8 = .ok (.if_icmp .ne 7, 3) := by decide +kernel
theorem dX9_goesOn_11 : decode cX9_goesOn 11 = .ok (.iconst 1, 1) := by decide +kernel
theorem dX9_goesOn_12 : decode cX9_goesOn 12 = .ok (.goto 4, 3) := by decide +kernel
theorem dX9_goesOn_15 : decode cX9_goesOn 15 = .ok (.iconst 0, 1) := by decide +kernel
theorem dX9_goesOn_16 : decode cX9_goesOn 16 = .ok (.ireturn, 1) := by decide +kernel
theorem dX9_isGap_0 : decode cX9_isGap 0 = .ok (.aload_n 0, 1) := by decide +kernel
theorem dX9_isGap_1 : decode cX9_isGap 1 = .ok (.iload_n 1, 1) := by decide +kernel
theorem dX9_isGap_2 : decode cX9_isGap 2 = .ok (.invokevirtual 52, 3) := by decide +kernel
theorem dX9_isGap_5 : decode cX9_isGap 5 = .ok (.ifCond .ne 16, 3) := by decide +kernel
theorem dX9_isGap_8 : decode cX9_isGap 8 = .ok (.aload_n 0, 1) := by decide +kernel
theorem dX9_isGap_9 : decode cX9_isGap 9 = .ok (.getfield 33, 3) := by decide +kernel
theorem dX9_isGap_12 : decode cX9_isGap 12 = .ok (.iload_n 1, 1) := by decide +kernel
theorem dX9_isGap_13 : decode cX9_isGap 13 = .ok (.baload, 1) := by decide +kernel
theorem dX9_isGap_14 : decode cX9_isGap 14 = .ok (.ifCond .ne 7, 3) := by decide +kernel
theorem dX9_isGap_17 : decode cX9_isGap 17 = .ok (.iconst 1, 1) := by decide +kernel
theorem dX9_isGap_18 : decode cX9_isGap 18 = .ok (.goto 4, 3) := by decide +kernel
theorem dX9_isGap_21 : decode cX9_isGap 21 = .ok (.iconst 0, 1) := by decide +kernel
theorem dX9_isGap_22 : decode cX9_isGap 22 = .ok (.ireturn, 1) := by decide +kernel
theorem dX9_usedAtStart_0 : decode cX9_usedAtStart 0 = .ok (.iload_n 2, 1) := by decide +kernel
theorem dX9_usedAtStart_1 : decode cX9_usedAtStart 1 = .ok (.ifCond .ne 12, 3) := by decide +kernel
theorem dX9_usedAtStart_4 : decode cX9_usedAtStart 4 = .ok (.aload_n 0, 1) := by decide +kernel
theorem dX9_usedAtStart_5 : decode cX9_usedAtStart 5 = .ok (.getfield 21, 3) := by decide +kernel
theorem dX9_usedAtStart_8 : decode cX9_usedAtStart 8 = .ok (.iload_n 1, 1) := by decide +kernel
theorem dX9_usedAtStart_9 : decode cX9_usedAtStart 9 = .ok (.iaload, 1) := by decide +kernel
theorem dX9_usedAtStart_10 : decode cX9_usedAtStart 10 = .ok (.goto 9, 3) := by decide +kernel
theorem dX9_usedAtStart_13 : decode cX9_usedAtStart 13 = .ok (.aload_n 0, 1) := by decide +kernel
theorem dX9_usedAtStart_14 : decode cX9_usedAtStart 14 = .ok (.getfield 27, 3) := by decide +kernel
theorem dX9_usedAtStart_17 : decode cX9_usedAtStart 17 = .ok (.iload_n 1, 1) := by decide +kernel
theorem dX9_usedAtStart_18 : decode cX9_usedAtStart 18 = .ok (.iaload, 1) := by decide +kernel
theorem dX9_usedAtStart_19 : decode cX9_usedAtStart 19 = .ok (.ireturn, 1) := by decide +kernel
theorem dX9_usedAtEnd_0 : decode cX9_usedAtEnd 0 = .ok (.iload_n 2, 1) := by decide +kernel
theorem dX9_usedAtEnd_1 : decode cX9_usedAtEnd 1 = .ok (.ifCond .ne 12, 3) := by decide +kernel
theorem dX9_usedAtEnd_4 : decode cX9_usedAtEnd 4 = .ok (.aload_n 0, 1) := by decide +kernel
theorem dX9_usedAtEnd_5 : decode cX9_usedAtEnd 5 = .ok (.getfield 24, 3) := by decide +kernel
theorem dX9_usedAtEnd_8 : decode cX9_usedAtEnd 8 = .ok (.iload_n 1, 1) := by decide +kernel
theorem dX9_usedAtEnd_9 : decode cX9_usedAtEnd 9 = .ok (.iaload, 1) := by decide +kernel
theorem dX9_usedAtEnd_10 : decode cX9_usedAtEnd 10 = .ok (.goto 9, 3) := by decide +kernel
theorem dX9_usedAtEnd_13 : decode cX9_usedAtEnd 13 = .ok (.aload_n 0, 1) := by decide +kernel
theorem dX9_usedAtEnd_14 : decode cX9_usedAtEnd 14 = .ok (.getfield 30, 3) := by decide +kernel
theorem dX9_usedAtEnd_17 : decode cX9_usedAtEnd 17 = .ok (.iload_n 1, 1) := by decide +kernel
theorem dX9_usedAtEnd_18 : decode cX9_usedAtEnd 18 = .ok (.iaload, 1) := by decide +kernel
theorem dX9_usedAtEnd_19 : decode cX9_usedAtEnd 19 = .ok (.ireturn, 1) := by decide +kernel
theorem dX9_at_0 : decode cX9_at 0 = .ok (.iload_n 2, 1) := by decide +kernel
theorem dX9_at_1 : decode cX9_at 1 = .ok (.ifCond .ge 7, 3) := by decide +kernel
theorem dX9_at_4 : decode cX9_at 4 = .ok (.iconst (-1), 1) := by decide +kernel
theorem dX9_at_5 : decode cX9_at 5 = .ok (.goto 9, 3) := by decide +kernel
theorem dX9_at_8 : decode cX9_at 8 = .ok (.aload_n 0, 1) := by decide +kernel
theorem dX9_at_9 : decode cX9_at 9 = .ok (.getfield 40, 3) := by decide +kernel
theorem dX9_at_12 : decode cX9_at 12 = .ok (.iload_n 1, 1) := by decide +kernel
theorem dX9_at_13 : decode cX9_at 13 = .ok (.iaload, 1) := by decide +kernel
theorem dX9_at_14 : decode cX9_at 14 = .ok (.istore_n 3, 1) := by decide +kernel
theorem dX9_at_15 : decode cX9_at 15 = .ok (.iconst 0, 1) := by decide +kernel
theorem dX9_at_16 : decode cX9_at 16 = .ok (.istore 4, 2) := by decide +kernel
theorem dX9_at_18 : decode cX9_at 18 = .ok (.iload 4, 2) := by decide +kernel
theorem dX9_at_20 : decode cX9_at 20 = .ok (.iload_n 2, 1) := by decide +kernel
theorem dX9_at_21 : decode cX9_at 21 = .ok (.if_icmp .ge 21, 3) := by decide +kernel
theorem dX9_at_24 : decode cX9_at 24 = .ok (.iload_n 3, 1) := by decide +kernel
theorem dX9_at_25 : decode cX9_at 25 = .ok (.iconst (-1), 1) := by decide +kernel
theorem dX9_at_26 : decode cX9_at 26 = .ok (.if_icmp .eq 16, 3) := by decide +kernel
theorem dX9_at_29 : decode cX9_at 29 = .ok (.aload_n 0, 1) := by decide +kernel
theorem dX9_at_30 : decode cX9_at 30 = .ok (.getfield 37, 3) := by decide +kernel
theorem dX9_at_33 : decode cX9_at 33 = .ok (.iload_n 3, 1) := by decide +kernel
theorem dX9_at_34 : decode cX9_at 34 = .ok (.iaload, 1) := by decide +kernel
theorem dX9_at_35 : decode cX9_at 35 = .ok (.istore_n 3, 1) := by decide +kernel
theorem dX9_at_36 : decode cX9_at 36 = .ok (.iinc 4 1, 3) := by decide +kernel
theorem dX9_at_39 : decode cX9_at 39 = .ok (.goto (-21), 3) := by decide +kernel
theorem dX9_at_42 : decode cX9_at 42 = .ok (.iload_n 3, 1) := by decide +kernel
theorem dX9_at_43 : decode cX9_at 43 = .ok (.ireturn, 1) := by decide +kernel
theorem dX9_aheadOf_0 : decode cX9_aheadOf 0 = .ok (.iconst (-1), 1) := by decide +kernel
theorem dX9_aheadOf_1 : decode cX9_aheadOf 1 = .ok (.istore_n 3, 1) := by decide +kernel
theorem dX9_aheadOf_2 : decode cX9_aheadOf 2 = .ok (.aload_n 0, 1) := by decide +kernel
theorem dX9_aheadOf_3 : decode cX9_aheadOf 3 = .ok (.getfield 40, 3) := by decide +kernel
theorem dX9_aheadOf_6 : decode cX9_aheadOf 6 = .ok (.iload_n 1, 1) := by decide +kernel
theorem dX9_aheadOf_7 : decode cX9_aheadOf 7 = .ok (.iaload, 1) := by decide +kernel
theorem dX9_aheadOf_8 : decode cX9_aheadOf 8 = .ok (.istore 4, 2) := by decide +kernel
theorem dX9_aheadOf_10 : decode cX9_aheadOf 10 = .ok (.iconst 0, 1) := by decide +kernel
theorem dX9_aheadOf_11 : decode cX9_aheadOf 11 = .ok (.istore 5, 2) := by decide +kernel
theorem dX9_aheadOf_13 : decode cX9_aheadOf 13 = .ok (.iload 5, 2) := by decide +kernel
theorem dX9_aheadOf_15 : decode cX9_aheadOf 15 = .ok (.sipush 500, 3) := by decide +kernel
theorem dX9_aheadOf_18 : decode cX9_aheadOf 18 = .ok (.if_icmp .ge 33, 3) := by decide +kernel
theorem dX9_aheadOf_21 : decode cX9_aheadOf 21 = .ok (.iload 4, 2) := by decide +kernel
theorem dX9_aheadOf_23 : decode cX9_aheadOf 23 = .ok (.iconst (-1), 1) := by decide +kernel
theorem dX9_aheadOf_24 : decode cX9_aheadOf 24 = .ok (.if_icmp .eq 27, 3) := by decide +kernel
theorem dX9_aheadOf_27 : decode cX9_aheadOf 27 = .ok (.iload 4, 2) := by decide +kernel
theorem dX9_aheadOf_29 : decode cX9_aheadOf 29 = .ok (.iload_n 2, 1) := by decide +kernel
theorem dX9_aheadOf_30 : decode cX9_aheadOf 30 = .ok (.if_icmp .eq 21, 3) := by decide +kernel
theorem dX9_aheadOf_33 : decode cX9_aheadOf 33 = .ok (.iload 4, 2) := by decide +kernel
theorem dX9_aheadOf_35 : decode cX9_aheadOf 35 = .ok (.istore_n 3, 1) := by decide +kernel
theorem dX9_aheadOf_36 : decode cX9_aheadOf 36 = .ok (.aload_n 0, 1) := by decide +kernel
theorem dX9_aheadOf_37 : decode cX9_aheadOf 37 = .ok (.getfield 37, 3) := by decide +kernel
theorem dX9_aheadOf_40 : decode cX9_aheadOf 40 = .ok (.iload 4, 2) := by decide +kernel
theorem dX9_aheadOf_42 : decode cX9_aheadOf 42 = .ok (.iaload, 1) := by decide +kernel
theorem dX9_aheadOf_43 : decode cX9_aheadOf 43 = .ok (.istore 4, 2) := by decide +kernel
theorem dX9_aheadOf_45 : decode cX9_aheadOf 45 = .ok (.iinc 5 1, 3) := by decide +kernel
theorem dX9_aheadOf_48 : decode cX9_aheadOf 48 = .ok (.goto (-35), 3) := by decide +kernel
theorem dX9_aheadOf_51 : decode cX9_aheadOf 51 = .ok (.iload_n 3, 1) := by decide +kernel
theorem dX9_aheadOf_52 : decode cX9_aheadOf 52 = .ok (.ireturn, 1) := by decide +kernel
theorem dX9_countOf_0 : decode cX9_countOf 0 = .ok (.iconst 0, 1) := by decide +kernel
theorem dX9_countOf_1 : decode cX9_countOf 1 = .ok (.istore_n 2, 1) := by decide +kernel
theorem dX9_countOf_2 : decode cX9_countOf 2 = .ok (.aload_n 0, 1) := by decide +kernel
theorem dX9_countOf_3 : decode cX9_countOf 3 = .ok (.getfield 40, 3) := by decide +kernel
theorem dX9_countOf_6 : decode cX9_countOf 6 = .ok (.iload_n 1, 1) := by decide +kernel
theorem dX9_countOf_7 : decode cX9_countOf 7 = .ok (.iaload, 1) := by decide +kernel
theorem dX9_countOf_8 : decode cX9_countOf 8 = .ok (.istore_n 3, 1) := by decide +kernel
theorem dX9_countOf_9 : decode cX9_countOf 9 = .ok (.iconst 0, 1) := by decide +kernel
theorem dX9_countOf_10 : decode cX9_countOf 10 = .ok (.istore 4, 2) := by decide +kernel
theorem dX9_countOf_12 : decode cX9_countOf 12 = .ok (.iload 4, 2) := by decide +kernel
theorem dX9_countOf_14 : decode cX9_countOf 14 = .ok (.sipush 500, 3) := by decide +kernel
theorem dX9_countOf_17 : decode cX9_countOf 17 = .ok (.if_icmp .ge 24, 3) := by decide +kernel
theorem dX9_countOf_20 : decode cX9_countOf 20 = .ok (.iload_n 3, 1) := by decide +kernel
theorem dX9_countOf_21 : decode cX9_countOf 21 = .ok (.iconst (-1), 1) := by decide +kernel
theorem dX9_countOf_22 : decode cX9_countOf 22 = .ok (.if_icmp .eq 19, 3) := by decide +kernel
theorem dX9_countOf_25 : decode cX9_countOf 25 = .ok (.iinc 2 1, 3) := by decide +kernel
theorem dX9_countOf_28 : decode cX9_countOf 28 = .ok (.aload_n 0, 1) := by decide +kernel
theorem dX9_countOf_29 : decode cX9_countOf 29 = .ok (.getfield 37, 3) := by decide +kernel
theorem dX9_countOf_32 : decode cX9_countOf 32 = .ok (.iload_n 3, 1) := by decide +kernel
theorem dX9_countOf_33 : decode cX9_countOf 33 = .ok (.iaload, 1) := by decide +kernel
theorem dX9_countOf_34 : decode cX9_countOf 34 = .ok (.istore_n 3, 1) := by decide +kernel
theorem dX9_countOf_35 : decode cX9_countOf 35 = .ok (.iinc 4 1, 3) := by decide +kernel
theorem dX9_countOf_38 : decode cX9_countOf 38 = .ok (.goto (-26), 3) := by decide +kernel
theorem dX9_countOf_41 : decode cX9_countOf 41 = .ok (.iload_n 2, 1) := by decide +kernel
theorem dX9_countOf_42 : decode cX9_countOf 42 = .ok (.ireturn, 1) := by decide +kernel
theorem dX9_gapsOf_0 : decode cX9_gapsOf 0 = .ok (.iconst 0, 1) := by decide +kernel
theorem dX9_gapsOf_1 : decode cX9_gapsOf 1 = .ok (.istore_n 2, 1) := by decide +kernel
theorem dX9_gapsOf_2 : decode cX9_gapsOf 2 = .ok (.aload_n 0, 1) := by decide +kernel
theorem dX9_gapsOf_3 : decode cX9_gapsOf 3 = .ok (.getfield 40, 3) := by decide +kernel
theorem dX9_gapsOf_6 : decode cX9_gapsOf 6 = .ok (.iload_n 1, 1) := by decide +kernel
theorem dX9_gapsOf_7 : decode cX9_gapsOf 7 = .ok (.iaload, 1) := by decide +kernel
theorem dX9_gapsOf_8 : decode cX9_gapsOf 8 = .ok (.istore_n 3, 1) := by decide +kernel
theorem dX9_gapsOf_9 : decode cX9_gapsOf 9 = .ok (.iconst 0, 1) := by decide +kernel
theorem dX9_gapsOf_10 : decode cX9_gapsOf 10 = .ok (.istore 4, 2) := by decide +kernel
theorem dX9_gapsOf_12 : decode cX9_gapsOf 12 = .ok (.iload 4, 2) := by decide +kernel
theorem dX9_gapsOf_14 : decode cX9_gapsOf 14 = .ok (.sipush 500, 3) := by decide +kernel
theorem dX9_gapsOf_17 : decode cX9_gapsOf 17 = .ok (.if_icmp .ge 37, 3) := by decide +kernel
theorem dX9_gapsOf_20 : decode cX9_gapsOf 20 = .ok (.iload_n 3, 1) := by decide +kernel
theorem dX9_gapsOf_21 : decode cX9_gapsOf 21 = .ok (.iconst (-1), 1) := by decide +kernel
theorem dX9_gapsOf_22 : decode cX9_gapsOf 22 = .ok (.if_icmp .eq 32, 3) := by decide +kernel
theorem dX9_gapsOf_25 : decode cX9_gapsOf 25 = .ok (.iload_n 2, 1) := by decide +kernel
theorem dX9_gapsOf_26 : decode cX9_gapsOf 26 = .ok (.aload_n 0, 1) := by decide +kernel
theorem dX9_gapsOf_27 : decode cX9_gapsOf 27 = .ok (.iload_n 3, 1) := by decide +kernel
theorem dX9_gapsOf_28 : decode cX9_gapsOf 28 = .ok (.invokevirtual 56, 3) := by decide +kernel
theorem dX9_gapsOf_31 : decode cX9_gapsOf 31 = .ok (.ifCond .eq 7, 3) := by decide +kernel
theorem dX9_gapsOf_34 : decode cX9_gapsOf 34 = .ok (.iconst 1, 1) := by decide +kernel
theorem dX9_gapsOf_35 : decode cX9_gapsOf 35 = .ok (.goto 4, 3) := by decide +kernel
theorem dX9_gapsOf_38 : decode cX9_gapsOf 38 = .ok (.iconst 0, 1) := by decide +kernel
theorem dX9_gapsOf_39 : decode cX9_gapsOf 39 = .ok (.iadd, 1) := by decide +kernel
theorem dX9_gapsOf_40 : decode cX9_gapsOf 40 = .ok (.istore_n 2, 1) := by decide +kernel
theorem dX9_gapsOf_41 : decode cX9_gapsOf 41 = .ok (.aload_n 0, 1) := by decide +kernel
theorem dX9_gapsOf_42 : decode cX9_gapsOf 42 = .ok (.getfield 37, 3) := by decide +kernel
theorem dX9_gapsOf_45 : decode cX9_gapsOf 45 = .ok (.iload_n 3, 1) := by decide +kernel
theorem dX9_gapsOf_46 : decode cX9_gapsOf 46 = .ok (.iaload, 1) := by decide +kernel
theorem dX9_gapsOf_47 : decode cX9_gapsOf 47 = .ok (.istore_n 3, 1) := by decide +kernel
theorem dX9_gapsOf_48 : decode cX9_gapsOf 48 = .ok (.iinc 4 1, 3) := by decide +kernel
theorem dX9_gapsOf_51 : decode cX9_gapsOf 51 = .ok (.goto (-39), 3) := by decide +kernel
theorem dX9_gapsOf_54 : decode cX9_gapsOf 54 = .ok (.iload_n 2, 1) := by decide +kernel
theorem dX9_gapsOf_55 : decode cX9_gapsOf 55 = .ok (.ireturn, 1) := by decide +kernel
theorem dX9_gapsAhead_0 : decode cX9_gapsAhead 0 = .ok (.iconst 0, 1) := by decide +kernel
theorem dX9_gapsAhead_1 : decode cX9_gapsAhead 1 = .ok (.istore_n 3, 1) := by decide +kernel
theorem dX9_gapsAhead_2 : decode cX9_gapsAhead 2 = .ok (.aload_n 0, 1) := by decide +kernel
theorem dX9_gapsAhead_3 : decode cX9_gapsAhead 3 = .ok (.getfield 40, 3) := by decide +kernel
theorem dX9_gapsAhead_6 : decode cX9_gapsAhead 6 = .ok (.iload_n 1, 1) := by decide +kernel
theorem dX9_gapsAhead_7 : decode cX9_gapsAhead 7 = .ok (.iaload, 1) := by decide +kernel
theorem dX9_gapsAhead_8 : decode cX9_gapsAhead 8 = .ok (.istore 4, 2) := by decide +kernel
theorem dX9_gapsAhead_10 : decode cX9_gapsAhead 10 = .ok (.iconst 1, 1) := by decide +kernel
theorem dX9_gapsAhead_11 : decode cX9_gapsAhead 11 = .ok (.istore 5, 2) := by decide +kernel
theorem dX9_gapsAhead_13 : decode cX9_gapsAhead 13 = .ok (.iconst 0, 1) := by decide +kernel
theorem dX9_gapsAhead_14 : decode cX9_gapsAhead 14 = .ok (.istore 6, 2) := by decide +kernel
theorem dX9_gapsAhead_16 : decode cX9_gapsAhead 16 = .ok (.iload 6, 2) := by decide +kernel
theorem dX9_gapsAhead_18 : decode cX9_gapsAhead 18 = .ok (.sipush 500, 3) := by decide +kernel
theorem dX9_gapsAhead_21 : decode cX9_gapsAhead 21 = .ok (.if_icmp .ge 85, 3) := by decide +kernel
theorem dX9_gapsAhead_24 : decode cX9_gapsAhead 24 = .ok (.iload 4, 2) := by decide +kernel
theorem dX9_gapsAhead_26 : decode cX9_gapsAhead 26 = .ok (.iconst (-1), 1) := by decide +kernel
theorem dX9_gapsAhead_27 : decode cX9_gapsAhead 27 = .ok (.if_icmp .eq 79, 3) := by decide +kernel
theorem dX9_gapsAhead_30 : decode cX9_gapsAhead 30 = .ok (.iload 4, 2) := by decide +kernel
theorem dX9_gapsAhead_32 : decode cX9_gapsAhead 32 = .ok (.iload_n 2, 1) := by decide +kernel
theorem dX9_gapsAhead_33 : decode cX9_gapsAhead 33 = .ok (.if_icmp .ne 9, 3) := by decide +kernel
theorem dX9_gapsAhead_36 : decode cX9_gapsAhead 36 = .ok (.iconst 0, 1) := by decide +kernel
theorem dX9_gapsAhead_37 : decode cX9_gapsAhead 37 = .ok (.istore 5, 2) := by decide +kernel
theorem dX9_gapsAhead_39 : decode cX9_gapsAhead 39 = .ok (.goto 52, 3) := by decide +kernel
theorem dX9_gapsAhead_42 : decode cX9_gapsAhead 42 = .ok (.aload_n 0, 1) := by decide +kernel
theorem dX9_gapsAhead_43 : decode cX9_gapsAhead 43 = .ok (.iload 4, 2) := by decide +kernel
theorem dX9_gapsAhead_45 : decode cX9_gapsAhead 45 = .ok (.invokevirtual 56, 3) := by decide +kernel
theorem dX9_gapsAhead_48 : decode cX9_gapsAhead 48 = .ok (.ifCond .eq 43, 3) := by decide +kernel
theorem dX9_gapsAhead_51 : decode cX9_gapsAhead 51 = .ok (.aload_n 0, 1) := by decide +kernel
theorem dX9_gapsAhead_52 : decode cX9_gapsAhead 52 = .ok (.getfield 18, 3) := by decide +kernel
theorem dX9_gapsAhead_55 : decode cX9_gapsAhead 55 = .ok (.iload 4, 2) := by decide +kernel
theorem dX9_gapsAhead_57 : decode cX9_gapsAhead 57 = .ok (.iaload, 1) := by decide +kernel
theorem dX9_gapsAhead_58 : decode cX9_gapsAhead 58 = .ok (.aload_n 0, 1) := by decide +kernel
theorem dX9_gapsAhead_59 : decode cX9_gapsAhead 59 = .ok (.getfield 18, 3) := by decide +kernel
theorem dX9_gapsAhead_62 : decode cX9_gapsAhead 62 = .ok (.iload_n 2, 1) := by decide +kernel
theorem dX9_gapsAhead_63 : decode cX9_gapsAhead 63 = .ok (.iaload, 1) := by decide +kernel
theorem dX9_gapsAhead_64 : decode cX9_gapsAhead 64 = .ok (.if_icmp .lt 24, 3) := by decide +kernel
theorem dX9_gapsAhead_67 : decode cX9_gapsAhead 67 = .ok (.iload 5, 2) := by decide +kernel
theorem dX9_gapsAhead_69 : decode cX9_gapsAhead 69 = .ok (.ifCond .eq 22, 3) := by decide +kernel
theorem dX9_gapsAhead_72 : decode cX9_gapsAhead 72 = .ok (.aload_n 0, 1) := by decide +kernel
theorem dX9_gapsAhead_73 : decode cX9_gapsAhead 73 = .ok (.getfield 18, 3) := by decide +kernel
theorem dX9_gapsAhead_76 : decode cX9_gapsAhead 76 = .ok (.iload 4, 2) := by decide +kernel
theorem dX9_gapsAhead_78 : decode cX9_gapsAhead 78 = .ok (.iaload, 1) := by decide +kernel
theorem dX9_gapsAhead_79 : decode cX9_gapsAhead 79 = .ok (.aload_n 0, 1) := by decide +kernel
theorem dX9_gapsAhead_80 : decode cX9_gapsAhead 80 = .ok (.getfield 18, 3) := by decide +kernel
theorem dX9_gapsAhead_83 : decode cX9_gapsAhead 83 = .ok (.iload_n 2, 1) := by decide +kernel
theorem dX9_gapsAhead_84 : decode cX9_gapsAhead 84 = .ok (.iaload, 1) := by decide +kernel
theorem dX9_gapsAhead_85 : decode cX9_gapsAhead 85 = .ok (.if_icmp .ne 6, 3) := by decide +kernel
theorem dX9_gapsAhead_88 : decode cX9_gapsAhead 88 = .ok (.iinc 3 1, 3) := by decide +kernel
theorem dX9_gapsAhead_91 : decode cX9_gapsAhead 91 = .ok (.aload_n 0, 1) := by decide +kernel
theorem dX9_gapsAhead_92 : decode cX9_gapsAhead 92 = .ok (.getfield 37, 3) := by decide +kernel
theorem dX9_gapsAhead_95 : decode cX9_gapsAhead 95 = .ok (.iload 4, 2) := by decide +kernel
theorem dX9_gapsAhead_97 : decode cX9_gapsAhead 97 = .ok (.iaload, 1) := by decide +kernel
theorem dX9_gapsAhead_98 : decode cX9_gapsAhead 98 = .ok (.istore 4, 2) := by decide +kernel
theorem dX9_gapsAhead_100 : decode cX9_gapsAhead 100 = .ok (.iinc 6 1, 3) := by decide +kernel
theorem dX9_gapsAhead_103 : decode cX9_gapsAhead 103 = .ok (.goto (-87), 3) := by decide +kernel
theorem dX9_gapsAhead_106 : decode cX9_gapsAhead 106 = .ok (.iload_n 3, 1) := by decide +kernel
theorem dX9_gapsAhead_107 : decode cX9_gapsAhead 107 = .ok (.ireturn, 1) := by decide +kernel
theorem dX9_overlap_0 : decode cX9_overlap 0 = .ok (.aload_n 0, 1) := by decide +kernel
theorem dX9_overlap_1 : decode cX9_overlap 1 = .ok (.getfield 40, 3) := by decide +kernel
theorem dX9_overlap_4 : decode cX9_overlap 4 = .ok (.iload_n 1, 1) := by decide +kernel
theorem dX9_overlap_5 : decode cX9_overlap 5 = .ok (.iaload, 1) := by decide +kernel
theorem dX9_overlap_6 : decode cX9_overlap 6 = .ok (.istore_n 3, 1) := by decide +kernel
theorem dX9_overlap_7 : decode cX9_overlap 7 = .ok (.iconst 0, 1) := by decide +kernel
theorem dX9_overlap_8 : decode cX9_overlap 8 = .ok (.istore 4, 2) := by decide +kernel
theorem dX9_overlap_10 : decode cX9_overlap 10 = .ok (.iload 4, 2) := by decide +kernel
theorem dX9_overlap_12 : decode cX9_overlap 12 = .ok (.sipush 500, 3) := by decide +kernel
theorem dX9_overlap_15 : decode cX9_overlap 15 = .ok (.if_icmp .ge 111, 3) := by decide +kernel
theorem dX9_overlap_18 : decode cX9_overlap 18 = .ok (.iload_n 3, 1) := by decide +kernel
theorem dX9_overlap_19 : decode cX9_overlap 19 = .ok (.iconst (-1), 1) := by decide +kernel
theorem dX9_overlap_20 : decode cX9_overlap 20 = .ok (.if_icmp .eq 106, 3) := by decide +kernel
theorem dX9_overlap_23 : decode cX9_overlap 23 = .ok (.aload_n 0, 1) := by decide +kernel
theorem dX9_overlap_24 : decode cX9_overlap 24 = .ok (.getfield 37, 3) := by decide +kernel
theorem dX9_overlap_27 : decode cX9_overlap 27 = .ok (.iload_n 3, 1) := by decide +kernel
theorem dX9_overlap_28 : decode cX9_overlap 28 = .ok (.iaload, 1) := by decide +kernel
theorem dX9_overlap_29 : decode cX9_overlap 29 = .ok (.istore 5, 2) := by decide +kernel
theorem dX9_overlap_31 : decode cX9_overlap 31 = .ok (.iconst 0, 1) := by decide +kernel
theorem dX9_overlap_32 : decode cX9_overlap 32 = .ok (.istore 6, 2) := by decide +kernel
theorem dX9_overlap_34 : decode cX9_overlap 34 = .ok (.iload 6, 2) := by decide +kernel
theorem dX9_overlap_36 : decode cX9_overlap 36 = .ok (.sipush 500, 3) := by decide +kernel
theorem dX9_overlap_39 : decode cX9_overlap 39 = .ok (.if_icmp .ge 74, 3) := by decide +kernel
theorem dX9_overlap_42 : decode cX9_overlap 42 = .ok (.iload 5, 2) := by decide +kernel
theorem dX9_overlap_44 : decode cX9_overlap 44 = .ok (.iconst (-1), 1) := by decide +kernel
theorem dX9_overlap_45 : decode cX9_overlap 45 = .ok (.if_icmp .eq 68, 3) := by decide +kernel
theorem dX9_overlap_48 : decode cX9_overlap 48 = .ok (.aload_n 0, 1) := by decide +kernel
theorem dX9_overlap_49 : decode cX9_overlap 49 = .ok (.getfield 9, 3) := by decide +kernel
theorem dX9_overlap_52 : decode cX9_overlap 52 = .ok (.iload_n 3, 1) := by decide +kernel
theorem dX9_overlap_53 : decode cX9_overlap 53 = .ok (.iaload, 1) := by decide +kernel
theorem dX9_overlap_54 : decode cX9_overlap 54 = .ok (.aload_n 0, 1) := by decide +kernel
theorem dX9_overlap_55 : decode cX9_overlap 55 = .ok (.getfield 9, 3) := by decide +kernel
theorem dX9_overlap_58 : decode cX9_overlap 58 = .ok (.iload 5, 2) := by decide +kernel
theorem dX9_overlap_60 : decode cX9_overlap 60 = .ok (.iaload, 1) := by decide +kernel
theorem dX9_overlap_61 : decode cX9_overlap 61 = .ok (.if_icmp .eq 37, 3) := by decide +kernel
theorem dX9_overlap_64 : decode cX9_overlap 64 = .ok (.aload_n 0, 1) := by decide +kernel
theorem dX9_overlap_65 : decode cX9_overlap 65 = .ok (.getfield 15, 3) := by decide +kernel
theorem dX9_overlap_68 : decode cX9_overlap 68 = .ok (.iload_n 3, 1) := by decide +kernel
theorem dX9_overlap_69 : decode cX9_overlap 69 = .ok (.iaload, 1) := by decide +kernel
theorem dX9_overlap_70 : decode cX9_overlap 70 = .ok (.aload_n 0, 1) := by decide +kernel
theorem dX9_overlap_71 : decode cX9_overlap 71 = .ok (.iload 5, 2) := by decide +kernel
theorem dX9_overlap_73 : decode cX9_overlap 73 = .ok (.iload_n 2, 1) := by decide +kernel
theorem dX9_overlap_74 : decode cX9_overlap 74 = .ok (.invokevirtual 59, 3) := by decide +kernel
theorem dX9_overlap_77 : decode cX9_overlap 77 = .ok (.if_icmp .ge 21, 3) := by decide +kernel
theorem dX9_overlap_80 : decode cX9_overlap 80 = .ok (.aload_n 0, 1) := by decide +kernel
theorem dX9_overlap_81 : decode cX9_overlap 81 = .ok (.getfield 15, 3) := by decide +kernel
theorem dX9_overlap_84 : decode cX9_overlap 84 = .ok (.iload 5, 2) := by decide +kernel
theorem dX9_overlap_86 : decode cX9_overlap 86 = .ok (.iaload, 1) := by decide +kernel
theorem dX9_overlap_87 : decode cX9_overlap 87 = .ok (.aload_n 0, 1) := by decide +kernel
theorem dX9_overlap_88 : decode cX9_overlap 88 = .ok (.iload_n 3, 1) := by decide +kernel
theorem dX9_overlap_89 : decode cX9_overlap 89 = .ok (.iload_n 2, 1) := by decide +kernel
theorem dX9_overlap_90 : decode cX9_overlap 90 = .ok (.invokevirtual 59, 3) := by decide +kernel
theorem dX9_overlap_93 : decode cX9_overlap 93 = .ok (.if_icmp .ge 5, 3) := by decide +kernel
theorem dX9_overlap_96 : decode cX9_overlap 96 = .ok (.iconst 1, 1) := by decide +kernel
theorem dX9_overlap_97 : decode cX9_overlap 97 = .ok (.ireturn, 1) := by decide +kernel
theorem dX9_overlap_98 : decode cX9_overlap 98 = .ok (.aload_n 0, 1) := by decide +kernel
theorem dX9_overlap_99 : decode cX9_overlap 99 = .ok (.getfield 37, 3) := by decide +kernel
theorem dX9_overlap_102 : decode cX9_overlap 102 = .ok (.iload 5, 2) := by decide +kernel
theorem dX9_overlap_104 : decode cX9_overlap 104 = .ok (.iaload, 1) := by decide +kernel
theorem dX9_overlap_105 : decode cX9_overlap 105 = .ok (.istore 5, 2) := by decide +kernel
theorem dX9_overlap_107 : decode cX9_overlap 107 = .ok (.iinc 6 1, 3) := by decide +kernel
theorem dX9_overlap_110 : decode cX9_overlap 110 = .ok (.goto (-76), 3) := by decide +kernel
theorem dX9_overlap_113 : decode cX9_overlap 113 = .ok (.aload_n 0, 1) := by decide +kernel
theorem dX9_overlap_114 : decode cX9_overlap 114 = .ok (.getfield 37, 3) := by decide +kernel
theorem dX9_overlap_117 : decode cX9_overlap 117 = .ok (.iload_n 3, 1) := by decide +kernel
theorem dX9_overlap_118 : decode cX9_overlap 118 = .ok (.iaload, 1) := by decide +kernel
theorem dX9_overlap_119 : decode cX9_overlap 119 = .ok (.istore_n 3, 1) := by decide +kernel
theorem dX9_overlap_120 : decode cX9_overlap 120 = .ok (.iinc 4 1, 3) := by decide +kernel
theorem dX9_overlap_123 : decode cX9_overlap 123 = .ok (.goto (-113), 3) := by decide +kernel
theorem dX9_overlap_126 : decode cX9_overlap 126 = .ok (.iconst 0, 1) := by decide +kernel
theorem dX9_overlap_127 : decode cX9_overlap 127 = .ok (.ireturn, 1) := by decide +kernel
theorem dX9_lastDay_0 : decode cX9_lastDay 0 = .ok (.aload_n 0, 1) := by decide +kernel
theorem dX9_lastDay_1 : decode cX9_lastDay 1 = .ok (.iload_n 1, 1) := by decide +kernel
theorem dX9_lastDay_2 : decode cX9_lastDay 2 = .ok (.invokevirtual 52, 3) := by decide +kernel
theorem dX9_lastDay_5 : decode cX9_lastDay 5 = .ok (.ifCond .eq 7, 3) := by decide +kernel
theorem dX9_lastDay_8 : decode cX9_lastDay 8 = .ok (.iload_n 2, 1) := by decide +kernel
theorem dX9_lastDay_9 : decode cX9_lastDay 9 = .ok (.goto 9, 3) := by decide +kernel
theorem dX9_lastDay_12 : decode cX9_lastDay 12 = .ok (.aload_n 0, 1) := by decide +kernel
theorem dX9_lastDay_13 : decode cX9_lastDay 13 = .ok (.getfield 18, 3) := by decide +kernel
theorem dX9_lastDay_16 : decode cX9_lastDay 16 = .ok (.iload_n 1, 1) := by decide +kernel
theorem dX9_lastDay_17 : decode cX9_lastDay 17 = .ok (.iaload, 1) := by decide +kernel
theorem dX9_lastDay_18 : decode cX9_lastDay 18 = .ok (.ireturn, 1) := by decide +kernel
theorem dX10_init_0 : decode cX10_init 0 = .ok (.aload_n 0, 1) := by decide +kernel
theorem dX10_init_1 : decode cX10_init 1 = .ok (.invokespecial 3, 3) := by decide +kernel
theorem dX10_init_4 : decode cX10_init 4 = .ok (.aload_n 0, 1) := by decide +kernel
theorem dX10_init_5 : decode cX10_init 5 = .ok (.bipush 120, 2) := by decide +kernel
theorem dX10_init_7 : decode cX10_init 7 = .ok (.newarray .int, 2) := by decide +kernel
theorem dX10_init_9 : decode cX10_init 9 = .ok (.putfield 9, 3) := by decide +kernel
theorem dX10_init_12 : decode cX10_init 12 = .ok (.return_, 1) := by decide +kernel
theorem dX10_take_0 : decode cX10_take 0 = .ok (.aload_n 0, 1) := by decide +kernel
theorem dX10_take_1 : decode cX10_take 1 = .ok (.getfield 15, 3) := by decide +kernel
theorem dX10_take_4 : decode cX10_take 4 = .ok (.iload_n 1, 1) := by decide +kernel
theorem dX10_take_5 : decode cX10_take 5 = .ok (.iadd, 1) := by decide +kernel
theorem dX10_take_6 : decode cX10_take 6 = .ok (.bipush 120, 2) := by decide +kernel
theorem dX10_take_8 : decode cX10_take 8 = .ok (.if_icmp .le 6, 3) := by decide +kernel
theorem dX10_take_11 : decode cX10_take 11 = .ok (.bipush (-3), 2) := by decide +kernel
theorem dX10_take_13 : decode cX10_take 13 = .ok (.ireturn, 1) := by decide +kernel
theorem dX10_take_14 : decode cX10_take 14 = .ok (.iconst 0, 1) := by decide +kernel
theorem dX10_take_15 : decode cX10_take 15 = .ok (.istore_n 3, 1) := by decide +kernel
theorem dX10_take_16 : decode cX10_take 16 = .ok (.iload_n 3, 1) := by decide +kernel
theorem dX10_take_17 : decode cX10_take 17 = .ok (.iload_n 1, 1) := by decide +kernel
theorem dX10_take_18 : decode cX10_take 18 = .ok (.if_icmp .ge 30, 3) := by decide +kernel
theorem dX10_take_21 : decode cX10_take 21 = .ok (.aload_n 0, 1) := by decide +kernel
theorem dX10_take_22 : decode cX10_take 22 = .ok (.getfield 9, 3) := by decide +kernel
theorem dX10_take_25 : decode cX10_take 25 = .ok (.aload_n 0, 1) := by decide +kernel
theorem dX10_take_26 : decode cX10_take 26 = .ok (.getfield 15, 3) := by decide +kernel
theorem dX10_take_29 : decode cX10_take 29 = .ok (.iload_n 3, 1) := by decide +kernel
theorem dX10_take_30 : decode cX10_take 30 = .ok (.iadd, 1) := by decide +kernel
theorem dX10_take_31 : decode cX10_take 31 = .ok (.iload_n 2, 1) := by decide +kernel
theorem dX10_take_32 : decode cX10_take 32 = .ok (.bipush 8, 2) := by decide +kernel
theorem dX10_take_34 : decode cX10_take 34 = .ok (.iload_n 3, 1) := by decide +kernel
theorem dX10_take_35 : decode cX10_take 35 = .ok (.imul, 1) := by decide +kernel
theorem dX10_take_36 : decode cX10_take 36 = .ok (.ishr, 1) := by decide +kernel
theorem dX10_take_37 : decode cX10_take 37 = .ok (.sipush 255, 3) := by decide +kernel
theorem dX10_take_40 : decode cX10_take 40 = .ok (.iand, 1) := by decide +kernel
theorem dX10_take_41 : decode cX10_take 41 = .ok (.iastore, 1) := by decide +kernel
theorem dX10_take_42 : decode cX10_take 42 = .ok (.iinc 3 1, 3) := by decide +kernel
theorem dX10_take_45 : decode cX10_take 45 = .ok (.goto (-29), 3) := by decide +kernel
theorem dX10_take_48 : decode cX10_take 48 = .ok (.aload_n 0, 1) := by decide +kernel
theorem dX10_take_49 : decode cX10_take 49 = .ok (.dup, 1) := by decide +kernel
theorem dX10_take_50 : decode cX10_take 50 = .ok (.getfield 15, 3) := by decide +kernel
theorem dX10_take_53 : decode cX10_take 53 = .ok (.iload_n 1, 1) := by decide +kernel
theorem dX10_take_54 : decode cX10_take 54 = .ok (.iadd, 1) := by decide +kernel
theorem dX10_take_55 : decode cX10_take 55 = .ok (.putfield 15, 3) := by decide +kernel
theorem dX10_take_58 : decode cX10_take 58 = .ok (.aload_n 0, 1) := by decide +kernel
theorem dX10_take_59 : decode cX10_take 59 = .ok (.getfield 15, 3) := by decide +kernel
theorem dX10_take_62 : decode cX10_take 62 = .ok (.ireturn, 1) := by decide +kernel
theorem dX10_at_0 : decode cX10_at 0 = .ok (.iload_n 1, 1) := by decide +kernel
theorem dX10_at_1 : decode cX10_at 1 = .ok (.ifCond .lt 20, 3) := by decide +kernel
theorem dX10_at_4 : decode cX10_at 4 = .ok (.iload_n 1, 1) := by decide +kernel
theorem dX10_at_5 : decode cX10_at 5 = .ok (.aload_n 0, 1) := by decide +kernel
theorem dX10_at_6 : decode cX10_at 6 = .ok (.getfield 15, 3) := by decide +kernel
theorem dX10_at_9 : decode cX10_at 9 = .ok (.if_icmp .ge 12, 3) := by decide +kernel
theorem dX10_at_12 : decode cX10_at 12 = .ok (.aload_n 0, 1) := by decide +kernel
theorem dX10_at_13 : decode cX10_at 13 = .ok (.getfield 9, 3) := by decide +kernel
theorem dX10_at_16 : decode cX10_at 16 = .ok (.iload_n 1, 1) := by decide +kernel
theorem dX10_at_17 : decode cX10_at 17 = .ok (.iaload, 1) := by decide +kernel
theorem dX10_at_18 : decode cX10_at 18 = .ok (.goto 4, 3) := by decide +kernel
theorem dX10_at_21 : decode cX10_at 21 = .ok (.iconst (-1), 1) := by decide +kernel
theorem dX10_at_22 : decode cX10_at 22 = .ok (.ireturn, 1) := by decide +kernel
theorem dX10_hasDigitAt_0 : decode cX10_hasDigitAt 0 = .ok (.aload_n 0, 1) := by decide +kernel
theorem dX10_hasDigitAt_1 : decode cX10_hasDigitAt 1 = .ok (.iload_n 1, 1) := by decide +kernel
theorem dX10_hasDigitAt_2 : decode cX10_hasDigitAt 2 = .ok (.invokevirtual 19, 3) := by decide +kernel
theorem dX10_hasDigitAt_5 : decode cX10_hasDigitAt 5 = .ok (.bipush 48, 2) := by decide +kernel
theorem dX10_hasDigitAt_7 : decode cX10_hasDigitAt 7 = .ok (.if_icmp .lt 17, 3) := by decide +kernel
theorem dX10_hasDigitAt_10 : decode cX10_hasDigitAt 10 = .ok (.aload_n 0, 1) := by decide +kernel
theorem dX10_hasDigitAt_11 : decode cX10_hasDigitAt 11 = .ok (.iload_n 1, 1) := by decide +kernel
theorem dX10_hasDigitAt_12 : decode cX10_hasDigitAt 12 = .ok (.invokevirtual 19, 3) := by decide +kernel
theorem dX10_hasDigitAt_15 : decode cX10_hasDigitAt 15 = .ok (.bipush 57, 2) := by decide +kernel
theorem dX10_hasDigitAt_17 : decode cX10_hasDigitAt 17 = .ok (.if_icmp .gt 7, 3) := by decide +kernel
theorem dX10_hasDigitAt_20 : decode cX10_hasDigitAt 20 = .ok (.iconst 1, 1) := by decide +kernel
theorem dX10_hasDigitAt_21 : decode cX10_hasDigitAt 21 = .ok (.goto 4, 3) := by decide +kernel
