theorem dX2_has_0 : decode cX2_has 0 = .ok (.iload_n 1, 1) := by decide +kernel
theorem dX2_has_1 : decode cX2_has 1 = .ok (.ifCond .lt 15, 3) := by decide +kernel
theorem dX2_has_16 : decode cX2_has 16 = .ok (.iconst 0, 1) := by decide +kernel
theorem dX2_has_17 : decode cX2_has 17 = .ok (.ireturn, 1) := by decide +kernel
theorem dX2_has_4 : decode cX2_has 4 = .ok (.iload_n 1, 1) := by decide +kernel
theorem dX2_has_5 : decode cX2_has 5 = .ok (.aload_n 0, 1) := by decide +kernel
theorem dX2_has_6 : decode cX2_has 6 = .ok (.getfield 21, 3) := by decide +kernel
theorem dX2_has_9 : decode cX2_has 9 = .ok (.if_icmp .ge 7, 3) := by decide +kernel
theorem dX2_has_12 : decode cX2_has 12 = .ok (.iconst 1, 1) := by decide +kernel
theorem dX2_has_13 : decode cX2_has 13 = .ok (.goto 4, 3) := by decide +kernel
theorem dX8_has_0 : decode cX8_has 0 = .ok (.iload_n 1, 1) := by decide +kernel
theorem dX8_has_1 : decode cX8_has 1 = .ok (.ifCond .lt 15, 3) := by decide +kernel
theorem dX8_has_16 : decode cX8_has 16 = .ok (.iconst 0, 1) := by decide +kernel
theorem dX8_has_17 : decode cX8_has 17 = .ok (.ireturn, 1) := by decide +kernel
theorem dX8_has_4 : decode cX8_has 4 = .ok (.iload_n 1, 1) := by decide +kernel
theorem dX8_has_5 : decode cX8_has 5 = .ok (.aload_n 0, 1) := by decide +kernel
theorem dX8_has_6 : decode cX8_has 6 = .ok (.getfield 39, 3) := by decide +kernel
theorem dX8_has_9 : decode cX8_has 9 = .ok (.if_icmp .ge 7, 3) := by decide +kernel
theorem dX8_has_12 : decode cX8_has 12 = .ok (.iconst 1, 1) := by decide +kernel
theorem dX8_has_13 : decode cX8_has 13 = .ok (.goto 4, 3) := by decide +kernel
theorem dX7_has_0 : decode cX7_has 0 = .ok (.iload_n 1, 1) := by decide +kernel
theorem dX7_has_1 : decode cX7_has 1 = .ok (.ifCond .lt 15, 3) := by decide +kernel
theorem dX7_has_16 : decode cX7_has 16 = .ok (.iconst 0, 1) := by decide +kernel
theorem dX7_has_17 : decode cX7_has 17 = .ok (.ireturn, 1) := by decide +kernel
theorem dX7_has_4 : decode cX7_has 4 = .ok (.iload_n 1, 1) := by decide +kernel
theorem dX7_has_5 : decode cX7_has 5 = .ok (.aload_n 0, 1) := by decide +kernel
theorem dX7_has_6 : decode cX7_has 6 = .ok (.getfield 31, 3) := by decide +kernel
theorem dX7_has_9 : decode cX7_has 9 = .ok (.if_icmp .ge 7, 3) := by decide +kernel
theorem dX7_has_12 : decode cX7_has 12 = .ok (.iconst 1, 1) := by decide +kernel
theorem dX7_has_13 : decode cX7_has 13 = .ok (.goto 4, 3) := by decide +kernel
theorem dX6_has_0 : decode cX6_has 0 = .ok (.iload_n 1, 1) := by decide +kernel
theorem dX6_has_1 : decode cX6_has 1 = .ok (.ifCond .lt 15, 3) := by decide +kernel
theorem dX6_has_16 : decode cX6_has 16 = .ok (.iconst 0, 1) := by decide +kernel
theorem dX6_has_17 : decode cX6_has 17 = .ok (.ireturn, 1) := by decide +kernel
theorem dX6_has_4 : decode cX6_has 4 = .ok (.iload_n 1, 1) := by decide +kernel
theorem dX6_has_5 : decode cX6_has 5 = .ok (.aload_n 0, 1) := by decide +kernel
theorem dX6_has_6 : decode cX6_has 6 = .ok (.getfield 26, 3) := by decide +kernel
theorem dX6_has_9 : decode cX6_has 9 = .ok (.if_icmp .ge 7, 3) := by decide +kernel
theorem dX6_has_12 : decode cX6_has 12 = .ok (.iconst 1, 1) := by decide +kernel
theorem dX6_has_13 : decode cX6_has 13 = .ok (.goto 4, 3) := by decide +kernel
theorem dX2_limitOf_0 : decode cX2_limitOf 0 = .ok (.aload_n 0, 1) := by decide +kernel
theorem dX2_limitOf_1 : decode cX2_limitOf 1 = .ok (.getfield 9, 3) := by decide +kernel
theorem dX2_limitOf_4 : decode cX2_limitOf 4 = .ok (.iload_n 1, 1) := by decide +kernel
theorem dX2_limitOf_5 : decode cX2_limitOf 5 = .ok (.iconst 3, 1) := by decide +kernel
theorem dX2_limitOf_6 : decode cX2_limitOf 6 = .ok (.imul, 1) := by decide +kernel
theorem dX2_limitOf_7 : decode cX2_limitOf 7 = .ok (.iload_n 2, 1) := by decide +kernel
theorem dX2_limitOf_8 : decode cX2_limitOf 8 = .ok (.iadd, 1) := by decide +kernel
theorem dX2_limitOf_9 : decode cX2_limitOf 9 = .ok (.iaload, 1) := by decide +kernel
theorem dX2_limitOf_10 : decode cX2_limitOf 10 = .ok (.ireturn, 1) := by decide +kernel
theorem dX8_isBack_0 : decode cX8_isBack 0 = .ok (.aload_n 0, 1) := by decide +kernel
theorem dX8_isBack_1 : decode cX8_isBack 1 = .ok (.getfield 24, 3) := by decide +kernel
theorem dX8_isBack_4 : decode cX8_isBack 4 = .ok (.iload_n 1, 1) := by decide +kernel
theorem dX8_isBack_5 : decode cX8_isBack 5 = .ok (.iaload, 1) := by decide +kernel
theorem dX8_isBack_6 : decode cX8_isBack 6 = .ok (.ifCond .lt 7, 3) := by decide +kernel
theorem dX8_isBack_13 : decode cX8_isBack 13 = .ok (.iconst 0, 1) := by decide +kernel
theorem dX8_isBack_14 : decode cX8_isBack 14 = .ok (.ireturn, 1) := by decide +kernel
theorem dX8_isBack_9 : decode cX8_isBack 9 = .ok (.iconst 1, 1) := by decide +kernel
theorem dX8_isBack_10 : decode cX8_isBack 10 = .ok (.goto 4, 3) := by decide +kernel
theorem dX8_close_0 : decode cX8_close 0 = .ok (.aload_n 0, 1) := by decide +kernel
theorem dX8_close_1 : decode cX8_close 1 = .ok (.getfield 21, 3) := by decide +kernel
theorem dX8_close_4 : decode cX8_close 4 = .ok (.iload_n 1, 1) := by decide +kernel
theorem dX8_close_5 : decode cX8_close 5 = .ok (.iload_n 2, 1) := by decide +kernel
theorem dX8_close_6 : decode cX8_close 6 = .ok (.iastore, 1) := by decide +kernel
theorem dX8_close_7 : decode cX8_close 7 = .ok (.aload_n 0, 1) := by decide +kernel
theorem dX8_close_8 : decode cX8_close 8 = .ok (.getfield 24, 3) := by decide +kernel
theorem dX8_close_11 : decode cX8_close 11 = .ok (.iload_n 1, 1) := by decide +kernel
theorem dX8_close_12 : decode cX8_close 12 = .ok (.iload_n 3, 1) := by decide +kernel
theorem dX8_close_13 : decode cX8_close 13 = .ok (.iastore, 1) := by decide +kernel
theorem dX8_close_14 : decode cX8_close 14 = .ok (.return_, 1) := by decide +kernel
theorem dX8_backs_0 : decode cX8_backs 0 = .ok (.iconst 0, 1) := by decide +kernel
theorem dX8_backs_1 : decode cX8_backs 1 = .ok (.istore_n 1, 1) := by decide +kernel
theorem dX8_backs_2 : decode cX8_backs 2 = .ok (.iconst 0, 1) := by decide +kernel
theorem dX8_backs_3 : decode cX8_backs 3 = .ok (.istore_n 2, 1) := by decide +kernel
theorem dX8_backs_4 : decode cX8_backs 4 = .ok (.iload_n 2, 1) := by decide +kernel
theorem dX8_backs_5 : decode cX8_backs 5 = .ok (.aload_n 0, 1) := by decide +kernel
theorem dX8_backs_6 : decode cX8_backs 6 = .ok (.getfield 39, 3) := by decide +kernel
theorem dX8_backs_9 : decode cX8_backs 9 = .ok (.if_icmp .ge 25, 3) := by decide +kernel
theorem dX8_backs_34 : decode cX8_backs 34 = .ok (.iload_n 1, 1) := by decide +kernel
theorem dX8_backs_35 : decode cX8_backs 35 = .ok (.ireturn, 1) := by decide +kernel
theorem dX8_backs_12 : decode cX8_backs 12 = .ok (.iload_n 1, 1) := by decide +kernel
theorem dX8_backs_13 : decode cX8_backs 13 = .ok (.aload_n 0, 1) := by decide +kernel
theorem dX8_backs_14 : decode cX8_backs 14 = .ok (.iload_n 2, 1) := by decide +kernel
theorem dX8_backs_15 : decode cX8_backs 15 = .ok (.invokevirtual 43, 3) := by decide +kernel
theorem dX8_backs_18 : decode cX8_backs 18 = .ok (.ifCond .eq 7, 3) := by decide +kernel
theorem dX8_backs_25 : decode cX8_backs 25 = .ok (.iconst 0, 1) := by decide +kernel
theorem dX8_backs_26 : decode cX8_backs 26 = .ok (.iadd, 1) := by decide +kernel
theorem dX8_backs_27 : decode cX8_backs 27 = .ok (.istore_n 1, 1) := by decide +kernel
theorem dX8_backs_28 : decode cX8_backs 28 = .ok (.iinc 2 1, 3) := by decide +kernel
theorem dX8_backs_31 : decode cX8_backs 31 = .ok (.goto (-27), 3) := by decide +kernel
theorem dX8_backs_21 : decode cX8_backs 21 = .ok (.iconst 1, 1) := by decide +kernel
theorem dX8_backs_22 : decode cX8_backs 22 = .ok (.goto 4, 3) := by decide +kernel
theorem dX8_needOf_0 : decode cX8_needOf 0 = .ok (.aload_n 0, 1) := by decide +kernel
theorem dX8_needOf_1 : decode cX8_needOf 1 = .ok (.getfield 33, 3) := by decide +kernel
theorem dX8_needOf_4 : decode cX8_needOf 4 = .ok (.iload_n 1, 1) := by decide +kernel
theorem dX8_needOf_5 : decode cX8_needOf 5 = .ok (.bipush 10, 2) := by decide +kernel
theorem dX8_needOf_7 : decode cX8_needOf 7 = .ok (.imul, 1) := by decide +kernel
theorem dX8_needOf_8 : decode cX8_needOf 8 = .ok (.iload_n 2, 1) := by decide +kernel
theorem dX8_needOf_9 : decode cX8_needOf 9 = .ok (.iadd, 1) := by decide +kernel
theorem dX8_needOf_10 : decode cX8_needOf 10 = .ok (.iaload, 1) := by decide +kernel
theorem dX8_needOf_11 : decode cX8_needOf 11 = .ok (.ireturn, 1) := by decide +kernel
theorem dX8_changeNeed_0 : decode cX8_changeNeed 0 = .ok (.aload_n 0, 1) := by decide +kernel
theorem dX8_changeNeed_1 : decode cX8_changeNeed 1 = .ok (.iload_n 1, 1) := by decide +kernel
theorem dX8_changeNeed_2 : decode cX8_changeNeed 2 = .ok (.iload_n 2, 1) := by decide +kernel
theorem dX8_changeNeed_3 : decode cX8_changeNeed 3 = .ok (.invokevirtual 47, 3) := by decide +kernel
theorem dX8_changeNeed_6 : decode cX8_changeNeed 6 = .ok (.istore 4, 2) := by decide +kernel
theorem dX8_changeNeed_8 : decode cX8_changeNeed 8 = .ok (.aload_n 0, 1) := by decide +kernel
theorem dX8_changeNeed_9 : decode cX8_changeNeed 9 = .ok (.getfield 33, 3) := by decide +kernel
theorem dX8_changeNeed_12 : decode cX8_changeNeed 12 = .ok (.iload_n 1, 1) := by decide +kernel
theorem dX8_changeNeed_13 : decode cX8_changeNeed 13 = .ok (.bipush 10, 2) := by decide +kernel
theorem dX8_changeNeed_15 : decode cX8_changeNeed 15 = .ok (.imul, 1) := by decide +kernel
theorem dX8_changeNeed_16 : decode cX8_changeNeed 16 = .ok (.iload_n 2, 1) := by decide +kernel
theorem dX8_changeNeed_17 : decode cX8_changeNeed 17 = .ok (.iadd, 1) := by decide +kernel
theorem dX8_changeNeed_18 : decode cX8_changeNeed 18 = .ok (.iload_n 3, 1) := by decide +kernel
theorem dX8_changeNeed_19 : decode cX8_changeNeed 19 = .ok (.iastore, 1) := by decide +kernel
theorem dX8_changeNeed_20 : decode cX8_changeNeed 20 = .ok (.iload 4, 2) := by decide +kernel
theorem dX8_changeNeed_22 : decode cX8_changeNeed 22 = .ok (.ireturn, 1) := by decide +kernel
theorem dX8_needOfAll_0 : decode cX8_needOfAll 0 = .ok (.iconst 0, 1) := by decide +kernel
theorem dX8_needOfAll_1 : decode cX8_needOfAll 1 = .ok (.istore_n 2, 1) := by decide +kernel
theorem dX8_needOfAll_2 : decode cX8_needOfAll 2 = .ok (.iconst 0, 1) := by decide +kernel
theorem dX8_needOfAll_3 : decode cX8_needOfAll 3 = .ok (.istore_n 3, 1) := by decide +kernel
theorem dX8_needOfAll_4 : decode cX8_needOfAll 4 = .ok (.iload_n 3, 1) := by decide +kernel
theorem dX8_needOfAll_5 : decode cX8_needOfAll 5 = .ok (.bipush 10, 2) := by decide +kernel
theorem dX8_needOfAll_7 : decode cX8_needOfAll 7 = .ok (.if_icmp .ge 18, 3) := by decide +kernel
theorem dX8_needOfAll_25 : decode cX8_needOfAll 25 = .ok (.iload_n 2, 1) := by decide +kernel
theorem dX8_needOfAll_26 : decode cX8_needOfAll 26 = .ok (.ireturn, 1) := by decide +kernel
theorem dX8_needOfAll_10 : decode cX8_needOfAll 10 = .ok (.iload_n 2, 1) := by decide +kernel
theorem dX8_needOfAll_11 : decode cX8_needOfAll 11 = .ok (.aload_n 0, 1) := by decide +kernel
theorem dX8_needOfAll_12 : decode cX8_needOfAll 12 = .ok (.iload_n 1, 1) := by decide +kernel
theorem dX8_needOfAll_13 : decode cX8_needOfAll 13 = .ok (.iload_n 3, 1) := by decide +kernel
theorem dX8_needOfAll_14 : decode cX8_needOfAll 14 = .ok (.invokevirtual 47, 3) := by decide +kernel
theorem dX8_needOfAll_17 : decode cX8_needOfAll 17 = .ok (.iadd, 1) := by decide +kernel
theorem dX8_needOfAll_18 : decode cX8_needOfAll 18 = .ok (.istore_n 2, 1) := by decide +kernel
theorem dX8_needOfAll_19 : decode cX8_needOfAll 19 = .ok (.iinc 3 1, 3) := by decide +kernel
theorem dX8_needOfAll_22 : decode cX8_needOfAll 22 = .ok (.goto (-18), 3) := by decide +kernel
theorem dX8_canFly_0 : decode cX8_canFly 0 = .ok (.aload_n 0, 1) := by decide +kernel
theorem dX8_canFly_1 : decode cX8_canFly 1 = .ok (.getfield 15, 3) := by decide +kernel
theorem dX8_canFly_4 : decode cX8_canFly 4 = .ok (.iload_n 1, 1) := by decide +kernel
theorem dX8_canFly_5 : decode cX8_canFly 5 = .ok (.iaload, 1) := by decide +kernel
theorem dX8_canFly_6 : decode cX8_canFly 6 = .ok (.iload_n 2, 1) := by decide +kernel
theorem dX8_canFly_7 : decode cX8_canFly 7 = .ok (.iadd, 1) := by decide +kernel
theorem dX8_canFly_8 : decode cX8_canFly 8 = .ok (.ldc 51, 2) := by decide +kernel
theorem dX8_canFly_10 : decode cX8_canFly 10 = .ok (.if_icmp .gt 20, 3) := by decide +kernel
theorem dX8_canFly_30 : decode cX8_canFly 30 = .ok (.iconst 0, 1) := by decide +kernel
theorem dX8_canFly_31 : decode cX8_canFly 31 = .ok (.ireturn, 1) := by decide +kernel
theorem dX8_canFly_13 : decode cX8_canFly 13 = .ok (.aload_n 0, 1) := by decide +kernel
theorem dX8_canFly_14 : decode cX8_canFly 14 = .ok (.getfield 18, 3) := by decide +kernel
theorem dX8_canFly_17 : decode cX8_canFly 17 = .ok (.iload_n 1, 1) := by decide +kernel
theorem dX8_canFly_18 : decode cX8_canFly 18 = .ok (.iaload, 1) := by decide +kernel
theorem dX8_canFly_19 : decode cX8_canFly 19 = .ok (.iload_n 3, 1) := by decide +kernel
theorem dX8_canFly_20 : decode cX8_canFly 20 = .ok (.iadd, 1) := by decide +kernel
theorem dX8_canFly_21 : decode cX8_canFly 21 = .ok (.ldc 51, 2) := by decide +kernel
theorem dX8_canFly_23 : decode cX8_canFly 23 = .ok (.if_icmp .gt 7, 3) := by decide +kernel
theorem dX8_canFly_26 : decode cX8_canFly 26 = .ok (.iconst 1, 1) := by decide +kernel
theorem dX8_canFly_27 : decode cX8_canFly 27 = .ok (.goto 4, 3) := by decide +kernel
theorem dX8_wear_0 : decode cX8_wear 0 = .ok (.aload_n 0, 1) := by decide +kernel
theorem dX8_wear_1 : decode cX8_wear 1 = .ok (.getfield 15, 3) := by decide +kernel
theorem dX8_wear_4 : decode cX8_wear 4 = .ok (.iload_n 1, 1) := by decide +kernel
theorem dX8_wear_5 : decode cX8_wear 5 = .ok (.dup2, 1) := by decide +kernel
theorem dX8_wear_6 : decode cX8_wear 6 = .ok (.iaload, 1) := by decide +kernel
theorem dX8_wear_7 : decode cX8_wear 7 = .ok (.iload_n 2, 1) := by decide +kernel
theorem dX8_wear_8 : decode cX8_wear 8 = .ok (.iadd, 1) := by decide +kernel
theorem dX8_wear_9 : decode cX8_wear 9 = .ok (.iastore, 1) := by decide +kernel
theorem dX8_wear_10 : decode cX8_wear 10 = .ok (.aload_n 0, 1) := by decide +kernel
theorem dX8_wear_11 : decode cX8_wear 11 = .ok (.getfield 18, 3) := by decide +kernel
theorem dX8_wear_14 : decode cX8_wear 14 = .ok (.iload_n 1, 1) := by decide +kernel
theorem dX8_wear_15 : decode cX8_wear 15 = .ok (.dup2, 1) := by decide +kernel
theorem dX8_wear_16 : decode cX8_wear 16 = .ok (.iaload, 1) := by decide +kernel
theorem dX8_wear_17 : decode cX8_wear 17 = .ok (.iload_n 3, 1) := by decide +kernel
theorem dX8_wear_18 : decode cX8_wear 18 = .ok (.iadd, 1) := by decide +kernel
theorem dX8_wear_19 : decode cX8_wear 19 = .ok (.iastore, 1) := by decide +kernel
theorem dX8_wear_20 : decode cX8_wear 20 = .ok (.aload_n 0, 1) := by decide +kernel
theorem dX8_wear_21 : decode cX8_wear 21 = .ok (.getfield 15, 3) := by decide +kernel
theorem dX8_wear_24 : decode cX8_wear 24 = .ok (.iload_n 1, 1) := by decide +kernel
theorem dX8_wear_25 : decode cX8_wear 25 = .ok (.iaload, 1) := by decide +kernel
theorem dX8_wear_26 : decode cX8_wear 26 = .ok (.ireturn, 1) := by decide +kernel
theorem dX8_savedFor_0 : decode cX8_savedFor 0 = .ok (.aload_n 0, 1) := by decide +kernel
theorem dX8_savedFor_1 : decode cX8_savedFor 1 = .ok (.getfield 36, 3) := by decide +kernel
theorem dX8_savedFor_4 : decode cX8_savedFor 4 = .ok (.iload_n 1, 1) := by decide +kernel
theorem dX8_savedFor_5 : decode cX8_savedFor 5 = .ok (.bipush 10, 2) := by decide +kernel
theorem dX8_savedFor_7 : decode cX8_savedFor 7 = .ok (.imul, 1) := by decide +kernel
theorem dX8_savedFor_8 : decode cX8_savedFor 8 = .ok (.iload_n 2, 1) := by decide +kernel
theorem dX8_savedFor_9 : decode cX8_savedFor 9 = .ok (.iadd, 1) := by decide +kernel
theorem dX8_savedFor_10 : decode cX8_savedFor 10 = .ok (.iaload, 1) := by decide +kernel
theorem dX8_savedFor_11 : decode cX8_savedFor 11 = .ok (.ireturn, 1) := by decide +kernel
theorem dX9_hasRoom_0 : decode cX9_hasRoom 0 = .ok (.aload_n 0, 1) := by decide +kernel
theorem dX9_hasRoom_1 : decode cX9_hasRoom 1 = .ok (.getfield 43, 3) := by decide +kernel
theorem dX9_hasRoom_4 : decode cX9_hasRoom 4 = .ok (.iload_n 1, 1) := by decide +kernel
theorem dX9_hasRoom_5 : decode cX9_hasRoom 5 = .ok (.iadd, 1) := by decide +kernel
theorem dX9_hasRoom_6 : decode cX9_hasRoom 6 = .ok (.sipush 500, 3) := by decide +kernel
theorem dX9_hasRoom_9 : decode cX9_hasRoom 9 = .ok (.if_icmp .gt 7, 3) := by decide +kernel
theorem dX9_hasRoom_16 : decode cX9_hasRoom 16 = .ok (.iconst 0, 1) := by decide +kernel
theorem dX9_hasRoom_17 : decode cX9_hasRoom 17 = .ok (.ireturn, 1) := by decide +kernel
theorem dX9_hasRoom_12 : decode cX9_hasRoom 12 = .ok (.iconst 1, 1) := by decide +kernel
theorem dX9_hasRoom_13 : decode cX9_hasRoom 13 = .ok (.goto 4, 3) := by decide +kernel
theorem dX9_goesOn_0 : decode cX9_goesOn 0 = .ok (.aload_n 0, 1) := by decide +kernel
theorem dX9_goesOn_1 : decode cX9_goesOn 1 = .ok (.getfield 18, 3) := by decide +kernel
theorem dX9_goesOn_4 : decode cX9_goesOn 4 = .ok (.iload_n 1, 1) := by decide +kernel
theorem dX9_goesOn_5 : decode cX9_goesOn 5 = .ok (.iaload, 1) := by decide +kernel
theorem dX9_goesOn_6 : decode cX9_goesOn 6 = .ok (.ldc 47, 2) := by decide +kernel
theorem dX9_goesOn_8 : decode cX9_goesOn 8 = .ok (.if_icmp .ne 7, 3) := by decide +kernel
theorem dX9_goesOn_15 : decode cX9_goesOn 15 = .ok (.iconst 0, 1) := by decide +kernel
theorem dX9_goesOn_16 : decode cX9_goesOn 16 = .ok (.ireturn, 1) := by decide +kernel
theorem dX9_goesOn_11 : decode cX9_goesOn 11 = .ok (.iconst 1, 1) := by decide +kernel
theorem dX9_goesOn_12 : decode cX9_goesOn 12 = .ok (.goto 4, 3) := by decide +kernel
theorem dX9_isGap_0 : decode cX9_isGap 0 = .ok (.aload_n 0, 1) := by decide +kernel
theorem dX9_isGap_1 : decode cX9_isGap 1 = .ok (.iload_n 1, 1) := by decide +kernel
theorem dX9_isGap_2 : decode cX9_isGap 2 = .ok (.invokevirtual 52, 3) := by decide +kernel
theorem dX9_isGap_5 : decode cX9_isGap 5 = .ok (.ifCond .ne 16, 3) := by decide +kernel
theorem dX9_isGap_21 : decode cX9_isGap 21 = .ok (.iconst 0, 1) := by decide +kernel
theorem dX9_isGap_22 : decode cX9_isGap 22 = .ok (.ireturn, 1) := by decide +kernel
theorem dX9_isGap_8 : decode cX9_isGap 8 = .ok (.aload_n 0, 1) := by decide +kernel
theorem dX9_isGap_9 : decode cX9_isGap 9 = .ok (.getfield 33, 3) := by decide +kernel
theorem dX9_isGap_12 : decode cX9_isGap 12 = .ok (.iload_n 1, 1) := by decide +kernel
theorem dX9_isGap_13 : decode cX9_isGap 13 = .ok (.baload, 1) := by decide +kernel
theorem dX9_isGap_14 : decode cX9_isGap 14 = .ok (.ifCond .ne 7, 3) := by decide +kernel
theorem dX9_isGap_17 : decode cX9_isGap 17 = .ok (.iconst 1, 1) := by decide +kernel
theorem dX9_isGap_18 : decode cX9_isGap 18 = .ok (.goto 4, 3) := by decide +kernel
theorem dX9_usedAtStart_0 : decode cX9_usedAtStart 0 = .ok (.iload_n 2, 1) := by decide +kernel
theorem dX9_usedAtStart_1 : decode cX9_usedAtStart 1 = .ok (.ifCond .ne 12, 3) := by decide +kernel
theorem dX9_usedAtStart_13 : decode cX9_usedAtStart 13 = .ok (.aload_n 0, 1) := by decide +kernel
theorem dX9_usedAtStart_14 : decode cX9_usedAtStart 14 = .ok (.getfield 27, 3) := by decide +kernel
theorem dX9_usedAtStart_17 : decode cX9_usedAtStart 17 = .ok (.iload_n 1, 1) := by decide +kernel
theorem dX9_usedAtStart_18 : decode cX9_usedAtStart 18 = .ok (.iaload, 1) := by decide +kernel
theorem dX9_usedAtStart_19 : decode cX9_usedAtStart 19 = .ok (.ireturn, 1) := by decide +kernel
theorem dX9_usedAtStart_4 : decode cX9_usedAtStart 4 = .ok (.aload_n 0, 1) := by decide +kernel
theorem dX9_usedAtStart_5 : decode cX9_usedAtStart 5 = .ok (.getfield 21, 3) := by decide +kernel
theorem dX9_usedAtStart_8 : decode cX9_usedAtStart 8 = .ok (.iload_n 1, 1) := by decide +kernel
theorem dX9_usedAtStart_9 : decode cX9_usedAtStart 9 = .ok (.iaload, 1) := by decide +kernel
theorem dX9_usedAtStart_10 : decode cX9_usedAtStart 10 = .ok (.goto 9, 3) := by decide +kernel
theorem dX9_usedAtEnd_0 : decode cX9_usedAtEnd 0 = .ok (.iload_n 2, 1) := by decide +kernel
theorem dX9_usedAtEnd_1 : decode cX9_usedAtEnd 1 = .ok (.ifCond .ne 12, 3) := by decide +kernel
theorem dX9_usedAtEnd_13 : decode cX9_usedAtEnd 13 = .ok (.aload_n 0, 1) := by decide +kernel
theorem dX9_usedAtEnd_14 : decode cX9_usedAtEnd 14 = .ok (.getfield 30, 3) := by decide +kernel
theorem dX9_usedAtEnd_17 : decode cX9_usedAtEnd 17 = .ok (.iload_n 1, 1) := by decide +kernel
theorem dX9_usedAtEnd_18 : decode cX9_usedAtEnd 18 = .ok (.iaload, 1) := by decide +kernel
theorem dX9_usedAtEnd_19 : decode cX9_usedAtEnd 19 = .ok (.ireturn, 1) := by decide +kernel
theorem dX9_usedAtEnd_4 : decode cX9_usedAtEnd 4 = .ok (.aload_n 0, 1) := by decide +kernel
theorem dX9_usedAtEnd_5 : decode cX9_usedAtEnd 5 = .ok (.getfield 24, 3) := by decide +kernel
theorem dX9_usedAtEnd_8 : decode cX9_usedAtEnd 8 = .ok (.iload_n 1, 1) := by decide +kernel
theorem dX9_usedAtEnd_9 : decode cX9_usedAtEnd 9 = .ok (.iaload, 1) := by decide +kernel
theorem dX9_usedAtEnd_10 : decode cX9_usedAtEnd 10 = .ok (.goto 9, 3) := by decide +kernel
theorem dX9_end_0 : decode cX9_end 0 = .ok (.iload_n 1, 1) := by decide +kernel
theorem dX9_end_1 : decode cX9_end 1 = .ok (.ifCond .lt 11, 3) := by decide +kernel
theorem dX9_end_12 : decode cX9_end 12 = .ok (.return_, 1) := by decide +kernel
theorem dX9_end_4 : decode cX9_end 4 = .ok (.iload_n 1, 1) := by decide +kernel
theorem dX9_end_5 : decode cX9_end 5 = .ok (.aload_n 0, 1) := by decide +kernel
theorem dX9_end_6 : decode cX9_end 6 = .ok (.getfield 43, 3) := by decide +kernel
theorem dX9_end_9 : decode cX9_end 9 = .ok (.if_icmp .lt 4, 3) := by decide +kernel
theorem dX9_end_13 : decode cX9_end 13 = .ok (.aload_n 0, 1) := by decide +kernel
theorem dX9_end_14 : decode cX9_end 14 = .ok (.getfield 18, 3) := by decide +kernel
theorem dX9_end_17 : decode cX9_end 17 = .ok (.iload_n 1, 1) := by decide +kernel
theorem dX9_end_18 : decode cX9_end 18 = .ok (.iload_n 2, 1) := by decide +kernel
theorem dX9_end_19 : decode cX9_end 19 = .ok (.iastore, 1) := by decide +kernel
theorem dX9_end_20 : decode cX9_end 20 = .ok (.aload_n 0, 1) := by decide +kernel
theorem dX9_end_21 : decode cX9_end 21 = .ok (.getfield 24, 3) := by decide +kernel
theorem dX9_end_24 : decode cX9_end 24 = .ok (.iload_n 1, 1) := by decide +kernel
theorem dX9_end_25 : decode cX9_end 25 = .ok (.iload_n 3, 1) := by decide +kernel
theorem dX9_end_26 : decode cX9_end 26 = .ok (.iastore, 1) := by decide +kernel
theorem dX9_end_27 : decode cX9_end 27 = .ok (.aload_n 0, 1) := by decide +kernel
theorem dX9_end_28 : decode cX9_end 28 = .ok (.getfield 30, 3) := by decide +kernel
theorem dX9_end_31 : decode cX9_end 31 = .ok (.iload_n 1, 1) := by decide +kernel
theorem dX9_end_32 : decode cX9_end 32 = .ok (.iload 4, 2) := by decide +kernel
theorem dX9_end_34 : decode cX9_end 34 = .ok (.iastore, 1) := by decide +kernel
theorem dX9_end_35 : decode cX9_end 35 = .ok (.return_, 1) := by decide +kernel
theorem dX9_at_0 : decode cX9_at 0 = .ok (.iload_n 2, 1) := by decide +kernel
theorem dX9_at_1 : decode cX9_at 1 = .ok (.ifCond .ge 7, 3) := by decide +kernel
theorem dX9_at_8 : decode cX9_at 8 = .ok (.aload_n 0, 1) := by decide +kernel
theorem dX9_at_9 : decode cX9_at 9 = .ok (.getfield 40, 3) := by decide +kernel
theorem dX9_at_12 : decode cX9_at 12 = .ok (.iload_n 1, 1) := by decide +kernel
theorem dX9_at_13 : decode cX9_at 13 = .ok (.iaload, 1) := by decide +kernel
theorem dX9_at_14 : decode cX9_at 14 = .ok (.istore_n 3, 1) := by decide +kernel
theorem dX9_at_15 : decode cX9_at 15 = .ok (.iconst 0, 1) := by decide +kernel
theorem dX9_at_16 : decode cX9_at 16 = .ok (.istore 4, 2) := by decide +kernel
theorem dX9_at_18 : decode cX9_at 18 = .ok (.iload 4, 2) := by decide +kernel
theorem dX9_at_20 : decode cX9_at 20 = .ok (.iload_n 2, 1) := by decide +kernel
theorem dX9_at_21 : decode cX9_at 21 = .ok (.if_icmp .ge 21, 3) := by decide +kernel
theorem dX9_at_42 : decode cX9_at 42 = .ok (.iload_n 3, 1) := by decide +kernel
theorem dX9_at_43 : decode cX9_at 43 = .ok (.ireturn, 1) := by decide +kernel
theorem dX9_at_24 : decode cX9_at 24 = .ok (.iload_n 3, 1) := by decide +kernel
theorem dX9_at_25 : decode cX9_at 25 = .ok (.iconst (-1), 1) := by decide +kernel
theorem dX9_at_26 : decode cX9_at 26 = .ok (.if_icmp .eq 16, 3) := by decide +kernel
theorem dX9_at_29 : decode cX9_at 29 = .ok (.aload_n 0, 1) := by decide +kernel
theorem dX9_at_30 : decode cX9_at 30 = .ok (.getfield 37, 3) := by decide +kernel
theorem dX9_at_33 : decode cX9_at 33 = .ok (.iload_n 3, 1) := by decide +kernel
theorem dX9_at_34 : decode cX9_at 34 = .ok (.iaload, 1) := by decide +kernel
theorem dX9_at_35 : decode cX9_at 35 = .ok (.istore_n 3, 1) := by decide +kernel
theorem dX9_at_36 : decode cX9_at 36 = .ok (.iinc 4 1, 3) := by decide +kernel
theorem dX9_at_39 : decode cX9_at 39 = .ok (.goto (-21), 3) := by decide +kernel
theorem dX9_at_4 : decode cX9_at 4 = .ok (.iconst (-1), 1) := by decide +kernel
theorem dX9_at_5 : decode cX9_at 5 = .ok (.goto 9, 3) := by decide +kernel
theorem dX9_aheadOf_0 : decode cX9_aheadOf 0 = .ok (.iconst (-1), 1) := by decide +kernel
theorem dX9_aheadOf_1 : decode cX9_aheadOf 1 = .ok (.istore_n 3, 1) := by decide +kernel
theorem dX9_aheadOf_2 : decode cX9_aheadOf 2 = .ok (.aload_n 0, 1) := by decide +kernel
theorem dX9_aheadOf_3 : decode cX9_aheadOf 3 = .ok (.getfield 40, 3) := by decide +kernel
theorem dX9_aheadOf_6 : decode cX9_aheadOf 6 = .ok (.iload_n 1, 1) := by decide +kernel
theorem dX9_aheadOf_7 : decode cX9_aheadOf 7 = .ok (.iaload, 1) := by decide +kernel
theorem dX9_aheadOf_8 : decode cX9_aheadOf 8 = .ok (.istore 4, 2) := by decide +kernel
theorem dX9_aheadOf_10 : decode cX9_aheadOf 10 = .ok (.iconst 0, 1) := by decide +kernel
theorem dX9_aheadOf_11 : decode cX9_aheadOf 11 = .ok (.istore 5, 2) := by decide +kernel
theorem dX9_aheadOf_13 : decode cX9_aheadOf 13 = .ok (.iload 5, 2) := by decide +kernel
theorem dX9_aheadOf_15 : decode cX9_aheadOf 15 = .ok (.sipush 500, 3) := by decide +kernel
theorem dX9_aheadOf_18 : decode cX9_aheadOf 18 = .ok (.if_icmp .ge 33, 3) := by decide +kernel
theorem dX9_aheadOf_51 : decode cX9_aheadOf 51 = .ok (.iload_n 3, 1) := by decide +kernel
theorem dX9_aheadOf_52 : decode cX9_aheadOf 52 = .ok (.ireturn, 1) := by decide +kernel
theorem dX9_aheadOf_21 : decode cX9_aheadOf 21 = .ok (.iload 4, 2) := by decide +kernel
theorem dX9_aheadOf_23 : decode cX9_aheadOf 23 = .ok (.iconst (-1), 1) := by decide +kernel
theorem dX9_aheadOf_24 : decode cX9_aheadOf 24 = .ok (.if_icmp .eq 27, 3) := by decide +kernel
theorem dX9_aheadOf_27 : decode cX9_aheadOf 27 = .ok (.iload 4, 2) := by decide +kernel
theorem dX9_aheadOf_29 : decode cX9_aheadOf 29 = .ok (.iload_n 2, 1) := by decide +kernel
theorem dX9_aheadOf_30 : decode cX9_aheadOf 30 = .ok (.if_icmp .eq 21, 3) := by decide +kernel
theorem dX9_aheadOf_33 : decode cX9_aheadOf 33 = .ok (.iload 4, 2) := by decide +kernel
theorem dX9_aheadOf_35 : decode cX9_aheadOf 35 = .ok (.istore_n 3, 1) := by decide +kernel
theorem dX9_aheadOf_36 : decode cX9_aheadOf 36 = .ok (.aload_n 0, 1) := by decide +kernel
theorem dX9_aheadOf_37 : decode cX9_aheadOf 37 = .ok (.getfield 37, 3) := by decide +kernel
theorem dX9_aheadOf_40 : decode cX9_aheadOf 40 = .ok (.iload 4, 2) := by decide +kernel
theorem dX9_aheadOf_42 : decode cX9_aheadOf 42 = .ok (.iaload, 1) := by decide +kernel
theorem dX9_aheadOf_43 : decode cX9_aheadOf 43 = .ok (.istore 4, 2) := by decide +kernel
theorem dX9_aheadOf_45 : decode cX9_aheadOf 45 = .ok (.iinc 5 1, 3) := by decide +kernel
theorem dX9_aheadOf_48 : decode cX9_aheadOf 48 = .ok (.goto (-35), 3) := by decide +kernel
theorem dX9_countOf_0 : decode cX9_countOf 0 = .ok (.iconst 0, 1) := by decide +kernel
theorem dX9_countOf_1 : decode cX9_countOf 1 = .ok (.istore_n 2, 1) := by decide +kernel
theorem dX9_countOf_2 : decode cX9_countOf 2 = .ok (.aload_n 0, 1) := by decide +kernel
theorem dX9_countOf_3 : decode cX9_countOf 3 = .ok (.getfield 40, 3) := by decide +kernel
theorem dX9_countOf_6 : decode cX9_countOf 6 = .ok (.iload_n 1, 1) := by decide +kernel
theorem dX9_countOf_7 : decode cX9_countOf 7 = .ok (.iaload, 1) := by decide +kernel
theorem dX9_countOf_8 : decode cX9_countOf 8 = .ok (.istore_n 3, 1) := by decide +kernel
theorem dX9_countOf_9 : decode cX9_countOf 9 = .ok (.iconst 0, 1) := by decide +kernel
theorem dX9_countOf_10 : decode cX9_countOf 10 = .ok (.istore 4, 2) := by decide +kernel
theorem dX9_countOf_12 : decode cX9_countOf 12 = .ok (.iload 4, 2) := by decide +kernel
theorem dX9_countOf_14 : decode cX9_countOf 14 = .ok (.sipush 500, 3) := by decide +kernel
theorem dX9_countOf_17 : decode cX9_countOf 17 = .ok (.if_icmp .ge 24, 3) := by decide +kernel
theorem dX9_countOf_41 : decode cX9_countOf 41 = .ok (.iload_n 2, 1) := by decide +kernel
theorem dX9_countOf_42 : decode cX9_countOf 42 = .ok (.ireturn, 1) := by decide +kernel
theorem dX9_countOf_20 : decode cX9_countOf 20 = .ok (.iload_n 3, 1) := by decide +kernel
theorem dX9_countOf_21 : decode cX9_countOf 21 = .ok (.iconst (-1), 1) := by decide +kernel
theorem dX9_countOf_22 : decode cX9_countOf 22 = .ok (.if_icmp .eq 19, 3) := by decide +kernel
theorem dX9_countOf_25 : decode cX9_countOf 25 = .ok (.iinc 2 1, 3) := by decide +kernel
theorem dX9_countOf_28 : decode cX9_countOf 28 = .ok (.aload_n 0, 1) := by decide +kernel
theorem dX9_countOf_29 : decode cX9_countOf 29 = .ok (.getfield 37, 3) := by decide +kernel
theorem dX9_countOf_32 : decode cX9_countOf 32 = .ok (.iload_n 3, 1) := by decide +kernel
theorem dX9_countOf_33 : decode cX9_countOf 33 = .ok (.iaload, 1) := by decide +kernel
theorem dX9_countOf_34 : decode cX9_countOf 34 = .ok (.istore_n 3, 1) := by decide +kernel
theorem dX9_countOf_35 : decode cX9_countOf 35 = .ok (.iinc 4 1, 3) := by decide +kernel
theorem dX9_countOf_38 : decode cX9_countOf 38 = .ok (.goto (-26), 3) := by decide +kernel
theorem dX9_gapsOf_0 : decode cX9_gapsOf 0 = .ok (.iconst 0, 1) := by decide +kernel
theorem dX9_gapsOf_1 : decode cX9_gapsOf 1 = .ok (.istore_n 2, 1) := by decide +kernel
theorem dX9_gapsOf_2 : decode cX9_gapsOf 2 = .ok (.aload_n 0, 1) := by decide +kernel
theorem dX9_gapsOf_3 : decode cX9_gapsOf 3 = .ok (.getfield 40, 3) := by decide +kernel
theorem dX9_gapsOf_6 : decode cX9_gapsOf 6 = .ok (.iload_n 1, 1) := by decide +kernel
theorem dX9_gapsOf_7 : decode cX9_gapsOf 7 = .ok (.iaload, 1) := by decide +kernel
theorem dX9_gapsOf_8 : decode cX9_gapsOf 8 = .ok (.istore_n 3, 1) := by decide +kernel
theorem dX9_gapsOf_9 : decode cX9_gapsOf 9 = .ok (.iconst 0, 1) := by decide +kernel
theorem dX9_gapsOf_10 : decode cX9_gapsOf 10 = .ok (.istore 4, 2) := by decide +kernel
theorem dX9_gapsOf_12 : decode cX9_gapsOf 12 = .ok (.iload 4, 2) := by decide +kernel
theorem dX9_gapsOf_14 : decode cX9_gapsOf 14 = .ok (.sipush 500, 3) := by decide +kernel
theorem dX9_gapsOf_17 : decode cX9_gapsOf 17 = .ok (.if_icmp .ge 37, 3) := by decide +kernel
theorem dX9_gapsOf_54 : decode cX9_gapsOf 54 = .ok (.iload_n 2, 1) := by decide +kernel
theorem dX9_gapsOf_55 : decode cX9_gapsOf 55 = .ok (.ireturn, 1) := by decide +kernel
theorem dX9_gapsOf_20 : decode cX9_gapsOf 20 = .ok (.iload_n 3, 1) := by decide +kernel
theorem dX9_gapsOf_21 : decode cX9_gapsOf 21 = .ok (.iconst (-1), 1) := by decide +kernel
theorem dX9_gapsOf_22 : decode cX9_gapsOf 22 = .ok (.if_icmp .eq 32, 3) := by decide +kernel
theorem dX9_gapsOf_25 : decode cX9_gapsOf 25 = .ok (.iload_n 2, 1) := by decide +kernel
theorem dX9_gapsOf_26 : decode cX9_gapsOf 26 = .ok (.aload_n 0, 1) := by decide +kernel
theorem dX9_gapsOf_27 : decode cX9_gapsOf 27 = .ok (.iload_n 3, 1) := by decide +kernel
theorem dX9_gapsOf_28 : decode cX9_gapsOf 28 = .ok (.invokevirtual 56, 3) := by decide +kernel
theorem dX9_gapsOf_31 : decode cX9_gapsOf 31 = .ok (.ifCond .eq 7, 3) := by decide +kernel
theorem dX9_gapsOf_38 : decode cX9_gapsOf 38 = .ok (.iconst 0, 1) := by decide +kernel
theorem dX9_gapsOf_39 : decode cX9_gapsOf 39 = .ok (.iadd, 1) := by decide +kernel
theorem dX9_gapsOf_40 : decode cX9_gapsOf 40 = .ok (.istore_n 2, 1) := by decide +kernel
theorem dX9_gapsOf_41 : decode cX9_gapsOf 41 = .ok (.aload_n 0, 1) := by decide +kernel
theorem dX9_gapsOf_42 : decode cX9_gapsOf 42 = .ok (.getfield 37, 3) := by decide +kernel
theorem dX9_gapsOf_45 : decode cX9_gapsOf 45 = .ok (.iload_n 3, 1) := by decide +kernel
theorem dX9_gapsOf_46 : decode cX9_gapsOf 46 = .ok (.iaload, 1) := by decide +kernel
theorem dX9_gapsOf_47 : decode cX9_gapsOf 47 = .ok (.istore_n 3, 1) := by decide +kernel
theorem dX9_gapsOf_48 : decode cX9_gapsOf 48 = .ok (.iinc 4 1, 3) := by decide +kernel
theorem dX9_gapsOf_51 : decode cX9_gapsOf 51 = .ok (.goto (-39), 3) := by decide +kernel
theorem dX9_gapsOf_34 : decode cX9_gapsOf 34 = .ok (.iconst 1, 1) := by decide +kernel
theorem dX9_gapsOf_35 : decode cX9_gapsOf 35 = .ok (.goto 4, 3) := by decide +kernel
theorem dX9_gapsAhead_0 : decode cX9_gapsAhead 0 = .ok (.iconst 0, 1) := by decide +kernel
theorem dX9_gapsAhead_1 : decode cX9_gapsAhead 1 = .ok (.istore_n 3, 1) := by decide +kernel
theorem dX9_gapsAhead_2 : decode cX9_gapsAhead 2 = .ok (.aload_n 0, 1) := by decide +kernel
theorem dX9_gapsAhead_3 : decode cX9_gapsAhead 3 = .ok (.getfield 40, 3) := by decide +kernel
theorem dX9_gapsAhead_6 : decode cX9_gapsAhead 6 = .ok (.iload_n 1, 1) := by decide +kernel
theorem dX9_gapsAhead_7 : decode cX9_gapsAhead 7 = .ok (.iaload, 1) := by decide +kernel
theorem dX9_gapsAhead_8 : decode cX9_gapsAhead 8 = .ok (.istore 4, 2) := by decide +kernel
theorem dX9_gapsAhead_10 : decode cX9_gapsAhead 10 = .ok (.iconst 1, 1) := by decide +kernel
theorem dX9_gapsAhead_11 : decode cX9_gapsAhead 11 = .ok (.istore 5, 2) := by decide +kernel
theorem dX9_gapsAhead_13 : decode cX9_gapsAhead 13 = .ok (.iconst 0, 1) := by decide +kernel
theorem dX9_gapsAhead_14 : decode cX9_gapsAhead 14 = .ok (.istore 6, 2) := by decide +kernel
theorem dX9_gapsAhead_16 : decode cX9_gapsAhead 16 = .ok (.iload 6, 2) := by decide +kernel
theorem dX9_gapsAhead_18 : decode cX9_gapsAhead 18 = .ok (.sipush 500, 3) := by decide +kernel
theorem dX9_gapsAhead_21 : decode cX9_gapsAhead 21 = .ok (.if_icmp .ge 85, 3) := by decide +kernel
theorem dX9_gapsAhead_106 : decode cX9_gapsAhead 106 = .ok (.iload_n 3, 1) := by decide +kernel
theorem dX9_gapsAhead_107 : decode cX9_gapsAhead 107 = .ok (.ireturn, 1) := by decide +kernel
theorem dX9_gapsAhead_24 : decode cX9_gapsAhead 24 = .ok (.iload 4, 2) := by decide +kernel
theorem dX9_gapsAhead_26 : decode cX9_gapsAhead 26 = .ok (.iconst (-1), 1) := by decide +kernel
theorem dX9_gapsAhead_27 : decode cX9_gapsAhead 27 = .ok (.if_icmp .eq 79, 3) := by decide +kernel
theorem dX9_gapsAhead_30 : decode cX9_gapsAhead 30 = .ok (.iload 4, 2) := by decide +kernel
theorem dX9_gapsAhead_32 : decode cX9_gapsAhead 32 = .ok (.iload_n 2, 1) := by decide +kernel
theorem dX9_gapsAhead_33 : decode cX9_gapsAhead 33 = .ok (.if_icmp .ne 9, 3) := by decide +kernel
