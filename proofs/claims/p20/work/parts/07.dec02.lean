theorem dX8_addLink_6 : decode cX8_addLink 6 = .ok (.iconst 4, 1) := by decide +kernel
theorem dX8_addLink_7 : decode cX8_addLink 7 = .ok (.if_icmp .lt 6, 3) := by decide +kernel
theorem dX8_addLink_10 : decode cX8_addLink 10 = .ok (.bipush (-3), 2) := by decide +kernel
theorem dX8_addLink_12 : decode cX8_addLink 12 = .ok (.ireturn, 1) := by decide +kernel
theorem dX8_addLink_13 : decode cX8_addLink 13 = .ok (.aload_n 0, 1) := by decide +kernel
theorem dX8_addLink_14 : decode cX8_addLink 14 = .ok (.getfield 30, 3) := by decide +kernel
theorem dX8_addLink_17 : decode cX8_addLink 17 = .ok (.iload_n 1, 1) := by decide +kernel
theorem dX8_addLink_18 : decode cX8_addLink 18 = .ok (.iconst 4, 1) := by decide +kernel
theorem dX8_addLink_19 : decode cX8_addLink 19 = .ok (.imul, 1) := by decide +kernel
theorem dX8_addLink_20 : decode cX8_addLink 20 = .ok (.aload_n 0, 1) := by decide +kernel
theorem dX8_addLink_21 : decode cX8_addLink 21 = .ok (.getfield 27, 3) := by decide +kernel
theorem dX8_addLink_24 : decode cX8_addLink 24 = .ok (.iload_n 1, 1) := by decide +kernel
theorem dX8_addLink_25 : decode cX8_addLink 25 = .ok (.iaload, 1) := by decide +kernel
theorem dX8_addLink_26 : decode cX8_addLink 26 = .ok (.iadd, 1) := by decide +kernel
theorem dX8_addLink_27 : decode cX8_addLink 27 = .ok (.iload_n 2, 1) := by decide +kernel
theorem dX8_addLink_28 : decode cX8_addLink 28 = .ok (.iastore, 1) := by decide +kernel
theorem dX8_addLink_29 : decode cX8_addLink 29 = .ok (.aload_n 0, 1) := by decide +kernel
theorem dX8_addLink_30 : decode cX8_addLink 30 = .ok (.getfield 27, 3) := by decide +kernel
theorem dX8_addLink_33 : decode cX8_addLink 33 = .ok (.iload_n 1, 1) := by decide +kernel
theorem dX8_addLink_34 : decode cX8_addLink 34 = .ok (.dup2, 1) := by decide +kernel
theorem dX8_addLink_35 : decode cX8_addLink 35 = .ok (.iaload, 1) := by decide +kernel
theorem dX8_addLink_36 : decode cX8_addLink 36 = .ok (.iconst 1, 1) := by decide +kernel
theorem dX8_addLink_37 : decode cX8_addLink 37 = .ok (.iadd, 1) := by decide +kernel
theorem dX8_addLink_38 : decode cX8_addLink 38 = .ok (.iastore, 1) := by decide +kernel
theorem dX8_addLink_39 : decode cX8_addLink 39 = .ok (.aload_n 0, 1) := by decide +kernel
theorem dX8_addLink_40 : decode cX8_addLink 40 = .ok (.getfield 27, 3) := by decide +kernel
theorem dX8_addLink_43 : decode cX8_addLink 43 = .ok (.iload_n 1, 1) := by decide +kernel
theorem dX8_addLink_44 : decode cX8_addLink 44 = .ok (.iaload, 1) := by decide +kernel
theorem dX8_addLink_45 : decode cX8_addLink 45 = .ok (.ireturn, 1) := by decide +kernel
theorem dX8_linkRent_0 : decode cX8_linkRent 0 = .ok (.iload_n 2, 1) := by decide +kernel
theorem dX8_linkRent_1 : decode cX8_linkRent 1 = .ok (.ifCond .lt 26, 3) := by decide +kernel
theorem dX8_linkRent_4 : decode cX8_linkRent 4 = .ok (.iload_n 2, 1) := by decide +kernel
theorem dX8_linkRent_5 : decode cX8_linkRent 5 = .ok (.aload_n 0, 1) := by decide +kernel
theorem dX8_linkRent_6 : decode cX8_linkRent 6 = .ok (.getfield 27, 3) := by decide +kernel
theorem dX8_linkRent_9 : decode cX8_linkRent 9 = .ok (.iload_n 1, 1) := by decide +kernel
theorem dX8_linkRent_10 : decode cX8_linkRent 10 = .ok (.iaload, 1) := by decide +kernel
theorem dX8_linkRent_11 : decode cX8_linkRent 11 = .ok (.if_icmp .ge 16, 3) := by decide +kernel
theorem dX8_linkRent_14 : decode cX8_linkRent 14 = .ok (.aload_n 0, 1) := by decide +kernel
theorem dX8_linkRent_15 : decode cX8_linkRent 15 = .ok (.getfield 30, 3) := by decide +kernel
theorem dX8_linkRent_18 : decode cX8_linkRent 18 = .ok (.iload_n 1, 1) := by decide +kernel
theorem dX8_linkRent_19 : decode cX8_linkRent 19 = .ok (.iconst 4, 1) := by decide +kernel
theorem dX8_linkRent_20 : decode cX8_linkRent 20 = .ok (.imul, 1) := by decide +kernel
theorem dX8_linkRent_21 : decode cX8_linkRent 21 = .ok (.iload_n 2, 1) := by decide +kernel
theorem dX8_linkRent_22 : decode cX8_linkRent 22 = .ok (.iadd, 1) := by decide +kernel
theorem dX8_linkRent_23 : decode cX8_linkRent 23 = .ok (.iaload, 1) := by decide +kernel
theorem dX8_linkRent_24 : decode cX8_linkRent 24 = .ok (.goto 4, 3) := by decide +kernel
theorem dX8_linkRent_27 : decode cX8_linkRent 27 = .ok (.iconst 0, 1) := by decide +kernel
theorem dX8_linkRent_28 : decode cX8_linkRent 28 = .ok (.ireturn, 1) := by decide +kernel
theorem dX10_take_0 : decode cX10_take 0 = .ok (.aload_n 0, 1) := by decide +kernel
theorem dX10_take_1 : decode cX10_take 1 = .ok (.getfield 15, 3) := by decide +kernel
theorem dX10_take_4 : decode cX10_take 4 = .ok (.iload_n 1, 1) := by decide +kernel
theorem dX10_take_5 : decode cX10_take 5 = .ok (.iadd, 1) := by decide +kernel
theorem dX10_take_6 : decode cX10_take 6 = .ok (.bipush 120, 2) := by decide +kernel
theorem dX10_take_8 : decode cX10_take 8 = .ok (.if_icmp .le 6, 3) := by decide +kernel
theorem dX10_take_11 : decode cX10_take 11 = .ok (.bipush (-3), 2) := by decide +kernel
theorem dX10_take_13 : decode cX10_take 13 = .ok (.ireturn, 1) := by decide +kernel
theorem dX10_take_14 : decode cX10_take 14 = .ok (.iconst 0, 1) := by decide +kernel
theorem dX10_take_15 : decode cX10_take 15 = .ok (.istore_n 3, 1) := by decide +kernel
theorem dX10_take_16 : decode cX10_take 16 = .ok (.iload_n 3, 1) := by decide +kernel
theorem dX10_take_17 : decode cX10_take 17 = .ok (.iload_n 1, 1) := by decide +kernel
theorem dX10_take_18 : decode cX10_take 18 = .ok (.if_icmp .ge 30, 3) := by decide +kernel
theorem dX10_take_21 : decode cX10_take 21 = .ok (.aload_n 0, 1) := by decide +kernel
theorem dX10_take_22 : decode cX10_take 22 = .ok (.getfield 9, 3) := by decide +kernel
theorem dX10_take_25 : decode cX10_take 25 = .ok (.aload_n 0, 1) := by decide +kernel
theorem dX10_take_26 : decode cX10_take 26 = .ok (.getfield 15, 3) := by decide +kernel
theorem dX10_take_29 : decode cX10_take 29 = .ok (.iload_n 3, 1) := by decide +kernel
theorem dX10_take_30 : decode cX10_take 30 = .ok (.iadd, 1) := by decide +kernel
theorem dX10_take_31 : decode cX10_take 31 = .ok (.iload_n 2, 1) := by decide +kernel
theorem dX10_take_32 : decode cX10_take 32 = .ok (.bipush 8, 2) := by decide +kernel
theorem dX10_take_34 : decode cX10_take 34 = .ok (.iload_n 3, 1) := by decide +kernel
theorem dX10_take_35 : decode cX10_take 35 = .ok (.imul, 1) := by decide +kernel
theorem dX10_take_36 : decode cX10_take 36 = .ok (.ishr, 1) := by decide +kernel
theorem dX10_take_37 : decode cX10_take 37 = .ok (.sipush 255, 3) := by decide +kernel
theorem dX10_take_40 : decode cX10_take 40 = .ok (.iand, 1) := by decide +kernel
theorem dX10_take_41 : decode cX10_take 41 = .ok (.iastore, 1) := by decide +kernel
theorem dX10_take_42 : decode cX10_take 42 = .ok (.iinc 3 1, 3) := by decide +kernel
theorem dX10_take_45 : decode cX10_take 45 = .ok (.goto (-29), 3) := by decide +kernel
theorem dX10_take_48 : decode cX10_take 48 = .ok (.aload_n 0, 1) := by decide +kernel
theorem dX10_take_49 : decode cX10_take 49 = .ok (.dup, 1) := by decide +kernel
theorem dX10_take_50 : decode cX10_take 50 = .ok (.getfield 15, 3) := by decide +kernel
theorem dX10_take_53 : decode cX10_take 53 = .ok (.iload_n 1, 1) := by decide +kernel
theorem dX10_take_54 : decode cX10_take 54 = .ok (.iadd, 1) := by decide +kernel
theorem dX10_take_55 : decode cX10_take 55 = .ok (.putfield 15, 3) := by decide +kernel
theorem dX10_take_58 : decode cX10_take 58 = .ok (.aload_n 0, 1) := by decide +kernel
theorem dX10_take_59 : decode cX10_take 59 = .ok (.getfield 15, 3) := by decide +kernel
theorem dX10_take_62 : decode cX10_take 62 = .ok (.ireturn, 1) := by decide +kernel
theorem dX10_at_0 : decode cX10_at 0 = .ok (.iload_n 1, 1) := by decide +kernel
theorem dX10_at_1 : decode cX10_at 1 = .ok (.ifCond .lt 20, 3) := by decide +kernel
theorem dX10_at_4 : decode cX10_at 4 = .ok (.iload_n 1, 1) := by decide +kernel
theorem dX10_at_5 : decode cX10_at 5 = .ok (.aload_n 0, 1) := by decide +kernel
theorem dX10_at_6 : decode cX10_at 6 = .ok (.getfield 15, 3) := by decide +kernel
theorem dX10_at_9 : decode cX10_at 9 = .ok (.if_icmp .ge 12, 3) := by decide +kernel
theorem dX10_at_12 : decode cX10_at 12 = .ok (.aload_n 0, 1) := by decide +kernel
theorem dX10_at_13 : decode cX10_at 13 = .ok (.getfield 9, 3) := by decide +kernel
theorem dX10_at_16 : decode cX10_at 16 = .ok (.iload_n 1, 1) := by decide +kernel
theorem dX10_at_17 : decode cX10_at 17 = .ok (.iaload, 1) := by decide +kernel
theorem dX10_at_18 : decode cX10_at 18 = .ok (.goto 4, 3) := by decide +kernel
theorem dX10_at_21 : decode cX10_at 21 = .ok (.iconst (-1), 1) := by decide +kernel
theorem dX10_at_22 : decode cX10_at 22 = .ok (.ireturn, 1) := by decide +kernel
theorem dX10_hasDigitAt_0 : decode cX10_hasDigitAt 0 = .ok (.aload_n 0, 1) := by decide +kernel
theorem dX10_hasDigitAt_1 : decode cX10_hasDigitAt 1 = .ok (.iload_n 1, 1) := by decide +kernel
theorem dX10_hasDigitAt_2 : decode cX10_hasDigitAt 2 = .ok (.invokevirtual 19, 3) := by decide +kernel
theorem dX10_hasDigitAt_5 : decode cX10_hasDigitAt 5 = .ok (.bipush 48, 2) := by decide +kernel
theorem dX10_hasDigitAt_7 : decode cX10_hasDigitAt 7 = .ok (.if_icmp .lt 17, 3) := by decide +kernel
theorem dX10_hasDigitAt_10 : decode cX10_hasDigitAt 10 = .ok (.aload_n 0, 1) := by decide +kernel
theorem dX10_hasDigitAt_11 : decode cX10_hasDigitAt 11 = .ok (.iload_n 1, 1) := by decide +kernel
theorem dX10_hasDigitAt_12 : decode cX10_hasDigitAt 12 = .ok (.invokevirtual 19, 3) := by decide +kernel
theorem dX10_hasDigitAt_15 : decode cX10_hasDigitAt 15 = .ok (.bipush 57, 2) := by decide +kernel
theorem dX10_hasDigitAt_17 : decode cX10_hasDigitAt 17 = .ok (.if_icmp .gt 7, 3) := by decide +kernel
theorem dX10_hasDigitAt_20 : decode cX10_hasDigitAt 20 = .ok (.iconst 1, 1) := by decide +kernel
theorem dX10_hasDigitAt_21 : decode cX10_hasDigitAt 21 = .ok (.goto 4, 3) := by decide +kernel
theorem dX10_hasDigitAt_24 : decode cX10_hasDigitAt 24 = .ok (.iconst 0, 1) := by decide +kernel
theorem dX10_hasDigitAt_25 : decode cX10_hasDigitAt 25 = .ok (.ireturn, 1) := by decide +kernel
theorem dX10_digitsAt_0 : decode cX10_digitsAt 0 = .ok (.iconst 0, 1) := by decide +kernel
theorem dX10_digitsAt_1 : decode cX10_digitsAt 1 = .ok (.istore_n 2, 1) := by decide +kernel
theorem dX10_digitsAt_2 : decode cX10_digitsAt 2 = .ok (.iload_n 2, 1) := by decide +kernel
theorem dX10_digitsAt_3 : decode cX10_digitsAt 3 = .ok (.iconst 5, 1) := by decide +kernel
theorem dX10_digitsAt_4 : decode cX10_digitsAt 4 = .ok (.if_icmp .ge 19, 3) := by decide +kernel
theorem dX10_digitsAt_7 : decode cX10_digitsAt 7 = .ok (.aload_n 0, 1) := by decide +kernel
theorem dX10_digitsAt_8 : decode cX10_digitsAt 8 = .ok (.iload_n 1, 1) := by decide +kernel
theorem dX10_digitsAt_9 : decode cX10_digitsAt 9 = .ok (.iload_n 2, 1) := by decide +kernel
theorem dX10_digitsAt_10 : decode cX10_digitsAt 10 = .ok (.iadd, 1) := by decide +kernel
theorem dX10_digitsAt_11 : decode cX10_digitsAt 11 = .ok (.invokevirtual 23, 3) := by decide +kernel
theorem dX10_digitsAt_14 : decode cX10_digitsAt 14 = .ok (.ifCond .eq 9, 3) := by decide +kernel
theorem dX10_digitsAt_17 : decode cX10_digitsAt 17 = .ok (.iinc 2 1, 3) := by decide +kernel
theorem dX10_digitsAt_20 : decode cX10_digitsAt 20 = .ok (.goto (-18), 3) := by decide +kernel
theorem dX10_digitsAt_23 : decode cX10_digitsAt 23 = .ok (.iload_n 2, 1) := by decide +kernel
theorem dX10_digitsAt_24 : decode cX10_digitsAt 24 = .ok (.ireturn, 1) := by decide +kernel
theorem dX10_numberAt_0 : decode cX10_numberAt 0 = .ok (.iconst 0, 1) := by decide +kernel
theorem dX10_numberAt_1 : decode cX10_numberAt 1 = .ok (.istore_n 3, 1) := by decide +kernel
theorem dX10_numberAt_2 : decode cX10_numberAt 2 = .ok (.iconst 0, 1) := by decide +kernel
theorem dX10_numberAt_3 : decode cX10_numberAt 3 = .ok (.istore 4, 2) := by decide +kernel
theorem dX10_numberAt_5 : decode cX10_numberAt 5 = .ok (.iload 4, 2) := by decide +kernel
theorem dX10_numberAt_7 : decode cX10_numberAt 7 = .ok (.iload_n 2, 1) := by decide +kernel
theorem dX10_numberAt_8 : decode cX10_numberAt 8 = .ok (.if_icmp .ge 26, 3) := by decide +kernel
theorem dX10_numberAt_11 : decode cX10_numberAt 11 = .ok (.iload_n 3, 1) := by decide +kernel
theorem dX10_numberAt_12 : decode cX10_numberAt 12 = .ok (.bipush 10, 2) := by decide +kernel
theorem dX10_numberAt_14 : decode cX10_numberAt 14 = .ok (.imul, 1) := by decide +kernel
theorem dX10_numberAt_15 : decode cX10_numberAt 15 = .ok (.aload_n 0, 1) := by decide +kernel
theorem dX10_numberAt_16 : decode cX10_numberAt 16 = .ok (.iload_n 1, 1) := by decide +kernel
theorem dX10_numberAt_17 : decode cX10_numberAt 17 = .ok (.iload 4, 2) := by decide +kernel
theorem dX10_numberAt_19 : decode cX10_numberAt 19 = .ok (.iadd, 1) := by decide +kernel
theorem dX10_numberAt_20 : decode cX10_numberAt 20 = .ok (.invokevirtual 19, 3) := by decide +kernel
theorem dX10_numberAt_23 : decode cX10_numberAt 23 = .ok (.iadd, 1) := by decide +kernel
theorem dX10_numberAt_24 : decode cX10_numberAt 24 = .ok (.bipush 48, 2) := by decide +kernel
theorem dX10_numberAt_26 : decode cX10_numberAt 26 = .ok (.isub, 1) := by decide +kernel
theorem dX10_numberAt_27 : decode cX10_numberAt 27 = .ok (.istore_n 3, 1) := by decide +kernel
theorem dX10_numberAt_28 : decode cX10_numberAt 28 = .ok (.iinc 4 1, 3) := by decide +kernel
theorem dX10_numberAt_31 : decode cX10_numberAt 31 = .ok (.goto (-26), 3) := by decide +kernel
theorem dX10_numberAt_34 : decode cX10_numberAt 34 = .ok (.iload_n 3, 1) := by decide +kernel
theorem dX10_numberAt_35 : decode cX10_numberAt 35 = .ok (.ireturn, 1) := by decide +kernel
theorem dX11_feed_0 : decode cX11_feed 0 = .ok (.iload_n 1, 1) := by decide +kernel
theorem dX11_feed_1 : decode cX11_feed 1 = .ok (.iconst 1, 1) := by decide +kernel
theorem dX11_feed_2 : decode cX11_feed 2 = .ok (.iconst 4, 1) := by decide +kernel
theorem dX11_feed_3 : decode cX11_feed 3 = .ok (.invokestatic 106, 3) := by decide +kernel
theorem dX11_feed_6 : decode cX11_feed 6 = .ok (.ifCond .ne 5, 3) := by decide +kernel
theorem dX11_feed_9 : decode cX11_feed 9 = .ok (.iconst (-1), 1) := by decide +kernel
theorem dX11_feed_10 : decode cX11_feed 10 = .ok (.ireturn, 1) := by decide +kernel
theorem dX11_feed_11 : decode cX11_feed 11 = .ok (.aload_n 0, 1) := by decide +kernel
theorem dX11_feed_12 : decode cX11_feed 12 = .ok (.getfield 42, 3) := by decide +kernel
theorem dX11_feed_15 : decode cX11_feed 15 = .ok (.iload_n 1, 1) := by decide +kernel
theorem dX11_feed_16 : decode cX11_feed 16 = .ok (.iload_n 2, 1) := by decide +kernel
theorem dX11_feed_17 : decode cX11_feed 17 = .ok (.invokevirtual 279, 3) := by decide +kernel
theorem dX11_feed_20 : decode cX11_feed 20 = .ok (.ireturn, 1) := by decide +kernel
theorem dX11_law_0 : decode cX11_law 0 = .ok (.iload_n 1, 1) := by decide +kernel
theorem dX11_law_1 : decode cX11_law 1 = .ok (.invokestatic 181, 3) := by decide +kernel
theorem dX11_law_4 : decode cX11_law 4 = .ok (.ifCond .ne 5, 3) := by decide +kernel
theorem dX11_law_7 : decode cX11_law 7 = .ok (.iconst (-1), 1) := by decide +kernel
theorem dX11_law_8 : decode cX11_law 8 = .ok (.ireturn, 1) := by decide +kernel
theorem dX11_law_9 : decode cX11_law 9 = .ok (.aload_n 0, 1) := by decide +kernel
theorem dX11_law_10 : decode cX11_law 10 = .ok (.getfield 49, 3) := by decide +kernel
theorem dX11_law_13 : decode cX11_law 13 = .ok (.getfield 282, 3) := by decide +kernel
theorem dX11_law_16 : decode cX11_law 16 = .ok (.bipush 10, 2) := by decide +kernel
theorem dX11_law_18 : decode cX11_law 18 = .ok (.if_icmp .lt 6, 3) := by decide +kernel
theorem dX11_law_21 : decode cX11_law 21 = .ok (.bipush (-3), 2) := by decide +kernel
theorem dX11_law_23 : decode cX11_law 23 = .ok (.ireturn, 1) := by decide +kernel
theorem dX11_law_24 : decode cX11_law 24 = .ok (.aload_n 0, 1) := by decide +kernel
theorem dX11_law_25 : decode cX11_law 25 = .ok (.getfield 58, 3) := by decide +kernel
theorem dX11_law_28 : decode cX11_law 28 = .ok (.aload_n 0, 1) := by decide +kernel
theorem dX11_law_29 : decode cX11_law 29 = .ok (.getfield 49, 3) := by decide +kernel
theorem dX11_law_32 : decode cX11_law 32 = .ok (.getfield 283, 3) := by decide +kernel
theorem dX11_law_35 : decode cX11_law 35 = .ok (.aload_n 0, 1) := by decide +kernel
theorem dX11_law_36 : decode cX11_law 36 = .ok (.getfield 49, 3) := by decide +kernel
theorem dX11_law_39 : decode cX11_law 39 = .ok (.getfield 282, 3) := by decide +kernel
theorem dX11_law_42 : decode cX11_law 42 = .ok (.aaload, 1) := by decide +kernel
theorem dX11_law_43 : decode cX11_law 43 = .ok (.invokevirtual 287, 3) := by decide +kernel
theorem dX11_law_46 : decode cX11_law 46 = .ok (.istore_n 2, 1) := by decide +kernel
theorem dX11_law_47 : decode cX11_law 47 = .ok (.aload_n 0, 1) := by decide +kernel
theorem dX11_law_48 : decode cX11_law 48 = .ok (.getfield 42, 3) := by decide +kernel
theorem dX11_law_51 : decode cX11_law 51 = .ok (.iconst 0, 1) := by decide +kernel
theorem dX11_law_52 : decode cX11_law 52 = .ok (.putfield 291, 3) := by decide +kernel
theorem dX11_law_55 : decode cX11_law 55 = .ok (.iload_n 2, 1) := by decide +kernel
theorem dX11_law_56 : decode cX11_law 56 = .ok (.iconst (-1), 1) := by decide +kernel
theorem dX11_law_57 : decode cX11_law 57 = .ok (.if_icmp .eq 8, 3) := by decide +kernel
theorem dX11_law_60 : decode cX11_law 60 = .ok (.bipush (-100), 2) := by decide +kernel
theorem dX11_law_62 : decode cX11_law 62 = .ok (.iload_n 2, 1) := by decide +kernel
theorem dX11_law_63 : decode cX11_law 63 = .ok (.isub, 1) := by decide +kernel
theorem dX11_law_64 : decode cX11_law 64 = .ok (.ireturn, 1) := by decide +kernel
theorem dX11_law_65 : decode cX11_law 65 = .ok (.aload_n 0, 1) := by decide +kernel
theorem dX11_law_66 : decode cX11_law 66 = .ok (.getfield 49, 3) := by decide +kernel
theorem dX11_law_69 : decode cX11_law 69 = .ok (.aload_n 0, 1) := by decide +kernel
theorem dX11_law_70 : decode cX11_law 70 = .ok (.getfield 132, 3) := by decide +kernel
theorem dX11_law_73 : decode cX11_law 73 = .ok (.iload_n 1, 1) := by decide +kernel
theorem dX11_law_74 : decode cX11_law 74 = .ok (.aload_n 0, 1) := by decide +kernel
theorem dX11_law_75 : decode cX11_law 75 = .ok (.getfield 58, 3) := by decide +kernel
theorem dX11_law_78 : decode cX11_law 78 = .ok (.getfield 292, 3) := by decide +kernel
theorem dX11_law_81 : decode cX11_law 81 = .ok (.invokevirtual 293, 3) := by decide +kernel
theorem dX11_law_84 : decode cX11_law 84 = .ok (.ireturn, 1) := by decide +kernel
theorem dX11_order_0 : decode cX11_order 0 = .ok (.aload_n 0, 1) := by decide +kernel
theorem dX11_order_1 : decode cX11_order 1 = .ok (.getfield 10, 3) := by decide +kernel
theorem dX11_order_4 : decode cX11_order 4 = .ok (.iload_n 1, 1) := by decide +kernel
theorem dX11_order_5 : decode cX11_order 5 = .ok (.invokevirtual 120, 3) := by decide +kernel
theorem dX11_order_8 : decode cX11_order 8 = .ok (.ifCond .eq 10, 3) := by decide +kernel
theorem dX11_order_11 : decode cX11_order 11 = .ok (.iload_n 2, 1) := by decide +kernel
theorem dX11_order_12 : decode cX11_order 12 = .ok (.invokestatic 181, 3) := by decide +kernel
theorem dX11_order_15 : decode cX11_order 15 = .ok (.ifCond .ne 5, 3) := by decide +kernel
theorem dX11_order_18 : decode cX11_order 18 = .ok (.iconst (-1), 1) := by decide +kernel
theorem dX11_order_19 : decode cX11_order 19 = .ok (.ireturn, 1) := by decide +kernel
theorem dX11_order_20 : decode cX11_order 20 = .ok (.aload_n 0, 1) := by decide +kernel
theorem dX11_order_21 : decode cX11_order 21 = .ok (.getfield 67, 3) := by decide +kernel
theorem dX11_order_24 : decode cX11_order 24 = .ok (.iload_n 1, 1) := by decide +kernel
theorem dX11_order_25 : decode cX11_order 25 = .ok (.iload_n 2, 1) := by decide +kernel
theorem dX11_order_26 : decode cX11_order 26 = .ok (.invokevirtual 301, 3) := by decide +kernel
theorem dX11_order_29 : decode cX11_order 29 = .ok (.ireturn, 1) := by decide +kernel
theorem dX11_contract_0 : decode cX11_contract 0 = .ok (.aload_n 0, 1) := by decide +kernel
theorem dX11_contract_1 : decode cX11_contract 1 = .ok (.getfield 19, 3) := by decide +kernel
theorem dX11_contract_4 : decode cX11_contract 4 = .ok (.iload_n 1, 1) := by decide +kernel
theorem dX11_contract_5 : decode cX11_contract 5 = .ok (.invokevirtual 117, 3) := by decide +kernel
theorem dX11_contract_8 : decode cX11_contract 8 = .ok (.ifCond .eq 17, 3) := by decide +kernel
theorem dX11_contract_11 : decode cX11_contract 11 = .ok (.iload_n 2, 1) := by decide +kernel
theorem dX11_contract_12 : decode cX11_contract 12 = .ok (.invokestatic 181, 3) := by decide +kernel
theorem dX11_contract_15 : decode cX11_contract 15 = .ok (.ifCond .eq 10, 3) := by decide +kernel
theorem dX11_contract_18 : decode cX11_contract 18 = .ok (.iload_n 3, 1) := by decide +kernel
theorem dX11_contract_19 : decode cX11_contract 19 = .ok (.invokestatic 101, 3) := by decide +kernel
theorem dX11_contract_22 : decode cX11_contract 22 = .ok (.ifCond .ne 5, 3) := by decide +kernel
theorem dX11_contract_25 : decode cX11_contract 25 = .ok (.iconst (-1), 1) := by decide +kernel
theorem dX11_contract_26 : decode cX11_contract 26 = .ok (.ireturn, 1) := by decide +kernel
theorem dX11_contract_27 : decode cX11_contract 27 = .ok (.aload_n 0, 1) := by decide +kernel
theorem dX11_contract_28 : decode cX11_contract 28 = .ok (.getfield 19, 3) := by decide +kernel
theorem dX11_contract_31 : decode cX11_contract 31 = .ok (.iload_n 1, 1) := by decide +kernel
theorem dX11_contract_32 : decode cX11_contract 32 = .ok (.invokevirtual 121, 3) := by decide +kernel
theorem dX11_contract_35 : decode cX11_contract 35 = .ok (.ifCond .eq 6, 3) := by decide +kernel
theorem dX11_contract_38 : decode cX11_contract 38 = .ok (.bipush (-2), 2) := by decide +kernel
theorem dX11_contract_40 : decode cX11_contract 40 = .ok (.ireturn, 1) := by decide +kernel
theorem dX11_contract_41 : decode cX11_contract 41 = .ok (.aload_n 0, 1) := by decide +kernel
theorem dX11_contract_42 : decode cX11_contract 42 = .ok (.getfield 74, 3) := by decide +kernel
theorem dX11_contract_45 : decode cX11_contract 45 = .ok (.invokevirtual 309, 3) := by decide +kernel
theorem dX11_contract_48 : decode cX11_contract 48 = .ok (.istore 4, 2) := by decide +kernel
theorem dX11_contract_50 : decode cX11_contract 50 = .ok (.aload_n 0, 1) := by decide +kernel
theorem dX11_contract_51 : decode cX11_contract 51 = .ok (.getfield 42, 3) := by decide +kernel
theorem dX11_contract_54 : decode cX11_contract 54 = .ok (.iconst 0, 1) := by decide +kernel
theorem dX11_contract_55 : decode cX11_contract 55 = .ok (.putfield 291, 3) := by decide +kernel
theorem dX11_contract_58 : decode cX11_contract 58 = .ok (.iload 4, 2) := by decide +kernel
theorem dX11_contract_60 : decode cX11_contract 60 = .ok (.iconst (-1), 1) := by decide +kernel
theorem dX11_contract_61 : decode cX11_contract 61 = .ok (.if_icmp .eq 9, 3) := by decide +kernel
theorem dX11_contract_64 : decode cX11_contract 64 = .ok (.bipush (-100), 2) := by decide +kernel
theorem dX11_contract_66 : decode cX11_contract 66 = .ok (.iload 4, 2) := by decide +kernel
theorem dX11_contract_68 : decode cX11_contract 68 = .ok (.isub, 1) := by decide +kernel
theorem dX11_contract_69 : decode cX11_contract 69 = .ok (.ireturn, 1) := by decide +kernel
theorem dX11_contract_70 : decode cX11_contract 70 = .ok (.aload_n 0, 1) := by decide +kernel
theorem dX11_contract_71 : decode cX11_contract 71 = .ok (.getfield 74, 3) := by decide +kernel
theorem dX11_contract_74 : decode cX11_contract 74 = .ok (.iload_n 1, 1) := by decide +kernel
theorem dX11_contract_75 : decode cX11_contract 75 = .ok (.iload_n 2, 1) := by decide +kernel
theorem dX11_contract_76 : decode cX11_contract 76 = .ok (.iload_n 3, 1) := by decide +kernel
theorem dX11_contract_77 : decode cX11_contract 77 = .ok (.invokevirtual 312, 3) := by decide +kernel
theorem dX11_contract_80 : decode cX11_contract 80 = .ok (.ireturn, 1) := by decide +kernel
theorem dX11_link_0 : decode cX11_link 0 = .ok (.aload_n 0, 1) := by decide +kernel
theorem dX11_link_1 : decode cX11_link 1 = .ok (.getfield 19, 3) := by decide +kernel
theorem dX11_link_4 : decode cX11_link 4 = .ok (.iload_n 1, 1) := by decide +kernel
theorem dX11_link_5 : decode cX11_link 5 = .ok (.invokevirtual 117, 3) := by decide +kernel
theorem dX11_link_8 : decode cX11_link 8 = .ok (.ifCond .eq 20, 3) := by decide +kernel
theorem dX11_link_11 : decode cX11_link 11 = .ok (.iload_n 2, 1) := by decide +kernel
theorem dX11_link_12 : decode cX11_link 12 = .ok (.iconst 0, 1) := by decide +kernel
theorem dX11_link_13 : decode cX11_link 13 = .ok (.bipush 9, 2) := by decide +kernel
theorem dX11_link_15 : decode cX11_link 15 = .ok (.invokestatic 106, 3) := by decide +kernel
theorem dX11_link_18 : decode cX11_link 18 = .ok (.ifCond .eq 10, 3) := by decide +kernel
theorem dX11_link_21 : decode cX11_link 21 = .ok (.iload_n 3, 1) := by decide +kernel
theorem dX11_link_22 : decode cX11_link 22 = .ok (.invokestatic 101, 3) := by decide +kernel
theorem dX11_link_25 : decode cX11_link 25 = .ok (.ifCond .ne 5, 3) := by decide +kernel
theorem dX11_link_28 : decode cX11_link 28 = .ok (.iconst (-1), 1) := by decide +kernel
theorem dX11_link_29 : decode cX11_link 29 = .ok (.ireturn, 1) := by decide +kernel
theorem dX11_link_30 : decode cX11_link 30 = .ok (.aload_n 0, 1) := by decide +kernel
theorem dX11_link_31 : decode cX11_link 31 = .ok (.getfield 19, 3) := by decide +kernel
theorem dX11_link_34 : decode cX11_link 34 = .ok (.iload_n 1, 1) := by decide +kernel
theorem dX11_link_35 : decode cX11_link 35 = .ok (.iload_n 3, 1) := by decide +kernel
theorem dX11_link_36 : decode cX11_link 36 = .ok (.invokevirtual 371, 3) := by decide +kernel
theorem dX11_link_39 : decode cX11_link 39 = .ok (.ireturn, 1) := by decide +kernel
theorem dX11_net_0 : decode cX11_net 0 = .ok (.aload_n 0, 1) := by decide +kernel
theorem dX11_net_1 : decode cX11_net 1 = .ok (.getfield 19, 3) := by decide +kernel
theorem dX11_net_4 : decode cX11_net 4 = .ok (.iload_n 1, 1) := by decide +kernel
theorem dX11_net_5 : decode cX11_net 5 = .ok (.invokevirtual 117, 3) := by decide +kernel
theorem dX11_net_8 : decode cX11_net 8 = .ok (.ifCond .eq 33, 3) := by decide +kernel
theorem dX11_net_11 : decode cX11_net 11 = .ok (.iload_n 3, 1) := by decide +kernel
theorem dX11_net_12 : decode cX11_net 12 = .ok (.iconst 1, 1) := by decide +kernel
theorem dX11_net_13 : decode cX11_net 13 = .ok (.sipush 999, 3) := by decide +kernel
theorem dX11_net_16 : decode cX11_net 16 = .ok (.invokestatic 106, 3) := by decide +kernel
theorem dX11_net_19 : decode cX11_net 19 = .ok (.ifCond .eq 22, 3) := by decide +kernel
theorem dX11_net_22 : decode cX11_net 22 = .ok (.iload_n 2, 1) := by decide +kernel
theorem dX11_net_23 : decode cX11_net 23 = .ok (.iconst 0, 1) := by decide +kernel
theorem dX11_net_24 : decode cX11_net 24 = .ok (.aload_n 0, 1) := by decide +kernel
theorem dX11_net_25 : decode cX11_net 25 = .ok (.getfield 19, 3) := by decide +kernel
theorem dX11_net_28 : decode cX11_net 28 = .ok (.getfield 374, 3) := by decide +kernel
theorem dX11_net_31 : decode cX11_net 31 = .ok (.iload_n 1, 1) := by decide +kernel
theorem dX11_net_32 : decode cX11_net 32 = .ok (.iaload, 1) := by decide +kernel
theorem dX11_net_33 : decode cX11_net 33 = .ok (.iconst 1, 1) := by decide +kernel
theorem dX11_net_34 : decode cX11_net 34 = .ok (.isub, 1) := by decide +kernel
theorem dX11_net_35 : decode cX11_net 35 = .ok (.invokestatic 106, 3) := by decide +kernel
theorem dX11_net_38 : decode cX11_net 38 = .ok (.ifCond .ne 6, 3) := by decide +kernel
theorem dX11_net_41 : decode cX11_net 41 = .ok (.ldc 96, 2) := by decide +kernel
theorem dX11_net_43 : decode cX11_net 43 = .ok (.ireturn, 1) := by decide +kernel
theorem dX11_net_44 : decode cX11_net 44 = .ok (.aload_n 0, 1) := by decide +kernel
theorem dX11_net_45 : decode cX11_net 45 = .ok (.getfield 19, 3) := by decide +kernel
theorem dX11_net_48 : decode cX11_net 48 = .ok (.iload_n 1, 1) := by decide +kernel
theorem dX11_net_49 : decode cX11_net 49 = .ok (.iload_n 2, 1) := by decide +kernel
theorem dX11_net_50 : decode cX11_net 50 = .ok (.invokevirtual 377, 3) := by decide +kernel
theorem dX11_net_53 : decode cX11_net 53 = .ok (.aload_n 0, 1) := by decide +kernel
theorem dX11_net_54 : decode cX11_net 54 = .ok (.getfield 19, 3) := by decide +kernel
theorem dX11_net_57 : decode cX11_net 57 = .ok (.iload_n 1, 1) := by decide +kernel
theorem dX11_net_58 : decode cX11_net 58 = .ok (.iload_n 2, 1) := by decide +kernel
theorem dX11_net_59 : decode cX11_net 59 = .ok (.iconst 1, 1) := by decide +kernel
theorem dX11_net_60 : decode cX11_net 60 = .ok (.iadd, 1) := by decide +kernel
theorem dX11_net_61 : decode cX11_net 61 = .ok (.invokevirtual 377, 3) := by decide +kernel
theorem dX11_net_64 : decode cX11_net 64 = .ok (.isub, 1) := by decide +kernel
theorem dX11_net_65 : decode cX11_net 65 = .ok (.iload_n 3, 1) := by decide +kernel
theorem dX11_net_66 : decode cX11_net 66 = .ok (.imul, 1) := by decide +kernel
theorem dX11_net_67 : decode cX11_net 67 = .ok (.ireturn, 1) := by decide +kernel
theorem dX11_within_0 : decode cX11_within 0 = .ok (.iload_n 0, 1) := by decide +kernel
theorem dX11_within_1 : decode cX11_within 1 = .ok (.iload_n 1, 1) := by decide +kernel
theorem dX11_within_2 : decode cX11_within 2 = .ok (.if_icmp .lt 12, 3) := by decide +kernel
theorem dX11_within_5 : decode cX11_within 5 = .ok (.iload_n 0, 1) := by decide +kernel
theorem dX11_within_6 : decode cX11_within 6 = .ok (.iload_n 2, 1) := by decide +kernel
theorem dX11_within_7 : decode cX11_within 7 = .ok (.if_icmp .gt 7, 3) := by decide +kernel
theorem dX11_within_10 : decode cX11_within 10 = .ok (.iconst 1, 1) := by decide +kernel
theorem dX11_within_11 : decode cX11_within 11 = .ok (.goto 4, 3) := by decide +kernel
theorem dX11_within_14 : decode cX11_within 14 = .ok (.iconst 0, 1) := by decide +kernel
theorem dX11_within_15 : decode cX11_within 15 = .ok (.ireturn, 1) := by decide +kernel
theorem dX11_isDay_0 : decode cX11_isDay 0 = .ok (.iload_n 0, 1) := by decide +kernel
theorem dX11_isDay_1 : decode cX11_isDay 1 = .ok (.iconst 0, 1) := by decide +kernel
theorem dX11_isDay_2 : decode cX11_isDay 2 = .ok (.sipush 9999, 3) := by decide +kernel
theorem dX11_isDay_5 : decode cX11_isDay 5 = .ok (.invokestatic 106, 3) := by decide +kernel
theorem dX11_isDay_8 : decode cX11_isDay 8 = .ok (.ireturn, 1) := by decide +kernel
theorem dX11_isTold_0 : decode cX11_isTold 0 = .ok (.iload_n 0, 1) := by decide +kernel
theorem dX11_isTold_1 : decode cX11_isTold 1 = .ok (.iconst 0, 1) := by decide +kernel
theorem dX11_isTold_2 : decode cX11_isTold 2 = .ok (.ldc 184, 2) := by decide +kernel
theorem dX11_isTold_4 : decode cX11_isTold 4 = .ok (.invokestatic 106, 3) := by decide +kernel
theorem dX11_isTold_7 : decode cX11_isTold 7 = .ok (.ireturn, 1) := by decide +kernel
theorem dX11_held_0 : decode cX11_held 0 = .ok (.ldc2_w 387, 3) := by decide +kernel
theorem dX11_held_3 : decode cX11_held 3 = .ok (.lload_n 0, 1) := by decide +kernel
theorem dX11_held_4 : decode cX11_held 4 = .ok (.invokestatic 389, 3) := by decide +kernel
theorem dX11_held_7 : decode cX11_held 7 = .ok (.l2i, 1) := by decide +kernel
theorem dX11_held_8 : decode cX11_held 8 = .ok (.ireturn, 1) := by decide +kernel
theorem dX12_in_0 : decode cX12_in 0 = .ok (.iload_n 0, 1) := by decide +kernel
theorem dX12_in_1 : decode cX12_in 1 = .ok (.iload_n 1, 1) := by decide +kernel
theorem dX12_in_2 : decode cX12_in 2 = .ok (.if_icmp .lt 12, 3) := by decide +kernel
theorem dX12_in_5 : decode cX12_in 5 = .ok (.iload_n 0, 1) := by decide +kernel
theorem dX12_in_6 : decode cX12_in 6 = .ok (.iload_n 2, 1) := by decide +kernel
theorem dX12_in_7 : decode cX12_in 7 = .ok (.if_icmp .gt 7, 3) := by decide +kernel
theorem dX12_in_10 : decode cX12_in 10 = .ok (.iconst 1, 1) := by decide +kernel
theorem dX12_in_11 : decode cX12_in 11 = .ok (.goto 4, 3) := by decide +kernel
theorem dX12_in_14 : decode cX12_in 14 = .ok (.iconst 0, 1) := by decide +kernel
theorem dX12_in_15 : decode cX12_in 15 = .ok (.ireturn, 1) := by decide +kernel
theorem dX12_isDay_0 : decode cX12_isDay 0 = .ok (.iload_n 0, 1) := by decide +kernel
theorem dX12_isDay_1 : decode cX12_isDay 1 = .ok (.iconst 0, 1) := by decide +kernel
theorem dX12_isDay_2 : decode cX12_isDay 2 = .ok (.sipush 9999, 3) := by decide +kernel
theorem dX12_isDay_5 : decode cX12_isDay 5 = .ok (.invokestatic 151, 3) := by decide +kernel
theorem dX12_isDay_8 : decode cX12_isDay 8 = .ok (.ireturn, 1) := by decide +kernel
theorem dX12_held_0 : decode cX12_held 0 = .ok (.lload_n 0, 1) := by decide +kernel
theorem dX12_held_1 : decode cX12_held 1 = .ok (.ldc2_w 155, 3) := by decide +kernel
theorem dX12_held_4 : decode cX12_held 4 = .ok (.lcmp, 1) := by decide +kernel
theorem dX12_held_5 : decode cX12_held 5 = .ok (.ifCond .le 8, 3) := by decide +kernel
theorem dX12_held_8 : decode cX12_held 8 = .ok (.ldc 157, 2) := by decide +kernel
theorem dX12_held_10 : decode cX12_held 10 = .ok (.goto 5, 3) := by decide +kernel
theorem dX12_held_13 : decode cX12_held 13 = .ok (.lload_n 0, 1) := by decide +kernel
theorem dX12_held_14 : decode cX12_held 14 = .ok (.l2i, 1) := by decide +kernel
theorem dX12_held_15 : decode cX12_held 15 = .ok (.ireturn, 1) := by decide +kernel
theorem dX12_isKind_0 : decode cX12_isKind 0 = .ok (.iload_n 1, 1) := by decide +kernel
theorem dX12_isKind_1 : decode cX12_isKind 1 = .ok (.iconst 0, 1) := by decide +kernel
theorem dX12_isKind_2 : decode cX12_isKind 2 = .ok (.aload_n 0, 1) := by decide +kernel
theorem dX12_isKind_3 : decode cX12_isKind 3 = .ok (.getfield 158, 3) := by decide +kernel
theorem dX12_isKind_6 : decode cX12_isKind 6 = .ok (.iconst 1, 1) := by decide +kernel
theorem dX12_isKind_7 : decode cX12_isKind 7 = .ok (.isub, 1) := by decide +kernel
theorem dX12_isKind_8 : decode cX12_isKind 8 = .ok (.invokestatic 151, 3) := by decide +kernel
theorem dX12_isKind_11 : decode cX12_isKind 11 = .ok (.ireturn, 1) := by decide +kernel
theorem dX12_isPlane_0 : decode cX12_isPlane 0 = .ok (.iload_n 1, 1) := by decide +kernel
theorem dX12_isPlane_1 : decode cX12_isPlane 1 = .ok (.iconst 0, 1) := by decide +kernel
theorem dX12_isPlane_2 : decode cX12_isPlane 2 = .ok (.aload_n 0, 1) := by decide +kernel
theorem dX12_isPlane_3 : decode cX12_isPlane 3 = .ok (.getfield 161, 3) := by decide +kernel
theorem dX12_isPlane_6 : decode cX12_isPlane 6 = .ok (.iconst 1, 1) := by decide +kernel
theorem dX12_isPlane_7 : decode cX12_isPlane 7 = .ok (.isub, 1) := by decide +kernel
theorem dX12_isPlane_8 : decode cX12_isPlane 8 = .ok (.invokestatic 151, 3) := by decide +kernel
theorem dX12_isPlane_11 : decode cX12_isPlane 11 = .ok (.ireturn, 1) := by decide +kernel
theorem dX12_isReturned_0 : decode cX12_isReturned 0 = .ok (.aload_n 0, 1) := by decide +kernel
theorem dX12_isReturned_1 : decode cX12_isReturned 1 = .ok (.getfield 31, 3) := by decide +kernel
theorem dX12_isReturned_4 : decode cX12_isReturned 4 = .ok (.iload_n 1, 1) := by decide +kernel
theorem dX12_isReturned_5 : decode cX12_isReturned 5 = .ok (.iaload, 1) := by decide +kernel
theorem dX12_isReturned_6 : decode cX12_isReturned 6 = .ok (.ifCond .lt 7, 3) := by decide +kernel
theorem dX12_isReturned_9 : decode cX12_isReturned 9 = .ok (.iconst 1, 1) := by decide +kernel
theorem dX12_isReturned_10 : decode cX12_isReturned 10 = .ok (.goto 4, 3) := by decide +kernel
theorem dX12_isReturned_13 : decode cX12_isReturned 13 = .ok (.iconst 0, 1) := by decide +kernel
theorem dX12_isReturned_14 : decode cX12_isReturned 14 = .ok (.ireturn, 1) := by decide +kernel
theorem dX12_kind_0 : decode cX12_kind 0 = .ok (.iload_n 1, 1) := by decide +kernel
theorem dX12_kind_1 : decode cX12_kind 1 = .ok (.iconst 0, 1) := by decide +kernel
theorem dX12_kind_2 : decode cX12_kind 2 = .ok (.ldc 164, 2) := by decide +kernel
theorem dX12_kind_4 : decode cX12_kind 4 = .ok (.invokestatic 151, 3) := by decide +kernel
theorem dX12_kind_7 : decode cX12_kind 7 = .ok (.ifCond .eq 34, 3) := by decide +kernel
theorem dX12_kind_10 : decode cX12_kind 10 = .ok (.iload_n 2, 1) := by decide +kernel
theorem dX12_kind_11 : decode cX12_kind 11 = .ok (.iconst 0, 1) := by decide +kernel
theorem dX12_kind_12 : decode cX12_kind 12 = .ok (.ldc 164, 2) := by decide +kernel
theorem dX12_kind_14 : decode cX12_kind 14 = .ok (.invokestatic 151, 3) := by decide +kernel
theorem dX12_kind_17 : decode cX12_kind 17 = .ok (.ifCond .eq 24, 3) := by decide +kernel
theorem dX12_kind_20 : decode cX12_kind 20 = .ok (.iload_n 3, 1) := by decide +kernel
theorem dX12_kind_21 : decode cX12_kind 21 = .ok (.iconst 0, 1) := by decide +kernel
theorem dX12_kind_22 : decode cX12_kind 22 = .ok (.ldc 164, 2) := by decide +kernel
theorem dX12_kind_24 : decode cX12_kind 24 = .ok (.invokestatic 151, 3) := by decide +kernel
theorem dX12_kind_27 : decode cX12_kind 27 = .ok (.ifCond .eq 14, 3) := by decide +kernel
theorem dX12_kind_30 : decode cX12_kind 30 = .ok (.iload 4, 2) := by decide +kernel
theorem dX12_kind_32 : decode cX12_kind 32 = .ok (.iconst 0, 1) := by decide +kernel
theorem dX12_kind_33 : decode cX12_kind 33 = .ok (.ldc 165, 2) := by decide +kernel
theorem dX12_kind_35 : decode cX12_kind 35 = .ok (.invokestatic 151, 3) := by decide +kernel
theorem dX12_kind_38 : decode cX12_kind 38 = .ok (.ifCond .ne 5, 3) := by decide +kernel
theorem dX12_kind_41 : decode cX12_kind 41 = .ok (.iconst (-1), 1) := by decide +kernel
theorem dX12_kind_42 : decode cX12_kind 42 = .ok (.ireturn, 1) := by decide +kernel
theorem dX12_kind_43 : decode cX12_kind 43 = .ok (.aload_n 0, 1) := by decide +kernel
theorem dX12_kind_44 : decode cX12_kind 44 = .ok (.getfield 158, 3) := by decide +kernel
theorem dX12_kind_47 : decode cX12_kind 47 = .ok (.bipush 10, 2) := by decide +kernel
theorem dX12_kind_49 : decode cX12_kind 49 = .ok (.if_icmp .ne 6, 3) := by decide +kernel
theorem dX12_kind_52 : decode cX12_kind 52 = .ok (.bipush (-3), 2) := by decide +kernel
theorem dX12_kind_54 : decode cX12_kind 54 = .ok (.ireturn, 1) := by decide +kernel
theorem dX12_kind_55 : decode cX12_kind 55 = .ok (.aload_n 0, 1) := by decide +kernel
theorem dX12_kind_56 : decode cX12_kind 56 = .ok (.getfield 7, 3) := by decide +kernel
theorem dX12_kind_59 : decode cX12_kind 59 = .ok (.iconst 3, 1) := by decide +kernel
theorem dX12_kind_60 : decode cX12_kind 60 = .ok (.aload_n 0, 1) := by decide +kernel
theorem dX12_kind_61 : decode cX12_kind 61 = .ok (.getfield 158, 3) := by decide +kernel
theorem dX12_kind_64 : decode cX12_kind 64 = .ok (.imul, 1) := by decide +kernel
theorem dX12_kind_65 : decode cX12_kind 65 = .ok (.iload_n 1, 1) := by decide +kernel
theorem dX12_kind_66 : decode cX12_kind 66 = .ok (.iastore, 1) := by decide +kernel
theorem dX12_kind_67 : decode cX12_kind 67 = .ok (.aload_n 0, 1) := by decide +kernel
theorem dX12_kind_68 : decode cX12_kind 68 = .ok (.getfield 7, 3) := by decide +kernel
theorem dX12_kind_71 : decode cX12_kind 71 = .ok (.iconst 3, 1) := by decide +kernel
theorem dX12_kind_72 : decode cX12_kind 72 = .ok (.aload_n 0, 1) := by decide +kernel
theorem dX12_kind_73 : decode cX12_kind 73 = .ok (.getfield 158, 3) := by decide +kernel
theorem dX12_kind_76 : decode cX12_kind 76 = .ok (.imul, 1) := by decide +kernel
theorem dX12_kind_77 : decode cX12_kind 77 = .ok (.iconst 1, 1) := by decide +kernel
theorem dX12_kind_78 : decode cX12_kind 78 = .ok (.iadd, 1) := by decide +kernel
theorem dX12_kind_79 : decode cX12_kind 79 = .ok (.iload_n 2, 1) := by decide +kernel
theorem dX12_kind_80 : decode cX12_kind 80 = .ok (.iastore, 1) := by decide +kernel
theorem dX12_kind_81 : decode cX12_kind 81 = .ok (.aload_n 0, 1) := by decide +kernel
theorem dX12_kind_82 : decode cX12_kind 82 = .ok (.getfield 7, 3) := by decide +kernel
theorem dX12_kind_85 : decode cX12_kind 85 = .ok (.iconst 3, 1) := by decide +kernel
theorem dX12_kind_86 : decode cX12_kind 86 = .ok (.aload_n 0, 1) := by decide +kernel
theorem dX12_kind_87 : decode cX12_kind 87 = .ok (.getfield 158, 3) := by decide +kernel
theorem dX12_kind_90 : decode cX12_kind 90 = .ok (.imul, 1) := by decide +kernel
theorem dX12_kind_91 : decode cX12_kind 91 = .ok (.iconst 2, 1) := by decide +kernel
theorem dX12_kind_92 : decode cX12_kind 92 = .ok (.iadd, 1) := by decide +kernel
theorem dX12_kind_93 : decode cX12_kind 93 = .ok (.iload_n 3, 1) := by decide +kernel
theorem dX12_kind_94 : decode cX12_kind 94 = .ok (.iastore, 1) := by decide +kernel
theorem dX12_kind_95 : decode cX12_kind 95 = .ok (.aload_n 0, 1) := by decide +kernel
theorem dX12_kind_96 : decode cX12_kind 96 = .ok (.getfield 13, 3) := by decide +kernel
theorem dX12_kind_99 : decode cX12_kind 99 = .ok (.aload_n 0, 1) := by decide +kernel
theorem dX12_kind_100 : decode cX12_kind 100 = .ok (.getfield 158, 3) := by decide +kernel
theorem dX12_kind_103 : decode cX12_kind 103 = .ok (.iload 4, 2) := by decide +kernel
theorem dX12_kind_105 : decode cX12_kind 105 = .ok (.sipush 1000, 3) := by decide +kernel
theorem dX12_kind_108 : decode cX12_kind 108 = .ok (.idiv, 1) := by decide +kernel
theorem dX12_kind_109 : decode cX12_kind 109 = .ok (.iastore, 1) := by decide +kernel
theorem dX12_kind_110 : decode cX12_kind 110 = .ok (.aload_n 0, 1) := by decide +kernel
theorem dX12_kind_111 : decode cX12_kind 111 = .ok (.getfield 16, 3) := by decide +kernel
theorem dX12_kind_114 : decode cX12_kind 114 = .ok (.aload_n 0, 1) := by decide +kernel
theorem dX12_kind_115 : decode cX12_kind 115 = .ok (.getfield 158, 3) := by decide +kernel
theorem dX12_kind_118 : decode cX12_kind 118 = .ok (.iload 4, 2) := by decide +kernel
theorem dX12_kind_120 : decode cX12_kind 120 = .ok (.sipush 1000, 3) := by decide +kernel
theorem dX12_kind_123 : decode cX12_kind 123 = .ok (.irem, 1) := by decide +kernel
theorem dX12_kind_124 : decode cX12_kind 124 = .ok (.iastore, 1) := by decide +kernel
theorem dX12_kind_125 : decode cX12_kind 125 = .ok (.aload_n 0, 1) := by decide +kernel
theorem dX12_kind_126 : decode cX12_kind 126 = .ok (.dup, 1) := by decide +kernel
theorem dX12_kind_127 : decode cX12_kind 127 = .ok (.getfield 158, 3) := by decide +kernel
theorem dX12_kind_130 : decode cX12_kind 130 = .ok (.iconst 1, 1) := by decide +kernel
theorem dX12_kind_131 : decode cX12_kind 131 = .ok (.iadd, 1) := by decide +kernel
theorem dX12_kind_132 : decode cX12_kind 132 = .ok (.putfield 158, 3) := by decide +kernel
theorem dX12_kind_135 : decode cX12_kind 135 = .ok (.aload_n 0, 1) := by decide +kernel
theorem dX12_kind_136 : decode cX12_kind 136 = .ok (.getfield 158, 3) := by decide +kernel
theorem dX12_kind_139 : decode cX12_kind 139 = .ok (.iconst 1, 1) := by decide +kernel
theorem dX12_kind_140 : decode cX12_kind 140 = .ok (.isub, 1) := by decide +kernel
theorem dX12_kind_141 : decode cX12_kind 141 = .ok (.ireturn, 1) := by decide +kernel
theorem dX12_plane_0 : decode cX12_plane 0 = .ok (.iload_n 1, 1) := by decide +kernel
theorem dX12_plane_1 : decode cX12_plane 1 = .ok (.iconst 0, 1) := by decide +kernel
theorem dX12_plane_2 : decode cX12_plane 2 = .ok (.ldc 165, 2) := by decide +kernel
theorem dX12_plane_4 : decode cX12_plane 4 = .ok (.invokestatic 151, 3) := by decide +kernel
theorem dX12_plane_7 : decode cX12_plane 7 = .ok (.ifCond .ne 5, 3) := by decide +kernel
theorem dX12_plane_10 : decode cX12_plane 10 = .ok (.iconst (-1), 1) := by decide +kernel
theorem dX12_plane_11 : decode cX12_plane 11 = .ok (.ireturn, 1) := by decide +kernel
theorem dX12_plane_12 : decode cX12_plane 12 = .ok (.aload_n 0, 1) := by decide +kernel
theorem dX12_plane_13 : decode cX12_plane 13 = .ok (.getfield 161, 3) := by decide +kernel
theorem dX12_plane_16 : decode cX12_plane 16 = .ok (.bipush 10, 2) := by decide +kernel
theorem dX12_plane_18 : decode cX12_plane 18 = .ok (.if_icmp .ne 6, 3) := by decide +kernel
theorem dX12_plane_21 : decode cX12_plane 21 = .ok (.bipush (-3), 2) := by decide +kernel
theorem dX12_plane_23 : decode cX12_plane 23 = .ok (.ireturn, 1) := by decide +kernel
theorem dX12_plane_24 : decode cX12_plane 24 = .ok (.aload_n 0, 1) := by decide +kernel
theorem dX12_plane_25 : decode cX12_plane 25 = .ok (.getfield 19, 3) := by decide +kernel
theorem dX12_plane_28 : decode cX12_plane 28 = .ok (.aload_n 0, 1) := by decide +kernel
theorem dX12_plane_29 : decode cX12_plane 29 = .ok (.getfield 161, 3) := by decide +kernel
