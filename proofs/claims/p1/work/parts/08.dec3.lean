theorem dX11_days_23 : decode cX11_days 23 = .ok (.iconst (-1), 1) := by decide +kernel
theorem dX11_days_24 : decode cX11_days 24 = .ok (.ireturn, 1) := by decide +kernel
theorem dX11_days_11 : decode cX11_days 11 = .ok (.aload_n 0, 1) := by decide +kernel
theorem dX11_days_12 : decode cX11_days 12 = .ok (.getfield 132, 3) := by decide +kernel
theorem dX11_days_15 : decode cX11_days 15 = .ok (.iload_n 1, 1) := by decide +kernel
theorem dX11_days_16 : decode cX11_days 16 = .ok (.iadd, 1) := by decide +kernel
theorem dX11_days_17 : decode cX11_days 17 = .ok (.sipush 9999, 3) := by decide +kernel
theorem dX11_days_20 : decode cX11_days 20 = .ok (.if_icmp .le 5, 3) := by decide +kernel
theorem dX11_days_25 : decode cX11_days 25 = .ok (.aload_n 0, 1) := by decide +kernel
theorem dX11_days_26 : decode cX11_days 26 = .ok (.dup, 1) := by decide +kernel
theorem dX11_days_27 : decode cX11_days 27 = .ok (.getfield 132, 3) := by decide +kernel
theorem dX11_days_30 : decode cX11_days 30 = .ok (.iload_n 1, 1) := by decide +kernel
theorem dX11_days_31 : decode cX11_days 31 = .ok (.iadd, 1) := by decide +kernel
theorem dX11_days_32 : decode cX11_days 32 = .ok (.putfield 132, 3) := by decide +kernel
theorem dX11_days_35 : decode cX11_days 35 = .ok (.aload_n 0, 1) := by decide +kernel
theorem dX11_days_36 : decode cX11_days 36 = .ok (.getfield 35, 3) := by decide +kernel
theorem dX11_days_39 : decode cX11_days 39 = .ok (.iload_n 1, 1) := by decide +kernel
theorem dX11_days_40 : decode cX11_days 40 = .ok (.invokevirtual 135, 3) := by decide +kernel
theorem dX11_days_43 : decode cX11_days 43 = .ok (.aload_n 0, 1) := by decide +kernel
theorem dX11_days_44 : decode cX11_days 44 = .ok (.getfield 132, 3) := by decide +kernel
theorem dX11_days_47 : decode cX11_days 47 = .ok (.ireturn, 1) := by decide +kernel
theorem dX12_days_0 : decode cX12_days 0 = .ok (.iload_n 1, 1) := by decide +kernel
theorem dX12_days_1 : decode cX12_days 1 = .ok (.iconst 1, 1) := by decide +kernel
theorem dX12_days_2 : decode cX12_days 2 = .ok (.sipush 400, 3) := by decide +kernel
theorem dX12_days_5 : decode cX12_days 5 = .ok (.invokestatic 151, 3) := by decide +kernel
theorem dX12_days_8 : decode cX12_days 8 = .ok (.ifCond .eq 15, 3) := by decide +kernel
theorem dX12_days_23 : decode cX12_days 23 = .ok (.iconst (-1), 1) := by decide +kernel
theorem dX12_days_24 : decode cX12_days 24 = .ok (.ireturn, 1) := by decide +kernel
theorem dX12_days_11 : decode cX12_days 11 = .ok (.aload_n 0, 1) := by decide +kernel
theorem dX12_days_12 : decode cX12_days 12 = .ok (.getfield 183, 3) := by decide +kernel
theorem dX12_days_15 : decode cX12_days 15 = .ok (.iload_n 1, 1) := by decide +kernel
theorem dX12_days_16 : decode cX12_days 16 = .ok (.iadd, 1) := by decide +kernel
theorem dX12_days_17 : decode cX12_days 17 = .ok (.sipush 9999, 3) := by decide +kernel
theorem dX12_days_20 : decode cX12_days 20 = .ok (.if_icmp .le 5, 3) := by decide +kernel
theorem dX12_days_25 : decode cX12_days 25 = .ok (.aload_n 0, 1) := by decide +kernel
theorem dX12_days_26 : decode cX12_days 26 = .ok (.dup, 1) := by decide +kernel
theorem dX12_days_27 : decode cX12_days 27 = .ok (.getfield 183, 3) := by decide +kernel
theorem dX12_days_30 : decode cX12_days 30 = .ok (.iload_n 1, 1) := by decide +kernel
theorem dX12_days_31 : decode cX12_days 31 = .ok (.iadd, 1) := by decide +kernel
theorem dX12_days_32 : decode cX12_days 32 = .ok (.putfield 183, 3) := by decide +kernel
theorem dX12_days_35 : decode cX12_days 35 = .ok (.iconst 0, 1) := by decide +kernel
theorem dX12_days_36 : decode cX12_days 36 = .ok (.istore_n 2, 1) := by decide +kernel
theorem dX12_days_37 : decode cX12_days 37 = .ok (.iload_n 2, 1) := by decide +kernel
theorem dX12_days_38 : decode cX12_days 38 = .ok (.aload_n 0, 1) := by decide +kernel
theorem dX12_days_39 : decode cX12_days 39 = .ok (.getfield 166, 3) := by decide +kernel
theorem dX12_days_42 : decode cX12_days 42 = .ok (.if_icmp .ge 34, 3) := by decide +kernel
theorem dX12_days_76 : decode cX12_days 76 = .ok (.aload_n 0, 1) := by decide +kernel
theorem dX12_days_77 : decode cX12_days 77 = .ok (.getfield 183, 3) := by decide +kernel
theorem dX12_days_80 : decode cX12_days 80 = .ok (.ireturn, 1) := by decide +kernel
theorem dX10_take_0 : decode cX10_take 0 = .ok (.aload_n 0, 1) := by decide +kernel
theorem dX10_take_1 : decode cX10_take 1 = .ok (.getfield 15, 3) := by decide +kernel
theorem dX10_take_4 : decode cX10_take 4 = .ok (.iload_n 1, 1) := by decide +kernel
theorem dX10_take_5 : decode cX10_take 5 = .ok (.iadd, 1) := by decide +kernel
theorem dX10_take_6 : decode cX10_take 6 = .ok (.bipush 120, 2) := by decide +kernel
theorem dX10_take_8 : decode cX10_take 8 = .ok (.if_icmp .le 6, 3) := by decide +kernel
theorem dX10_take_14 : decode cX10_take 14 = .ok (.iconst 0, 1) := by decide +kernel
theorem dX10_take_15 : decode cX10_take 15 = .ok (.istore_n 3, 1) := by decide +kernel
theorem dX10_take_16 : decode cX10_take 16 = .ok (.iload_n 3, 1) := by decide +kernel
theorem dX10_take_17 : decode cX10_take 17 = .ok (.iload_n 1, 1) := by decide +kernel
theorem dX10_take_18 : decode cX10_take 18 = .ok (.if_icmp .ge 30, 3) := by decide +kernel
theorem dX10_take_48 : decode cX10_take 48 = .ok (.aload_n 0, 1) := by decide +kernel
theorem dX10_take_49 : decode cX10_take 49 = .ok (.dup, 1) := by decide +kernel
theorem dX10_take_50 : decode cX10_take 50 = .ok (.getfield 15, 3) := by decide +kernel
theorem dX10_take_53 : decode cX10_take 53 = .ok (.iload_n 1, 1) := by decide +kernel
theorem dX10_take_54 : decode cX10_take 54 = .ok (.iadd, 1) := by decide +kernel
theorem dX10_take_55 : decode cX10_take 55 = .ok (.putfield 15, 3) := by decide +kernel
theorem dX10_take_58 : decode cX10_take 58 = .ok (.aload_n 0, 1) := by decide +kernel
theorem dX10_take_59 : decode cX10_take 59 = .ok (.getfield 15, 3) := by decide +kernel
theorem dX10_take_62 : decode cX10_take 62 = .ok (.ireturn, 1) := by decide +kernel
theorem dX10_take_21 : decode cX10_take 21 = .ok (.aload_n 0, 1) := by decide +kernel
theorem dX10_take_22 : decode cX10_take 22 = .ok (.getfield 9, 3) := by decide +kernel
theorem dX10_take_25 : decode cX10_take 25 = .ok (.aload_n 0, 1) := by decide +kernel
theorem dX10_take_26 : decode cX10_take 26 = .ok (.getfield 15, 3) := by decide +kernel
theorem dX10_take_29 : decode cX10_take 29 = .ok (.iload_n 3, 1) := by decide +kernel
theorem dX10_take_30 : decode cX10_take 30 = .ok (.iadd, 1) := by decide +kernel
theorem dX10_take_31 : decode cX10_take 31 = .ok (.iload_n 2, 1) := by decide +kernel
theorem dX10_take_32 : decode cX10_take 32 = .ok (.bipush 8, 2) := by decide +kernel
theorem dX10_take_34 : decode cX10_take 34 = .ok (.iload_n 3, 1) := by decide +kernel
theorem dX10_take_35 : decode cX10_take 35 = .ok (.imul, 1) := by decide +kernel
theorem dX10_take_36 : decode cX10_take 36 = .ok (.ishr, 1) := by decide +kernel
theorem dX10_take_37 : decode cX10_take 37 = .ok (.sipush 255, 3) := by decide +kernel
theorem dX10_take_40 : decode cX10_take 40 = .ok (.iand, 1) := by decide +kernel
theorem dX10_take_41 : decode cX10_take 41 = .ok (.iastore, 1) := by decide +kernel
theorem dX10_take_42 : decode cX10_take 42 = .ok (.iinc 3 1, 3) := by decide +kernel
theorem dX10_take_45 : decode cX10_take 45 = .ok (.goto (-29), 3) := by decide +kernel
theorem dX10_take_11 : decode cX10_take 11 = .ok (.bipush (-3), 2) := by decide +kernel
theorem dX10_take_13 : decode cX10_take 13 = .ok (.ireturn, 1) := by decide +kernel
theorem dX11_feed_0 : decode cX11_feed 0 = .ok (.iload_n 1, 1) := by decide +kernel
theorem dX11_feed_1 : decode cX11_feed 1 = .ok (.iconst 1, 1) := by decide +kernel
theorem dX11_feed_2 : decode cX11_feed 2 = .ok (.iconst 4, 1) := by decide +kernel
theorem dX11_feed_3 : decode cX11_feed 3 = .ok (.invokestatic 106, 3) := by decide +kernel
theorem dX11_feed_6 : decode cX11_feed 6 = .ok (.ifCond .ne 5, 3) := by decide +kernel
theorem dX11_feed_11 : decode cX11_feed 11 = .ok (.aload_n 0, 1) := by decide +kernel
theorem dX11_feed_12 : decode cX11_feed 12 = .ok (.getfield 42, 3) := by decide +kernel
theorem dX11_feed_15 : decode cX11_feed 15 = .ok (.iload_n 1, 1) := by decide +kernel
theorem dX11_feed_16 : decode cX11_feed 16 = .ok (.iload_n 2, 1) := by decide +kernel
theorem dX11_feed_17 : decode cX11_feed 17 = .ok (.invokevirtual 279, 3) := by decide +kernel
theorem dX11_feed_20 : decode cX11_feed 20 = .ok (.ireturn, 1) := by decide +kernel
theorem dX11_feed_9 : decode cX11_feed 9 = .ok (.iconst (-1), 1) := by decide +kernel
theorem dX11_feed_10 : decode cX11_feed 10 = .ok (.ireturn, 1) := by decide +kernel
theorem dX12_feed_0 : decode cX12_feed 0 = .ok (.iload_n 1, 1) := by decide +kernel
theorem dX12_feed_1 : decode cX12_feed 1 = .ok (.iconst 1, 1) := by decide +kernel
theorem dX12_feed_2 : decode cX12_feed 2 = .ok (.iconst 4, 1) := by decide +kernel
theorem dX12_feed_3 : decode cX12_feed 3 = .ok (.invokestatic 151, 3) := by decide +kernel
theorem dX12_feed_6 : decode cX12_feed 6 = .ok (.ifCond .ne 5, 3) := by decide +kernel
theorem dX12_feed_11 : decode cX12_feed 11 = .ok (.aload_n 0, 1) := by decide +kernel
theorem dX12_feed_12 : decode cX12_feed 12 = .ok (.getfield 245, 3) := by decide +kernel
theorem dX12_feed_15 : decode cX12_feed 15 = .ok (.iload_n 1, 1) := by decide +kernel
theorem dX12_feed_16 : decode cX12_feed 16 = .ok (.iadd, 1) := by decide +kernel
theorem dX12_feed_17 : decode cX12_feed 17 = .ok (.bipush 120, 2) := by decide +kernel
theorem dX12_feed_19 : decode cX12_feed 19 = .ok (.if_icmp .le 6, 3) := by decide +kernel
theorem dX12_feed_25 : decode cX12_feed 25 = .ok (.iconst 0, 1) := by decide +kernel
theorem dX12_feed_26 : decode cX12_feed 26 = .ok (.istore_n 3, 1) := by decide +kernel
theorem dX12_feed_27 : decode cX12_feed 27 = .ok (.iload_n 3, 1) := by decide +kernel
theorem dX12_feed_28 : decode cX12_feed 28 = .ok (.iload_n 1, 1) := by decide +kernel
theorem dX12_feed_29 : decode cX12_feed 29 = .ok (.if_icmp .ge 35, 3) := by decide +kernel
theorem dX12_feed_32 : decode cX12_feed 32 = .ok (.aload_n 0, 1) := by decide +kernel
theorem dX12_feed_33 : decode cX12_feed 33 = .ok (.getfield 80, 3) := by decide +kernel
theorem dX12_feed_36 : decode cX12_feed 36 = .ok (.aload_n 0, 1) := by decide +kernel
theorem dX12_feed_37 : decode cX12_feed 37 = .ok (.getfield 245, 3) := by decide +kernel
theorem dX12_feed_40 : decode cX12_feed 40 = .ok (.iload_n 2, 1) := by decide +kernel
theorem dX12_feed_41 : decode cX12_feed 41 = .ok (.bipush 8, 2) := by decide +kernel
theorem dX12_feed_43 : decode cX12_feed 43 = .ok (.iload_n 3, 1) := by decide +kernel
theorem dX12_feed_44 : decode cX12_feed 44 = .ok (.imul, 1) := by decide +kernel
theorem dX12_feed_45 : decode cX12_feed 45 = .ok (.ishr, 1) := by decide +kernel
theorem dX12_feed_46 : decode cX12_feed 46 = .ok (.i2b, 1) := by decide +kernel
theorem dX12_feed_47 : decode cX12_feed 47 = .ok (.bastore, 1) := by decide +kernel
theorem dX12_feed_48 : decode cX12_feed 48 = .ok (.aload_n 0, 1) := by decide +kernel
theorem dX12_feed_49 : decode cX12_feed 49 = .ok (.dup, 1) := by decide +kernel
theorem dX12_feed_50 : decode cX12_feed 50 = .ok (.getfield 245, 3) := by decide +kernel
theorem dX12_feed_53 : decode cX12_feed 53 = .ok (.iconst 1, 1) := by decide +kernel
theorem dX12_feed_54 : decode cX12_feed 54 = .ok (.iadd, 1) := by decide +kernel
theorem dX12_feed_55 : decode cX12_feed 55 = .ok (.putfield 245, 3) := by decide +kernel
theorem dX12_feed_58 : decode cX12_feed 58 = .ok (.iinc 3 1, 3) := by decide +kernel
theorem dX12_feed_61 : decode cX12_feed 61 = .ok (.goto (-34), 3) := by decide +kernel
theorem dX12_feed_64 : decode cX12_feed 64 = .ok (.aload_n 0, 1) := by decide +kernel
theorem dX12_feed_65 : decode cX12_feed 65 = .ok (.getfield 245, 3) := by decide +kernel
theorem dX12_feed_68 : decode cX12_feed 68 = .ok (.ireturn, 1) := by decide +kernel
theorem dX12_feed_22 : decode cX12_feed 22 = .ok (.bipush (-3), 2) := by decide +kernel
theorem dX12_feed_24 : decode cX12_feed 24 = .ok (.ireturn, 1) := by decide +kernel
theorem dX12_feed_9 : decode cX12_feed 9 = .ok (.iconst (-1), 1) := by decide +kernel
theorem dX12_feed_10 : decode cX12_feed 10 = .ok (.ireturn, 1) := by decide +kernel
theorem dX10_at_0 : decode cX10_at 0 = .ok (.iload_n 1, 1) := by decide +kernel
theorem dX10_at_1 : decode cX10_at 1 = .ok (.ifCond .lt 20, 3) := by decide +kernel
theorem dX10_at_4 : decode cX10_at 4 = .ok (.iload_n 1, 1) := by decide +kernel
theorem dX10_at_5 : decode cX10_at 5 = .ok (.aload_n 0, 1) := by decide +kernel
theorem dX10_at_6 : decode cX10_at 6 = .ok (.getfield 15, 3) := by decide +kernel
theorem dX10_at_9 : decode cX10_at 9 = .ok (.if_icmp .ge 12, 3) := by decide +kernel
theorem dX10_at_21 : decode cX10_at 21 = .ok (.iconst (-1), 1) := by decide +kernel
theorem dX10_at_22 : decode cX10_at 22 = .ok (.ireturn, 1) := by decide +kernel
theorem dX3_next_0 : decode cX3_next 0 = .ok (.aload_n 0, 1) := by decide +kernel
theorem dX3_next_1 : decode cX3_next 1 = .ok (.getfield 26, 3) := by decide +kernel
theorem dX3_next_4 : decode cX3_next 4 = .ok (.iconst (-1), 1) := by decide +kernel
theorem dX3_next_5 : decode cX3_next 5 = .ok (.if_icmp .ne 17, 3) := by decide +kernel
theorem dX3_next_8 : decode cX3_next 8 = .ok (.aload_n 0, 1) := by decide +kernel
theorem dX3_next_9 : decode cX3_next 9 = .ok (.getfield 9, 3) := by decide +kernel
theorem dX3_next_12 : decode cX3_next 12 = .ok (.aload_n 0, 1) := by decide +kernel
theorem dX3_next_13 : decode cX3_next 13 = .ok (.getfield 23, 3) := by decide +kernel
theorem dX3_next_16 : decode cX3_next 16 = .ok (.invokevirtual 39, 3) := by decide +kernel
theorem dX3_next_19 : decode cX3_next 19 = .ok (.goto 4, 3) := by decide +kernel
theorem dX3_next_23 : decode cX3_next 23 = .ok (.ireturn, 1) := by decide +kernel
theorem dX3_next_22 : decode cX3_next 22 = .ok (.iconst (-1), 1) := by decide +kernel
theorem dX3_fail_0 : decode cX3_fail 0 = .ok (.aload_n 0, 1) := by decide +kernel
theorem dX3_fail_1 : decode cX3_fail 1 = .ok (.getfield 26, 3) := by decide +kernel
theorem dX3_fail_4 : decode cX3_fail 4 = .ok (.iconst (-1), 1) := by decide +kernel
theorem dX3_fail_5 : decode cX3_fail 5 = .ok (.if_icmp .ne 11, 3) := by decide +kernel
theorem dX3_fail_8 : decode cX3_fail 8 = .ok (.aload_n 0, 1) := by decide +kernel
theorem dX3_fail_9 : decode cX3_fail 9 = .ok (.aload_n 0, 1) := by decide +kernel
theorem dX3_fail_10 : decode cX3_fail 10 = .ok (.getfield 23, 3) := by decide +kernel
theorem dX3_fail_13 : decode cX3_fail 13 = .ok (.putfield 26, 3) := by decide +kernel
theorem dX3_fail_16 : decode cX3_fail 16 = .ok (.return_, 1) := by decide +kernel
theorem dX3_readNumberOrName_0 : decode cX3_readNumberOrName 0 = .ok (.iload_n 1, 1) := by decide +kernel
theorem dX3_readNumberOrName_1 : decode cX3_readNumberOrName 1 = .ok (.iconst (-1), 1) := by decide +kernel
theorem dX3_readNumberOrName_2 : decode cX3_readNumberOrName 2 = .ok (.if_icmp .ne 7, 3) := by decide +kernel
theorem dX3_readNumberOrName_5 : decode cX3_readNumberOrName 5 = .ok (.iconst (-1), 1) := by decide +kernel
theorem dX3_readNumberOrName_6 : decode cX3_readNumberOrName 6 = .ok (.goto 10, 3) := by decide +kernel
theorem dX3_readNumberOrName_16 : decode cX3_readNumberOrName 16 = .ok (.istore_n 2, 1) := by decide +kernel
theorem dX3_readNumberOrName_17 : decode cX3_readNumberOrName 17 = .ok (.iload_n 1, 1) := by decide +kernel
theorem dX3_readNumberOrName_18 : decode cX3_readNumberOrName 18 = .ok (.iconst (-1), 1) := by decide +kernel
theorem dX3_readNumberOrName_19 : decode cX3_readNumberOrName 19 = .ok (.if_icmp .ne 7, 3) := by decide +kernel
theorem dX3_readNumberOrName_22 : decode cX3_readNumberOrName 22 = .ok (.iconst 0, 1) := by decide +kernel
theorem dX3_readNumberOrName_23 : decode cX3_readNumberOrName 23 = .ok (.goto 14, 3) := by decide +kernel
theorem dX3_readNumberOrName_37 : decode cX3_readNumberOrName 37 = .ok (.istore_n 3, 1) := by decide +kernel
theorem dX3_readNumberOrName_38 : decode cX3_readNumberOrName 38 = .ok (.iload_n 2, 1) := by decide +kernel
theorem dX3_readNumberOrName_39 : decode cX3_readNumberOrName 39 = .ok (.ifCond .lt 23, 3) := by decide +kernel
theorem dX3_readNumberOrName_62 : decode cX3_readNumberOrName 62 = .ok (.iload_n 3, 1) := by decide +kernel
theorem dX3_readNumberOrName_63 : decode cX3_readNumberOrName 63 = .ok (.ifCond .le 34, 3) := by decide +kernel
theorem dX3_readNumberOrName_97 : decode cX3_readNumberOrName 97 = .ok (.aload_n 0, 1) := by decide +kernel
theorem dX3_readNumberOrName_98 : decode cX3_readNumberOrName 98 = .ok (.invokevirtual 36, 3) := by decide +kernel
theorem dX3_readNumberOrName_101 : decode cX3_readNumberOrName 101 = .ok (.return_, 1) := by decide +kernel
theorem dX3_readOperand_0 : decode cX3_readOperand 0 = .ok (.aload_n 0, 1) := by decide +kernel
theorem dX3_readOperand_1 : decode cX3_readOperand 1 = .ok (.invokevirtual 43, 3) := by decide +kernel
theorem dX3_readOperand_4 : decode cX3_readOperand 4 = .ok (.istore_n 2, 1) := by decide +kernel
theorem dX3_readOperand_5 : decode cX3_readOperand 5 = .ok (.iload_n 2, 1) := by decide +kernel
theorem dX3_readOperand_6 : decode cX3_readOperand 6 = .ok (.bipush 45, 2) := by decide +kernel
theorem dX3_readOperand_8 : decode cX3_readOperand 8 = .ok (.if_icmp .ne 28, 3) := by decide +kernel
theorem dX3_readOperand_36 : decode cX3_readOperand 36 = .ok (.iload_n 2, 1) := by decide +kernel
theorem dX3_readOperand_37 : decode cX3_readOperand 37 = .ok (.bipush 40, 2) := by decide +kernel
theorem dX3_readOperand_39 : decode cX3_readOperand 39 = .ok (.if_icmp .ne 27, 3) := by decide +kernel
theorem dX3_readOperand_66 : decode cX3_readOperand 66 = .ok (.aload_n 0, 1) := by decide +kernel
theorem dX3_readOperand_67 : decode cX3_readOperand 67 = .ok (.iload_n 2, 1) := by decide +kernel
theorem dX3_readOperand_68 : decode cX3_readOperand 68 = .ok (.invokevirtual 76, 3) := by decide +kernel
theorem dX3_readOperand_71 : decode cX3_readOperand 71 = .ok (.return_, 1) := by decide +kernel
theorem dX3_readProduct_0 : decode cX3_readProduct 0 = .ok (.aload_n 0, 1) := by decide +kernel
theorem dX3_readProduct_1 : decode cX3_readProduct 1 = .ok (.iload_n 1, 1) := by decide +kernel
theorem dX3_readProduct_2 : decode cX3_readProduct 2 = .ok (.invokevirtual 73, 3) := by decide +kernel
theorem dX3_readProduct_5 : decode cX3_readProduct 5 = .ok (.iconst 0, 1) := by decide +kernel
theorem dX3_readProduct_6 : decode cX3_readProduct 6 = .ok (.istore_n 2, 1) := by decide +kernel
theorem dX3_readProduct_7 : decode cX3_readProduct 7 = .ok (.iload_n 2, 1) := by decide +kernel
theorem dX3_readProduct_8 : decode cX3_readProduct 8 = .ok (.bipush 120, 2) := by decide +kernel
theorem dX3_readProduct_10 : decode cX3_readProduct 10 = .ok (.if_icmp .ge 66, 3) := by decide +kernel
theorem dX3_readProduct_13 : decode cX3_readProduct 13 = .ok (.aload_n 0, 1) := by decide +kernel
theorem dX3_readProduct_14 : decode cX3_readProduct 14 = .ok (.invokevirtual 43, 3) := by decide +kernel
theorem dX3_readProduct_17 : decode cX3_readProduct 17 = .ok (.bipush 42, 2) := by decide +kernel
theorem dX3_readProduct_19 : decode cX3_readProduct 19 = .ok (.if_icmp .eq 12, 3) := by decide +kernel
theorem dX3_readProduct_22 : decode cX3_readProduct 22 = .ok (.aload_n 0, 1) := by decide +kernel
theorem dX3_readProduct_23 : decode cX3_readProduct 23 = .ok (.invokevirtual 43, 3) := by decide +kernel
theorem dX3_readProduct_26 : decode cX3_readProduct 26 = .ok (.bipush 47, 2) := by decide +kernel
theorem dX3_readProduct_28 : decode cX3_readProduct 28 = .ok (.if_icmp .ne 48, 3) := by decide +kernel
theorem dX3_readProduct_76 : decode cX3_readProduct 76 = .ok (.return_, 1) := by decide +kernel
theorem dX3_readSum_0 : decode cX3_readSum 0 = .ok (.aload_n 0, 1) := by decide +kernel
theorem dX3_readSum_1 : decode cX3_readSum 1 = .ok (.iload_n 1, 1) := by decide +kernel
theorem dX3_readSum_2 : decode cX3_readSum 2 = .ok (.invokevirtual 70, 3) := by decide +kernel
theorem dX3_readSum_5 : decode cX3_readSum 5 = .ok (.iconst 0, 1) := by decide +kernel
theorem dX3_readSum_6 : decode cX3_readSum 6 = .ok (.istore_n 2, 1) := by decide +kernel
theorem dX3_readSum_7 : decode cX3_readSum 7 = .ok (.iload_n 2, 1) := by decide +kernel
theorem dX3_readSum_8 : decode cX3_readSum 8 = .ok (.bipush 120, 2) := by decide +kernel
theorem dX3_readSum_10 : decode cX3_readSum 10 = .ok (.if_icmp .ge 65, 3) := by decide +kernel
theorem dX3_readSum_13 : decode cX3_readSum 13 = .ok (.aload_n 0, 1) := by decide +kernel
theorem dX3_readSum_14 : decode cX3_readSum 14 = .ok (.invokevirtual 43, 3) := by decide +kernel
theorem dX3_readSum_17 : decode cX3_readSum 17 = .ok (.bipush 43, 2) := by decide +kernel
theorem dX3_readSum_19 : decode cX3_readSum 19 = .ok (.if_icmp .eq 12, 3) := by decide +kernel
theorem dX3_readSum_22 : decode cX3_readSum 22 = .ok (.aload_n 0, 1) := by decide +kernel
theorem dX3_readSum_23 : decode cX3_readSum 23 = .ok (.invokevirtual 43, 3) := by decide +kernel
theorem dX3_readSum_26 : decode cX3_readSum 26 = .ok (.bipush 45, 2) := by decide +kernel
theorem dX3_readSum_28 : decode cX3_readSum 28 = .ok (.if_icmp .ne 47, 3) := by decide +kernel
theorem dX3_readSum_75 : decode cX3_readSum 75 = .ok (.return_, 1) := by decide +kernel
theorem dX3_readComparison_0 : decode cX3_readComparison 0 = .ok (.aload_n 0, 1) := by decide +kernel
theorem dX3_readComparison_1 : decode cX3_readComparison 1 = .ok (.iload_n 1, 1) := by decide +kernel
theorem dX3_readComparison_2 : decode cX3_readComparison 2 = .ok (.invokevirtual 67, 3) := by decide +kernel
theorem dX3_readComparison_5 : decode cX3_readComparison 5 = .ok (.aload_n 0, 1) := by decide +kernel
theorem dX3_readComparison_6 : decode cX3_readComparison 6 = .ok (.invokevirtual 43, 3) := by decide +kernel
theorem dX3_readComparison_9 : decode cX3_readComparison 9 = .ok (.istore_n 2, 1) := by decide +kernel
theorem dX3_readComparison_10 : decode cX3_readComparison 10 = .ok (.iload_n 2, 1) := by decide +kernel
theorem dX3_readComparison_11 : decode cX3_readComparison 11 = .ok (.bipush 60, 2) := by decide +kernel
theorem dX3_readComparison_13 : decode cX3_readComparison 13 = .ok (.if_icmp .eq 15, 3) := by decide +kernel
theorem dX3_readComparison_16 : decode cX3_readComparison 16 = .ok (.iload_n 2, 1) := by decide +kernel
theorem dX3_readComparison_17 : decode cX3_readComparison 17 = .ok (.bipush 61, 2) := by decide +kernel
theorem dX3_readComparison_19 : decode cX3_readComparison 19 = .ok (.if_icmp .eq 9, 3) := by decide +kernel
theorem dX3_readComparison_22 : decode cX3_readComparison 22 = .ok (.iload_n 2, 1) := by decide +kernel
