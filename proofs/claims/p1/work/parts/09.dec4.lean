theorem dX3_readComparison_23 : decode cX3_readComparison 23 = .ok (.bipush 62, 2) := by decide +kernel
theorem dX3_readComparison_25 : decode cX3_readComparison 25 = .ok (.if_icmp .ne 48, 3) := by decide +kernel
theorem dX3_readComparison_73 : decode cX3_readComparison 73 = .ok (.return_, 1) := by decide +kernel
theorem dX3_readChoice_0 : decode cX3_readChoice 0 = .ok (.aload_n 0, 1) := by decide +kernel
theorem dX3_readChoice_1 : decode cX3_readChoice 1 = .ok (.iload_n 1, 1) := by decide +kernel
theorem dX3_readChoice_2 : decode cX3_readChoice 2 = .ok (.invokevirtual 47, 3) := by decide +kernel
theorem dX3_readChoice_5 : decode cX3_readChoice 5 = .ok (.aload_n 0, 1) := by decide +kernel
theorem dX3_readChoice_6 : decode cX3_readChoice 6 = .ok (.invokevirtual 43, 3) := by decide +kernel
theorem dX3_readChoice_9 : decode cX3_readChoice 9 = .ok (.bipush 63, 2) := by decide +kernel
theorem dX3_readChoice_11 : decode cX3_readChoice 11 = .ok (.if_icmp .ne 55, 3) := by decide +kernel
theorem dX3_readChoice_66 : decode cX3_readChoice 66 = .ok (.return_, 1) := by decide +kernel
theorem dX3_read_0 : decode cX3_read 0 = .ok (.aload_n 0, 1) := by decide +kernel
theorem dX3_read_1 : decode cX3_read 1 = .ok (.aload_n 1, 1) := by decide +kernel
theorem dX3_read_2 : decode cX3_read 2 = .ok (.putfield 15, 3) := by decide +kernel
theorem dX3_read_5 : decode cX3_read 5 = .ok (.aload_n 0, 1) := by decide +kernel
theorem dX3_read_6 : decode cX3_read 6 = .ok (.iconst 0, 1) := by decide +kernel
theorem dX3_read_7 : decode cX3_read 7 = .ok (.putfield 19, 3) := by decide +kernel
theorem dX3_read_10 : decode cX3_read 10 = .ok (.aload_n 0, 1) := by decide +kernel
theorem dX3_read_11 : decode cX3_read 11 = .ok (.iconst 0, 1) := by decide +kernel
theorem dX3_read_12 : decode cX3_read 12 = .ok (.putfield 23, 3) := by decide +kernel
theorem dX3_read_15 : decode cX3_read 15 = .ok (.aload_n 0, 1) := by decide +kernel
theorem dX3_read_16 : decode cX3_read 16 = .ok (.iconst (-1), 1) := by decide +kernel
theorem dX3_read_17 : decode cX3_read 17 = .ok (.putfield 26, 3) := by decide +kernel
theorem dX3_read_20 : decode cX3_read 20 = .ok (.aload_n 0, 1) := by decide +kernel
theorem dX3_read_21 : decode cX3_read 21 = .ok (.iconst 0, 1) := by decide +kernel
theorem dX3_read_22 : decode cX3_read 22 = .ok (.invokevirtual 29, 3) := by decide +kernel
theorem dX3_read_25 : decode cX3_read 25 = .ok (.aload_n 0, 1) := by decide +kernel
theorem dX3_read_26 : decode cX3_read 26 = .ok (.getfield 23, 3) := by decide +kernel
theorem dX3_read_29 : decode cX3_read 29 = .ok (.aload_n 0, 1) := by decide +kernel
theorem dX3_read_30 : decode cX3_read 30 = .ok (.getfield 9, 3) := by decide +kernel
theorem dX3_read_33 : decode cX3_read 33 = .ok (.getfield 33, 3) := by decide +kernel
theorem dX3_read_36 : decode cX3_read 36 = .ok (.if_icmp .ge 7, 3) := by decide +kernel
theorem dX3_read_43 : decode cX3_read 43 = .ok (.aload_n 0, 1) := by decide +kernel
theorem dX3_read_44 : decode cX3_read 44 = .ok (.getfield 26, 3) := by decide +kernel
theorem dX3_read_47 : decode cX3_read 47 = .ok (.ireturn, 1) := by decide +kernel
theorem dX11_law_0 : decode cX11_law 0 = .ok (.iload_n 1, 1) := by decide +kernel
theorem dX11_law_1 : decode cX11_law 1 = .ok (.invokestatic 181, 3) := by decide +kernel
theorem dX11_law_4 : decode cX11_law 4 = .ok (.ifCond .ne 5, 3) := by decide +kernel
theorem dX11_law_9 : decode cX11_law 9 = .ok (.aload_n 0, 1) := by decide +kernel
theorem dX11_law_10 : decode cX11_law 10 = .ok (.getfield 49, 3) := by decide +kernel
theorem dX11_law_13 : decode cX11_law 13 = .ok (.getfield 282, 3) := by decide +kernel
theorem dX11_law_16 : decode cX11_law 16 = .ok (.bipush 10, 2) := by decide +kernel
theorem dX11_law_18 : decode cX11_law 18 = .ok (.if_icmp .lt 6, 3) := by decide +kernel
theorem dX11_law_24 : decode cX11_law 24 = .ok (.aload_n 0, 1) := by decide +kernel
theorem dX11_law_25 : decode cX11_law 25 = .ok (.getfield 58, 3) := by decide +kernel
theorem dX11_law_28 : decode cX11_law 28 = .ok (.aload_n 0, 1) := by decide +kernel
theorem dX11_law_29 : decode cX11_law 29 = .ok (.getfield 49, 3) := by decide +kernel
theorem dX11_law_32 : decode cX11_law 32 = .ok (.getfield 283, 3) := by decide +kernel
theorem dX11_law_35 : decode cX11_law 35 = .ok (.aload_n 0, 1) := by decide +kernel
theorem dX11_law_36 : decode cX11_law 36 = .ok (.getfield 49, 3) := by decide +kernel
theorem dX11_law_39 : decode cX11_law 39 = .ok (.getfield 282, 3) := by decide +kernel
theorem dX11_law_42 : decode cX11_law 42 = .ok (.aaload, 1) := by decide +kernel
theorem dX11_law_43 : decode cX11_law 43 = .ok (.invokevirtual 287, 3) := by decide +kernel
theorem dX11_law_46 : decode cX11_law 46 = .ok (.istore_n 2, 1) := by decide +kernel
theorem dX11_law_47 : decode cX11_law 47 = .ok (.aload_n 0, 1) := by decide +kernel
theorem dX11_law_48 : decode cX11_law 48 = .ok (.getfield 42, 3) := by decide +kernel
theorem dX11_law_51 : decode cX11_law 51 = .ok (.iconst 0, 1) := by decide +kernel
theorem dX11_law_52 : decode cX11_law 52 = .ok (.putfield 291, 3) := by decide +kernel
theorem dX11_law_55 : decode cX11_law 55 = .ok (.iload_n 2, 1) := by decide +kernel
theorem dX11_law_56 : decode cX11_law 56 = .ok (.iconst (-1), 1) := by decide +kernel
theorem dX11_law_57 : decode cX11_law 57 = .ok (.if_icmp .eq 8, 3) := by decide +kernel
theorem dX11_law_60 : decode cX11_law 60 = .ok (.bipush (-100), 2) := by decide +kernel
theorem dX11_law_62 : decode cX11_law 62 = .ok (.iload_n 2, 1) := by decide +kernel
theorem dX11_law_63 : decode cX11_law 63 = .ok (.isub, 1) := by decide +kernel
theorem dX11_law_64 : decode cX11_law 64 = .ok (.ireturn, 1) := by decide +kernel
theorem dX11_law_7 : decode cX11_law 7 = .ok (.iconst (-1), 1) := by decide +kernel
theorem dX11_law_8 : decode cX11_law 8 = .ok (.ireturn, 1) := by decide +kernel
theorem dX12_look_0 : decode cX12_look 0 = .ok (.aload_n 0, 1) := by decide +kernel
theorem dX12_look_1 : decode cX12_look 1 = .ok (.getfield 248, 3) := by decide +kernel
theorem dX12_look_4 : decode cX12_look 4 = .ok (.aload_n 0, 1) := by decide +kernel
theorem dX12_look_5 : decode cX12_look 5 = .ok (.getfield 245, 3) := by decide +kernel
theorem dX12_look_8 : decode cX12_look 8 = .ok (.if_icmp .ge 15, 3) := by decide +kernel
theorem dX12_look_23 : decode cX12_look 23 = .ok (.iconst (-1), 1) := by decide +kernel
theorem dX12_look_24 : decode cX12_look 24 = .ok (.ireturn, 1) := by decide +kernel
theorem dX12_wrong_0 : decode cX12_wrong 0 = .ok (.aload_n 0, 1) := by decide +kernel
theorem dX12_wrong_1 : decode cX12_wrong 1 = .ok (.getfield 251, 3) := by decide +kernel
theorem dX12_wrong_4 : decode cX12_wrong 4 = .ok (.ifCond .ge 11, 3) := by decide +kernel
theorem dX12_wrong_7 : decode cX12_wrong 7 = .ok (.aload_n 0, 1) := by decide +kernel
theorem dX12_wrong_8 : decode cX12_wrong 8 = .ok (.aload_n 0, 1) := by decide +kernel
theorem dX12_wrong_9 : decode cX12_wrong 9 = .ok (.getfield 248, 3) := by decide +kernel
theorem dX12_wrong_12 : decode cX12_wrong 12 = .ok (.putfield 251, 3) := by decide +kernel
theorem dX12_wrong_15 : decode cX12_wrong 15 = .ok (.return_, 1) := by decide +kernel
theorem dX12_nameOf_0 : decode cX12_nameOf 0 = .ok (.iload_n 0, 1) := by decide +kernel
theorem dX12_nameOf_1 : decode cX12_nameOf 1 = .ok (.tableswitch 107 100 119 #[95, 107, 107, 107, 97, 107, 107, 103, 99, 107, 105, 107, 107, 107, 107, 107, 107, 107, 107, 101], 95) := by decide +kernel
theorem dX12_nameOf_108 : decode cX12_nameOf 108 = .ok (.iconst (-1), 1) := by decide +kernel
theorem dX12_nameOf_109 : decode cX12_nameOf 109 = .ok (.ireturn, 1) := by decide +kernel
theorem dX12_digits_0 : decode cX12_digits 0 = .ok (.iconst 0, 1) := by decide +kernel
theorem dX12_digits_1 : decode cX12_digits 1 = .ok (.istore_n 1, 1) := by decide +kernel
theorem dX12_digits_2 : decode cX12_digits 2 = .ok (.aload_n 0, 1) := by decide +kernel
theorem dX12_digits_3 : decode cX12_digits 3 = .ok (.iconst 0, 1) := by decide +kernel
theorem dX12_digits_4 : decode cX12_digits 4 = .ok (.putfield 266, 3) := by decide +kernel
theorem dX12_digits_7 : decode cX12_digits 7 = .ok (.iload_n 1, 1) := by decide +kernel
theorem dX12_digits_8 : decode cX12_digits 8 = .ok (.iconst 5, 1) := by decide +kernel
theorem dX12_digits_9 : decode cX12_digits 9 = .ok (.if_icmp .ge 52, 3) := by decide +kernel
theorem dX12_digits_12 : decode cX12_digits 12 = .ok (.aload_n 0, 1) := by decide +kernel
theorem dX12_digits_13 : decode cX12_digits 13 = .ok (.invokevirtual 269, 3) := by decide +kernel
theorem dX12_digits_16 : decode cX12_digits 16 = .ok (.bipush 48, 2) := by decide +kernel
theorem dX12_digits_18 : decode cX12_digits 18 = .ok (.bipush 57, 2) := by decide +kernel
theorem dX12_digits_20 : decode cX12_digits 20 = .ok (.invokestatic 151, 3) := by decide +kernel
theorem dX12_digits_23 : decode cX12_digits 23 = .ok (.ifCond .eq 38, 3) := by decide +kernel
theorem dX12_digits_61 : decode cX12_digits 61 = .ok (.iload_n 1, 1) := by decide +kernel
theorem dX12_digits_62 : decode cX12_digits 62 = .ok (.ifCond .le 19, 3) := by decide +kernel
theorem dX12_digits_81 : decode cX12_digits 81 = .ok (.aload_n 0, 1) := by decide +kernel
theorem dX12_digits_82 : decode cX12_digits 82 = .ok (.invokevirtual 263, 3) := by decide +kernel
theorem dX12_digits_85 : decode cX12_digits 85 = .ok (.iconst 0, 1) := by decide +kernel
theorem dX12_digits_86 : decode cX12_digits 86 = .ok (.ireturn, 1) := by decide +kernel
theorem dX12_operand_0 : decode cX12_operand 0 = .ok (.aload_n 0, 1) := by decide +kernel
theorem dX12_operand_1 : decode cX12_operand 1 = .ok (.invokevirtual 269, 3) := by decide +kernel
theorem dX12_operand_4 : decode cX12_operand 4 = .ok (.istore_n 1, 1) := by decide +kernel
theorem dX12_operand_5 : decode cX12_operand 5 = .ok (.iload_n 1, 1) := by decide +kernel
theorem dX12_operand_6 : decode cX12_operand 6 = .ok (.invokestatic 273, 3) := by decide +kernel
theorem dX12_operand_9 : decode cX12_operand 9 = .ok (.ifCond .lt 25, 3) := by decide +kernel
theorem dX12_operand_34 : decode cX12_operand 34 = .ok (.iload_n 1, 1) := by decide +kernel
theorem dX12_operand_35 : decode cX12_operand 35 = .ok (.bipush 45, 2) := by decide +kernel
theorem dX12_operand_37 : decode cX12_operand 37 = .ok (.if_icmp .ne 34, 3) := by decide +kernel
theorem dX12_operand_71 : decode cX12_operand 71 = .ok (.iload_n 1, 1) := by decide +kernel
theorem dX12_operand_72 : decode cX12_operand 72 = .ok (.bipush 40, 2) := by decide +kernel
theorem dX12_operand_74 : decode cX12_operand 74 = .ok (.if_icmp .ne 60, 3) := by decide +kernel
theorem dX12_operand_134 : decode cX12_operand 134 = .ok (.aload_n 0, 1) := by decide +kernel
theorem dX12_operand_135 : decode cX12_operand 135 = .ok (.invokevirtual 289, 3) := by decide +kernel
theorem dX12_operand_138 : decode cX12_operand 138 = .ok (.ifCond .eq 12, 3) := by decide +kernel
theorem dX12_operand_150 : decode cX12_operand 150 = .ok (.return_, 1) := by decide +kernel
theorem dX12_product_0 : decode cX12_product 0 = .ok (.aload_n 0, 1) := by decide +kernel
theorem dX12_product_1 : decode cX12_product 1 = .ok (.invokevirtual 283, 3) := by decide +kernel
theorem dX12_product_4 : decode cX12_product 4 = .ok (.aload_n 0, 1) := by decide +kernel
theorem dX12_product_5 : decode cX12_product 5 = .ok (.getfield 251, 3) := by decide +kernel
theorem dX12_product_8 : decode cX12_product 8 = .ok (.ifCond .ge 49, 3) := by decide +kernel
theorem dX12_product_57 : decode cX12_product 57 = .ok (.return_, 1) := by decide +kernel
theorem dX12_sum_0 : decode cX12_sum 0 = .ok (.aload_n 0, 1) := by decide +kernel
theorem dX12_sum_1 : decode cX12_sum 1 = .ok (.invokevirtual 292, 3) := by decide +kernel
theorem dX12_sum_4 : decode cX12_sum 4 = .ok (.aload_n 0, 1) := by decide +kernel
theorem dX12_sum_5 : decode cX12_sum 5 = .ok (.getfield 251, 3) := by decide +kernel
theorem dX12_sum_8 : decode cX12_sum 8 = .ok (.ifCond .ge 49, 3) := by decide +kernel
theorem dX12_sum_57 : decode cX12_sum 57 = .ok (.return_, 1) := by decide +kernel
theorem dX12_either_0 : decode cX12_either 0 = .ok (.aload_n 0, 1) := by decide +kernel
theorem dX12_either_1 : decode cX12_either 1 = .ok (.invokevirtual 295, 3) := by decide +kernel
theorem dX12_either_4 : decode cX12_either 4 = .ok (.aload_n 0, 1) := by decide +kernel
theorem dX12_either_5 : decode cX12_either 5 = .ok (.invokevirtual 269, 3) := by decide +kernel
theorem dX12_either_8 : decode cX12_either 8 = .ok (.istore_n 1, 1) := by decide +kernel
theorem dX12_either_9 : decode cX12_either 9 = .ok (.aload_n 0, 1) := by decide +kernel
theorem dX12_either_10 : decode cX12_either 10 = .ok (.getfield 251, 3) := by decide +kernel
theorem dX12_either_13 : decode cX12_either 13 = .ok (.ifCond .ge 41, 3) := by decide +kernel
theorem dX12_either_54 : decode cX12_either 54 = .ok (.aload_n 0, 1) := by decide +kernel
theorem dX12_either_55 : decode cX12_either 55 = .ok (.getfield 251, 3) := by decide +kernel
theorem dX12_either_58 : decode cX12_either 58 = .ok (.ifCond .ge 12, 3) := by decide +kernel
theorem dX12_either_70 : decode cX12_either 70 = .ok (.return_, 1) := by decide +kernel
theorem dX12_law_0 : decode cX12_law 0 = .ok (.iload_n 1, 1) := by decide +kernel
theorem dX12_law_1 : decode cX12_law 1 = .ok (.invokestatic 298, 3) := by decide +kernel
theorem dX12_law_4 : decode cX12_law 4 = .ok (.ifCond .ne 5, 3) := by decide +kernel
theorem dX12_law_9 : decode cX12_law 9 = .ok (.aload_n 0, 1) := by decide +kernel
theorem dX12_law_10 : decode cX12_law 10 = .ok (.getfield 301, 3) := by decide +kernel
theorem dX12_law_13 : decode cX12_law 13 = .ok (.bipush 10, 2) := by decide +kernel
theorem dX12_law_15 : decode cX12_law 15 = .ok (.if_icmp .ne 6, 3) := by decide +kernel
theorem dX12_law_21 : decode cX12_law 21 = .ok (.aload_n 0, 1) := by decide +kernel
theorem dX12_law_22 : decode cX12_law 22 = .ok (.aload_n 0, 1) := by decide +kernel
theorem dX12_law_23 : decode cX12_law 23 = .ok (.getfield 301, 3) := by decide +kernel
theorem dX12_law_26 : decode cX12_law 26 = .ok (.putfield 254, 3) := by decide +kernel
theorem dX12_law_29 : decode cX12_law 29 = .ok (.aload_n 0, 1) := by decide +kernel
theorem dX12_law_30 : decode cX12_law 30 = .ok (.iconst 0, 1) := by decide +kernel
theorem dX12_law_31 : decode cX12_law 31 = .ok (.putfield 257, 3) := by decide +kernel
theorem dX12_law_34 : decode cX12_law 34 = .ok (.aload_n 0, 1) := by decide +kernel
theorem dX12_law_35 : decode cX12_law 35 = .ok (.iconst 0, 1) := by decide +kernel
theorem dX12_law_36 : decode cX12_law 36 = .ok (.putfield 248, 3) := by decide +kernel
theorem dX12_law_39 : decode cX12_law 39 = .ok (.aload_n 0, 1) := by decide +kernel
theorem dX12_law_40 : decode cX12_law 40 = .ok (.iconst (-1), 1) := by decide +kernel
theorem dX12_law_41 : decode cX12_law 41 = .ok (.putfield 251, 3) := by decide +kernel
theorem dX12_law_44 : decode cX12_law 44 = .ok (.aload_n 0, 1) := by decide +kernel
theorem dX12_law_45 : decode cX12_law 45 = .ok (.iconst 0, 1) := by decide +kernel
theorem dX12_law_46 : decode cX12_law 46 = .ok (.putfield 260, 3) := by decide +kernel
theorem dX12_law_49 : decode cX12_law 49 = .ok (.aload_n 0, 1) := by decide +kernel
theorem dX12_law_50 : decode cX12_law 50 = .ok (.invokevirtual 286, 3) := by decide +kernel
theorem dX12_law_53 : decode cX12_law 53 = .ok (.aload_n 0, 1) := by decide +kernel
theorem dX12_law_54 : decode cX12_law 54 = .ok (.getfield 248, 3) := by decide +kernel
theorem dX12_law_57 : decode cX12_law 57 = .ok (.aload_n 0, 1) := by decide +kernel
theorem dX12_law_58 : decode cX12_law 58 = .ok (.getfield 245, 3) := by decide +kernel
theorem dX12_law_61 : decode cX12_law 61 = .ok (.if_icmp .ge 7, 3) := by decide +kernel
theorem dX12_law_68 : decode cX12_law 68 = .ok (.aload_n 0, 1) := by decide +kernel
theorem dX12_law_69 : decode cX12_law 69 = .ok (.iconst 0, 1) := by decide +kernel
theorem dX12_law_70 : decode cX12_law 70 = .ok (.putfield 245, 3) := by decide +kernel
theorem dX12_law_73 : decode cX12_law 73 = .ok (.aload_n 0, 1) := by decide +kernel
theorem dX12_law_74 : decode cX12_law 74 = .ok (.getfield 251, 3) := by decide +kernel
theorem dX12_law_77 : decode cX12_law 77 = .ok (.ifCond .lt 11, 3) := by decide +kernel
theorem dX12_law_80 : decode cX12_law 80 = .ok (.bipush (-100), 2) := by decide +kernel
theorem dX12_law_82 : decode cX12_law 82 = .ok (.aload_n 0, 1) := by decide +kernel
theorem dX12_law_83 : decode cX12_law 83 = .ok (.getfield 251, 3) := by decide +kernel
theorem dX12_law_86 : decode cX12_law 86 = .ok (.isub, 1) := by decide +kernel
theorem dX12_law_87 : decode cX12_law 87 = .ok (.ireturn, 1) := by decide +kernel
theorem dX12_law_7 : decode cX12_law 7 = .ok (.iconst (-1), 1) := by decide +kernel
theorem dX12_law_8 : decode cX12_law 8 = .ok (.ireturn, 1) := by decide +kernel
theorem dX7_countAt_0 : decode cX7_countAt 0 = .ok (.iconst 0, 1) := by decide +kernel
theorem dX7_countAt_1 : decode cX7_countAt 1 = .ok (.istore_n 2, 1) := by decide +kernel
theorem dX7_countAt_2 : decode cX7_countAt 2 = .ok (.iconst 0, 1) := by decide +kernel
theorem dX7_countAt_3 : decode cX7_countAt 3 = .ok (.istore_n 3, 1) := by decide +kernel
theorem dX7_countAt_4 : decode cX7_countAt 4 = .ok (.iload_n 3, 1) := by decide +kernel
theorem dX7_countAt_5 : decode cX7_countAt 5 = .ok (.aload_n 0, 1) := by decide +kernel
theorem dX7_countAt_6 : decode cX7_countAt 6 = .ok (.getfield 31, 3) := by decide +kernel
theorem dX7_countAt_9 : decode cX7_countAt 9 = .ok (.if_icmp .ge 27, 3) := by decide +kernel
theorem dX7_countAt_36 : decode cX7_countAt 36 = .ok (.iload_n 2, 1) := by decide +kernel
theorem dX7_countAt_37 : decode cX7_countAt 37 = .ok (.ireturn, 1) := by decide +kernel
theorem dX8_backs_0 : decode cX8_backs 0 = .ok (.iconst 0, 1) := by decide +kernel
theorem dX8_backs_1 : decode cX8_backs 1 = .ok (.istore_n 1, 1) := by decide +kernel
theorem dX8_backs_2 : decode cX8_backs 2 = .ok (.iconst 0, 1) := by decide +kernel
theorem dX8_backs_3 : decode cX8_backs 3 = .ok (.istore_n 2, 1) := by decide +kernel
theorem dX8_backs_4 : decode cX8_backs 4 = .ok (.iload_n 2, 1) := by decide +kernel
theorem dX8_backs_5 : decode cX8_backs 5 = .ok (.aload_n 0, 1) := by decide +kernel
theorem dX8_backs_6 : decode cX8_backs 6 = .ok (.getfield 39, 3) := by decide +kernel
theorem dX8_backs_9 : decode cX8_backs 9 = .ok (.if_icmp .ge 25, 3) := by decide +kernel
theorem dX8_backs_34 : decode cX8_backs 34 = .ok (.iload_n 1, 1) := by decide +kernel
theorem dX8_backs_35 : decode cX8_backs 35 = .ok (.ireturn, 1) := by decide +kernel
theorem dX12_partsAt_0 : decode cX12_partsAt 0 = .ok (.iconst 0, 1) := by decide +kernel
theorem dX12_partsAt_1 : decode cX12_partsAt 1 = .ok (.istore_n 2, 1) := by decide +kernel
theorem dX12_partsAt_2 : decode cX12_partsAt 2 = .ok (.iconst 0, 1) := by decide +kernel
theorem dX12_partsAt_3 : decode cX12_partsAt 3 = .ok (.istore_n 3, 1) := by decide +kernel
theorem dX12_partsAt_4 : decode cX12_partsAt 4 = .ok (.iload_n 3, 1) := by decide +kernel
theorem dX12_partsAt_5 : decode cX12_partsAt 5 = .ok (.aload_n 0, 1) := by decide +kernel
theorem dX12_partsAt_6 : decode cX12_partsAt 6 = .ok (.getfield 166, 3) := by decide +kernel
theorem dX12_partsAt_9 : decode cX12_partsAt 9 = .ok (.if_icmp .ge 27, 3) := by decide +kernel
theorem dX12_partsAt_36 : decode cX12_partsAt 36 = .ok (.iload_n 2, 1) := by decide +kernel
theorem dX12_partsAt_37 : decode cX12_partsAt 37 = .ok (.ireturn, 1) := by decide +kernel
theorem dX11_count_0 : decode cX11_count 0 = .ok (.iload_n 1, 1) := by decide +kernel
theorem dX11_count_1 : decode cX11_count 1 = .ok (.tableswitch 171 0 12 #[67, 75, 83, 91, 96, 104, 112, 120, 128, 138, 148, 158, 166], 67) := by decide +kernel
theorem dX11_count_172 : decode cX11_count 172 = .ok (.iconst (-1), 1) := by decide +kernel
theorem dX11_count_173 : decode cX11_count 173 = .ok (.ireturn, 1) := by decide +kernel
theorem dX11_count_68 : decode cX11_count 68 = .ok (.aload_n 0, 1) := by decide +kernel
theorem dX11_count_69 : decode cX11_count 69 = .ok (.getfield 10, 3) := by decide +kernel
theorem dX11_count_72 : decode cX11_count 72 = .ok (.getfield 380, 3) := by decide +kernel
theorem dX11_count_75 : decode cX11_count 75 = .ok (.ireturn, 1) := by decide +kernel
theorem dX11_count_76 : decode cX11_count 76 = .ok (.aload_n 0, 1) := by decide +kernel
theorem dX11_count_77 : decode cX11_count 77 = .ok (.getfield 19, 3) := by decide +kernel
theorem dX11_count_80 : decode cX11_count 80 = .ok (.getfield 381, 3) := by decide +kernel
theorem dX11_count_83 : decode cX11_count 83 = .ok (.ireturn, 1) := by decide +kernel
theorem dX11_count_84 : decode cX11_count 84 = .ok (.aload_n 0, 1) := by decide +kernel
theorem dX11_count_85 : decode cX11_count 85 = .ok (.getfield 35, 3) := by decide +kernel
theorem dX11_count_88 : decode cX11_count 88 = .ok (.getfield 185, 3) := by decide +kernel
theorem dX11_count_91 : decode cX11_count 91 = .ok (.ireturn, 1) := by decide +kernel
theorem dX11_count_92 : decode cX11_count 92 = .ok (.aload_n 0, 1) := by decide +kernel
theorem dX11_count_93 : decode cX11_count 93 = .ok (.getfield 132, 3) := by decide +kernel
theorem dX11_count_96 : decode cX11_count 96 = .ok (.ireturn, 1) := by decide +kernel
theorem dX11_count_97 : decode cX11_count 97 = .ok (.aload_n 0, 1) := by decide +kernel
theorem dX11_count_98 : decode cX11_count 98 = .ok (.getfield 49, 3) := by decide +kernel
theorem dX11_count_101 : decode cX11_count 101 = .ok (.getfield 282, 3) := by decide +kernel
theorem dX11_count_104 : decode cX11_count 104 = .ok (.ireturn, 1) := by decide +kernel
theorem dX11_count_105 : decode cX11_count 105 = .ok (.aload_n 0, 1) := by decide +kernel
theorem dX11_count_106 : decode cX11_count 106 = .ok (.getfield 67, 3) := by decide +kernel
theorem dX11_count_109 : decode cX11_count 109 = .ok (.getfield 382, 3) := by decide +kernel
theorem dX11_count_112 : decode cX11_count 112 = .ok (.ireturn, 1) := by decide +kernel
theorem dX11_count_113 : decode cX11_count 113 = .ok (.aload_n 0, 1) := by decide +kernel
theorem dX11_count_114 : decode cX11_count 114 = .ok (.getfield 26, 3) := by decide +kernel
theorem dX11_count_117 : decode cX11_count 117 = .ok (.getfield 383, 3) := by decide +kernel
theorem dX11_count_120 : decode cX11_count 120 = .ok (.ireturn, 1) := by decide +kernel
