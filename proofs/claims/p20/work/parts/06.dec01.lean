theorem dX3_readComparison_39 : decode cX3_readComparison 39 = .ok (.iload_n 1, 1) := by decide +kernel
theorem dX3_readComparison_40 : decode cX3_readComparison 40 = .ok (.invokevirtual 67, 3) := by decide +kernel
theorem dX3_readComparison_43 : decode cX3_readComparison 43 = .ok (.aload_n 0, 1) := by decide +kernel
theorem dX3_readComparison_44 : decode cX3_readComparison 44 = .ok (.iload_n 2, 1) := by decide +kernel
theorem dX3_readComparison_45 : decode cX3_readComparison 45 = .ok (.bipush 60, 2) := by decide +kernel
theorem dX3_readComparison_47 : decode cX3_readComparison 47 = .ok (.if_icmp .ne 8, 3) := by decide +kernel
theorem dX3_readComparison_50 : decode cX3_readComparison 50 = .ok (.bipush 9, 2) := by decide +kernel
theorem dX3_readComparison_52 : decode cX3_readComparison 52 = .ok (.goto 16, 3) := by decide +kernel
theorem dX3_readComparison_55 : decode cX3_readComparison 55 = .ok (.iload_n 2, 1) := by decide +kernel
theorem dX3_readComparison_56 : decode cX3_readComparison 56 = .ok (.bipush 61, 2) := by decide +kernel
theorem dX3_readComparison_58 : decode cX3_readComparison 58 = .ok (.if_icmp .ne 8, 3) := by decide +kernel
theorem dX3_readComparison_61 : decode cX3_readComparison 61 = .ok (.bipush 10, 2) := by decide +kernel
theorem dX3_readComparison_63 : decode cX3_readComparison 63 = .ok (.goto 5, 3) := by decide +kernel
theorem dX3_readComparison_66 : decode cX3_readComparison 66 = .ok (.bipush 11, 2) := by decide +kernel
theorem dX3_readComparison_68 : decode cX3_readComparison 68 = .ok (.iconst 0, 1) := by decide +kernel
theorem dX3_readComparison_69 : decode cX3_readComparison 69 = .ok (.invokevirtual 56, 3) := by decide +kernel
theorem dX3_readComparison_72 : decode cX3_readComparison 72 = .ok (.pop, 1) := by decide +kernel
theorem dX3_readComparison_73 : decode cX3_readComparison 73 = .ok (.return_, 1) := by decide +kernel
theorem dX3_readSum_0 : decode cX3_readSum 0 = .ok (.aload_n 0, 1) := by decide +kernel
theorem dX3_readSum_1 : decode cX3_readSum 1 = .ok (.iload_n 1, 1) := by decide +kernel
theorem dX3_readSum_2 : decode cX3_readSum 2 = .ok (.invokevirtual 70, 3) := by decide +kernel
theorem dX3_readSum_5 : decode cX3_readSum 5 = .ok (.iconst 0, 1) := by decide +kernel
theorem dX3_readSum_6 : decode cX3_readSum 6 = .ok (.istore_n 2, 1) := by decide +kernel
theorem dX3_readSum_7 : decode cX3_readSum 7 = .ok (.iload_n 2, 1) := by decide +kernel
theorem dX3_readSum_8 : decode cX3_readSum 8 = .ok (.bipush 120, 2) := by decide +kernel
theorem dX3_readSum_10 : decode cX3_readSum 10 = .ok (.if_icmp .ge 65, 3) := by decide +kernel
theorem dX3_readSum_13 : decode cX3_readSum 13 = .ok (.aload_n 0, 1) := by decide +kernel
theorem dX3_readSum_14 : decode cX3_readSum 14 = .ok (.invokevirtual 43, 3) := by decide +kernel
theorem dX3_readSum_17 : decode cX3_readSum 17 = .ok (.bipush 43, 2) := by decide +kernel
theorem dX3_readSum_19 : decode cX3_readSum 19 = .ok (.if_icmp .eq 12, 3) := by decide +kernel
theorem dX3_readSum_22 : decode cX3_readSum 22 = .ok (.aload_n 0, 1) := by decide +kernel
theorem dX3_readSum_23 : decode cX3_readSum 23 = .ok (.invokevirtual 43, 3) := by decide +kernel
theorem dX3_readSum_26 : decode cX3_readSum 26 = .ok (.bipush 45, 2) := by decide +kernel
theorem dX3_readSum_28 : decode cX3_readSum 28 = .ok (.if_icmp .ne 47, 3) := by decide +kernel
theorem dX3_readSum_31 : decode cX3_readSum 31 = .ok (.aload_n 0, 1) := by decide +kernel
theorem dX3_readSum_32 : decode cX3_readSum 32 = .ok (.invokevirtual 43, 3) := by decide +kernel
theorem dX3_readSum_35 : decode cX3_readSum 35 = .ok (.bipush 43, 2) := by decide +kernel
theorem dX3_readSum_37 : decode cX3_readSum 37 = .ok (.if_icmp .ne 7, 3) := by decide +kernel
theorem dX3_readSum_40 : decode cX3_readSum 40 = .ok (.iconst 5, 1) := by decide +kernel
theorem dX3_readSum_41 : decode cX3_readSum 41 = .ok (.goto 5, 3) := by decide +kernel
theorem dX3_readSum_44 : decode cX3_readSum 44 = .ok (.bipush 6, 2) := by decide +kernel
theorem dX3_readSum_46 : decode cX3_readSum 46 = .ok (.istore_n 3, 1) := by decide +kernel
theorem dX3_readSum_47 : decode cX3_readSum 47 = .ok (.aload_n 0, 1) := by decide +kernel
theorem dX3_readSum_48 : decode cX3_readSum 48 = .ok (.dup, 1) := by decide +kernel
theorem dX3_readSum_49 : decode cX3_readSum 49 = .ok (.getfield 23, 3) := by decide +kernel
theorem dX3_readSum_52 : decode cX3_readSum 52 = .ok (.iconst 1, 1) := by decide +kernel
theorem dX3_readSum_53 : decode cX3_readSum 53 = .ok (.iadd, 1) := by decide +kernel
theorem dX3_readSum_54 : decode cX3_readSum 54 = .ok (.putfield 23, 3) := by decide +kernel
theorem dX3_readSum_57 : decode cX3_readSum 57 = .ok (.aload_n 0, 1) := by decide +kernel
theorem dX3_readSum_58 : decode cX3_readSum 58 = .ok (.iload_n 1, 1) := by decide +kernel
theorem dX3_readSum_59 : decode cX3_readSum 59 = .ok (.invokevirtual 70, 3) := by decide +kernel
theorem dX3_readSum_62 : decode cX3_readSum 62 = .ok (.aload_n 0, 1) := by decide +kernel
theorem dX3_readSum_63 : decode cX3_readSum 63 = .ok (.iload_n 3, 1) := by decide +kernel
theorem dX3_readSum_64 : decode cX3_readSum 64 = .ok (.iconst 0, 1) := by decide +kernel
theorem dX3_readSum_65 : decode cX3_readSum 65 = .ok (.invokevirtual 56, 3) := by decide +kernel
theorem dX3_readSum_68 : decode cX3_readSum 68 = .ok (.pop, 1) := by decide +kernel
theorem dX3_readSum_69 : decode cX3_readSum 69 = .ok (.iinc 2 1, 3) := by decide +kernel
theorem dX3_readSum_72 : decode cX3_readSum 72 = .ok (.goto (-65), 3) := by decide +kernel
theorem dX3_readSum_75 : decode cX3_readSum 75 = .ok (.return_, 1) := by decide +kernel
theorem dX3_readProduct_0 : decode cX3_readProduct 0 = .ok (.aload_n 0, 1) := by decide +kernel
theorem dX3_readProduct_1 : decode cX3_readProduct 1 = .ok (.iload_n 1, 1) := by decide +kernel
theorem dX3_readProduct_2 : decode cX3_readProduct 2 = .ok (.invokevirtual 73, 3) := by decide +kernel
theorem dX3_readProduct_5 : decode cX3_readProduct 5 = .ok (.iconst 0, 1) := by decide +kernel
theorem dX3_readProduct_6 : decode cX3_readProduct 6 = .ok (.istore_n 2, 1) := by decide +kernel
theorem dX3_readProduct_7 : decode cX3_readProduct 7 = .ok (.iload_n 2, 1) := by decide +kernel
theorem dX3_readProduct_8 : decode cX3_readProduct 8 = .ok (.bipush 120, 2) := by decide +kernel
theorem dX3_readProduct_10 : decode cX3_readProduct 10 = .ok (.if_icmp .ge 66, 3) := by decide +kernel
theorem dX3_readProduct_13 : decode cX3_readProduct 13 = .ok (.aload_n 0, 1) := by decide +kernel
theorem dX3_readProduct_14 : decode cX3_readProduct 14 = .ok (.invokevirtual 43, 3) := by decide +kernel
theorem dX3_readProduct_17 : decode cX3_readProduct 17 = .ok (.bipush 42, 2) := by decide +kernel
theorem dX3_readProduct_19 : decode cX3_readProduct 19 = .ok (.if_icmp .eq 12, 3) := by decide +kernel
theorem dX3_readProduct_22 : decode cX3_readProduct 22 = .ok (.aload_n 0, 1) := by decide +kernel
theorem dX3_readProduct_23 : decode cX3_readProduct 23 = .ok (.invokevirtual 43, 3) := by decide +kernel
theorem dX3_readProduct_26 : decode cX3_readProduct 26 = .ok (.bipush 47, 2) := by decide +kernel
theorem dX3_readProduct_28 : decode cX3_readProduct 28 = .ok (.if_icmp .ne 48, 3) := by decide +kernel
theorem dX3_readProduct_31 : decode cX3_readProduct 31 = .ok (.aload_n 0, 1) := by decide +kernel
theorem dX3_readProduct_32 : decode cX3_readProduct 32 = .ok (.invokevirtual 43, 3) := by decide +kernel
theorem dX3_readProduct_35 : decode cX3_readProduct 35 = .ok (.bipush 42, 2) := by decide +kernel
theorem dX3_readProduct_37 : decode cX3_readProduct 37 = .ok (.if_icmp .ne 8, 3) := by decide +kernel
theorem dX3_readProduct_40 : decode cX3_readProduct 40 = .ok (.bipush 7, 2) := by decide +kernel
theorem dX3_readProduct_42 : decode cX3_readProduct 42 = .ok (.goto 5, 3) := by decide +kernel
theorem dX3_readProduct_45 : decode cX3_readProduct 45 = .ok (.bipush 8, 2) := by decide +kernel
theorem dX3_readProduct_47 : decode cX3_readProduct 47 = .ok (.istore_n 3, 1) := by decide +kernel
theorem dX3_readProduct_48 : decode cX3_readProduct 48 = .ok (.aload_n 0, 1) := by decide +kernel
theorem dX3_readProduct_49 : decode cX3_readProduct 49 = .ok (.dup, 1) := by decide +kernel
theorem dX3_readProduct_50 : decode cX3_readProduct 50 = .ok (.getfield 23, 3) := by decide +kernel
theorem dX3_readProduct_53 : decode cX3_readProduct 53 = .ok (.iconst 1, 1) := by decide +kernel
theorem dX3_readProduct_54 : decode cX3_readProduct 54 = .ok (.iadd, 1) := by decide +kernel
theorem dX3_readProduct_55 : decode cX3_readProduct 55 = .ok (.putfield 23, 3) := by decide +kernel
theorem dX3_readProduct_58 : decode cX3_readProduct 58 = .ok (.aload_n 0, 1) := by decide +kernel
theorem dX3_readProduct_59 : decode cX3_readProduct 59 = .ok (.iload_n 1, 1) := by decide +kernel
theorem dX3_readProduct_60 : decode cX3_readProduct 60 = .ok (.invokevirtual 73, 3) := by decide +kernel
theorem dX3_readProduct_63 : decode cX3_readProduct 63 = .ok (.aload_n 0, 1) := by decide +kernel
theorem dX3_readProduct_64 : decode cX3_readProduct 64 = .ok (.iload_n 3, 1) := by decide +kernel
theorem dX3_readProduct_65 : decode cX3_readProduct 65 = .ok (.iconst 0, 1) := by decide +kernel
theorem dX3_readProduct_66 : decode cX3_readProduct 66 = .ok (.invokevirtual 56, 3) := by decide +kernel
theorem dX3_readProduct_69 : decode cX3_readProduct 69 = .ok (.pop, 1) := by decide +kernel
theorem dX3_readProduct_70 : decode cX3_readProduct 70 = .ok (.iinc 2 1, 3) := by decide +kernel
theorem dX3_readProduct_73 : decode cX3_readProduct 73 = .ok (.goto (-66), 3) := by decide +kernel
theorem dX3_readProduct_76 : decode cX3_readProduct 76 = .ok (.return_, 1) := by decide +kernel
theorem dX3_readOperand_0 : decode cX3_readOperand 0 = .ok (.aload_n 0, 1) := by decide +kernel
theorem dX3_readOperand_1 : decode cX3_readOperand 1 = .ok (.invokevirtual 43, 3) := by decide +kernel
theorem dX3_readOperand_4 : decode cX3_readOperand 4 = .ok (.istore_n 2, 1) := by decide +kernel
theorem dX3_readOperand_5 : decode cX3_readOperand 5 = .ok (.iload_n 2, 1) := by decide +kernel
theorem dX3_readOperand_6 : decode cX3_readOperand 6 = .ok (.bipush 45, 2) := by decide +kernel
theorem dX3_readOperand_8 : decode cX3_readOperand 8 = .ok (.if_icmp .ne 28, 3) := by decide +kernel
theorem dX3_readOperand_11 : decode cX3_readOperand 11 = .ok (.aload_n 0, 1) := by decide +kernel
theorem dX3_readOperand_12 : decode cX3_readOperand 12 = .ok (.iload_n 1, 1) := by decide +kernel
theorem dX3_readOperand_13 : decode cX3_readOperand 13 = .ok (.invokevirtual 50, 3) := by decide +kernel
theorem dX3_readOperand_16 : decode cX3_readOperand 16 = .ok (.ifCond .eq 55, 3) := by decide +kernel
theorem dX3_readOperand_19 : decode cX3_readOperand 19 = .ok (.aload_n 0, 1) := by decide +kernel
theorem dX3_readOperand_20 : decode cX3_readOperand 20 = .ok (.iload_n 1, 1) := by decide +kernel
theorem dX3_readOperand_21 : decode cX3_readOperand 21 = .ok (.iconst 1, 1) := by decide +kernel
theorem dX3_readOperand_22 : decode cX3_readOperand 22 = .ok (.iadd, 1) := by decide +kernel
theorem dX3_readOperand_23 : decode cX3_readOperand 23 = .ok (.invokevirtual 73, 3) := by decide +kernel
theorem dX3_readOperand_26 : decode cX3_readOperand 26 = .ok (.aload_n 0, 1) := by decide +kernel
theorem dX3_readOperand_27 : decode cX3_readOperand 27 = .ok (.iconst 2, 1) := by decide +kernel
theorem dX3_readOperand_28 : decode cX3_readOperand 28 = .ok (.iconst 0, 1) := by decide +kernel
theorem dX3_readOperand_29 : decode cX3_readOperand 29 = .ok (.invokevirtual 56, 3) := by decide +kernel
theorem dX3_readOperand_32 : decode cX3_readOperand 32 = .ok (.pop, 1) := by decide +kernel
theorem dX3_readOperand_33 : decode cX3_readOperand 33 = .ok (.goto 38, 3) := by decide +kernel
theorem dX3_readOperand_36 : decode cX3_readOperand 36 = .ok (.iload_n 2, 1) := by decide +kernel
theorem dX3_readOperand_37 : decode cX3_readOperand 37 = .ok (.bipush 40, 2) := by decide +kernel
theorem dX3_readOperand_39 : decode cX3_readOperand 39 = .ok (.if_icmp .ne 27, 3) := by decide +kernel
theorem dX3_readOperand_42 : decode cX3_readOperand 42 = .ok (.aload_n 0, 1) := by decide +kernel
theorem dX3_readOperand_43 : decode cX3_readOperand 43 = .ok (.iload_n 1, 1) := by decide +kernel
theorem dX3_readOperand_44 : decode cX3_readOperand 44 = .ok (.invokevirtual 50, 3) := by decide +kernel
theorem dX3_readOperand_47 : decode cX3_readOperand 47 = .ok (.ifCond .eq 24, 3) := by decide +kernel
theorem dX3_readOperand_50 : decode cX3_readOperand 50 = .ok (.aload_n 0, 1) := by decide +kernel
theorem dX3_readOperand_51 : decode cX3_readOperand 51 = .ok (.iload_n 1, 1) := by decide +kernel
theorem dX3_readOperand_52 : decode cX3_readOperand 52 = .ok (.iconst 1, 1) := by decide +kernel
theorem dX3_readOperand_53 : decode cX3_readOperand 53 = .ok (.iadd, 1) := by decide +kernel
theorem dX3_readOperand_54 : decode cX3_readOperand 54 = .ok (.invokevirtual 29, 3) := by decide +kernel
theorem dX3_readOperand_57 : decode cX3_readOperand 57 = .ok (.aload_n 0, 1) := by decide +kernel
theorem dX3_readOperand_58 : decode cX3_readOperand 58 = .ok (.bipush 41, 2) := by decide +kernel
theorem dX3_readOperand_60 : decode cX3_readOperand 60 = .ok (.invokevirtual 60, 3) := by decide +kernel
theorem dX3_readOperand_63 : decode cX3_readOperand 63 = .ok (.goto 8, 3) := by decide +kernel
theorem dX3_readOperand_66 : decode cX3_readOperand 66 = .ok (.aload_n 0, 1) := by decide +kernel
theorem dX3_readOperand_67 : decode cX3_readOperand 67 = .ok (.iload_n 2, 1) := by decide +kernel
theorem dX3_readOperand_68 : decode cX3_readOperand 68 = .ok (.invokevirtual 76, 3) := by decide +kernel
theorem dX3_readOperand_71 : decode cX3_readOperand 71 = .ok (.return_, 1) := by decide +kernel
theorem dX3_readNumberOrName_0 : decode cX3_readNumberOrName 0 = .ok (.iload_n 1, 1) := by decide +kernel
theorem dX3_readNumberOrName_1 : decode cX3_readNumberOrName 1 = .ok (.iconst (-1), 1) := by decide +kernel
theorem dX3_readNumberOrName_2 : decode cX3_readNumberOrName 2 = .ok (.if_icmp .ne 7, 3) := by decide +kernel
theorem dX3_readNumberOrName_5 : decode cX3_readNumberOrName 5 = .ok (.iconst (-1), 1) := by decide +kernel
theorem dX3_readNumberOrName_6 : decode cX3_readNumberOrName 6 = .ok (.goto 10, 3) := by decide +kernel
theorem dX3_readNumberOrName_9 : decode cX3_readNumberOrName 9 = .ok (.ldc 79, 2) := by decide +kernel
theorem dX3_readNumberOrName_11 : decode cX3_readNumberOrName 11 = .ok (.iload_n 1, 1) := by decide +kernel
theorem dX3_readNumberOrName_12 : decode cX3_readNumberOrName 12 = .ok (.i2c, 1) := by decide +kernel
theorem dX3_readNumberOrName_13 : decode cX3_readNumberOrName 13 = .ok (.invokevirtual 81, 3) := by decide +kernel
theorem dX3_readNumberOrName_16 : decode cX3_readNumberOrName 16 = .ok (.istore_n 2, 1) := by decide +kernel
theorem dX3_readNumberOrName_17 : decode cX3_readNumberOrName 17 = .ok (.iload_n 1, 1) := by decide +kernel
theorem dX3_readNumberOrName_18 : decode cX3_readNumberOrName 18 = .ok (.iconst (-1), 1) := by decide +kernel
theorem dX3_readNumberOrName_19 : decode cX3_readNumberOrName 19 = .ok (.if_icmp .ne 7, 3) := by decide +kernel
theorem dX3_readNumberOrName_22 : decode cX3_readNumberOrName 22 = .ok (.iconst 0, 1) := by decide +kernel
theorem dX3_readNumberOrName_23 : decode cX3_readNumberOrName 23 = .ok (.goto 14, 3) := by decide +kernel
theorem dX3_readNumberOrName_26 : decode cX3_readNumberOrName 26 = .ok (.aload_n 0, 1) := by decide +kernel
theorem dX3_readNumberOrName_27 : decode cX3_readNumberOrName 27 = .ok (.getfield 9, 3) := by decide +kernel
theorem dX3_readNumberOrName_30 : decode cX3_readNumberOrName 30 = .ok (.aload_n 0, 1) := by decide +kernel
theorem dX3_readNumberOrName_31 : decode cX3_readNumberOrName 31 = .ok (.getfield 23, 3) := by decide +kernel
theorem dX3_readNumberOrName_34 : decode cX3_readNumberOrName 34 = .ok (.invokevirtual 86, 3) := by decide +kernel
theorem dX3_readNumberOrName_37 : decode cX3_readNumberOrName 37 = .ok (.istore_n 3, 1) := by decide +kernel
theorem dX3_readNumberOrName_38 : decode cX3_readNumberOrName 38 = .ok (.iload_n 2, 1) := by decide +kernel
theorem dX3_readNumberOrName_39 : decode cX3_readNumberOrName 39 = .ok (.ifCond .lt 23, 3) := by decide +kernel
theorem dX3_readNumberOrName_42 : decode cX3_readNumberOrName 42 = .ok (.aload_n 0, 1) := by decide +kernel
theorem dX3_readNumberOrName_43 : decode cX3_readNumberOrName 43 = .ok (.iconst 1, 1) := by decide +kernel
theorem dX3_readNumberOrName_44 : decode cX3_readNumberOrName 44 = .ok (.iload_n 2, 1) := by decide +kernel
theorem dX3_readNumberOrName_45 : decode cX3_readNumberOrName 45 = .ok (.invokevirtual 56, 3) := by decide +kernel
theorem dX3_readNumberOrName_48 : decode cX3_readNumberOrName 48 = .ok (.pop, 1) := by decide +kernel
theorem dX3_readNumberOrName_49 : decode cX3_readNumberOrName 49 = .ok (.aload_n 0, 1) := by decide +kernel
theorem dX3_readNumberOrName_50 : decode cX3_readNumberOrName 50 = .ok (.dup, 1) := by decide +kernel
theorem dX3_readNumberOrName_51 : decode cX3_readNumberOrName 51 = .ok (.getfield 23, 3) := by decide +kernel
theorem dX3_readNumberOrName_54 : decode cX3_readNumberOrName 54 = .ok (.iconst 1, 1) := by decide +kernel
theorem dX3_readNumberOrName_55 : decode cX3_readNumberOrName 55 = .ok (.iadd, 1) := by decide +kernel
theorem dX3_readNumberOrName_56 : decode cX3_readNumberOrName 56 = .ok (.putfield 23, 3) := by decide +kernel
theorem dX3_readNumberOrName_59 : decode cX3_readNumberOrName 59 = .ok (.goto 42, 3) := by decide +kernel
theorem dX3_readNumberOrName_62 : decode cX3_readNumberOrName 62 = .ok (.iload_n 3, 1) := by decide +kernel
theorem dX3_readNumberOrName_63 : decode cX3_readNumberOrName 63 = .ok (.ifCond .le 34, 3) := by decide +kernel
theorem dX3_readNumberOrName_66 : decode cX3_readNumberOrName 66 = .ok (.aload_n 0, 1) := by decide +kernel
theorem dX3_readNumberOrName_67 : decode cX3_readNumberOrName 67 = .ok (.iconst 0, 1) := by decide +kernel
theorem dX3_readNumberOrName_68 : decode cX3_readNumberOrName 68 = .ok (.aload_n 0, 1) := by decide +kernel
theorem dX3_readNumberOrName_69 : decode cX3_readNumberOrName 69 = .ok (.getfield 9, 3) := by decide +kernel
theorem dX3_readNumberOrName_72 : decode cX3_readNumberOrName 72 = .ok (.aload_n 0, 1) := by decide +kernel
theorem dX3_readNumberOrName_73 : decode cX3_readNumberOrName 73 = .ok (.getfield 23, 3) := by decide +kernel
theorem dX3_readNumberOrName_76 : decode cX3_readNumberOrName 76 = .ok (.iload_n 3, 1) := by decide +kernel
theorem dX3_readNumberOrName_77 : decode cX3_readNumberOrName 77 = .ok (.invokevirtual 89, 3) := by decide +kernel
theorem dX3_readNumberOrName_80 : decode cX3_readNumberOrName 80 = .ok (.invokevirtual 56, 3) := by decide +kernel
theorem dX3_readNumberOrName_83 : decode cX3_readNumberOrName 83 = .ok (.pop, 1) := by decide +kernel
theorem dX3_readNumberOrName_84 : decode cX3_readNumberOrName 84 = .ok (.aload_n 0, 1) := by decide +kernel
theorem dX3_readNumberOrName_85 : decode cX3_readNumberOrName 85 = .ok (.dup, 1) := by decide +kernel
theorem dX3_readNumberOrName_86 : decode cX3_readNumberOrName 86 = .ok (.getfield 23, 3) := by decide +kernel
theorem dX3_readNumberOrName_89 : decode cX3_readNumberOrName 89 = .ok (.iload_n 3, 1) := by decide +kernel
theorem dX3_readNumberOrName_90 : decode cX3_readNumberOrName 90 = .ok (.iadd, 1) := by decide +kernel
theorem dX3_readNumberOrName_91 : decode cX3_readNumberOrName 91 = .ok (.putfield 23, 3) := by decide +kernel
theorem dX3_readNumberOrName_94 : decode cX3_readNumberOrName 94 = .ok (.goto 7, 3) := by decide +kernel
theorem dX3_readNumberOrName_97 : decode cX3_readNumberOrName 97 = .ok (.aload_n 0, 1) := by decide +kernel
theorem dX3_readNumberOrName_98 : decode cX3_readNumberOrName 98 = .ok (.invokevirtual 36, 3) := by decide +kernel
theorem dX3_readNumberOrName_101 : decode cX3_readNumberOrName 101 = .ok (.return_, 1) := by decide +kernel
theorem dX4_add_0 : decode cX4_add 0 = .ok (.aload_n 0, 1) := by decide +kernel
theorem dX4_add_1 : decode cX4_add 1 = .ok (.getfield 29, 3) := by decide +kernel
theorem dX4_add_4 : decode cX4_add 4 = .ok (.bipush 10, 2) := by decide +kernel
theorem dX4_add_6 : decode cX4_add 6 = .ok (.if_icmp .lt 6, 3) := by decide +kernel
theorem dX4_add_9 : decode cX4_add 9 = .ok (.bipush (-3), 2) := by decide +kernel
theorem dX4_add_11 : decode cX4_add 11 = .ok (.ireturn, 1) := by decide +kernel
theorem dX4_add_12 : decode cX4_add 12 = .ok (.aload_n 0, 1) := by decide +kernel
theorem dX4_add_13 : decode cX4_add 13 = .ok (.getfield 9, 3) := by decide +kernel
theorem dX4_add_16 : decode cX4_add 16 = .ok (.aload_n 0, 1) := by decide +kernel
theorem dX4_add_17 : decode cX4_add 17 = .ok (.getfield 29, 3) := by decide +kernel
theorem dX4_add_20 : decode cX4_add 20 = .ok (.iload_n 1, 1) := by decide +kernel
theorem dX4_add_21 : decode cX4_add 21 = .ok (.iastore, 1) := by decide +kernel
theorem dX4_add_22 : decode cX4_add 22 = .ok (.aload_n 0, 1) := by decide +kernel
theorem dX4_add_23 : decode cX4_add 23 = .ok (.getfield 15, 3) := by decide +kernel
theorem dX4_add_26 : decode cX4_add 26 = .ok (.aload_n 0, 1) := by decide +kernel
theorem dX4_add_27 : decode cX4_add 27 = .ok (.getfield 29, 3) := by decide +kernel
theorem dX4_add_30 : decode cX4_add 30 = .ok (.iload_n 2, 1) := by decide +kernel
theorem dX4_add_31 : decode cX4_add 31 = .ok (.iastore, 1) := by decide +kernel
theorem dX4_add_32 : decode cX4_add 32 = .ok (.aload_n 0, 1) := by decide +kernel
theorem dX4_add_33 : decode cX4_add 33 = .ok (.getfield 18, 3) := by decide +kernel
theorem dX4_add_36 : decode cX4_add 36 = .ok (.aload_n 0, 1) := by decide +kernel
theorem dX4_add_37 : decode cX4_add 37 = .ok (.getfield 29, 3) := by decide +kernel
theorem dX4_add_40 : decode cX4_add 40 = .ok (.iload_n 3, 1) := by decide +kernel
theorem dX4_add_41 : decode cX4_add 41 = .ok (.iastore, 1) := by decide +kernel
theorem dX4_add_42 : decode cX4_add 42 = .ok (.aload_n 0, 1) := by decide +kernel
theorem dX4_add_43 : decode cX4_add 43 = .ok (.dup, 1) := by decide +kernel
theorem dX4_add_44 : decode cX4_add 44 = .ok (.getfield 29, 3) := by decide +kernel
theorem dX4_add_47 : decode cX4_add 47 = .ok (.dup_x1, 1) := by decide +kernel
theorem dX4_add_48 : decode cX4_add 48 = .ok (.iconst 1, 1) := by decide +kernel
theorem dX4_add_49 : decode cX4_add 49 = .ok (.iadd, 1) := by decide +kernel
theorem dX4_add_50 : decode cX4_add 50 = .ok (.putfield 29, 3) := by decide +kernel
theorem dX4_add_53 : decode cX4_add 53 = .ok (.ireturn, 1) := by decide +kernel
theorem dX4_join_0 : decode cX4_join 0 = .ok (.iload_n 0, 1) := by decide +kernel
theorem dX4_join_1 : decode cX4_join 1 = .ok (.tableswitch 85 5 10 #[39, 43, 47, 51, 63, 74], 39) := by decide +kernel
theorem dX4_join_40 : decode cX4_join 40 = .ok (.iload_n 1, 1) := by decide +kernel
theorem dX4_join_41 : decode cX4_join 41 = .ok (.iload_n 2, 1) := by decide +kernel
theorem dX4_join_42 : decode cX4_join 42 = .ok (.iadd, 1) := by decide +kernel
theorem dX4_join_43 : decode cX4_join 43 = .ok (.ireturn, 1) := by decide +kernel
theorem dX4_join_44 : decode cX4_join 44 = .ok (.iload_n 1, 1) := by decide +kernel
theorem dX4_join_45 : decode cX4_join 45 = .ok (.iload_n 2, 1) := by decide +kernel
theorem dX4_join_46 : decode cX4_join 46 = .ok (.isub, 1) := by decide +kernel
theorem dX4_join_47 : decode cX4_join 47 = .ok (.ireturn, 1) := by decide +kernel
theorem dX4_join_48 : decode cX4_join 48 = .ok (.iload_n 1, 1) := by decide +kernel
theorem dX4_join_49 : decode cX4_join 49 = .ok (.iload_n 2, 1) := by decide +kernel
theorem dX4_join_50 : decode cX4_join 50 = .ok (.imul, 1) := by decide +kernel
theorem dX4_join_51 : decode cX4_join 51 = .ok (.ireturn, 1) := by decide +kernel
theorem dX4_join_52 : decode cX4_join 52 = .ok (.iload_n 2, 1) := by decide +kernel
theorem dX4_join_53 : decode cX4_join 53 = .ok (.ifCond .ne 7, 3) := by decide +kernel
theorem dX4_join_56 : decode cX4_join 56 = .ok (.iconst 0, 1) := by decide +kernel
theorem dX4_join_57 : decode cX4_join 57 = .ok (.goto 6, 3) := by decide +kernel
theorem dX4_join_60 : decode cX4_join 60 = .ok (.iload_n 1, 1) := by decide +kernel
theorem dX4_join_61 : decode cX4_join 61 = .ok (.iload_n 2, 1) := by decide +kernel
theorem dX4_join_62 : decode cX4_join 62 = .ok (.idiv, 1) := by decide +kernel
theorem dX4_join_63 : decode cX4_join 63 = .ok (.ireturn, 1) := by decide +kernel
theorem dX4_join_64 : decode cX4_join 64 = .ok (.iload_n 1, 1) := by decide +kernel
theorem dX4_join_65 : decode cX4_join 65 = .ok (.iload_n 2, 1) := by decide +kernel
theorem dX4_join_66 : decode cX4_join 66 = .ok (.if_icmp .ge 7, 3) := by decide +kernel
theorem dX4_join_69 : decode cX4_join 69 = .ok (.iconst 1, 1) := by decide +kernel
theorem dX4_join_70 : decode cX4_join 70 = .ok (.goto 4, 3) := by decide +kernel
theorem dX4_join_73 : decode cX4_join 73 = .ok (.iconst 0, 1) := by decide +kernel
theorem dX4_join_74 : decode cX4_join 74 = .ok (.ireturn, 1) := by decide +kernel
theorem dX4_join_75 : decode cX4_join 75 = .ok (.iload_n 1, 1) := by decide +kernel
theorem dX4_join_76 : decode cX4_join 76 = .ok (.iload_n 2, 1) := by decide +kernel
theorem dX4_join_77 : decode cX4_join 77 = .ok (.if_icmp .ne 7, 3) := by decide +kernel
theorem dX4_join_80 : decode cX4_join 80 = .ok (.iconst 1, 1) := by decide +kernel
theorem dX4_join_81 : decode cX4_join 81 = .ok (.goto 4, 3) := by decide +kernel
theorem dX4_join_84 : decode cX4_join 84 = .ok (.iconst 0, 1) := by decide +kernel
theorem dX4_join_85 : decode cX4_join 85 = .ok (.ireturn, 1) := by decide +kernel
theorem dX4_join_86 : decode cX4_join 86 = .ok (.iload_n 1, 1) := by decide +kernel
theorem dX4_join_87 : decode cX4_join 87 = .ok (.iload_n 2, 1) := by decide +kernel
theorem dX4_join_88 : decode cX4_join 88 = .ok (.if_icmp .le 7, 3) := by decide +kernel
theorem dX4_join_91 : decode cX4_join 91 = .ok (.iconst 1, 1) := by decide +kernel
theorem dX4_join_92 : decode cX4_join 92 = .ok (.goto 4, 3) := by decide +kernel
theorem dX4_join_95 : decode cX4_join 95 = .ok (.iconst 0, 1) := by decide +kernel
theorem dX4_join_96 : decode cX4_join 96 = .ok (.ireturn, 1) := by decide +kernel
theorem dX6_has_0 : decode cX6_has 0 = .ok (.iload_n 1, 1) := by decide +kernel
theorem dX6_has_1 : decode cX6_has 1 = .ok (.ifCond .lt 15, 3) := by decide +kernel
theorem dX6_has_4 : decode cX6_has 4 = .ok (.iload_n 1, 1) := by decide +kernel
theorem dX6_has_5 : decode cX6_has 5 = .ok (.aload_n 0, 1) := by decide +kernel
theorem dX6_has_6 : decode cX6_has 6 = .ok (.getfield 26, 3) := by decide +kernel
theorem dX6_has_9 : decode cX6_has 9 = .ok (.if_icmp .ge 7, 3) := by decide +kernel
theorem dX6_has_12 : decode cX6_has 12 = .ok (.iconst 1, 1) := by decide +kernel
theorem dX6_has_13 : decode cX6_has 13 = .ok (.goto 4, 3) := by decide +kernel
theorem dX6_has_16 : decode cX6_has 16 = .ok (.iconst 0, 1) := by decide +kernel
theorem dX6_has_17 : decode cX6_has 17 = .ok (.ireturn, 1) := by decide +kernel
theorem dX6_add_0 : decode cX6_add 0 = .ok (.aload_n 0, 1) := by decide +kernel
theorem dX6_add_1 : decode cX6_add 1 = .ok (.getfield 26, 3) := by decide +kernel
theorem dX6_add_4 : decode cX6_add 4 = .ok (.bipush 20, 2) := by decide +kernel
theorem dX6_add_6 : decode cX6_add 6 = .ok (.if_icmp .lt 6, 3) := by decide +kernel
theorem dX6_add_9 : decode cX6_add 9 = .ok (.bipush (-3), 2) := by decide +kernel
theorem dX6_add_11 : decode cX6_add 11 = .ok (.ireturn, 1) := by decide +kernel
theorem dX6_add_12 : decode cX6_add 12 = .ok (.aload_n 0, 1) := by decide +kernel
theorem dX6_add_13 : decode cX6_add 13 = .ok (.getfield 9, 3) := by decide +kernel
theorem dX6_add_16 : decode cX6_add 16 = .ok (.aload_n 0, 1) := by decide +kernel
theorem dX6_add_17 : decode cX6_add 17 = .ok (.getfield 26, 3) := by decide +kernel
theorem dX6_add_20 : decode cX6_add 20 = .ok (.iload_n 1, 1) := by decide +kernel
theorem dX6_add_21 : decode cX6_add 21 = .ok (.iastore, 1) := by decide +kernel
theorem dX6_add_22 : decode cX6_add 22 = .ok (.aload_n 0, 1) := by decide +kernel
theorem dX6_add_23 : decode cX6_add 23 = .ok (.getfield 15, 3) := by decide +kernel
theorem dX6_add_26 : decode cX6_add 26 = .ok (.aload_n 0, 1) := by decide +kernel
theorem dX6_add_27 : decode cX6_add 27 = .ok (.getfield 26, 3) := by decide +kernel
theorem dX6_add_30 : decode cX6_add 30 = .ok (.iload_n 2, 1) := by decide +kernel
theorem dX6_add_31 : decode cX6_add 31 = .ok (.iastore, 1) := by decide +kernel
theorem dX6_add_32 : decode cX6_add 32 = .ok (.aload_n 0, 1) := by decide +kernel
theorem dX6_add_33 : decode cX6_add 33 = .ok (.dup, 1) := by decide +kernel
theorem dX6_add_34 : decode cX6_add 34 = .ok (.getfield 26, 3) := by decide +kernel
theorem dX6_add_37 : decode cX6_add 37 = .ok (.dup_x1, 1) := by decide +kernel
theorem dX6_add_38 : decode cX6_add 38 = .ok (.iconst 1, 1) := by decide +kernel
theorem dX6_add_39 : decode cX6_add 39 = .ok (.iadd, 1) := by decide +kernel
theorem dX6_add_40 : decode cX6_add 40 = .ok (.putfield 26, 3) := by decide +kernel
theorem dX6_add_43 : decode cX6_add 43 = .ok (.ireturn, 1) := by decide +kernel
theorem dX7_has_0 : decode cX7_has 0 = .ok (.iload_n 1, 1) := by decide +kernel
theorem dX7_has_1 : decode cX7_has 1 = .ok (.ifCond .lt 15, 3) := by decide +kernel
theorem dX7_has_4 : decode cX7_has 4 = .ok (.iload_n 1, 1) := by decide +kernel
theorem dX7_has_5 : decode cX7_has 5 = .ok (.aload_n 0, 1) := by decide +kernel
theorem dX7_has_6 : decode cX7_has 6 = .ok (.getfield 31, 3) := by decide +kernel
theorem dX7_has_9 : decode cX7_has 9 = .ok (.if_icmp .ge 7, 3) := by decide +kernel
theorem dX7_has_12 : decode cX7_has 12 = .ok (.iconst 1, 1) := by decide +kernel
theorem dX7_has_13 : decode cX7_has 13 = .ok (.goto 4, 3) := by decide +kernel
theorem dX7_has_16 : decode cX7_has 16 = .ok (.iconst 0, 1) := by decide +kernel
theorem dX7_has_17 : decode cX7_has 17 = .ok (.ireturn, 1) := by decide +kernel
theorem dX8_has_0 : decode cX8_has 0 = .ok (.iload_n 1, 1) := by decide +kernel
theorem dX8_has_1 : decode cX8_has 1 = .ok (.ifCond .lt 15, 3) := by decide +kernel
theorem dX8_has_4 : decode cX8_has 4 = .ok (.iload_n 1, 1) := by decide +kernel
theorem dX8_has_5 : decode cX8_has 5 = .ok (.aload_n 0, 1) := by decide +kernel
theorem dX8_has_6 : decode cX8_has 6 = .ok (.getfield 39, 3) := by decide +kernel
theorem dX8_has_9 : decode cX8_has 9 = .ok (.if_icmp .ge 7, 3) := by decide +kernel
theorem dX8_has_12 : decode cX8_has 12 = .ok (.iconst 1, 1) := by decide +kernel
theorem dX8_has_13 : decode cX8_has 13 = .ok (.goto 4, 3) := by decide +kernel
theorem dX8_has_16 : decode cX8_has 16 = .ok (.iconst 0, 1) := by decide +kernel
theorem dX8_has_17 : decode cX8_has 17 = .ok (.ireturn, 1) := by decide +kernel
theorem dX8_add_0 : decode cX8_add 0 = .ok (.aload_n 0, 1) := by decide +kernel
theorem dX8_add_1 : decode cX8_add 1 = .ok (.getfield 39, 3) := by decide +kernel
theorem dX8_add_4 : decode cX8_add 4 = .ok (.bipush 10, 2) := by decide +kernel
theorem dX8_add_6 : decode cX8_add 6 = .ok (.if_icmp .lt 6, 3) := by decide +kernel
theorem dX8_add_9 : decode cX8_add 9 = .ok (.bipush (-3), 2) := by decide +kernel
theorem dX8_add_11 : decode cX8_add 11 = .ok (.ireturn, 1) := by decide +kernel
theorem dX8_add_12 : decode cX8_add 12 = .ok (.aload_n 0, 1) := by decide +kernel
theorem dX8_add_13 : decode cX8_add 13 = .ok (.getfield 9, 3) := by decide +kernel
theorem dX8_add_16 : decode cX8_add 16 = .ok (.aload_n 0, 1) := by decide +kernel
theorem dX8_add_17 : decode cX8_add 17 = .ok (.getfield 39, 3) := by decide +kernel
theorem dX8_add_20 : decode cX8_add 20 = .ok (.iload_n 1, 1) := by decide +kernel
theorem dX8_add_21 : decode cX8_add 21 = .ok (.iastore, 1) := by decide +kernel
theorem dX8_add_22 : decode cX8_add 22 = .ok (.aload_n 0, 1) := by decide +kernel
theorem dX8_add_23 : decode cX8_add 23 = .ok (.getfield 21, 3) := by decide +kernel
theorem dX8_add_26 : decode cX8_add 26 = .ok (.aload_n 0, 1) := by decide +kernel
theorem dX8_add_27 : decode cX8_add 27 = .ok (.getfield 39, 3) := by decide +kernel
theorem dX8_add_30 : decode cX8_add 30 = .ok (.iconst (-1), 1) := by decide +kernel
theorem dX8_add_31 : decode cX8_add 31 = .ok (.iastore, 1) := by decide +kernel
theorem dX8_add_32 : decode cX8_add 32 = .ok (.aload_n 0, 1) := by decide +kernel
theorem dX8_add_33 : decode cX8_add 33 = .ok (.getfield 24, 3) := by decide +kernel
theorem dX8_add_36 : decode cX8_add 36 = .ok (.aload_n 0, 1) := by decide +kernel
theorem dX8_add_37 : decode cX8_add 37 = .ok (.getfield 39, 3) := by decide +kernel
theorem dX8_add_40 : decode cX8_add 40 = .ok (.iconst (-1), 1) := by decide +kernel
theorem dX8_add_41 : decode cX8_add 41 = .ok (.iastore, 1) := by decide +kernel
theorem dX8_add_42 : decode cX8_add 42 = .ok (.aload_n 0, 1) := by decide +kernel
theorem dX8_add_43 : decode cX8_add 43 = .ok (.dup, 1) := by decide +kernel
theorem dX8_add_44 : decode cX8_add 44 = .ok (.getfield 39, 3) := by decide +kernel
theorem dX8_add_47 : decode cX8_add 47 = .ok (.dup_x1, 1) := by decide +kernel
theorem dX8_add_48 : decode cX8_add 48 = .ok (.iconst 1, 1) := by decide +kernel
theorem dX8_add_49 : decode cX8_add 49 = .ok (.iadd, 1) := by decide +kernel
theorem dX8_add_50 : decode cX8_add 50 = .ok (.putfield 39, 3) := by decide +kernel
theorem dX8_add_53 : decode cX8_add 53 = .ok (.ireturn, 1) := by decide +kernel
theorem dX8_isBack_0 : decode cX8_isBack 0 = .ok (.aload_n 0, 1) := by decide +kernel
theorem dX8_isBack_1 : decode cX8_isBack 1 = .ok (.getfield 24, 3) := by decide +kernel
theorem dX8_isBack_4 : decode cX8_isBack 4 = .ok (.iload_n 1, 1) := by decide +kernel
theorem dX8_isBack_5 : decode cX8_isBack 5 = .ok (.iaload, 1) := by decide +kernel
theorem dX8_isBack_6 : decode cX8_isBack 6 = .ok (.ifCond .lt 7, 3) := by decide +kernel
theorem dX8_isBack_9 : decode cX8_isBack 9 = .ok (.iconst 1, 1) := by decide +kernel
theorem dX8_isBack_10 : decode cX8_isBack 10 = .ok (.goto 4, 3) := by decide +kernel
theorem dX8_isBack_13 : decode cX8_isBack 13 = .ok (.iconst 0, 1) := by decide +kernel
theorem dX8_isBack_14 : decode cX8_isBack 14 = .ok (.ireturn, 1) := by decide +kernel
theorem dX8_close_0 : decode cX8_close 0 = .ok (.aload_n 0, 1) := by decide +kernel
theorem dX8_close_1 : decode cX8_close 1 = .ok (.getfield 21, 3) := by decide +kernel
theorem dX8_close_4 : decode cX8_close 4 = .ok (.iload_n 1, 1) := by decide +kernel
theorem dX8_close_5 : decode cX8_close 5 = .ok (.iload_n 2, 1) := by decide +kernel
theorem dX8_close_6 : decode cX8_close 6 = .ok (.iastore, 1) := by decide +kernel
theorem dX8_close_7 : decode cX8_close 7 = .ok (.aload_n 0, 1) := by decide +kernel
theorem dX8_close_8 : decode cX8_close 8 = .ok (.getfield 24, 3) := by decide +kernel
theorem dX8_close_11 : decode cX8_close 11 = .ok (.iload_n 1, 1) := by decide +kernel
theorem dX8_close_12 : decode cX8_close 12 = .ok (.iload_n 3, 1) := by decide +kernel
theorem dX8_close_13 : decode cX8_close 13 = .ok (.iastore, 1) := by decide +kernel
theorem dX8_close_14 : decode cX8_close 14 = .ok (.return_, 1) := by decide +kernel
theorem dX8_backs_0 : decode cX8_backs 0 = .ok (.iconst 0, 1) := by decide +kernel
theorem dX8_backs_1 : decode cX8_backs 1 = .ok (.istore_n 1, 1) := by decide +kernel
theorem dX8_backs_2 : decode cX8_backs 2 = .ok (.iconst 0, 1) := by decide +kernel
theorem dX8_backs_3 : decode cX8_backs 3 = .ok (.istore_n 2, 1) := by decide +kernel
theorem dX8_backs_4 : decode cX8_backs 4 = .ok (.iload_n 2, 1) := by decide +kernel
theorem dX8_backs_5 : decode cX8_backs 5 = .ok (.aload_n 0, 1) := by decide +kernel
theorem dX8_backs_6 : decode cX8_backs 6 = .ok (.getfield 39, 3) := by decide +kernel
theorem dX8_backs_9 : decode cX8_backs 9 = .ok (.if_icmp .ge 25, 3) := by decide +kernel
theorem dX8_backs_12 : decode cX8_backs 12 = .ok (.iload_n 1, 1) := by decide +kernel
theorem dX8_backs_13 : decode cX8_backs 13 = .ok (.aload_n 0, 1) := by decide +kernel
theorem dX8_backs_14 : decode cX8_backs 14 = .ok (.iload_n 2, 1) := by decide +kernel
theorem dX8_backs_15 : decode cX8_backs 15 = .ok (.invokevirtual 43, 3) := by decide +kernel
theorem dX8_backs_18 : decode cX8_backs 18 = .ok (.ifCond .eq 7, 3) := by decide +kernel
theorem dX8_backs_21 : decode cX8_backs 21 = .ok (.iconst 1, 1) := by decide +kernel
theorem dX8_backs_22 : decode cX8_backs 22 = .ok (.goto 4, 3) := by decide +kernel
theorem dX8_backs_25 : decode cX8_backs 25 = .ok (.iconst 0, 1) := by decide +kernel
theorem dX8_backs_26 : decode cX8_backs 26 = .ok (.iadd, 1) := by decide +kernel
theorem dX8_backs_27 : decode cX8_backs 27 = .ok (.istore_n 1, 1) := by decide +kernel
theorem dX8_backs_28 : decode cX8_backs 28 = .ok (.iinc 2 1, 3) := by decide +kernel
theorem dX8_backs_31 : decode cX8_backs 31 = .ok (.goto (-27), 3) := by decide +kernel
theorem dX8_backs_34 : decode cX8_backs 34 = .ok (.iload_n 1, 1) := by decide +kernel
theorem dX8_backs_35 : decode cX8_backs 35 = .ok (.ireturn, 1) := by decide +kernel
theorem dX8_needOf_0 : decode cX8_needOf 0 = .ok (.aload_n 0, 1) := by decide +kernel
theorem dX8_needOf_1 : decode cX8_needOf 1 = .ok (.getfield 33, 3) := by decide +kernel
theorem dX8_needOf_4 : decode cX8_needOf 4 = .ok (.iload_n 1, 1) := by decide +kernel
theorem dX8_needOf_5 : decode cX8_needOf 5 = .ok (.bipush 10, 2) := by decide +kernel
theorem dX8_needOf_7 : decode cX8_needOf 7 = .ok (.imul, 1) := by decide +kernel
theorem dX8_needOf_8 : decode cX8_needOf 8 = .ok (.iload_n 2, 1) := by decide +kernel
theorem dX8_needOf_9 : decode cX8_needOf 9 = .ok (.iadd, 1) := by decide +kernel
theorem dX8_needOf_10 : decode cX8_needOf 10 = .ok (.iaload, 1) := by decide +kernel
theorem dX8_needOf_11 : decode cX8_needOf 11 = .ok (.ireturn, 1) := by decide +kernel
theorem dX8_changeNeed_0 : decode cX8_changeNeed 0 = .ok (.aload_n 0, 1) := by decide +kernel
theorem dX8_changeNeed_1 : decode cX8_changeNeed 1 = .ok (.iload_n 1, 1) := by decide +kernel
theorem dX8_changeNeed_2 : decode cX8_changeNeed 2 = .ok (.iload_n 2, 1) := by decide +kernel
theorem dX8_changeNeed_3 : decode cX8_changeNeed 3 = .ok (.invokevirtual 47, 3) := by decide +kernel
theorem dX8_changeNeed_6 : decode cX8_changeNeed 6 = .ok (.istore 4, 2) := by decide +kernel
theorem dX8_changeNeed_8 : decode cX8_changeNeed 8 = .ok (.aload_n 0, 1) := by decide +kernel
theorem dX8_changeNeed_9 : decode cX8_changeNeed 9 = .ok (.getfield 33, 3) := by decide +kernel
theorem dX8_changeNeed_12 : decode cX8_changeNeed 12 = .ok (.iload_n 1, 1) := by decide +kernel
theorem dX8_changeNeed_13 : decode cX8_changeNeed 13 = .ok (.bipush 10, 2) := by decide +kernel
theorem dX8_changeNeed_15 : decode cX8_changeNeed 15 = .ok (.imul, 1) := by decide +kernel
theorem dX8_changeNeed_16 : decode cX8_changeNeed 16 = .ok (.iload_n 2, 1) := by decide +kernel
theorem dX8_changeNeed_17 : decode cX8_changeNeed 17 = .ok (.iadd, 1) := by decide +kernel
theorem dX8_changeNeed_18 : decode cX8_changeNeed 18 = .ok (.iload_n 3, 1) := by decide +kernel
theorem dX8_changeNeed_19 : decode cX8_changeNeed 19 = .ok (.iastore, 1) := by decide +kernel
theorem dX8_changeNeed_20 : decode cX8_changeNeed 20 = .ok (.iload 4, 2) := by decide +kernel
theorem dX8_changeNeed_22 : decode cX8_changeNeed 22 = .ok (.ireturn, 1) := by decide +kernel
theorem dX8_needOfAll_0 : decode cX8_needOfAll 0 = .ok (.iconst 0, 1) := by decide +kernel
theorem dX8_needOfAll_1 : decode cX8_needOfAll 1 = .ok (.istore_n 2, 1) := by decide +kernel
theorem dX8_needOfAll_2 : decode cX8_needOfAll 2 = .ok (.iconst 0, 1) := by decide +kernel
theorem dX8_needOfAll_3 : decode cX8_needOfAll 3 = .ok (.istore_n 3, 1) := by decide +kernel
theorem dX8_needOfAll_4 : decode cX8_needOfAll 4 = .ok (.iload_n 3, 1) := by decide +kernel
theorem dX8_needOfAll_5 : decode cX8_needOfAll 5 = .ok (.bipush 10, 2) := by decide +kernel
theorem dX8_needOfAll_7 : decode cX8_needOfAll 7 = .ok (.if_icmp .ge 18, 3) := by decide +kernel
theorem dX8_needOfAll_10 : decode cX8_needOfAll 10 = .ok (.iload_n 2, 1) := by decide +kernel
theorem dX8_needOfAll_11 : decode cX8_needOfAll 11 = .ok (.aload_n 0, 1) := by decide +kernel
theorem dX8_needOfAll_12 : decode cX8_needOfAll 12 = .ok (.iload_n 1, 1) := by decide +kernel
theorem dX8_needOfAll_13 : decode cX8_needOfAll 13 = .ok (.iload_n 3, 1) := by decide +kernel
theorem dX8_needOfAll_14 : decode cX8_needOfAll 14 = .ok (.invokevirtual 47, 3) := by decide +kernel
theorem dX8_needOfAll_17 : decode cX8_needOfAll 17 = .ok (.iadd, 1) := by decide +kernel
theorem dX8_needOfAll_18 : decode cX8_needOfAll 18 = .ok (.istore_n 2, 1) := by decide +kernel
theorem dX8_needOfAll_19 : decode cX8_needOfAll 19 = .ok (.iinc 3 1, 3) := by decide +kernel
theorem dX8_needOfAll_22 : decode cX8_needOfAll 22 = .ok (.goto (-18), 3) := by decide +kernel
theorem dX8_needOfAll_25 : decode cX8_needOfAll 25 = .ok (.iload_n 2, 1) := by decide +kernel
theorem dX8_needOfAll_26 : decode cX8_needOfAll 26 = .ok (.ireturn, 1) := by decide +kernel
theorem dX8_canFly_0 : decode cX8_canFly 0 = .ok (.aload_n 0, 1) := by decide +kernel
theorem dX8_canFly_1 : decode cX8_canFly 1 = .ok (.getfield 15, 3) := by decide +kernel
theorem dX8_canFly_4 : decode cX8_canFly 4 = .ok (.iload_n 1, 1) := by decide +kernel
theorem dX8_canFly_5 : decode cX8_canFly 5 = .ok (.iaload, 1) := by decide +kernel
theorem dX8_canFly_6 : decode cX8_canFly 6 = .ok (.iload_n 2, 1) := by decide +kernel
theorem dX8_canFly_7 : decode cX8_canFly 7 = .ok (.iadd, 1) := by decide +kernel
theorem dX8_canFly_8 : decode cX8_canFly 8 = .ok (.ldc 51, 2) := by decide +kernel
theorem dX8_canFly_10 : decode cX8_canFly 10 = .ok (.if_icmp .gt 20, 3) := by decide +kernel
theorem dX8_canFly_13 : decode cX8_canFly 13 = .ok (.aload_n 0, 1) := by decide +kernel
theorem dX8_canFly_14 : decode cX8_canFly 14 = .ok (.getfield 18, 3) := by decide +kernel
theorem dX8_canFly_17 : decode cX8_canFly 17 = .ok (.iload_n 1, 1) := by decide +kernel
theorem dX8_canFly_18 : decode cX8_canFly 18 = .ok (.iaload, 1) := by decide +kernel
theorem dX8_canFly_19 : decode cX8_canFly 19 = .ok (.iload_n 3, 1) := by decide +kernel
theorem dX8_canFly_20 : decode cX8_canFly 20 = .ok (.iadd, 1) := by decide +kernel
theorem dX8_canFly_21 : decode cX8_canFly 21 = .ok (.ldc 51, 2) := by decide +kernel
theorem dX8_canFly_23 : decode cX8_canFly 23 = .ok (.if_icmp .gt 7, 3) := by decide +kernel
theorem dX8_canFly_26 : decode cX8_canFly 26 = .ok (.iconst 1, 1) := by decide +kernel
theorem dX8_canFly_27 : decode cX8_canFly 27 = .ok (.goto 4, 3) := by decide +kernel
theorem dX8_canFly_30 : decode cX8_canFly 30 = .ok (.iconst 0, 1) := by decide +kernel
theorem dX8_canFly_31 : decode cX8_canFly 31 = .ok (.ireturn, 1) := by decide +kernel
theorem dX8_wear_0 : decode cX8_wear 0 = .ok (.aload_n 0, 1) := by decide +kernel
theorem dX8_wear_1 : decode cX8_wear 1 = .ok (.getfield 15, 3) := by decide +kernel
theorem dX8_wear_4 : decode cX8_wear 4 = .ok (.iload_n 1, 1) := by decide +kernel
theorem dX8_wear_5 : decode cX8_wear 5 = .ok (.dup2, 1) := by decide +kernel
theorem dX8_wear_6 : decode cX8_wear 6 = .ok (.iaload, 1) := by decide +kernel
theorem dX8_wear_7 : decode cX8_wear 7 = .ok (.iload_n 2, 1) := by decide +kernel
theorem dX8_wear_8 : decode cX8_wear 8 = .ok (.iadd, 1) := by decide +kernel
theorem dX8_wear_9 : decode cX8_wear 9 = .ok (.iastore, 1) := by decide +kernel
theorem dX8_wear_10 : decode cX8_wear 10 = .ok (.aload_n 0, 1) := by decide +kernel
theorem dX8_wear_11 : decode cX8_wear 11 = .ok (.getfield 18, 3) := by decide +kernel
theorem dX8_wear_14 : decode cX8_wear 14 = .ok (.iload_n 1, 1) := by decide +kernel
theorem dX8_wear_15 : decode cX8_wear 15 = .ok (.dup2, 1) := by decide +kernel
theorem dX8_wear_16 : decode cX8_wear 16 = .ok (.iaload, 1) := by decide +kernel
theorem dX8_wear_17 : decode cX8_wear 17 = .ok (.iload_n 3, 1) := by decide +kernel
theorem dX8_wear_18 : decode cX8_wear 18 = .ok (.iadd, 1) := by decide +kernel
theorem dX8_wear_19 : decode cX8_wear 19 = .ok (.iastore, 1) := by decide +kernel
theorem dX8_wear_20 : decode cX8_wear 20 = .ok (.aload_n 0, 1) := by decide +kernel
theorem dX8_wear_21 : decode cX8_wear 21 = .ok (.getfield 15, 3) := by decide +kernel
theorem dX8_wear_24 : decode cX8_wear 24 = .ok (.iload_n 1, 1) := by decide +kernel
theorem dX8_wear_25 : decode cX8_wear 25 = .ok (.iaload, 1) := by decide +kernel
theorem dX8_wear_26 : decode cX8_wear 26 = .ok (.ireturn, 1) := by decide +kernel
theorem dX8_savedFor_0 : decode cX8_savedFor 0 = .ok (.aload_n 0, 1) := by decide +kernel
theorem dX8_savedFor_1 : decode cX8_savedFor 1 = .ok (.getfield 36, 3) := by decide +kernel
theorem dX8_savedFor_4 : decode cX8_savedFor 4 = .ok (.iload_n 1, 1) := by decide +kernel
theorem dX8_savedFor_5 : decode cX8_savedFor 5 = .ok (.bipush 10, 2) := by decide +kernel
theorem dX8_savedFor_7 : decode cX8_savedFor 7 = .ok (.imul, 1) := by decide +kernel
theorem dX8_savedFor_8 : decode cX8_savedFor 8 = .ok (.iload_n 2, 1) := by decide +kernel
theorem dX8_savedFor_9 : decode cX8_savedFor 9 = .ok (.iadd, 1) := by decide +kernel
theorem dX8_savedFor_10 : decode cX8_savedFor 10 = .ok (.iaload, 1) := by decide +kernel
theorem dX8_savedFor_11 : decode cX8_savedFor 11 = .ok (.ireturn, 1) := by decide +kernel
theorem dX8_addLink_0 : decode cX8_addLink 0 = .ok (.aload_n 0, 1) := by decide +kernel
theorem dX8_addLink_1 : decode cX8_addLink 1 = .ok (.getfield 27, 3) := by decide +kernel
theorem dX8_addLink_4 : decode cX8_addLink 4 = .ok (.iload_n 1, 1) := by decide +kernel
theorem dX8_addLink_5 : decode cX8_addLink 5 = .ok (.iaload, 1) := by decide +kernel
