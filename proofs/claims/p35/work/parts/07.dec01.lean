theorem dX1_latePrice_0 : decode cX1_latePrice 0 = .ok (.aload_n 0, 1) := by decide +kernel
theorem dX1_latePrice_1 : decode cX1_latePrice 1 = .ok (.getfield 48, 3) := by decide +kernel
theorem dX1_latePrice_4 : decode cX1_latePrice 4 = .ok (.getfield 141, 3) := by decide +kernel
theorem dX1_latePrice_7 : decode cX1_latePrice 7 = .ok (.iload_n 1, 1) := by decide +kernel
theorem dX1_latePrice_8 : decode cX1_latePrice 8 = .ok (.iaload, 1) := by decide +kernel
theorem dX1_latePrice_9 : decode cX1_latePrice 9 = .ok (.i2l, 1) := by decide +kernel
theorem dX1_latePrice_10 : decode cX1_latePrice 10 = .ok (.lstore 5, 2) := by decide +kernel
theorem dX1_latePrice_12 : decode cX1_latePrice 12 = .ok (.lload_n 3, 1) := by decide +kernel
theorem dX1_latePrice_13 : decode cX1_latePrice 13 = .ok (.aload_n 0, 1) := by decide +kernel
theorem dX1_latePrice_14 : decode cX1_latePrice 14 = .ok (.getfield 48, 3) := by decide +kernel
theorem dX1_latePrice_17 : decode cX1_latePrice 17 = .ok (.iload_n 1, 1) := by decide +kernel
theorem dX1_latePrice_18 : decode cX1_latePrice 18 = .ok (.iload_n 2, 1) := by decide +kernel
theorem dX1_latePrice_19 : decode cX1_latePrice 19 = .ok (.iconst 1, 1) := by decide +kernel
theorem dX1_latePrice_20 : decode cX1_latePrice 20 = .ok (.invokevirtual 134, 3) := by decide +kernel
theorem dX1_latePrice_23 : decode cX1_latePrice 23 = .ok (.i2l, 1) := by decide +kernel
theorem dX1_latePrice_24 : decode cX1_latePrice 24 = .ok (.invokestatic 144, 3) := by decide +kernel
theorem dX1_latePrice_27 : decode cX1_latePrice 27 = .ok (.lstore 7, 2) := by decide +kernel
theorem dX1_latePrice_29 : decode cX1_latePrice 29 = .ok (.lload 7, 2) := by decide +kernel
theorem dX1_latePrice_31 : decode cX1_latePrice 31 = .ok (.lload 5, 2) := by decide +kernel
theorem dX1_latePrice_33 : decode cX1_latePrice 33 = .ok (.lmul, 1) := by decide +kernel
theorem dX1_latePrice_34 : decode cX1_latePrice 34 = .ok (.lload_n 3, 1) := by decide +kernel
theorem dX1_latePrice_35 : decode cX1_latePrice 35 = .ok (.lload 7, 2) := by decide +kernel
theorem dX1_latePrice_37 : decode cX1_latePrice 37 = .ok (.lsub, 1) := by decide +kernel
theorem dX1_latePrice_38 : decode cX1_latePrice 38 = .ok (.lload 5, 2) := by decide +kernel
theorem dX1_latePrice_40 : decode cX1_latePrice 40 = .ok (.aload_n 0, 1) := by decide +kernel
theorem dX1_latePrice_41 : decode cX1_latePrice 41 = .ok (.getfield 48, 3) := by decide +kernel
theorem dX1_latePrice_44 : decode cX1_latePrice 44 = .ok (.iload_n 1, 1) := by decide +kernel
theorem dX1_latePrice_45 : decode cX1_latePrice 45 = .ok (.iload_n 2, 1) := by decide +kernel
theorem dX1_latePrice_46 : decode cX1_latePrice 46 = .ok (.iconst 2, 1) := by decide +kernel
theorem dX1_latePrice_47 : decode cX1_latePrice 47 = .ok (.invokevirtual 134, 3) := by decide +kernel
theorem dX1_latePrice_50 : decode cX1_latePrice 50 = .ok (.i2l, 1) := by decide +kernel
theorem dX1_latePrice_51 : decode cX1_latePrice 51 = .ok (.lmul, 1) := by decide +kernel
theorem dX1_latePrice_52 : decode cX1_latePrice 52 = .ok (.ldc2_w 150, 3) := by decide +kernel
theorem dX1_latePrice_55 : decode cX1_latePrice 55 = .ok (.ldiv, 1) := by decide +kernel
theorem dX1_latePrice_56 : decode cX1_latePrice 56 = .ok (.lmul, 1) := by decide +kernel
theorem dX1_latePrice_57 : decode cX1_latePrice 57 = .ok (.ladd, 1) := by decide +kernel
theorem dX1_latePrice_58 : decode cX1_latePrice 58 = .ok (.invokestatic 123, 3) := by decide +kernel
theorem dX1_latePrice_61 : decode cX1_latePrice 61 = .ok (.ireturn, 1) := by decide +kernel
theorem dX1_unitsOf_0 : decode cX1_unitsOf 0 = .ok (.aload_n 0, 1) := by decide +kernel
theorem dX1_unitsOf_1 : decode cX1_unitsOf 1 = .ok (.getfield 48, 3) := by decide +kernel
theorem dX1_unitsOf_4 : decode cX1_unitsOf 4 = .ok (.iload_n 1, 1) := by decide +kernel
theorem dX1_unitsOf_5 : decode cX1_unitsOf 5 = .ok (.iload_n 2, 1) := by decide +kernel
theorem dX1_unitsOf_6 : decode cX1_unitsOf 6 = .ok (.invokevirtual 130, 3) := by decide +kernel
theorem dX1_unitsOf_9 : decode cX1_unitsOf 9 = .ok (.tableswitch 115 100 111 #[79, 115, 115, 87, 63, 115, 115, 115, 71, 101, 115, 92], 63) := by decide +kernel
theorem dX1_unitsOf_72 : decode cX1_unitsOf 72 = .ok (.aload_n 0, 1) := by decide +kernel
theorem dX1_unitsOf_73 : decode cX1_unitsOf 73 = .ok (.iload_n 1, 1) := by decide +kernel
theorem dX1_unitsOf_74 : decode cX1_unitsOf 74 = .ok (.iload_n 2, 1) := by decide +kernel
theorem dX1_unitsOf_75 : decode cX1_unitsOf 75 = .ok (.iconst 0, 1) := by decide +kernel
theorem dX1_unitsOf_76 : decode cX1_unitsOf 76 = .ok (.invokevirtual 152, 3) := by decide +kernel
theorem dX1_unitsOf_79 : decode cX1_unitsOf 79 = .ok (.ireturn, 1) := by decide +kernel
theorem dX1_unitsOf_80 : decode cX1_unitsOf 80 = .ok (.aload_n 0, 1) := by decide +kernel
theorem dX1_unitsOf_81 : decode cX1_unitsOf 81 = .ok (.iload_n 1, 1) := by decide +kernel
theorem dX1_unitsOf_82 : decode cX1_unitsOf 82 = .ok (.iload_n 2, 1) := by decide +kernel
theorem dX1_unitsOf_83 : decode cX1_unitsOf 83 = .ok (.iconst 1, 1) := by decide +kernel
theorem dX1_unitsOf_84 : decode cX1_unitsOf 84 = .ok (.invokevirtual 152, 3) := by decide +kernel
theorem dX1_unitsOf_87 : decode cX1_unitsOf 87 = .ok (.ireturn, 1) := by decide +kernel
theorem dX1_unitsOf_88 : decode cX1_unitsOf 88 = .ok (.aload_n 0, 1) := by decide +kernel
theorem dX1_unitsOf_89 : decode cX1_unitsOf 89 = .ok (.iload_n 1, 1) := by decide +kernel
theorem dX1_unitsOf_90 : decode cX1_unitsOf 90 = .ok (.iload_n 2, 1) := by decide +kernel
theorem dX1_unitsOf_91 : decode cX1_unitsOf 91 = .ok (.iconst 2, 1) := by decide +kernel
theorem dX1_unitsOf_92 : decode cX1_unitsOf 92 = .ok (.invokevirtual 152, 3) := by decide +kernel
theorem dX1_unitsOf_95 : decode cX1_unitsOf 95 = .ok (.ireturn, 1) := by decide +kernel
theorem dX1_unitsOf_96 : decode cX1_unitsOf 96 = .ok (.aload_n 0, 1) := by decide +kernel
theorem dX1_unitsOf_97 : decode cX1_unitsOf 97 = .ok (.invokevirtual 155, 3) := by decide +kernel
theorem dX1_unitsOf_100 : decode cX1_unitsOf 100 = .ok (.ireturn, 1) := by decide +kernel
theorem dX1_unitsOf_101 : decode cX1_unitsOf 101 = .ok (.aload_n 0, 1) := by decide +kernel
theorem dX1_unitsOf_102 : decode cX1_unitsOf 102 = .ok (.getfield 44, 3) := by decide +kernel
theorem dX1_unitsOf_105 : decode cX1_unitsOf 105 = .ok (.iload_n 1, 1) := by decide +kernel
theorem dX1_unitsOf_106 : decode cX1_unitsOf 106 = .ok (.invokevirtual 159, 3) := by decide +kernel
theorem dX1_unitsOf_109 : decode cX1_unitsOf 109 = .ok (.ireturn, 1) := by decide +kernel
theorem dX1_unitsOf_110 : decode cX1_unitsOf 110 = .ok (.aload_n 0, 1) := by decide +kernel
theorem dX1_unitsOf_111 : decode cX1_unitsOf 111 = .ok (.getfield 24, 3) := by decide +kernel
theorem dX1_unitsOf_114 : decode cX1_unitsOf 114 = .ok (.iload_n 1, 1) := by decide +kernel
theorem dX1_unitsOf_115 : decode cX1_unitsOf 115 = .ok (.invokevirtual 58, 3) := by decide +kernel
theorem dX1_unitsOf_118 : decode cX1_unitsOf 118 = .ok (.aload_n 0, 1) := by decide +kernel
theorem dX1_unitsOf_119 : decode cX1_unitsOf 119 = .ok (.getfield 79, 3) := by decide +kernel
theorem dX1_unitsOf_122 : decode cX1_unitsOf 122 = .ok (.isub, 1) := by decide +kernel
theorem dX1_unitsOf_123 : decode cX1_unitsOf 123 = .ok (.ireturn, 1) := by decide +kernel
theorem dX1_unitsOf_124 : decode cX1_unitsOf 124 = .ok (.iconst 0, 1) := by decide +kernel
theorem dX1_unitsOf_125 : decode cX1_unitsOf 125 = .ok (.iload_n 3, 1) := by decide +kernel
theorem dX1_unitsOf_126 : decode cX1_unitsOf 126 = .ok (.aload_n 0, 1) := by decide +kernel
theorem dX1_unitsOf_127 : decode cX1_unitsOf 127 = .ok (.getfield 48, 3) := by decide +kernel
theorem dX1_unitsOf_130 : decode cX1_unitsOf 130 = .ok (.getfield 162, 3) := by decide +kernel
theorem dX1_unitsOf_133 : decode cX1_unitsOf 133 = .ok (.iload_n 1, 1) := by decide +kernel
theorem dX1_unitsOf_134 : decode cX1_unitsOf 134 = .ok (.iaload, 1) := by decide +kernel
theorem dX1_unitsOf_135 : decode cX1_unitsOf 135 = .ok (.isub, 1) := by decide +kernel
theorem dX1_unitsOf_136 : decode cX1_unitsOf 136 = .ok (.invokestatic 165, 3) := by decide +kernel
theorem dX1_unitsOf_139 : decode cX1_unitsOf 139 = .ok (.ireturn, 1) := by decide +kernel
theorem dX1_shortOf_0 : decode cX1_shortOf 0 = .ok (.aload_n 0, 1) := by decide +kernel
theorem dX1_shortOf_1 : decode cX1_shortOf 1 = .ok (.getfield 48, 3) := by decide +kernel
theorem dX1_shortOf_4 : decode cX1_shortOf 4 = .ok (.iload_n 1, 1) := by decide +kernel
theorem dX1_shortOf_5 : decode cX1_shortOf 5 = .ok (.iload_n 2, 1) := by decide +kernel
theorem dX1_shortOf_6 : decode cX1_shortOf 6 = .ok (.iconst 1, 1) := by decide +kernel
theorem dX1_shortOf_7 : decode cX1_shortOf 7 = .ok (.invokevirtual 134, 3) := by decide +kernel
theorem dX1_shortOf_10 : decode cX1_shortOf 10 = .ok (.istore 4, 2) := by decide +kernel
theorem dX1_shortOf_12 : decode cX1_shortOf 12 = .ok (.aload_n 0, 1) := by decide +kernel
theorem dX1_shortOf_13 : decode cX1_shortOf 13 = .ok (.getfield 48, 3) := by decide +kernel
theorem dX1_shortOf_16 : decode cX1_shortOf 16 = .ok (.iload_n 1, 1) := by decide +kernel
theorem dX1_shortOf_17 : decode cX1_shortOf 17 = .ok (.iload_n 2, 1) := by decide +kernel
theorem dX1_shortOf_18 : decode cX1_shortOf 18 = .ok (.iconst 2, 1) := by decide +kernel
theorem dX1_shortOf_19 : decode cX1_shortOf 19 = .ok (.invokevirtual 134, 3) := by decide +kernel
theorem dX1_shortOf_22 : decode cX1_shortOf 22 = .ok (.istore 5, 2) := by decide +kernel
theorem dX1_shortOf_24 : decode cX1_shortOf 24 = .ok (.aload_n 0, 1) := by decide +kernel
theorem dX1_shortOf_25 : decode cX1_shortOf 25 = .ok (.getfield 38, 3) := by decide +kernel
theorem dX1_shortOf_28 : decode cX1_shortOf 28 = .ok (.iload 4, 2) := by decide +kernel
theorem dX1_shortOf_30 : decode cX1_shortOf 30 = .ok (.invokevirtual 168, 3) := by decide +kernel
theorem dX1_shortOf_33 : decode cX1_shortOf 33 = .ok (.ifCond .eq 16, 3) := by decide +kernel
theorem dX1_shortOf_36 : decode cX1_shortOf 36 = .ok (.aload_n 0, 1) := by decide +kernel
theorem dX1_shortOf_37 : decode cX1_shortOf 37 = .ok (.getfield 38, 3) := by decide +kernel
theorem dX1_shortOf_40 : decode cX1_shortOf 40 = .ok (.iload 4, 2) := by decide +kernel
theorem dX1_shortOf_42 : decode cX1_shortOf 42 = .ok (.iload_n 3, 1) := by decide +kernel
theorem dX1_shortOf_43 : decode cX1_shortOf 43 = .ok (.invokevirtual 174, 3) := by decide +kernel
theorem dX1_shortOf_46 : decode cX1_shortOf 46 = .ok (.ifCond .ne 5, 3) := by decide +kernel
theorem dX1_shortOf_49 : decode cX1_shortOf 49 = .ok (.iconst 0, 1) := by decide +kernel
theorem dX1_shortOf_50 : decode cX1_shortOf 50 = .ok (.ireturn, 1) := by decide +kernel
theorem dX1_shortOf_51 : decode cX1_shortOf 51 = .ok (.iconst 0, 1) := by decide +kernel
theorem dX1_shortOf_52 : decode cX1_shortOf 52 = .ok (.istore 6, 2) := by decide +kernel
theorem dX1_shortOf_54 : decode cX1_shortOf 54 = .ok (.iconst 0, 1) := by decide +kernel
theorem dX1_shortOf_55 : decode cX1_shortOf 55 = .ok (.istore 7, 2) := by decide +kernel
theorem dX1_shortOf_57 : decode cX1_shortOf 57 = .ok (.iload 7, 2) := by decide +kernel
theorem dX1_shortOf_59 : decode cX1_shortOf 59 = .ok (.aload_n 0, 1) := by decide +kernel
theorem dX1_shortOf_60 : decode cX1_shortOf 60 = .ok (.getfield 79, 3) := by decide +kernel
theorem dX1_shortOf_63 : decode cX1_shortOf 63 = .ok (.if_icmp .ge 57, 3) := by decide +kernel
theorem dX1_shortOf_66 : decode cX1_shortOf 66 = .ok (.aload_n 0, 1) := by decide +kernel
theorem dX1_shortOf_67 : decode cX1_shortOf 67 = .ok (.getfield 43, 3) := by decide +kernel
theorem dX1_shortOf_70 : decode cX1_shortOf 70 = .ok (.getfield 82, 3) := by decide +kernel
theorem dX1_shortOf_73 : decode cX1_shortOf 73 = .ok (.aload_n 0, 1) := by decide +kernel
theorem dX1_shortOf_74 : decode cX1_shortOf 74 = .ok (.getfield 18, 3) := by decide +kernel
theorem dX1_shortOf_77 : decode cX1_shortOf 77 = .ok (.iload 7, 2) := by decide +kernel
theorem dX1_shortOf_79 : decode cX1_shortOf 79 = .ok (.iaload, 1) := by decide +kernel
theorem dX1_shortOf_80 : decode cX1_shortOf 80 = .ok (.iaload, 1) := by decide +kernel
theorem dX1_shortOf_81 : decode cX1_shortOf 81 = .ok (.iload 4, 2) := by decide +kernel
theorem dX1_shortOf_83 : decode cX1_shortOf 83 = .ok (.if_icmp .ne 31, 3) := by decide +kernel
theorem dX1_shortOf_86 : decode cX1_shortOf 86 = .ok (.iload 6, 2) := by decide +kernel
theorem dX1_shortOf_88 : decode cX1_shortOf 88 = .ok (.iconst 0, 1) := by decide +kernel
theorem dX1_shortOf_89 : decode cX1_shortOf 89 = .ok (.iload 5, 2) := by decide +kernel
theorem dX1_shortOf_91 : decode cX1_shortOf 91 = .ok (.aload_n 0, 1) := by decide +kernel
theorem dX1_shortOf_92 : decode cX1_shortOf 92 = .ok (.getfield 9, 3) := by decide +kernel
theorem dX1_shortOf_95 : decode cX1_shortOf 95 = .ok (.aload_n 0, 1) := by decide +kernel
theorem dX1_shortOf_96 : decode cX1_shortOf 96 = .ok (.getfield 18, 3) := by decide +kernel
theorem dX1_shortOf_99 : decode cX1_shortOf 99 = .ok (.iload 7, 2) := by decide +kernel
theorem dX1_shortOf_101 : decode cX1_shortOf 101 = .ok (.iaload, 1) := by decide +kernel
theorem dX1_shortOf_102 : decode cX1_shortOf 102 = .ok (.iconst 3, 1) := by decide +kernel
theorem dX1_shortOf_103 : decode cX1_shortOf 103 = .ok (.imul, 1) := by decide +kernel
theorem dX1_shortOf_104 : decode cX1_shortOf 104 = .ok (.iload_n 3, 1) := by decide +kernel
theorem dX1_shortOf_105 : decode cX1_shortOf 105 = .ok (.iadd, 1) := by decide +kernel
theorem dX1_shortOf_106 : decode cX1_shortOf 106 = .ok (.iaload, 1) := by decide +kernel
theorem dX1_shortOf_107 : decode cX1_shortOf 107 = .ok (.isub, 1) := by decide +kernel
theorem dX1_shortOf_108 : decode cX1_shortOf 108 = .ok (.invokestatic 165, 3) := by decide +kernel
theorem dX1_shortOf_111 : decode cX1_shortOf 111 = .ok (.iadd, 1) := by decide +kernel
theorem dX1_shortOf_112 : decode cX1_shortOf 112 = .ok (.istore 6, 2) := by decide +kernel
theorem dX1_shortOf_114 : decode cX1_shortOf 114 = .ok (.iinc 7 1, 3) := by decide +kernel
theorem dX1_shortOf_117 : decode cX1_shortOf 117 = .ok (.goto (-60), 3) := by decide +kernel
theorem dX1_shortOf_120 : decode cX1_shortOf 120 = .ok (.iload 6, 2) := by decide +kernel
theorem dX1_shortOf_122 : decode cX1_shortOf 122 = .ok (.ireturn, 1) := by decide +kernel
theorem dX1_gapsOfAll_0 : decode cX1_gapsOfAll 0 = .ok (.iconst 0, 1) := by decide +kernel
theorem dX1_gapsOfAll_1 : decode cX1_gapsOfAll 1 = .ok (.istore_n 1, 1) := by decide +kernel
theorem dX1_gapsOfAll_2 : decode cX1_gapsOfAll 2 = .ok (.iconst 0, 1) := by decide +kernel
theorem dX1_gapsOfAll_3 : decode cX1_gapsOfAll 3 = .ok (.istore_n 2, 1) := by decide +kernel
theorem dX1_gapsOfAll_4 : decode cX1_gapsOfAll 4 = .ok (.iload_n 2, 1) := by decide +kernel
theorem dX1_gapsOfAll_5 : decode cX1_gapsOfAll 5 = .ok (.aload_n 0, 1) := by decide +kernel
theorem dX1_gapsOfAll_6 : decode cX1_gapsOfAll 6 = .ok (.getfield 79, 3) := by decide +kernel
theorem dX1_gapsOfAll_9 : decode cX1_gapsOfAll 9 = .ok (.if_icmp .ge 23, 3) := by decide +kernel
theorem dX1_gapsOfAll_12 : decode cX1_gapsOfAll 12 = .ok (.iload_n 1, 1) := by decide +kernel
theorem dX1_gapsOfAll_13 : decode cX1_gapsOfAll 13 = .ok (.aload_n 0, 1) := by decide +kernel
theorem dX1_gapsOfAll_14 : decode cX1_gapsOfAll 14 = .ok (.getfield 15, 3) := by decide +kernel
theorem dX1_gapsOfAll_17 : decode cX1_gapsOfAll 17 = .ok (.aload_n 0, 1) := by decide +kernel
theorem dX1_gapsOfAll_18 : decode cX1_gapsOfAll 18 = .ok (.getfield 18, 3) := by decide +kernel
theorem dX1_gapsOfAll_21 : decode cX1_gapsOfAll 21 = .ok (.iload_n 2, 1) := by decide +kernel
theorem dX1_gapsOfAll_22 : decode cX1_gapsOfAll 22 = .ok (.iaload, 1) := by decide +kernel
theorem dX1_gapsOfAll_23 : decode cX1_gapsOfAll 23 = .ok (.iaload, 1) := by decide +kernel
theorem dX1_gapsOfAll_24 : decode cX1_gapsOfAll 24 = .ok (.iadd, 1) := by decide +kernel
theorem dX1_gapsOfAll_25 : decode cX1_gapsOfAll 25 = .ok (.istore_n 1, 1) := by decide +kernel
theorem dX1_gapsOfAll_26 : decode cX1_gapsOfAll 26 = .ok (.iinc 2 1, 3) := by decide +kernel
theorem dX1_gapsOfAll_29 : decode cX1_gapsOfAll 29 = .ok (.goto (-25), 3) := by decide +kernel
theorem dX1_gapsOfAll_32 : decode cX1_gapsOfAll 32 = .ok (.iload_n 1, 1) := by decide +kernel
theorem dX1_gapsOfAll_33 : decode cX1_gapsOfAll 33 = .ok (.ireturn, 1) := by decide +kernel
theorem dX1_fillRow_0 : decode cX1_fillRow 0 = .ok (.aload_n 0, 1) := by decide +kernel
theorem dX1_fillRow_1 : decode cX1_fillRow 1 = .ok (.iconst 0, 1) := by decide +kernel
theorem dX1_fillRow_2 : decode cX1_fillRow 2 = .ok (.putfield 177, 3) := by decide +kernel
theorem dX1_fillRow_5 : decode cX1_fillRow 5 = .ok (.iconst 0, 1) := by decide +kernel
theorem dX1_fillRow_6 : decode cX1_fillRow 6 = .ok (.istore 4, 2) := by decide +kernel
theorem dX1_fillRow_8 : decode cX1_fillRow 8 = .ok (.iload 4, 2) := by decide +kernel
theorem dX1_fillRow_10 : decode cX1_fillRow 10 = .ok (.aload_n 0, 1) := by decide +kernel
theorem dX1_fillRow_11 : decode cX1_fillRow 11 = .ok (.getfield 43, 3) := by decide +kernel
theorem dX1_fillRow_14 : decode cX1_fillRow 14 = .ok (.getfield 63, 3) := by decide +kernel
theorem dX1_fillRow_17 : decode cX1_fillRow 17 = .ok (.if_icmp .ge 88, 3) := by decide +kernel
theorem dX1_fillRow_20 : decode cX1_fillRow 20 = .ok (.aload_n 0, 1) := by decide +kernel
theorem dX1_fillRow_21 : decode cX1_fillRow 21 = .ok (.getfield 177, 3) := by decide +kernel
theorem dX1_fillRow_24 : decode cX1_fillRow 24 = .ok (.aload_n 0, 1) := by decide +kernel
theorem dX1_fillRow_25 : decode cX1_fillRow 25 = .ok (.getfield 21, 3) := by decide +kernel
theorem dX1_fillRow_28 : decode cX1_fillRow 28 = .ok (.arraylength, 1) := by decide +kernel
theorem dX1_fillRow_29 : decode cX1_fillRow 29 = .ok (.if_icmp .ge 76, 3) := by decide +kernel
theorem dX1_fillRow_32 : decode cX1_fillRow 32 = .ok (.aload_n 0, 1) := by decide +kernel
theorem dX1_fillRow_33 : decode cX1_fillRow 33 = .ok (.getfield 43, 3) := by decide +kernel
theorem dX1_fillRow_36 : decode cX1_fillRow 36 = .ok (.getfield 67, 3) := by decide +kernel
theorem dX1_fillRow_39 : decode cX1_fillRow 39 = .ok (.iload 4, 2) := by decide +kernel
theorem dX1_fillRow_41 : decode cX1_fillRow 41 = .ok (.iaload, 1) := by decide +kernel
theorem dX1_fillRow_42 : decode cX1_fillRow 42 = .ok (.istore 5, 2) := by decide +kernel
theorem dX1_fillRow_44 : decode cX1_fillRow 44 = .ok (.aload_n 0, 1) := by decide +kernel
theorem dX1_fillRow_45 : decode cX1_fillRow 45 = .ok (.getfield 43, 3) := by decide +kernel
theorem dX1_fillRow_48 : decode cX1_fillRow 48 = .ok (.getfield 82, 3) := by decide +kernel
theorem dX1_fillRow_51 : decode cX1_fillRow 51 = .ok (.iload 4, 2) := by decide +kernel
theorem dX1_fillRow_53 : decode cX1_fillRow 53 = .ok (.iaload, 1) := by decide +kernel
theorem dX1_fillRow_54 : decode cX1_fillRow 54 = .ok (.iload_n 2, 1) := by decide +kernel
theorem dX1_fillRow_55 : decode cX1_fillRow 55 = .ok (.if_icmp .ne 44, 3) := by decide +kernel
theorem dX1_fillRow_58 : decode cX1_fillRow 58 = .ok (.iload 5, 2) := by decide +kernel
theorem dX1_fillRow_60 : decode cX1_fillRow 60 = .ok (.iload_n 1, 1) := by decide +kernel
theorem dX1_fillRow_61 : decode cX1_fillRow 61 = .ok (.if_icmp .eq 10, 3) := by decide +kernel
theorem dX1_fillRow_64 : decode cX1_fillRow 64 = .ok (.iload 5, 2) := by decide +kernel
theorem dX1_fillRow_66 : decode cX1_fillRow 66 = .ok (.bipush 11, 2) := by decide +kernel
theorem dX1_fillRow_68 : decode cX1_fillRow 68 = .ok (.if_icmp .ne 31, 3) := by decide +kernel
theorem dX1_fillRow_71 : decode cX1_fillRow 71 = .ok (.aload_n 0, 1) := by decide +kernel
theorem dX1_fillRow_72 : decode cX1_fillRow 72 = .ok (.iload 4, 2) := by decide +kernel
theorem dX1_fillRow_74 : decode cX1_fillRow 74 = .ok (.iload_n 3, 1) := by decide +kernel
theorem dX1_fillRow_75 : decode cX1_fillRow 75 = .ok (.invokevirtual 85, 3) := by decide +kernel
theorem dX1_fillRow_78 : decode cX1_fillRow 78 = .ok (.aload_n 0, 1) := by decide +kernel
theorem dX1_fillRow_79 : decode cX1_fillRow 79 = .ok (.getfield 21, 3) := by decide +kernel
theorem dX1_fillRow_82 : decode cX1_fillRow 82 = .ok (.aload_n 0, 1) := by decide +kernel
theorem dX1_fillRow_83 : decode cX1_fillRow 83 = .ok (.getfield 177, 3) := by decide +kernel
theorem dX1_fillRow_86 : decode cX1_fillRow 86 = .ok (.iload 4, 2) := by decide +kernel
theorem dX1_fillRow_88 : decode cX1_fillRow 88 = .ok (.iastore, 1) := by decide +kernel
theorem dX1_fillRow_89 : decode cX1_fillRow 89 = .ok (.aload_n 0, 1) := by decide +kernel
theorem dX1_fillRow_90 : decode cX1_fillRow 90 = .ok (.dup, 1) := by decide +kernel
theorem dX1_fillRow_91 : decode cX1_fillRow 91 = .ok (.getfield 177, 3) := by decide +kernel
theorem dX1_fillRow_94 : decode cX1_fillRow 94 = .ok (.iconst 1, 1) := by decide +kernel
theorem dX1_fillRow_95 : decode cX1_fillRow 95 = .ok (.iadd, 1) := by decide +kernel
theorem dX1_fillRow_96 : decode cX1_fillRow 96 = .ok (.putfield 177, 3) := by decide +kernel
theorem dX1_fillRow_99 : decode cX1_fillRow 99 = .ok (.iinc 4 1, 3) := by decide +kernel
theorem dX1_fillRow_102 : decode cX1_fillRow 102 = .ok (.goto (-94), 3) := by decide +kernel
theorem dX1_fillRow_105 : decode cX1_fillRow 105 = .ok (.return_, 1) := by decide +kernel
theorem dX1_choose_0 : decode cX1_choose 0 = .ok (.aload_n 0, 1) := by decide +kernel
theorem dX1_choose_1 : decode cX1_choose 1 = .ok (.getfield 79, 3) := by decide +kernel
theorem dX1_choose_4 : decode cX1_choose 4 = .ok (.istore 4, 2) := by decide +kernel
theorem dX1_choose_6 : decode cX1_choose 6 = .ok (.iload_n 2, 1) := by decide +kernel
theorem dX1_choose_7 : decode cX1_choose 7 = .ok (.aload_n 0, 1) := by decide +kernel
theorem dX1_choose_8 : decode cX1_choose 8 = .ok (.getfield 177, 3) := by decide +kernel
theorem dX1_choose_11 : decode cX1_choose 11 = .ok (.invokestatic 180, 3) := by decide +kernel
theorem dX1_choose_14 : decode cX1_choose 14 = .ok (.istore 5, 2) := by decide +kernel
theorem dX1_choose_16 : decode cX1_choose 16 = .ok (.iconst 0, 1) := by decide +kernel
theorem dX1_choose_17 : decode cX1_choose 17 = .ok (.istore 6, 2) := by decide +kernel
theorem dX1_choose_19 : decode cX1_choose 19 = .ok (.iconst 0, 1) := by decide +kernel
theorem dX1_choose_20 : decode cX1_choose 20 = .ok (.istore 7, 2) := by decide +kernel
theorem dX1_choose_22 : decode cX1_choose 22 = .ok (.iconst 1, 1) := by decide +kernel
theorem dX1_choose_23 : decode cX1_choose 23 = .ok (.istore 8, 2) := by decide +kernel
theorem dX1_choose_25 : decode cX1_choose 25 = .ok (.iload 8, 2) := by decide +kernel
theorem dX1_choose_27 : decode cX1_choose 27 = .ok (.iconst 1, 1) := by decide +kernel
theorem dX1_choose_28 : decode cX1_choose 28 = .ok (.aload_n 0, 1) := by decide +kernel
theorem dX1_choose_29 : decode cX1_choose 29 = .ok (.getfield 177, 3) := by decide +kernel
theorem dX1_choose_32 : decode cX1_choose 32 = .ok (.ishl, 1) := by decide +kernel
theorem dX1_choose_33 : decode cX1_choose 33 = .ok (.if_icmp .ge 92, 3) := by decide +kernel
theorem dX1_choose_36 : decode cX1_choose 36 = .ok (.iload 8, 2) := by decide +kernel
theorem dX1_choose_38 : decode cX1_choose 38 = .ok (.invokestatic 182, 3) := by decide +kernel
theorem dX1_choose_41 : decode cX1_choose 41 = .ok (.iload 5, 2) := by decide +kernel
theorem dX1_choose_43 : decode cX1_choose 43 = .ok (.if_icmp .ne 76, 3) := by decide +kernel
theorem dX1_choose_46 : decode cX1_choose 46 = .ok (.aload_n 0, 1) := by decide +kernel
theorem dX1_choose_47 : decode cX1_choose 47 = .ok (.iload 4, 2) := by decide +kernel
theorem dX1_choose_49 : decode cX1_choose 49 = .ok (.putfield 79, 3) := by decide +kernel
theorem dX1_choose_52 : decode cX1_choose 52 = .ok (.aload_n 0, 1) := by decide +kernel
theorem dX1_choose_53 : decode cX1_choose 53 = .ok (.iload 8, 2) := by decide +kernel
theorem dX1_choose_55 : decode cX1_choose 55 = .ok (.invokevirtual 187, 3) := by decide +kernel
theorem dX1_choose_58 : decode cX1_choose 58 = .ok (.aload_n 0, 1) := by decide +kernel
theorem dX1_choose_59 : decode cX1_choose 59 = .ok (.iload_n 1, 1) := by decide +kernel
theorem dX1_choose_60 : decode cX1_choose 60 = .ok (.iload_n 3, 1) := by decide +kernel
theorem dX1_choose_61 : decode cX1_choose 61 = .ok (.invokevirtual 190, 3) := by decide +kernel
theorem dX1_choose_64 : decode cX1_choose 64 = .ok (.istore 9, 2) := by decide +kernel
theorem dX1_choose_66 : decode cX1_choose 66 = .ok (.aload_n 0, 1) := by decide +kernel
theorem dX1_choose_67 : decode cX1_choose 67 = .ok (.iload 8, 2) := by decide +kernel
theorem dX1_choose_69 : decode cX1_choose 69 = .ok (.iload_n 1, 1) := by decide +kernel
theorem dX1_choose_70 : decode cX1_choose 70 = .ok (.invokevirtual 193, 3) := by decide +kernel
theorem dX1_choose_73 : decode cX1_choose 73 = .ok (.istore 10, 2) := by decide +kernel
theorem dX1_choose_75 : decode cX1_choose 75 = .ok (.iload 6, 2) := by decide +kernel
theorem dX1_choose_77 : decode cX1_choose 77 = .ok (.ifCond .eq 28, 3) := by decide +kernel
theorem dX1_choose_80 : decode cX1_choose 80 = .ok (.iload 9, 2) := by decide +kernel
theorem dX1_choose_82 : decode cX1_choose 82 = .ok (.aload_n 0, 1) := by decide +kernel
theorem dX1_choose_83 : decode cX1_choose 83 = .ok (.getfield 196, 3) := by decide +kernel
theorem dX1_choose_86 : decode cX1_choose 86 = .ok (.if_icmp .lt 19, 3) := by decide +kernel
theorem dX1_choose_89 : decode cX1_choose 89 = .ok (.iload 9, 2) := by decide +kernel
theorem dX1_choose_91 : decode cX1_choose 91 = .ok (.aload_n 0, 1) := by decide +kernel
theorem dX1_choose_92 : decode cX1_choose 92 = .ok (.getfield 196, 3) := by decide +kernel
theorem dX1_choose_95 : decode cX1_choose 95 = .ok (.if_icmp .ne 24, 3) := by decide +kernel
theorem dX1_choose_98 : decode cX1_choose 98 = .ok (.iload 10, 2) := by decide +kernel
theorem dX1_choose_100 : decode cX1_choose 100 = .ok (.iload 7, 2) := by decide +kernel
theorem dX1_choose_102 : decode cX1_choose 102 = .ok (.if_icmp .ge 17, 3) := by decide +kernel
theorem dX1_choose_105 : decode cX1_choose 105 = .ok (.iload 8, 2) := by decide +kernel
theorem dX1_choose_107 : decode cX1_choose 107 = .ok (.istore 6, 2) := by decide +kernel
theorem dX1_choose_109 : decode cX1_choose 109 = .ok (.iload 10, 2) := by decide +kernel
theorem dX1_choose_111 : decode cX1_choose 111 = .ok (.istore 7, 2) := by decide +kernel
theorem dX1_choose_113 : decode cX1_choose 113 = .ok (.aload_n 0, 1) := by decide +kernel
theorem dX1_choose_114 : decode cX1_choose 114 = .ok (.iload 9, 2) := by decide +kernel
theorem dX1_choose_116 : decode cX1_choose 116 = .ok (.putfield 196, 3) := by decide +kernel
theorem dX1_choose_119 : decode cX1_choose 119 = .ok (.iinc 8 1, 3) := by decide +kernel
theorem dX1_choose_122 : decode cX1_choose 122 = .ok (.goto (-97), 3) := by decide +kernel
theorem dX1_choose_125 : decode cX1_choose 125 = .ok (.iload 6, 2) := by decide +kernel
theorem dX1_choose_127 : decode cX1_choose 127 = .ok (.ireturn, 1) := by decide +kernel
theorem dX1_judgeOfRow_0 : decode cX1_judgeOfRow 0 = .ok (.iconst 0, 1) := by decide +kernel
theorem dX1_judgeOfRow_1 : decode cX1_judgeOfRow 1 = .ok (.istore_n 2, 1) := by decide +kernel
theorem dX1_judgeOfRow_2 : decode cX1_judgeOfRow 2 = .ok (.iload_n 2, 1) := by decide +kernel
theorem dX1_judgeOfRow_3 : decode cX1_judgeOfRow 3 = .ok (.aload_n 0, 1) := by decide +kernel
theorem dX1_judgeOfRow_4 : decode cX1_judgeOfRow 4 = .ok (.getfield 177, 3) := by decide +kernel
theorem dX1_judgeOfRow_7 : decode cX1_judgeOfRow 7 = .ok (.if_icmp .ge 28, 3) := by decide +kernel
theorem dX1_judgeOfRow_10 : decode cX1_judgeOfRow 10 = .ok (.iload_n 1, 1) := by decide +kernel
theorem dX1_judgeOfRow_11 : decode cX1_judgeOfRow 11 = .ok (.iload_n 2, 1) := by decide +kernel
theorem dX1_judgeOfRow_12 : decode cX1_judgeOfRow 12 = .ok (.ishr, 1) := by decide +kernel
theorem dX1_judgeOfRow_13 : decode cX1_judgeOfRow 13 = .ok (.iconst 1, 1) := by decide +kernel
theorem dX1_judgeOfRow_14 : decode cX1_judgeOfRow 14 = .ok (.iand, 1) := by decide +kernel
theorem dX1_judgeOfRow_15 : decode cX1_judgeOfRow 15 = .ok (.iconst 1, 1) := by decide +kernel
theorem dX1_judgeOfRow_16 : decode cX1_judgeOfRow 16 = .ok (.if_icmp .ne 13, 3) := by decide +kernel
theorem dX1_judgeOfRow_19 : decode cX1_judgeOfRow 19 = .ok (.aload_n 0, 1) := by decide +kernel
theorem dX1_judgeOfRow_20 : decode cX1_judgeOfRow 20 = .ok (.aload_n 0, 1) := by decide +kernel
theorem dX1_judgeOfRow_21 : decode cX1_judgeOfRow 21 = .ok (.getfield 21, 3) := by decide +kernel
theorem dX1_judgeOfRow_24 : decode cX1_judgeOfRow 24 = .ok (.iload_n 2, 1) := by decide +kernel
theorem dX1_judgeOfRow_25 : decode cX1_judgeOfRow 25 = .ok (.iaload, 1) := by decide +kernel
theorem dX1_judgeOfRow_26 : decode cX1_judgeOfRow 26 = .ok (.invokevirtual 89, 3) := by decide +kernel
theorem dX1_judgeOfRow_29 : decode cX1_judgeOfRow 29 = .ok (.iinc 2 1, 3) := by decide +kernel
theorem dX1_judgeOfRow_32 : decode cX1_judgeOfRow 32 = .ok (.goto (-30), 3) := by decide +kernel
theorem dX1_judgeOfRow_35 : decode cX1_judgeOfRow 35 = .ok (.return_, 1) := by decide +kernel
theorem dX1_countNotOn_0 : decode cX1_countNotOn 0 = .ok (.iconst 0, 1) := by decide +kernel
theorem dX1_countNotOn_1 : decode cX1_countNotOn 1 = .ok (.istore_n 3, 1) := by decide +kernel
theorem dX1_countNotOn_2 : decode cX1_countNotOn 2 = .ok (.iconst 0, 1) := by decide +kernel
theorem dX1_countNotOn_3 : decode cX1_countNotOn 3 = .ok (.istore 4, 2) := by decide +kernel
theorem dX1_countNotOn_5 : decode cX1_countNotOn 5 = .ok (.iload 4, 2) := by decide +kernel
theorem dX1_countNotOn_7 : decode cX1_countNotOn 7 = .ok (.aload_n 0, 1) := by decide +kernel
theorem dX1_countNotOn_8 : decode cX1_countNotOn 8 = .ok (.getfield 177, 3) := by decide +kernel
theorem dX1_countNotOn_11 : decode cX1_countNotOn 11 = .ok (.if_icmp .ge 46, 3) := by decide +kernel
theorem dX1_countNotOn_14 : decode cX1_countNotOn 14 = .ok (.iload_n 3, 1) := by decide +kernel
theorem dX1_countNotOn_15 : decode cX1_countNotOn 15 = .ok (.iload_n 1, 1) := by decide +kernel
theorem dX1_countNotOn_16 : decode cX1_countNotOn 16 = .ok (.iload 4, 2) := by decide +kernel
theorem dX1_countNotOn_18 : decode cX1_countNotOn 18 = .ok (.ishr, 1) := by decide +kernel
theorem dX1_countNotOn_19 : decode cX1_countNotOn 19 = .ok (.iconst 1, 1) := by decide +kernel
theorem dX1_countNotOn_20 : decode cX1_countNotOn 20 = .ok (.iand, 1) := by decide +kernel
theorem dX1_countNotOn_21 : decode cX1_countNotOn 21 = .ok (.iconst 1, 1) := by decide +kernel
theorem dX1_countNotOn_22 : decode cX1_countNotOn 22 = .ok (.if_icmp .ne 26, 3) := by decide +kernel
theorem dX1_countNotOn_25 : decode cX1_countNotOn 25 = .ok (.aload_n 0, 1) := by decide +kernel
theorem dX1_countNotOn_26 : decode cX1_countNotOn 26 = .ok (.getfield 43, 3) := by decide +kernel
theorem dX1_countNotOn_29 : decode cX1_countNotOn 29 = .ok (.getfield 67, 3) := by decide +kernel
theorem dX1_countNotOn_32 : decode cX1_countNotOn 32 = .ok (.aload_n 0, 1) := by decide +kernel
theorem dX1_countNotOn_33 : decode cX1_countNotOn 33 = .ok (.getfield 21, 3) := by decide +kernel
theorem dX1_countNotOn_36 : decode cX1_countNotOn 36 = .ok (.iload 4, 2) := by decide +kernel
theorem dX1_countNotOn_38 : decode cX1_countNotOn 38 = .ok (.iaload, 1) := by decide +kernel
theorem dX1_countNotOn_39 : decode cX1_countNotOn 39 = .ok (.iaload, 1) := by decide +kernel
theorem dX1_countNotOn_40 : decode cX1_countNotOn 40 = .ok (.iload_n 2, 1) := by decide +kernel
theorem dX1_countNotOn_41 : decode cX1_countNotOn 41 = .ok (.if_icmp .eq 7, 3) := by decide +kernel
theorem dX1_countNotOn_44 : decode cX1_countNotOn 44 = .ok (.iconst 1, 1) := by decide +kernel
theorem dX1_countNotOn_45 : decode cX1_countNotOn 45 = .ok (.goto 4, 3) := by decide +kernel
theorem dX1_countNotOn_48 : decode cX1_countNotOn 48 = .ok (.iconst 0, 1) := by decide +kernel
theorem dX1_countNotOn_49 : decode cX1_countNotOn 49 = .ok (.iadd, 1) := by decide +kernel
theorem dX1_countNotOn_50 : decode cX1_countNotOn 50 = .ok (.istore_n 3, 1) := by decide +kernel
theorem dX1_countNotOn_51 : decode cX1_countNotOn 51 = .ok (.iinc 4 1, 3) := by decide +kernel
theorem dX1_countNotOn_54 : decode cX1_countNotOn 54 = .ok (.goto (-49), 3) := by decide +kernel
theorem dX1_countNotOn_57 : decode cX1_countNotOn 57 = .ok (.iload_n 3, 1) := by decide +kernel
theorem dX1_countNotOn_58 : decode cX1_countNotOn 58 = .ok (.ireturn, 1) := by decide +kernel
theorem dX2_init_0 : decode cX2_init 0 = .ok (.aload_n 0, 1) := by decide +kernel
theorem dX2_init_1 : decode cX2_init 1 = .ok (.invokespecial 3, 3) := by decide +kernel
theorem dX2_init_4 : decode cX2_init 4 = .ok (.aload_n 0, 1) := by decide +kernel
theorem dX2_init_5 : decode cX2_init 5 = .ok (.bipush 30, 2) := by decide +kernel
theorem dX2_init_7 : decode cX2_init 7 = .ok (.newarray .int, 2) := by decide +kernel
theorem dX2_init_9 : decode cX2_init 9 = .ok (.putfield 9, 3) := by decide +kernel
theorem dX2_init_12 : decode cX2_init 12 = .ok (.aload_n 0, 1) := by decide +kernel
theorem dX2_init_13 : decode cX2_init 13 = .ok (.bipush 10, 2) := by decide +kernel
theorem dX2_init_15 : decode cX2_init 15 = .ok (.newarray .int, 2) := by decide +kernel
theorem dX2_init_17 : decode cX2_init 17 = .ok (.putfield 15, 3) := by decide +kernel
theorem dX2_init_20 : decode cX2_init 20 = .ok (.aload_n 0, 1) := by decide +kernel
theorem dX2_init_21 : decode cX2_init 21 = .ok (.bipush 10, 2) := by decide +kernel
theorem dX2_init_23 : decode cX2_init 23 = .ok (.newarray .int, 2) := by decide +kernel
theorem dX2_init_25 : decode cX2_init 25 = .ok (.putfield 18, 3) := by decide +kernel
theorem dX2_init_28 : decode cX2_init 28 = .ok (.return_, 1) := by decide +kernel
theorem dX2_has_0 : decode cX2_has 0 = .ok (.iload_n 1, 1) := by decide +kernel
theorem dX2_has_1 : decode cX2_has 1 = .ok (.ifCond .lt 15, 3) := by decide +kernel
theorem dX2_has_4 : decode cX2_has 4 = .ok (.iload_n 1, 1) := by decide +kernel
theorem dX2_has_5 : decode cX2_has 5 = .ok (.aload_n 0, 1) := by decide +kernel
theorem dX2_has_6 : decode cX2_has 6 = .ok (.getfield 21, 3) := by decide +kernel
theorem dX2_has_9 : decode cX2_has 9 = .ok (.if_icmp .ge 7, 3) := by decide +kernel
theorem dX2_has_12 : decode cX2_has 12 = .ok (.iconst 1, 1) := by decide +kernel
theorem dX2_has_13 : decode cX2_has 13 = .ok (.goto 4, 3) := by decide +kernel
theorem dX2_has_16 : decode cX2_has 16 = .ok (.iconst 0, 1) := by decide +kernel
theorem dX2_has_17 : decode cX2_has 17 = .ok (.ireturn, 1) := by decide +kernel
theorem dX2_add_0 : decode cX2_add 0 = .ok (.aload_n 0, 1) := by decide +kernel
theorem dX2_add_1 : decode cX2_add 1 = .ok (.getfield 21, 3) := by decide +kernel
theorem dX2_add_4 : decode cX2_add 4 = .ok (.bipush 10, 2) := by decide +kernel
theorem dX2_add_6 : decode cX2_add 6 = .ok (.if_icmp .lt 6, 3) := by decide +kernel
theorem dX2_add_9 : decode cX2_add 9 = .ok (.bipush (-3), 2) := by decide +kernel
theorem dX2_add_11 : decode cX2_add 11 = .ok (.ireturn, 1) := by decide +kernel
theorem dX2_add_12 : decode cX2_add 12 = .ok (.aload_n 0, 1) := by decide +kernel
theorem dX2_add_13 : decode cX2_add 13 = .ok (.getfield 9, 3) := by decide +kernel
theorem dX2_add_16 : decode cX2_add 16 = .ok (.aload_n 0, 1) := by decide +kernel
theorem dX2_add_17 : decode cX2_add 17 = .ok (.getfield 21, 3) := by decide +kernel
theorem dX2_add_20 : decode cX2_add 20 = .ok (.iconst 3, 1) := by decide +kernel
theorem dX2_add_21 : decode cX2_add 21 = .ok (.imul, 1) := by decide +kernel
theorem dX2_add_22 : decode cX2_add 22 = .ok (.iconst 0, 1) := by decide +kernel
theorem dX2_add_23 : decode cX2_add 23 = .ok (.iadd, 1) := by decide +kernel
theorem dX2_add_24 : decode cX2_add 24 = .ok (.iload_n 1, 1) := by decide +kernel
theorem dX2_add_25 : decode cX2_add 25 = .ok (.iastore, 1) := by decide +kernel
theorem dX2_add_26 : decode cX2_add 26 = .ok (.aload_n 0, 1) := by decide +kernel
theorem dX2_add_27 : decode cX2_add 27 = .ok (.getfield 9, 3) := by decide +kernel
theorem dX2_add_30 : decode cX2_add 30 = .ok (.aload_n 0, 1) := by decide +kernel
theorem dX2_add_31 : decode cX2_add 31 = .ok (.getfield 21, 3) := by decide +kernel
theorem dX2_add_34 : decode cX2_add 34 = .ok (.iconst 3, 1) := by decide +kernel
theorem dX2_add_35 : decode cX2_add 35 = .ok (.imul, 1) := by decide +kernel
theorem dX2_add_36 : decode cX2_add 36 = .ok (.iconst 1, 1) := by decide +kernel
theorem dX2_add_37 : decode cX2_add 37 = .ok (.iadd, 1) := by decide +kernel
theorem dX2_add_38 : decode cX2_add 38 = .ok (.iload_n 2, 1) := by decide +kernel
theorem dX2_add_39 : decode cX2_add 39 = .ok (.iastore, 1) := by decide +kernel
theorem dX2_add_40 : decode cX2_add 40 = .ok (.aload_n 0, 1) := by decide +kernel
theorem dX2_add_41 : decode cX2_add 41 = .ok (.getfield 9, 3) := by decide +kernel
theorem dX2_add_44 : decode cX2_add 44 = .ok (.aload_n 0, 1) := by decide +kernel
theorem dX2_add_45 : decode cX2_add 45 = .ok (.getfield 21, 3) := by decide +kernel
theorem dX2_add_48 : decode cX2_add 48 = .ok (.iconst 3, 1) := by decide +kernel
theorem dX2_add_49 : decode cX2_add 49 = .ok (.imul, 1) := by decide +kernel
theorem dX2_add_50 : decode cX2_add 50 = .ok (.iconst 2, 1) := by decide +kernel
theorem dX2_add_51 : decode cX2_add 51 = .ok (.iadd, 1) := by decide +kernel
theorem dX2_add_52 : decode cX2_add 52 = .ok (.iload_n 3, 1) := by decide +kernel
theorem dX2_add_53 : decode cX2_add 53 = .ok (.iastore, 1) := by decide +kernel
theorem dX2_add_54 : decode cX2_add 54 = .ok (.aload_n 0, 1) := by decide +kernel
theorem dX2_add_55 : decode cX2_add 55 = .ok (.getfield 15, 3) := by decide +kernel
theorem dX2_add_58 : decode cX2_add 58 = .ok (.aload_n 0, 1) := by decide +kernel
theorem dX2_add_59 : decode cX2_add 59 = .ok (.getfield 21, 3) := by decide +kernel
theorem dX2_add_62 : decode cX2_add 62 = .ok (.iload 4, 2) := by decide +kernel
theorem dX2_add_64 : decode cX2_add 64 = .ok (.sipush 1000, 3) := by decide +kernel
theorem dX2_add_67 : decode cX2_add 67 = .ok (.idiv, 1) := by decide +kernel
theorem dX2_add_68 : decode cX2_add 68 = .ok (.iastore, 1) := by decide +kernel
theorem dX2_add_69 : decode cX2_add 69 = .ok (.aload_n 0, 1) := by decide +kernel
theorem dX2_add_70 : decode cX2_add 70 = .ok (.getfield 18, 3) := by decide +kernel
theorem dX2_add_73 : decode cX2_add 73 = .ok (.aload_n 0, 1) := by decide +kernel
theorem dX2_add_74 : decode cX2_add 74 = .ok (.getfield 21, 3) := by decide +kernel
theorem dX2_add_77 : decode cX2_add 77 = .ok (.iload 4, 2) := by decide +kernel
theorem dX2_add_79 : decode cX2_add 79 = .ok (.sipush 1000, 3) := by decide +kernel
theorem dX2_add_82 : decode cX2_add 82 = .ok (.irem, 1) := by decide +kernel
theorem dX2_add_83 : decode cX2_add 83 = .ok (.iastore, 1) := by decide +kernel
theorem dX2_add_84 : decode cX2_add 84 = .ok (.aload_n 0, 1) := by decide +kernel
theorem dX2_add_85 : decode cX2_add 85 = .ok (.dup, 1) := by decide +kernel
theorem dX2_add_86 : decode cX2_add 86 = .ok (.getfield 21, 3) := by decide +kernel
theorem dX2_add_89 : decode cX2_add 89 = .ok (.dup_x1, 1) := by decide +kernel
theorem dX2_add_90 : decode cX2_add 90 = .ok (.iconst 1, 1) := by decide +kernel
theorem dX2_add_91 : decode cX2_add 91 = .ok (.iadd, 1) := by decide +kernel
theorem dX2_add_92 : decode cX2_add 92 = .ok (.putfield 21, 3) := by decide +kernel
theorem dX2_add_95 : decode cX2_add 95 = .ok (.ireturn, 1) := by decide +kernel
theorem dX2_limitOf_0 : decode cX2_limitOf 0 = .ok (.aload_n 0, 1) := by decide +kernel
theorem dX2_limitOf_1 : decode cX2_limitOf 1 = .ok (.getfield 9, 3) := by decide +kernel
theorem dX2_limitOf_4 : decode cX2_limitOf 4 = .ok (.iload_n 1, 1) := by decide +kernel
theorem dX2_limitOf_5 : decode cX2_limitOf 5 = .ok (.iconst 3, 1) := by decide +kernel
theorem dX2_limitOf_6 : decode cX2_limitOf 6 = .ok (.imul, 1) := by decide +kernel
theorem dX2_limitOf_7 : decode cX2_limitOf 7 = .ok (.iload_n 2, 1) := by decide +kernel
theorem dX2_limitOf_8 : decode cX2_limitOf 8 = .ok (.iadd, 1) := by decide +kernel
theorem dX2_limitOf_9 : decode cX2_limitOf 9 = .ok (.iaload, 1) := by decide +kernel
theorem dX2_limitOf_10 : decode cX2_limitOf 10 = .ok (.ireturn, 1) := by decide +kernel
theorem dX3_init_0 : decode cX3_init 0 = .ok (.aload_n 0, 1) := by decide +kernel
theorem dX3_init_1 : decode cX3_init 1 = .ok (.invokespecial 3, 3) := by decide +kernel
theorem dX3_init_4 : decode cX3_init 4 = .ok (.aload_n 0, 1) := by decide +kernel
theorem dX3_init_5 : decode cX3_init 5 = .ok (.aload_n 1, 1) := by decide +kernel
theorem dX3_init_6 : decode cX3_init 6 = .ok (.putfield 9, 3) := by decide +kernel
theorem dX3_init_9 : decode cX3_init 9 = .ok (.aload_n 0, 1) := by decide +kernel
theorem dX3_init_10 : decode cX3_init 10 = .ok (.iconst 0, 1) := by decide +kernel
theorem dX3_init_11 : decode cX3_init 11 = .ok (.newarray .int, 2) := by decide +kernel
theorem dX3_init_13 : decode cX3_init 13 = .ok (.putfield 15, 3) := by decide +kernel
theorem dX3_init_16 : decode cX3_init 16 = .ok (.return_, 1) := by decide +kernel
theorem dX3_read_0 : decode cX3_read 0 = .ok (.aload_n 0, 1) := by decide +kernel
theorem dX3_read_1 : decode cX3_read 1 = .ok (.aload_n 1, 1) := by decide +kernel
theorem dX3_read_2 : decode cX3_read 2 = .ok (.putfield 15, 3) := by decide +kernel
theorem dX3_read_5 : decode cX3_read 5 = .ok (.aload_n 0, 1) := by decide +kernel
theorem dX3_read_6 : decode cX3_read 6 = .ok (.iconst 0, 1) := by decide +kernel
theorem dX3_read_7 : decode cX3_read 7 = .ok (.putfield 19, 3) := by decide +kernel
theorem dX3_read_10 : decode cX3_read 10 = .ok (.aload_n 0, 1) := by decide +kernel
theorem dX3_read_11 : decode cX3_read 11 = .ok (.iconst 0, 1) := by decide +kernel
theorem dX3_read_12 : decode cX3_read 12 = .ok (.putfield 23, 3) := by decide +kernel
theorem dX3_read_15 : decode cX3_read 15 = .ok (.aload_n 0, 1) := by decide +kernel
theorem dX3_read_16 : decode cX3_read 16 = .ok (.iconst (-1), 1) := by decide +kernel
theorem dX3_read_17 : decode cX3_read 17 = .ok (.putfield 26, 3) := by decide +kernel
theorem dX3_read_20 : decode cX3_read 20 = .ok (.aload_n 0, 1) := by decide +kernel
theorem dX3_read_21 : decode cX3_read 21 = .ok (.iconst 0, 1) := by decide +kernel
theorem dX3_read_22 : decode cX3_read 22 = .ok (.invokevirtual 29, 3) := by decide +kernel
theorem dX3_read_25 : decode cX3_read 25 = .ok (.aload_n 0, 1) := by decide +kernel
theorem dX3_read_26 : decode cX3_read 26 = .ok (.getfield 23, 3) := by decide +kernel
theorem dX3_read_29 : decode cX3_read 29 = .ok (.aload_n 0, 1) := by decide +kernel
theorem dX3_read_30 : decode cX3_read 30 = .ok (.getfield 9, 3) := by decide +kernel
theorem dX3_read_33 : decode cX3_read 33 = .ok (.getfield 33, 3) := by decide +kernel
theorem dX3_read_36 : decode cX3_read 36 = .ok (.if_icmp .ge 7, 3) := by decide +kernel
theorem dX3_read_39 : decode cX3_read 39 = .ok (.aload_n 0, 1) := by decide +kernel
theorem dX3_read_40 : decode cX3_read 40 = .ok (.invokevirtual 36, 3) := by decide +kernel
theorem dX3_read_43 : decode cX3_read 43 = .ok (.aload_n 0, 1) := by decide +kernel
theorem dX3_read_44 : decode cX3_read 44 = .ok (.getfield 26, 3) := by decide +kernel
theorem dX3_read_47 : decode cX3_read 47 = .ok (.ireturn, 1) := by decide +kernel
theorem dX3_next_0 : decode cX3_next 0 = .ok (.aload_n 0, 1) := by decide +kernel
theorem dX3_next_1 : decode cX3_next 1 = .ok (.getfield 26, 3) := by decide +kernel
theorem dX3_next_4 : decode cX3_next 4 = .ok (.iconst (-1), 1) := by decide +kernel
theorem dX3_next_5 : decode cX3_next 5 = .ok (.if_icmp .ne 17, 3) := by decide +kernel
theorem dX3_next_8 : decode cX3_next 8 = .ok (.aload_n 0, 1) := by decide +kernel
theorem dX3_next_9 : decode cX3_next 9 = .ok (.getfield 9, 3) := by decide +kernel
theorem dX3_next_12 : decode cX3_next 12 = .ok (.aload_n 0, 1) := by decide +kernel
theorem dX3_next_13 : decode cX3_next 13 = .ok (.getfield 23, 3) := by decide +kernel
theorem dX3_next_16 : decode cX3_next 16 = .ok (.invokevirtual 39, 3) := by decide +kernel
theorem dX3_next_19 : decode cX3_next 19 = .ok (.goto 4, 3) := by decide +kernel
theorem dX3_next_22 : decode cX3_next 22 = .ok (.iconst (-1), 1) := by decide +kernel
theorem dX3_next_23 : decode cX3_next 23 = .ok (.ireturn, 1) := by decide +kernel
theorem dX3_fail_0 : decode cX3_fail 0 = .ok (.aload_n 0, 1) := by decide +kernel
theorem dX3_fail_1 : decode cX3_fail 1 = .ok (.getfield 26, 3) := by decide +kernel
theorem dX3_fail_4 : decode cX3_fail 4 = .ok (.iconst (-1), 1) := by decide +kernel
theorem dX3_fail_5 : decode cX3_fail 5 = .ok (.if_icmp .ne 11, 3) := by decide +kernel
theorem dX3_fail_8 : decode cX3_fail 8 = .ok (.aload_n 0, 1) := by decide +kernel
theorem dX3_fail_9 : decode cX3_fail 9 = .ok (.aload_n 0, 1) := by decide +kernel
