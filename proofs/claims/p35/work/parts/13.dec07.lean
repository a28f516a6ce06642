theorem dX10_hasDigitAt_24 : decode cX10_hasDigitAt 24 = .ok (.iconst 0, 1) := by decide +kernel
theorem dX10_hasDigitAt_25 : decode cX10_hasDigitAt 25 = .ok (.ireturn, 1) := by decide +kernel
theorem dX10_digitsAt_0 : decode cX10_digitsAt 0 = .ok (.iconst 0, 1) := by decide +kernel
theorem dX10_digitsAt_1 : decode cX10_digitsAt 1 = .ok (.istore_n 2, 1) := by decide +kernel
theorem dX10_digitsAt_2 : decode cX10_digitsAt 2 = .ok (.iload_n 2, 1) := by decide +kernel
theorem dX10_digitsAt_3 : decode cX10_digitsAt 3 = .ok (.iconst 5, 1) := by decide +kernel
theorem dX10_digitsAt_4 : decode cX10_digitsAt 4 = .ok (.if_icmp .ge 19, 3) := by decide +kernel
theorem dX10_digitsAt_7 : decode cX10_digitsAt 7 = .ok (.aload_n 0, 1) := by decide +kernel
theorem dX10_digitsAt_8 : decode cX10_digitsAt 8 = .ok (.iload_n 1, 1) := by decide +kernel
theorem dX10_digitsAt_9 : decode cX10_digitsAt 9 = .ok (.iload_n 2, 1) := by decide +kernel
theorem dX10_digitsAt_10 : decode cX10_digitsAt 10 = .ok (.iadd, 1) := by decide +kernel
theorem dX10_digitsAt_11 : decode cX10_digitsAt 11 = .ok (.invokevirtual 23, 3) := by decide +kernel
theorem dX10_digitsAt_14 : decode cX10_digitsAt 14 = .ok (.ifCond .eq 9, 3) := by decide +kernel
theorem dX10_digitsAt_17 : decode cX10_digitsAt 17 = .ok (.iinc 2 1, 3) := by decide +kernel
theorem dX10_digitsAt_20 : decode cX10_digitsAt 20 = .ok (.goto (-18), 3) := by decide +kernel
theorem dX10_digitsAt_23 : decode cX10_digitsAt 23 = .ok (.iload_n 2, 1) := by decide +kernel
theorem dX10_digitsAt_24 : decode cX10_digitsAt 24 = .ok (.ireturn, 1) := by decide +kernel
theorem dX10_numberAt_0 : decode cX10_numberAt 0 = .ok (.iconst 0, 1) := by decide +kernel
theorem dX10_numberAt_1 : decode cX10_numberAt 1 = .ok (.istore_n 3, 1) := by decide +kernel
theorem dX10_numberAt_2 : decode cX10_numberAt 2 = .ok (.iconst 0, 1) := by decide +kernel
theorem dX10_numberAt_3 : decode cX10_numberAt 3 = .ok (.istore 4, 2) := by decide +kernel
theorem dX10_numberAt_5 : decode cX10_numberAt 5 = .ok (.iload 4, 2) := by decide +kernel
theorem dX10_numberAt_7 : decode cX10_numberAt 7 = .ok (.iload_n 2, 1) := by decide +kernel
theorem dX10_numberAt_8 : decode cX10_numberAt 8 = .ok (.if_icmp .ge 26, 3) := by decide +kernel
theorem dX10_numberAt_11 : decode cX10_numberAt 11 = .ok (.iload_n 3, 1) := by decide +kernel
theorem dX10_numberAt_12 : decode cX10_numberAt 12 = .ok (.bipush 10, 2) := by decide +kernel
theorem dX10_numberAt_14 : decode cX10_numberAt 14 = .ok (.imul, 1) := by decide +kernel
theorem dX10_numberAt_15 : decode cX10_numberAt 15 = .ok (.aload_n 0, 1) := by decide +kernel
theorem dX10_numberAt_16 : decode cX10_numberAt 16 = .ok (.iload_n 1, 1) := by decide +kernel
theorem dX10_numberAt_17 : decode cX10_numberAt 17 = .ok (.iload 4, 2) := by decide +kernel
theorem dX10_numberAt_19 : decode cX10_numberAt 19 = .ok (.iadd, 1) := by decide +kernel
theorem dX10_numberAt_20 : decode cX10_numberAt 20 = .ok (.invokevirtual 19, 3) := by decide +kernel
theorem dX10_numberAt_23 : decode cX10_numberAt 23 = .ok (.iadd, 1) := by decide +kernel
theorem dX10_numberAt_24 : decode cX10_numberAt 24 = .ok (.bipush 48, 2) := by decide +kernel
theorem dX10_numberAt_26 : decode cX10_numberAt 26 = .ok (.isub, 1) := by decide +kernel
theorem dX10_numberAt_27 : decode cX10_numberAt 27 = .ok (.istore_n 3, 1) := by decide +kernel
theorem dX10_numberAt_28 : decode cX10_numberAt 28 = .ok (.iinc 4 1, 3) := by decide +kernel
theorem dX10_numberAt_31 : decode cX10_numberAt 31 = .ok (.goto (-26), 3) := by decide +kernel
theorem dX10_numberAt_34 : decode cX10_numberAt 34 = .ok (.iload_n 3, 1) := by decide +kernel
theorem dX10_numberAt_35 : decode cX10_numberAt 35 = .ok (.ireturn, 1) := by decide +kernel
theorem dX11_init_0 : decode cX11_init 0 = .ok (.aload_n 0, 1) := by decide +kernel
theorem dX11_init_1 : decode cX11_init 1 = .ok (.invokespecial 1, 3) := by decide +kernel
theorem dX11_init_4 : decode cX11_init 4 = .ok (.aload_n 0, 1) := by decide +kernel
theorem dX11_init_5 : decode cX11_init 5 = .ok (.new 7, 3) := by decide +kernel
theorem dX11_init_8 : decode cX11_init 8 = .ok (.dup, 1) := by decide +kernel
theorem dX11_init_9 : decode cX11_init 9 = .ok (.invokespecial 9, 3) := by decide +kernel
theorem dX11_init_12 : decode cX11_init 12 = .ok (.putfield 10, 3) := by decide +kernel
theorem dX11_init_15 : decode cX11_init 15 = .ok (.aload_n 0, 1) := by decide +kernel
theorem dX11_init_16 : decode cX11_init 16 = .ok (.new 16, 3) := by decide +kernel
theorem dX11_init_19 : decode cX11_init 19 = .ok (.dup, 1) := by decide +kernel
theorem dX11_init_20 : decode cX11_init 20 = .ok (.invokespecial 18, 3) := by decide +kernel
theorem dX11_init_23 : decode cX11_init 23 = .ok (.putfield 19, 3) := by decide +kernel
theorem dX11_init_26 : decode cX11_init 26 = .ok (.aload_n 0, 1) := by decide +kernel
theorem dX11_init_27 : decode cX11_init 27 = .ok (.new 23, 3) := by decide +kernel
theorem dX11_init_30 : decode cX11_init 30 = .ok (.dup, 1) := by decide +kernel
theorem dX11_init_31 : decode cX11_init 31 = .ok (.invokespecial 25, 3) := by decide +kernel
theorem dX11_init_34 : decode cX11_init 34 = .ok (.putfield 26, 3) := by decide +kernel
theorem dX11_init_37 : decode cX11_init 37 = .ok (.aload_n 0, 1) := by decide +kernel
theorem dX11_init_38 : decode cX11_init 38 = .ok (.new 30, 3) := by decide +kernel
theorem dX11_init_41 : decode cX11_init 41 = .ok (.dup, 1) := by decide +kernel
theorem dX11_init_42 : decode cX11_init 42 = .ok (.aload_n 0, 1) := by decide +kernel
theorem dX11_init_43 : decode cX11_init 43 = .ok (.getfield 26, 3) := by decide +kernel
theorem dX11_init_46 : decode cX11_init 46 = .ok (.invokespecial 32, 3) := by decide +kernel
theorem dX11_init_49 : decode cX11_init 49 = .ok (.putfield 35, 3) := by decide +kernel
theorem dX11_init_52 : decode cX11_init 52 = .ok (.aload_n 0, 1) := by decide +kernel
theorem dX11_init_53 : decode cX11_init 53 = .ok (.new 39, 3) := by decide +kernel
theorem dX11_init_56 : decode cX11_init 56 = .ok (.dup, 1) := by decide +kernel
theorem dX11_init_57 : decode cX11_init 57 = .ok (.invokespecial 41, 3) := by decide +kernel
theorem dX11_init_60 : decode cX11_init 60 = .ok (.putfield 42, 3) := by decide +kernel
theorem dX11_init_63 : decode cX11_init 63 = .ok (.aload_n 0, 1) := by decide +kernel
theorem dX11_init_64 : decode cX11_init 64 = .ok (.new 46, 3) := by decide +kernel
theorem dX11_init_67 : decode cX11_init 67 = .ok (.dup, 1) := by decide +kernel
theorem dX11_init_68 : decode cX11_init 68 = .ok (.invokespecial 48, 3) := by decide +kernel
theorem dX11_init_71 : decode cX11_init 71 = .ok (.putfield 49, 3) := by decide +kernel
theorem dX11_init_74 : decode cX11_init 74 = .ok (.aload_n 0, 1) := by decide +kernel
theorem dX11_init_75 : decode cX11_init 75 = .ok (.new 53, 3) := by decide +kernel
theorem dX11_init_78 : decode cX11_init 78 = .ok (.dup, 1) := by decide +kernel
theorem dX11_init_79 : decode cX11_init 79 = .ok (.aload_n 0, 1) := by decide +kernel
theorem dX11_init_80 : decode cX11_init 80 = .ok (.getfield 42, 3) := by decide +kernel
theorem dX11_init_83 : decode cX11_init 83 = .ok (.invokespecial 55, 3) := by decide +kernel
theorem dX11_init_86 : decode cX11_init 86 = .ok (.putfield 58, 3) := by decide +kernel
theorem dX11_init_89 : decode cX11_init 89 = .ok (.aload_n 0, 1) := by decide +kernel
theorem dX11_init_90 : decode cX11_init 90 = .ok (.new 62, 3) := by decide +kernel
theorem dX11_init_93 : decode cX11_init 93 = .ok (.dup, 1) := by decide +kernel
theorem dX11_init_94 : decode cX11_init 94 = .ok (.aload_n 0, 1) := by decide +kernel
theorem dX11_init_95 : decode cX11_init 95 = .ok (.getfield 19, 3) := by decide +kernel
theorem dX11_init_98 : decode cX11_init 98 = .ok (.invokespecial 64, 3) := by decide +kernel
theorem dX11_init_101 : decode cX11_init 101 = .ok (.putfield 67, 3) := by decide +kernel
theorem dX11_init_104 : decode cX11_init 104 = .ok (.aload_n 0, 1) := by decide +kernel
theorem dX11_init_105 : decode cX11_init 105 = .ok (.new 71, 3) := by decide +kernel
theorem dX11_init_108 : decode cX11_init 108 = .ok (.dup, 1) := by decide +kernel
theorem dX11_init_109 : decode cX11_init 109 = .ok (.aload_n 0, 1) := by decide +kernel
theorem dX11_init_110 : decode cX11_init 110 = .ok (.getfield 42, 3) := by decide +kernel
theorem dX11_init_113 : decode cX11_init 113 = .ok (.invokespecial 73, 3) := by decide +kernel
theorem dX11_init_116 : decode cX11_init 116 = .ok (.putfield 74, 3) := by decide +kernel
theorem dX11_init_119 : decode cX11_init 119 = .ok (.aload_n 0, 1) := by decide +kernel
theorem dX11_init_120 : decode cX11_init 120 = .ok (.new 78, 3) := by decide +kernel
theorem dX11_init_123 : decode cX11_init 123 = .ok (.dup, 1) := by decide +kernel
theorem dX11_init_124 : decode cX11_init 124 = .ok (.aload_n 0, 1) := by decide +kernel
theorem dX11_init_125 : decode cX11_init 125 = .ok (.getfield 10, 3) := by decide +kernel
theorem dX11_init_128 : decode cX11_init 128 = .ok (.aload_n 0, 1) := by decide +kernel
theorem dX11_init_129 : decode cX11_init 129 = .ok (.getfield 35, 3) := by decide +kernel
theorem dX11_init_132 : decode cX11_init 132 = .ok (.aload_n 0, 1) := by decide +kernel
theorem dX11_init_133 : decode cX11_init 133 = .ok (.getfield 49, 3) := by decide +kernel
theorem dX11_init_136 : decode cX11_init 136 = .ok (.invokespecial 80, 3) := by decide +kernel
theorem dX11_init_139 : decode cX11_init 139 = .ok (.putfield 83, 3) := by decide +kernel
theorem dX11_init_142 : decode cX11_init 142 = .ok (.aload_n 0, 1) := by decide +kernel
theorem dX11_init_143 : decode cX11_init 143 = .ok (.new 87, 3) := by decide +kernel
theorem dX11_init_146 : decode cX11_init 146 = .ok (.dup, 1) := by decide +kernel
theorem dX11_init_147 : decode cX11_init 147 = .ok (.aload_n 0, 1) := by decide +kernel
theorem dX11_init_148 : decode cX11_init 148 = .ok (.getfield 19, 3) := by decide +kernel
theorem dX11_init_151 : decode cX11_init 151 = .ok (.aload_n 0, 1) := by decide +kernel
theorem dX11_init_152 : decode cX11_init 152 = .ok (.getfield 83, 3) := by decide +kernel
theorem dX11_init_155 : decode cX11_init 155 = .ok (.aload_n 0, 1) := by decide +kernel
theorem dX11_init_156 : decode cX11_init 156 = .ok (.getfield 67, 3) := by decide +kernel
theorem dX11_init_159 : decode cX11_init 159 = .ok (.aload_n 0, 1) := by decide +kernel
theorem dX11_init_160 : decode cX11_init 160 = .ok (.getfield 74, 3) := by decide +kernel
theorem dX11_init_163 : decode cX11_init 163 = .ok (.invokespecial 89, 3) := by decide +kernel
theorem dX11_init_166 : decode cX11_init 166 = .ok (.putfield 92, 3) := by decide +kernel
theorem dX11_init_169 : decode cX11_init 169 = .ok (.aload_n 0, 1) := by decide +kernel
theorem dX11_init_170 : decode cX11_init 170 = .ok (.ldc 96, 2) := by decide +kernel
theorem dX11_init_172 : decode cX11_init 172 = .ok (.putfield 97, 3) := by decide +kernel
theorem dX11_init_175 : decode cX11_init 175 = .ok (.return_, 1) := by decide +kernel
theorem dX11_kind_0 : decode cX11_kind 0 = .ok (.iload_n 1, 1) := by decide +kernel
theorem dX11_kind_1 : decode cX11_kind 1 = .ok (.invokestatic 101, 3) := by decide +kernel
theorem dX11_kind_4 : decode cX11_kind 4 = .ok (.ifCond .eq 28, 3) := by decide +kernel
theorem dX11_kind_7 : decode cX11_kind 7 = .ok (.iload_n 2, 1) := by decide +kernel
theorem dX11_kind_8 : decode cX11_kind 8 = .ok (.invokestatic 101, 3) := by decide +kernel
theorem dX11_kind_11 : decode cX11_kind 11 = .ok (.ifCond .eq 21, 3) := by decide +kernel
theorem dX11_kind_14 : decode cX11_kind 14 = .ok (.iload_n 3, 1) := by decide +kernel
theorem dX11_kind_15 : decode cX11_kind 15 = .ok (.invokestatic 101, 3) := by decide +kernel
theorem dX11_kind_18 : decode cX11_kind 18 = .ok (.ifCond .eq 14, 3) := by decide +kernel
theorem dX11_kind_21 : decode cX11_kind 21 = .ok (.iload 4, 2) := by decide +kernel
theorem dX11_kind_23 : decode cX11_kind 23 = .ok (.iconst 0, 1) := by decide +kernel
theorem dX11_kind_24 : decode cX11_kind 24 = .ok (.ldc 105, 2) := by decide +kernel
theorem dX11_kind_26 : decode cX11_kind 26 = .ok (.invokestatic 106, 3) := by decide +kernel
theorem dX11_kind_29 : decode cX11_kind 29 = .ok (.ifCond .ne 5, 3) := by decide +kernel
theorem dX11_kind_32 : decode cX11_kind 32 = .ok (.iconst (-1), 1) := by decide +kernel
theorem dX11_kind_33 : decode cX11_kind 33 = .ok (.ireturn, 1) := by decide +kernel
theorem dX11_kind_34 : decode cX11_kind 34 = .ok (.aload_n 0, 1) := by decide +kernel
theorem dX11_kind_35 : decode cX11_kind 35 = .ok (.getfield 10, 3) := by decide +kernel
theorem dX11_kind_38 : decode cX11_kind 38 = .ok (.iload_n 1, 1) := by decide +kernel
theorem dX11_kind_39 : decode cX11_kind 39 = .ok (.iload_n 2, 1) := by decide +kernel
theorem dX11_kind_40 : decode cX11_kind 40 = .ok (.iload_n 3, 1) := by decide +kernel
theorem dX11_kind_41 : decode cX11_kind 41 = .ok (.iload 4, 2) := by decide +kernel
theorem dX11_kind_43 : decode cX11_kind 43 = .ok (.invokevirtual 110, 3) := by decide +kernel
theorem dX11_kind_46 : decode cX11_kind 46 = .ok (.ireturn, 1) := by decide +kernel
theorem dX11_plane_0 : decode cX11_plane 0 = .ok (.iload_n 1, 1) := by decide +kernel
theorem dX11_plane_1 : decode cX11_plane 1 = .ok (.iconst 0, 1) := by decide +kernel
theorem dX11_plane_2 : decode cX11_plane 2 = .ok (.ldc 105, 2) := by decide +kernel
theorem dX11_plane_4 : decode cX11_plane 4 = .ok (.invokestatic 106, 3) := by decide +kernel
theorem dX11_plane_7 : decode cX11_plane 7 = .ok (.ifCond .ne 5, 3) := by decide +kernel
theorem dX11_plane_10 : decode cX11_plane 10 = .ok (.iconst (-1), 1) := by decide +kernel
theorem dX11_plane_11 : decode cX11_plane 11 = .ok (.ireturn, 1) := by decide +kernel
theorem dX11_plane_12 : decode cX11_plane 12 = .ok (.aload_n 0, 1) := by decide +kernel
theorem dX11_plane_13 : decode cX11_plane 13 = .ok (.getfield 19, 3) := by decide +kernel
theorem dX11_plane_16 : decode cX11_plane 16 = .ok (.iload_n 1, 1) := by decide +kernel
theorem dX11_plane_17 : decode cX11_plane 17 = .ok (.invokevirtual 114, 3) := by decide +kernel
theorem dX11_plane_20 : decode cX11_plane 20 = .ok (.ireturn, 1) := by decide +kernel
theorem dX11_need_0 : decode cX11_need 0 = .ok (.aload_n 0, 1) := by decide +kernel
theorem dX11_need_1 : decode cX11_need 1 = .ok (.getfield 19, 3) := by decide +kernel
theorem dX11_need_4 : decode cX11_need 4 = .ok (.iload_n 1, 1) := by decide +kernel
theorem dX11_need_5 : decode cX11_need 5 = .ok (.invokevirtual 117, 3) := by decide +kernel
theorem dX11_need_8 : decode cX11_need 8 = .ok (.ifCond .eq 23, 3) := by decide +kernel
theorem dX11_need_11 : decode cX11_need 11 = .ok (.aload_n 0, 1) := by decide +kernel
theorem dX11_need_12 : decode cX11_need 12 = .ok (.getfield 10, 3) := by decide +kernel
theorem dX11_need_15 : decode cX11_need 15 = .ok (.iload_n 2, 1) := by decide +kernel
theorem dX11_need_16 : decode cX11_need 16 = .ok (.invokevirtual 120, 3) := by decide +kernel
theorem dX11_need_19 : decode cX11_need 19 = .ok (.ifCond .eq 12, 3) := by decide +kernel
theorem dX11_need_22 : decode cX11_need 22 = .ok (.iload_n 3, 1) := by decide +kernel
theorem dX11_need_23 : decode cX11_need 23 = .ok (.iconst 0, 1) := by decide +kernel
theorem dX11_need_24 : decode cX11_need 24 = .ok (.iconst 3, 1) := by decide +kernel
theorem dX11_need_25 : decode cX11_need 25 = .ok (.invokestatic 106, 3) := by decide +kernel
theorem dX11_need_28 : decode cX11_need 28 = .ok (.ifCond .ne 5, 3) := by decide +kernel
theorem dX11_need_31 : decode cX11_need 31 = .ok (.iconst (-1), 1) := by decide +kernel
theorem dX11_need_32 : decode cX11_need 32 = .ok (.ireturn, 1) := by decide +kernel
theorem dX11_need_33 : decode cX11_need 33 = .ok (.aload_n 0, 1) := by decide +kernel
theorem dX11_need_34 : decode cX11_need 34 = .ok (.getfield 19, 3) := by decide +kernel
theorem dX11_need_37 : decode cX11_need 37 = .ok (.iload_n 1, 1) := by decide +kernel
theorem dX11_need_38 : decode cX11_need 38 = .ok (.invokevirtual 121, 3) := by decide +kernel
theorem dX11_need_41 : decode cX11_need 41 = .ok (.ifCond .ne 16, 3) := by decide +kernel
theorem dX11_need_44 : decode cX11_need 44 = .ok (.aload_n 0, 1) := by decide +kernel
theorem dX11_need_45 : decode cX11_need 45 = .ok (.getfield 35, 3) := by decide +kernel
theorem dX11_need_48 : decode cX11_need 48 = .ok (.iload_n 2, 1) := by decide +kernel
theorem dX11_need_49 : decode cX11_need 49 = .ok (.iload_n 1, 1) := by decide +kernel
theorem dX11_need_50 : decode cX11_need 50 = .ok (.invokevirtual 124, 3) := by decide +kernel
theorem dX11_need_53 : decode cX11_need 53 = .ok (.iload_n 3, 1) := by decide +kernel
theorem dX11_need_54 : decode cX11_need 54 = .ok (.if_icmp .le 6, 3) := by decide +kernel
theorem dX11_need_57 : decode cX11_need 57 = .ok (.bipush (-2), 2) := by decide +kernel
theorem dX11_need_59 : decode cX11_need 59 = .ok (.ireturn, 1) := by decide +kernel
theorem dX11_need_60 : decode cX11_need 60 = .ok (.aload_n 0, 1) := by decide +kernel
theorem dX11_need_61 : decode cX11_need 61 = .ok (.getfield 19, 3) := by decide +kernel
theorem dX11_need_64 : decode cX11_need 64 = .ok (.iload_n 1, 1) := by decide +kernel
theorem dX11_need_65 : decode cX11_need 65 = .ok (.iload_n 2, 1) := by decide +kernel
theorem dX11_need_66 : decode cX11_need 66 = .ok (.iload_n 3, 1) := by decide +kernel
theorem dX11_need_67 : decode cX11_need 67 = .ok (.invokevirtual 128, 3) := by decide +kernel
theorem dX11_need_70 : decode cX11_need 70 = .ok (.ireturn, 1) := by decide +kernel
theorem dX11_days_0 : decode cX11_days 0 = .ok (.iload_n 1, 1) := by decide +kernel
theorem dX11_days_1 : decode cX11_days 1 = .ok (.iconst 1, 1) := by decide +kernel
theorem dX11_days_2 : decode cX11_days 2 = .ok (.sipush 400, 3) := by decide +kernel
theorem dX11_days_5 : decode cX11_days 5 = .ok (.invokestatic 106, 3) := by decide +kernel
theorem dX11_days_8 : decode cX11_days 8 = .ok (.ifCond .eq 15, 3) := by decide +kernel
theorem dX11_days_11 : decode cX11_days 11 = .ok (.aload_n 0, 1) := by decide +kernel
theorem dX11_days_12 : decode cX11_days 12 = .ok (.getfield 132, 3) := by decide +kernel
theorem dX11_days_15 : decode cX11_days 15 = .ok (.iload_n 1, 1) := by decide +kernel
theorem dX11_days_16 : decode cX11_days 16 = .ok (.iadd, 1) := by decide +kernel
theorem dX11_days_17 : decode cX11_days 17 = .ok (.sipush 9999, 3) := by decide +kernel
theorem dX11_days_20 : decode cX11_days 20 = .ok (.if_icmp .le 5, 3) := by decide +kernel
theorem dX11_days_23 : decode cX11_days 23 = .ok (.iconst (-1), 1) := by decide +kernel
theorem dX11_days_24 : decode cX11_days 24 = .ok (.ireturn, 1) := by decide +kernel
theorem dX11_days_25 : decode cX11_days 25 = .ok (.aload_n 0, 1) := by decide +kernel
theorem dX11_days_26 : decode cX11_days 26 = .ok (.dup, 1) := by decide +kernel
theorem dX11_days_27 : decode cX11_days 27 = .ok (.getfield 132, 3) := by decide +kernel
theorem dX11_days_30 : decode cX11_days 30 = .ok (.iload_n 1, 1) := by decide +kernel
theorem dX11_days_31 : decode cX11_days 31 = .ok (.iadd, 1) := by decide +kernel
theorem dX11_days_32 : decode cX11_days 32 = .ok (.putfield 132, 3) := by decide +kernel
theorem dX11_days_35 : decode cX11_days 35 = .ok (.aload_n 0, 1) := by decide +kernel
theorem dX11_days_36 : decode cX11_days 36 = .ok (.getfield 35, 3) := by decide +kernel
theorem dX11_days_39 : decode cX11_days 39 = .ok (.iload_n 1, 1) := by decide +kernel
theorem dX11_days_40 : decode cX11_days 40 = .ok (.invokevirtual 135, 3) := by decide +kernel
theorem dX11_days_43 : decode cX11_days 43 = .ok (.aload_n 0, 1) := by decide +kernel
theorem dX11_days_44 : decode cX11_days 44 = .ok (.getfield 132, 3) := by decide +kernel
theorem dX11_days_47 : decode cX11_days 47 = .ok (.ireturn, 1) := by decide +kernel
theorem dX11_fly_0 : decode cX11_fly 0 = .ok (.aload_n 0, 1) := by decide +kernel
theorem dX11_fly_1 : decode cX11_fly 1 = .ok (.getfield 19, 3) := by decide +kernel
theorem dX11_fly_4 : decode cX11_fly 4 = .ok (.iload_n 1, 1) := by decide +kernel
theorem dX11_fly_5 : decode cX11_fly 5 = .ok (.invokevirtual 117, 3) := by decide +kernel
theorem dX11_fly_8 : decode cX11_fly 8 = .ok (.ifCond .eq 25, 3) := by decide +kernel
theorem dX11_fly_11 : decode cX11_fly 11 = .ok (.iload_n 2, 1) := by decide +kernel
theorem dX11_fly_12 : decode cX11_fly 12 = .ok (.iconst 1, 1) := by decide +kernel
theorem dX11_fly_13 : decode cX11_fly 13 = .ok (.sipush 999, 3) := by decide +kernel
theorem dX11_fly_16 : decode cX11_fly 16 = .ok (.invokestatic 106, 3) := by decide +kernel
theorem dX11_fly_19 : decode cX11_fly 19 = .ok (.ifCond .eq 14, 3) := by decide +kernel
theorem dX11_fly_22 : decode cX11_fly 22 = .ok (.iload_n 3, 1) := by decide +kernel
theorem dX11_fly_23 : decode cX11_fly 23 = .ok (.iconst 0, 1) := by decide +kernel
theorem dX11_fly_24 : decode cX11_fly 24 = .ok (.sipush 999, 3) := by decide +kernel
theorem dX11_fly_27 : decode cX11_fly 27 = .ok (.invokestatic 106, 3) := by decide +kernel
theorem dX11_fly_30 : decode cX11_fly 30 = .ok (.ifCond .ne 5, 3) := by decide +kernel
theorem dX11_fly_33 : decode cX11_fly 33 = .ok (.iconst (-1), 1) := by decide +kernel
theorem dX11_fly_34 : decode cX11_fly 34 = .ok (.ireturn, 1) := by decide +kernel
theorem dX11_fly_35 : decode cX11_fly 35 = .ok (.aload_n 0, 1) := by decide +kernel
theorem dX11_fly_36 : decode cX11_fly 36 = .ok (.getfield 19, 3) := by decide +kernel
theorem dX11_fly_39 : decode cX11_fly 39 = .ok (.iload_n 1, 1) := by decide +kernel
theorem dX11_fly_40 : decode cX11_fly 40 = .ok (.invokevirtual 121, 3) := by decide +kernel
theorem dX11_fly_43 : decode cX11_fly 43 = .ok (.ifCond .ne 22, 3) := by decide +kernel
theorem dX11_fly_46 : decode cX11_fly 46 = .ok (.aload_n 0, 1) := by decide +kernel
theorem dX11_fly_47 : decode cX11_fly 47 = .ok (.getfield 92, 3) := by decide +kernel
theorem dX11_fly_50 : decode cX11_fly 50 = .ok (.iload_n 1, 1) := by decide +kernel
theorem dX11_fly_51 : decode cX11_fly 51 = .ok (.aload_n 0, 1) := by decide +kernel
theorem dX11_fly_52 : decode cX11_fly 52 = .ok (.getfield 132, 3) := by decide +kernel
theorem dX11_fly_55 : decode cX11_fly 55 = .ok (.aload_n 0, 1) := by decide +kernel
theorem dX11_fly_56 : decode cX11_fly 56 = .ok (.getfield 132, 3) := by decide +kernel
theorem dX11_fly_59 : decode cX11_fly 59 = .ok (.invokevirtual 139, 3) := by decide +kernel
theorem dX11_fly_62 : decode cX11_fly 62 = .ok (.ifCond .eq 6, 3) := by decide +kernel
theorem dX11_fly_65 : decode cX11_fly 65 = .ok (.bipush (-2), 2) := by decide +kernel
theorem dX11_fly_67 : decode cX11_fly 67 = .ok (.ireturn, 1) := by decide +kernel
theorem dX11_fly_68 : decode cX11_fly 68 = .ok (.aload_n 0, 1) := by decide +kernel
theorem dX11_fly_69 : decode cX11_fly 69 = .ok (.getfield 19, 3) := by decide +kernel
theorem dX11_fly_72 : decode cX11_fly 72 = .ok (.iload_n 1, 1) := by decide +kernel
theorem dX11_fly_73 : decode cX11_fly 73 = .ok (.iload_n 2, 1) := by decide +kernel
theorem dX11_fly_74 : decode cX11_fly 74 = .ok (.iload_n 3, 1) := by decide +kernel
theorem dX11_fly_75 : decode cX11_fly 75 = .ok (.invokevirtual 142, 3) := by decide +kernel
theorem dX11_fly_78 : decode cX11_fly 78 = .ok (.ifCond .eq 16, 3) := by decide +kernel
theorem dX11_fly_81 : decode cX11_fly 81 = .ok (.aload_n 0, 1) := by decide +kernel
theorem dX11_fly_82 : decode cX11_fly 82 = .ok (.getfield 35, 3) := by decide +kernel
theorem dX11_fly_85 : decode cX11_fly 85 = .ok (.iload_n 1, 1) := by decide +kernel
theorem dX11_fly_86 : decode cX11_fly 86 = .ok (.iload_n 2, 1) := by decide +kernel
theorem dX11_fly_87 : decode cX11_fly 87 = .ok (.iload_n 3, 1) := by decide +kernel
theorem dX11_fly_88 : decode cX11_fly 88 = .ok (.invokevirtual 145, 3) := by decide +kernel
theorem dX11_fly_91 : decode cX11_fly 91 = .ok (.ifCond .ne 6, 3) := by decide +kernel
theorem dX11_fly_94 : decode cX11_fly 94 = .ok (.bipush (-2), 2) := by decide +kernel
theorem dX11_fly_96 : decode cX11_fly 96 = .ok (.ireturn, 1) := by decide +kernel
theorem dX11_fly_97 : decode cX11_fly 97 = .ok (.aload_n 0, 1) := by decide +kernel
theorem dX11_fly_98 : decode cX11_fly 98 = .ok (.getfield 35, 3) := by decide +kernel
theorem dX11_fly_101 : decode cX11_fly 101 = .ok (.iload_n 1, 1) := by decide +kernel
theorem dX11_fly_102 : decode cX11_fly 102 = .ok (.iload_n 2, 1) := by decide +kernel
theorem dX11_fly_103 : decode cX11_fly 103 = .ok (.iload_n 3, 1) := by decide +kernel
theorem dX11_fly_104 : decode cX11_fly 104 = .ok (.invokevirtual 146, 3) := by decide +kernel
theorem dX11_fly_107 : decode cX11_fly 107 = .ok (.aload_n 0, 1) := by decide +kernel
theorem dX11_fly_108 : decode cX11_fly 108 = .ok (.iload_n 1, 1) := by decide +kernel
theorem dX11_fly_109 : decode cX11_fly 109 = .ok (.iload_n 2, 1) := by decide +kernel
theorem dX11_fly_110 : decode cX11_fly 110 = .ok (.invokevirtual 150, 3) := by decide +kernel
theorem dX11_fly_113 : decode cX11_fly 113 = .ok (.aload_n 0, 1) := by decide +kernel
theorem dX11_fly_114 : decode cX11_fly 114 = .ok (.getfield 19, 3) := by decide +kernel
theorem dX11_fly_117 : decode cX11_fly 117 = .ok (.iload_n 1, 1) := by decide +kernel
theorem dX11_fly_118 : decode cX11_fly 118 = .ok (.iload_n 2, 1) := by decide +kernel
theorem dX11_fly_119 : decode cX11_fly 119 = .ok (.iload_n 3, 1) := by decide +kernel
theorem dX11_fly_120 : decode cX11_fly 120 = .ok (.invokevirtual 154, 3) := by decide +kernel
theorem dX11_fly_123 : decode cX11_fly 123 = .ok (.ireturn, 1) := by decide +kernel
theorem dX11_ofPlane_0 : decode cX11_ofPlane 0 = .ok (.aload_n 0, 1) := by decide +kernel
theorem dX11_ofPlane_1 : decode cX11_ofPlane 1 = .ok (.getfield 19, 3) := by decide +kernel
theorem dX11_ofPlane_4 : decode cX11_ofPlane 4 = .ok (.iload_n 1, 1) := by decide +kernel
theorem dX11_ofPlane_5 : decode cX11_ofPlane 5 = .ok (.invokevirtual 117, 3) := by decide +kernel
theorem dX11_ofPlane_8 : decode cX11_ofPlane 8 = .ok (.ifCond .ne 6, 3) := by decide +kernel
theorem dX11_ofPlane_11 : decode cX11_ofPlane 11 = .ok (.ldc 96, 2) := by decide +kernel
theorem dX11_ofPlane_13 : decode cX11_ofPlane 13 = .ok (.ireturn, 1) := by decide +kernel
theorem dX11_ofPlane_14 : decode cX11_ofPlane 14 = .ok (.iload_n 2, 1) := by decide +kernel
theorem dX11_ofPlane_15 : decode cX11_ofPlane 15 = .ok (.tableswitch 145 0 8 #[49, 59, 69, 86, 95, 105, 115, 125, 135], 49) := by decide +kernel
theorem dX11_ofPlane_64 : decode cX11_ofPlane 64 = .ok (.aload_n 0, 1) := by decide +kernel
theorem dX11_ofPlane_65 : decode cX11_ofPlane 65 = .ok (.getfield 19, 3) := by decide +kernel
theorem dX11_ofPlane_68 : decode cX11_ofPlane 68 = .ok (.getfield 156, 3) := by decide +kernel
theorem dX11_ofPlane_71 : decode cX11_ofPlane 71 = .ok (.iload_n 1, 1) := by decide +kernel
theorem dX11_ofPlane_72 : decode cX11_ofPlane 72 = .ok (.iaload, 1) := by decide +kernel
theorem dX11_ofPlane_73 : decode cX11_ofPlane 73 = .ok (.ireturn, 1) := by decide +kernel
theorem dX11_ofPlane_74 : decode cX11_ofPlane 74 = .ok (.aload_n 0, 1) := by decide +kernel
theorem dX11_ofPlane_75 : decode cX11_ofPlane 75 = .ok (.getfield 19, 3) := by decide +kernel
theorem dX11_ofPlane_78 : decode cX11_ofPlane 78 = .ok (.getfield 160, 3) := by decide +kernel
theorem dX11_ofPlane_81 : decode cX11_ofPlane 81 = .ok (.iload_n 1, 1) := by decide +kernel
theorem dX11_ofPlane_82 : decode cX11_ofPlane 82 = .ok (.iaload, 1) := by decide +kernel
theorem dX11_ofPlane_83 : decode cX11_ofPlane 83 = .ok (.ireturn, 1) := by decide +kernel
theorem dX11_ofPlane_84 : decode cX11_ofPlane 84 = .ok (.aload_n 0, 1) := by decide +kernel
theorem dX11_ofPlane_85 : decode cX11_ofPlane 85 = .ok (.getfield 19, 3) := by decide +kernel
theorem dX11_ofPlane_88 : decode cX11_ofPlane 88 = .ok (.iload_n 1, 1) := by decide +kernel
theorem dX11_ofPlane_89 : decode cX11_ofPlane 89 = .ok (.invokevirtual 121, 3) := by decide +kernel
theorem dX11_ofPlane_92 : decode cX11_ofPlane 92 = .ok (.ifCond .eq 7, 3) := by decide +kernel
theorem dX11_ofPlane_95 : decode cX11_ofPlane 95 = .ok (.iconst 1, 1) := by decide +kernel
theorem dX11_ofPlane_96 : decode cX11_ofPlane 96 = .ok (.goto 4, 3) := by decide +kernel
theorem dX11_ofPlane_99 : decode cX11_ofPlane 99 = .ok (.iconst 0, 1) := by decide +kernel
theorem dX11_ofPlane_100 : decode cX11_ofPlane 100 = .ok (.ireturn, 1) := by decide +kernel
theorem dX11_ofPlane_101 : decode cX11_ofPlane 101 = .ok (.aload_n 0, 1) := by decide +kernel
theorem dX11_ofPlane_102 : decode cX11_ofPlane 102 = .ok (.getfield 35, 3) := by decide +kernel
theorem dX11_ofPlane_105 : decode cX11_ofPlane 105 = .ok (.iload_n 1, 1) := by decide +kernel
theorem dX11_ofPlane_106 : decode cX11_ofPlane 106 = .ok (.invokevirtual 163, 3) := by decide +kernel
theorem dX11_ofPlane_109 : decode cX11_ofPlane 109 = .ok (.ireturn, 1) := by decide +kernel
theorem dX11_ofPlane_110 : decode cX11_ofPlane 110 = .ok (.aload_n 0, 1) := by decide +kernel
theorem dX11_ofPlane_111 : decode cX11_ofPlane 111 = .ok (.getfield 19, 3) := by decide +kernel
theorem dX11_ofPlane_114 : decode cX11_ofPlane 114 = .ok (.getfield 166, 3) := by decide +kernel
theorem dX11_ofPlane_117 : decode cX11_ofPlane 117 = .ok (.iload_n 1, 1) := by decide +kernel
theorem dX11_ofPlane_118 : decode cX11_ofPlane 118 = .ok (.iaload, 1) := by decide +kernel
theorem dX11_ofPlane_119 : decode cX11_ofPlane 119 = .ok (.ireturn, 1) := by decide +kernel
theorem dX11_ofPlane_120 : decode cX11_ofPlane 120 = .ok (.aload_n 0, 1) := by decide +kernel
theorem dX11_ofPlane_121 : decode cX11_ofPlane 121 = .ok (.getfield 19, 3) := by decide +kernel
theorem dX11_ofPlane_124 : decode cX11_ofPlane 124 = .ok (.getfield 169, 3) := by decide +kernel
theorem dX11_ofPlane_127 : decode cX11_ofPlane 127 = .ok (.iload_n 1, 1) := by decide +kernel
theorem dX11_ofPlane_128 : decode cX11_ofPlane 128 = .ok (.iaload, 1) := by decide +kernel
theorem dX11_ofPlane_129 : decode cX11_ofPlane 129 = .ok (.ireturn, 1) := by decide +kernel
theorem dX11_ofPlane_130 : decode cX11_ofPlane 130 = .ok (.aload_n 0, 1) := by decide +kernel
theorem dX11_ofPlane_131 : decode cX11_ofPlane 131 = .ok (.getfield 19, 3) := by decide +kernel
theorem dX11_ofPlane_134 : decode cX11_ofPlane 134 = .ok (.getfield 172, 3) := by decide +kernel
theorem dX11_ofPlane_137 : decode cX11_ofPlane 137 = .ok (.iload_n 1, 1) := by decide +kernel
theorem dX11_ofPlane_138 : decode cX11_ofPlane 138 = .ok (.iaload, 1) := by decide +kernel
theorem dX11_ofPlane_139 : decode cX11_ofPlane 139 = .ok (.ireturn, 1) := by decide +kernel
theorem dX11_ofPlane_140 : decode cX11_ofPlane 140 = .ok (.aload_n 0, 1) := by decide +kernel
theorem dX11_ofPlane_141 : decode cX11_ofPlane 141 = .ok (.getfield 74, 3) := by decide +kernel
theorem dX11_ofPlane_144 : decode cX11_ofPlane 144 = .ok (.getfield 175, 3) := by decide +kernel
theorem dX11_ofPlane_147 : decode cX11_ofPlane 147 = .ok (.iload_n 1, 1) := by decide +kernel
theorem dX11_ofPlane_148 : decode cX11_ofPlane 148 = .ok (.iaload, 1) := by decide +kernel
theorem dX11_ofPlane_149 : decode cX11_ofPlane 149 = .ok (.ireturn, 1) := by decide +kernel
theorem dX11_ofPlane_150 : decode cX11_ofPlane 150 = .ok (.aload_n 0, 1) := by decide +kernel
theorem dX11_ofPlane_151 : decode cX11_ofPlane 151 = .ok (.getfield 74, 3) := by decide +kernel
theorem dX11_ofPlane_154 : decode cX11_ofPlane 154 = .ok (.getfield 178, 3) := by decide +kernel
theorem dX11_ofPlane_157 : decode cX11_ofPlane 157 = .ok (.iload_n 1, 1) := by decide +kernel
theorem dX11_ofPlane_158 : decode cX11_ofPlane 158 = .ok (.iaload, 1) := by decide +kernel
theorem dX11_ofPlane_159 : decode cX11_ofPlane 159 = .ok (.ireturn, 1) := by decide +kernel
theorem dX11_ofPlane_160 : decode cX11_ofPlane 160 = .ok (.ldc 96, 2) := by decide +kernel
theorem dX11_ofPlane_162 : decode cX11_ofPlane 162 = .ok (.ireturn, 1) := by decide +kernel
theorem dX11_grounded_0 : decode cX11_grounded 0 = .ok (.aload_n 0, 1) := by decide +kernel
theorem dX11_grounded_1 : decode cX11_grounded 1 = .ok (.getfield 19, 3) := by decide +kernel
theorem dX11_grounded_4 : decode cX11_grounded 4 = .ok (.iload_n 1, 1) := by decide +kernel
theorem dX11_grounded_5 : decode cX11_grounded 5 = .ok (.invokevirtual 117, 3) := by decide +kernel
theorem dX11_grounded_8 : decode cX11_grounded 8 = .ok (.ifCond .eq 10, 3) := by decide +kernel
theorem dX11_grounded_11 : decode cX11_grounded 11 = .ok (.iload_n 2, 1) := by decide +kernel
theorem dX11_grounded_12 : decode cX11_grounded 12 = .ok (.invokestatic 181, 3) := by decide +kernel
theorem dX11_grounded_15 : decode cX11_grounded 15 = .ok (.ifCond .ne 5, 3) := by decide +kernel
theorem dX11_grounded_18 : decode cX11_grounded 18 = .ok (.iconst (-1), 1) := by decide +kernel
theorem dX11_grounded_19 : decode cX11_grounded 19 = .ok (.ireturn, 1) := by decide +kernel
theorem dX11_grounded_20 : decode cX11_grounded 20 = .ok (.aload_n 0, 1) := by decide +kernel
theorem dX11_grounded_21 : decode cX11_grounded 21 = .ok (.getfield 92, 3) := by decide +kernel
theorem dX11_grounded_24 : decode cX11_grounded 24 = .ok (.iload_n 1, 1) := by decide +kernel
theorem dX11_grounded_25 : decode cX11_grounded 25 = .ok (.iload_n 2, 1) := by decide +kernel
theorem dX11_grounded_26 : decode cX11_grounded 26 = .ok (.aload_n 0, 1) := by decide +kernel
theorem dX11_grounded_27 : decode cX11_grounded 27 = .ok (.getfield 132, 3) := by decide +kernel
theorem dX11_grounded_30 : decode cX11_grounded 30 = .ok (.invokevirtual 139, 3) := by decide +kernel
theorem dX11_grounded_33 : decode cX11_grounded 33 = .ok (.ireturn, 1) := by decide +kernel
theorem dX11_part_0 : decode cX11_part 0 = .ok (.aload_n 0, 1) := by decide +kernel
theorem dX11_part_1 : decode cX11_part 1 = .ok (.getfield 10, 3) := by decide +kernel
theorem dX11_part_4 : decode cX11_part 4 = .ok (.iload_n 1, 1) := by decide +kernel
theorem dX11_part_5 : decode cX11_part 5 = .ok (.invokevirtual 120, 3) := by decide +kernel
theorem dX11_part_8 : decode cX11_part 8 = .ok (.ifCond .eq 13, 3) := by decide +kernel
theorem dX11_part_11 : decode cX11_part 11 = .ok (.iload_n 2, 1) := by decide +kernel
theorem dX11_part_12 : decode cX11_part 12 = .ok (.iconst 1, 1) := by decide +kernel
theorem dX11_part_13 : decode cX11_part 13 = .ok (.ldc 184, 2) := by decide +kernel
theorem dX11_part_15 : decode cX11_part 15 = .ok (.invokestatic 106, 3) := by decide +kernel
theorem dX11_part_18 : decode cX11_part 18 = .ok (.ifCond .ne 5, 3) := by decide +kernel
theorem dX11_part_21 : decode cX11_part 21 = .ok (.iconst (-1), 1) := by decide +kernel
theorem dX11_part_22 : decode cX11_part 22 = .ok (.ireturn, 1) := by decide +kernel
theorem dX11_part_23 : decode cX11_part 23 = .ok (.iload_n 3, 1) := by decide +kernel
theorem dX11_part_24 : decode cX11_part 24 = .ok (.invokestatic 101, 3) := by decide +kernel
theorem dX11_part_27 : decode cX11_part 27 = .ok (.ifCond .eq 19, 3) := by decide +kernel
theorem dX11_part_30 : decode cX11_part 30 = .ok (.iload 4, 2) := by decide +kernel
theorem dX11_part_32 : decode cX11_part 32 = .ok (.invokestatic 101, 3) := by decide +kernel
theorem dX11_part_35 : decode cX11_part 35 = .ok (.ifCond .eq 11, 3) := by decide +kernel
theorem dX11_part_38 : decode cX11_part 38 = .ok (.iload 5, 2) := by decide +kernel
theorem dX11_part_40 : decode cX11_part 40 = .ok (.invokestatic 101, 3) := by decide +kernel
theorem dX11_part_43 : decode cX11_part 43 = .ok (.ifCond .ne 5, 3) := by decide +kernel
theorem dX11_part_46 : decode cX11_part 46 = .ok (.iconst (-1), 1) := by decide +kernel
theorem dX11_part_47 : decode cX11_part 47 = .ok (.ireturn, 1) := by decide +kernel
theorem dX11_part_48 : decode cX11_part 48 = .ok (.aload_n 0, 1) := by decide +kernel
theorem dX11_part_49 : decode cX11_part 49 = .ok (.getfield 35, 3) := by decide +kernel
theorem dX11_part_52 : decode cX11_part 52 = .ok (.getfield 185, 3) := by decide +kernel
theorem dX11_part_55 : decode cX11_part 55 = .ok (.bipush 100, 2) := by decide +kernel
theorem dX11_part_57 : decode cX11_part 57 = .ok (.if_icmp .ge 14, 3) := by decide +kernel
theorem dX11_part_60 : decode cX11_part 60 = .ok (.aload_n 0, 1) := by decide +kernel
theorem dX11_part_61 : decode cX11_part 61 = .ok (.getfield 26, 3) := by decide +kernel
theorem dX11_part_64 : decode cX11_part 64 = .ok (.iconst 1, 1) := by decide +kernel
theorem dX11_part_65 : decode cX11_part 65 = .ok (.invokevirtual 188, 3) := by decide +kernel
theorem dX11_part_68 : decode cX11_part 68 = .ok (.ifCond .ne 6, 3) := by decide +kernel
theorem dX11_part_71 : decode cX11_part 71 = .ok (.bipush (-3), 2) := by decide +kernel
theorem dX11_part_73 : decode cX11_part 73 = .ok (.ireturn, 1) := by decide +kernel
theorem dX11_part_74 : decode cX11_part 74 = .ok (.aload_n 0, 1) := by decide +kernel
theorem dX11_part_75 : decode cX11_part 75 = .ok (.getfield 35, 3) := by decide +kernel
theorem dX11_part_78 : decode cX11_part 78 = .ok (.iload_n 1, 1) := by decide +kernel
theorem dX11_part_79 : decode cX11_part 79 = .ok (.iload_n 2, 1) := by decide +kernel
theorem dX11_part_80 : decode cX11_part 80 = .ok (.invokevirtual 191, 3) := by decide +kernel
theorem dX11_part_83 : decode cX11_part 83 = .ok (.istore 6, 2) := by decide +kernel
theorem dX11_part_85 : decode cX11_part 85 = .ok (.aload_n 0, 1) := by decide +kernel
theorem dX11_part_86 : decode cX11_part 86 = .ok (.getfield 35, 3) := by decide +kernel
theorem dX11_part_89 : decode cX11_part 89 = .ok (.iload 6, 2) := by decide +kernel
theorem dX11_part_91 : decode cX11_part 91 = .ok (.iload_n 3, 1) := by decide +kernel
theorem dX11_part_92 : decode cX11_part 92 = .ok (.iload 4, 2) := by decide +kernel
theorem dX11_part_94 : decode cX11_part 94 = .ok (.iload 5, 2) := by decide +kernel
theorem dX11_part_96 : decode cX11_part 96 = .ok (.invokevirtual 193, 3) := by decide +kernel
theorem dX11_part_99 : decode cX11_part 99 = .ok (.aload_n 0, 1) := by decide +kernel
theorem dX11_part_100 : decode cX11_part 100 = .ok (.getfield 35, 3) := by decide +kernel
theorem dX11_part_103 : decode cX11_part 103 = .ok (.iload 6, 2) := by decide +kernel
theorem dX11_part_105 : decode cX11_part 105 = .ok (.bipush 11, 2) := by decide +kernel
theorem dX11_part_107 : decode cX11_part 107 = .ok (.aload_n 0, 1) := by decide +kernel
theorem dX11_part_108 : decode cX11_part 108 = .ok (.getfield 132, 3) := by decide +kernel
theorem dX11_part_111 : decode cX11_part 111 = .ok (.invokevirtual 197, 3) := by decide +kernel
theorem dX11_part_114 : decode cX11_part 114 = .ok (.iload 6, 2) := by decide +kernel
theorem dX11_part_116 : decode cX11_part 116 = .ok (.ireturn, 1) := by decide +kernel
theorem dX11_move_0 : decode cX11_move 0 = .ok (.aload_n 0, 1) := by decide +kernel
theorem dX11_move_1 : decode cX11_move 1 = .ok (.getfield 35, 3) := by decide +kernel
theorem dX11_move_4 : decode cX11_move 4 = .ok (.iload_n 1, 1) := by decide +kernel
theorem dX11_move_5 : decode cX11_move 5 = .ok (.invokevirtual 200, 3) := by decide +kernel
theorem dX11_move_8 : decode cX11_move 8 = .ok (.ifCond .eq 11, 3) := by decide +kernel
theorem dX11_move_11 : decode cX11_move 11 = .ok (.aload_n 0, 1) := by decide +kernel
theorem dX11_move_12 : decode cX11_move 12 = .ok (.iload_n 2, 1) := by decide +kernel
theorem dX11_move_13 : decode cX11_move 13 = .ok (.invokevirtual 201, 3) := by decide +kernel
theorem dX11_move_16 : decode cX11_move 16 = .ok (.ifCond .ne 5, 3) := by decide +kernel
theorem dX11_move_19 : decode cX11_move 19 = .ok (.iconst (-1), 1) := by decide +kernel
theorem dX11_move_20 : decode cX11_move 20 = .ok (.ireturn, 1) := by decide +kernel
theorem dX11_move_21 : decode cX11_move 21 = .ok (.aload_n 0, 1) := by decide +kernel
theorem dX11_move_22 : decode cX11_move 22 = .ok (.getfield 35, 3) := by decide +kernel
theorem dX11_move_25 : decode cX11_move 25 = .ok (.getfield 204, 3) := by decide +kernel
theorem dX11_move_28 : decode cX11_move 28 = .ok (.iload_n 1, 1) := by decide +kernel
theorem dX11_move_29 : decode cX11_move 29 = .ok (.iaload, 1) := by decide +kernel
theorem dX11_move_30 : decode cX11_move 30 = .ok (.iload_n 2, 1) := by decide +kernel
theorem dX11_move_31 : decode cX11_move 31 = .ok (.if_icmp .eq 34, 3) := by decide +kernel
theorem dX11_move_34 : decode cX11_move 34 = .ok (.aload_n 0, 1) := by decide +kernel
theorem dX11_move_35 : decode cX11_move 35 = .ok (.getfield 35, 3) := by decide +kernel
theorem dX11_move_38 : decode cX11_move 38 = .ok (.getfield 204, 3) := by decide +kernel
theorem dX11_move_41 : decode cX11_move 41 = .ok (.iload_n 1, 1) := by decide +kernel
theorem dX11_move_42 : decode cX11_move 42 = .ok (.iaload, 1) := by decide +kernel
theorem dX11_move_43 : decode cX11_move 43 = .ok (.bipush 12, 2) := by decide +kernel
theorem dX11_move_45 : decode cX11_move 45 = .ok (.if_icmp .eq 20, 3) := by decide +kernel
theorem dX11_move_48 : decode cX11_move 48 = .ok (.aload_n 0, 1) := by decide +kernel
theorem dX11_move_49 : decode cX11_move 49 = .ok (.iload_n 2, 1) := by decide +kernel
theorem dX11_move_50 : decode cX11_move 50 = .ok (.aload_n 0, 1) := by decide +kernel
theorem dX11_move_51 : decode cX11_move 51 = .ok (.getfield 35, 3) := by decide +kernel
theorem dX11_move_54 : decode cX11_move 54 = .ok (.getfield 207, 3) := by decide +kernel
theorem dX11_move_57 : decode cX11_move 57 = .ok (.iload_n 1, 1) := by decide +kernel
theorem dX11_move_58 : decode cX11_move 58 = .ok (.iaload, 1) := by decide +kernel
theorem dX11_move_59 : decode cX11_move 59 = .ok (.invokevirtual 210, 3) := by decide +kernel
theorem dX11_move_62 : decode cX11_move 62 = .ok (.ifCond .ne 6, 3) := by decide +kernel
theorem dX11_move_65 : decode cX11_move 65 = .ok (.bipush (-2), 2) := by decide +kernel
theorem dX11_move_67 : decode cX11_move 67 = .ok (.ireturn, 1) := by decide +kernel
theorem dX11_move_68 : decode cX11_move 68 = .ok (.aload_n 0, 1) := by decide +kernel
theorem dX11_move_69 : decode cX11_move 69 = .ok (.getfield 26, 3) := by decide +kernel
theorem dX11_move_72 : decode cX11_move 72 = .ok (.iconst 1, 1) := by decide +kernel
theorem dX11_move_73 : decode cX11_move 73 = .ok (.invokevirtual 188, 3) := by decide +kernel
theorem dX11_move_76 : decode cX11_move 76 = .ok (.ifCond .ne 6, 3) := by decide +kernel
theorem dX11_move_79 : decode cX11_move 79 = .ok (.bipush (-3), 2) := by decide +kernel
theorem dX11_move_81 : decode cX11_move 81 = .ok (.ireturn, 1) := by decide +kernel
theorem dX11_move_82 : decode cX11_move 82 = .ok (.aload_n 0, 1) := by decide +kernel
theorem dX11_move_83 : decode cX11_move 83 = .ok (.getfield 35, 3) := by decide +kernel
theorem dX11_move_86 : decode cX11_move 86 = .ok (.iload_n 1, 1) := by decide +kernel
theorem dX11_move_87 : decode cX11_move 87 = .ok (.iload_n 2, 1) := by decide +kernel
theorem dX11_move_88 : decode cX11_move 88 = .ok (.aload_n 0, 1) := by decide +kernel
theorem dX11_move_89 : decode cX11_move 89 = .ok (.getfield 132, 3) := by decide +kernel
theorem dX11_move_92 : decode cX11_move 92 = .ok (.invokevirtual 214, 3) := by decide +kernel
theorem dX11_move_95 : decode cX11_move 95 = .ok (.iconst 1, 1) := by decide +kernel
theorem dX11_move_96 : decode cX11_move 96 = .ok (.ireturn, 1) := by decide +kernel
theorem dX11_swap_0 : decode cX11_swap 0 = .ok (.aload_n 0, 1) := by decide +kernel
theorem dX11_swap_1 : decode cX11_swap 1 = .ok (.getfield 35, 3) := by decide +kernel
theorem dX11_swap_4 : decode cX11_swap 4 = .ok (.iload_n 1, 1) := by decide +kernel
theorem dX11_swap_5 : decode cX11_swap 5 = .ok (.invokevirtual 200, 3) := by decide +kernel
theorem dX11_swap_8 : decode cX11_swap 8 = .ok (.ifCond .eq 14, 3) := by decide +kernel
theorem dX11_swap_11 : decode cX11_swap 11 = .ok (.aload_n 0, 1) := by decide +kernel
theorem dX11_swap_12 : decode cX11_swap 12 = .ok (.getfield 35, 3) := by decide +kernel
theorem dX11_swap_15 : decode cX11_swap 15 = .ok (.iload_n 2, 1) := by decide +kernel
theorem dX11_swap_16 : decode cX11_swap 16 = .ok (.invokevirtual 200, 3) := by decide +kernel
theorem dX11_swap_19 : decode cX11_swap 19 = .ok (.ifCond .ne 5, 3) := by decide +kernel
theorem dX11_swap_22 : decode cX11_swap 22 = .ok (.iconst (-1), 1) := by decide +kernel
theorem dX11_swap_23 : decode cX11_swap 23 = .ok (.ireturn, 1) := by decide +kernel
theorem dX11_swap_24 : decode cX11_swap 24 = .ok (.aload_n 0, 1) := by decide +kernel
theorem dX11_swap_25 : decode cX11_swap 25 = .ok (.getfield 35, 3) := by decide +kernel
theorem dX11_swap_28 : decode cX11_swap 28 = .ok (.getfield 204, 3) := by decide +kernel
theorem dX11_swap_31 : decode cX11_swap 31 = .ok (.iload_n 1, 1) := by decide +kernel
theorem dX11_swap_32 : decode cX11_swap 32 = .ok (.iaload, 1) := by decide +kernel
