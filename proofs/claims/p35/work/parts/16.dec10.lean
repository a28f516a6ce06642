theorem dX11_count_114 : decode cX11_count 114 = .ok (.getfield 26, 3) := by decide +kernel
theorem dX11_count_117 : decode cX11_count 117 = .ok (.getfield 383, 3) := by decide +kernel
theorem dX11_count_120 : decode cX11_count 120 = .ok (.ireturn, 1) := by decide +kernel
theorem dX11_count_121 : decode cX11_count 121 = .ok (.aload_n 0, 1) := by decide +kernel
theorem dX11_count_122 : decode cX11_count 122 = .ok (.getfield 42, 3) := by decide +kernel
theorem dX11_count_125 : decode cX11_count 125 = .ok (.getfield 291, 3) := by decide +kernel
theorem dX11_count_128 : decode cX11_count 128 = .ok (.ireturn, 1) := by decide +kernel
theorem dX11_count_129 : decode cX11_count 129 = .ok (.aload_n 0, 1) := by decide +kernel
theorem dX11_count_130 : decode cX11_count 130 = .ok (.getfield 35, 3) := by decide +kernel
theorem dX11_count_133 : decode cX11_count 133 = .ok (.bipush 12, 2) := by decide +kernel
theorem dX11_count_135 : decode cX11_count 135 = .ok (.invokevirtual 163, 3) := by decide +kernel
theorem dX11_count_138 : decode cX11_count 138 = .ok (.ireturn, 1) := by decide +kernel
theorem dX11_count_139 : decode cX11_count 139 = .ok (.aload_n 0, 1) := by decide +kernel
theorem dX11_count_140 : decode cX11_count 140 = .ok (.getfield 35, 3) := by decide +kernel
theorem dX11_count_143 : decode cX11_count 143 = .ok (.bipush 11, 2) := by decide +kernel
theorem dX11_count_145 : decode cX11_count 145 = .ok (.invokevirtual 163, 3) := by decide +kernel
theorem dX11_count_148 : decode cX11_count 148 = .ok (.ireturn, 1) := by decide +kernel
theorem dX11_count_149 : decode cX11_count 149 = .ok (.aload_n 0, 1) := by decide +kernel
theorem dX11_count_150 : decode cX11_count 150 = .ok (.getfield 35, 3) := by decide +kernel
theorem dX11_count_153 : decode cX11_count 153 = .ok (.bipush 10, 2) := by decide +kernel
theorem dX11_count_155 : decode cX11_count 155 = .ok (.invokevirtual 163, 3) := by decide +kernel
theorem dX11_count_158 : decode cX11_count 158 = .ok (.ireturn, 1) := by decide +kernel
theorem dX11_count_159 : decode cX11_count 159 = .ok (.aload_n 0, 1) := by decide +kernel
theorem dX11_count_160 : decode cX11_count 160 = .ok (.getfield 19, 3) := by decide +kernel
theorem dX11_count_163 : decode cX11_count 163 = .ok (.invokevirtual 384, 3) := by decide +kernel
theorem dX11_count_166 : decode cX11_count 166 = .ok (.ireturn, 1) := by decide +kernel
theorem dX11_count_167 : decode cX11_count 167 = .ok (.aload_n 0, 1) := by decide +kernel
theorem dX11_count_168 : decode cX11_count 168 = .ok (.getfield 360, 3) := by decide +kernel
theorem dX11_count_171 : decode cX11_count 171 = .ok (.ireturn, 1) := by decide +kernel
theorem dX11_count_172 : decode cX11_count 172 = .ok (.iconst (-1), 1) := by decide +kernel
theorem dX11_count_173 : decode cX11_count 173 = .ok (.ireturn, 1) := by decide +kernel
theorem dX11_within_0 : decode cX11_within 0 = .ok (.iload_n 0, 1) := by decide +kernel
theorem dX11_within_1 : decode cX11_within 1 = .ok (.iload_n 1, 1) := by decide +kernel
theorem dX11_within_2 : decode cX11_within 2 = .ok (.if_icmp .lt 12, 3) := by decide +kernel
theorem dX11_within_5 : decode cX11_within 5 = .ok (.iload_n 0, 1) := by decide +kernel
theorem dX11_within_6 : decode cX11_within 6 = .ok (.iload_n 2, 1) := by decide +kernel
theorem dX11_within_7 : decode cX11_within 7 = .ok (.if_icmp .gt 7, 3) := by decide +kernel
theorem dX11_within_10 : decode cX11_within 10 = .ok (.iconst 1, 1) := by decide +kernel
theorem dX11_within_11 : decode cX11_within 11 = .ok (.goto 4, 3) := by decide +kernel
theorem dX11_within_14 : decode cX11_within 14 = .ok (.iconst 0, 1) := by decide +kernel
theorem dX11_within_15 : decode cX11_within 15 = .ok (.ireturn, 1) := by decide +kernel
theorem dX11_isDay_0 : decode cX11_isDay 0 = .ok (.iload_n 0, 1) := by decide +kernel
theorem dX11_isDay_1 : decode cX11_isDay 1 = .ok (.iconst 0, 1) := by decide +kernel
theorem dX11_isDay_2 : decode cX11_isDay 2 = .ok (.sipush 9999, 3) := by decide +kernel
theorem dX11_isDay_5 : decode cX11_isDay 5 = .ok (.invokestatic 106, 3) := by decide +kernel
theorem dX11_isDay_8 : decode cX11_isDay 8 = .ok (.ireturn, 1) := by decide +kernel
theorem dX11_isTold_0 : decode cX11_isTold 0 = .ok (.iload_n 0, 1) := by decide +kernel
theorem dX11_isTold_1 : decode cX11_isTold 1 = .ok (.iconst 0, 1) := by decide +kernel
theorem dX11_isTold_2 : decode cX11_isTold 2 = .ok (.ldc 184, 2) := by decide +kernel
theorem dX11_isTold_4 : decode cX11_isTold 4 = .ok (.invokestatic 106, 3) := by decide +kernel
theorem dX11_isTold_7 : decode cX11_isTold 7 = .ok (.ireturn, 1) := by decide +kernel
theorem dX11_held_0 : decode cX11_held 0 = .ok (.ldc2_w 387, 3) := by decide +kernel
theorem dX11_held_3 : decode cX11_held 3 = .ok (.lload_n 0, 1) := by decide +kernel
theorem dX11_held_4 : decode cX11_held 4 = .ok (.invokestatic 389, 3) := by decide +kernel
theorem dX11_held_7 : decode cX11_held 7 = .ok (.l2i, 1) := by decide +kernel
theorem dX11_held_8 : decode cX11_held 8 = .ok (.ireturn, 1) := by decide +kernel
theorem dX11_isPlace_0 : decode cX11_isPlace 0 = .ok (.aload_n 0, 1) := by decide +kernel
theorem dX11_isPlace_1 : decode cX11_isPlace 1 = .ok (.getfield 19, 3) := by decide +kernel
theorem dX11_isPlace_4 : decode cX11_isPlace 4 = .ok (.iload_n 1, 1) := by decide +kernel
theorem dX11_isPlace_5 : decode cX11_isPlace 5 = .ok (.invokevirtual 117, 3) := by decide +kernel
theorem dX11_isPlace_8 : decode cX11_isPlace 8 = .ok (.ifCond .ne 15, 3) := by decide +kernel
theorem dX11_isPlace_11 : decode cX11_isPlace 11 = .ok (.iload_n 1, 1) := by decide +kernel
theorem dX11_isPlace_12 : decode cX11_isPlace 12 = .ok (.bipush 10, 2) := by decide +kernel
theorem dX11_isPlace_14 : decode cX11_isPlace 14 = .ok (.if_icmp .eq 9, 3) := by decide +kernel
theorem dX11_isPlace_17 : decode cX11_isPlace 17 = .ok (.iload_n 1, 1) := by decide +kernel
theorem dX11_isPlace_18 : decode cX11_isPlace 18 = .ok (.bipush 11, 2) := by decide +kernel
theorem dX11_isPlace_20 : decode cX11_isPlace 20 = .ok (.if_icmp .ne 7, 3) := by decide +kernel
theorem dX11_isPlace_23 : decode cX11_isPlace 23 = .ok (.iconst 1, 1) := by decide +kernel
theorem dX11_isPlace_24 : decode cX11_isPlace 24 = .ok (.goto 4, 3) := by decide +kernel
theorem dX11_isPlace_27 : decode cX11_isPlace 27 = .ok (.iconst 0, 1) := by decide +kernel
theorem dX11_isPlace_28 : decode cX11_isPlace 28 = .ok (.ireturn, 1) := by decide +kernel
theorem dX11_takes_0 : decode cX11_takes 0 = .ok (.aload_n 0, 1) := by decide +kernel
theorem dX11_takes_1 : decode cX11_takes 1 = .ok (.getfield 19, 3) := by decide +kernel
theorem dX11_takes_4 : decode cX11_takes 4 = .ok (.iload_n 1, 1) := by decide +kernel
theorem dX11_takes_5 : decode cX11_takes 5 = .ok (.invokevirtual 117, 3) := by decide +kernel
theorem dX11_takes_8 : decode cX11_takes 8 = .ok (.ifCond .ne 5, 3) := by decide +kernel
theorem dX11_takes_11 : decode cX11_takes 11 = .ok (.iconst 1, 1) := by decide +kernel
theorem dX11_takes_12 : decode cX11_takes 12 = .ok (.ireturn, 1) := by decide +kernel
theorem dX11_takes_13 : decode cX11_takes 13 = .ok (.aload_n 0, 1) := by decide +kernel
theorem dX11_takes_14 : decode cX11_takes 14 = .ok (.getfield 19, 3) := by decide +kernel
theorem dX11_takes_17 : decode cX11_takes 17 = .ok (.iload_n 1, 1) := by decide +kernel
theorem dX11_takes_18 : decode cX11_takes 18 = .ok (.invokevirtual 121, 3) := by decide +kernel
theorem dX11_takes_21 : decode cX11_takes 21 = .ok (.ifCond .ne 28, 3) := by decide +kernel
theorem dX11_takes_24 : decode cX11_takes 24 = .ok (.aload_n 0, 1) := by decide +kernel
theorem dX11_takes_25 : decode cX11_takes 25 = .ok (.getfield 35, 3) := by decide +kernel
theorem dX11_takes_28 : decode cX11_takes 28 = .ok (.iload_n 2, 1) := by decide +kernel
theorem dX11_takes_29 : decode cX11_takes 29 = .ok (.iload_n 1, 1) := by decide +kernel
theorem dX11_takes_30 : decode cX11_takes 30 = .ok (.invokevirtual 124, 3) := by decide +kernel
theorem dX11_takes_33 : decode cX11_takes 33 = .ok (.aload_n 0, 1) := by decide +kernel
theorem dX11_takes_34 : decode cX11_takes 34 = .ok (.getfield 19, 3) := by decide +kernel
theorem dX11_takes_37 : decode cX11_takes 37 = .ok (.iload_n 1, 1) := by decide +kernel
theorem dX11_takes_38 : decode cX11_takes 38 = .ok (.iload_n 2, 1) := by decide +kernel
theorem dX11_takes_39 : decode cX11_takes 39 = .ok (.invokevirtual 339, 3) := by decide +kernel
theorem dX11_takes_42 : decode cX11_takes 42 = .ok (.if_icmp .ge 7, 3) := by decide +kernel
theorem dX11_takes_45 : decode cX11_takes 45 = .ok (.iconst 1, 1) := by decide +kernel
theorem dX11_takes_46 : decode cX11_takes 46 = .ok (.goto 4, 3) := by decide +kernel
theorem dX11_takes_49 : decode cX11_takes 49 = .ok (.iconst 0, 1) := by decide +kernel
theorem dX11_takes_50 : decode cX11_takes 50 = .ok (.ireturn, 1) := by decide +kernel
theorem dX11_stayAt_0 : decode cX11_stayAt 0 = .ok (.aload_n 0, 1) := by decide +kernel
theorem dX11_stayAt_1 : decode cX11_stayAt 1 = .ok (.getfield 35, 3) := by decide +kernel
theorem dX11_stayAt_4 : decode cX11_stayAt 4 = .ok (.iload_n 1, 1) := by decide +kernel
theorem dX11_stayAt_5 : decode cX11_stayAt 5 = .ok (.invokevirtual 200, 3) := by decide +kernel
theorem dX11_stayAt_8 : decode cX11_stayAt 8 = .ok (.ifCond .eq 15, 3) := by decide +kernel
theorem dX11_stayAt_11 : decode cX11_stayAt 11 = .ok (.aload_n 0, 1) := by decide +kernel
theorem dX11_stayAt_12 : decode cX11_stayAt 12 = .ok (.getfield 26, 3) := by decide +kernel
theorem dX11_stayAt_15 : decode cX11_stayAt 15 = .ok (.iload_n 1, 1) := by decide +kernel
theorem dX11_stayAt_16 : decode cX11_stayAt 16 = .ok (.iload_n 2, 1) := by decide +kernel
theorem dX11_stayAt_17 : decode cX11_stayAt 17 = .ok (.invokevirtual 393, 3) := by decide +kernel
theorem dX11_stayAt_20 : decode cX11_stayAt 20 = .ok (.goto 4, 3) := by decide +kernel
theorem dX11_stayAt_23 : decode cX11_stayAt 23 = .ok (.iconst (-1), 1) := by decide +kernel
theorem dX11_stayAt_24 : decode cX11_stayAt 24 = .ok (.ireturn, 1) := by decide +kernel
theorem dX11_setReservesAside_0 : decode cX11_setReservesAside 0 = .ok (.iconst 0, 1) := by decide +kernel
theorem dX11_setReservesAside_1 : decode cX11_setReservesAside 1 = .ok (.istore_n 3, 1) := by decide +kernel
theorem dX11_setReservesAside_2 : decode cX11_setReservesAside 2 = .ok (.iload_n 3, 1) := by decide +kernel
theorem dX11_setReservesAside_3 : decode cX11_setReservesAside 3 = .ok (.aload_n 0, 1) := by decide +kernel
theorem dX11_setReservesAside_4 : decode cX11_setReservesAside 4 = .ok (.getfield 10, 3) := by decide +kernel
theorem dX11_setReservesAside_7 : decode cX11_setReservesAside 7 = .ok (.getfield 380, 3) := by decide +kernel
theorem dX11_setReservesAside_10 : decode cX11_setReservesAside 10 = .ok (.if_icmp .ge 42, 3) := by decide +kernel
theorem dX11_setReservesAside_13 : decode cX11_setReservesAside 13 = .ok (.aload_n 0, 1) := by decide +kernel
theorem dX11_setReservesAside_14 : decode cX11_setReservesAside 14 = .ok (.getfield 19, 3) := by decide +kernel
theorem dX11_setReservesAside_17 : decode cX11_setReservesAside 17 = .ok (.iload_n 1, 1) := by decide +kernel
theorem dX11_setReservesAside_18 : decode cX11_setReservesAside 18 = .ok (.iload_n 3, 1) := by decide +kernel
theorem dX11_setReservesAside_19 : decode cX11_setReservesAside 19 = .ok (.iload_n 2, 1) := by decide +kernel
theorem dX11_setReservesAside_20 : decode cX11_setReservesAside 20 = .ok (.i2l, 1) := by decide +kernel
theorem dX11_setReservesAside_21 : decode cX11_setReservesAside 21 = .ok (.aload_n 0, 1) := by decide +kernel
theorem dX11_setReservesAside_22 : decode cX11_setReservesAside 22 = .ok (.getfield 10, 3) := by decide +kernel
theorem dX11_setReservesAside_25 : decode cX11_setReservesAside 25 = .ok (.getfield 396, 3) := by decide +kernel
theorem dX11_setReservesAside_28 : decode cX11_setReservesAside 28 = .ok (.iload_n 3, 1) := by decide +kernel
theorem dX11_setReservesAside_29 : decode cX11_setReservesAside 29 = .ok (.iaload, 1) := by decide +kernel
theorem dX11_setReservesAside_30 : decode cX11_setReservesAside 30 = .ok (.i2l, 1) := by decide +kernel
theorem dX11_setReservesAside_31 : decode cX11_setReservesAside 31 = .ok (.lmul, 1) := by decide +kernel
theorem dX11_setReservesAside_32 : decode cX11_setReservesAside 32 = .ok (.aload_n 0, 1) := by decide +kernel
theorem dX11_setReservesAside_33 : decode cX11_setReservesAside 33 = .ok (.getfield 35, 3) := by decide +kernel
theorem dX11_setReservesAside_36 : decode cX11_setReservesAside 36 = .ok (.iload_n 3, 1) := by decide +kernel
theorem dX11_setReservesAside_37 : decode cX11_setReservesAside 37 = .ok (.iload_n 1, 1) := by decide +kernel
theorem dX11_setReservesAside_38 : decode cX11_setReservesAside 38 = .ok (.invokevirtual 124, 3) := by decide +kernel
theorem dX11_setReservesAside_41 : decode cX11_setReservesAside 41 = .ok (.i2l, 1) := by decide +kernel
theorem dX11_setReservesAside_42 : decode cX11_setReservesAside 42 = .ok (.lmul, 1) := by decide +kernel
theorem dX11_setReservesAside_43 : decode cX11_setReservesAside 43 = .ok (.invokevirtual 399, 3) := by decide +kernel
theorem dX11_setReservesAside_46 : decode cX11_setReservesAside 46 = .ok (.iinc 3 1, 3) := by decide +kernel
theorem dX11_setReservesAside_49 : decode cX11_setReservesAside 49 = .ok (.goto (-47), 3) := by decide +kernel
theorem dX11_setReservesAside_52 : decode cX11_setReservesAside 52 = .ok (.return_, 1) := by decide +kernel
theorem dX12_init_0 : decode cX12_init 0 = .ok (.aload_n 0, 1) := by decide +kernel
theorem dX12_init_1 : decode cX12_init 1 = .ok (.invokespecial 1, 3) := by decide +kernel
theorem dX12_init_4 : decode cX12_init 4 = .ok (.aload_n 0, 1) := by decide +kernel
theorem dX12_init_5 : decode cX12_init 5 = .ok (.bipush 30, 2) := by decide +kernel
theorem dX12_init_7 : decode cX12_init 7 = .ok (.newarray .int, 2) := by decide +kernel
theorem dX12_init_9 : decode cX12_init 9 = .ok (.putfield 7, 3) := by decide +kernel
theorem dX12_init_12 : decode cX12_init 12 = .ok (.aload_n 0, 1) := by decide +kernel
theorem dX12_init_13 : decode cX12_init 13 = .ok (.bipush 10, 2) := by decide +kernel
theorem dX12_init_15 : decode cX12_init 15 = .ok (.newarray .int, 2) := by decide +kernel
theorem dX12_init_17 : decode cX12_init 17 = .ok (.putfield 13, 3) := by decide +kernel
theorem dX12_init_20 : decode cX12_init 20 = .ok (.aload_n 0, 1) := by decide +kernel
theorem dX12_init_21 : decode cX12_init 21 = .ok (.bipush 10, 2) := by decide +kernel
theorem dX12_init_23 : decode cX12_init 23 = .ok (.newarray .int, 2) := by decide +kernel
theorem dX12_init_25 : decode cX12_init 25 = .ok (.putfield 16, 3) := by decide +kernel
theorem dX12_init_28 : decode cX12_init 28 = .ok (.aload_n 0, 1) := by decide +kernel
theorem dX12_init_29 : decode cX12_init 29 = .ok (.bipush 10, 2) := by decide +kernel
theorem dX12_init_31 : decode cX12_init 31 = .ok (.newarray .int, 2) := by decide +kernel
theorem dX12_init_33 : decode cX12_init 33 = .ok (.putfield 19, 3) := by decide +kernel
theorem dX12_init_36 : decode cX12_init 36 = .ok (.aload_n 0, 1) := by decide +kernel
theorem dX12_init_37 : decode cX12_init 37 = .ok (.bipush 10, 2) := by decide +kernel
theorem dX12_init_39 : decode cX12_init 39 = .ok (.newarray .int, 2) := by decide +kernel
theorem dX12_init_41 : decode cX12_init 41 = .ok (.putfield 22, 3) := by decide +kernel
theorem dX12_init_44 : decode cX12_init 44 = .ok (.aload_n 0, 1) := by decide +kernel
theorem dX12_init_45 : decode cX12_init 45 = .ok (.bipush 10, 2) := by decide +kernel
theorem dX12_init_47 : decode cX12_init 47 = .ok (.newarray .int, 2) := by decide +kernel
theorem dX12_init_49 : decode cX12_init 49 = .ok (.putfield 25, 3) := by decide +kernel
theorem dX12_init_52 : decode cX12_init 52 = .ok (.aload_n 0, 1) := by decide +kernel
theorem dX12_init_53 : decode cX12_init 53 = .ok (.bipush 10, 2) := by decide +kernel
theorem dX12_init_55 : decode cX12_init 55 = .ok (.newarray .int, 2) := by decide +kernel
theorem dX12_init_57 : decode cX12_init 57 = .ok (.putfield 28, 3) := by decide +kernel
theorem dX12_init_60 : decode cX12_init 60 = .ok (.aload_n 0, 1) := by decide +kernel
theorem dX12_init_61 : decode cX12_init 61 = .ok (.bipush 10, 2) := by decide +kernel
theorem dX12_init_63 : decode cX12_init 63 = .ok (.newarray .int, 2) := by decide +kernel
theorem dX12_init_65 : decode cX12_init 65 = .ok (.putfield 31, 3) := by decide +kernel
theorem dX12_init_68 : decode cX12_init 68 = .ok (.aload_n 0, 1) := by decide +kernel
theorem dX12_init_69 : decode cX12_init 69 = .ok (.bipush 100, 2) := by decide +kernel
theorem dX12_init_71 : decode cX12_init 71 = .ok (.newarray .int, 2) := by decide +kernel
theorem dX12_init_73 : decode cX12_init 73 = .ok (.putfield 34, 3) := by decide +kernel
theorem dX12_init_76 : decode cX12_init 76 = .ok (.aload_n 0, 1) := by decide +kernel
theorem dX12_init_77 : decode cX12_init 77 = .ok (.bipush 100, 2) := by decide +kernel
theorem dX12_init_79 : decode cX12_init 79 = .ok (.newarray .int, 2) := by decide +kernel
theorem dX12_init_81 : decode cX12_init 81 = .ok (.putfield 37, 3) := by decide +kernel
theorem dX12_init_84 : decode cX12_init 84 = .ok (.aload_n 0, 1) := by decide +kernel
theorem dX12_init_85 : decode cX12_init 85 = .ok (.bipush 100, 2) := by decide +kernel
theorem dX12_init_87 : decode cX12_init 87 = .ok (.newarray .int, 2) := by decide +kernel
theorem dX12_init_89 : decode cX12_init 89 = .ok (.putfield 40, 3) := by decide +kernel
theorem dX12_init_92 : decode cX12_init 92 = .ok (.aload_n 0, 1) := by decide +kernel
theorem dX12_init_93 : decode cX12_init 93 = .ok (.bipush 100, 2) := by decide +kernel
theorem dX12_init_95 : decode cX12_init 95 = .ok (.newarray .int, 2) := by decide +kernel
theorem dX12_init_97 : decode cX12_init 97 = .ok (.putfield 43, 3) := by decide +kernel
theorem dX12_init_100 : decode cX12_init 100 = .ok (.aload_n 0, 1) := by decide +kernel
theorem dX12_init_101 : decode cX12_init 101 = .ok (.bipush 100, 2) := by decide +kernel
theorem dX12_init_103 : decode cX12_init 103 = .ok (.newarray .int, 2) := by decide +kernel
theorem dX12_init_105 : decode cX12_init 105 = .ok (.putfield 46, 3) := by decide +kernel
theorem dX12_init_108 : decode cX12_init 108 = .ok (.aload_n 0, 1) := by decide +kernel
theorem dX12_init_109 : decode cX12_init 109 = .ok (.sipush 300, 3) := by decide +kernel
theorem dX12_init_112 : decode cX12_init 112 = .ok (.newarray .int, 2) := by decide +kernel
theorem dX12_init_114 : decode cX12_init 114 = .ok (.putfield 49, 3) := by decide +kernel
theorem dX12_init_117 : decode cX12_init 117 = .ok (.aload_n 0, 1) := by decide +kernel
theorem dX12_init_118 : decode cX12_init 118 = .ok (.sipush 500, 3) := by decide +kernel
theorem dX12_init_121 : decode cX12_init 121 = .ok (.newarray .int, 2) := by decide +kernel
theorem dX12_init_123 : decode cX12_init 123 = .ok (.putfield 52, 3) := by decide +kernel
theorem dX12_init_126 : decode cX12_init 126 = .ok (.aload_n 0, 1) := by decide +kernel
theorem dX12_init_127 : decode cX12_init 127 = .ok (.sipush 500, 3) := by decide +kernel
theorem dX12_init_130 : decode cX12_init 130 = .ok (.newarray .int, 2) := by decide +kernel
theorem dX12_init_132 : decode cX12_init 132 = .ok (.putfield 55, 3) := by decide +kernel
theorem dX12_init_135 : decode cX12_init 135 = .ok (.aload_n 0, 1) := by decide +kernel
theorem dX12_init_136 : decode cX12_init 136 = .ok (.sipush 500, 3) := by decide +kernel
theorem dX12_init_139 : decode cX12_init 139 = .ok (.newarray .int, 2) := by decide +kernel
theorem dX12_init_141 : decode cX12_init 141 = .ok (.putfield 58, 3) := by decide +kernel
theorem dX12_init_144 : decode cX12_init 144 = .ok (.aload_n 0, 1) := by decide +kernel
theorem dX12_init_145 : decode cX12_init 145 = .ok (.sipush 500, 3) := by decide +kernel
theorem dX12_init_148 : decode cX12_init 148 = .ok (.newarray .int, 2) := by decide +kernel
theorem dX12_init_150 : decode cX12_init 150 = .ok (.putfield 61, 3) := by decide +kernel
theorem dX12_init_153 : decode cX12_init 153 = .ok (.aload_n 0, 1) := by decide +kernel
theorem dX12_init_154 : decode cX12_init 154 = .ok (.sipush 500, 3) := by decide +kernel
theorem dX12_init_157 : decode cX12_init 157 = .ok (.newarray .int, 2) := by decide +kernel
theorem dX12_init_159 : decode cX12_init 159 = .ok (.putfield 64, 3) := by decide +kernel
theorem dX12_init_162 : decode cX12_init 162 = .ok (.aload_n 0, 1) := by decide +kernel
theorem dX12_init_163 : decode cX12_init 163 = .ok (.sipush 500, 3) := by decide +kernel
theorem dX12_init_166 : decode cX12_init 166 = .ok (.newarray .int, 2) := by decide +kernel
theorem dX12_init_168 : decode cX12_init 168 = .ok (.putfield 67, 3) := by decide +kernel
theorem dX12_init_171 : decode cX12_init 171 = .ok (.aload_n 0, 1) := by decide +kernel
theorem dX12_init_172 : decode cX12_init 172 = .ok (.sipush 500, 3) := by decide +kernel
theorem dX12_init_175 : decode cX12_init 175 = .ok (.newarray .int, 2) := by decide +kernel
theorem dX12_init_177 : decode cX12_init 177 = .ok (.putfield 70, 3) := by decide +kernel
theorem dX12_init_180 : decode cX12_init 180 = .ok (.aload_n 0, 1) := by decide +kernel
theorem dX12_init_181 : decode cX12_init 181 = .ok (.sipush 500, 3) := by decide +kernel
theorem dX12_init_184 : decode cX12_init 184 = .ok (.newarray .int, 2) := by decide +kernel
theorem dX12_init_186 : decode cX12_init 186 = .ok (.putfield 73, 3) := by decide +kernel
theorem dX12_init_189 : decode cX12_init 189 = .ok (.aload_n 0, 1) := by decide +kernel
theorem dX12_init_190 : decode cX12_init 190 = .ok (.sipush 500, 3) := by decide +kernel
theorem dX12_init_193 : decode cX12_init 193 = .ok (.newarray .boolean, 2) := by decide +kernel
theorem dX12_init_195 : decode cX12_init 195 = .ok (.putfield 76, 3) := by decide +kernel
theorem dX12_init_198 : decode cX12_init 198 = .ok (.aload_n 0, 1) := by decide +kernel
theorem dX12_init_199 : decode cX12_init 199 = .ok (.bipush 120, 2) := by decide +kernel
theorem dX12_init_201 : decode cX12_init 201 = .ok (.newarray .byte, 2) := by decide +kernel
theorem dX12_init_203 : decode cX12_init 203 = .ok (.putfield 80, 3) := by decide +kernel
theorem dX12_init_206 : decode cX12_init 206 = .ok (.aload_n 0, 1) := by decide +kernel
theorem dX12_init_207 : decode cX12_init 207 = .ok (.bipush 10, 2) := by decide +kernel
theorem dX12_init_209 : decode cX12_init 209 = .ok (.newarray .int, 2) := by decide +kernel
theorem dX12_init_211 : decode cX12_init 211 = .ok (.putfield 84, 3) := by decide +kernel
theorem dX12_init_214 : decode cX12_init 214 = .ok (.aload_n 0, 1) := by decide +kernel
theorem dX12_init_215 : decode cX12_init 215 = .ok (.bipush 10, 2) := by decide +kernel
theorem dX12_init_217 : decode cX12_init 217 = .ok (.newarray .int, 2) := by decide +kernel
theorem dX12_init_219 : decode cX12_init 219 = .ok (.putfield 87, 3) := by decide +kernel
theorem dX12_init_222 : decode cX12_init 222 = .ok (.aload_n 0, 1) := by decide +kernel
theorem dX12_init_223 : decode cX12_init 223 = .ok (.bipush 11, 2) := by decide +kernel
theorem dX12_init_225 : decode cX12_init 225 = .ok (.newarray .int, 2) := by decide +kernel
theorem dX12_init_227 : decode cX12_init 227 = .ok (.putfield 90, 3) := by decide +kernel
theorem dX12_init_230 : decode cX12_init 230 = .ok (.aload_n 0, 1) := by decide +kernel
theorem dX12_init_231 : decode cX12_init 231 = .ok (.sipush 1430, 3) := by decide +kernel
theorem dX12_init_234 : decode cX12_init 234 = .ok (.newarray .int, 2) := by decide +kernel
theorem dX12_init_236 : decode cX12_init 236 = .ok (.putfield 93, 3) := by decide +kernel
theorem dX12_init_239 : decode cX12_init 239 = .ok (.aload_n 0, 1) := by decide +kernel
theorem dX12_init_240 : decode cX12_init 240 = .ok (.sipush 1430, 3) := by decide +kernel
theorem dX12_init_243 : decode cX12_init 243 = .ok (.newarray .int, 2) := by decide +kernel
theorem dX12_init_245 : decode cX12_init 245 = .ok (.putfield 96, 3) := by decide +kernel
theorem dX12_init_248 : decode cX12_init 248 = .ok (.aload_n 0, 1) := by decide +kernel
theorem dX12_init_249 : decode cX12_init 249 = .ok (.sipush 130, 3) := by decide +kernel
theorem dX12_init_252 : decode cX12_init 252 = .ok (.newarray .int, 2) := by decide +kernel
theorem dX12_init_254 : decode cX12_init 254 = .ok (.putfield 99, 3) := by decide +kernel
theorem dX12_init_257 : decode cX12_init 257 = .ok (.aload_n 0, 1) := by decide +kernel
theorem dX12_init_258 : decode cX12_init 258 = .ok (.bipush 6, 2) := by decide +kernel
theorem dX12_init_260 : decode cX12_init 260 = .ok (.newarray .int, 2) := by decide +kernel
theorem dX12_init_262 : decode cX12_init 262 = .ok (.putfield 102, 3) := by decide +kernel
theorem dX12_init_265 : decode cX12_init 265 = .ok (.aload_n 0, 1) := by decide +kernel
theorem dX12_init_266 : decode cX12_init 266 = .ok (.bipush 20, 2) := by decide +kernel
theorem dX12_init_268 : decode cX12_init 268 = .ok (.newarray .int, 2) := by decide +kernel
theorem dX12_init_270 : decode cX12_init 270 = .ok (.putfield 105, 3) := by decide +kernel
theorem dX12_init_273 : decode cX12_init 273 = .ok (.aload_n 0, 1) := by decide +kernel
theorem dX12_init_274 : decode cX12_init 274 = .ok (.bipush 20, 2) := by decide +kernel
theorem dX12_init_276 : decode cX12_init 276 = .ok (.newarray .int, 2) := by decide +kernel
theorem dX12_init_278 : decode cX12_init 278 = .ok (.putfield 108, 3) := by decide +kernel
theorem dX12_init_281 : decode cX12_init 281 = .ok (.aload_n 0, 1) := by decide +kernel
theorem dX12_init_282 : decode cX12_init 282 = .ok (.sipush 200, 3) := by decide +kernel
theorem dX12_init_285 : decode cX12_init 285 = .ok (.newarray .boolean, 2) := by decide +kernel
theorem dX12_init_287 : decode cX12_init 287 = .ok (.putfield 111, 3) := by decide +kernel
theorem dX12_init_290 : decode cX12_init 290 = .ok (.aload_n 0, 1) := by decide +kernel
theorem dX12_init_291 : decode cX12_init 291 = .ok (.bipush 10, 2) := by decide +kernel
theorem dX12_init_293 : decode cX12_init 293 = .ok (.newarray .int, 2) := by decide +kernel
theorem dX12_init_295 : decode cX12_init 295 = .ok (.putfield 114, 3) := by decide +kernel
theorem dX12_init_298 : decode cX12_init 298 = .ok (.aload_n 0, 1) := by decide +kernel
theorem dX12_init_299 : decode cX12_init 299 = .ok (.bipush 10, 2) := by decide +kernel
theorem dX12_init_301 : decode cX12_init 301 = .ok (.newarray .int, 2) := by decide +kernel
theorem dX12_init_303 : decode cX12_init 303 = .ok (.putfield 117, 3) := by decide +kernel
theorem dX12_init_306 : decode cX12_init 306 = .ok (.aload_n 0, 1) := by decide +kernel
theorem dX12_init_307 : decode cX12_init 307 = .ok (.bipush 11, 2) := by decide +kernel
theorem dX12_init_309 : decode cX12_init 309 = .ok (.newarray .int, 2) := by decide +kernel
theorem dX12_init_311 : decode cX12_init 311 = .ok (.putfield 120, 3) := by decide +kernel
theorem dX12_init_314 : decode cX12_init 314 = .ok (.aload_n 0, 1) := by decide +kernel
theorem dX12_init_315 : decode cX12_init 315 = .ok (.sipush 352, 3) := by decide +kernel
theorem dX12_init_318 : decode cX12_init 318 = .ok (.newarray .int, 2) := by decide +kernel
theorem dX12_init_320 : decode cX12_init 320 = .ok (.putfield 123, 3) := by decide +kernel
theorem dX12_init_323 : decode cX12_init 323 = .ok (.aload_n 0, 1) := by decide +kernel
theorem dX12_init_324 : decode cX12_init 324 = .ok (.sipush 352, 3) := by decide +kernel
theorem dX12_init_327 : decode cX12_init 327 = .ok (.newarray .int, 2) := by decide +kernel
theorem dX12_init_329 : decode cX12_init 329 = .ok (.putfield 126, 3) := by decide +kernel
theorem dX12_init_332 : decode cX12_init 332 = .ok (.aload_n 0, 1) := by decide +kernel
theorem dX12_init_333 : decode cX12_init 333 = .ok (.sipush 352, 3) := by decide +kernel
theorem dX12_init_336 : decode cX12_init 336 = .ok (.newarray .int, 2) := by decide +kernel
theorem dX12_init_338 : decode cX12_init 338 = .ok (.putfield 129, 3) := by decide +kernel
theorem dX12_init_341 : decode cX12_init 341 = .ok (.aload_n 0, 1) := by decide +kernel
theorem dX12_init_342 : decode cX12_init 342 = .ok (.sipush 352, 3) := by decide +kernel
theorem dX12_init_345 : decode cX12_init 345 = .ok (.newarray .int, 2) := by decide +kernel
theorem dX12_init_347 : decode cX12_init 347 = .ok (.putfield 132, 3) := by decide +kernel
theorem dX12_init_350 : decode cX12_init 350 = .ok (.aload_n 0, 1) := by decide +kernel
theorem dX12_init_351 : decode cX12_init 351 = .ok (.bipush 100, 2) := by decide +kernel
theorem dX12_init_353 : decode cX12_init 353 = .ok (.newarray .boolean, 2) := by decide +kernel
theorem dX12_init_355 : decode cX12_init 355 = .ok (.putfield 135, 3) := by decide +kernel
theorem dX12_init_358 : decode cX12_init 358 = .ok (.aload_n 0, 1) := by decide +kernel
theorem dX12_init_359 : decode cX12_init 359 = .ok (.bipush 8, 2) := by decide +kernel
theorem dX12_init_361 : decode cX12_init 361 = .ok (.newarray .int, 2) := by decide +kernel
theorem dX12_init_363 : decode cX12_init 363 = .ok (.putfield 138, 3) := by decide +kernel
theorem dX12_init_366 : decode cX12_init 366 = .ok (.aload_n 0, 1) := by decide +kernel
theorem dX12_init_367 : decode cX12_init 367 = .ok (.bipush 10, 2) := by decide +kernel
theorem dX12_init_369 : decode cX12_init 369 = .ok (.newarray .int, 2) := by decide +kernel
theorem dX12_init_371 : decode cX12_init 371 = .ok (.putfield 141, 3) := by decide +kernel
theorem dX12_init_374 : decode cX12_init 374 = .ok (.aload_n 0, 1) := by decide +kernel
theorem dX12_init_375 : decode cX12_init 375 = .ok (.bipush 40, 2) := by decide +kernel
theorem dX12_init_377 : decode cX12_init 377 = .ok (.newarray .int, 2) := by decide +kernel
theorem dX12_init_379 : decode cX12_init 379 = .ok (.putfield 144, 3) := by decide +kernel
theorem dX12_init_382 : decode cX12_init 382 = .ok (.return_, 1) := by decide +kernel
theorem dX12_in_0 : decode cX12_in 0 = .ok (.iload_n 0, 1) := by decide +kernel
theorem dX12_in_1 : decode cX12_in 1 = .ok (.iload_n 1, 1) := by decide +kernel
theorem dX12_in_2 : decode cX12_in 2 = .ok (.if_icmp .lt 12, 3) := by decide +kernel
theorem dX12_in_5 : decode cX12_in 5 = .ok (.iload_n 0, 1) := by decide +kernel
theorem dX12_in_6 : decode cX12_in 6 = .ok (.iload_n 2, 1) := by decide +kernel
theorem dX12_in_7 : decode cX12_in 7 = .ok (.if_icmp .gt 7, 3) := by decide +kernel
theorem dX12_in_10 : decode cX12_in 10 = .ok (.iconst 1, 1) := by decide +kernel
theorem dX12_in_11 : decode cX12_in 11 = .ok (.goto 4, 3) := by decide +kernel
theorem dX12_in_14 : decode cX12_in 14 = .ok (.iconst 0, 1) := by decide +kernel
theorem dX12_in_15 : decode cX12_in 15 = .ok (.ireturn, 1) := by decide +kernel
theorem dX12_isDay_0 : decode cX12_isDay 0 = .ok (.iload_n 0, 1) := by decide +kernel
theorem dX12_isDay_1 : decode cX12_isDay 1 = .ok (.iconst 0, 1) := by decide +kernel
theorem dX12_isDay_2 : decode cX12_isDay 2 = .ok (.sipush 9999, 3) := by decide +kernel
theorem dX12_isDay_5 : decode cX12_isDay 5 = .ok (.invokestatic 151, 3) := by decide +kernel
theorem dX12_isDay_8 : decode cX12_isDay 8 = .ok (.ireturn, 1) := by decide +kernel
theorem dX12_held_0 : decode cX12_held 0 = .ok (.lload_n 0, 1) := by decide +kernel
theorem dX12_held_1 : decode cX12_held 1 = .ok (.ldc2_w 155, 3) := by decide +kernel
theorem dX12_held_4 : decode cX12_held 4 = .ok (.lcmp, 1) := by decide +kernel
theorem dX12_held_5 : decode cX12_held 5 = .ok (.ifCond .le 8, 3) := by decide +kernel
theorem dX12_held_8 : decode cX12_held 8 = .ok (.ldc 157, 2) := by decide +kernel
theorem dX12_held_10 : decode cX12_held 10 = .ok (.goto 5, 3) := by decide +kernel
theorem dX12_held_13 : decode cX12_held 13 = .ok (.lload_n 0, 1) := by decide +kernel
theorem dX12_held_14 : decode cX12_held 14 = .ok (.l2i, 1) := by decide +kernel
theorem dX12_held_15 : decode cX12_held 15 = .ok (.ireturn, 1) := by decide +kernel
theorem dX12_isKind_0 : decode cX12_isKind 0 = .ok (.iload_n 1, 1) := by decide +kernel
theorem dX12_isKind_1 : decode cX12_isKind 1 = .ok (.iconst 0, 1) := by decide +kernel
theorem dX12_isKind_2 : decode cX12_isKind 2 = .ok (.aload_n 0, 1) := by decide +kernel
theorem dX12_isKind_3 : decode cX12_isKind 3 = .ok (.getfield 158, 3) := by decide +kernel
theorem dX12_isKind_6 : decode cX12_isKind 6 = .ok (.iconst 1, 1) := by decide +kernel
theorem dX12_isKind_7 : decode cX12_isKind 7 = .ok (.isub, 1) := by decide +kernel
theorem dX12_isKind_8 : decode cX12_isKind 8 = .ok (.invokestatic 151, 3) := by decide +kernel
theorem dX12_isKind_11 : decode cX12_isKind 11 = .ok (.ireturn, 1) := by decide +kernel
theorem dX12_isPlane_0 : decode cX12_isPlane 0 = .ok (.iload_n 1, 1) := by decide +kernel
theorem dX12_isPlane_1 : decode cX12_isPlane 1 = .ok (.iconst 0, 1) := by decide +kernel
theorem dX12_isPlane_2 : decode cX12_isPlane 2 = .ok (.aload_n 0, 1) := by decide +kernel
theorem dX12_isPlane_3 : decode cX12_isPlane 3 = .ok (.getfield 161, 3) := by decide +kernel
theorem dX12_isPlane_6 : decode cX12_isPlane 6 = .ok (.iconst 1, 1) := by decide +kernel
theorem dX12_isPlane_7 : decode cX12_isPlane 7 = .ok (.isub, 1) := by decide +kernel
theorem dX12_isPlane_8 : decode cX12_isPlane 8 = .ok (.invokestatic 151, 3) := by decide +kernel
theorem dX12_isPlane_11 : decode cX12_isPlane 11 = .ok (.ireturn, 1) := by decide +kernel
theorem dX12_isReturned_0 : decode cX12_isReturned 0 = .ok (.aload_n 0, 1) := by decide +kernel
theorem dX12_isReturned_1 : decode cX12_isReturned 1 = .ok (.getfield 31, 3) := by decide +kernel
theorem dX12_isReturned_4 : decode cX12_isReturned 4 = .ok (.iload_n 1, 1) := by decide +kernel
theorem dX12_isReturned_5 : decode cX12_isReturned 5 = .ok (.iaload, 1) := by decide +kernel
theorem dX12_isReturned_6 : decode cX12_isReturned 6 = .ok (.ifCond .lt 7, 3) := by decide +kernel
theorem dX12_isReturned_9 : decode cX12_isReturned 9 = .ok (.iconst 1, 1) := by decide +kernel
theorem dX12_isReturned_10 : decode cX12_isReturned 10 = .ok (.goto 4, 3) := by decide +kernel
theorem dX12_isReturned_13 : decode cX12_isReturned 13 = .ok (.iconst 0, 1) := by decide +kernel
theorem dX12_isReturned_14 : decode cX12_isReturned 14 = .ok (.ireturn, 1) := by decide +kernel
theorem dX12_kind_0 : decode cX12_kind 0 = .ok (.iload_n 1, 1) := by decide +kernel
theorem dX12_kind_1 : decode cX12_kind 1 = .ok (.iconst 0, 1) := by decide +kernel
theorem dX12_kind_2 : decode cX12_kind 2 = .ok (.ldc 164, 2) := by decide +kernel
theorem dX12_kind_4 : decode cX12_kind 4 = .ok (.invokestatic 151, 3) := by decide +kernel
theorem dX12_kind_7 : decode cX12_kind 7 = .ok (.ifCond .eq 34, 3) := by decide +kernel
theorem dX12_kind_10 : decode cX12_kind 10 = .ok (.iload_n 2, 1) := by decide +kernel
theorem dX12_kind_11 : decode cX12_kind 11 = .ok (.iconst 0, 1) := by decide +kernel
theorem dX12_kind_12 : decode cX12_kind 12 = .ok (.ldc 164, 2) := by decide +kernel
theorem dX12_kind_14 : decode cX12_kind 14 = .ok (.invokestatic 151, 3) := by decide +kernel
theorem dX12_kind_17 : decode cX12_kind 17 = .ok (.ifCond .eq 24, 3) := by decide +kernel
theorem dX12_kind_20 : decode cX12_kind 20 = .ok (.iload_n 3, 1) := by decide +kernel
theorem dX12_kind_21 : decode cX12_kind 21 = .ok (.iconst 0, 1) := by decide +kernel
theorem dX12_kind_22 : decode cX12_kind 22 = .ok (.ldc 164, 2) := by decide +kernel
theorem dX12_kind_24 : decode cX12_kind 24 = .ok (.invokestatic 151, 3) := by decide +kernel
theorem dX12_kind_27 : decode cX12_kind 27 = .ok (.ifCond .eq 14, 3) := by decide +kernel
theorem dX12_kind_30 : decode cX12_kind 30 = .ok (.iload 4, 2) := by decide +kernel
theorem dX12_kind_32 : decode cX12_kind 32 = .ok (.iconst 0, 1) := by decide +kernel
theorem dX12_kind_33 : decode cX12_kind 33 = .ok (.ldc 165, 2) := by decide +kernel
theorem dX12_kind_35 : decode cX12_kind 35 = .ok (.invokestatic 151, 3) := by decide +kernel
theorem dX12_kind_38 : decode cX12_kind 38 = .ok (.ifCond .ne 5, 3) := by decide +kernel
theorem dX12_kind_41 : decode cX12_kind 41 = .ok (.iconst (-1), 1) := by decide +kernel
theorem dX12_kind_42 : decode cX12_kind 42 = .ok (.ireturn, 1) := by decide +kernel
theorem dX12_kind_43 : decode cX12_kind 43 = .ok (.aload_n 0, 1) := by decide +kernel
theorem dX12_kind_44 : decode cX12_kind 44 = .ok (.getfield 158, 3) := by decide +kernel
theorem dX12_kind_47 : decode cX12_kind 47 = .ok (.bipush 10, 2) := by decide +kernel
theorem dX12_kind_49 : decode cX12_kind 49 = .ok (.if_icmp .ne 6, 3) := by decide +kernel
theorem dX12_kind_52 : decode cX12_kind 52 = .ok (.bipush (-3), 2) := by decide +kernel
theorem dX12_kind_54 : decode cX12_kind 54 = .ok (.ireturn, 1) := by decide +kernel
theorem dX12_kind_55 : decode cX12_kind 55 = .ok (.aload_n 0, 1) := by decide +kernel
theorem dX12_kind_56 : decode cX12_kind 56 = .ok (.getfield 7, 3) := by decide +kernel
theorem dX12_kind_59 : decode cX12_kind 59 = .ok (.iconst 3, 1) := by decide +kernel
theorem dX12_kind_60 : decode cX12_kind 60 = .ok (.aload_n 0, 1) := by decide +kernel
theorem dX12_kind_61 : decode cX12_kind 61 = .ok (.getfield 158, 3) := by decide +kernel
theorem dX12_kind_64 : decode cX12_kind 64 = .ok (.imul, 1) := by decide +kernel
theorem dX12_kind_65 : decode cX12_kind 65 = .ok (.iload_n 1, 1) := by decide +kernel
theorem dX12_kind_66 : decode cX12_kind 66 = .ok (.iastore, 1) := by decide +kernel
theorem dX12_kind_67 : decode cX12_kind 67 = .ok (.aload_n 0, 1) := by decide +kernel
theorem dX12_kind_68 : decode cX12_kind 68 = .ok (.getfield 7, 3) := by decide +kernel
theorem dX12_kind_71 : decode cX12_kind 71 = .ok (.iconst 3, 1) := by decide +kernel
theorem dX12_kind_72 : decode cX12_kind 72 = .ok (.aload_n 0, 1) := by decide +kernel
theorem dX12_kind_73 : decode cX12_kind 73 = .ok (.getfield 158, 3) := by decide +kernel
theorem dX12_kind_76 : decode cX12_kind 76 = .ok (.imul, 1) := by decide +kernel
theorem dX12_kind_77 : decode cX12_kind 77 = .ok (.iconst 1, 1) := by decide +kernel
theorem dX12_kind_78 : decode cX12_kind 78 = .ok (.iadd, 1) := by decide +kernel
theorem dX12_kind_79 : decode cX12_kind 79 = .ok (.iload_n 2, 1) := by decide +kernel
theorem dX12_kind_80 : decode cX12_kind 80 = .ok (.iastore, 1) := by decide +kernel
theorem dX12_kind_81 : decode cX12_kind 81 = .ok (.aload_n 0, 1) := by decide +kernel
theorem dX12_kind_82 : decode cX12_kind 82 = .ok (.getfield 7, 3) := by decide +kernel
theorem dX12_kind_85 : decode cX12_kind 85 = .ok (.iconst 3, 1) := by decide +kernel
theorem dX12_kind_86 : decode cX12_kind 86 = .ok (.aload_n 0, 1) := by decide +kernel
theorem dX12_kind_87 : decode cX12_kind 87 = .ok (.getfield 158, 3) := by decide +kernel
theorem dX12_kind_90 : decode cX12_kind 90 = .ok (.imul, 1) := by decide +kernel
theorem dX12_kind_91 : decode cX12_kind 91 = .ok (.iconst 2, 1) := by decide +kernel
theorem dX12_kind_92 : decode cX12_kind 92 = .ok (.iadd, 1) := by decide +kernel
theorem dX12_kind_93 : decode cX12_kind 93 = .ok (.iload_n 3, 1) := by decide +kernel
theorem dX12_kind_94 : decode cX12_kind 94 = .ok (.iastore, 1) := by decide +kernel
theorem dX12_kind_95 : decode cX12_kind 95 = .ok (.aload_n 0, 1) := by decide +kernel
theorem dX12_kind_96 : decode cX12_kind 96 = .ok (.getfield 13, 3) := by decide +kernel
theorem dX12_kind_99 : decode cX12_kind 99 = .ok (.aload_n 0, 1) := by decide +kernel
theorem dX12_kind_100 : decode cX12_kind 100 = .ok (.getfield 158, 3) := by decide +kernel
theorem dX12_kind_103 : decode cX12_kind 103 = .ok (.iload 4, 2) := by decide +kernel
theorem dX12_kind_105 : decode cX12_kind 105 = .ok (.sipush 1000, 3) := by decide +kernel
theorem dX12_kind_108 : decode cX12_kind 108 = .ok (.idiv, 1) := by decide +kernel
theorem dX12_kind_109 : decode cX12_kind 109 = .ok (.iastore, 1) := by decide +kernel
theorem dX12_kind_110 : decode cX12_kind 110 = .ok (.aload_n 0, 1) := by decide +kernel
theorem dX12_kind_111 : decode cX12_kind 111 = .ok (.getfield 16, 3) := by decide +kernel
theorem dX12_kind_114 : decode cX12_kind 114 = .ok (.aload_n 0, 1) := by decide +kernel
theorem dX12_kind_115 : decode cX12_kind 115 = .ok (.getfield 158, 3) := by decide +kernel
theorem dX12_kind_118 : decode cX12_kind 118 = .ok (.iload 4, 2) := by decide +kernel
theorem dX12_kind_120 : decode cX12_kind 120 = .ok (.sipush 1000, 3) := by decide +kernel
theorem dX12_kind_123 : decode cX12_kind 123 = .ok (.irem, 1) := by decide +kernel
theorem dX12_kind_124 : decode cX12_kind 124 = .ok (.iastore, 1) := by decide +kernel
theorem dX12_kind_125 : decode cX12_kind 125 = .ok (.aload_n 0, 1) := by decide +kernel
theorem dX12_kind_126 : decode cX12_kind 126 = .ok (.dup, 1) := by decide +kernel
theorem dX12_kind_127 : decode cX12_kind 127 = .ok (.getfield 158, 3) := by decide +kernel
theorem dX12_kind_130 : decode cX12_kind 130 = .ok (.iconst 1, 1) := by decide +kernel
theorem dX12_kind_131 : decode cX12_kind 131 = .ok (.iadd, 1) := by decide +kernel
theorem dX12_kind_132 : decode cX12_kind 132 = .ok (.putfield 158, 3) := by decide +kernel
theorem dX12_kind_135 : decode cX12_kind 135 = .ok (.aload_n 0, 1) := by decide +kernel
theorem dX12_kind_136 : decode cX12_kind 136 = .ok (.getfield 158, 3) := by decide +kernel
theorem dX12_kind_139 : decode cX12_kind 139 = .ok (.iconst 1, 1) := by decide +kernel
theorem dX12_kind_140 : decode cX12_kind 140 = .ok (.isub, 1) := by decide +kernel
theorem dX12_kind_141 : decode cX12_kind 141 = .ok (.ireturn, 1) := by decide +kernel
theorem dX12_plane_0 : decode cX12_plane 0 = .ok (.iload_n 1, 1) := by decide +kernel
theorem dX12_plane_1 : decode cX12_plane 1 = .ok (.iconst 0, 1) := by decide +kernel
theorem dX12_plane_2 : decode cX12_plane 2 = .ok (.ldc 165, 2) := by decide +kernel
theorem dX12_plane_4 : decode cX12_plane 4 = .ok (.invokestatic 151, 3) := by decide +kernel
theorem dX12_plane_7 : decode cX12_plane 7 = .ok (.ifCond .ne 5, 3) := by decide +kernel
theorem dX12_plane_10 : decode cX12_plane 10 = .ok (.iconst (-1), 1) := by decide +kernel
theorem dX12_plane_11 : decode cX12_plane 11 = .ok (.ireturn, 1) := by decide +kernel
theorem dX12_plane_12 : decode cX12_plane 12 = .ok (.aload_n 0, 1) := by decide +kernel
theorem dX12_plane_13 : decode cX12_plane 13 = .ok (.getfield 161, 3) := by decide +kernel
theorem dX12_plane_16 : decode cX12_plane 16 = .ok (.bipush 10, 2) := by decide +kernel
theorem dX12_plane_18 : decode cX12_plane 18 = .ok (.if_icmp .ne 6, 3) := by decide +kernel
theorem dX12_plane_21 : decode cX12_plane 21 = .ok (.bipush (-3), 2) := by decide +kernel
theorem dX12_plane_23 : decode cX12_plane 23 = .ok (.ireturn, 1) := by decide +kernel
theorem dX12_plane_24 : decode cX12_plane 24 = .ok (.aload_n 0, 1) := by decide +kernel
theorem dX12_plane_25 : decode cX12_plane 25 = .ok (.getfield 19, 3) := by decide +kernel
theorem dX12_plane_28 : decode cX12_plane 28 = .ok (.aload_n 0, 1) := by decide +kernel
theorem dX12_plane_29 : decode cX12_plane 29 = .ok (.getfield 161, 3) := by decide +kernel
theorem dX12_plane_32 : decode cX12_plane 32 = .ok (.iload_n 1, 1) := by decide +kernel
theorem dX12_plane_33 : decode cX12_plane 33 = .ok (.iastore, 1) := by decide +kernel
theorem dX12_plane_34 : decode cX12_plane 34 = .ok (.aload_n 0, 1) := by decide +kernel
theorem dX12_plane_35 : decode cX12_plane 35 = .ok (.getfield 28, 3) := by decide +kernel
theorem dX12_plane_38 : decode cX12_plane 38 = .ok (.aload_n 0, 1) := by decide +kernel
theorem dX12_plane_39 : decode cX12_plane 39 = .ok (.getfield 161, 3) := by decide +kernel
theorem dX12_plane_42 : decode cX12_plane 42 = .ok (.iconst (-1), 1) := by decide +kernel
theorem dX12_plane_43 : decode cX12_plane 43 = .ok (.iastore, 1) := by decide +kernel
theorem dX12_plane_44 : decode cX12_plane 44 = .ok (.aload_n 0, 1) := by decide +kernel
theorem dX12_plane_45 : decode cX12_plane 45 = .ok (.getfield 31, 3) := by decide +kernel
theorem dX12_plane_48 : decode cX12_plane 48 = .ok (.aload_n 0, 1) := by decide +kernel
theorem dX12_plane_49 : decode cX12_plane 49 = .ok (.getfield 161, 3) := by decide +kernel
theorem dX12_plane_52 : decode cX12_plane 52 = .ok (.iconst (-1), 1) := by decide +kernel
theorem dX12_plane_53 : decode cX12_plane 53 = .ok (.iastore, 1) := by decide +kernel
theorem dX12_plane_54 : decode cX12_plane 54 = .ok (.aload_n 0, 1) := by decide +kernel
theorem dX12_plane_55 : decode cX12_plane 55 = .ok (.getfield 114, 3) := by decide +kernel
theorem dX12_plane_58 : decode cX12_plane 58 = .ok (.aload_n 0, 1) := by decide +kernel
theorem dX12_plane_59 : decode cX12_plane 59 = .ok (.getfield 161, 3) := by decide +kernel
theorem dX12_plane_62 : decode cX12_plane 62 = .ok (.iconst (-1), 1) := by decide +kernel
theorem dX12_plane_63 : decode cX12_plane 63 = .ok (.iastore, 1) := by decide +kernel
theorem dX12_plane_64 : decode cX12_plane 64 = .ok (.aload_n 0, 1) := by decide +kernel
theorem dX12_plane_65 : decode cX12_plane 65 = .ok (.dup, 1) := by decide +kernel
theorem dX12_plane_66 : decode cX12_plane 66 = .ok (.getfield 161, 3) := by decide +kernel
theorem dX12_plane_69 : decode cX12_plane 69 = .ok (.iconst 1, 1) := by decide +kernel
theorem dX12_plane_70 : decode cX12_plane 70 = .ok (.iadd, 1) := by decide +kernel
theorem dX12_plane_71 : decode cX12_plane 71 = .ok (.putfield 161, 3) := by decide +kernel
