theorem dX4_workOut_165 : decode cX4_workOut 165 = .ok (.iload 4, 2) := by decide +kernel
theorem dX4_workOut_167 : decode cX4_workOut 167 = .ok (.aload_n 0, 1) := by decide +kernel
theorem dX4_workOut_168 : decode cX4_workOut 168 = .ok (.invokevirtual 40, 3) := by decide +kernel
theorem dX4_workOut_171 : decode cX4_workOut 171 = .ok (.iload 6, 2) := by decide +kernel
theorem dX4_workOut_173 : decode cX4_workOut 173 = .ok (.invokestatic 50, 3) := by decide +kernel
theorem dX4_workOut_176 : decode cX4_workOut 176 = .ok (.invokevirtual 36, 3) := by decide +kernel
theorem dX4_workOut_179 : decode cX4_workOut 179 = .ok (.iinc 3 1, 3) := by decide +kernel
theorem dX4_workOut_182 : decode cX4_workOut 182 = .ok (.goto (-175), 3) := by decide +kernel
theorem dX4_workOut_185 : decode cX4_workOut 185 = .ok (.aload_n 0, 1) := by decide +kernel
theorem dX4_workOut_186 : decode cX4_workOut 186 = .ok (.invokevirtual 40, 3) := by decide +kernel
theorem dX4_workOut_189 : decode cX4_workOut 189 = .ok (.ireturn, 1) := by decide +kernel
theorem dX4_push_0 : decode cX4_push 0 = .ok (.aload_n 0, 1) := by decide +kernel
theorem dX4_push_1 : decode cX4_push 1 = .ok (.getfield 33, 3) := by decide +kernel
theorem dX4_push_4 : decode cX4_push 4 = .ok (.aload_n 0, 1) := by decide +kernel
theorem dX4_push_5 : decode cX4_push 5 = .ok (.getfield 26, 3) := by decide +kernel
theorem dX4_push_8 : decode cX4_push 8 = .ok (.arraylength, 1) := by decide +kernel
theorem dX4_push_9 : decode cX4_push 9 = .ok (.if_icmp .ge 23, 3) := by decide +kernel
theorem dX4_push_12 : decode cX4_push 12 = .ok (.aload_n 0, 1) := by decide +kernel
theorem dX4_push_13 : decode cX4_push 13 = .ok (.getfield 26, 3) := by decide +kernel
theorem dX4_push_16 : decode cX4_push 16 = .ok (.aload_n 0, 1) := by decide +kernel
theorem dX4_push_17 : decode cX4_push 17 = .ok (.getfield 33, 3) := by decide +kernel
theorem dX4_push_20 : decode cX4_push 20 = .ok (.iload_n 1, 1) := by decide +kernel
theorem dX4_push_21 : decode cX4_push 21 = .ok (.iastore, 1) := by decide +kernel
theorem dX4_push_22 : decode cX4_push 22 = .ok (.aload_n 0, 1) := by decide +kernel
theorem dX4_push_23 : decode cX4_push 23 = .ok (.dup, 1) := by decide +kernel
theorem dX4_push_24 : decode cX4_push 24 = .ok (.getfield 33, 3) := by decide +kernel
theorem dX4_push_27 : decode cX4_push 27 = .ok (.iconst 1, 1) := by decide +kernel
theorem dX4_push_28 : decode cX4_push 28 = .ok (.iadd, 1) := by decide +kernel
theorem dX4_push_29 : decode cX4_push 29 = .ok (.putfield 33, 3) := by decide +kernel
theorem dX4_push_32 : decode cX4_push 32 = .ok (.return_, 1) := by decide +kernel
theorem dX4_pop_0 : decode cX4_pop 0 = .ok (.aload_n 0, 1) := by decide +kernel
theorem dX4_pop_1 : decode cX4_pop 1 = .ok (.getfield 33, 3) := by decide +kernel
theorem dX4_pop_4 : decode cX4_pop 4 = .ok (.ifCond .gt 5, 3) := by decide +kernel
theorem dX4_pop_7 : decode cX4_pop 7 = .ok (.iconst 0, 1) := by decide +kernel
theorem dX4_pop_8 : decode cX4_pop 8 = .ok (.ireturn, 1) := by decide +kernel
theorem dX4_pop_9 : decode cX4_pop 9 = .ok (.aload_n 0, 1) := by decide +kernel
theorem dX4_pop_10 : decode cX4_pop 10 = .ok (.dup, 1) := by decide +kernel
theorem dX4_pop_11 : decode cX4_pop 11 = .ok (.getfield 33, 3) := by decide +kernel
theorem dX4_pop_14 : decode cX4_pop 14 = .ok (.iconst 1, 1) := by decide +kernel
theorem dX4_pop_15 : decode cX4_pop 15 = .ok (.isub, 1) := by decide +kernel
theorem dX4_pop_16 : decode cX4_pop 16 = .ok (.putfield 33, 3) := by decide +kernel
theorem dX4_pop_19 : decode cX4_pop 19 = .ok (.aload_n 0, 1) := by decide +kernel
theorem dX4_pop_20 : decode cX4_pop 20 = .ok (.getfield 26, 3) := by decide +kernel
theorem dX4_pop_23 : decode cX4_pop 23 = .ok (.aload_n 0, 1) := by decide +kernel
theorem dX4_pop_24 : decode cX4_pop 24 = .ok (.getfield 33, 3) := by decide +kernel
theorem dX4_pop_27 : decode cX4_pop 27 = .ok (.iaload, 1) := by decide +kernel
theorem dX4_pop_28 : decode cX4_pop 28 = .ok (.ireturn, 1) := by decide +kernel
theorem dX4_join_0 : decode cX4_join 0 = .ok (.iload_n 0, 1) := by decide +kernel
theorem dX4_join_1 : decode cX4_join 1 = .ok (.tableswitch 85 5 10 #[39, 43, 47, 51, 63, 74], 39) := by decide +kernel
theorem dX4_join_40 : decode cX4_join 40 = .ok (.iload_n 1, 1) := by decide +kernel
theorem dX4_join_41 : decode cX4_join 41 = .ok (.iload_n 2, 1) := by decide +kernel
theorem dX4_join_42 : decode cX4_join 42 = .ok (.iadd, 1) := by decide +kernel
theorem dX4_join_43 : decode cX4_join 43 = .ok (.ireturn, 1) := by decide +kernel
theorem dX4_join_44 : decode cX4_join 44 = .ok (.iload_n 1, 1) := by decide +kernel
theorem dX4_join_45 : decode cX4_join 45 = .ok (.iload_n 2, 1) := by decide +kernel
theorem dX4_join_46 : decode cX4_join 46 = .ok (.isub, 1) := by decide +kernel
theorem dX4_join_47 : decode cX4_join 47 = .ok (.ireturn, 1) := by decide +kernel
theorem dX4_join_48 : decode cX4_join 48 = .ok (.iload_n 1, 1) := by decide +kernel
theorem dX4_join_49 : decode cX4_join 49 = .ok (.iload_n 2, 1) := by decide +kernel
theorem dX4_join_50 : decode cX4_join 50 = .ok (.imul, 1) := by decide +kernel
theorem dX4_join_51 : decode cX4_join 51 = .ok (.ireturn, 1) := by decide +kernel
theorem dX4_join_52 : decode cX4_join 52 = .ok (.iload_n 2, 1) := by decide +kernel
theorem dX4_join_53 : decode cX4_join 53 = .ok (.ifCond .ne 7, 3) := by decide +kernel
theorem dX4_join_56 : decode cX4_join 56 = .ok (.iconst 0, 1) := by decide +kernel
theorem dX4_join_57 : decode cX4_join 57 = .ok (.goto 6, 3) := by decide +kernel
theorem dX4_join_60 : decode cX4_join 60 = .ok (.iload_n 1, 1) := by decide +kernel
theorem dX4_join_61 : decode cX4_join 61 = .ok (.iload_n 2, 1) := by decide +kernel
theorem dX4_join_62 : decode cX4_join 62 = .ok (.idiv, 1) := by decide +kernel
theorem dX4_join_63 : decode cX4_join 63 = .ok (.ireturn, 1) := by decide +kernel
theorem dX4_join_64 : decode cX4_join 64 = .ok (.iload_n 1, 1) := by decide +kernel
theorem dX4_join_65 : decode cX4_join 65 = .ok (.iload_n 2, 1) := by decide +kernel
theorem dX4_join_66 : decode cX4_join 66 = .ok (.if_icmp .ge 7, 3) := by decide +kernel
theorem dX4_join_69 : decode cX4_join 69 = .ok (.iconst 1, 1) := by decide +kernel
theorem dX4_join_70 : decode cX4_join 70 = .ok (.goto 4, 3) := by decide +kernel
theorem dX4_join_73 : decode cX4_join 73 = .ok (.iconst 0, 1) := by decide +kernel
theorem dX4_join_74 : decode cX4_join 74 = .ok (.ireturn, 1) := by decide +kernel
theorem dX4_join_75 : decode cX4_join 75 = .ok (.iload_n 1, 1) := by decide +kernel
theorem dX4_join_76 : decode cX4_join 76 = .ok (.iload_n 2, 1) := by decide +kernel
theorem dX4_join_77 : decode cX4_join 77 = .ok (.if_icmp .ne 7, 3) := by decide +kernel
theorem dX4_join_80 : decode cX4_join 80 = .ok (.iconst 1, 1) := by decide +kernel
theorem dX4_join_81 : decode cX4_join 81 = .ok (.goto 4, 3) := by decide +kernel
theorem dX4_join_84 : decode cX4_join 84 = .ok (.iconst 0, 1) := by decide +kernel
theorem dX4_join_85 : decode cX4_join 85 = .ok (.ireturn, 1) := by decide +kernel
theorem dX4_join_86 : decode cX4_join 86 = .ok (.iload_n 1, 1) := by decide +kernel
theorem dX4_join_87 : decode cX4_join 87 = .ok (.iload_n 2, 1) := by decide +kernel
theorem dX4_join_88 : decode cX4_join 88 = .ok (.if_icmp .le 7, 3) := by decide +kernel
theorem dX4_join_91 : decode cX4_join 91 = .ok (.iconst 1, 1) := by decide +kernel
theorem dX4_join_92 : decode cX4_join 92 = .ok (.goto 4, 3) := by decide +kernel
theorem dX4_join_95 : decode cX4_join 95 = .ok (.iconst 0, 1) := by decide +kernel
theorem dX4_join_96 : decode cX4_join 96 = .ok (.ireturn, 1) := by decide +kernel
theorem dX5_init_0 : decode cX5_init 0 = .ok (.aload_n 0, 1) := by decide +kernel
theorem dX5_init_1 : decode cX5_init 1 = .ok (.invokespecial 3, 3) := by decide +kernel
theorem dX5_init_4 : decode cX5_init 4 = .ok (.aload_n 0, 1) := by decide +kernel
theorem dX5_init_5 : decode cX5_init 5 = .ok (.ldc 11, 2) := by decide +kernel
theorem dX5_init_7 : decode cX5_init 7 = .ok (.invokevirtual 13, 3) := by decide +kernel
theorem dX5_init_10 : decode cX5_init 10 = .ok (.newarray .int, 2) := by decide +kernel
theorem dX5_init_12 : decode cX5_init 12 = .ok (.putfield 19, 3) := by decide +kernel
theorem dX5_init_15 : decode cX5_init 15 = .ok (.aload_n 0, 1) := by decide +kernel
theorem dX5_init_16 : decode cX5_init 16 = .ok (.iconst 3, 1) := by decide +kernel
theorem dX5_init_17 : decode cX5_init 17 = .ok (.newarray .int, 2) := by decide +kernel
theorem dX5_init_19 : decode cX5_init 19 = .ok (.putfield 25, 3) := by decide +kernel
theorem dX5_init_22 : decode cX5_init 22 = .ok (.aload_n 0, 1) := by decide +kernel
theorem dX5_init_23 : decode cX5_init 23 = .ok (.aload_n 1, 1) := by decide +kernel
theorem dX5_init_24 : decode cX5_init 24 = .ok (.putfield 28, 3) := by decide +kernel
theorem dX5_init_27 : decode cX5_init 27 = .ok (.aload_n 0, 1) := by decide +kernel
theorem dX5_init_28 : decode cX5_init 28 = .ok (.aload_n 2, 1) := by decide +kernel
theorem dX5_init_29 : decode cX5_init 29 = .ok (.putfield 32, 3) := by decide +kernel
theorem dX5_init_32 : decode cX5_init 32 = .ok (.aload_n 0, 1) := by decide +kernel
theorem dX5_init_33 : decode cX5_init 33 = .ok (.aload_n 2, 1) := by decide +kernel
theorem dX5_init_34 : decode cX5_init 34 = .ok (.getfield 36, 3) := by decide +kernel
theorem dX5_init_37 : decode cX5_init 37 = .ok (.putfield 42, 3) := by decide +kernel
theorem dX5_init_40 : decode cX5_init 40 = .ok (.aload_n 0, 1) := by decide +kernel
theorem dX5_init_41 : decode cX5_init 41 = .ok (.aload_n 3, 1) := by decide +kernel
theorem dX5_init_42 : decode cX5_init 42 = .ok (.putfield 43, 3) := by decide +kernel
theorem dX5_init_45 : decode cX5_init 45 = .ok (.return_, 1) := by decide +kernel
theorem dX5_hundredths_0 : decode cX5_hundredths 0 = .ok (.aload_n 0, 1) := by decide +kernel
theorem dX5_hundredths_1 : decode cX5_hundredths 1 = .ok (.getfield 43, 3) := by decide +kernel
theorem dX5_hundredths_4 : decode cX5_hundredths 4 = .ok (.aload_n 0, 1) := by decide +kernel
theorem dX5_hundredths_5 : decode cX5_hundredths 5 = .ok (.getfield 42, 3) := by decide +kernel
theorem dX5_hundredths_8 : decode cX5_hundredths 8 = .ok (.getfield 47, 3) := by decide +kernel
theorem dX5_hundredths_11 : decode cX5_hundredths 11 = .ok (.iload_n 2, 1) := by decide +kernel
theorem dX5_hundredths_12 : decode cX5_hundredths 12 = .ok (.iaload, 1) := by decide +kernel
theorem dX5_hundredths_13 : decode cX5_hundredths 13 = .ok (.iload_n 3, 1) := by decide +kernel
theorem dX5_hundredths_14 : decode cX5_hundredths 14 = .ok (.invokevirtual 52, 3) := by decide +kernel
theorem dX5_hundredths_17 : decode cX5_hundredths 17 = .ok (.istore 4, 2) := by decide +kernel
theorem dX5_hundredths_19 : decode cX5_hundredths 19 = .ok (.iload 4, 2) := by decide +kernel
theorem dX5_hundredths_21 : decode cX5_hundredths 21 = .ok (.iconst (-1), 1) := by decide +kernel
theorem dX5_hundredths_22 : decode cX5_hundredths 22 = .ok (.if_icmp .ne 5, 3) := by decide +kernel
theorem dX5_hundredths_25 : decode cX5_hundredths 25 = .ok (.iconst 0, 1) := by decide +kernel
theorem dX5_hundredths_26 : decode cX5_hundredths 26 = .ok (.ireturn, 1) := by decide +kernel
theorem dX5_hundredths_27 : decode cX5_hundredths 27 = .ok (.aload_n 0, 1) := by decide +kernel
theorem dX5_hundredths_28 : decode cX5_hundredths 28 = .ok (.getfield 19, 3) := by decide +kernel
theorem dX5_hundredths_31 : decode cX5_hundredths 31 = .ok (.iconst 0, 1) := by decide +kernel
theorem dX5_hundredths_32 : decode cX5_hundredths 32 = .ok (.aload_n 0, 1) := by decide +kernel
theorem dX5_hundredths_33 : decode cX5_hundredths 33 = .ok (.getfield 42, 3) := by decide +kernel
theorem dX5_hundredths_36 : decode cX5_hundredths 36 = .ok (.getfield 47, 3) := by decide +kernel
theorem dX5_hundredths_39 : decode cX5_hundredths 39 = .ok (.iload_n 2, 1) := by decide +kernel
theorem dX5_hundredths_40 : decode cX5_hundredths 40 = .ok (.iaload, 1) := by decide +kernel
theorem dX5_hundredths_41 : decode cX5_hundredths 41 = .ok (.aload_n 0, 1) := by decide +kernel
theorem dX5_hundredths_42 : decode cX5_hundredths 42 = .ok (.getfield 42, 3) := by decide +kernel
theorem dX5_hundredths_45 : decode cX5_hundredths 45 = .ok (.getfield 56, 3) := by decide +kernel
theorem dX5_hundredths_48 : decode cX5_hundredths 48 = .ok (.iload_n 2, 1) := by decide +kernel
theorem dX5_hundredths_49 : decode cX5_hundredths 49 = .ok (.iaload, 1) := by decide +kernel
theorem dX5_hundredths_50 : decode cX5_hundredths 50 = .ok (.isub, 1) := by decide +kernel
theorem dX5_hundredths_51 : decode cX5_hundredths 51 = .ok (.iastore, 1) := by decide +kernel
theorem dX5_hundredths_52 : decode cX5_hundredths 52 = .ok (.aload_n 0, 1) := by decide +kernel
theorem dX5_hundredths_53 : decode cX5_hundredths 53 = .ok (.getfield 19, 3) := by decide +kernel
theorem dX5_hundredths_56 : decode cX5_hundredths 56 = .ok (.iconst 1, 1) := by decide +kernel
theorem dX5_hundredths_57 : decode cX5_hundredths 57 = .ok (.aload_n 0, 1) := by decide +kernel
theorem dX5_hundredths_58 : decode cX5_hundredths 58 = .ok (.getfield 42, 3) := by decide +kernel
theorem dX5_hundredths_61 : decode cX5_hundredths 61 = .ok (.getfield 59, 3) := by decide +kernel
theorem dX5_hundredths_64 : decode cX5_hundredths 64 = .ok (.iload_n 2, 1) := by decide +kernel
theorem dX5_hundredths_65 : decode cX5_hundredths 65 = .ok (.iaload, 1) := by decide +kernel
theorem dX5_hundredths_66 : decode cX5_hundredths 66 = .ok (.aload_n 0, 1) := by decide +kernel
theorem dX5_hundredths_67 : decode cX5_hundredths 67 = .ok (.getfield 42, 3) := by decide +kernel
theorem dX5_hundredths_70 : decode cX5_hundredths 70 = .ok (.getfield 62, 3) := by decide +kernel
theorem dX5_hundredths_73 : decode cX5_hundredths 73 = .ok (.iload_n 2, 1) := by decide +kernel
theorem dX5_hundredths_74 : decode cX5_hundredths 74 = .ok (.iaload, 1) := by decide +kernel
theorem dX5_hundredths_75 : decode cX5_hundredths 75 = .ok (.isub, 1) := by decide +kernel
theorem dX5_hundredths_76 : decode cX5_hundredths 76 = .ok (.iastore, 1) := by decide +kernel
theorem dX5_hundredths_77 : decode cX5_hundredths 77 = .ok (.aload_n 0, 1) := by decide +kernel
theorem dX5_hundredths_78 : decode cX5_hundredths 78 = .ok (.getfield 19, 3) := by decide +kernel
theorem dX5_hundredths_81 : decode cX5_hundredths 81 = .ok (.iconst 2, 1) := by decide +kernel
theorem dX5_hundredths_82 : decode cX5_hundredths 82 = .ok (.aload_n 0, 1) := by decide +kernel
theorem dX5_hundredths_83 : decode cX5_hundredths 83 = .ok (.getfield 42, 3) := by decide +kernel
theorem dX5_hundredths_86 : decode cX5_hundredths 86 = .ok (.getfield 65, 3) := by decide +kernel
theorem dX5_hundredths_89 : decode cX5_hundredths 89 = .ok (.iload_n 2, 1) := by decide +kernel
theorem dX5_hundredths_90 : decode cX5_hundredths 90 = .ok (.iaload, 1) := by decide +kernel
theorem dX5_hundredths_91 : decode cX5_hundredths 91 = .ok (.aload_n 0, 1) := by decide +kernel
theorem dX5_hundredths_92 : decode cX5_hundredths 92 = .ok (.getfield 42, 3) := by decide +kernel
theorem dX5_hundredths_95 : decode cX5_hundredths 95 = .ok (.getfield 68, 3) := by decide +kernel
theorem dX5_hundredths_98 : decode cX5_hundredths 98 = .ok (.iload_n 2, 1) := by decide +kernel
theorem dX5_hundredths_99 : decode cX5_hundredths 99 = .ok (.iaload, 1) := by decide +kernel
theorem dX5_hundredths_100 : decode cX5_hundredths 100 = .ok (.isub, 1) := by decide +kernel
theorem dX5_hundredths_101 : decode cX5_hundredths 101 = .ok (.iastore, 1) := by decide +kernel
theorem dX5_hundredths_102 : decode cX5_hundredths 102 = .ok (.aload_n 0, 1) := by decide +kernel
theorem dX5_hundredths_103 : decode cX5_hundredths 103 = .ok (.getfield 19, 3) := by decide +kernel
theorem dX5_hundredths_106 : decode cX5_hundredths 106 = .ok (.iconst 3, 1) := by decide +kernel
theorem dX5_hundredths_107 : decode cX5_hundredths 107 = .ok (.aload_n 0, 1) := by decide +kernel
theorem dX5_hundredths_108 : decode cX5_hundredths 108 = .ok (.getfield 42, 3) := by decide +kernel
theorem dX5_hundredths_111 : decode cX5_hundredths 111 = .ok (.getfield 71, 3) := by decide +kernel
theorem dX5_hundredths_114 : decode cX5_hundredths 114 = .ok (.iload_n 2, 1) := by decide +kernel
theorem dX5_hundredths_115 : decode cX5_hundredths 115 = .ok (.iaload, 1) := by decide +kernel
theorem dX5_hundredths_116 : decode cX5_hundredths 116 = .ok (.iastore, 1) := by decide +kernel
theorem dX5_hundredths_117 : decode cX5_hundredths 117 = .ok (.aload_n 0, 1) := by decide +kernel
theorem dX5_hundredths_118 : decode cX5_hundredths 118 = .ok (.getfield 19, 3) := by decide +kernel
theorem dX5_hundredths_121 : decode cX5_hundredths 121 = .ok (.iconst 4, 1) := by decide +kernel
theorem dX5_hundredths_122 : decode cX5_hundredths 122 = .ok (.aload_n 0, 1) := by decide +kernel
theorem dX5_hundredths_123 : decode cX5_hundredths 123 = .ok (.getfield 32, 3) := by decide +kernel
theorem dX5_hundredths_126 : decode cX5_hundredths 126 = .ok (.getfield 74, 3) := by decide +kernel
theorem dX5_hundredths_129 : decode cX5_hundredths 129 = .ok (.iload_n 1, 1) := by decide +kernel
theorem dX5_hundredths_130 : decode cX5_hundredths 130 = .ok (.iaload, 1) := by decide +kernel
theorem dX5_hundredths_131 : decode cX5_hundredths 131 = .ok (.iastore, 1) := by decide +kernel
theorem dX5_hundredths_132 : decode cX5_hundredths 132 = .ok (.aload_n 0, 1) := by decide +kernel
theorem dX5_hundredths_133 : decode cX5_hundredths 133 = .ok (.getfield 19, 3) := by decide +kernel
theorem dX5_hundredths_136 : decode cX5_hundredths 136 = .ok (.iconst 5, 1) := by decide +kernel
theorem dX5_hundredths_137 : decode cX5_hundredths 137 = .ok (.aload_n 0, 1) := by decide +kernel
theorem dX5_hundredths_138 : decode cX5_hundredths 138 = .ok (.getfield 42, 3) := by decide +kernel
theorem dX5_hundredths_141 : decode cX5_hundredths 141 = .ok (.iload_n 1, 1) := by decide +kernel
theorem dX5_hundredths_142 : decode cX5_hundredths 142 = .ok (.iload_n 2, 1) := by decide +kernel
theorem dX5_hundredths_143 : decode cX5_hundredths 143 = .ok (.invokevirtual 77, 3) := by decide +kernel
theorem dX5_hundredths_146 : decode cX5_hundredths 146 = .ok (.iastore, 1) := by decide +kernel
theorem dX5_hundredths_147 : decode cX5_hundredths 147 = .ok (.iconst 0, 1) := by decide +kernel
theorem dX5_hundredths_148 : decode cX5_hundredths 148 = .ok (.bipush 100, 2) := by decide +kernel
theorem dX5_hundredths_150 : decode cX5_hundredths 150 = .ok (.aload_n 0, 1) := by decide +kernel
theorem dX5_hundredths_151 : decode cX5_hundredths 151 = .ok (.getfield 43, 3) := by decide +kernel
theorem dX5_hundredths_154 : decode cX5_hundredths 154 = .ok (.iload 4, 2) := by decide +kernel
theorem dX5_hundredths_156 : decode cX5_hundredths 156 = .ok (.aload_n 0, 1) := by decide +kernel
theorem dX5_hundredths_157 : decode cX5_hundredths 157 = .ok (.getfield 19, 3) := by decide +kernel
theorem dX5_hundredths_160 : decode cX5_hundredths 160 = .ok (.invokevirtual 80, 3) := by decide +kernel
theorem dX5_hundredths_163 : decode cX5_hundredths 163 = .ok (.invokestatic 84, 3) := by decide +kernel
theorem dX5_hundredths_166 : decode cX5_hundredths 166 = .ok (.invokestatic 89, 3) := by decide +kernel
theorem dX5_hundredths_169 : decode cX5_hundredths 169 = .ok (.ireturn, 1) := by decide +kernel
theorem dX5_reckon_0 : decode cX5_reckon 0 = .ok (.aload_n 0, 1) := by decide +kernel
theorem dX5_reckon_1 : decode cX5_reckon 1 = .ok (.getfield 32, 3) := by decide +kernel
theorem dX5_reckon_4 : decode cX5_reckon 4 = .ok (.getfield 74, 3) := by decide +kernel
theorem dX5_reckon_7 : decode cX5_reckon 7 = .ok (.iload_n 1, 1) := by decide +kernel
theorem dX5_reckon_8 : decode cX5_reckon 8 = .ok (.iaload, 1) := by decide +kernel
theorem dX5_reckon_9 : decode cX5_reckon 9 = .ok (.istore_n 3, 1) := by decide +kernel
theorem dX5_reckon_10 : decode cX5_reckon 10 = .ok (.iconst 0, 1) := by decide +kernel
theorem dX5_reckon_11 : decode cX5_reckon 11 = .ok (.istore 4, 2) := by decide +kernel
theorem dX5_reckon_13 : decode cX5_reckon 13 = .ok (.iload 4, 2) := by decide +kernel
theorem dX5_reckon_15 : decode cX5_reckon 15 = .ok (.iconst 3, 1) := by decide +kernel
theorem dX5_reckon_16 : decode cX5_reckon 16 = .ok (.if_icmp .ge 37, 3) := by decide +kernel
theorem dX5_reckon_19 : decode cX5_reckon 19 = .ok (.aload_n 0, 1) := by decide +kernel
theorem dX5_reckon_20 : decode cX5_reckon 20 = .ok (.getfield 25, 3) := by decide +kernel
theorem dX5_reckon_23 : decode cX5_reckon 23 = .ok (.iload 4, 2) := by decide +kernel
theorem dX5_reckon_25 : decode cX5_reckon 25 = .ok (.aload_n 0, 1) := by decide +kernel
theorem dX5_reckon_26 : decode cX5_reckon 26 = .ok (.getfield 28, 3) := by decide +kernel
theorem dX5_reckon_29 : decode cX5_reckon 29 = .ok (.iload_n 3, 1) := by decide +kernel
theorem dX5_reckon_30 : decode cX5_reckon 30 = .ok (.iload 4, 2) := by decide +kernel
theorem dX5_reckon_32 : decode cX5_reckon 32 = .ok (.invokevirtual 92, 3) := by decide +kernel
theorem dX5_reckon_35 : decode cX5_reckon 35 = .ok (.aload_n 0, 1) := by decide +kernel
theorem dX5_reckon_36 : decode cX5_reckon 36 = .ok (.getfield 32, 3) := by decide +kernel
theorem dX5_reckon_39 : decode cX5_reckon 39 = .ok (.iload_n 1, 1) := by decide +kernel
theorem dX5_reckon_40 : decode cX5_reckon 40 = .ok (.iload 4, 2) := by decide +kernel
theorem dX5_reckon_42 : decode cX5_reckon 42 = .ok (.invokevirtual 97, 3) := by decide +kernel
theorem dX5_reckon_45 : decode cX5_reckon 45 = .ok (.isub, 1) := by decide +kernel
theorem dX5_reckon_46 : decode cX5_reckon 46 = .ok (.iastore, 1) := by decide +kernel
theorem dX5_reckon_47 : decode cX5_reckon 47 = .ok (.iinc 4 1, 3) := by decide +kernel
theorem dX5_reckon_50 : decode cX5_reckon 50 = .ok (.goto (-37), 3) := by decide +kernel
theorem dX5_reckon_53 : decode cX5_reckon 53 = .ok (.aload_n 0, 1) := by decide +kernel
theorem dX5_reckon_54 : decode cX5_reckon 54 = .ok (.getfield 42, 3) := by decide +kernel
theorem dX5_reckon_57 : decode cX5_reckon 57 = .ok (.getfield 100, 3) := by decide +kernel
theorem dX5_reckon_60 : decode cX5_reckon 60 = .ok (.iload_n 1, 1) := by decide +kernel
theorem dX5_reckon_61 : decode cX5_reckon 61 = .ok (.iaload, 1) := by decide +kernel
theorem dX5_reckon_62 : decode cX5_reckon 62 = .ok (.istore 4, 2) := by decide +kernel
theorem dX5_reckon_64 : decode cX5_reckon 64 = .ok (.iconst 0, 1) := by decide +kernel
theorem dX5_reckon_65 : decode cX5_reckon 65 = .ok (.istore 5, 2) := by decide +kernel
theorem dX5_reckon_67 : decode cX5_reckon 67 = .ok (.iload 5, 2) := by decide +kernel
theorem dX5_reckon_69 : decode cX5_reckon 69 = .ok (.sipush 500, 3) := by decide +kernel
theorem dX5_reckon_72 : decode cX5_reckon 72 = .ok (.if_icmp .ge 52, 3) := by decide +kernel
theorem dX5_reckon_75 : decode cX5_reckon 75 = .ok (.iload 4, 2) := by decide +kernel
theorem dX5_reckon_77 : decode cX5_reckon 77 = .ok (.iconst (-1), 1) := by decide +kernel
theorem dX5_reckon_78 : decode cX5_reckon 78 = .ok (.if_icmp .eq 46, 3) := by decide +kernel
theorem dX5_reckon_81 : decode cX5_reckon 81 = .ok (.aload_n 0, 1) := by decide +kernel
theorem dX5_reckon_82 : decode cX5_reckon 82 = .ok (.getfield 42, 3) := by decide +kernel
theorem dX5_reckon_85 : decode cX5_reckon 85 = .ok (.iload 4, 2) := by decide +kernel
theorem dX5_reckon_87 : decode cX5_reckon 87 = .ok (.invokevirtual 103, 3) := by decide +kernel
theorem dX5_reckon_90 : decode cX5_reckon 90 = .ok (.ifCond .eq 16, 3) := by decide +kernel
theorem dX5_reckon_93 : decode cX5_reckon 93 = .ok (.aload_n 0, 1) := by decide +kernel
theorem dX5_reckon_94 : decode cX5_reckon 94 = .ok (.iload_n 3, 1) := by decide +kernel
theorem dX5_reckon_95 : decode cX5_reckon 95 = .ok (.aload_n 0, 1) := by decide +kernel
theorem dX5_reckon_96 : decode cX5_reckon 96 = .ok (.iload_n 1, 1) := by decide +kernel
theorem dX5_reckon_97 : decode cX5_reckon 97 = .ok (.iload 4, 2) := by decide +kernel
theorem dX5_reckon_99 : decode cX5_reckon 99 = .ok (.iload_n 2, 1) := by decide +kernel
theorem dX5_reckon_100 : decode cX5_reckon 100 = .ok (.invokevirtual 107, 3) := by decide +kernel
theorem dX5_reckon_103 : decode cX5_reckon 103 = .ok (.invokevirtual 111, 3) := by decide +kernel
theorem dX5_reckon_106 : decode cX5_reckon 106 = .ok (.aload_n 0, 1) := by decide +kernel
theorem dX5_reckon_107 : decode cX5_reckon 107 = .ok (.getfield 42, 3) := by decide +kernel
theorem dX5_reckon_110 : decode cX5_reckon 110 = .ok (.getfield 115, 3) := by decide +kernel
theorem dX5_reckon_113 : decode cX5_reckon 113 = .ok (.iload 4, 2) := by decide +kernel
theorem dX5_reckon_115 : decode cX5_reckon 115 = .ok (.iaload, 1) := by decide +kernel
theorem dX5_reckon_116 : decode cX5_reckon 116 = .ok (.istore 4, 2) := by decide +kernel
theorem dX5_reckon_118 : decode cX5_reckon 118 = .ok (.iinc 5 1, 3) := by decide +kernel
theorem dX5_reckon_121 : decode cX5_reckon 121 = .ok (.goto (-54), 3) := by decide +kernel
theorem dX5_reckon_124 : decode cX5_reckon 124 = .ok (.return_, 1) := by decide +kernel
theorem dX5_takeAway_0 : decode cX5_takeAway 0 = .ok (.iconst 0, 1) := by decide +kernel
theorem dX5_takeAway_1 : decode cX5_takeAway 1 = .ok (.istore_n 3, 1) := by decide +kernel
theorem dX5_takeAway_2 : decode cX5_takeAway 2 = .ok (.iload_n 3, 1) := by decide +kernel
theorem dX5_takeAway_3 : decode cX5_takeAway 3 = .ok (.iconst 3, 1) := by decide +kernel
theorem dX5_takeAway_4 : decode cX5_takeAway 4 = .ok (.if_icmp .ge 32, 3) := by decide +kernel
theorem dX5_takeAway_7 : decode cX5_takeAway 7 = .ok (.aload_n 0, 1) := by decide +kernel
theorem dX5_takeAway_8 : decode cX5_takeAway 8 = .ok (.getfield 25, 3) := by decide +kernel
theorem dX5_takeAway_11 : decode cX5_takeAway 11 = .ok (.iload_n 3, 1) := by decide +kernel
theorem dX5_takeAway_12 : decode cX5_takeAway 12 = .ok (.dup2, 1) := by decide +kernel
theorem dX5_takeAway_13 : decode cX5_takeAway 13 = .ok (.iaload, 1) := by decide +kernel
theorem dX5_takeAway_14 : decode cX5_takeAway 14 = .ok (.aload_n 0, 1) := by decide +kernel
theorem dX5_takeAway_15 : decode cX5_takeAway 15 = .ok (.getfield 28, 3) := by decide +kernel
theorem dX5_takeAway_18 : decode cX5_takeAway 18 = .ok (.iload_n 1, 1) := by decide +kernel
theorem dX5_takeAway_19 : decode cX5_takeAway 19 = .ok (.iload_n 3, 1) := by decide +kernel
theorem dX5_takeAway_20 : decode cX5_takeAway 20 = .ok (.invokevirtual 92, 3) := by decide +kernel
theorem dX5_takeAway_23 : decode cX5_takeAway 23 = .ok (.iload_n 2, 1) := by decide +kernel
theorem dX5_takeAway_24 : decode cX5_takeAway 24 = .ok (.imul, 1) := by decide +kernel
theorem dX5_takeAway_25 : decode cX5_takeAway 25 = .ok (.bipush 100, 2) := by decide +kernel
theorem dX5_takeAway_27 : decode cX5_takeAway 27 = .ok (.idiv, 1) := by decide +kernel
theorem dX5_takeAway_28 : decode cX5_takeAway 28 = .ok (.isub, 1) := by decide +kernel
theorem dX5_takeAway_29 : decode cX5_takeAway 29 = .ok (.iastore, 1) := by decide +kernel
theorem dX5_takeAway_30 : decode cX5_takeAway 30 = .ok (.iinc 3 1, 3) := by decide +kernel
theorem dX5_takeAway_33 : decode cX5_takeAway 33 = .ok (.goto (-31), 3) := by decide +kernel
theorem dX5_takeAway_36 : decode cX5_takeAway 36 = .ok (.return_, 1) := by decide +kernel
theorem dX5_leastOf_0 : decode cX5_leastOf 0 = .ok (.aload_n 0, 1) := by decide +kernel
theorem dX5_leastOf_1 : decode cX5_leastOf 1 = .ok (.iload_n 1, 1) := by decide +kernel
theorem dX5_leastOf_2 : decode cX5_leastOf 2 = .ok (.iload_n 2, 1) := by decide +kernel
theorem dX5_leastOf_3 : decode cX5_leastOf 3 = .ok (.invokevirtual 118, 3) := by decide +kernel
theorem dX5_leastOf_6 : decode cX5_leastOf 6 = .ok (.iconst (-1), 1) := by decide +kernel
theorem dX5_leastOf_7 : decode cX5_leastOf 7 = .ok (.istore_n 3, 1) := by decide +kernel
theorem dX5_leastOf_8 : decode cX5_leastOf 8 = .ok (.lconst 0, 1) := by decide +kernel
theorem dX5_leastOf_9 : decode cX5_leastOf 9 = .ok (.lstore 4, 2) := by decide +kernel
theorem dX5_leastOf_11 : decode cX5_leastOf 11 = .ok (.iconst 0, 1) := by decide +kernel
theorem dX5_leastOf_12 : decode cX5_leastOf 12 = .ok (.istore 6, 2) := by decide +kernel
theorem dX5_leastOf_14 : decode cX5_leastOf 14 = .ok (.iload 6, 2) := by decide +kernel
theorem dX5_leastOf_16 : decode cX5_leastOf 16 = .ok (.iconst 3, 1) := by decide +kernel
theorem dX5_leastOf_17 : decode cX5_leastOf 17 = .ok (.if_icmp .ge 72, 3) := by decide +kernel
theorem dX5_leastOf_20 : decode cX5_leastOf 20 = .ok (.aload_n 0, 1) := by decide +kernel
theorem dX5_leastOf_21 : decode cX5_leastOf 21 = .ok (.getfield 28, 3) := by decide +kernel
theorem dX5_leastOf_24 : decode cX5_leastOf 24 = .ok (.aload_n 0, 1) := by decide +kernel
theorem dX5_leastOf_25 : decode cX5_leastOf 25 = .ok (.getfield 32, 3) := by decide +kernel
theorem dX5_leastOf_28 : decode cX5_leastOf 28 = .ok (.getfield 74, 3) := by decide +kernel
theorem dX5_leastOf_31 : decode cX5_leastOf 31 = .ok (.iload_n 1, 1) := by decide +kernel
theorem dX5_leastOf_32 : decode cX5_leastOf 32 = .ok (.iaload, 1) := by decide +kernel
theorem dX5_leastOf_33 : decode cX5_leastOf 33 = .ok (.iload 6, 2) := by decide +kernel
theorem dX5_leastOf_35 : decode cX5_leastOf 35 = .ok (.invokevirtual 92, 3) := by decide +kernel
theorem dX5_leastOf_38 : decode cX5_leastOf 38 = .ok (.istore 7, 2) := by decide +kernel
theorem dX5_leastOf_40 : decode cX5_leastOf 40 = .ok (.iload 7, 2) := by decide +kernel
theorem dX5_leastOf_42 : decode cX5_leastOf 42 = .ok (.ifCond .le 41, 3) := by decide +kernel
theorem dX5_leastOf_45 : decode cX5_leastOf 45 = .ok (.aload_n 0, 1) := by decide +kernel
theorem dX5_leastOf_46 : decode cX5_leastOf 46 = .ok (.getfield 25, 3) := by decide +kernel
theorem dX5_leastOf_49 : decode cX5_leastOf 49 = .ok (.iload 6, 2) := by decide +kernel
theorem dX5_leastOf_51 : decode cX5_leastOf 51 = .ok (.iaload, 1) := by decide +kernel
theorem dX5_leastOf_52 : decode cX5_leastOf 52 = .ok (.i2l, 1) := by decide +kernel
theorem dX5_leastOf_53 : decode cX5_leastOf 53 = .ok (.ldc2_w 121, 3) := by decide +kernel
theorem dX5_leastOf_56 : decode cX5_leastOf 56 = .ok (.lmul, 1) := by decide +kernel
theorem dX5_leastOf_57 : decode cX5_leastOf 57 = .ok (.iload 7, 2) := by decide +kernel
theorem dX5_leastOf_59 : decode cX5_leastOf 59 = .ok (.i2l, 1) := by decide +kernel
theorem dX5_leastOf_60 : decode cX5_leastOf 60 = .ok (.ldiv, 1) := by decide +kernel
theorem dX5_leastOf_61 : decode cX5_leastOf 61 = .ok (.lstore 8, 2) := by decide +kernel
theorem dX5_leastOf_63 : decode cX5_leastOf 63 = .ok (.iload_n 3, 1) := by decide +kernel
theorem dX5_leastOf_64 : decode cX5_leastOf 64 = .ok (.iconst (-1), 1) := by decide +kernel
theorem dX5_leastOf_65 : decode cX5_leastOf 65 = .ok (.if_icmp .eq 11, 3) := by decide +kernel
theorem dX5_leastOf_68 : decode cX5_leastOf 68 = .ok (.lload 8, 2) := by decide +kernel
theorem dX5_leastOf_70 : decode cX5_leastOf 70 = .ok (.lload 4, 2) := by decide +kernel
theorem dX5_leastOf_72 : decode cX5_leastOf 72 = .ok (.lcmp, 1) := by decide +kernel
theorem dX5_leastOf_73 : decode cX5_leastOf 73 = .ok (.ifCond .ge 10, 3) := by decide +kernel
theorem dX5_leastOf_76 : decode cX5_leastOf 76 = .ok (.iload 6, 2) := by decide +kernel
theorem dX5_leastOf_78 : decode cX5_leastOf 78 = .ok (.istore_n 3, 1) := by decide +kernel
theorem dX5_leastOf_79 : decode cX5_leastOf 79 = .ok (.lload 8, 2) := by decide +kernel
theorem dX5_leastOf_81 : decode cX5_leastOf 81 = .ok (.lstore 4, 2) := by decide +kernel
theorem dX5_leastOf_83 : decode cX5_leastOf 83 = .ok (.iinc 6 1, 3) := by decide +kernel
theorem dX5_leastOf_86 : decode cX5_leastOf 86 = .ok (.goto (-72), 3) := by decide +kernel
theorem dX5_leastOf_89 : decode cX5_leastOf 89 = .ok (.iload_n 3, 1) := by decide +kernel
theorem dX5_leastOf_90 : decode cX5_leastOf 90 = .ok (.ireturn, 1) := by decide +kernel
theorem dX5_isWornOut_0 : decode cX5_isWornOut 0 = .ok (.aload_n 0, 1) := by decide +kernel
theorem dX5_isWornOut_1 : decode cX5_isWornOut 1 = .ok (.iload_n 1, 1) := by decide +kernel
theorem dX5_isWornOut_2 : decode cX5_isWornOut 2 = .ok (.iload_n 2, 1) := by decide +kernel
theorem dX5_isWornOut_3 : decode cX5_isWornOut 3 = .ok (.invokevirtual 118, 3) := by decide +kernel
theorem dX5_isWornOut_6 : decode cX5_isWornOut 6 = .ok (.iconst 0, 1) := by decide +kernel
theorem dX5_isWornOut_7 : decode cX5_isWornOut 7 = .ok (.istore_n 3, 1) := by decide +kernel
theorem dX5_isWornOut_8 : decode cX5_isWornOut 8 = .ok (.iload_n 3, 1) := by decide +kernel
theorem dX5_isWornOut_9 : decode cX5_isWornOut 9 = .ok (.iconst 3, 1) := by decide +kernel
theorem dX5_isWornOut_10 : decode cX5_isWornOut 10 = .ok (.if_icmp .ge 40, 3) := by decide +kernel
theorem dX5_isWornOut_13 : decode cX5_isWornOut 13 = .ok (.aload_n 0, 1) := by decide +kernel
theorem dX5_isWornOut_14 : decode cX5_isWornOut 14 = .ok (.getfield 28, 3) := by decide +kernel
theorem dX5_isWornOut_17 : decode cX5_isWornOut 17 = .ok (.aload_n 0, 1) := by decide +kernel
theorem dX5_isWornOut_18 : decode cX5_isWornOut 18 = .ok (.getfield 32, 3) := by decide +kernel
theorem dX5_isWornOut_21 : decode cX5_isWornOut 21 = .ok (.getfield 74, 3) := by decide +kernel
theorem dX5_isWornOut_24 : decode cX5_isWornOut 24 = .ok (.iload_n 1, 1) := by decide +kernel
theorem dX5_isWornOut_25 : decode cX5_isWornOut 25 = .ok (.iaload, 1) := by decide +kernel
theorem dX5_isWornOut_26 : decode cX5_isWornOut 26 = .ok (.iload_n 3, 1) := by decide +kernel
theorem dX5_isWornOut_27 : decode cX5_isWornOut 27 = .ok (.invokevirtual 92, 3) := by decide +kernel
theorem dX5_isWornOut_30 : decode cX5_isWornOut 30 = .ok (.ifCond .le 14, 3) := by decide +kernel
theorem dX5_isWornOut_33 : decode cX5_isWornOut 33 = .ok (.aload_n 0, 1) := by decide +kernel
theorem dX5_isWornOut_34 : decode cX5_isWornOut 34 = .ok (.getfield 25, 3) := by decide +kernel
theorem dX5_isWornOut_37 : decode cX5_isWornOut 37 = .ok (.iload_n 3, 1) := by decide +kernel
theorem dX5_isWornOut_38 : decode cX5_isWornOut 38 = .ok (.iaload, 1) := by decide +kernel
theorem dX5_isWornOut_39 : decode cX5_isWornOut 39 = .ok (.ifCond .ge 5, 3) := by decide +kernel
theorem dX5_isWornOut_42 : decode cX5_isWornOut 42 = .ok (.iconst 1, 1) := by decide +kernel
theorem dX5_isWornOut_43 : decode cX5_isWornOut 43 = .ok (.ireturn, 1) := by decide +kernel
theorem dX5_isWornOut_44 : decode cX5_isWornOut 44 = .ok (.iinc 3 1, 3) := by decide +kernel
theorem dX5_isWornOut_47 : decode cX5_isWornOut 47 = .ok (.goto (-39), 3) := by decide +kernel
theorem dX5_isWornOut_50 : decode cX5_isWornOut 50 = .ok (.iconst 0, 1) := by decide +kernel
theorem dX5_isWornOut_51 : decode cX5_isWornOut 51 = .ok (.ireturn, 1) := by decide +kernel
theorem dX5_halfOf_0 : decode cX5_halfOf 0 = .ok (.lconst 0, 1) := by decide +kernel
theorem dX5_halfOf_1 : decode cX5_halfOf 1 = .ok (.lstore_n 3, 1) := by decide +kernel
theorem dX5_halfOf_2 : decode cX5_halfOf 2 = .ok (.iconst 0, 1) := by decide +kernel
theorem dX5_halfOf_3 : decode cX5_halfOf 3 = .ok (.istore 5, 2) := by decide +kernel
theorem dX5_halfOf_5 : decode cX5_halfOf 5 = .ok (.iload 5, 2) := by decide +kernel
theorem dX5_halfOf_7 : decode cX5_halfOf 7 = .ok (.aload_n 0, 1) := by decide +kernel
theorem dX5_halfOf_8 : decode cX5_halfOf 8 = .ok (.getfield 32, 3) := by decide +kernel
theorem dX5_halfOf_11 : decode cX5_halfOf 11 = .ok (.getfield 123, 3) := by decide +kernel
theorem dX5_halfOf_14 : decode cX5_halfOf 14 = .ok (.if_icmp .ge 33, 3) := by decide +kernel
theorem dX5_halfOf_17 : decode cX5_halfOf 17 = .ok (.aload_n 0, 1) := by decide +kernel
theorem dX5_halfOf_18 : decode cX5_halfOf 18 = .ok (.getfield 32, 3) := by decide +kernel
theorem dX5_halfOf_21 : decode cX5_halfOf 21 = .ok (.getfield 127, 3) := by decide +kernel
theorem dX5_halfOf_24 : decode cX5_halfOf 24 = .ok (.iload 5, 2) := by decide +kernel
theorem dX5_halfOf_26 : decode cX5_halfOf 26 = .ok (.iaload, 1) := by decide +kernel
theorem dX5_halfOf_27 : decode cX5_halfOf 27 = .ok (.iload_n 1, 1) := by decide +kernel
theorem dX5_halfOf_28 : decode cX5_halfOf 28 = .ok (.if_icmp .ne 13, 3) := by decide +kernel
theorem dX5_halfOf_31 : decode cX5_halfOf 31 = .ok (.lload_n 3, 1) := by decide +kernel
theorem dX5_halfOf_32 : decode cX5_halfOf 32 = .ok (.aload_n 0, 1) := by decide +kernel
theorem dX5_halfOf_33 : decode cX5_halfOf 33 = .ok (.iload 5, 2) := by decide +kernel
theorem dX5_halfOf_35 : decode cX5_halfOf 35 = .ok (.iload_n 2, 1) := by decide +kernel
theorem dX5_halfOf_36 : decode cX5_halfOf 36 = .ok (.invokevirtual 130, 3) := by decide +kernel
theorem dX5_halfOf_39 : decode cX5_halfOf 39 = .ok (.ladd, 1) := by decide +kernel
theorem dX5_halfOf_40 : decode cX5_halfOf 40 = .ok (.lstore_n 3, 1) := by decide +kernel
theorem dX5_halfOf_41 : decode cX5_halfOf 41 = .ok (.iinc 5 1, 3) := by decide +kernel
theorem dX5_halfOf_44 : decode cX5_halfOf 44 = .ok (.goto (-39), 3) := by decide +kernel
theorem dX5_halfOf_47 : decode cX5_halfOf 47 = .ok (.ldc2_w 134, 3) := by decide +kernel
theorem dX5_halfOf_50 : decode cX5_halfOf 50 = .ok (.ldc2_w 136, 3) := by decide +kernel
theorem dX5_halfOf_53 : decode cX5_halfOf 53 = .ok (.lload_n 3, 1) := by decide +kernel
theorem dX5_halfOf_54 : decode cX5_halfOf 54 = .ok (.invokestatic 138, 3) := by decide +kernel
theorem dX5_halfOf_57 : decode cX5_halfOf 57 = .ok (.invokestatic 141, 3) := by decide +kernel
theorem dX5_halfOf_60 : decode cX5_halfOf 60 = .ok (.l2i, 1) := by decide +kernel
theorem dX5_halfOf_61 : decode cX5_halfOf 61 = .ok (.ireturn, 1) := by decide +kernel
theorem dX5_halfOfPart_0 : decode cX5_halfOfPart 0 = .ok (.aload_n 0, 1) := by decide +kernel
theorem dX5_halfOfPart_1 : decode cX5_halfOfPart 1 = .ok (.getfield 32, 3) := by decide +kernel
theorem dX5_halfOfPart_4 : decode cX5_halfOfPart 4 = .ok (.getfield 74, 3) := by decide +kernel
theorem dX5_halfOfPart_7 : decode cX5_halfOfPart 7 = .ok (.iload_n 1, 1) := by decide +kernel
theorem dX5_halfOfPart_8 : decode cX5_halfOfPart 8 = .ok (.iaload, 1) := by decide +kernel
theorem dX5_halfOfPart_9 : decode cX5_halfOfPart 9 = .ok (.istore_n 3, 1) := by decide +kernel
theorem dX5_halfOfPart_10 : decode cX5_halfOfPart 10 = .ok (.lconst 0, 1) := by decide +kernel
theorem dX5_halfOfPart_11 : decode cX5_halfOfPart 11 = .ok (.lstore 4, 2) := by decide +kernel
theorem dX5_halfOfPart_13 : decode cX5_halfOfPart 13 = .ok (.aload_n 0, 1) := by decide +kernel
theorem dX5_halfOfPart_14 : decode cX5_halfOfPart 14 = .ok (.iload_n 1, 1) := by decide +kernel
theorem dX5_halfOfPart_15 : decode cX5_halfOfPart 15 = .ok (.iload_n 2, 1) := by decide +kernel
theorem dX5_halfOfPart_16 : decode cX5_halfOfPart 16 = .ok (.invokevirtual 118, 3) := by decide +kernel
theorem dX5_halfOfPart_19 : decode cX5_halfOfPart 19 = .ok (.iconst 0, 1) := by decide +kernel
theorem dX5_halfOfPart_20 : decode cX5_halfOfPart 20 = .ok (.istore 6, 2) := by decide +kernel
theorem dX5_halfOfPart_22 : decode cX5_halfOfPart 22 = .ok (.iload 6, 2) := by decide +kernel
theorem dX5_halfOfPart_24 : decode cX5_halfOfPart 24 = .ok (.iconst 3, 1) := by decide +kernel
theorem dX5_halfOfPart_25 : decode cX5_halfOfPart 25 = .ok (.if_icmp .ge 59, 3) := by decide +kernel
theorem dX5_halfOfPart_28 : decode cX5_halfOfPart 28 = .ok (.aload_n 0, 1) := by decide +kernel
theorem dX5_halfOfPart_29 : decode cX5_halfOfPart 29 = .ok (.getfield 28, 3) := by decide +kernel
theorem dX5_halfOfPart_32 : decode cX5_halfOfPart 32 = .ok (.iload_n 3, 1) := by decide +kernel
theorem dX5_halfOfPart_33 : decode cX5_halfOfPart 33 = .ok (.iload 6, 2) := by decide +kernel
theorem dX5_halfOfPart_35 : decode cX5_halfOfPart 35 = .ok (.invokevirtual 92, 3) := by decide +kernel
theorem dX5_halfOfPart_38 : decode cX5_halfOfPart 38 = .ok (.istore 7, 2) := by decide +kernel
theorem dX5_halfOfPart_40 : decode cX5_halfOfPart 40 = .ok (.iload 7, 2) := by decide +kernel
theorem dX5_halfOfPart_42 : decode cX5_halfOfPart 42 = .ok (.ifCond .le 36, 3) := by decide +kernel
theorem dX5_halfOfPart_45 : decode cX5_halfOfPart 45 = .ok (.lload 4, 2) := by decide +kernel
theorem dX5_halfOfPart_47 : decode cX5_halfOfPart 47 = .ok (.aload_n 0, 1) := by decide +kernel
theorem dX5_halfOfPart_48 : decode cX5_halfOfPart 48 = .ok (.getfield 25, 3) := by decide +kernel
theorem dX5_halfOfPart_51 : decode cX5_halfOfPart 51 = .ok (.iload 6, 2) := by decide +kernel
theorem dX5_halfOfPart_53 : decode cX5_halfOfPart 53 = .ok (.iaload, 1) := by decide +kernel
theorem dX5_halfOfPart_54 : decode cX5_halfOfPart 54 = .ok (.iload 7, 2) := by decide +kernel
theorem dX5_halfOfPart_56 : decode cX5_halfOfPart 56 = .ok (.iconst 2, 1) := by decide +kernel
theorem dX5_halfOfPart_57 : decode cX5_halfOfPart 57 = .ok (.idiv, 1) := by decide +kernel
theorem dX5_halfOfPart_58 : decode cX5_halfOfPart 58 = .ok (.isub, 1) := by decide +kernel
theorem dX5_halfOfPart_59 : decode cX5_halfOfPart 59 = .ok (.i2l, 1) := by decide +kernel
theorem dX5_halfOfPart_60 : decode cX5_halfOfPart 60 = .ok (.aload_n 0, 1) := by decide +kernel
theorem dX5_halfOfPart_61 : decode cX5_halfOfPart 61 = .ok (.getfield 28, 3) := by decide +kernel
theorem dX5_halfOfPart_64 : decode cX5_halfOfPart 64 = .ok (.getfield 143, 3) := by decide +kernel
theorem dX5_halfOfPart_67 : decode cX5_halfOfPart 67 = .ok (.iload_n 3, 1) := by decide +kernel
theorem dX5_halfOfPart_68 : decode cX5_halfOfPart 68 = .ok (.iaload, 1) := by decide +kernel
theorem dX5_halfOfPart_69 : decode cX5_halfOfPart 69 = .ok (.i2l, 1) := by decide +kernel
theorem dX5_halfOfPart_70 : decode cX5_halfOfPart 70 = .ok (.lmul, 1) := by decide +kernel
theorem dX5_halfOfPart_71 : decode cX5_halfOfPart 71 = .ok (.ldc2_w 146, 3) := by decide +kernel
theorem dX5_halfOfPart_74 : decode cX5_halfOfPart 74 = .ok (.ldiv, 1) := by decide +kernel
theorem dX5_halfOfPart_75 : decode cX5_halfOfPart 75 = .ok (.ladd, 1) := by decide +kernel
theorem dX5_halfOfPart_76 : decode cX5_halfOfPart 76 = .ok (.lstore 4, 2) := by decide +kernel
theorem dX5_halfOfPart_78 : decode cX5_halfOfPart 78 = .ok (.iinc 6 1, 3) := by decide +kernel
theorem dX5_halfOfPart_81 : decode cX5_halfOfPart 81 = .ok (.goto (-59), 3) := by decide +kernel
theorem dX5_halfOfPart_84 : decode cX5_halfOfPart 84 = .ok (.lload 4, 2) := by decide +kernel
theorem dX5_halfOfPart_86 : decode cX5_halfOfPart 86 = .ok (.lreturn, 1) := by decide +kernel
theorem dX6_init_0 : decode cX6_init 0 = .ok (.aload_n 0, 1) := by decide +kernel
theorem dX6_init_1 : decode cX6_init 1 = .ok (.invokespecial 3, 3) := by decide +kernel
theorem dX6_init_4 : decode cX6_init 4 = .ok (.aload_n 0, 1) := by decide +kernel
theorem dX6_init_5 : decode cX6_init 5 = .ok (.bipush 20, 2) := by decide +kernel
theorem dX6_init_7 : decode cX6_init 7 = .ok (.newarray .int, 2) := by decide +kernel
theorem dX6_init_9 : decode cX6_init 9 = .ok (.putfield 9, 3) := by decide +kernel
theorem dX6_init_12 : decode cX6_init 12 = .ok (.aload_n 0, 1) := by decide +kernel
theorem dX6_init_13 : decode cX6_init 13 = .ok (.bipush 20, 2) := by decide +kernel
theorem dX6_init_15 : decode cX6_init 15 = .ok (.newarray .int, 2) := by decide +kernel
theorem dX6_init_17 : decode cX6_init 17 = .ok (.putfield 15, 3) := by decide +kernel
theorem dX6_init_20 : decode cX6_init 20 = .ok (.aload_n 0, 1) := by decide +kernel
theorem dX6_init_21 : decode cX6_init 21 = .ok (.sipush 200, 3) := by decide +kernel
theorem dX6_init_24 : decode cX6_init 24 = .ok (.newarray .boolean, 2) := by decide +kernel
theorem dX6_init_26 : decode cX6_init 26 = .ok (.putfield 18, 3) := by decide +kernel
theorem dX6_init_29 : decode cX6_init 29 = .ok (.aload_n 0, 1) := by decide +kernel
theorem dX6_init_30 : decode cX6_init 30 = .ok (.aload_n 1, 1) := by decide +kernel
theorem dX6_init_31 : decode cX6_init 31 = .ok (.putfield 22, 3) := by decide +kernel
theorem dX6_init_34 : decode cX6_init 34 = .ok (.return_, 1) := by decide +kernel
theorem dX6_has_0 : decode cX6_has 0 = .ok (.iload_n 1, 1) := by decide +kernel
theorem dX6_has_1 : decode cX6_has 1 = .ok (.ifCond .lt 15, 3) := by decide +kernel
theorem dX6_has_4 : decode cX6_has 4 = .ok (.iload_n 1, 1) := by decide +kernel
theorem dX6_has_5 : decode cX6_has 5 = .ok (.aload_n 0, 1) := by decide +kernel
theorem dX6_has_6 : decode cX6_has 6 = .ok (.getfield 26, 3) := by decide +kernel
theorem dX6_has_9 : decode cX6_has 9 = .ok (.if_icmp .ge 7, 3) := by decide +kernel
theorem dX6_has_12 : decode cX6_has 12 = .ok (.iconst 1, 1) := by decide +kernel
theorem dX6_has_13 : decode cX6_has 13 = .ok (.goto 4, 3) := by decide +kernel
theorem dX6_has_16 : decode cX6_has 16 = .ok (.iconst 0, 1) := by decide +kernel
theorem dX6_has_17 : decode cX6_has 17 = .ok (.ireturn, 1) := by decide +kernel
theorem dX6_add_0 : decode cX6_add 0 = .ok (.aload_n 0, 1) := by decide +kernel
theorem dX6_add_1 : decode cX6_add 1 = .ok (.getfield 26, 3) := by decide +kernel
theorem dX6_add_4 : decode cX6_add 4 = .ok (.bipush 20, 2) := by decide +kernel
theorem dX6_add_6 : decode cX6_add 6 = .ok (.if_icmp .lt 6, 3) := by decide +kernel
theorem dX6_add_9 : decode cX6_add 9 = .ok (.bipush (-3), 2) := by decide +kernel
theorem dX6_add_11 : decode cX6_add 11 = .ok (.ireturn, 1) := by decide +kernel
theorem dX6_add_12 : decode cX6_add 12 = .ok (.aload_n 0, 1) := by decide +kernel
theorem dX6_add_13 : decode cX6_add 13 = .ok (.getfield 9, 3) := by decide +kernel
