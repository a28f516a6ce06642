theorem dX2_add_25 : decode cX2_add 25 = .ok (.iastore, 1) := by decide +kernel
theorem dX2_add_26 : decode cX2_add 26 = .ok (.aload_n 0, 1) := by decide +kernel
theorem dX2_add_27 : decode cX2_add 27 = .ok (.getfield 9, 3) := by decide +kernel
theorem dX2_add_30 : decode cX2_add 30 = .ok (.aload_n 0, 1) := by decide +kernel
theorem dX2_add_31 : decode cX2_add 31 = .ok (.getfield 21, 3) := by decide +kernel
theorem dX2_add_34 : decode cX2_add 34 = .ok (.iconst 3, 1) := by decide +kernel
theorem dX2_add_35 : decode cX2_add 35 = .ok (.imul, 1) := by decide +kernel
theorem dX2_add_36 : decode cX2_add 36 = .ok (.iconst 1, 1) := by decide +kernel
theorem dX2_add_37 : decode cX2_add 37 = .ok (.iadd, 1) := by decide +kernel
theorem dX2_add_38 : decode cX2_add 38 = .ok (.iload_n 2, 1) := by decide +kernel
theorem dX2_add_39 : decode cX2_add 39 = .ok (.iastore, 1) := by decide +kernel
theorem dX2_add_40 : decode cX2_add 40 = .ok (.aload_n 0, 1) := by decide +kernel
theorem dX2_add_41 : decode cX2_add 41 = .ok (.getfield 9, 3) := by decide +kernel
theorem dX2_add_44 : decode cX2_add 44 = .ok (.aload_n 0, 1) := by decide +kernel
theorem dX2_add_45 : decode cX2_add 45 = .ok (.getfield 21, 3) := by decide +kernel
theorem dX2_add_48 : decode cX2_add 48 = .ok (.iconst 3, 1) := by decide +kernel
theorem dX2_add_49 : decode cX2_add 49 = .ok (.imul, 1) := by decide +kernel
theorem dX2_add_50 : decode cX2_add 50 = .ok (.iconst 2, 1) := by decide +kernel
theorem dX2_add_51 : decode cX2_add 51 = .ok (.iadd, 1) := by decide +kernel
theorem dX2_add_52 : decode cX2_add 52 = .ok (.iload_n 3, 1) := by decide +kernel
theorem dX2_add_53 : decode cX2_add 53 = .ok (.iastore, 1) := by decide +kernel
theorem dX2_add_54 : decode cX2_add 54 = .ok (.aload_n 0, 1) := by decide +kernel
theorem dX2_add_55 : decode cX2_add 55 = .ok (.getfield 15, 3) := by decide +kernel
theorem dX2_add_58 : decode cX2_add 58 = .ok (.aload_n 0, 1) := by decide +kernel
theorem dX2_add_59 : decode cX2_add 59 = .ok (.getfield 21, 3) := by decide +kernel
theorem dX2_add_62 : decode cX2_add 62 = .ok (.iload 4, 2) := by decide +kernel
theorem dX2_add_64 : decode cX2_add 64 = .ok (.sipush 1000, 3) := by decide +kernel
theorem dX2_add_67 : decode cX2_add 67 = .ok (.idiv, 1) := by decide +kernel
theorem dX2_add_68 : decode cX2_add 68 = .ok (.iastore, 1) := by decide +kernel
theorem dX2_add_69 : decode cX2_add 69 = .ok (.aload_n 0, 1) := by decide +kernel
theorem dX2_add_70 : decode cX2_add 70 = .ok (.getfield 18, 3) := by decide +kernel
theorem dX2_add_73 : decode cX2_add 73 = .ok (.aload_n 0, 1) := by decide +kernel
theorem dX2_add_74 : decode cX2_add 74 = .ok (.getfield 21, 3) := by decide +kernel
theorem dX2_add_77 : decode cX2_add 77 = .ok (.iload 4, 2) := by decide +kernel
theorem dX2_add_79 : decode cX2_add 79 = .ok (.sipush 1000, 3) := by decide +kernel
theorem dX2_add_82 : decode cX2_add 82 = .ok (.irem, 1) := by decide +kernel
theorem dX2_add_83 : decode cX2_add 83 = .ok (.iastore, 1) := by decide +kernel
theorem dX2_add_84 : decode cX2_add 84 = .ok (.aload_n 0, 1) := by decide +kernel
theorem dX2_add_85 : decode cX2_add 85 = .ok (.dup, 1) := by decide +kernel
theorem dX2_add_86 : decode cX2_add 86 = .ok (.getfield 21, 3) := by decide +kernel
theorem dX2_add_89 : decode cX2_add 89 = .ok (.dup_x1, 1) := by decide +kernel
theorem dX2_add_90 : decode cX2_add 90 = .ok (.iconst 1, 1) := by decide +kernel
theorem dX2_add_91 : decode cX2_add 91 = .ok (.iadd, 1) := by decide +kernel
theorem dX2_add_92 : decode cX2_add 92 = .ok (.putfield 21, 3) := by decide +kernel
theorem dX2_add_95 : decode cX2_add 95 = .ok (.ireturn, 1) := by decide +kernel
theorem dX11_kind_0 : decode cX11_kind 0 = .ok (.iload_n 1, 1) := by decide +kernel
theorem dX11_kind_1 : decode cX11_kind 1 = .ok (.invokestatic 101, 3) := by decide +kernel
theorem dX11_kind_4 : decode cX11_kind 4 = .ok (.ifCond .eq 28, 3) := by decide +kernel
theorem dX11_kind_32 : decode cX11_kind 32 = .ok (.iconst (-1), 1) := by decide +kernel
theorem dX11_kind_33 : decode cX11_kind 33 = .ok (.ireturn, 1) := by decide +kernel
theorem dX11_kind_7 : decode cX11_kind 7 = .ok (.iload_n 2, 1) := by decide +kernel
theorem dX11_kind_8 : decode cX11_kind 8 = .ok (.invokestatic 101, 3) := by decide +kernel
theorem dX11_kind_11 : decode cX11_kind 11 = .ok (.ifCond .eq 21, 3) := by decide +kernel
theorem dX11_kind_14 : decode cX11_kind 14 = .ok (.iload_n 3, 1) := by decide +kernel
theorem dX11_kind_15 : decode cX11_kind 15 = .ok (.invokestatic 101, 3) := by decide +kernel
theorem dX11_kind_18 : decode cX11_kind 18 = .ok (.ifCond .eq 14, 3) := by decide +kernel
theorem dX11_kind_21 : decode cX11_kind 21 = .ok (.iload 4, 2) := by decide +kernel
theorem dX11_kind_23 : decode cX11_kind 23 = .ok (.iconst 0, 1) := by decide +kernel
theorem dX11_kind_24 : decode cX11_kind 24 = .ok (.ldc 105, 2) := by decide +kernel
theorem dX11_kind_26 : decode cX11_kind 26 = .ok (.invokestatic 106, 3) := by decide +kernel
theorem dX11_kind_29 : decode cX11_kind 29 = .ok (.ifCond .ne 5, 3) := by decide +kernel
theorem dX11_kind_34 : decode cX11_kind 34 = .ok (.aload_n 0, 1) := by decide +kernel
theorem dX11_kind_35 : decode cX11_kind 35 = .ok (.getfield 10, 3) := by decide +kernel
theorem dX11_kind_38 : decode cX11_kind 38 = .ok (.iload_n 1, 1) := by decide +kernel
theorem dX11_kind_39 : decode cX11_kind 39 = .ok (.iload_n 2, 1) := by decide +kernel
theorem dX11_kind_40 : decode cX11_kind 40 = .ok (.iload_n 3, 1) := by decide +kernel
theorem dX11_kind_41 : decode cX11_kind 41 = .ok (.iload 4, 2) := by decide +kernel
theorem dX11_kind_43 : decode cX11_kind 43 = .ok (.invokevirtual 110, 3) := by decide +kernel
theorem dX11_kind_46 : decode cX11_kind 46 = .ok (.ireturn, 1) := by decide +kernel
theorem dX12_kind_0 : decode cX12_kind 0 = .ok (.iload_n 1, 1) := by decide +kernel
theorem dX12_kind_1 : decode cX12_kind 1 = .ok (.iconst 0, 1) := by decide +kernel
theorem dX12_kind_2 : decode cX12_kind 2 = .ok (.ldc 164, 2) := by decide +kernel
theorem dX12_kind_4 : decode cX12_kind 4 = .ok (.invokestatic 151, 3) := by decide +kernel
theorem dX12_kind_7 : decode cX12_kind 7 = .ok (.ifCond .eq 34, 3) := by decide +kernel
theorem dX12_kind_41 : decode cX12_kind 41 = .ok (.iconst (-1), 1) := by decide +kernel
theorem dX12_kind_42 : decode cX12_kind 42 = .ok (.ireturn, 1) := by decide +kernel
theorem dX12_kind_10 : decode cX12_kind 10 = .ok (.iload_n 2, 1) := by decide +kernel
theorem dX12_kind_11 : decode cX12_kind 11 = .ok (.iconst 0, 1) := by decide +kernel
theorem dX12_kind_12 : decode cX12_kind 12 = .ok (.ldc 164, 2) := by decide +kernel
theorem dX12_kind_14 : decode cX12_kind 14 = .ok (.invokestatic 151, 3) := by decide +kernel
theorem dX12_kind_17 : decode cX12_kind 17 = .ok (.ifCond .eq 24, 3) := by decide +kernel
theorem dX12_kind_20 : decode cX12_kind 20 = .ok (.iload_n 3, 1) := by decide +kernel
theorem dX12_kind_21 : decode cX12_kind 21 = .ok (.iconst 0, 1) := by decide +kernel
theorem dX12_kind_22 : decode cX12_kind 22 = .ok (.ldc 164, 2) := by decide +kernel
theorem dX12_kind_24 : decode cX12_kind 24 = .ok (.invokestatic 151, 3) := by decide +kernel
theorem dX12_kind_27 : decode cX12_kind 27 = .ok (.ifCond .eq 14, 3) := by decide +kernel
theorem dX12_kind_30 : decode cX12_kind 30 = .ok (.iload 4, 2) := by decide +kernel
theorem dX12_kind_32 : decode cX12_kind 32 = .ok (.iconst 0, 1) := by decide +kernel
theorem dX12_kind_33 : decode cX12_kind 33 = .ok (.ldc 165, 2) := by decide +kernel
theorem dX12_kind_35 : decode cX12_kind 35 = .ok (.invokestatic 151, 3) := by decide +kernel
theorem dX12_kind_38 : decode cX12_kind 38 = .ok (.ifCond .ne 5, 3) := by decide +kernel
theorem dX12_kind_43 : decode cX12_kind 43 = .ok (.aload_n 0, 1) := by decide +kernel
theorem dX12_kind_44 : decode cX12_kind 44 = .ok (.getfield 158, 3) := by decide +kernel
theorem dX12_kind_47 : decode cX12_kind 47 = .ok (.bipush 10, 2) := by decide +kernel
theorem dX12_kind_49 : decode cX12_kind 49 = .ok (.if_icmp .ne 6, 3) := by decide +kernel
theorem dX12_kind_55 : decode cX12_kind 55 = .ok (.aload_n 0, 1) := by decide +kernel
theorem dX12_kind_56 : decode cX12_kind 56 = .ok (.getfield 7, 3) := by decide +kernel
theorem dX12_kind_59 : decode cX12_kind 59 = .ok (.iconst 3, 1) := by decide +kernel
theorem dX12_kind_60 : decode cX12_kind 60 = .ok (.aload_n 0, 1) := by decide +kernel
theorem dX12_kind_61 : decode cX12_kind 61 = .ok (.getfield 158, 3) := by decide +kernel
theorem dX12_kind_64 : decode cX12_kind 64 = .ok (.imul, 1) := by decide +kernel
theorem dX12_kind_65 : decode cX12_kind 65 = .ok (.iload_n 1, 1) := by decide +kernel
theorem dX12_kind_66 : decode cX12_kind 66 = .ok (.iastore, 1) := by decide +kernel
theorem dX12_kind_67 : decode cX12_kind 67 = .ok (.aload_n 0, 1) := by decide +kernel
theorem dX12_kind_68 : decode cX12_kind 68 = .ok (.getfield 7, 3) := by decide +kernel
theorem dX12_kind_71 : decode cX12_kind 71 = .ok (.iconst 3, 1) := by decide +kernel
theorem dX12_kind_72 : decode cX12_kind 72 = .ok (.aload_n 0, 1) := by decide +kernel
theorem dX12_kind_73 : decode cX12_kind 73 = .ok (.getfield 158, 3) := by decide +kernel
theorem dX12_kind_76 : decode cX12_kind 76 = .ok (.imul, 1) := by decide +kernel
theorem dX12_kind_77 : decode cX12_kind 77 = .ok (.iconst 1, 1) := by decide +kernel
theorem dX12_kind_78 : decode cX12_kind 78 = .ok (.iadd, 1) := by decide +kernel
theorem dX12_kind_79 : decode cX12_kind 79 = .ok (.iload_n 2, 1) := by decide +kernel
theorem dX12_kind_80 : decode cX12_kind 80 = .ok (.iastore, 1) := by decide +kernel
theorem dX12_kind_81 : decode cX12_kind 81 = .ok (.aload_n 0, 1) := by decide +kernel
theorem dX12_kind_82 : decode cX12_kind 82 = .ok (.getfield 7, 3) := by decide +kernel
theorem dX12_kind_85 : decode cX12_kind 85 = .ok (.iconst 3, 1) := by decide +kernel
theorem dX12_kind_86 : decode cX12_kind 86 = .ok (.aload_n 0, 1) := by decide +kernel
theorem dX12_kind_87 : decode cX12_kind 87 = .ok (.getfield 158, 3) := by decide +kernel
theorem dX12_kind_90 : decode cX12_kind 90 = .ok (.imul, 1) := by decide +kernel
theorem dX12_kind_91 : decode cX12_kind 91 = .ok (.iconst 2, 1) := by decide +kernel
theorem dX12_kind_92 : decode cX12_kind 92 = .ok (.iadd, 1) := by decide +kernel
theorem dX12_kind_93 : decode cX12_kind 93 = .ok (.iload_n 3, 1) := by decide +kernel
theorem dX12_kind_94 : decode cX12_kind 94 = .ok (.iastore, 1) := by decide +kernel
theorem dX12_kind_95 : decode cX12_kind 95 = .ok (.aload_n 0, 1) := by decide +kernel
theorem dX12_kind_96 : decode cX12_kind 96 = .ok (.getfield 13, 3) := by decide +kernel
theorem dX12_kind_99 : decode cX12_kind 99 = .ok (.aload_n 0, 1) := by decide +kernel
theorem dX12_kind_100 : decode cX12_kind 100 = .ok (.getfield 158, 3) := by decide +kernel
theorem dX12_kind_103 : decode cX12_kind 103 = .ok (.iload 4, 2) := by decide +kernel
theorem dX12_kind_105 : decode cX12_kind 105 = .ok (.sipush 1000, 3) := by decide +kernel
theorem dX12_kind_108 : decode cX12_kind 108 = .ok (.idiv, 1) := by decide +kernel
theorem dX12_kind_109 : decode cX12_kind 109 = .ok (.iastore, 1) := by decide +kernel
theorem dX12_kind_110 : decode cX12_kind 110 = .ok (.aload_n 0, 1) := by decide +kernel
theorem dX12_kind_111 : decode cX12_kind 111 = .ok (.getfield 16, 3) := by decide +kernel
theorem dX12_kind_114 : decode cX12_kind 114 = .ok (.aload_n 0, 1) := by decide +kernel
theorem dX12_kind_115 : decode cX12_kind 115 = .ok (.getfield 158, 3) := by decide +kernel
theorem dX12_kind_118 : decode cX12_kind 118 = .ok (.iload 4, 2) := by decide +kernel
theorem dX12_kind_120 : decode cX12_kind 120 = .ok (.sipush 1000, 3) := by decide +kernel
theorem dX12_kind_123 : decode cX12_kind 123 = .ok (.irem, 1) := by decide +kernel
theorem dX12_kind_124 : decode cX12_kind 124 = .ok (.iastore, 1) := by decide +kernel
theorem dX12_kind_125 : decode cX12_kind 125 = .ok (.aload_n 0, 1) := by decide +kernel
theorem dX12_kind_126 : decode cX12_kind 126 = .ok (.dup, 1) := by decide +kernel
theorem dX12_kind_127 : decode cX12_kind 127 = .ok (.getfield 158, 3) := by decide +kernel
theorem dX12_kind_130 : decode cX12_kind 130 = .ok (.iconst 1, 1) := by decide +kernel
theorem dX12_kind_131 : decode cX12_kind 131 = .ok (.iadd, 1) := by decide +kernel
theorem dX12_kind_132 : decode cX12_kind 132 = .ok (.putfield 158, 3) := by decide +kernel
theorem dX12_kind_135 : decode cX12_kind 135 = .ok (.aload_n 0, 1) := by decide +kernel
theorem dX12_kind_136 : decode cX12_kind 136 = .ok (.getfield 158, 3) := by decide +kernel
theorem dX12_kind_139 : decode cX12_kind 139 = .ok (.iconst 1, 1) := by decide +kernel
theorem dX12_kind_140 : decode cX12_kind 140 = .ok (.isub, 1) := by decide +kernel
theorem dX12_kind_141 : decode cX12_kind 141 = .ok (.ireturn, 1) := by decide +kernel
theorem dX8_add_0 : decode cX8_add 0 = .ok (.aload_n 0, 1) := by decide +kernel
theorem dX8_add_1 : decode cX8_add 1 = .ok (.getfield 39, 3) := by decide +kernel
theorem dX8_add_4 : decode cX8_add 4 = .ok (.bipush 10, 2) := by decide +kernel
theorem dX8_add_6 : decode cX8_add 6 = .ok (.if_icmp .lt 6, 3) := by decide +kernel
theorem dX8_add_12 : decode cX8_add 12 = .ok (.aload_n 0, 1) := by decide +kernel
theorem dX8_add_13 : decode cX8_add 13 = .ok (.getfield 9, 3) := by decide +kernel
theorem dX8_add_16 : decode cX8_add 16 = .ok (.aload_n 0, 1) := by decide +kernel
theorem dX8_add_17 : decode cX8_add 17 = .ok (.getfield 39, 3) := by decide +kernel
theorem dX8_add_20 : decode cX8_add 20 = .ok (.iload_n 1, 1) := by decide +kernel
theorem dX8_add_21 : decode cX8_add 21 = .ok (.iastore, 1) := by decide +kernel
theorem dX8_add_22 : decode cX8_add 22 = .ok (.aload_n 0, 1) := by decide +kernel
theorem dX8_add_23 : decode cX8_add 23 = .ok (.getfield 21, 3) := by decide +kernel
theorem dX8_add_26 : decode cX8_add 26 = .ok (.aload_n 0, 1) := by decide +kernel
theorem dX8_add_27 : decode cX8_add 27 = .ok (.getfield 39, 3) := by decide +kernel
theorem dX8_add_30 : decode cX8_add 30 = .ok (.iconst (-1), 1) := by decide +kernel
theorem dX8_add_31 : decode cX8_add 31 = .ok (.iastore, 1) := by decide +kernel
theorem dX8_add_32 : decode cX8_add 32 = .ok (.aload_n 0, 1) := by decide +kernel
theorem dX8_add_33 : decode cX8_add 33 = .ok (.getfield 24, 3) := by decide +kernel
theorem dX8_add_36 : decode cX8_add 36 = .ok (.aload_n 0, 1) := by decide +kernel
theorem dX8_add_37 : decode cX8_add 37 = .ok (.getfield 39, 3) := by decide +kernel
theorem dX8_add_40 : decode cX8_add 40 = .ok (.iconst (-1), 1) := by decide +kernel
theorem dX8_add_41 : decode cX8_add 41 = .ok (.iastore, 1) := by decide +kernel
theorem dX8_add_42 : decode cX8_add 42 = .ok (.aload_n 0, 1) := by decide +kernel
theorem dX8_add_43 : decode cX8_add 43 = .ok (.dup, 1) := by decide +kernel
theorem dX8_add_44 : decode cX8_add 44 = .ok (.getfield 39, 3) := by decide +kernel
theorem dX8_add_47 : decode cX8_add 47 = .ok (.dup_x1, 1) := by decide +kernel
theorem dX8_add_48 : decode cX8_add 48 = .ok (.iconst 1, 1) := by decide +kernel
theorem dX8_add_49 : decode cX8_add 49 = .ok (.iadd, 1) := by decide +kernel
theorem dX8_add_50 : decode cX8_add 50 = .ok (.putfield 39, 3) := by decide +kernel
theorem dX8_add_53 : decode cX8_add 53 = .ok (.ireturn, 1) := by decide +kernel
theorem dX11_plane_0 : decode cX11_plane 0 = .ok (.iload_n 1, 1) := by decide +kernel
theorem dX11_plane_1 : decode cX11_plane 1 = .ok (.iconst 0, 1) := by decide +kernel
theorem dX11_plane_2 : decode cX11_plane 2 = .ok (.ldc 105, 2) := by decide +kernel
theorem dX11_plane_4 : decode cX11_plane 4 = .ok (.invokestatic 106, 3) := by decide +kernel
theorem dX11_plane_7 : decode cX11_plane 7 = .ok (.ifCond .ne 5, 3) := by decide +kernel
theorem dX11_plane_12 : decode cX11_plane 12 = .ok (.aload_n 0, 1) := by decide +kernel
theorem dX11_plane_13 : decode cX11_plane 13 = .ok (.getfield 19, 3) := by decide +kernel
theorem dX11_plane_16 : decode cX11_plane 16 = .ok (.iload_n 1, 1) := by decide +kernel
theorem dX11_plane_17 : decode cX11_plane 17 = .ok (.invokevirtual 114, 3) := by decide +kernel
theorem dX11_plane_20 : decode cX11_plane 20 = .ok (.ireturn, 1) := by decide +kernel
theorem dX11_plane_10 : decode cX11_plane 10 = .ok (.iconst (-1), 1) := by decide +kernel
theorem dX11_plane_11 : decode cX11_plane 11 = .ok (.ireturn, 1) := by decide +kernel
theorem dX12_plane_0 : decode cX12_plane 0 = .ok (.iload_n 1, 1) := by decide +kernel
theorem dX12_plane_1 : decode cX12_plane 1 = .ok (.iconst 0, 1) := by decide +kernel
theorem dX12_plane_2 : decode cX12_plane 2 = .ok (.ldc 165, 2) := by decide +kernel
theorem dX12_plane_4 : decode cX12_plane 4 = .ok (.invokestatic 151, 3) := by decide +kernel
theorem dX12_plane_7 : decode cX12_plane 7 = .ok (.ifCond .ne 5, 3) := by decide +kernel
theorem dX12_plane_12 : decode cX12_plane 12 = .ok (.aload_n 0, 1) := by decide +kernel
theorem dX12_plane_13 : decode cX12_plane 13 = .ok (.getfield 161, 3) := by decide +kernel
theorem dX12_plane_16 : decode cX12_plane 16 = .ok (.bipush 10, 2) := by decide +kernel
theorem dX12_plane_18 : decode cX12_plane 18 = .ok (.if_icmp .ne 6, 3) := by decide +kernel
theorem dX12_plane_24 : decode cX12_plane 24 = .ok (.aload_n 0, 1) := by decide +kernel
theorem dX12_plane_25 : decode cX12_plane 25 = .ok (.getfield 19, 3) := by decide +kernel
theorem dX12_plane_28 : decode cX12_plane 28 = .ok (.aload_n 0, 1) := by decide +kernel
theorem dX12_plane_29 : decode cX12_plane 29 = .ok (.getfield 161, 3) := by decide +kernel
theorem dX12_plane_32 : decode cX12_plane 32 = .ok (.iload_n 1, 1) := by decide +kernel
theorem dX12_plane_33 : decode cX12_plane 33 = .ok (.iastore, 1) := by decide +kernel
theorem dX12_plane_34 : decode cX12_plane 34 = .ok (.aload_n 0, 1) := by decide +kernel
theorem dX12_plane_35 : decode cX12_plane 35 = .ok (.getfield 28, 3) := by decide +kernel
theorem dX12_plane_38 : decode cX12_plane 38 = .ok (.aload_n 0, 1) := by decide +kernel
theorem dX12_plane_39 : decode cX12_plane 39 = .ok (.getfield 161, 3) := by decide +kernel
theorem dX12_plane_42 : decode cX12_plane 42 = .ok (.iconst (-1), 1) := by decide +kernel
theorem dX12_plane_43 : decode cX12_plane 43 = .ok (.iastore, 1) := by decide +kernel
theorem dX12_plane_44 : decode cX12_plane 44 = .ok (.aload_n 0, 1) := by decide +kernel
theorem dX12_plane_45 : decode cX12_plane 45 = .ok (.getfield 31, 3) := by decide +kernel
theorem dX12_plane_48 : decode cX12_plane 48 = .ok (.aload_n 0, 1) := by decide +kernel
theorem dX12_plane_49 : decode cX12_plane 49 = .ok (.getfield 161, 3) := by decide +kernel
theorem dX12_plane_52 : decode cX12_plane 52 = .ok (.iconst (-1), 1) := by decide +kernel
theorem dX12_plane_53 : decode cX12_plane 53 = .ok (.iastore, 1) := by decide +kernel
theorem dX12_plane_54 : decode cX12_plane 54 = .ok (.aload_n 0, 1) := by decide +kernel
theorem dX12_plane_55 : decode cX12_plane 55 = .ok (.getfield 114, 3) := by decide +kernel
theorem dX12_plane_58 : decode cX12_plane 58 = .ok (.aload_n 0, 1) := by decide +kernel
theorem dX12_plane_59 : decode cX12_plane 59 = .ok (.getfield 161, 3) := by decide +kernel
theorem dX12_plane_62 : decode cX12_plane 62 = .ok (.iconst (-1), 1) := by decide +kernel
theorem dX12_plane_63 : decode cX12_plane 63 = .ok (.iastore, 1) := by decide +kernel
theorem dX12_plane_64 : decode cX12_plane 64 = .ok (.aload_n 0, 1) := by decide +kernel
theorem dX12_plane_65 : decode cX12_plane 65 = .ok (.dup, 1) := by decide +kernel
theorem dX12_plane_66 : decode cX12_plane 66 = .ok (.getfield 161, 3) := by decide +kernel
theorem dX12_plane_69 : decode cX12_plane 69 = .ok (.iconst 1, 1) := by decide +kernel
theorem dX12_plane_70 : decode cX12_plane 70 = .ok (.iadd, 1) := by decide +kernel
theorem dX12_plane_71 : decode cX12_plane 71 = .ok (.putfield 161, 3) := by decide +kernel
theorem dX12_plane_74 : decode cX12_plane 74 = .ok (.aload_n 0, 1) := by decide +kernel
theorem dX12_plane_75 : decode cX12_plane 75 = .ok (.getfield 161, 3) := by decide +kernel
theorem dX12_plane_78 : decode cX12_plane 78 = .ok (.iconst 1, 1) := by decide +kernel
theorem dX12_plane_79 : decode cX12_plane 79 = .ok (.isub, 1) := by decide +kernel
theorem dX12_plane_80 : decode cX12_plane 80 = .ok (.ireturn, 1) := by decide +kernel
theorem dX12_plane_10 : decode cX12_plane 10 = .ok (.iconst (-1), 1) := by decide +kernel
theorem dX12_plane_11 : decode cX12_plane 11 = .ok (.ireturn, 1) := by decide +kernel
theorem dX7_age_0 : decode cX7_age 0 = .ok (.iconst 0, 1) := by decide +kernel
theorem dX7_age_1 : decode cX7_age 1 = .ok (.istore_n 2, 1) := by decide +kernel
theorem dX7_age_2 : decode cX7_age 2 = .ok (.iload_n 2, 1) := by decide +kernel
theorem dX7_age_3 : decode cX7_age 3 = .ok (.aload_n 0, 1) := by decide +kernel
theorem dX7_age_4 : decode cX7_age 4 = .ok (.getfield 31, 3) := by decide +kernel
theorem dX7_age_7 : decode cX7_age 7 = .ok (.if_icmp .ge 34, 3) := by decide +kernel
theorem dX7_age_41 : decode cX7_age 41 = .ok (.return_, 1) := by decide +kernel
theorem dX11_days_0 : decode cX11_days 0 = .ok (.iload_n 1, 1) := by decide +kernel
theorem dX11_days_1 : decode cX11_days 1 = .ok (.iconst 1, 1) := by decide +kernel
theorem dX11_days_2 : decode cX11_days 2 = .ok (.sipush 400, 3) := by decide +kernel
theorem dX11_days_5 : decode cX11_days 5 = .ok (.invokestatic 106, 3) := by decide +kernel
theorem dX11_days_8 : decode cX11_days 8 = .ok (.ifCond .eq 15, 3) := by decide +kernel
