theorem dX11_kind_0 : decode cX11_kind 0 = .ok (.iload_n 1, 1) := by decide +kernel
theorem dX11_kind_1 : decode cX11_kind 1 = .ok (.invokestatic 101, 3) := by decide +kernel
theorem dX11_kind_4 : decode cX11_kind 4 = .ok (.ifCond .eq 28, 3) := by decide +kernel
theorem dX11_kind_7 : decode cX11_kind 7 = .ok (.iload_n 2, 1) := by decide +kernel
theorem dX11_kind_8 : decode cX11_kind 8 = .ok (.invokestatic 101, 3) := by decide +kernel
theorem dX11_kind_11 : decode cX11_kind 11 = .ok (.ifCond .eq 21, 3) := by decide +kernel
theorem dX11_kind_14 : decode cX11_kind 14 = .ok (.iload_n 3, 1) := by decide +kernel
theorem dX11_kind_15 : decode cX11_kind 15 = .ok (.invokestatic 101, 3) := by decide +kernel
theorem dX11_kind_18 : decode cX11_kind 18 = .ok (.ifCond .eq 14, 3) := by decide +kernel
theorem dX11_kind_21 : decode cX11_kind 21 = .ok (.iload 4, 2) := by decide +kernel
theorem dX11_kind_23 : decode cX11_kind 23 = .ok (.iconst 0, 1) := by decide +kernel
theorem dX11_kind_24 : decode cX11_kind 24 = .ok (.ldc 105, 2) := by decide +kernel
theorem dX11_kind_26 : decode cX11_kind 26 = .ok (.invokestatic 106, 3) := by decide +kernel
theorem dX11_kind_29 : decode cX11_kind 29 = .ok (.ifCond .ne 5, 3) := by decide +kernel
theorem dX11_kind_32 : decode cX11_kind 32 = .ok (.iconst (-1), 1) := by decide +kernel
theorem dX11_kind_33 : decode cX11_kind 33 = .ok (.ireturn, 1) := by decide +kernel
theorem dX11_kind_34 : decode cX11_kind 34 = .ok (.aload_n 0, 1) := by decide +kernel
theorem dX11_kind_35 : decode cX11_kind 35 = .ok (.getfield 10, 3) := by decide +kernel
theorem dX11_kind_38 : decode cX11_kind 38 = .ok (.iload_n 1, 1) := by decide +kernel
theorem dX11_kind_39 : decode cX11_kind 39 = .ok (.iload_n 2, 1) := by decide +kernel
theorem dX11_kind_40 : decode cX11_kind 40 = .ok (.iload_n 3, 1) := by decide +kernel
theorem dX11_kind_41 : decode cX11_kind 41 = .ok (.iload 4, 2) := by decide +kernel
theorem dX11_kind_43 : decode cX11_kind 43 = .ok (.invokevirtual 110, 3) := by decide +kernel
theorem dX11_kind_46 : decode cX11_kind 46 = .ok (.ireturn, 1) := by decide +kernel
theorem dX11_plane_0 : decode cX11_plane 0 = .ok (.iload_n 1, 1) := by decide +kernel
theorem dX11_plane_1 : decode cX11_plane 1 = .ok (.iconst 0, 1) := by decide +kernel
theorem dX11_plane_2 : decode cX11_plane 2 = .ok (.ldc 105, 2) := by decide +kernel
theorem dX11_plane_4 : decode cX11_plane 4 = .ok (.invokestatic 106, 3) := by decide +kernel
theorem dX11_plane_7 : decode cX11_plane 7 = .ok (.ifCond .ne 5, 3) := by decide +kernel
theorem dX11_plane_10 : decode cX11_plane 10 = .ok (.iconst (-1), 1) := by decide +kernel
theorem dX11_plane_11 : decode cX11_plane 11 = .ok (.ireturn, 1) := by decide +kernel
theorem dX11_plane_12 : decode cX11_plane 12 = .ok (.aload_n 0, 1) := by decide +kernel
theorem dX11_plane_13 : decode cX11_plane 13 = .ok (.getfield 19, 3) := by decide +kernel
theorem dX11_plane_16 : decode cX11_plane 16 = .ok (.iload_n 1, 1) := by decide +kernel
theorem dX11_plane_17 : decode cX11_plane 17 = .ok (.invokevirtual 114, 3) := by decide +kernel
theorem dX11_plane_20 : decode cX11_plane 20 = .ok (.ireturn, 1) := by decide +kernel
theorem dX11_days_0 : decode cX11_days 0 = .ok (.iload_n 1, 1) := by decide +kernel
theorem dX11_days_1 : decode cX11_days 1 = .ok (.iconst 1, 1) := by decide +kernel
theorem dX11_days_2 : decode cX11_days 2 = .ok (.sipush 400, 3) := by decide +kernel
theorem dX11_days_5 : decode cX11_days 5 = .ok (.invokestatic 106, 3) := by decide +kernel
theorem dX11_days_8 : decode cX11_days 8 = .ok (.ifCond .eq 15, 3) := by decide +kernel
theorem dX11_days_11 : decode cX11_days 11 = .ok (.aload_n 0, 1) := by decide +kernel
theorem dX11_days_12 : decode cX11_days 12 = .ok (.getfield 132, 3) := by decide +kernel
theorem dX11_days_15 : decode cX11_days 15 = .ok (.iload_n 1, 1) := by decide +kernel
theorem dX11_days_16 : decode cX11_days 16 = .ok (.iadd, 1) := by decide +kernel
theorem dX11_days_17 : decode cX11_days 17 = .ok (.sipush 9999, 3) := by decide +kernel
theorem dX11_days_20 : decode cX11_days 20 = .ok (.if_icmp .le 5, 3) := by decide +kernel
theorem dX11_days_23 : decode cX11_days 23 = .ok (.iconst (-1), 1) := by decide +kernel
theorem dX11_days_24 : decode cX11_days 24 = .ok (.ireturn, 1) := by decide +kernel
theorem dX11_days_25 : decode cX11_days 25 = .ok (.aload_n 0, 1) := by decide +kernel
theorem dX11_days_26 : decode cX11_days 26 = .ok (.dup, 1) := by decide +kernel
theorem dX11_days_27 : decode cX11_days 27 = .ok (.getfield 132, 3) := by decide +kernel
theorem dX11_days_30 : decode cX11_days 30 = .ok (.iload_n 1, 1) := by decide +kernel
theorem dX11_days_31 : decode cX11_days 31 = .ok (.iadd, 1) := by decide +kernel
theorem dX11_days_32 : decode cX11_days 32 = .ok (.putfield 132, 3) := by decide +kernel
theorem dX11_days_35 : decode cX11_days 35 = .ok (.aload_n 0, 1) := by decide +kernel
theorem dX11_days_36 : decode cX11_days 36 = .ok (.getfield 35, 3) := by decide +kernel
theorem dX11_days_39 : decode cX11_days 39 = .ok (.iload_n 1, 1) := by decide +kernel
theorem dX11_days_40 : decode cX11_days 40 = .ok (.invokevirtual 135, 3) := by decide +kernel
theorem dX11_days_43 : decode cX11_days 43 = .ok (.aload_n 0, 1) := by decide +kernel
theorem dX11_days_44 : decode cX11_days 44 = .ok (.getfield 132, 3) := by decide +kernel
theorem dX11_days_47 : decode cX11_days 47 = .ok (.ireturn, 1) := by decide +kernel
theorem dX11_giveBack_0 : decode cX11_giveBack 0 = .ok (.aload_n 0, 1) := by decide +kernel
theorem dX11_giveBack_1 : decode cX11_giveBack 1 = .ok (.getfield 19, 3) := by decide +kernel
theorem dX11_giveBack_4 : decode cX11_giveBack 4 = .ok (.iload_n 1, 1) := by decide +kernel
theorem dX11_giveBack_5 : decode cX11_giveBack 5 = .ok (.invokevirtual 117, 3) := by decide +kernel
theorem dX11_giveBack_8 : decode cX11_giveBack 8 = .ok (.ifCond .ne 5, 3) := by decide +kernel
theorem dX11_giveBack_11 : decode cX11_giveBack 11 = .ok (.iconst (-1), 1) := by decide +kernel
theorem dX11_giveBack_12 : decode cX11_giveBack 12 = .ok (.ireturn, 1) := by decide +kernel
theorem dX11_giveBack_13 : decode cX11_giveBack 13 = .ok (.aload_n 0, 1) := by decide +kernel
theorem dX11_giveBack_14 : decode cX11_giveBack 14 = .ok (.getfield 19, 3) := by decide +kernel
theorem dX11_giveBack_17 : decode cX11_giveBack 17 = .ok (.iload_n 1, 1) := by decide +kernel
theorem dX11_giveBack_18 : decode cX11_giveBack 18 = .ok (.invokevirtual 121, 3) := by decide +kernel
theorem dX11_giveBack_21 : decode cX11_giveBack 21 = .ok (.ifCond .ne 14, 3) := by decide +kernel
theorem dX11_giveBack_24 : decode cX11_giveBack 24 = .ok (.aload_n 0, 1) := by decide +kernel
theorem dX11_giveBack_25 : decode cX11_giveBack 25 = .ok (.getfield 74, 3) := by decide +kernel
theorem dX11_giveBack_28 : decode cX11_giveBack 28 = .ok (.iload_n 1, 1) := by decide +kernel
theorem dX11_giveBack_29 : decode cX11_giveBack 29 = .ok (.invokevirtual 324, 3) := by decide +kernel
theorem dX11_giveBack_32 : decode cX11_giveBack 32 = .ok (.ifCond .ne 6, 3) := by decide +kernel
theorem dX11_giveBack_35 : decode cX11_giveBack 35 = .ok (.bipush (-2), 2) := by decide +kernel
theorem dX11_giveBack_37 : decode cX11_giveBack 37 = .ok (.ireturn, 1) := by decide +kernel
theorem dX11_giveBack_38 : decode cX11_giveBack 38 = .ok (.aload_n 0, 1) := by decide +kernel
theorem dX11_giveBack_39 : decode cX11_giveBack 39 = .ok (.getfield 92, 3) := by decide +kernel
theorem dX11_giveBack_42 : decode cX11_giveBack 42 = .ok (.iload_n 1, 1) := by decide +kernel
theorem dX11_giveBack_43 : decode cX11_giveBack 43 = .ok (.iconst (-1), 1) := by decide +kernel
theorem dX11_giveBack_44 : decode cX11_giveBack 44 = .ok (.aload_n 0, 1) := by decide +kernel
theorem dX11_giveBack_45 : decode cX11_giveBack 45 = .ok (.getfield 132, 3) := by decide +kernel
theorem dX11_giveBack_48 : decode cX11_giveBack 48 = .ok (.invokevirtual 318, 3) := by decide +kernel
theorem dX11_giveBack_51 : decode cX11_giveBack 51 = .ok (.aload_n 0, 1) := by decide +kernel
theorem dX11_giveBack_52 : decode cX11_giveBack 52 = .ok (.getfield 92, 3) := by decide +kernel
theorem dX11_giveBack_55 : decode cX11_giveBack 55 = .ok (.iload_n 1, 1) := by decide +kernel
theorem dX11_giveBack_56 : decode cX11_giveBack 56 = .ok (.aload_n 0, 1) := by decide +kernel
theorem dX11_giveBack_57 : decode cX11_giveBack 57 = .ok (.getfield 132, 3) := by decide +kernel
theorem dX11_giveBack_60 : decode cX11_giveBack 60 = .ok (.invokevirtual 327, 3) := by decide +kernel
theorem dX11_giveBack_63 : decode cX11_giveBack 63 = .ok (.istore_n 2, 1) := by decide +kernel
theorem dX11_giveBack_64 : decode cX11_giveBack 64 = .ok (.aload_n 0, 1) := by decide +kernel
theorem dX11_giveBack_65 : decode cX11_giveBack 65 = .ok (.getfield 19, 3) := by decide +kernel
theorem dX11_giveBack_68 : decode cX11_giveBack 68 = .ok (.iload_n 1, 1) := by decide +kernel
theorem dX11_giveBack_69 : decode cX11_giveBack 69 = .ok (.iload_n 2, 1) := by decide +kernel
theorem dX11_giveBack_70 : decode cX11_giveBack 70 = .ok (.aload_n 0, 1) := by decide +kernel
theorem dX11_giveBack_71 : decode cX11_giveBack 71 = .ok (.getfield 132, 3) := by decide +kernel
theorem dX11_giveBack_74 : decode cX11_giveBack 74 = .ok (.invokevirtual 333, 3) := by decide +kernel
theorem dX11_giveBack_77 : decode cX11_giveBack 77 = .ok (.aload_n 0, 1) := by decide +kernel
theorem dX11_giveBack_78 : decode cX11_giveBack 78 = .ok (.getfield 35, 3) := by decide +kernel
theorem dX11_giveBack_81 : decode cX11_giveBack 81 = .ok (.iload_n 1, 1) := by decide +kernel
theorem dX11_giveBack_82 : decode cX11_giveBack 82 = .ok (.aload_n 0, 1) := by decide +kernel
theorem dX11_giveBack_83 : decode cX11_giveBack 83 = .ok (.getfield 132, 3) := by decide +kernel
theorem dX11_giveBack_86 : decode cX11_giveBack 86 = .ok (.invokevirtual 336, 3) := by decide +kernel
theorem dX11_giveBack_89 : decode cX11_giveBack 89 = .ok (.iload_n 2, 1) := by decide +kernel
theorem dX11_giveBack_90 : decode cX11_giveBack 90 = .ok (.ireturn, 1) := by decide +kernel
theorem dX12_giveBack_0 : decode cX12_giveBack 0 = .ok (.aload_n 0, 1) := by decide +kernel
theorem dX12_giveBack_1 : decode cX12_giveBack 1 = .ok (.iload_n 1, 1) := by decide +kernel
theorem dX12_giveBack_2 : decode cX12_giveBack 2 = .ok (.invokevirtual 169, 3) := by decide +kernel
theorem dX12_giveBack_5 : decode cX12_giveBack 5 = .ok (.ifCond .ne 5, 3) := by decide +kernel
theorem dX12_giveBack_8 : decode cX12_giveBack 8 = .ok (.iconst (-1), 1) := by decide +kernel
theorem dX12_giveBack_9 : decode cX12_giveBack 9 = .ok (.ireturn, 1) := by decide +kernel
theorem dX12_giveBack_10 : decode cX12_giveBack 10 = .ok (.aload_n 0, 1) := by decide +kernel
theorem dX12_giveBack_11 : decode cX12_giveBack 11 = .ok (.iload_n 1, 1) := by decide +kernel
theorem dX12_giveBack_12 : decode cX12_giveBack 12 = .ok (.invokevirtual 176, 3) := by decide +kernel
theorem dX12_giveBack_15 : decode cX12_giveBack 15 = .ok (.ifCond .ne 11, 3) := by decide +kernel
theorem dX12_giveBack_18 : decode cX12_giveBack 18 = .ok (.aload_n 0, 1) := by decide +kernel
theorem dX12_giveBack_19 : decode cX12_giveBack 19 = .ok (.iload_n 1, 1) := by decide +kernel
theorem dX12_giveBack_20 : decode cX12_giveBack 20 = .ok (.invokevirtual 356, 3) := by decide +kernel
theorem dX12_giveBack_23 : decode cX12_giveBack 23 = .ok (.ifCond .ne 6, 3) := by decide +kernel
theorem dX12_giveBack_26 : decode cX12_giveBack 26 = .ok (.bipush (-2), 2) := by decide +kernel
theorem dX12_giveBack_28 : decode cX12_giveBack 28 = .ok (.ireturn, 1) := by decide +kernel
theorem dX12_giveBack_29 : decode cX12_giveBack 29 = .ok (.aload_n 0, 1) := by decide +kernel
theorem dX12_giveBack_30 : decode cX12_giveBack 30 = .ok (.iload_n 1, 1) := by decide +kernel
theorem dX12_giveBack_31 : decode cX12_giveBack 31 = .ok (.invokevirtual 359, 3) := by decide +kernel
theorem dX12_giveBack_34 : decode cX12_giveBack 34 = .ok (.aload_n 0, 1) := by decide +kernel
theorem dX12_giveBack_35 : decode cX12_giveBack 35 = .ok (.getfield 28, 3) := by decide +kernel
theorem dX12_giveBack_38 : decode cX12_giveBack 38 = .ok (.iload_n 1, 1) := by decide +kernel
theorem dX12_giveBack_39 : decode cX12_giveBack 39 = .ok (.aload_n 0, 1) := by decide +kernel
theorem dX12_giveBack_40 : decode cX12_giveBack 40 = .ok (.iload_n 1, 1) := by decide +kernel
theorem dX12_giveBack_41 : decode cX12_giveBack 41 = .ok (.aload_n 0, 1) := by decide +kernel
theorem dX12_giveBack_42 : decode cX12_giveBack 42 = .ok (.getfield 183, 3) := by decide +kernel
theorem dX12_giveBack_45 : decode cX12_giveBack 45 = .ok (.aload_n 0, 1) := by decide +kernel
theorem dX12_giveBack_46 : decode cX12_giveBack 46 = .ok (.getfield 183, 3) := by decide +kernel
theorem dX12_giveBack_49 : decode cX12_giveBack 49 = .ok (.invokevirtual 362, 3) := by decide +kernel
theorem dX12_giveBack_52 : decode cX12_giveBack 52 = .ok (.iastore, 1) := by decide +kernel
theorem dX12_giveBack_53 : decode cX12_giveBack 53 = .ok (.aload_n 0, 1) := by decide +kernel
theorem dX12_giveBack_54 : decode cX12_giveBack 54 = .ok (.getfield 31, 3) := by decide +kernel
theorem dX12_giveBack_57 : decode cX12_giveBack 57 = .ok (.iload_n 1, 1) := by decide +kernel
theorem dX12_giveBack_58 : decode cX12_giveBack 58 = .ok (.aload_n 0, 1) := by decide +kernel
theorem dX12_giveBack_59 : decode cX12_giveBack 59 = .ok (.getfield 183, 3) := by decide +kernel
theorem dX12_giveBack_62 : decode cX12_giveBack 62 = .ok (.iastore, 1) := by decide +kernel
theorem dX12_giveBack_63 : decode cX12_giveBack 63 = .ok (.iconst 0, 1) := by decide +kernel
theorem dX12_giveBack_64 : decode cX12_giveBack 64 = .ok (.istore_n 2, 1) := by decide +kernel
theorem dX12_giveBack_65 : decode cX12_giveBack 65 = .ok (.iload_n 2, 1) := by decide +kernel
theorem dX12_giveBack_66 : decode cX12_giveBack 66 = .ok (.aload_n 0, 1) := by decide +kernel
theorem dX12_giveBack_67 : decode cX12_giveBack 67 = .ok (.getfield 166, 3) := by decide +kernel
theorem dX12_giveBack_70 : decode cX12_giveBack 70 = .ok (.if_icmp .ge 34, 3) := by decide +kernel
theorem dX12_giveBack_73 : decode cX12_giveBack 73 = .ok (.aload_n 0, 1) := by decide +kernel
theorem dX12_giveBack_74 : decode cX12_giveBack 74 = .ok (.getfield 135, 3) := by decide +kernel
theorem dX12_giveBack_77 : decode cX12_giveBack 77 = .ok (.iload_n 2, 1) := by decide +kernel
theorem dX12_giveBack_78 : decode cX12_giveBack 78 = .ok (.baload, 1) := by decide +kernel
theorem dX12_giveBack_79 : decode cX12_giveBack 79 = .ok (.ifCond .ne 6, 3) := by decide +kernel
theorem dX12_giveBack_82 : decode cX12_giveBack 82 = .ok (.goto 16, 3) := by decide +kernel
theorem dX12_giveBack_85 : decode cX12_giveBack 85 = .ok (.aload_n 0, 1) := by decide +kernel
theorem dX12_giveBack_86 : decode cX12_giveBack 86 = .ok (.iload_n 2, 1) := by decide +kernel
theorem dX12_giveBack_87 : decode cX12_giveBack 87 = .ok (.invokevirtual 205, 3) := by decide +kernel
theorem dX12_giveBack_90 : decode cX12_giveBack 90 = .ok (.aload_n 0, 1) := by decide +kernel
theorem dX12_giveBack_91 : decode cX12_giveBack 91 = .ok (.getfield 46, 3) := by decide +kernel
theorem dX12_giveBack_94 : decode cX12_giveBack 94 = .ok (.iload_n 2, 1) := by decide +kernel
theorem dX12_giveBack_95 : decode cX12_giveBack 95 = .ok (.bipush 12, 2) := by decide +kernel
theorem dX12_giveBack_97 : decode cX12_giveBack 97 = .ok (.iastore, 1) := by decide +kernel
theorem dX12_giveBack_98 : decode cX12_giveBack 98 = .ok (.iinc 2 1, 3) := by decide +kernel
theorem dX12_giveBack_101 : decode cX12_giveBack 101 = .ok (.goto (-36), 3) := by decide +kernel
theorem dX12_giveBack_104 : decode cX12_giveBack 104 = .ok (.aload_n 0, 1) := by decide +kernel
theorem dX12_giveBack_105 : decode cX12_giveBack 105 = .ok (.getfield 28, 3) := by decide +kernel
theorem dX12_giveBack_108 : decode cX12_giveBack 108 = .ok (.iload_n 1, 1) := by decide +kernel
theorem dX12_giveBack_109 : decode cX12_giveBack 109 = .ok (.iaload, 1) := by decide +kernel
theorem dX12_giveBack_110 : decode cX12_giveBack 110 = .ok (.ireturn, 1) := by decide +kernel
theorem dL_law_18 : decode cL_law 18 = .ok (.iload_n 3, 1) := by decide +kernel
theorem dL_law_19 : decode cL_law 19 = .ok (.aload_n 0, 1) := by decide +kernel
theorem dL_law_20 : decode cL_law 20 = .ok (.arraylength, 1) := by decide +kernel
theorem dL_law_21 : decode cL_law 21 = .ok (.bipush 7, 2) := by decide +kernel
theorem dL_law_23 : decode cL_law 23 = .ok (.isub, 1) := by decide +kernel
theorem dL_law_24 : decode cL_law 24 = .ok (.if_icmp .gt 1467, 3) := by decide +kernel
theorem dL_law_27 : decode cL_law 27 = .ok (.aload_n 0, 1) := by decide +kernel
theorem dL_law_28 : decode cL_law 28 = .ok (.iload_n 3, 1) := by decide +kernel
theorem dL_law_29 : decode cL_law 29 = .ok (.iaload, 1) := by decide +kernel
theorem dL_law_30 : decode cL_law 30 = .ok (.bipush 63, 2) := by decide +kernel
theorem dL_law_32 : decode cL_law 32 = .ok (.iand, 1) := by decide +kernel
theorem dL_law_33 : decode cL_law 33 = .ok (.tableswitch 1452 0 34 #[155, 208, 231, 274, 297, 340, 373, 406, 469, 502, 535, 568, 601, 644, 677, 720, 763, 838, 871, 894, 937, 970, 1003, 1046, 1099, 1152, 1175, 1208, 1221, 1254, 1287, 1320, 1343, 1386, 1429], 155) := by decide +kernel
theorem dL_law_188 : decode cL_law 188 = .ok (.aload_n 1, 1) := by decide +kernel
theorem dL_law_189 : decode cL_law 189 = .ok (.aload_n 0, 1) := by decide +kernel
theorem dL_law_190 : decode cL_law 190 = .ok (.iload_n 3, 1) := by decide +kernel
theorem dL_law_191 : decode cL_law 191 = .ok (.iconst 1, 1) := by decide +kernel
theorem dL_law_192 : decode cL_law 192 = .ok (.iadd, 1) := by decide +kernel
theorem dL_law_193 : decode cL_law 193 = .ok (.iaload, 1) := by decide +kernel
theorem dL_law_194 : decode cL_law 194 = .ok (.aload_n 0, 1) := by decide +kernel
theorem dL_law_195 : decode cL_law 195 = .ok (.iload_n 3, 1) := by decide +kernel
theorem dL_law_196 : decode cL_law 196 = .ok (.iconst 2, 1) := by decide +kernel
theorem dL_law_197 : decode cL_law 197 = .ok (.iadd, 1) := by decide +kernel
theorem dL_law_198 : decode cL_law 198 = .ok (.iaload, 1) := by decide +kernel
theorem dL_law_199 : decode cL_law 199 = .ok (.aload_n 0, 1) := by decide +kernel
theorem dL_law_200 : decode cL_law 200 = .ok (.iload_n 3, 1) := by decide +kernel
theorem dL_law_201 : decode cL_law 201 = .ok (.iconst 3, 1) := by decide +kernel
theorem dL_law_202 : decode cL_law 202 = .ok (.iadd, 1) := by decide +kernel
theorem dL_law_203 : decode cL_law 203 = .ok (.iaload, 1) := by decide +kernel
theorem dL_law_204 : decode cL_law 204 = .ok (.aload_n 0, 1) := by decide +kernel
theorem dL_law_205 : decode cL_law 205 = .ok (.iload_n 3, 1) := by decide +kernel
theorem dL_law_206 : decode cL_law 206 = .ok (.iconst 4, 1) := by decide +kernel
theorem dL_law_207 : decode cL_law 207 = .ok (.iadd, 1) := by decide +kernel
theorem dL_law_208 : decode cL_law 208 = .ok (.iaload, 1) := by decide +kernel
theorem dL_law_209 : decode cL_law 209 = .ok (.invokevirtual 13, 3) := by decide +kernel
theorem dL_law_212 : decode cL_law 212 = .ok (.pop, 1) := by decide +kernel
theorem dL_law_213 : decode cL_law 213 = .ok (.aload_n 2, 1) := by decide +kernel
theorem dL_law_214 : decode cL_law 214 = .ok (.aload_n 0, 1) := by decide +kernel
theorem dL_law_215 : decode cL_law 215 = .ok (.iload_n 3, 1) := by decide +kernel
theorem dL_law_216 : decode cL_law 216 = .ok (.iconst 1, 1) := by decide +kernel
theorem dL_law_217 : decode cL_law 217 = .ok (.iadd, 1) := by decide +kernel
theorem dL_law_218 : decode cL_law 218 = .ok (.iaload, 1) := by decide +kernel
theorem dL_law_219 : decode cL_law 219 = .ok (.aload_n 0, 1) := by decide +kernel
theorem dL_law_220 : decode cL_law 220 = .ok (.iload_n 3, 1) := by decide +kernel
theorem dL_law_221 : decode cL_law 221 = .ok (.iconst 2, 1) := by decide +kernel
theorem dL_law_222 : decode cL_law 222 = .ok (.iadd, 1) := by decide +kernel
theorem dL_law_223 : decode cL_law 223 = .ok (.iaload, 1) := by decide +kernel
theorem dL_law_224 : decode cL_law 224 = .ok (.aload_n 0, 1) := by decide +kernel
theorem dL_law_225 : decode cL_law 225 = .ok (.iload_n 3, 1) := by decide +kernel
theorem dL_law_226 : decode cL_law 226 = .ok (.iconst 3, 1) := by decide +kernel
theorem dL_law_227 : decode cL_law 227 = .ok (.iadd, 1) := by decide +kernel
theorem dL_law_228 : decode cL_law 228 = .ok (.iaload, 1) := by decide +kernel
theorem dL_law_229 : decode cL_law 229 = .ok (.aload_n 0, 1) := by decide +kernel
theorem dL_law_230 : decode cL_law 230 = .ok (.iload_n 3, 1) := by decide +kernel
theorem dL_law_231 : decode cL_law 231 = .ok (.iconst 4, 1) := by decide +kernel
theorem dL_law_232 : decode cL_law 232 = .ok (.iadd, 1) := by decide +kernel
theorem dL_law_233 : decode cL_law 233 = .ok (.iaload, 1) := by decide +kernel
theorem dL_law_234 : decode cL_law 234 = .ok (.invokevirtual 17, 3) := by decide +kernel
theorem dL_law_237 : decode cL_law 237 = .ok (.pop, 1) := by decide +kernel
theorem dL_law_238 : decode cL_law 238 = .ok (.goto 1247, 3) := by decide +kernel
theorem dL_law_241 : decode cL_law 241 = .ok (.aload_n 1, 1) := by decide +kernel
theorem dL_law_242 : decode cL_law 242 = .ok (.aload_n 0, 1) := by decide +kernel
theorem dL_law_243 : decode cL_law 243 = .ok (.iload_n 3, 1) := by decide +kernel
theorem dL_law_244 : decode cL_law 244 = .ok (.iconst 1, 1) := by decide +kernel
theorem dL_law_245 : decode cL_law 245 = .ok (.iadd, 1) := by decide +kernel
theorem dL_law_246 : decode cL_law 246 = .ok (.iaload, 1) := by decide +kernel
theorem dL_law_247 : decode cL_law 247 = .ok (.invokevirtual 18, 3) := by decide +kernel
theorem dL_law_250 : decode cL_law 250 = .ok (.pop, 1) := by decide +kernel
theorem dL_law_251 : decode cL_law 251 = .ok (.aload_n 2, 1) := by decide +kernel
theorem dL_law_252 : decode cL_law 252 = .ok (.aload_n 0, 1) := by decide +kernel
theorem dL_law_253 : decode cL_law 253 = .ok (.iload_n 3, 1) := by decide +kernel
theorem dL_law_254 : decode cL_law 254 = .ok (.iconst 1, 1) := by decide +kernel
theorem dL_law_255 : decode cL_law 255 = .ok (.iadd, 1) := by decide +kernel
theorem dL_law_256 : decode cL_law 256 = .ok (.iaload, 1) := by decide +kernel
theorem dL_law_257 : decode cL_law 257 = .ok (.invokevirtual 22, 3) := by decide +kernel
theorem dL_law_260 : decode cL_law 260 = .ok (.pop, 1) := by decide +kernel
theorem dL_law_261 : decode cL_law 261 = .ok (.goto 1224, 3) := by decide +kernel
theorem dL_law_264 : decode cL_law 264 = .ok (.aload_n 1, 1) := by decide +kernel
theorem dL_law_265 : decode cL_law 265 = .ok (.aload_n 0, 1) := by decide +kernel
theorem dL_law_266 : decode cL_law 266 = .ok (.iload_n 3, 1) := by decide +kernel
theorem dL_law_267 : decode cL_law 267 = .ok (.iconst 1, 1) := by decide +kernel
theorem dL_law_268 : decode cL_law 268 = .ok (.iadd, 1) := by decide +kernel
theorem dL_law_269 : decode cL_law 269 = .ok (.iaload, 1) := by decide +kernel
theorem dL_law_270 : decode cL_law 270 = .ok (.aload_n 0, 1) := by decide +kernel
theorem dL_law_271 : decode cL_law 271 = .ok (.iload_n 3, 1) := by decide +kernel
theorem dL_law_272 : decode cL_law 272 = .ok (.iconst 2, 1) := by decide +kernel
theorem dL_law_273 : decode cL_law 273 = .ok (.iadd, 1) := by decide +kernel
theorem dL_law_274 : decode cL_law 274 = .ok (.iaload, 1) := by decide +kernel
theorem dL_law_275 : decode cL_law 275 = .ok (.aload_n 0, 1) := by decide +kernel
theorem dL_law_276 : decode cL_law 276 = .ok (.iload_n 3, 1) := by decide +kernel
theorem dL_law_277 : decode cL_law 277 = .ok (.iconst 3, 1) := by decide +kernel
theorem dL_law_278 : decode cL_law 278 = .ok (.iadd, 1) := by decide +kernel
theorem dL_law_279 : decode cL_law 279 = .ok (.iaload, 1) := by decide +kernel
theorem dL_law_280 : decode cL_law 280 = .ok (.invokevirtual 23, 3) := by decide +kernel
theorem dL_law_283 : decode cL_law 283 = .ok (.pop, 1) := by decide +kernel
theorem dL_law_284 : decode cL_law 284 = .ok (.aload_n 2, 1) := by decide +kernel
theorem dL_law_285 : decode cL_law 285 = .ok (.aload_n 0, 1) := by decide +kernel
theorem dL_law_286 : decode cL_law 286 = .ok (.iload_n 3, 1) := by decide +kernel
theorem dL_law_287 : decode cL_law 287 = .ok (.iconst 1, 1) := by decide +kernel
theorem dL_law_288 : decode cL_law 288 = .ok (.iadd, 1) := by decide +kernel
theorem dL_law_289 : decode cL_law 289 = .ok (.iaload, 1) := by decide +kernel
theorem dL_law_290 : decode cL_law 290 = .ok (.aload_n 0, 1) := by decide +kernel
theorem dL_law_291 : decode cL_law 291 = .ok (.iload_n 3, 1) := by decide +kernel
theorem dL_law_292 : decode cL_law 292 = .ok (.iconst 2, 1) := by decide +kernel
theorem dL_law_293 : decode cL_law 293 = .ok (.iadd, 1) := by decide +kernel
theorem dL_law_294 : decode cL_law 294 = .ok (.iaload, 1) := by decide +kernel
theorem dL_law_295 : decode cL_law 295 = .ok (.aload_n 0, 1) := by decide +kernel
theorem dL_law_296 : decode cL_law 296 = .ok (.iload_n 3, 1) := by decide +kernel
theorem dL_law_297 : decode cL_law 297 = .ok (.iconst 3, 1) := by decide +kernel
theorem dL_law_298 : decode cL_law 298 = .ok (.iadd, 1) := by decide +kernel
theorem dL_law_299 : decode cL_law 299 = .ok (.iaload, 1) := by decide +kernel
theorem dL_law_300 : decode cL_law 300 = .ok (.invokevirtual 27, 3) := by decide +kernel
theorem dL_law_303 : decode cL_law 303 = .ok (.pop, 1) := by decide +kernel
theorem dL_law_304 : decode cL_law 304 = .ok (.goto 1181, 3) := by decide +kernel
theorem dL_law_307 : decode cL_law 307 = .ok (.aload_n 1, 1) := by decide +kernel
theorem dL_law_308 : decode cL_law 308 = .ok (.aload_n 0, 1) := by decide +kernel
theorem dL_law_309 : decode cL_law 309 = .ok (.iload_n 3, 1) := by decide +kernel
theorem dL_law_310 : decode cL_law 310 = .ok (.iconst 1, 1) := by decide +kernel
theorem dL_law_311 : decode cL_law 311 = .ok (.iadd, 1) := by decide +kernel
theorem dL_law_312 : decode cL_law 312 = .ok (.iaload, 1) := by decide +kernel
theorem dL_law_313 : decode cL_law 313 = .ok (.invokevirtual 28, 3) := by decide +kernel
theorem dL_law_316 : decode cL_law 316 = .ok (.pop, 1) := by decide +kernel
theorem dL_law_317 : decode cL_law 317 = .ok (.aload_n 2, 1) := by decide +kernel
theorem dL_law_318 : decode cL_law 318 = .ok (.aload_n 0, 1) := by decide +kernel
theorem dL_law_319 : decode cL_law 319 = .ok (.iload_n 3, 1) := by decide +kernel
theorem dL_law_320 : decode cL_law 320 = .ok (.iconst 1, 1) := by decide +kernel
theorem dL_law_321 : decode cL_law 321 = .ok (.iadd, 1) := by decide +kernel
theorem dL_law_322 : decode cL_law 322 = .ok (.iaload, 1) := by decide +kernel
theorem dL_law_323 : decode cL_law 323 = .ok (.invokevirtual 31, 3) := by decide +kernel
theorem dL_law_326 : decode cL_law 326 = .ok (.pop, 1) := by decide +kernel
theorem dL_law_327 : decode cL_law 327 = .ok (.goto 1158, 3) := by decide +kernel
theorem dL_law_330 : decode cL_law 330 = .ok (.aload_n 1, 1) := by decide +kernel
theorem dL_law_331 : decode cL_law 331 = .ok (.aload_n 0, 1) := by decide +kernel
theorem dL_law_332 : decode cL_law 332 = .ok (.iload_n 3, 1) := by decide +kernel
theorem dL_law_333 : decode cL_law 333 = .ok (.iconst 1, 1) := by decide +kernel
theorem dL_law_334 : decode cL_law 334 = .ok (.iadd, 1) := by decide +kernel
theorem dL_law_335 : decode cL_law 335 = .ok (.iaload, 1) := by decide +kernel
theorem dL_law_336 : decode cL_law 336 = .ok (.aload_n 0, 1) := by decide +kernel
theorem dL_law_337 : decode cL_law 337 = .ok (.iload_n 3, 1) := by decide +kernel
theorem dL_law_338 : decode cL_law 338 = .ok (.iconst 2, 1) := by decide +kernel
theorem dL_law_339 : decode cL_law 339 = .ok (.iadd, 1) := by decide +kernel
theorem dL_law_340 : decode cL_law 340 = .ok (.iaload, 1) := by decide +kernel
theorem dL_law_341 : decode cL_law 341 = .ok (.aload_n 0, 1) := by decide +kernel
theorem dL_law_342 : decode cL_law 342 = .ok (.iload_n 3, 1) := by decide +kernel
theorem dL_law_343 : decode cL_law 343 = .ok (.iconst 3, 1) := by decide +kernel
theorem dL_law_344 : decode cL_law 344 = .ok (.iadd, 1) := by decide +kernel
theorem dL_law_345 : decode cL_law 345 = .ok (.iaload, 1) := by decide +kernel
theorem dL_law_346 : decode cL_law 346 = .ok (.invokevirtual 32, 3) := by decide +kernel
theorem dL_law_349 : decode cL_law 349 = .ok (.pop, 1) := by decide +kernel
theorem dL_law_350 : decode cL_law 350 = .ok (.aload_n 2, 1) := by decide +kernel
theorem dL_law_351 : decode cL_law 351 = .ok (.aload_n 0, 1) := by decide +kernel
theorem dL_law_352 : decode cL_law 352 = .ok (.iload_n 3, 1) := by decide +kernel
theorem dL_law_353 : decode cL_law 353 = .ok (.iconst 1, 1) := by decide +kernel
theorem dL_law_354 : decode cL_law 354 = .ok (.iadd, 1) := by decide +kernel
theorem dL_law_355 : decode cL_law 355 = .ok (.iaload, 1) := by decide +kernel
theorem dL_law_356 : decode cL_law 356 = .ok (.aload_n 0, 1) := by decide +kernel
theorem dL_law_357 : decode cL_law 357 = .ok (.iload_n 3, 1) := by decide +kernel
theorem dL_law_358 : decode cL_law 358 = .ok (.iconst 2, 1) := by decide +kernel
theorem dL_law_359 : decode cL_law 359 = .ok (.iadd, 1) := by decide +kernel
theorem dL_law_360 : decode cL_law 360 = .ok (.iaload, 1) := by decide +kernel
theorem dL_law_361 : decode cL_law 361 = .ok (.aload_n 0, 1) := by decide +kernel
theorem dL_law_362 : decode cL_law 362 = .ok (.iload_n 3, 1) := by decide +kernel
theorem dL_law_363 : decode cL_law 363 = .ok (.iconst 3, 1) := by decide +kernel
theorem dL_law_364 : decode cL_law 364 = .ok (.iadd, 1) := by decide +kernel
theorem dL_law_365 : decode cL_law 365 = .ok (.iaload, 1) := by decide +kernel
theorem dL_law_366 : decode cL_law 366 = .ok (.invokevirtual 35, 3) := by decide +kernel
theorem dL_law_369 : decode cL_law 369 = .ok (.pop, 1) := by decide +kernel
theorem dL_law_370 : decode cL_law 370 = .ok (.goto 1115, 3) := by decide +kernel
theorem dL_law_373 : decode cL_law 373 = .ok (.aload_n 1, 1) := by decide +kernel
theorem dL_law_374 : decode cL_law 374 = .ok (.aload_n 0, 1) := by decide +kernel
theorem dL_law_375 : decode cL_law 375 = .ok (.iload_n 3, 1) := by decide +kernel
theorem dL_law_376 : decode cL_law 376 = .ok (.iconst 1, 1) := by decide +kernel
theorem dL_law_377 : decode cL_law 377 = .ok (.iadd, 1) := by decide +kernel
theorem dL_law_378 : decode cL_law 378 = .ok (.iaload, 1) := by decide +kernel
theorem dL_law_379 : decode cL_law 379 = .ok (.aload_n 0, 1) := by decide +kernel
theorem dL_law_380 : decode cL_law 380 = .ok (.iload_n 3, 1) := by decide +kernel
theorem dL_law_381 : decode cL_law 381 = .ok (.iconst 2, 1) := by decide +kernel
theorem dL_law_382 : decode cL_law 382 = .ok (.iadd, 1) := by decide +kernel
theorem dL_law_383 : decode cL_law 383 = .ok (.iaload, 1) := by decide +kernel
theorem dL_law_384 : decode cL_law 384 = .ok (.invokevirtual 36, 3) := by decide +kernel
theorem dL_law_387 : decode cL_law 387 = .ok (.pop, 1) := by decide +kernel
theorem dL_law_388 : decode cL_law 388 = .ok (.aload_n 2, 1) := by decide +kernel
theorem dL_law_389 : decode cL_law 389 = .ok (.aload_n 0, 1) := by decide +kernel
theorem dL_law_390 : decode cL_law 390 = .ok (.iload_n 3, 1) := by decide +kernel
theorem dL_law_391 : decode cL_law 391 = .ok (.iconst 1, 1) := by decide +kernel
theorem dL_law_392 : decode cL_law 392 = .ok (.iadd, 1) := by decide +kernel
theorem dL_law_393 : decode cL_law 393 = .ok (.iaload, 1) := by decide +kernel
theorem dL_law_394 : decode cL_law 394 = .ok (.aload_n 0, 1) := by decide +kernel
theorem dL_law_395 : decode cL_law 395 = .ok (.iload_n 3, 1) := by decide +kernel
theorem dL_law_396 : decode cL_law 396 = .ok (.iconst 2, 1) := by decide +kernel
theorem dL_law_397 : decode cL_law 397 = .ok (.iadd, 1) := by decide +kernel
theorem dL_law_398 : decode cL_law 398 = .ok (.iaload, 1) := by decide +kernel
theorem dL_law_399 : decode cL_law 399 = .ok (.invokevirtual 40, 3) := by decide +kernel
theorem dL_law_402 : decode cL_law 402 = .ok (.pop, 1) := by decide +kernel
theorem dL_law_403 : decode cL_law 403 = .ok (.goto 1082, 3) := by decide +kernel
theorem dL_law_406 : decode cL_law 406 = .ok (.aload_n 1, 1) := by decide +kernel
theorem dL_law_407 : decode cL_law 407 = .ok (.aload_n 0, 1) := by decide +kernel
theorem dL_law_408 : decode cL_law 408 = .ok (.iload_n 3, 1) := by decide +kernel
theorem dL_law_409 : decode cL_law 409 = .ok (.iconst 1, 1) := by decide +kernel
theorem dL_law_410 : decode cL_law 410 = .ok (.iadd, 1) := by decide +kernel
theorem dL_law_411 : decode cL_law 411 = .ok (.iaload, 1) := by decide +kernel
theorem dL_law_412 : decode cL_law 412 = .ok (.aload_n 0, 1) := by decide +kernel
theorem dL_law_413 : decode cL_law 413 = .ok (.iload_n 3, 1) := by decide +kernel
theorem dL_law_414 : decode cL_law 414 = .ok (.iconst 2, 1) := by decide +kernel
theorem dL_law_415 : decode cL_law 415 = .ok (.iadd, 1) := by decide +kernel
theorem dL_law_416 : decode cL_law 416 = .ok (.iaload, 1) := by decide +kernel
theorem dL_law_417 : decode cL_law 417 = .ok (.invokevirtual 41, 3) := by decide +kernel
theorem dL_law_420 : decode cL_law 420 = .ok (.pop, 1) := by decide +kernel
theorem dL_law_421 : decode cL_law 421 = .ok (.aload_n 2, 1) := by decide +kernel
theorem dL_law_422 : decode cL_law 422 = .ok (.aload_n 0, 1) := by decide +kernel
theorem dL_law_423 : decode cL_law 423 = .ok (.iload_n 3, 1) := by decide +kernel
theorem dL_law_424 : decode cL_law 424 = .ok (.iconst 1, 1) := by decide +kernel
theorem dL_law_425 : decode cL_law 425 = .ok (.iadd, 1) := by decide +kernel
theorem dL_law_426 : decode cL_law 426 = .ok (.iaload, 1) := by decide +kernel
theorem dL_law_427 : decode cL_law 427 = .ok (.aload_n 0, 1) := by decide +kernel
theorem dL_law_428 : decode cL_law 428 = .ok (.iload_n 3, 1) := by decide +kernel
theorem dL_law_429 : decode cL_law 429 = .ok (.iconst 2, 1) := by decide +kernel
theorem dL_law_430 : decode cL_law 430 = .ok (.iadd, 1) := by decide +kernel
theorem dL_law_431 : decode cL_law 431 = .ok (.iaload, 1) := by decide +kernel
theorem dL_law_432 : decode cL_law 432 = .ok (.invokevirtual 44, 3) := by decide +kernel
theorem dL_law_435 : decode cL_law 435 = .ok (.pop, 1) := by decide +kernel
theorem dL_law_436 : decode cL_law 436 = .ok (.goto 1049, 3) := by decide +kernel
theorem dL_law_439 : decode cL_law 439 = .ok (.aload_n 1, 1) := by decide +kernel
theorem dL_law_440 : decode cL_law 440 = .ok (.aload_n 0, 1) := by decide +kernel
theorem dL_law_441 : decode cL_law 441 = .ok (.iload_n 3, 1) := by decide +kernel
theorem dL_law_442 : decode cL_law 442 = .ok (.iconst 1, 1) := by decide +kernel
theorem dL_law_443 : decode cL_law 443 = .ok (.iadd, 1) := by decide +kernel
theorem dL_law_444 : decode cL_law 444 = .ok (.iaload, 1) := by decide +kernel
theorem dL_law_445 : decode cL_law 445 = .ok (.aload_n 0, 1) := by decide +kernel
theorem dL_law_446 : decode cL_law 446 = .ok (.iload_n 3, 1) := by decide +kernel
theorem dL_law_447 : decode cL_law 447 = .ok (.iconst 2, 1) := by decide +kernel
theorem dL_law_448 : decode cL_law 448 = .ok (.iadd, 1) := by decide +kernel
theorem dL_law_449 : decode cL_law 449 = .ok (.iaload, 1) := by decide +kernel
theorem dL_law_450 : decode cL_law 450 = .ok (.aload_n 0, 1) := by decide +kernel
theorem dL_law_451 : decode cL_law 451 = .ok (.iload_n 3, 1) := by decide +kernel
theorem dL_law_452 : decode cL_law 452 = .ok (.iconst 3, 1) := by decide +kernel
theorem dL_law_453 : decode cL_law 453 = .ok (.iadd, 1) := by decide +kernel
theorem dL_law_454 : decode cL_law 454 = .ok (.iaload, 1) := by decide +kernel
theorem dL_law_455 : decode cL_law 455 = .ok (.aload_n 0, 1) := by decide +kernel
theorem dL_law_456 : decode cL_law 456 = .ok (.iload_n 3, 1) := by decide +kernel
theorem dL_law_457 : decode cL_law 457 = .ok (.iconst 4, 1) := by decide +kernel
theorem dL_law_458 : decode cL_law 458 = .ok (.iadd, 1) := by decide +kernel
theorem dL_law_459 : decode cL_law 459 = .ok (.iaload, 1) := by decide +kernel
theorem dL_law_460 : decode cL_law 460 = .ok (.aload_n 0, 1) := by decide +kernel
theorem dL_law_461 : decode cL_law 461 = .ok (.iload_n 3, 1) := by decide +kernel
theorem dL_law_462 : decode cL_law 462 = .ok (.iconst 5, 1) := by decide +kernel
theorem dL_law_463 : decode cL_law 463 = .ok (.iadd, 1) := by decide +kernel
theorem dL_law_464 : decode cL_law 464 = .ok (.iaload, 1) := by decide +kernel
theorem dL_law_465 : decode cL_law 465 = .ok (.invokevirtual 45, 3) := by decide +kernel
theorem dL_law_468 : decode cL_law 468 = .ok (.pop, 1) := by decide +kernel
theorem dL_law_469 : decode cL_law 469 = .ok (.aload_n 2, 1) := by decide +kernel
theorem dL_law_470 : decode cL_law 470 = .ok (.aload_n 0, 1) := by decide +kernel
theorem dL_law_471 : decode cL_law 471 = .ok (.iload_n 3, 1) := by decide +kernel
theorem dL_law_472 : decode cL_law 472 = .ok (.iconst 1, 1) := by decide +kernel
theorem dL_law_473 : decode cL_law 473 = .ok (.iadd, 1) := by decide +kernel
theorem dL_law_474 : decode cL_law 474 = .ok (.iaload, 1) := by decide +kernel
theorem dL_law_475 : decode cL_law 475 = .ok (.aload_n 0, 1) := by decide +kernel
theorem dL_law_476 : decode cL_law 476 = .ok (.iload_n 3, 1) := by decide +kernel
theorem dL_law_477 : decode cL_law 477 = .ok (.iconst 2, 1) := by decide +kernel
theorem dL_law_478 : decode cL_law 478 = .ok (.iadd, 1) := by decide +kernel
theorem dL_law_479 : decode cL_law 479 = .ok (.iaload, 1) := by decide +kernel
theorem dL_law_480 : decode cL_law 480 = .ok (.aload_n 0, 1) := by decide +kernel
theorem dL_law_481 : decode cL_law 481 = .ok (.iload_n 3, 1) := by decide +kernel
theorem dL_law_482 : decode cL_law 482 = .ok (.iconst 3, 1) := by decide +kernel
theorem dL_law_483 : decode cL_law 483 = .ok (.iadd, 1) := by decide +kernel
theorem dL_law_484 : decode cL_law 484 = .ok (.iaload, 1) := by decide +kernel
theorem dL_law_485 : decode cL_law 485 = .ok (.aload_n 0, 1) := by decide +kernel
theorem dL_law_486 : decode cL_law 486 = .ok (.iload_n 3, 1) := by decide +kernel
theorem dL_law_487 : decode cL_law 487 = .ok (.iconst 4, 1) := by decide +kernel
theorem dL_law_488 : decode cL_law 488 = .ok (.iadd, 1) := by decide +kernel
theorem dL_law_489 : decode cL_law 489 = .ok (.iaload, 1) := by decide +kernel
theorem dL_law_490 : decode cL_law 490 = .ok (.aload_n 0, 1) := by decide +kernel
theorem dL_law_491 : decode cL_law 491 = .ok (.iload_n 3, 1) := by decide +kernel
theorem dL_law_492 : decode cL_law 492 = .ok (.iconst 5, 1) := by decide +kernel
theorem dL_law_493 : decode cL_law 493 = .ok (.iadd, 1) := by decide +kernel
theorem dL_law_494 : decode cL_law 494 = .ok (.iaload, 1) := by decide +kernel
theorem dL_law_495 : decode cL_law 495 = .ok (.invokevirtual 49, 3) := by decide +kernel
theorem dL_law_498 : decode cL_law 498 = .ok (.pop, 1) := by decide +kernel
theorem dL_law_499 : decode cL_law 499 = .ok (.goto 986, 3) := by decide +kernel
theorem dL_law_502 : decode cL_law 502 = .ok (.aload_n 1, 1) := by decide +kernel
theorem dL_law_503 : decode cL_law 503 = .ok (.aload_n 0, 1) := by decide +kernel
theorem dL_law_504 : decode cL_law 504 = .ok (.iload_n 3, 1) := by decide +kernel
theorem dL_law_505 : decode cL_law 505 = .ok (.iconst 1, 1) := by decide +kernel
theorem dL_law_506 : decode cL_law 506 = .ok (.iadd, 1) := by decide +kernel
theorem dL_law_507 : decode cL_law 507 = .ok (.iaload, 1) := by decide +kernel
theorem dL_law_508 : decode cL_law 508 = .ok (.aload_n 0, 1) := by decide +kernel
theorem dL_law_509 : decode cL_law 509 = .ok (.iload_n 3, 1) := by decide +kernel
theorem dL_law_510 : decode cL_law 510 = .ok (.iconst 2, 1) := by decide +kernel
theorem dL_law_511 : decode cL_law 511 = .ok (.iadd, 1) := by decide +kernel
theorem dL_law_512 : decode cL_law 512 = .ok (.iaload, 1) := by decide +kernel
theorem dL_law_513 : decode cL_law 513 = .ok (.invokevirtual 50, 3) := by decide +kernel
theorem dL_law_516 : decode cL_law 516 = .ok (.pop, 1) := by decide +kernel
theorem dL_law_517 : decode cL_law 517 = .ok (.aload_n 2, 1) := by decide +kernel
theorem dL_law_518 : decode cL_law 518 = .ok (.aload_n 0, 1) := by decide +kernel
theorem dL_law_519 : decode cL_law 519 = .ok (.iload_n 3, 1) := by decide +kernel
theorem dL_law_520 : decode cL_law 520 = .ok (.iconst 1, 1) := by decide +kernel
theorem dL_law_521 : decode cL_law 521 = .ok (.iadd, 1) := by decide +kernel
theorem dL_law_522 : decode cL_law 522 = .ok (.iaload, 1) := by decide +kernel
theorem dL_law_523 : decode cL_law 523 = .ok (.aload_n 0, 1) := by decide +kernel
theorem dL_law_524 : decode cL_law 524 = .ok (.iload_n 3, 1) := by decide +kernel
theorem dL_law_525 : decode cL_law 525 = .ok (.iconst 2, 1) := by decide +kernel
theorem dL_law_526 : decode cL_law 526 = .ok (.iadd, 1) := by decide +kernel
theorem dL_law_527 : decode cL_law 527 = .ok (.iaload, 1) := by decide +kernel
theorem dL_law_528 : decode cL_law 528 = .ok (.invokevirtual 53, 3) := by decide +kernel
theorem dL_law_531 : decode cL_law 531 = .ok (.pop, 1) := by decide +kernel
theorem dL_law_532 : decode cL_law 532 = .ok (.goto 953, 3) := by decide +kernel
theorem dL_law_535 : decode cL_law 535 = .ok (.aload_n 1, 1) := by decide +kernel
theorem dL_law_536 : decode cL_law 536 = .ok (.aload_n 0, 1) := by decide +kernel
theorem dL_law_537 : decode cL_law 537 = .ok (.iload_n 3, 1) := by decide +kernel
theorem dL_law_538 : decode cL_law 538 = .ok (.iconst 1, 1) := by decide +kernel
theorem dL_law_539 : decode cL_law 539 = .ok (.iadd, 1) := by decide +kernel
theorem dL_law_540 : decode cL_law 540 = .ok (.iaload, 1) := by decide +kernel
theorem dL_law_541 : decode cL_law 541 = .ok (.aload_n 0, 1) := by decide +kernel
theorem dL_law_542 : decode cL_law 542 = .ok (.iload_n 3, 1) := by decide +kernel
theorem dL_law_543 : decode cL_law 543 = .ok (.iconst 2, 1) := by decide +kernel
theorem dL_law_544 : decode cL_law 544 = .ok (.iadd, 1) := by decide +kernel
theorem dL_law_545 : decode cL_law 545 = .ok (.iaload, 1) := by decide +kernel
theorem dL_law_546 : decode cL_law 546 = .ok (.invokevirtual 54, 3) := by decide +kernel
theorem dL_law_549 : decode cL_law 549 = .ok (.pop, 1) := by decide +kernel
theorem dL_law_550 : decode cL_law 550 = .ok (.aload_n 2, 1) := by decide +kernel
theorem dL_law_551 : decode cL_law 551 = .ok (.aload_n 0, 1) := by decide +kernel
theorem dL_law_552 : decode cL_law 552 = .ok (.iload_n 3, 1) := by decide +kernel
theorem dL_law_553 : decode cL_law 553 = .ok (.iconst 1, 1) := by decide +kernel
theorem dL_law_554 : decode cL_law 554 = .ok (.iadd, 1) := by decide +kernel
theorem dL_law_555 : decode cL_law 555 = .ok (.iaload, 1) := by decide +kernel
theorem dL_law_556 : decode cL_law 556 = .ok (.aload_n 0, 1) := by decide +kernel
theorem dL_law_557 : decode cL_law 557 = .ok (.iload_n 3, 1) := by decide +kernel
theorem dL_law_558 : decode cL_law 558 = .ok (.iconst 2, 1) := by decide +kernel
