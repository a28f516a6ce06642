theorem dX12_plane_74 : decode cX12_plane 74 = .ok (.aload_n 0, 1) := by decide +kernel
theorem dX12_plane_75 : decode cX12_plane 75 = .ok (.getfield 161, 3) := by decide +kernel
theorem dX12_plane_78 : decode cX12_plane 78 = .ok (.iconst 1, 1) := by decide +kernel
theorem dX12_plane_79 : decode cX12_plane 79 = .ok (.isub, 1) := by decide +kernel
theorem dX12_plane_80 : decode cX12_plane 80 = .ok (.ireturn, 1) := by decide +kernel
theorem dX12_onIt_0 : decode cX12_onIt 0 = .ok (.iconst 0, 1) := by decide +kernel
theorem dX12_onIt_1 : decode cX12_onIt 1 = .ok (.istore_n 3, 1) := by decide +kernel
theorem dX12_onIt_2 : decode cX12_onIt 2 = .ok (.iconst 0, 1) := by decide +kernel
theorem dX12_onIt_3 : decode cX12_onIt 3 = .ok (.istore 4, 2) := by decide +kernel
theorem dX12_onIt_5 : decode cX12_onIt 5 = .ok (.iload 4, 2) := by decide +kernel
theorem dX12_onIt_7 : decode cX12_onIt 7 = .ok (.aload_n 0, 1) := by decide +kernel
theorem dX12_onIt_8 : decode cX12_onIt 8 = .ok (.getfield 166, 3) := by decide +kernel
theorem dX12_onIt_11 : decode cX12_onIt 11 = .ok (.if_icmp .ge 39, 3) := by decide +kernel
theorem dX12_onIt_14 : decode cX12_onIt 14 = .ok (.iload_n 3, 1) := by decide +kernel
theorem dX12_onIt_15 : decode cX12_onIt 15 = .ok (.aload_n 0, 1) := by decide +kernel
theorem dX12_onIt_16 : decode cX12_onIt 16 = .ok (.getfield 46, 3) := by decide +kernel
theorem dX12_onIt_19 : decode cX12_onIt 19 = .ok (.iload 4, 2) := by decide +kernel
theorem dX12_onIt_21 : decode cX12_onIt 21 = .ok (.iaload, 1) := by decide +kernel
theorem dX12_onIt_22 : decode cX12_onIt 22 = .ok (.iload_n 1, 1) := by decide +kernel
theorem dX12_onIt_23 : decode cX12_onIt 23 = .ok (.if_icmp .ne 18, 3) := by decide +kernel
theorem dX12_onIt_26 : decode cX12_onIt 26 = .ok (.aload_n 0, 1) := by decide +kernel
theorem dX12_onIt_27 : decode cX12_onIt 27 = .ok (.getfield 40, 3) := by decide +kernel
theorem dX12_onIt_30 : decode cX12_onIt 30 = .ok (.iload 4, 2) := by decide +kernel
theorem dX12_onIt_32 : decode cX12_onIt 32 = .ok (.iaload, 1) := by decide +kernel
theorem dX12_onIt_33 : decode cX12_onIt 33 = .ok (.iload_n 2, 1) := by decide +kernel
theorem dX12_onIt_34 : decode cX12_onIt 34 = .ok (.if_icmp .ne 7, 3) := by decide +kernel
theorem dX12_onIt_37 : decode cX12_onIt 37 = .ok (.iconst 1, 1) := by decide +kernel
theorem dX12_onIt_38 : decode cX12_onIt 38 = .ok (.goto 4, 3) := by decide +kernel
theorem dX12_onIt_41 : decode cX12_onIt 41 = .ok (.iconst 0, 1) := by decide +kernel
theorem dX12_onIt_42 : decode cX12_onIt 42 = .ok (.iadd, 1) := by decide +kernel
theorem dX12_onIt_43 : decode cX12_onIt 43 = .ok (.istore_n 3, 1) := by decide +kernel
theorem dX12_onIt_44 : decode cX12_onIt 44 = .ok (.iinc 4 1, 3) := by decide +kernel
theorem dX12_onIt_47 : decode cX12_onIt 47 = .ok (.goto (-42), 3) := by decide +kernel
theorem dX12_onIt_50 : decode cX12_onIt 50 = .ok (.iload_n 3, 1) := by decide +kernel
theorem dX12_onIt_51 : decode cX12_onIt 51 = .ok (.ireturn, 1) := by decide +kernel
theorem dX12_need_0 : decode cX12_need 0 = .ok (.aload_n 0, 1) := by decide +kernel
theorem dX12_need_1 : decode cX12_need 1 = .ok (.iload_n 1, 1) := by decide +kernel
theorem dX12_need_2 : decode cX12_need 2 = .ok (.invokevirtual 169, 3) := by decide +kernel
theorem dX12_need_5 : decode cX12_need 5 = .ok (.ifCond .eq 20, 3) := by decide +kernel
theorem dX12_need_8 : decode cX12_need 8 = .ok (.aload_n 0, 1) := by decide +kernel
theorem dX12_need_9 : decode cX12_need 9 = .ok (.iload_n 2, 1) := by decide +kernel
theorem dX12_need_10 : decode cX12_need 10 = .ok (.invokevirtual 173, 3) := by decide +kernel
theorem dX12_need_13 : decode cX12_need 13 = .ok (.ifCond .eq 12, 3) := by decide +kernel
theorem dX12_need_16 : decode cX12_need 16 = .ok (.iload_n 3, 1) := by decide +kernel
theorem dX12_need_17 : decode cX12_need 17 = .ok (.iconst 0, 1) := by decide +kernel
theorem dX12_need_18 : decode cX12_need 18 = .ok (.iconst 3, 1) := by decide +kernel
theorem dX12_need_19 : decode cX12_need 19 = .ok (.invokestatic 151, 3) := by decide +kernel
theorem dX12_need_22 : decode cX12_need 22 = .ok (.ifCond .ne 5, 3) := by decide +kernel
theorem dX12_need_25 : decode cX12_need 25 = .ok (.iconst (-1), 1) := by decide +kernel
theorem dX12_need_26 : decode cX12_need 26 = .ok (.ireturn, 1) := by decide +kernel
theorem dX12_need_27 : decode cX12_need 27 = .ok (.aload_n 0, 1) := by decide +kernel
theorem dX12_need_28 : decode cX12_need 28 = .ok (.iload_n 1, 1) := by decide +kernel
theorem dX12_need_29 : decode cX12_need 29 = .ok (.invokevirtual 176, 3) := by decide +kernel
theorem dX12_need_32 : decode cX12_need 32 = .ok (.ifCond .ne 13, 3) := by decide +kernel
theorem dX12_need_35 : decode cX12_need 35 = .ok (.aload_n 0, 1) := by decide +kernel
theorem dX12_need_36 : decode cX12_need 36 = .ok (.iload_n 1, 1) := by decide +kernel
theorem dX12_need_37 : decode cX12_need 37 = .ok (.iload_n 2, 1) := by decide +kernel
theorem dX12_need_38 : decode cX12_need 38 = .ok (.invokevirtual 179, 3) := by decide +kernel
theorem dX12_need_41 : decode cX12_need 41 = .ok (.iload_n 3, 1) := by decide +kernel
theorem dX12_need_42 : decode cX12_need 42 = .ok (.if_icmp .le 6, 3) := by decide +kernel
theorem dX12_need_45 : decode cX12_need 45 = .ok (.bipush (-2), 2) := by decide +kernel
theorem dX12_need_47 : decode cX12_need 47 = .ok (.ireturn, 1) := by decide +kernel
theorem dX12_need_48 : decode cX12_need 48 = .ok (.aload_n 0, 1) := by decide +kernel
theorem dX12_need_49 : decode cX12_need 49 = .ok (.getfield 34, 3) := by decide +kernel
theorem dX12_need_52 : decode cX12_need 52 = .ok (.bipush 10, 2) := by decide +kernel
theorem dX12_need_54 : decode cX12_need 54 = .ok (.iload_n 1, 1) := by decide +kernel
theorem dX12_need_55 : decode cX12_need 55 = .ok (.imul, 1) := by decide +kernel
theorem dX12_need_56 : decode cX12_need 56 = .ok (.iload_n 2, 1) := by decide +kernel
theorem dX12_need_57 : decode cX12_need 57 = .ok (.iadd, 1) := by decide +kernel
theorem dX12_need_58 : decode cX12_need 58 = .ok (.iaload, 1) := by decide +kernel
theorem dX12_need_59 : decode cX12_need 59 = .ok (.istore 4, 2) := by decide +kernel
theorem dX12_need_61 : decode cX12_need 61 = .ok (.aload_n 0, 1) := by decide +kernel
theorem dX12_need_62 : decode cX12_need 62 = .ok (.getfield 34, 3) := by decide +kernel
theorem dX12_need_65 : decode cX12_need 65 = .ok (.bipush 10, 2) := by decide +kernel
theorem dX12_need_67 : decode cX12_need 67 = .ok (.iload_n 1, 1) := by decide +kernel
theorem dX12_need_68 : decode cX12_need 68 = .ok (.imul, 1) := by decide +kernel
theorem dX12_need_69 : decode cX12_need 69 = .ok (.iload_n 2, 1) := by decide +kernel
theorem dX12_need_70 : decode cX12_need 70 = .ok (.iadd, 1) := by decide +kernel
theorem dX12_need_71 : decode cX12_need 71 = .ok (.iload_n 3, 1) := by decide +kernel
theorem dX12_need_72 : decode cX12_need 72 = .ok (.iastore, 1) := by decide +kernel
theorem dX12_need_73 : decode cX12_need 73 = .ok (.iload 4, 2) := by decide +kernel
theorem dX12_need_75 : decode cX12_need 75 = .ok (.ireturn, 1) := by decide +kernel
theorem dX12_days_0 : decode cX12_days 0 = .ok (.iload_n 1, 1) := by decide +kernel
theorem dX12_days_1 : decode cX12_days 1 = .ok (.iconst 1, 1) := by decide +kernel
theorem dX12_days_2 : decode cX12_days 2 = .ok (.sipush 400, 3) := by decide +kernel
theorem dX12_days_5 : decode cX12_days 5 = .ok (.invokestatic 151, 3) := by decide +kernel
theorem dX12_days_8 : decode cX12_days 8 = .ok (.ifCond .eq 15, 3) := by decide +kernel
theorem dX12_days_11 : decode cX12_days 11 = .ok (.aload_n 0, 1) := by decide +kernel
theorem dX12_days_12 : decode cX12_days 12 = .ok (.getfield 183, 3) := by decide +kernel
theorem dX12_days_15 : decode cX12_days 15 = .ok (.iload_n 1, 1) := by decide +kernel
theorem dX12_days_16 : decode cX12_days 16 = .ok (.iadd, 1) := by decide +kernel
theorem dX12_days_17 : decode cX12_days 17 = .ok (.sipush 9999, 3) := by decide +kernel
theorem dX12_days_20 : decode cX12_days 20 = .ok (.if_icmp .le 5, 3) := by decide +kernel
theorem dX12_days_23 : decode cX12_days 23 = .ok (.iconst (-1), 1) := by decide +kernel
theorem dX12_days_24 : decode cX12_days 24 = .ok (.ireturn, 1) := by decide +kernel
theorem dX12_days_25 : decode cX12_days 25 = .ok (.aload_n 0, 1) := by decide +kernel
theorem dX12_days_26 : decode cX12_days 26 = .ok (.dup, 1) := by decide +kernel
theorem dX12_days_27 : decode cX12_days 27 = .ok (.getfield 183, 3) := by decide +kernel
theorem dX12_days_30 : decode cX12_days 30 = .ok (.iload_n 1, 1) := by decide +kernel
theorem dX12_days_31 : decode cX12_days 31 = .ok (.iadd, 1) := by decide +kernel
theorem dX12_days_32 : decode cX12_days 32 = .ok (.putfield 183, 3) := by decide +kernel
theorem dX12_days_35 : decode cX12_days 35 = .ok (.iconst 0, 1) := by decide +kernel
theorem dX12_days_36 : decode cX12_days 36 = .ok (.istore_n 2, 1) := by decide +kernel
theorem dX12_days_37 : decode cX12_days 37 = .ok (.iload_n 2, 1) := by decide +kernel
theorem dX12_days_38 : decode cX12_days 38 = .ok (.aload_n 0, 1) := by decide +kernel
theorem dX12_days_39 : decode cX12_days 39 = .ok (.getfield 166, 3) := by decide +kernel
theorem dX12_days_42 : decode cX12_days 42 = .ok (.if_icmp .ge 34, 3) := by decide +kernel
theorem dX12_days_45 : decode cX12_days 45 = .ok (.aload_n 0, 1) := by decide +kernel
theorem dX12_days_46 : decode cX12_days 46 = .ok (.getfield 46, 3) := by decide +kernel
theorem dX12_days_49 : decode cX12_days 49 = .ok (.iload_n 2, 1) := by decide +kernel
theorem dX12_days_50 : decode cX12_days 50 = .ok (.iaload, 1) := by decide +kernel
theorem dX12_days_51 : decode cX12_days 51 = .ok (.bipush 12, 2) := by decide +kernel
theorem dX12_days_53 : decode cX12_days 53 = .ok (.if_icmp .eq 17, 3) := by decide +kernel
theorem dX12_days_56 : decode cX12_days 56 = .ok (.aload_n 0, 1) := by decide +kernel
theorem dX12_days_57 : decode cX12_days 57 = .ok (.getfield 49, 3) := by decide +kernel
theorem dX12_days_60 : decode cX12_days 60 = .ok (.iconst 3, 1) := by decide +kernel
theorem dX12_days_61 : decode cX12_days 61 = .ok (.iload_n 2, 1) := by decide +kernel
theorem dX12_days_62 : decode cX12_days 62 = .ok (.imul, 1) := by decide +kernel
theorem dX12_days_63 : decode cX12_days 63 = .ok (.iconst 2, 1) := by decide +kernel
theorem dX12_days_64 : decode cX12_days 64 = .ok (.iadd, 1) := by decide +kernel
theorem dX12_days_65 : decode cX12_days 65 = .ok (.dup2, 1) := by decide +kernel
theorem dX12_days_66 : decode cX12_days 66 = .ok (.iaload, 1) := by decide +kernel
theorem dX12_days_67 : decode cX12_days 67 = .ok (.iload_n 1, 1) := by decide +kernel
theorem dX12_days_68 : decode cX12_days 68 = .ok (.iadd, 1) := by decide +kernel
theorem dX12_days_69 : decode cX12_days 69 = .ok (.iastore, 1) := by decide +kernel
theorem dX12_days_70 : decode cX12_days 70 = .ok (.iinc 2 1, 3) := by decide +kernel
theorem dX12_days_73 : decode cX12_days 73 = .ok (.goto (-36), 3) := by decide +kernel
theorem dX12_days_76 : decode cX12_days 76 = .ok (.aload_n 0, 1) := by decide +kernel
theorem dX12_days_77 : decode cX12_days 77 = .ok (.getfield 183, 3) := by decide +kernel
theorem dX12_days_80 : decode cX12_days 80 = .ok (.ireturn, 1) := by decide +kernel
theorem dX12_isPart_0 : decode cX12_isPart 0 = .ok (.iload_n 1, 1) := by decide +kernel
theorem dX12_isPart_1 : decode cX12_isPart 1 = .ok (.iconst 0, 1) := by decide +kernel
theorem dX12_isPart_2 : decode cX12_isPart 2 = .ok (.aload_n 0, 1) := by decide +kernel
theorem dX12_isPart_3 : decode cX12_isPart 3 = .ok (.getfield 166, 3) := by decide +kernel
theorem dX12_isPart_6 : decode cX12_isPart 6 = .ok (.iconst 1, 1) := by decide +kernel
theorem dX12_isPart_7 : decode cX12_isPart 7 = .ok (.isub, 1) := by decide +kernel
theorem dX12_isPart_8 : decode cX12_isPart 8 = .ok (.invokestatic 151, 3) := by decide +kernel
theorem dX12_isPart_11 : decode cX12_isPart 11 = .ok (.ireturn, 1) := by decide +kernel
theorem dX12_begin_0 : decode cX12_begin 0 = .ok (.aload_n 0, 1) := by decide +kernel
theorem dX12_begin_1 : decode cX12_begin 1 = .ok (.getfield 52, 3) := by decide +kernel
theorem dX12_begin_4 : decode cX12_begin 4 = .ok (.aload_n 0, 1) := by decide +kernel
theorem dX12_begin_5 : decode cX12_begin 5 = .ok (.getfield 186, 3) := by decide +kernel
theorem dX12_begin_8 : decode cX12_begin 8 = .ok (.iload_n 1, 1) := by decide +kernel
theorem dX12_begin_9 : decode cX12_begin 9 = .ok (.iastore, 1) := by decide +kernel
theorem dX12_begin_10 : decode cX12_begin 10 = .ok (.aload_n 0, 1) := by decide +kernel
theorem dX12_begin_11 : decode cX12_begin 11 = .ok (.getfield 55, 3) := by decide +kernel
theorem dX12_begin_14 : decode cX12_begin 14 = .ok (.aload_n 0, 1) := by decide +kernel
theorem dX12_begin_15 : decode cX12_begin 15 = .ok (.getfield 186, 3) := by decide +kernel
theorem dX12_begin_18 : decode cX12_begin 18 = .ok (.iload_n 2, 1) := by decide +kernel
theorem dX12_begin_19 : decode cX12_begin 19 = .ok (.iastore, 1) := by decide +kernel
theorem dX12_begin_20 : decode cX12_begin 20 = .ok (.aload_n 0, 1) := by decide +kernel
theorem dX12_begin_21 : decode cX12_begin 21 = .ok (.getfield 58, 3) := by decide +kernel
theorem dX12_begin_24 : decode cX12_begin 24 = .ok (.aload_n 0, 1) := by decide +kernel
theorem dX12_begin_25 : decode cX12_begin 25 = .ok (.getfield 186, 3) := by decide +kernel
theorem dX12_begin_28 : decode cX12_begin 28 = .ok (.aload_n 0, 1) := by decide +kernel
theorem dX12_begin_29 : decode cX12_begin 29 = .ok (.getfield 183, 3) := by decide +kernel
theorem dX12_begin_32 : decode cX12_begin 32 = .ok (.iastore, 1) := by decide +kernel
theorem dX12_begin_33 : decode cX12_begin 33 = .ok (.aload_n 0, 1) := by decide +kernel
theorem dX12_begin_34 : decode cX12_begin 34 = .ok (.getfield 61, 3) := by decide +kernel
theorem dX12_begin_37 : decode cX12_begin 37 = .ok (.aload_n 0, 1) := by decide +kernel
theorem dX12_begin_38 : decode cX12_begin 38 = .ok (.getfield 186, 3) := by decide +kernel
theorem dX12_begin_41 : decode cX12_begin 41 = .ok (.ldc 189, 2) := by decide +kernel
theorem dX12_begin_43 : decode cX12_begin 43 = .ok (.iastore, 1) := by decide +kernel
theorem dX12_begin_44 : decode cX12_begin 44 = .ok (.aload_n 0, 1) := by decide +kernel
theorem dX12_begin_45 : decode cX12_begin 45 = .ok (.getfield 64, 3) := by decide +kernel
theorem dX12_begin_48 : decode cX12_begin 48 = .ok (.aload_n 0, 1) := by decide +kernel
theorem dX12_begin_49 : decode cX12_begin 49 = .ok (.getfield 186, 3) := by decide +kernel
theorem dX12_begin_52 : decode cX12_begin 52 = .ok (.aload_n 0, 1) := by decide +kernel
theorem dX12_begin_53 : decode cX12_begin 53 = .ok (.getfield 49, 3) := by decide +kernel
theorem dX12_begin_56 : decode cX12_begin 56 = .ok (.iconst 3, 1) := by decide +kernel
theorem dX12_begin_57 : decode cX12_begin 57 = .ok (.iload_n 1, 1) := by decide +kernel
theorem dX12_begin_58 : decode cX12_begin 58 = .ok (.imul, 1) := by decide +kernel
theorem dX12_begin_59 : decode cX12_begin 59 = .ok (.iaload, 1) := by decide +kernel
theorem dX12_begin_60 : decode cX12_begin 60 = .ok (.iastore, 1) := by decide +kernel
theorem dX12_begin_61 : decode cX12_begin 61 = .ok (.aload_n 0, 1) := by decide +kernel
theorem dX12_begin_62 : decode cX12_begin 62 = .ok (.getfield 70, 3) := by decide +kernel
theorem dX12_begin_65 : decode cX12_begin 65 = .ok (.aload_n 0, 1) := by decide +kernel
theorem dX12_begin_66 : decode cX12_begin 66 = .ok (.getfield 186, 3) := by decide +kernel
theorem dX12_begin_69 : decode cX12_begin 69 = .ok (.aload_n 0, 1) := by decide +kernel
theorem dX12_begin_70 : decode cX12_begin 70 = .ok (.getfield 49, 3) := by decide +kernel
theorem dX12_begin_73 : decode cX12_begin 73 = .ok (.iconst 3, 1) := by decide +kernel
theorem dX12_begin_74 : decode cX12_begin 74 = .ok (.iload_n 1, 1) := by decide +kernel
theorem dX12_begin_75 : decode cX12_begin 75 = .ok (.imul, 1) := by decide +kernel
theorem dX12_begin_76 : decode cX12_begin 76 = .ok (.iconst 1, 1) := by decide +kernel
theorem dX12_begin_77 : decode cX12_begin 77 = .ok (.iadd, 1) := by decide +kernel
theorem dX12_begin_78 : decode cX12_begin 78 = .ok (.iaload, 1) := by decide +kernel
theorem dX12_begin_79 : decode cX12_begin 79 = .ok (.iastore, 1) := by decide +kernel
theorem dX12_begin_80 : decode cX12_begin 80 = .ok (.aload_n 0, 1) := by decide +kernel
theorem dX12_begin_81 : decode cX12_begin 81 = .ok (.getfield 76, 3) := by decide +kernel
theorem dX12_begin_84 : decode cX12_begin 84 = .ok (.aload_n 0, 1) := by decide +kernel
theorem dX12_begin_85 : decode cX12_begin 85 = .ok (.getfield 186, 3) := by decide +kernel
theorem dX12_begin_88 : decode cX12_begin 88 = .ok (.iconst 0, 1) := by decide +kernel
theorem dX12_begin_89 : decode cX12_begin 89 = .ok (.bastore, 1) := by decide +kernel
theorem dX12_begin_90 : decode cX12_begin 90 = .ok (.aload_n 0, 1) := by decide +kernel
theorem dX12_begin_91 : decode cX12_begin 91 = .ok (.dup, 1) := by decide +kernel
theorem dX12_begin_92 : decode cX12_begin 92 = .ok (.getfield 186, 3) := by decide +kernel
theorem dX12_begin_95 : decode cX12_begin 95 = .ok (.iconst 1, 1) := by decide +kernel
theorem dX12_begin_96 : decode cX12_begin 96 = .ok (.iadd, 1) := by decide +kernel
theorem dX12_begin_97 : decode cX12_begin 97 = .ok (.putfield 186, 3) := by decide +kernel
theorem dX12_begin_100 : decode cX12_begin 100 = .ok (.aload_n 0, 1) := by decide +kernel
theorem dX12_begin_101 : decode cX12_begin 101 = .ok (.getfield 46, 3) := by decide +kernel
theorem dX12_begin_104 : decode cX12_begin 104 = .ok (.iload_n 1, 1) := by decide +kernel
theorem dX12_begin_105 : decode cX12_begin 105 = .ok (.iload_n 2, 1) := by decide +kernel
theorem dX12_begin_106 : decode cX12_begin 106 = .ok (.iastore, 1) := by decide +kernel
theorem dX12_begin_107 : decode cX12_begin 107 = .ok (.return_, 1) := by decide +kernel
theorem dX12_openOf_0 : decode cX12_openOf 0 = .ok (.iconst 0, 1) := by decide +kernel
theorem dX12_openOf_1 : decode cX12_openOf 1 = .ok (.istore_n 2, 1) := by decide +kernel
theorem dX12_openOf_2 : decode cX12_openOf 2 = .ok (.iload_n 2, 1) := by decide +kernel
theorem dX12_openOf_3 : decode cX12_openOf 3 = .ok (.aload_n 0, 1) := by decide +kernel
theorem dX12_openOf_4 : decode cX12_openOf 4 = .ok (.getfield 186, 3) := by decide +kernel
theorem dX12_openOf_7 : decode cX12_openOf 7 = .ok (.if_icmp .ge 32, 3) := by decide +kernel
theorem dX12_openOf_10 : decode cX12_openOf 10 = .ok (.aload_n 0, 1) := by decide +kernel
theorem dX12_openOf_11 : decode cX12_openOf 11 = .ok (.getfield 52, 3) := by decide +kernel
theorem dX12_openOf_14 : decode cX12_openOf 14 = .ok (.iload_n 2, 1) := by decide +kernel
theorem dX12_openOf_15 : decode cX12_openOf 15 = .ok (.iaload, 1) := by decide +kernel
theorem dX12_openOf_16 : decode cX12_openOf 16 = .ok (.iload_n 1, 1) := by decide +kernel
theorem dX12_openOf_17 : decode cX12_openOf 17 = .ok (.if_icmp .ne 16, 3) := by decide +kernel
theorem dX12_openOf_20 : decode cX12_openOf 20 = .ok (.aload_n 0, 1) := by decide +kernel
theorem dX12_openOf_21 : decode cX12_openOf 21 = .ok (.getfield 61, 3) := by decide +kernel
theorem dX12_openOf_24 : decode cX12_openOf 24 = .ok (.iload_n 2, 1) := by decide +kernel
theorem dX12_openOf_25 : decode cX12_openOf 25 = .ok (.iaload, 1) := by decide +kernel
theorem dX12_openOf_26 : decode cX12_openOf 26 = .ok (.ldc 189, 2) := by decide +kernel
theorem dX12_openOf_28 : decode cX12_openOf 28 = .ok (.if_icmp .ne 5, 3) := by decide +kernel
theorem dX12_openOf_31 : decode cX12_openOf 31 = .ok (.iload_n 2, 1) := by decide +kernel
theorem dX12_openOf_32 : decode cX12_openOf 32 = .ok (.ireturn, 1) := by decide +kernel
theorem dX12_openOf_33 : decode cX12_openOf 33 = .ok (.iinc 2 1, 3) := by decide +kernel
theorem dX12_openOf_36 : decode cX12_openOf 36 = .ok (.goto (-34), 3) := by decide +kernel
theorem dX12_openOf_39 : decode cX12_openOf 39 = .ok (.iconst (-1), 1) := by decide +kernel
theorem dX12_openOf_40 : decode cX12_openOf 40 = .ok (.ireturn, 1) := by decide +kernel
theorem dX12_endStay_0 : decode cX12_endStay 0 = .ok (.aload_n 0, 1) := by decide +kernel
theorem dX12_endStay_1 : decode cX12_endStay 1 = .ok (.iload_n 1, 1) := by decide +kernel
theorem dX12_endStay_2 : decode cX12_endStay 2 = .ok (.invokevirtual 190, 3) := by decide +kernel
theorem dX12_endStay_5 : decode cX12_endStay 5 = .ok (.istore_n 2, 1) := by decide +kernel
theorem dX12_endStay_6 : decode cX12_endStay 6 = .ok (.aload_n 0, 1) := by decide +kernel
theorem dX12_endStay_7 : decode cX12_endStay 7 = .ok (.getfield 61, 3) := by decide +kernel
theorem dX12_endStay_10 : decode cX12_endStay 10 = .ok (.iload_n 2, 1) := by decide +kernel
theorem dX12_endStay_11 : decode cX12_endStay 11 = .ok (.aload_n 0, 1) := by decide +kernel
theorem dX12_endStay_12 : decode cX12_endStay 12 = .ok (.getfield 183, 3) := by decide +kernel
theorem dX12_endStay_15 : decode cX12_endStay 15 = .ok (.iastore, 1) := by decide +kernel
theorem dX12_endStay_16 : decode cX12_endStay 16 = .ok (.aload_n 0, 1) := by decide +kernel
theorem dX12_endStay_17 : decode cX12_endStay 17 = .ok (.getfield 67, 3) := by decide +kernel
theorem dX12_endStay_20 : decode cX12_endStay 20 = .ok (.iload_n 2, 1) := by decide +kernel
theorem dX12_endStay_21 : decode cX12_endStay 21 = .ok (.aload_n 0, 1) := by decide +kernel
theorem dX12_endStay_22 : decode cX12_endStay 22 = .ok (.getfield 49, 3) := by decide +kernel
theorem dX12_endStay_25 : decode cX12_endStay 25 = .ok (.iconst 3, 1) := by decide +kernel
theorem dX12_endStay_26 : decode cX12_endStay 26 = .ok (.iload_n 1, 1) := by decide +kernel
theorem dX12_endStay_27 : decode cX12_endStay 27 = .ok (.imul, 1) := by decide +kernel
theorem dX12_endStay_28 : decode cX12_endStay 28 = .ok (.iaload, 1) := by decide +kernel
theorem dX12_endStay_29 : decode cX12_endStay 29 = .ok (.iastore, 1) := by decide +kernel
theorem dX12_endStay_30 : decode cX12_endStay 30 = .ok (.aload_n 0, 1) := by decide +kernel
theorem dX12_endStay_31 : decode cX12_endStay 31 = .ok (.getfield 73, 3) := by decide +kernel
theorem dX12_endStay_34 : decode cX12_endStay 34 = .ok (.iload_n 2, 1) := by decide +kernel
theorem dX12_endStay_35 : decode cX12_endStay 35 = .ok (.aload_n 0, 1) := by decide +kernel
theorem dX12_endStay_36 : decode cX12_endStay 36 = .ok (.getfield 49, 3) := by decide +kernel
theorem dX12_endStay_39 : decode cX12_endStay 39 = .ok (.iconst 3, 1) := by decide +kernel
theorem dX12_endStay_40 : decode cX12_endStay 40 = .ok (.iload_n 1, 1) := by decide +kernel
theorem dX12_endStay_41 : decode cX12_endStay 41 = .ok (.imul, 1) := by decide +kernel
theorem dX12_endStay_42 : decode cX12_endStay 42 = .ok (.iconst 1, 1) := by decide +kernel
theorem dX12_endStay_43 : decode cX12_endStay 43 = .ok (.iadd, 1) := by decide +kernel
theorem dX12_endStay_44 : decode cX12_endStay 44 = .ok (.iaload, 1) := by decide +kernel
theorem dX12_endStay_45 : decode cX12_endStay 45 = .ok (.iastore, 1) := by decide +kernel
theorem dX12_endStay_46 : decode cX12_endStay 46 = .ok (.return_, 1) := by decide +kernel
theorem dX12_isAhead_0 : decode cX12_isAhead 0 = .ok (.aload_n 0, 1) := by decide +kernel
theorem dX12_isAhead_1 : decode cX12_isAhead 1 = .ok (.getfield 58, 3) := by decide +kernel
theorem dX12_isAhead_4 : decode cX12_isAhead 4 = .ok (.iload_n 1, 1) := by decide +kernel
theorem dX12_isAhead_5 : decode cX12_isAhead 5 = .ok (.iaload, 1) := by decide +kernel
theorem dX12_isAhead_6 : decode cX12_isAhead 6 = .ok (.aload_n 0, 1) := by decide +kernel
theorem dX12_isAhead_7 : decode cX12_isAhead 7 = .ok (.getfield 58, 3) := by decide +kernel
theorem dX12_isAhead_10 : decode cX12_isAhead 10 = .ok (.iload_n 2, 1) := by decide +kernel
theorem dX12_isAhead_11 : decode cX12_isAhead 11 = .ok (.iaload, 1) := by decide +kernel
theorem dX12_isAhead_12 : decode cX12_isAhead 12 = .ok (.if_icmp .lt 23, 3) := by decide +kernel
theorem dX12_isAhead_15 : decode cX12_isAhead 15 = .ok (.aload_n 0, 1) := by decide +kernel
theorem dX12_isAhead_16 : decode cX12_isAhead 16 = .ok (.getfield 58, 3) := by decide +kernel
theorem dX12_isAhead_19 : decode cX12_isAhead 19 = .ok (.iload_n 1, 1) := by decide +kernel
theorem dX12_isAhead_20 : decode cX12_isAhead 20 = .ok (.iaload, 1) := by decide +kernel
theorem dX12_isAhead_21 : decode cX12_isAhead 21 = .ok (.aload_n 0, 1) := by decide +kernel
theorem dX12_isAhead_22 : decode cX12_isAhead 22 = .ok (.getfield 58, 3) := by decide +kernel
theorem dX12_isAhead_25 : decode cX12_isAhead 25 = .ok (.iload_n 2, 1) := by decide +kernel
theorem dX12_isAhead_26 : decode cX12_isAhead 26 = .ok (.iaload, 1) := by decide +kernel
theorem dX12_isAhead_27 : decode cX12_isAhead 27 = .ok (.if_icmp .ne 12, 3) := by decide +kernel
theorem dX12_isAhead_30 : decode cX12_isAhead 30 = .ok (.iload_n 1, 1) := by decide +kernel
theorem dX12_isAhead_31 : decode cX12_isAhead 31 = .ok (.iload_n 2, 1) := by decide +kernel
theorem dX12_isAhead_32 : decode cX12_isAhead 32 = .ok (.if_icmp .ge 7, 3) := by decide +kernel
theorem dX12_isAhead_35 : decode cX12_isAhead 35 = .ok (.iconst 1, 1) := by decide +kernel
theorem dX12_isAhead_36 : decode cX12_isAhead 36 = .ok (.goto 4, 3) := by decide +kernel
theorem dX12_isAhead_39 : decode cX12_isAhead 39 = .ok (.iconst 0, 1) := by decide +kernel
theorem dX12_isAhead_40 : decode cX12_isAhead 40 = .ok (.ireturn, 1) := by decide +kernel
theorem dX12_stayOf_0 : decode cX12_stayOf 0 = .ok (.iconst 0, 1) := by decide +kernel
theorem dX12_stayOf_1 : decode cX12_stayOf 1 = .ok (.istore_n 3, 1) := by decide +kernel
theorem dX12_stayOf_2 : decode cX12_stayOf 2 = .ok (.iload_n 3, 1) := by decide +kernel
theorem dX12_stayOf_3 : decode cX12_stayOf 3 = .ok (.aload_n 0, 1) := by decide +kernel
theorem dX12_stayOf_4 : decode cX12_stayOf 4 = .ok (.getfield 186, 3) := by decide +kernel
theorem dX12_stayOf_7 : decode cX12_stayOf 7 = .ok (.if_icmp .ge 82, 3) := by decide +kernel
theorem dX12_stayOf_10 : decode cX12_stayOf 10 = .ok (.aload_n 0, 1) := by decide +kernel
theorem dX12_stayOf_11 : decode cX12_stayOf 11 = .ok (.getfield 52, 3) := by decide +kernel
theorem dX12_stayOf_14 : decode cX12_stayOf 14 = .ok (.iload_n 3, 1) := by decide +kernel
theorem dX12_stayOf_15 : decode cX12_stayOf 15 = .ok (.iaload, 1) := by decide +kernel
theorem dX12_stayOf_16 : decode cX12_stayOf 16 = .ok (.iload_n 1, 1) := by decide +kernel
theorem dX12_stayOf_17 : decode cX12_stayOf 17 = .ok (.if_icmp .eq 6, 3) := by decide +kernel
theorem dX12_stayOf_20 : decode cX12_stayOf 20 = .ok (.goto 63, 3) := by decide +kernel
theorem dX12_stayOf_23 : decode cX12_stayOf 23 = .ok (.iconst 0, 1) := by decide +kernel
theorem dX12_stayOf_24 : decode cX12_stayOf 24 = .ok (.istore 4, 2) := by decide +kernel
theorem dX12_stayOf_26 : decode cX12_stayOf 26 = .ok (.iconst 0, 1) := by decide +kernel
theorem dX12_stayOf_27 : decode cX12_stayOf 27 = .ok (.istore 5, 2) := by decide +kernel
theorem dX12_stayOf_29 : decode cX12_stayOf 29 = .ok (.iload 5, 2) := by decide +kernel
theorem dX12_stayOf_31 : decode cX12_stayOf 31 = .ok (.aload_n 0, 1) := by decide +kernel
theorem dX12_stayOf_32 : decode cX12_stayOf 32 = .ok (.getfield 186, 3) := by decide +kernel
theorem dX12_stayOf_35 : decode cX12_stayOf 35 = .ok (.if_icmp .ge 40, 3) := by decide +kernel
theorem dX12_stayOf_38 : decode cX12_stayOf 38 = .ok (.iload 4, 2) := by decide +kernel
theorem dX12_stayOf_40 : decode cX12_stayOf 40 = .ok (.aload_n 0, 1) := by decide +kernel
theorem dX12_stayOf_41 : decode cX12_stayOf 41 = .ok (.getfield 52, 3) := by decide +kernel
theorem dX12_stayOf_44 : decode cX12_stayOf 44 = .ok (.iload 5, 2) := by decide +kernel
theorem dX12_stayOf_46 : decode cX12_stayOf 46 = .ok (.iaload, 1) := by decide +kernel
theorem dX12_stayOf_47 : decode cX12_stayOf 47 = .ok (.iload_n 1, 1) := by decide +kernel
theorem dX12_stayOf_48 : decode cX12_stayOf 48 = .ok (.if_icmp .ne 17, 3) := by decide +kernel
theorem dX12_stayOf_51 : decode cX12_stayOf 51 = .ok (.aload_n 0, 1) := by decide +kernel
theorem dX12_stayOf_52 : decode cX12_stayOf 52 = .ok (.iload 5, 2) := by decide +kernel
theorem dX12_stayOf_54 : decode cX12_stayOf 54 = .ok (.iload_n 3, 1) := by decide +kernel
theorem dX12_stayOf_55 : decode cX12_stayOf 55 = .ok (.invokevirtual 194, 3) := by decide +kernel
theorem dX12_stayOf_58 : decode cX12_stayOf 58 = .ok (.ifCond .eq 7, 3) := by decide +kernel
theorem dX12_stayOf_61 : decode cX12_stayOf 61 = .ok (.iconst 1, 1) := by decide +kernel
theorem dX12_stayOf_62 : decode cX12_stayOf 62 = .ok (.goto 4, 3) := by decide +kernel
theorem dX12_stayOf_65 : decode cX12_stayOf 65 = .ok (.iconst 0, 1) := by decide +kernel
theorem dX12_stayOf_66 : decode cX12_stayOf 66 = .ok (.iadd, 1) := by decide +kernel
theorem dX12_stayOf_67 : decode cX12_stayOf 67 = .ok (.istore 4, 2) := by decide +kernel
theorem dX12_stayOf_69 : decode cX12_stayOf 69 = .ok (.iinc 5 1, 3) := by decide +kernel
theorem dX12_stayOf_72 : decode cX12_stayOf 72 = .ok (.goto (-43), 3) := by decide +kernel
theorem dX12_stayOf_75 : decode cX12_stayOf 75 = .ok (.iload 4, 2) := by decide +kernel
theorem dX12_stayOf_77 : decode cX12_stayOf 77 = .ok (.iload_n 2, 1) := by decide +kernel
theorem dX12_stayOf_78 : decode cX12_stayOf 78 = .ok (.if_icmp .ne 5, 3) := by decide +kernel
theorem dX12_stayOf_81 : decode cX12_stayOf 81 = .ok (.iload_n 3, 1) := by decide +kernel
theorem dX12_stayOf_82 : decode cX12_stayOf 82 = .ok (.ireturn, 1) := by decide +kernel
theorem dX12_stayOf_83 : decode cX12_stayOf 83 = .ok (.iinc 3 1, 3) := by decide +kernel
theorem dX12_stayOf_86 : decode cX12_stayOf 86 = .ok (.goto (-84), 3) := by decide +kernel
theorem dX12_stayOf_89 : decode cX12_stayOf 89 = .ok (.iconst (-1), 1) := by decide +kernel
theorem dX12_stayOf_90 : decode cX12_stayOf 90 = .ok (.ireturn, 1) := by decide +kernel
theorem dX12_staysOf_0 : decode cX12_staysOf 0 = .ok (.iconst 0, 1) := by decide +kernel
theorem dX12_staysOf_1 : decode cX12_staysOf 1 = .ok (.istore_n 2, 1) := by decide +kernel
theorem dX12_staysOf_2 : decode cX12_staysOf 2 = .ok (.iconst 0, 1) := by decide +kernel
theorem dX12_staysOf_3 : decode cX12_staysOf 3 = .ok (.istore_n 3, 1) := by decide +kernel
theorem dX12_staysOf_4 : decode cX12_staysOf 4 = .ok (.iload_n 3, 1) := by decide +kernel
theorem dX12_staysOf_5 : decode cX12_staysOf 5 = .ok (.aload_n 0, 1) := by decide +kernel
theorem dX12_staysOf_6 : decode cX12_staysOf 6 = .ok (.getfield 186, 3) := by decide +kernel
theorem dX12_staysOf_9 : decode cX12_staysOf 9 = .ok (.if_icmp .ge 27, 3) := by decide +kernel
theorem dX12_staysOf_12 : decode cX12_staysOf 12 = .ok (.iload_n 2, 1) := by decide +kernel
theorem dX12_staysOf_13 : decode cX12_staysOf 13 = .ok (.aload_n 0, 1) := by decide +kernel
theorem dX12_staysOf_14 : decode cX12_staysOf 14 = .ok (.getfield 52, 3) := by decide +kernel
theorem dX12_staysOf_17 : decode cX12_staysOf 17 = .ok (.iload_n 3, 1) := by decide +kernel
theorem dX12_staysOf_18 : decode cX12_staysOf 18 = .ok (.iaload, 1) := by decide +kernel
theorem dX12_staysOf_19 : decode cX12_staysOf 19 = .ok (.iload_n 1, 1) := by decide +kernel
theorem dX12_staysOf_20 : decode cX12_staysOf 20 = .ok (.if_icmp .ne 7, 3) := by decide +kernel
theorem dX12_staysOf_23 : decode cX12_staysOf 23 = .ok (.iconst 1, 1) := by decide +kernel
theorem dX12_staysOf_24 : decode cX12_staysOf 24 = .ok (.goto 4, 3) := by decide +kernel
theorem dX12_staysOf_27 : decode cX12_staysOf 27 = .ok (.iconst 0, 1) := by decide +kernel
theorem dX12_staysOf_28 : decode cX12_staysOf 28 = .ok (.iadd, 1) := by decide +kernel
theorem dX12_staysOf_29 : decode cX12_staysOf 29 = .ok (.istore_n 2, 1) := by decide +kernel
theorem dX12_staysOf_30 : decode cX12_staysOf 30 = .ok (.iinc 3 1, 3) := by decide +kernel
theorem dX12_staysOf_33 : decode cX12_staysOf 33 = .ok (.goto (-29), 3) := by decide +kernel
theorem dX12_staysOf_36 : decode cX12_staysOf 36 = .ok (.iload_n 2, 1) := by decide +kernel
theorem dX12_staysOf_37 : decode cX12_staysOf 37 = .ok (.ireturn, 1) := by decide +kernel
theorem dX12_part_0 : decode cX12_part 0 = .ok (.aload_n 0, 1) := by decide +kernel
theorem dX12_part_1 : decode cX12_part 1 = .ok (.iload_n 1, 1) := by decide +kernel
theorem dX12_part_2 : decode cX12_part 2 = .ok (.invokevirtual 173, 3) := by decide +kernel
theorem dX12_part_5 : decode cX12_part 5 = .ok (.ifCond .eq 45, 3) := by decide +kernel
theorem dX12_part_8 : decode cX12_part 8 = .ok (.iload_n 2, 1) := by decide +kernel
theorem dX12_part_9 : decode cX12_part 9 = .ok (.iconst 1, 1) := by decide +kernel
theorem dX12_part_10 : decode cX12_part 10 = .ok (.ldc 164, 2) := by decide +kernel
theorem dX12_part_12 : decode cX12_part 12 = .ok (.invokestatic 151, 3) := by decide +kernel
theorem dX12_part_15 : decode cX12_part 15 = .ok (.ifCond .eq 35, 3) := by decide +kernel
theorem dX12_part_18 : decode cX12_part 18 = .ok (.iload_n 3, 1) := by decide +kernel
theorem dX12_part_19 : decode cX12_part 19 = .ok (.iconst 0, 1) := by decide +kernel
theorem dX12_part_20 : decode cX12_part 20 = .ok (.ldc 164, 2) := by decide +kernel
theorem dX12_part_22 : decode cX12_part 22 = .ok (.invokestatic 151, 3) := by decide +kernel
theorem dX12_part_25 : decode cX12_part 25 = .ok (.ifCond .eq 25, 3) := by decide +kernel
theorem dX12_part_28 : decode cX12_part 28 = .ok (.iload 4, 2) := by decide +kernel
theorem dX12_part_30 : decode cX12_part 30 = .ok (.iconst 0, 1) := by decide +kernel
theorem dX12_part_31 : decode cX12_part 31 = .ok (.ldc 164, 2) := by decide +kernel
theorem dX12_part_33 : decode cX12_part 33 = .ok (.invokestatic 151, 3) := by decide +kernel
theorem dX12_part_36 : decode cX12_part 36 = .ok (.ifCond .eq 14, 3) := by decide +kernel
theorem dX12_part_39 : decode cX12_part 39 = .ok (.iload 5, 2) := by decide +kernel
theorem dX12_part_41 : decode cX12_part 41 = .ok (.iconst 0, 1) := by decide +kernel
theorem dX12_part_42 : decode cX12_part 42 = .ok (.ldc 164, 2) := by decide +kernel
theorem dX12_part_44 : decode cX12_part 44 = .ok (.invokestatic 151, 3) := by decide +kernel
theorem dX12_part_47 : decode cX12_part 47 = .ok (.ifCond .ne 5, 3) := by decide +kernel
theorem dX12_part_50 : decode cX12_part 50 = .ok (.iconst (-1), 1) := by decide +kernel
theorem dX12_part_51 : decode cX12_part 51 = .ok (.ireturn, 1) := by decide +kernel
theorem dX12_part_52 : decode cX12_part 52 = .ok (.aload_n 0, 1) := by decide +kernel
theorem dX12_part_53 : decode cX12_part 53 = .ok (.getfield 166, 3) := by decide +kernel
theorem dX12_part_56 : decode cX12_part 56 = .ok (.bipush 100, 2) := by decide +kernel
theorem dX12_part_58 : decode cX12_part 58 = .ok (.if_icmp .eq 13, 3) := by decide +kernel
theorem dX12_part_61 : decode cX12_part 61 = .ok (.aload_n 0, 1) := by decide +kernel
theorem dX12_part_62 : decode cX12_part 62 = .ok (.getfield 186, 3) := by decide +kernel
theorem dX12_part_65 : decode cX12_part 65 = .ok (.sipush 500, 3) := by decide +kernel
theorem dX12_part_68 : decode cX12_part 68 = .ok (.if_icmp .ne 6, 3) := by decide +kernel
theorem dX12_part_71 : decode cX12_part 71 = .ok (.bipush (-3), 2) := by decide +kernel
theorem dX12_part_73 : decode cX12_part 73 = .ok (.ireturn, 1) := by decide +kernel
theorem dX12_part_74 : decode cX12_part 74 = .ok (.aload_n 0, 1) := by decide +kernel
theorem dX12_part_75 : decode cX12_part 75 = .ok (.getfield 166, 3) := by decide +kernel
theorem dX12_part_78 : decode cX12_part 78 = .ok (.istore 6, 2) := by decide +kernel
theorem dX12_part_80 : decode cX12_part 80 = .ok (.aload_n 0, 1) := by decide +kernel
theorem dX12_part_81 : decode cX12_part 81 = .ok (.getfield 40, 3) := by decide +kernel
theorem dX12_part_84 : decode cX12_part 84 = .ok (.iload 6, 2) := by decide +kernel
theorem dX12_part_86 : decode cX12_part 86 = .ok (.iload_n 1, 1) := by decide +kernel
theorem dX12_part_87 : decode cX12_part 87 = .ok (.iastore, 1) := by decide +kernel
theorem dX12_part_88 : decode cX12_part 88 = .ok (.aload_n 0, 1) := by decide +kernel
theorem dX12_part_89 : decode cX12_part 89 = .ok (.getfield 43, 3) := by decide +kernel
theorem dX12_part_92 : decode cX12_part 92 = .ok (.iload 6, 2) := by decide +kernel
theorem dX12_part_94 : decode cX12_part 94 = .ok (.iload_n 2, 1) := by decide +kernel
theorem dX12_part_95 : decode cX12_part 95 = .ok (.iastore, 1) := by decide +kernel
theorem dX12_part_96 : decode cX12_part 96 = .ok (.aload_n 0, 1) := by decide +kernel
theorem dX12_part_97 : decode cX12_part 97 = .ok (.getfield 49, 3) := by decide +kernel
theorem dX12_part_100 : decode cX12_part 100 = .ok (.iconst 3, 1) := by decide +kernel
theorem dX12_part_101 : decode cX12_part 101 = .ok (.iload 6, 2) := by decide +kernel
theorem dX12_part_103 : decode cX12_part 103 = .ok (.imul, 1) := by decide +kernel
theorem dX12_part_104 : decode cX12_part 104 = .ok (.iload_n 3, 1) := by decide +kernel
theorem dX12_part_105 : decode cX12_part 105 = .ok (.iastore, 1) := by decide +kernel
theorem dX12_part_106 : decode cX12_part 106 = .ok (.aload_n 0, 1) := by decide +kernel
theorem dX12_part_107 : decode cX12_part 107 = .ok (.getfield 49, 3) := by decide +kernel
theorem dX12_part_110 : decode cX12_part 110 = .ok (.iconst 3, 1) := by decide +kernel
theorem dX12_part_111 : decode cX12_part 111 = .ok (.iload 6, 2) := by decide +kernel
theorem dX12_part_113 : decode cX12_part 113 = .ok (.imul, 1) := by decide +kernel
theorem dX12_part_114 : decode cX12_part 114 = .ok (.iconst 1, 1) := by decide +kernel
theorem dX12_part_115 : decode cX12_part 115 = .ok (.iadd, 1) := by decide +kernel
theorem dX12_part_116 : decode cX12_part 116 = .ok (.iload 4, 2) := by decide +kernel
theorem dX12_part_118 : decode cX12_part 118 = .ok (.iastore, 1) := by decide +kernel
theorem dX12_part_119 : decode cX12_part 119 = .ok (.aload_n 0, 1) := by decide +kernel
theorem dX12_part_120 : decode cX12_part 120 = .ok (.getfield 49, 3) := by decide +kernel
theorem dX12_part_123 : decode cX12_part 123 = .ok (.iconst 3, 1) := by decide +kernel
theorem dX12_part_124 : decode cX12_part 124 = .ok (.iload 6, 2) := by decide +kernel
theorem dX12_part_126 : decode cX12_part 126 = .ok (.imul, 1) := by decide +kernel
theorem dX12_part_127 : decode cX12_part 127 = .ok (.iconst 2, 1) := by decide +kernel
theorem dX12_part_128 : decode cX12_part 128 = .ok (.iadd, 1) := by decide +kernel
theorem dX12_part_129 : decode cX12_part 129 = .ok (.iload 5, 2) := by decide +kernel
theorem dX12_part_131 : decode cX12_part 131 = .ok (.iastore, 1) := by decide +kernel
theorem dX12_part_132 : decode cX12_part 132 = .ok (.aload_n 0, 1) := by decide +kernel
theorem dX12_part_133 : decode cX12_part 133 = .ok (.dup, 1) := by decide +kernel
theorem dX12_part_134 : decode cX12_part 134 = .ok (.getfield 166, 3) := by decide +kernel
theorem dX12_part_137 : decode cX12_part 137 = .ok (.iconst 1, 1) := by decide +kernel
theorem dX12_part_138 : decode cX12_part 138 = .ok (.iadd, 1) := by decide +kernel
theorem dX12_part_139 : decode cX12_part 139 = .ok (.putfield 166, 3) := by decide +kernel
theorem dX12_part_142 : decode cX12_part 142 = .ok (.aload_n 0, 1) := by decide +kernel
theorem dX12_part_143 : decode cX12_part 143 = .ok (.iload 6, 2) := by decide +kernel
theorem dX12_part_145 : decode cX12_part 145 = .ok (.bipush 11, 2) := by decide +kernel
theorem dX12_part_147 : decode cX12_part 147 = .ok (.invokevirtual 198, 3) := by decide +kernel
theorem dX12_part_150 : decode cX12_part 150 = .ok (.iload 6, 2) := by decide +kernel
theorem dX12_part_152 : decode cX12_part 152 = .ok (.ireturn, 1) := by decide +kernel
theorem dX12_move_0 : decode cX12_move 0 = .ok (.aload_n 0, 1) := by decide +kernel
theorem dX12_move_1 : decode cX12_move 1 = .ok (.iload_n 1, 1) := by decide +kernel
theorem dX12_move_2 : decode cX12_move 2 = .ok (.invokevirtual 202, 3) := by decide +kernel
theorem dX12_move_5 : decode cX12_move 5 = .ok (.ifCond .eq 27, 3) := by decide +kernel
theorem dX12_move_8 : decode cX12_move 8 = .ok (.iload_n 2, 1) := by decide +kernel
theorem dX12_move_9 : decode cX12_move 9 = .ok (.iconst 0, 1) := by decide +kernel
theorem dX12_move_10 : decode cX12_move 10 = .ok (.bipush 11, 2) := by decide +kernel
theorem dX12_move_12 : decode cX12_move 12 = .ok (.invokestatic 151, 3) := by decide +kernel
theorem dX12_move_15 : decode cX12_move 15 = .ok (.ifCond .eq 17, 3) := by decide +kernel
theorem dX12_move_18 : decode cX12_move 18 = .ok (.iload_n 2, 1) := by decide +kernel
theorem dX12_move_19 : decode cX12_move 19 = .ok (.bipush 10, 2) := by decide +kernel
theorem dX12_move_21 : decode cX12_move 21 = .ok (.if_icmp .ge 13, 3) := by decide +kernel
theorem dX12_move_24 : decode cX12_move 24 = .ok (.aload_n 0, 1) := by decide +kernel
theorem dX12_move_25 : decode cX12_move 25 = .ok (.iload_n 2, 1) := by decide +kernel
theorem dX12_move_26 : decode cX12_move 26 = .ok (.invokevirtual 169, 3) := by decide +kernel
theorem dX12_move_29 : decode cX12_move 29 = .ok (.ifCond .ne 5, 3) := by decide +kernel
theorem dX12_move_32 : decode cX12_move 32 = .ok (.iconst (-1), 1) := by decide +kernel
theorem dX12_move_33 : decode cX12_move 33 = .ok (.ireturn, 1) := by decide +kernel
theorem dX12_move_34 : decode cX12_move 34 = .ok (.aload_n 0, 1) := by decide +kernel
theorem dX12_move_35 : decode cX12_move 35 = .ok (.getfield 46, 3) := by decide +kernel
theorem dX12_move_38 : decode cX12_move 38 = .ok (.iload_n 1, 1) := by decide +kernel
theorem dX12_move_39 : decode cX12_move 39 = .ok (.iaload, 1) := by decide +kernel
theorem dX12_move_40 : decode cX12_move 40 = .ok (.iload_n 2, 1) := by decide +kernel
theorem dX12_move_41 : decode cX12_move 41 = .ok (.if_icmp .eq 14, 3) := by decide +kernel
theorem dX12_move_44 : decode cX12_move 44 = .ok (.aload_n 0, 1) := by decide +kernel
theorem dX12_move_45 : decode cX12_move 45 = .ok (.getfield 46, 3) := by decide +kernel
theorem dX12_move_48 : decode cX12_move 48 = .ok (.iload_n 1, 1) := by decide +kernel
theorem dX12_move_49 : decode cX12_move 49 = .ok (.iaload, 1) := by decide +kernel
theorem dX12_move_50 : decode cX12_move 50 = .ok (.bipush 12, 2) := by decide +kernel
theorem dX12_move_52 : decode cX12_move 52 = .ok (.if_icmp .ne 6, 3) := by decide +kernel
theorem dX12_move_55 : decode cX12_move 55 = .ok (.bipush (-2), 2) := by decide +kernel
theorem dX12_move_57 : decode cX12_move 57 = .ok (.ireturn, 1) := by decide +kernel
theorem dX12_move_58 : decode cX12_move 58 = .ok (.iload_n 2, 1) := by decide +kernel
theorem dX12_move_59 : decode cX12_move 59 = .ok (.bipush 10, 2) := by decide +kernel
theorem dX12_move_61 : decode cX12_move 61 = .ok (.if_icmp .ge 44, 3) := by decide +kernel
theorem dX12_move_64 : decode cX12_move 64 = .ok (.aload_n 0, 1) := by decide +kernel
theorem dX12_move_65 : decode cX12_move 65 = .ok (.iload_n 2, 1) := by decide +kernel
theorem dX12_move_66 : decode cX12_move 66 = .ok (.invokevirtual 176, 3) := by decide +kernel
theorem dX12_move_69 : decode cX12_move 69 = .ok (.ifCond .ne 33, 3) := by decide +kernel
theorem dX12_move_72 : decode cX12_move 72 = .ok (.aload_n 0, 1) := by decide +kernel
theorem dX12_move_73 : decode cX12_move 73 = .ok (.iload_n 2, 1) := by decide +kernel
theorem dX12_move_74 : decode cX12_move 74 = .ok (.aload_n 0, 1) := by decide +kernel
theorem dX12_move_75 : decode cX12_move 75 = .ok (.getfield 40, 3) := by decide +kernel
theorem dX12_move_78 : decode cX12_move 78 = .ok (.iload_n 1, 1) := by decide +kernel
theorem dX12_move_79 : decode cX12_move 79 = .ok (.iaload, 1) := by decide +kernel
theorem dX12_move_80 : decode cX12_move 80 = .ok (.invokevirtual 179, 3) := by decide +kernel
theorem dX12_move_83 : decode cX12_move 83 = .ok (.aload_n 0, 1) := by decide +kernel
theorem dX12_move_84 : decode cX12_move 84 = .ok (.getfield 34, 3) := by decide +kernel
theorem dX12_move_87 : decode cX12_move 87 = .ok (.bipush 10, 2) := by decide +kernel
theorem dX12_move_89 : decode cX12_move 89 = .ok (.iload_n 2, 1) := by decide +kernel
theorem dX12_move_90 : decode cX12_move 90 = .ok (.imul, 1) := by decide +kernel
theorem dX12_move_91 : decode cX12_move 91 = .ok (.aload_n 0, 1) := by decide +kernel
theorem dX12_move_92 : decode cX12_move 92 = .ok (.getfield 40, 3) := by decide +kernel
theorem dX12_move_95 : decode cX12_move 95 = .ok (.iload_n 1, 1) := by decide +kernel
