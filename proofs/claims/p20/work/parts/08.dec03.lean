theorem dX12_plane_32 : decode cX12_plane 32 = .ok (.iload_n 1, 1) := by decide +kernel
theorem dX12_plane_33 : decode cX12_plane 33 = .ok (.iastore, 1) := by decide +kernel
theorem dX12_plane_34 : decode cX12_plane 34 = .ok (.aload_n 0, 1) := by decide +kernel
theorem dX12_plane_35 : decode cX12_plane 35 = .ok (.getfield 28, 3) := by decide +kernel
theorem dX12_plane_38 : decode cX12_plane 38 = .ok (.aload_n 0, 1) := by decide +kernel
theorem dX12_plane_39 : decode cX12_plane 39 = .ok (.getfield 161, 3) := by decide +kernel
theorem dX12_plane_42 : decode cX12_plane 42 = .ok (.iconst (-1), 1) := by decide +kernel
theorem dX12_plane_43 : decode cX12_plane 43 = .ok (.iastore, 1) := by decide +kernel
theorem dX12_plane_44 : decode cX12_plane 44 = .ok (.aload_n 0, 1) := by decide +kernel
theorem dX12_plane_45 : decode cX12_plane 45 = .ok (.getfield 31, 3) := by decide +kernel
theorem dX12_plane_48 : decode cX12_plane 48 = .ok (.aload_n 0, 1) := by decide +kernel
theorem dX12_plane_49 : decode cX12_plane 49 = .ok (.getfield 161, 3) := by decide +kernel
theorem dX12_plane_52 : decode cX12_plane 52 = .ok (.iconst (-1), 1) := by decide +kernel
theorem dX12_plane_53 : decode cX12_plane 53 = .ok (.iastore, 1) := by decide +kernel
theorem dX12_plane_54 : decode cX12_plane 54 = .ok (.aload_n 0, 1) := by decide +kernel
theorem dX12_plane_55 : decode cX12_plane 55 = .ok (.getfield 114, 3) := by decide +kernel
theorem dX12_plane_58 : decode cX12_plane 58 = .ok (.aload_n 0, 1) := by decide +kernel
theorem dX12_plane_59 : decode cX12_plane 59 = .ok (.getfield 161, 3) := by decide +kernel
theorem dX12_plane_62 : decode cX12_plane 62 = .ok (.iconst (-1), 1) := by decide +kernel
theorem dX12_plane_63 : decode cX12_plane 63 = .ok (.iastore, 1) := by decide +kernel
theorem dX12_plane_64 : decode cX12_plane 64 = .ok (.aload_n 0, 1) := by decide +kernel
theorem dX12_plane_65 : decode cX12_plane 65 = .ok (.dup, 1) := by decide +kernel
theorem dX12_plane_66 : decode cX12_plane 66 = .ok (.getfield 161, 3) := by decide +kernel
theorem dX12_plane_69 : decode cX12_plane 69 = .ok (.iconst 1, 1) := by decide +kernel
theorem dX12_plane_70 : decode cX12_plane 70 = .ok (.iadd, 1) := by decide +kernel
theorem dX12_plane_71 : decode cX12_plane 71 = .ok (.putfield 161, 3) := by decide +kernel
theorem dX12_plane_74 : decode cX12_plane 74 = .ok (.aload_n 0, 1) := by decide +kernel
theorem dX12_plane_75 : decode cX12_plane 75 = .ok (.getfield 161, 3) := by decide +kernel
theorem dX12_plane_78 : decode cX12_plane 78 = .ok (.iconst 1, 1) := by decide +kernel
theorem dX12_plane_79 : decode cX12_plane 79 = .ok (.isub, 1) := by decide +kernel
theorem dX12_plane_80 : decode cX12_plane 80 = .ok (.ireturn, 1) := by decide +kernel
theorem dX12_onIt_0 : decode cX12_onIt 0 = .ok (.iconst 0, 1) := by decide +kernel
theorem dX12_onIt_1 : decode cX12_onIt 1 = .ok (.istore_n 3, 1) := by decide +kernel
theorem dX12_onIt_2 : decode cX12_onIt 2 = .ok (.iconst 0, 1) := by decide +kernel
theorem dX12_onIt_3 : decode cX12_onIt 3 = .ok (.istore 4, 2) := by decide +kernel
theorem dX12_onIt_5 : decode cX12_onIt 5 = .ok (.iload 4, 2) := by decide +kernel
theorem dX12_onIt_7 : decode cX12_onIt 7 = .ok (.aload_n 0, 1) := by decide +kernel
theorem dX12_onIt_8 : decode cX12_onIt 8 = .ok (.getfield 166, 3) := by decide +kernel
theorem dX12_onIt_11 : decode cX12_onIt 11 = .ok (.if_icmp .ge 39, 3) := by decide +kernel
theorem dX12_onIt_14 : decode cX12_onIt 14 = .ok (.iload_n 3, 1) := by decide +kernel
theorem dX12_onIt_15 : decode cX12_onIt 15 = .ok (.aload_n 0, 1) := by decide +kernel
theorem dX12_onIt_16 : decode cX12_onIt 16 = .ok (.getfield 46, 3) := by decide +kernel
theorem dX12_onIt_19 : decode cX12_onIt 19 = .ok (.iload 4, 2) := by decide +kernel
theorem dX12_onIt_21 : decode cX12_onIt 21 = .ok (.iaload, 1) := by decide +kernel
theorem dX12_onIt_22 : decode cX12_onIt 22 = .ok (.iload_n 1, 1) := by decide +kernel
theorem dX12_onIt_23 : decode cX12_onIt 23 = .ok (.if_icmp .ne 18, 3) := by decide +kernel
theorem dX12_onIt_26 : decode cX12_onIt 26 = .ok (.aload_n 0, 1) := by decide +kernel
theorem dX12_onIt_27 : decode cX12_onIt 27 = .ok (.getfield 40, 3) := by decide +kernel
theorem dX12_onIt_30 : decode cX12_onIt 30 = .ok (.iload 4, 2) := by decide +kernel
theorem dX12_onIt_32 : decode cX12_onIt 32 = .ok (.iaload, 1) := by decide +kernel
theorem dX12_onIt_33 : decode cX12_onIt 33 = .ok (.iload_n 2, 1) := by decide +kernel
theorem dX12_onIt_34 : decode cX12_onIt 34 = .ok (.if_icmp .ne 7, 3) := by decide +kernel
theorem dX12_onIt_37 : decode cX12_onIt 37 = .ok (.iconst 1, 1) := by decide +kernel
theorem dX12_onIt_38 : decode cX12_onIt 38 = .ok (.goto 4, 3) := by decide +kernel
theorem dX12_onIt_41 : decode cX12_onIt 41 = .ok (.iconst 0, 1) := by decide +kernel
theorem dX12_onIt_42 : decode cX12_onIt 42 = .ok (.iadd, 1) := by decide +kernel
theorem dX12_onIt_43 : decode cX12_onIt 43 = .ok (.istore_n 3, 1) := by decide +kernel
theorem dX12_onIt_44 : decode cX12_onIt 44 = .ok (.iinc 4 1, 3) := by decide +kernel
theorem dX12_onIt_47 : decode cX12_onIt 47 = .ok (.goto (-42), 3) := by decide +kernel
theorem dX12_onIt_50 : decode cX12_onIt 50 = .ok (.iload_n 3, 1) := by decide +kernel
theorem dX12_onIt_51 : decode cX12_onIt 51 = .ok (.ireturn, 1) := by decide +kernel
theorem dX12_need_0 : decode cX12_need 0 = .ok (.aload_n 0, 1) := by decide +kernel
theorem dX12_need_1 : decode cX12_need 1 = .ok (.iload_n 1, 1) := by decide +kernel
theorem dX12_need_2 : decode cX12_need 2 = .ok (.invokevirtual 169, 3) := by decide +kernel
theorem dX12_need_5 : decode cX12_need 5 = .ok (.ifCond .eq 20, 3) := by decide +kernel
theorem dX12_need_8 : decode cX12_need 8 = .ok (.aload_n 0, 1) := by decide +kernel
theorem dX12_need_9 : decode cX12_need 9 = .ok (.iload_n 2, 1) := by decide +kernel
theorem dX12_need_10 : decode cX12_need 10 = .ok (.invokevirtual 173, 3) := by decide +kernel
theorem dX12_need_13 : decode cX12_need 13 = .ok (.ifCond .eq 12, 3) := by decide +kernel
theorem dX12_need_16 : decode cX12_need 16 = .ok (.iload_n 3, 1) := by decide +kernel
theorem dX12_need_17 : decode cX12_need 17 = .ok (.iconst 0, 1) := by decide +kernel
theorem dX12_need_18 : decode cX12_need 18 = .ok (.iconst 3, 1) := by decide +kernel
theorem dX12_need_19 : decode cX12_need 19 = .ok (.invokestatic 151, 3) := by decide +kernel
theorem dX12_need_22 : decode cX12_need 22 = .ok (.ifCond .ne 5, 3) := by decide +kernel
theorem dX12_need_25 : decode cX12_need 25 = .ok (.iconst (-1), 1) := by decide +kernel
theorem dX12_need_26 : decode cX12_need 26 = .ok (.ireturn, 1) := by decide +kernel
theorem dX12_need_27 : decode cX12_need 27 = .ok (.aload_n 0, 1) := by decide +kernel
theorem dX12_need_28 : decode cX12_need 28 = .ok (.iload_n 1, 1) := by decide +kernel
theorem dX12_need_29 : decode cX12_need 29 = .ok (.invokevirtual 176, 3) := by decide +kernel
theorem dX12_need_32 : decode cX12_need 32 = .ok (.ifCond .ne 13, 3) := by decide +kernel
theorem dX12_need_35 : decode cX12_need 35 = .ok (.aload_n 0, 1) := by decide +kernel
theorem dX12_need_36 : decode cX12_need 36 = .ok (.iload_n 1, 1) := by decide +kernel
theorem dX12_need_37 : decode cX12_need 37 = .ok (.iload_n 2, 1) := by decide +kernel
theorem dX12_need_38 : decode cX12_need 38 = .ok (.invokevirtual 179, 3) := by decide +kernel
theorem dX12_need_41 : decode cX12_need 41 = .ok (.iload_n 3, 1) := by decide +kernel
theorem dX12_need_42 : decode cX12_need 42 = .ok (.if_icmp .le 6, 3) := by decide +kernel
theorem dX12_need_45 : decode cX12_need 45 = .ok (.bipush (-2), 2) := by decide +kernel
theorem dX12_need_47 : decode cX12_need 47 = .ok (.ireturn, 1) := by decide +kernel
theorem dX12_need_48 : decode cX12_need 48 = .ok (.aload_n 0, 1) := by decide +kernel
theorem dX12_need_49 : decode cX12_need 49 = .ok (.getfield 34, 3) := by decide +kernel
theorem dX12_need_52 : decode cX12_need 52 = .ok (.bipush 10, 2) := by decide +kernel
theorem dX12_need_54 : decode cX12_need 54 = .ok (.iload_n 1, 1) := by decide +kernel
theorem dX12_need_55 : decode cX12_need 55 = .ok (.imul, 1) := by decide +kernel
theorem dX12_need_56 : decode cX12_need 56 = .ok (.iload_n 2, 1) := by decide +kernel
theorem dX12_need_57 : decode cX12_need 57 = .ok (.iadd, 1) := by decide +kernel
theorem dX12_need_58 : decode cX12_need 58 = .ok (.iaload, 1) := by decide +kernel
theorem dX12_need_59 : decode cX12_need 59 = .ok (.istore 4, 2) := by decide +kernel
theorem dX12_need_61 : decode cX12_need 61 = .ok (.aload_n 0, 1) := by decide +kernel
theorem dX12_need_62 : decode cX12_need 62 = .ok (.getfield 34, 3) := by decide +kernel
theorem dX12_need_65 : decode cX12_need 65 = .ok (.bipush 10, 2) := by decide +kernel
theorem dX12_need_67 : decode cX12_need 67 = .ok (.iload_n 1, 1) := by decide +kernel
theorem dX12_need_68 : decode cX12_need 68 = .ok (.imul, 1) := by decide +kernel
theorem dX12_need_69 : decode cX12_need 69 = .ok (.iload_n 2, 1) := by decide +kernel
theorem dX12_need_70 : decode cX12_need 70 = .ok (.iadd, 1) := by decide +kernel
theorem dX12_need_71 : decode cX12_need 71 = .ok (.iload_n 3, 1) := by decide +kernel
theorem dX12_need_72 : decode cX12_need 72 = .ok (.iastore, 1) := by decide +kernel
theorem dX12_need_73 : decode cX12_need 73 = .ok (.iload 4, 2) := by decide +kernel
theorem dX12_need_75 : decode cX12_need 75 = .ok (.ireturn, 1) := by decide +kernel
theorem dX12_days_0 : decode cX12_days 0 = .ok (.iload_n 1, 1) := by decide +kernel
theorem dX12_days_1 : decode cX12_days 1 = .ok (.iconst 1, 1) := by decide +kernel
theorem dX12_days_2 : decode cX12_days 2 = .ok (.sipush 400, 3) := by decide +kernel
theorem dX12_days_5 : decode cX12_days 5 = .ok (.invokestatic 151, 3) := by decide +kernel
theorem dX12_days_8 : decode cX12_days 8 = .ok (.ifCond .eq 15, 3) := by decide +kernel
theorem dX12_days_11 : decode cX12_days 11 = .ok (.aload_n 0, 1) := by decide +kernel
theorem dX12_days_12 : decode cX12_days 12 = .ok (.getfield 183, 3) := by decide +kernel
theorem dX12_days_15 : decode cX12_days 15 = .ok (.iload_n 1, 1) := by decide +kernel
theorem dX12_days_16 : decode cX12_days 16 = .ok (.iadd, 1) := by decide +kernel
theorem dX12_days_17 : decode cX12_days 17 = .ok (.sipush 9999, 3) := by decide +kernel
theorem dX12_days_20 : decode cX12_days 20 = .ok (.if_icmp .le 5, 3) := by decide +kernel
theorem dX12_days_23 : decode cX12_days 23 = .ok (.iconst (-1), 1) := by decide +kernel
theorem dX12_days_24 : decode cX12_days 24 = .ok (.ireturn, 1) := by decide +kernel
theorem dX12_days_25 : decode cX12_days 25 = .ok (.aload_n 0, 1) := by decide +kernel
theorem dX12_days_26 : decode cX12_days 26 = .ok (.dup, 1) := by decide +kernel
theorem dX12_days_27 : decode cX12_days 27 = .ok (.getfield 183, 3) := by decide +kernel
theorem dX12_days_30 : decode cX12_days 30 = .ok (.iload_n 1, 1) := by decide +kernel
theorem dX12_days_31 : decode cX12_days 31 = .ok (.iadd, 1) := by decide +kernel
theorem dX12_days_32 : decode cX12_days 32 = .ok (.putfield 183, 3) := by decide +kernel
theorem dX12_days_35 : decode cX12_days 35 = .ok (.iconst 0, 1) := by decide +kernel
theorem dX12_days_36 : decode cX12_days 36 = .ok (.istore_n 2, 1) := by decide +kernel
theorem dX12_days_37 : decode cX12_days 37 = .ok (.iload_n 2, 1) := by decide +kernel
theorem dX12_days_38 : decode cX12_days 38 = .ok (.aload_n 0, 1) := by decide +kernel
theorem dX12_days_39 : decode cX12_days 39 = .ok (.getfield 166, 3) := by decide +kernel
theorem dX12_days_42 : decode cX12_days 42 = .ok (.if_icmp .ge 34, 3) := by decide +kernel
theorem dX12_days_45 : decode cX12_days 45 = .ok (.aload_n 0, 1) := by decide +kernel
theorem dX12_days_46 : decode cX12_days 46 = .ok (.getfield 46, 3) := by decide +kernel
theorem dX12_days_49 : decode cX12_days 49 = .ok (.iload_n 2, 1) := by decide +kernel
theorem dX12_days_50 : decode cX12_days 50 = .ok (.iaload, 1) := by decide +kernel
theorem dX12_days_51 : decode cX12_days 51 = .ok (.bipush 12, 2) := by decide +kernel
theorem dX12_days_53 : decode cX12_days 53 = .ok (.if_icmp .eq 17, 3) := by decide +kernel
theorem dX12_days_56 : decode cX12_days 56 = .ok (.aload_n 0, 1) := by decide +kernel
theorem dX12_days_57 : decode cX12_days 57 = .ok (.getfield 49, 3) := by decide +kernel
theorem dX12_days_60 : decode cX12_days 60 = .ok (.iconst 3, 1) := by decide +kernel
theorem dX12_days_61 : decode cX12_days 61 = .ok (.iload_n 2, 1) := by decide +kernel
theorem dX12_days_62 : decode cX12_days 62 = .ok (.imul, 1) := by decide +kernel
theorem dX12_days_63 : decode cX12_days 63 = .ok (.iconst 2, 1) := by decide +kernel
theorem dX12_days_64 : decode cX12_days 64 = .ok (.iadd, 1) := by decide +kernel
theorem dX12_days_65 : decode cX12_days 65 = .ok (.dup2, 1) := by decide +kernel
theorem dX12_days_66 : decode cX12_days 66 = .ok (.iaload, 1) := by decide +kernel
theorem dX12_days_67 : decode cX12_days 67 = .ok (.iload_n 1, 1) := by decide +kernel
theorem dX12_days_68 : decode cX12_days 68 = .ok (.iadd, 1) := by decide +kernel
theorem dX12_days_69 : decode cX12_days 69 = .ok (.iastore, 1) := by decide +kernel
theorem dX12_days_70 : decode cX12_days 70 = .ok (.iinc 2 1, 3) := by decide +kernel
theorem dX12_days_73 : decode cX12_days 73 = .ok (.goto (-36), 3) := by decide +kernel
theorem dX12_days_76 : decode cX12_days 76 = .ok (.aload_n 0, 1) := by decide +kernel
theorem dX12_days_77 : decode cX12_days 77 = .ok (.getfield 183, 3) := by decide +kernel
theorem dX12_days_80 : decode cX12_days 80 = .ok (.ireturn, 1) := by decide +kernel
theorem dX12_isPart_0 : decode cX12_isPart 0 = .ok (.iload_n 1, 1) := by decide +kernel
theorem dX12_isPart_1 : decode cX12_isPart 1 = .ok (.iconst 0, 1) := by decide +kernel
theorem dX12_isPart_2 : decode cX12_isPart 2 = .ok (.aload_n 0, 1) := by decide +kernel
theorem dX12_isPart_3 : decode cX12_isPart 3 = .ok (.getfield 166, 3) := by decide +kernel
theorem dX12_isPart_6 : decode cX12_isPart 6 = .ok (.iconst 1, 1) := by decide +kernel
theorem dX12_isPart_7 : decode cX12_isPart 7 = .ok (.isub, 1) := by decide +kernel
theorem dX12_isPart_8 : decode cX12_isPart 8 = .ok (.invokestatic 151, 3) := by decide +kernel
theorem dX12_isPart_11 : decode cX12_isPart 11 = .ok (.ireturn, 1) := by decide +kernel
theorem dX12_feed_0 : decode cX12_feed 0 = .ok (.iload_n 1, 1) := by decide +kernel
theorem dX12_feed_1 : decode cX12_feed 1 = .ok (.iconst 1, 1) := by decide +kernel
theorem dX12_feed_2 : decode cX12_feed 2 = .ok (.iconst 4, 1) := by decide +kernel
theorem dX12_feed_3 : decode cX12_feed 3 = .ok (.invokestatic 151, 3) := by decide +kernel
theorem dX12_feed_6 : decode cX12_feed 6 = .ok (.ifCond .ne 5, 3) := by decide +kernel
theorem dX12_feed_9 : decode cX12_feed 9 = .ok (.iconst (-1), 1) := by decide +kernel
theorem dX12_feed_10 : decode cX12_feed 10 = .ok (.ireturn, 1) := by decide +kernel
theorem dX12_feed_11 : decode cX12_feed 11 = .ok (.aload_n 0, 1) := by decide +kernel
theorem dX12_feed_12 : decode cX12_feed 12 = .ok (.getfield 245, 3) := by decide +kernel
theorem dX12_feed_15 : decode cX12_feed 15 = .ok (.iload_n 1, 1) := by decide +kernel
theorem dX12_feed_16 : decode cX12_feed 16 = .ok (.iadd, 1) := by decide +kernel
theorem dX12_feed_17 : decode cX12_feed 17 = .ok (.bipush 120, 2) := by decide +kernel
theorem dX12_feed_19 : decode cX12_feed 19 = .ok (.if_icmp .le 6, 3) := by decide +kernel
theorem dX12_feed_22 : decode cX12_feed 22 = .ok (.bipush (-3), 2) := by decide +kernel
theorem dX12_feed_24 : decode cX12_feed 24 = .ok (.ireturn, 1) := by decide +kernel
theorem dX12_feed_25 : decode cX12_feed 25 = .ok (.iconst 0, 1) := by decide +kernel
theorem dX12_feed_26 : decode cX12_feed 26 = .ok (.istore_n 3, 1) := by decide +kernel
theorem dX12_feed_27 : decode cX12_feed 27 = .ok (.iload_n 3, 1) := by decide +kernel
theorem dX12_feed_28 : decode cX12_feed 28 = .ok (.iload_n 1, 1) := by decide +kernel
theorem dX12_feed_29 : decode cX12_feed 29 = .ok (.if_icmp .ge 35, 3) := by decide +kernel
theorem dX12_feed_32 : decode cX12_feed 32 = .ok (.aload_n 0, 1) := by decide +kernel
theorem dX12_feed_33 : decode cX12_feed 33 = .ok (.getfield 80, 3) := by decide +kernel
theorem dX12_feed_36 : decode cX12_feed 36 = .ok (.aload_n 0, 1) := by decide +kernel
theorem dX12_feed_37 : decode cX12_feed 37 = .ok (.getfield 245, 3) := by decide +kernel
theorem dX12_feed_40 : decode cX12_feed 40 = .ok (.iload_n 2, 1) := by decide +kernel
theorem dX12_feed_41 : decode cX12_feed 41 = .ok (.bipush 8, 2) := by decide +kernel
theorem dX12_feed_43 : decode cX12_feed 43 = .ok (.iload_n 3, 1) := by decide +kernel
theorem dX12_feed_44 : decode cX12_feed 44 = .ok (.imul, 1) := by decide +kernel
theorem dX12_feed_45 : decode cX12_feed 45 = .ok (.ishr, 1) := by decide +kernel
theorem dX12_feed_46 : decode cX12_feed 46 = .ok (.i2b, 1) := by decide +kernel
theorem dX12_feed_47 : decode cX12_feed 47 = .ok (.bastore, 1) := by decide +kernel
theorem dX12_feed_48 : decode cX12_feed 48 = .ok (.aload_n 0, 1) := by decide +kernel
theorem dX12_feed_49 : decode cX12_feed 49 = .ok (.dup, 1) := by decide +kernel
theorem dX12_feed_50 : decode cX12_feed 50 = .ok (.getfield 245, 3) := by decide +kernel
theorem dX12_feed_53 : decode cX12_feed 53 = .ok (.iconst 1, 1) := by decide +kernel
theorem dX12_feed_54 : decode cX12_feed 54 = .ok (.iadd, 1) := by decide +kernel
theorem dX12_feed_55 : decode cX12_feed 55 = .ok (.putfield 245, 3) := by decide +kernel
theorem dX12_feed_58 : decode cX12_feed 58 = .ok (.iinc 3 1, 3) := by decide +kernel
theorem dX12_feed_61 : decode cX12_feed 61 = .ok (.goto (-34), 3) := by decide +kernel
theorem dX12_feed_64 : decode cX12_feed 64 = .ok (.aload_n 0, 1) := by decide +kernel
theorem dX12_feed_65 : decode cX12_feed 65 = .ok (.getfield 245, 3) := by decide +kernel
theorem dX12_feed_68 : decode cX12_feed 68 = .ok (.ireturn, 1) := by decide +kernel
theorem dX12_look_0 : decode cX12_look 0 = .ok (.aload_n 0, 1) := by decide +kernel
theorem dX12_look_1 : decode cX12_look 1 = .ok (.getfield 248, 3) := by decide +kernel
theorem dX12_look_4 : decode cX12_look 4 = .ok (.aload_n 0, 1) := by decide +kernel
theorem dX12_look_5 : decode cX12_look 5 = .ok (.getfield 245, 3) := by decide +kernel
theorem dX12_look_8 : decode cX12_look 8 = .ok (.if_icmp .ge 15, 3) := by decide +kernel
theorem dX12_look_11 : decode cX12_look 11 = .ok (.aload_n 0, 1) := by decide +kernel
theorem dX12_look_12 : decode cX12_look 12 = .ok (.getfield 80, 3) := by decide +kernel
theorem dX12_look_15 : decode cX12_look 15 = .ok (.aload_n 0, 1) := by decide +kernel
theorem dX12_look_16 : decode cX12_look 16 = .ok (.getfield 248, 3) := by decide +kernel
theorem dX12_look_19 : decode cX12_look 19 = .ok (.baload, 1) := by decide +kernel
theorem dX12_look_20 : decode cX12_look 20 = .ok (.goto 4, 3) := by decide +kernel
theorem dX12_look_23 : decode cX12_look 23 = .ok (.iconst (-1), 1) := by decide +kernel
theorem dX12_look_24 : decode cX12_look 24 = .ok (.ireturn, 1) := by decide +kernel
theorem dX12_wrong_0 : decode cX12_wrong 0 = .ok (.aload_n 0, 1) := by decide +kernel
theorem dX12_wrong_1 : decode cX12_wrong 1 = .ok (.getfield 251, 3) := by decide +kernel
theorem dX12_wrong_4 : decode cX12_wrong 4 = .ok (.ifCond .ge 11, 3) := by decide +kernel
theorem dX12_wrong_7 : decode cX12_wrong 7 = .ok (.aload_n 0, 1) := by decide +kernel
theorem dX12_wrong_8 : decode cX12_wrong 8 = .ok (.aload_n 0, 1) := by decide +kernel
theorem dX12_wrong_9 : decode cX12_wrong 9 = .ok (.getfield 248, 3) := by decide +kernel
theorem dX12_wrong_12 : decode cX12_wrong 12 = .ok (.putfield 251, 3) := by decide +kernel
theorem dX12_wrong_15 : decode cX12_wrong 15 = .ok (.return_, 1) := by decide +kernel
theorem dX12_lay_0 : decode cX12_lay 0 = .ok (.aload_n 0, 1) := by decide +kernel
theorem dX12_lay_1 : decode cX12_lay 1 = .ok (.getfield 93, 3) := by decide +kernel
theorem dX12_lay_4 : decode cX12_lay 4 = .ok (.sipush 130, 3) := by decide +kernel
theorem dX12_lay_7 : decode cX12_lay 7 = .ok (.aload_n 0, 1) := by decide +kernel
theorem dX12_lay_8 : decode cX12_lay 8 = .ok (.getfield 254, 3) := by decide +kernel
theorem dX12_lay_11 : decode cX12_lay 11 = .ok (.imul, 1) := by decide +kernel
theorem dX12_lay_12 : decode cX12_lay 12 = .ok (.aload_n 0, 1) := by decide +kernel
theorem dX12_lay_13 : decode cX12_lay 13 = .ok (.getfield 257, 3) := by decide +kernel
theorem dX12_lay_16 : decode cX12_lay 16 = .ok (.iadd, 1) := by decide +kernel
theorem dX12_lay_17 : decode cX12_lay 17 = .ok (.iload_n 1, 1) := by decide +kernel
theorem dX12_lay_18 : decode cX12_lay 18 = .ok (.iastore, 1) := by decide +kernel
theorem dX12_lay_19 : decode cX12_lay 19 = .ok (.aload_n 0, 1) := by decide +kernel
theorem dX12_lay_20 : decode cX12_lay 20 = .ok (.getfield 96, 3) := by decide +kernel
theorem dX12_lay_23 : decode cX12_lay 23 = .ok (.sipush 130, 3) := by decide +kernel
theorem dX12_lay_26 : decode cX12_lay 26 = .ok (.aload_n 0, 1) := by decide +kernel
theorem dX12_lay_27 : decode cX12_lay 27 = .ok (.getfield 254, 3) := by decide +kernel
theorem dX12_lay_30 : decode cX12_lay 30 = .ok (.imul, 1) := by decide +kernel
theorem dX12_lay_31 : decode cX12_lay 31 = .ok (.aload_n 0, 1) := by decide +kernel
theorem dX12_lay_32 : decode cX12_lay 32 = .ok (.getfield 257, 3) := by decide +kernel
theorem dX12_lay_35 : decode cX12_lay 35 = .ok (.iadd, 1) := by decide +kernel
theorem dX12_lay_36 : decode cX12_lay 36 = .ok (.iload_n 2, 1) := by decide +kernel
theorem dX12_lay_37 : decode cX12_lay 37 = .ok (.iastore, 1) := by decide +kernel
theorem dX12_lay_38 : decode cX12_lay 38 = .ok (.aload_n 0, 1) := by decide +kernel
theorem dX12_lay_39 : decode cX12_lay 39 = .ok (.dup, 1) := by decide +kernel
theorem dX12_lay_40 : decode cX12_lay 40 = .ok (.getfield 257, 3) := by decide +kernel
theorem dX12_lay_43 : decode cX12_lay 43 = .ok (.iconst 1, 1) := by decide +kernel
theorem dX12_lay_44 : decode cX12_lay 44 = .ok (.iadd, 1) := by decide +kernel
theorem dX12_lay_45 : decode cX12_lay 45 = .ok (.putfield 257, 3) := by decide +kernel
theorem dX12_lay_48 : decode cX12_lay 48 = .ok (.return_, 1) := by decide +kernel
theorem dX12_opens_0 : decode cX12_opens 0 = .ok (.aload_n 0, 1) := by decide +kernel
theorem dX12_opens_1 : decode cX12_opens 1 = .ok (.getfield 260, 3) := by decide +kernel
theorem dX12_opens_4 : decode cX12_opens 4 = .ok (.bipush 8, 2) := by decide +kernel
theorem dX12_opens_6 : decode cX12_opens 6 = .ok (.if_icmp .ne 9, 3) := by decide +kernel
theorem dX12_opens_9 : decode cX12_opens 9 = .ok (.aload_n 0, 1) := by decide +kernel
theorem dX12_opens_10 : decode cX12_opens 10 = .ok (.invokevirtual 263, 3) := by decide +kernel
theorem dX12_opens_13 : decode cX12_opens 13 = .ok (.iconst 0, 1) := by decide +kernel
theorem dX12_opens_14 : decode cX12_opens 14 = .ok (.ireturn, 1) := by decide +kernel
theorem dX12_opens_15 : decode cX12_opens 15 = .ok (.aload_n 0, 1) := by decide +kernel
theorem dX12_opens_16 : decode cX12_opens 16 = .ok (.dup, 1) := by decide +kernel
theorem dX12_opens_17 : decode cX12_opens 17 = .ok (.getfield 260, 3) := by decide +kernel
theorem dX12_opens_20 : decode cX12_opens 20 = .ok (.iconst 1, 1) := by decide +kernel
theorem dX12_opens_21 : decode cX12_opens 21 = .ok (.iadd, 1) := by decide +kernel
theorem dX12_opens_22 : decode cX12_opens 22 = .ok (.putfield 260, 3) := by decide +kernel
theorem dX12_opens_25 : decode cX12_opens 25 = .ok (.aload_n 0, 1) := by decide +kernel
theorem dX12_opens_26 : decode cX12_opens 26 = .ok (.dup, 1) := by decide +kernel
theorem dX12_opens_27 : decode cX12_opens 27 = .ok (.getfield 248, 3) := by decide +kernel
theorem dX12_opens_30 : decode cX12_opens 30 = .ok (.iconst 1, 1) := by decide +kernel
theorem dX12_opens_31 : decode cX12_opens 31 = .ok (.iadd, 1) := by decide +kernel
theorem dX12_opens_32 : decode cX12_opens 32 = .ok (.putfield 248, 3) := by decide +kernel
theorem dX12_opens_35 : decode cX12_opens 35 = .ok (.iconst 1, 1) := by decide +kernel
theorem dX12_opens_36 : decode cX12_opens 36 = .ok (.ireturn, 1) := by decide +kernel
theorem dX12_nameOf_0 : decode cX12_nameOf 0 = .ok (.iload_n 0, 1) := by decide +kernel
theorem dX12_nameOf_1 : decode cX12_nameOf 1 = .ok (.tableswitch 107 100 119 #[95, 107, 107, 107, 97, 107, 107, 103, 99, 107, 105, 107, 107, 107, 107, 107, 107, 107, 107, 101], 95) := by decide +kernel
theorem dX12_nameOf_96 : decode cX12_nameOf 96 = .ok (.iconst 0, 1) := by decide +kernel
theorem dX12_nameOf_97 : decode cX12_nameOf 97 = .ok (.ireturn, 1) := by decide +kernel
theorem dX12_nameOf_98 : decode cX12_nameOf 98 = .ok (.iconst 1, 1) := by decide +kernel
theorem dX12_nameOf_99 : decode cX12_nameOf 99 = .ok (.ireturn, 1) := by decide +kernel
theorem dX12_nameOf_100 : decode cX12_nameOf 100 = .ok (.iconst 2, 1) := by decide +kernel
theorem dX12_nameOf_101 : decode cX12_nameOf 101 = .ok (.ireturn, 1) := by decide +kernel
theorem dX12_nameOf_102 : decode cX12_nameOf 102 = .ok (.iconst 3, 1) := by decide +kernel
theorem dX12_nameOf_103 : decode cX12_nameOf 103 = .ok (.ireturn, 1) := by decide +kernel
theorem dX12_nameOf_104 : decode cX12_nameOf 104 = .ok (.iconst 4, 1) := by decide +kernel
theorem dX12_nameOf_105 : decode cX12_nameOf 105 = .ok (.ireturn, 1) := by decide +kernel
theorem dX12_nameOf_106 : decode cX12_nameOf 106 = .ok (.iconst 5, 1) := by decide +kernel
theorem dX12_nameOf_107 : decode cX12_nameOf 107 = .ok (.ireturn, 1) := by decide +kernel
theorem dX12_nameOf_108 : decode cX12_nameOf 108 = .ok (.iconst (-1), 1) := by decide +kernel
theorem dX12_nameOf_109 : decode cX12_nameOf 109 = .ok (.ireturn, 1) := by decide +kernel
theorem dX12_digits_0 : decode cX12_digits 0 = .ok (.iconst 0, 1) := by decide +kernel
theorem dX12_digits_1 : decode cX12_digits 1 = .ok (.istore_n 1, 1) := by decide +kernel
theorem dX12_digits_2 : decode cX12_digits 2 = .ok (.aload_n 0, 1) := by decide +kernel
theorem dX12_digits_3 : decode cX12_digits 3 = .ok (.iconst 0, 1) := by decide +kernel
theorem dX12_digits_4 : decode cX12_digits 4 = .ok (.putfield 266, 3) := by decide +kernel
theorem dX12_digits_7 : decode cX12_digits 7 = .ok (.iload_n 1, 1) := by decide +kernel
theorem dX12_digits_8 : decode cX12_digits 8 = .ok (.iconst 5, 1) := by decide +kernel
theorem dX12_digits_9 : decode cX12_digits 9 = .ok (.if_icmp .ge 52, 3) := by decide +kernel
theorem dX12_digits_12 : decode cX12_digits 12 = .ok (.aload_n 0, 1) := by decide +kernel
theorem dX12_digits_13 : decode cX12_digits 13 = .ok (.invokevirtual 269, 3) := by decide +kernel
theorem dX12_digits_16 : decode cX12_digits 16 = .ok (.bipush 48, 2) := by decide +kernel
theorem dX12_digits_18 : decode cX12_digits 18 = .ok (.bipush 57, 2) := by decide +kernel
theorem dX12_digits_20 : decode cX12_digits 20 = .ok (.invokestatic 151, 3) := by decide +kernel
theorem dX12_digits_23 : decode cX12_digits 23 = .ok (.ifCond .eq 38, 3) := by decide +kernel
theorem dX12_digits_26 : decode cX12_digits 26 = .ok (.aload_n 0, 1) := by decide +kernel
theorem dX12_digits_27 : decode cX12_digits 27 = .ok (.bipush 10, 2) := by decide +kernel
theorem dX12_digits_29 : decode cX12_digits 29 = .ok (.aload_n 0, 1) := by decide +kernel
theorem dX12_digits_30 : decode cX12_digits 30 = .ok (.getfield 266, 3) := by decide +kernel
theorem dX12_digits_33 : decode cX12_digits 33 = .ok (.imul, 1) := by decide +kernel
theorem dX12_digits_34 : decode cX12_digits 34 = .ok (.aload_n 0, 1) := by decide +kernel
theorem dX12_digits_35 : decode cX12_digits 35 = .ok (.invokevirtual 269, 3) := by decide +kernel
theorem dX12_digits_38 : decode cX12_digits 38 = .ok (.iadd, 1) := by decide +kernel
theorem dX12_digits_39 : decode cX12_digits 39 = .ok (.bipush 48, 2) := by decide +kernel
theorem dX12_digits_41 : decode cX12_digits 41 = .ok (.isub, 1) := by decide +kernel
theorem dX12_digits_42 : decode cX12_digits 42 = .ok (.putfield 266, 3) := by decide +kernel
theorem dX12_digits_45 : decode cX12_digits 45 = .ok (.iinc 1 1, 3) := by decide +kernel
theorem dX12_digits_48 : decode cX12_digits 48 = .ok (.aload_n 0, 1) := by decide +kernel
theorem dX12_digits_49 : decode cX12_digits 49 = .ok (.dup, 1) := by decide +kernel
theorem dX12_digits_50 : decode cX12_digits 50 = .ok (.getfield 248, 3) := by decide +kernel
theorem dX12_digits_53 : decode cX12_digits 53 = .ok (.iconst 1, 1) := by decide +kernel
theorem dX12_digits_54 : decode cX12_digits 54 = .ok (.iadd, 1) := by decide +kernel
theorem dX12_digits_55 : decode cX12_digits 55 = .ok (.putfield 248, 3) := by decide +kernel
theorem dX12_digits_58 : decode cX12_digits 58 = .ok (.goto (-51), 3) := by decide +kernel
theorem dX12_digits_61 : decode cX12_digits 61 = .ok (.iload_n 1, 1) := by decide +kernel
theorem dX12_digits_62 : decode cX12_digits 62 = .ok (.ifCond .le 19, 3) := by decide +kernel
theorem dX12_digits_65 : decode cX12_digits 65 = .ok (.aload_n 0, 1) := by decide +kernel
theorem dX12_digits_66 : decode cX12_digits 66 = .ok (.invokevirtual 269, 3) := by decide +kernel
theorem dX12_digits_69 : decode cX12_digits 69 = .ok (.bipush 48, 2) := by decide +kernel
theorem dX12_digits_71 : decode cX12_digits 71 = .ok (.bipush 57, 2) := by decide +kernel
theorem dX12_digits_73 : decode cX12_digits 73 = .ok (.invokestatic 151, 3) := by decide +kernel
theorem dX12_digits_76 : decode cX12_digits 76 = .ok (.ifCond .ne 5, 3) := by decide +kernel
theorem dX12_digits_79 : decode cX12_digits 79 = .ok (.iconst 1, 1) := by decide +kernel
theorem dX12_digits_80 : decode cX12_digits 80 = .ok (.ireturn, 1) := by decide +kernel
theorem dX12_digits_81 : decode cX12_digits 81 = .ok (.aload_n 0, 1) := by decide +kernel
theorem dX12_digits_82 : decode cX12_digits 82 = .ok (.invokevirtual 263, 3) := by decide +kernel
theorem dX12_digits_85 : decode cX12_digits 85 = .ok (.iconst 0, 1) := by decide +kernel
theorem dX12_digits_86 : decode cX12_digits 86 = .ok (.ireturn, 1) := by decide +kernel
theorem dX12_operand_0 : decode cX12_operand 0 = .ok (.aload_n 0, 1) := by decide +kernel
theorem dX12_operand_1 : decode cX12_operand 1 = .ok (.invokevirtual 269, 3) := by decide +kernel
theorem dX12_operand_4 : decode cX12_operand 4 = .ok (.istore_n 1, 1) := by decide +kernel
theorem dX12_operand_5 : decode cX12_operand 5 = .ok (.iload_n 1, 1) := by decide +kernel
theorem dX12_operand_6 : decode cX12_operand 6 = .ok (.invokestatic 273, 3) := by decide +kernel
theorem dX12_operand_9 : decode cX12_operand 9 = .ok (.ifCond .lt 25, 3) := by decide +kernel
theorem dX12_operand_12 : decode cX12_operand 12 = .ok (.aload_n 0, 1) := by decide +kernel
theorem dX12_operand_13 : decode cX12_operand 13 = .ok (.iconst 2, 1) := by decide +kernel
theorem dX12_operand_14 : decode cX12_operand 14 = .ok (.iload_n 1, 1) := by decide +kernel
theorem dX12_operand_15 : decode cX12_operand 15 = .ok (.invokestatic 273, 3) := by decide +kernel
theorem dX12_operand_18 : decode cX12_operand 18 = .ok (.invokevirtual 276, 3) := by decide +kernel
theorem dX12_operand_21 : decode cX12_operand 21 = .ok (.aload_n 0, 1) := by decide +kernel
theorem dX12_operand_22 : decode cX12_operand 22 = .ok (.dup, 1) := by decide +kernel
theorem dX12_operand_23 : decode cX12_operand 23 = .ok (.getfield 248, 3) := by decide +kernel
theorem dX12_operand_26 : decode cX12_operand 26 = .ok (.iconst 1, 1) := by decide +kernel
theorem dX12_operand_27 : decode cX12_operand 27 = .ok (.iadd, 1) := by decide +kernel
theorem dX12_operand_28 : decode cX12_operand 28 = .ok (.putfield 248, 3) := by decide +kernel
theorem dX12_operand_31 : decode cX12_operand 31 = .ok (.goto 119, 3) := by decide +kernel
theorem dX12_operand_34 : decode cX12_operand 34 = .ok (.iload_n 1, 1) := by decide +kernel
theorem dX12_operand_35 : decode cX12_operand 35 = .ok (.bipush 45, 2) := by decide +kernel
theorem dX12_operand_37 : decode cX12_operand 37 = .ok (.if_icmp .ne 34, 3) := by decide +kernel
theorem dX12_operand_40 : decode cX12_operand 40 = .ok (.aload_n 0, 1) := by decide +kernel
theorem dX12_operand_41 : decode cX12_operand 41 = .ok (.invokevirtual 279, 3) := by decide +kernel
theorem dX12_operand_44 : decode cX12_operand 44 = .ok (.ifCond .ne 4, 3) := by decide +kernel
theorem dX12_operand_47 : decode cX12_operand 47 = .ok (.return_, 1) := by decide +kernel
theorem dX12_operand_48 : decode cX12_operand 48 = .ok (.aload_n 0, 1) := by decide +kernel
theorem dX12_operand_49 : decode cX12_operand 49 = .ok (.invokevirtual 283, 3) := by decide +kernel
theorem dX12_operand_52 : decode cX12_operand 52 = .ok (.aload_n 0, 1) := by decide +kernel
theorem dX12_operand_53 : decode cX12_operand 53 = .ok (.iconst 3, 1) := by decide +kernel
theorem dX12_operand_54 : decode cX12_operand 54 = .ok (.iconst 0, 1) := by decide +kernel
theorem dX12_operand_55 : decode cX12_operand 55 = .ok (.invokevirtual 276, 3) := by decide +kernel
theorem dX12_operand_58 : decode cX12_operand 58 = .ok (.aload_n 0, 1) := by decide +kernel
theorem dX12_operand_59 : decode cX12_operand 59 = .ok (.dup, 1) := by decide +kernel
theorem dX12_operand_60 : decode cX12_operand 60 = .ok (.getfield 260, 3) := by decide +kernel
theorem dX12_operand_63 : decode cX12_operand 63 = .ok (.iconst 1, 1) := by decide +kernel
theorem dX12_operand_64 : decode cX12_operand 64 = .ok (.isub, 1) := by decide +kernel
theorem dX12_operand_65 : decode cX12_operand 65 = .ok (.putfield 260, 3) := by decide +kernel
theorem dX12_operand_68 : decode cX12_operand 68 = .ok (.goto 82, 3) := by decide +kernel
theorem dX12_operand_71 : decode cX12_operand 71 = .ok (.iload_n 1, 1) := by decide +kernel
theorem dX12_operand_72 : decode cX12_operand 72 = .ok (.bipush 40, 2) := by decide +kernel
theorem dX12_operand_74 : decode cX12_operand 74 = .ok (.if_icmp .ne 60, 3) := by decide +kernel
theorem dX12_operand_77 : decode cX12_operand 77 = .ok (.aload_n 0, 1) := by decide +kernel
theorem dX12_operand_78 : decode cX12_operand 78 = .ok (.invokevirtual 279, 3) := by decide +kernel
theorem dX12_operand_81 : decode cX12_operand 81 = .ok (.ifCond .ne 4, 3) := by decide +kernel
theorem dX12_operand_84 : decode cX12_operand 84 = .ok (.return_, 1) := by decide +kernel
theorem dX12_operand_85 : decode cX12_operand 85 = .ok (.aload_n 0, 1) := by decide +kernel
theorem dX12_operand_86 : decode cX12_operand 86 = .ok (.invokevirtual 286, 3) := by decide +kernel
theorem dX12_operand_89 : decode cX12_operand 89 = .ok (.aload_n 0, 1) := by decide +kernel
theorem dX12_operand_90 : decode cX12_operand 90 = .ok (.getfield 251, 3) := by decide +kernel
theorem dX12_operand_93 : decode cX12_operand 93 = .ok (.ifCond .lt 4, 3) := by decide +kernel
theorem dX12_operand_96 : decode cX12_operand 96 = .ok (.return_, 1) := by decide +kernel
theorem dX12_operand_97 : decode cX12_operand 97 = .ok (.aload_n 0, 1) := by decide +kernel
theorem dX12_operand_98 : decode cX12_operand 98 = .ok (.invokevirtual 269, 3) := by decide +kernel
theorem dX12_operand_101 : decode cX12_operand 101 = .ok (.bipush 41, 2) := by decide +kernel
theorem dX12_operand_103 : decode cX12_operand 103 = .ok (.if_icmp .eq 8, 3) := by decide +kernel
theorem dX12_operand_106 : decode cX12_operand 106 = .ok (.aload_n 0, 1) := by decide +kernel
theorem dX12_operand_107 : decode cX12_operand 107 = .ok (.invokevirtual 263, 3) := by decide +kernel
theorem dX12_operand_110 : decode cX12_operand 110 = .ok (.return_, 1) := by decide +kernel
theorem dX12_operand_111 : decode cX12_operand 111 = .ok (.aload_n 0, 1) := by decide +kernel
theorem dX12_operand_112 : decode cX12_operand 112 = .ok (.dup, 1) := by decide +kernel
theorem dX12_operand_113 : decode cX12_operand 113 = .ok (.getfield 248, 3) := by decide +kernel
theorem dX12_operand_116 : decode cX12_operand 116 = .ok (.iconst 1, 1) := by decide +kernel
theorem dX12_operand_117 : decode cX12_operand 117 = .ok (.iadd, 1) := by decide +kernel
theorem dX12_operand_118 : decode cX12_operand 118 = .ok (.putfield 248, 3) := by decide +kernel
theorem dX12_operand_121 : decode cX12_operand 121 = .ok (.aload_n 0, 1) := by decide +kernel
theorem dX12_operand_122 : decode cX12_operand 122 = .ok (.dup, 1) := by decide +kernel
theorem dX12_operand_123 : decode cX12_operand 123 = .ok (.getfield 260, 3) := by decide +kernel
theorem dX12_operand_126 : decode cX12_operand 126 = .ok (.iconst 1, 1) := by decide +kernel
theorem dX12_operand_127 : decode cX12_operand 127 = .ok (.isub, 1) := by decide +kernel
theorem dX12_operand_128 : decode cX12_operand 128 = .ok (.putfield 260, 3) := by decide +kernel
theorem dX12_operand_131 : decode cX12_operand 131 = .ok (.goto 19, 3) := by decide +kernel
theorem dX12_operand_134 : decode cX12_operand 134 = .ok (.aload_n 0, 1) := by decide +kernel
theorem dX12_operand_135 : decode cX12_operand 135 = .ok (.invokevirtual 289, 3) := by decide +kernel
theorem dX12_operand_138 : decode cX12_operand 138 = .ok (.ifCond .eq 12, 3) := by decide +kernel
theorem dX12_operand_141 : decode cX12_operand 141 = .ok (.aload_n 0, 1) := by decide +kernel
theorem dX12_operand_142 : decode cX12_operand 142 = .ok (.iconst 1, 1) := by decide +kernel
theorem dX12_operand_143 : decode cX12_operand 143 = .ok (.aload_n 0, 1) := by decide +kernel
theorem dX12_operand_144 : decode cX12_operand 144 = .ok (.getfield 266, 3) := by decide +kernel
theorem dX12_operand_147 : decode cX12_operand 147 = .ok (.invokevirtual 276, 3) := by decide +kernel
theorem dX12_operand_150 : decode cX12_operand 150 = .ok (.return_, 1) := by decide +kernel
theorem dX12_product_0 : decode cX12_product 0 = .ok (.aload_n 0, 1) := by decide +kernel
theorem dX12_product_1 : decode cX12_product 1 = .ok (.invokevirtual 283, 3) := by decide +kernel
theorem dX12_product_4 : decode cX12_product 4 = .ok (.aload_n 0, 1) := by decide +kernel
theorem dX12_product_5 : decode cX12_product 5 = .ok (.getfield 251, 3) := by decide +kernel
theorem dX12_product_8 : decode cX12_product 8 = .ok (.ifCond .ge 49, 3) := by decide +kernel
theorem dX12_product_11 : decode cX12_product 11 = .ok (.aload_n 0, 1) := by decide +kernel
theorem dX12_product_12 : decode cX12_product 12 = .ok (.invokevirtual 269, 3) := by decide +kernel
theorem dX12_product_15 : decode cX12_product 15 = .ok (.bipush 42, 2) := by decide +kernel
theorem dX12_product_17 : decode cX12_product 17 = .ok (.if_icmp .eq 12, 3) := by decide +kernel
theorem dX12_product_20 : decode cX12_product 20 = .ok (.aload_n 0, 1) := by decide +kernel
theorem dX12_product_21 : decode cX12_product 21 = .ok (.invokevirtual 269, 3) := by decide +kernel
theorem dX12_product_24 : decode cX12_product 24 = .ok (.bipush 47, 2) := by decide +kernel
theorem dX12_product_26 : decode cX12_product 26 = .ok (.if_icmp .ne 31, 3) := by decide +kernel
theorem dX12_product_29 : decode cX12_product 29 = .ok (.aload_n 0, 1) := by decide +kernel
theorem dX12_product_30 : decode cX12_product 30 = .ok (.invokevirtual 269, 3) := by decide +kernel
theorem dX12_product_33 : decode cX12_product 33 = .ok (.istore_n 1, 1) := by decide +kernel
theorem dX12_product_34 : decode cX12_product 34 = .ok (.aload_n 0, 1) := by decide +kernel
theorem dX12_product_35 : decode cX12_product 35 = .ok (.dup, 1) := by decide +kernel
theorem dX12_product_36 : decode cX12_product 36 = .ok (.getfield 248, 3) := by decide +kernel
theorem dX12_product_39 : decode cX12_product 39 = .ok (.iconst 1, 1) := by decide +kernel
theorem dX12_product_40 : decode cX12_product 40 = .ok (.iadd, 1) := by decide +kernel
theorem dX12_product_41 : decode cX12_product 41 = .ok (.putfield 248, 3) := by decide +kernel
theorem dX12_product_44 : decode cX12_product 44 = .ok (.aload_n 0, 1) := by decide +kernel
theorem dX12_product_45 : decode cX12_product 45 = .ok (.invokevirtual 283, 3) := by decide +kernel
theorem dX12_product_48 : decode cX12_product 48 = .ok (.aload_n 0, 1) := by decide +kernel
theorem dX12_product_49 : decode cX12_product 49 = .ok (.iload_n 1, 1) := by decide +kernel
theorem dX12_product_50 : decode cX12_product 50 = .ok (.iconst 0, 1) := by decide +kernel
theorem dX12_product_51 : decode cX12_product 51 = .ok (.invokevirtual 276, 3) := by decide +kernel
theorem dX12_product_54 : decode cX12_product 54 = .ok (.goto (-50), 3) := by decide +kernel
theorem dX12_product_57 : decode cX12_product 57 = .ok (.return_, 1) := by decide +kernel
theorem dX12_sum_0 : decode cX12_sum 0 = .ok (.aload_n 0, 1) := by decide +kernel
theorem dX12_sum_1 : decode cX12_sum 1 = .ok (.invokevirtual 292, 3) := by decide +kernel
theorem dX12_sum_4 : decode cX12_sum 4 = .ok (.aload_n 0, 1) := by decide +kernel
theorem dX12_sum_5 : decode cX12_sum 5 = .ok (.getfield 251, 3) := by decide +kernel
theorem dX12_sum_8 : decode cX12_sum 8 = .ok (.ifCond .ge 49, 3) := by decide +kernel
theorem dX12_sum_11 : decode cX12_sum 11 = .ok (.aload_n 0, 1) := by decide +kernel
theorem dX12_sum_12 : decode cX12_sum 12 = .ok (.invokevirtual 269, 3) := by decide +kernel
theorem dX12_sum_15 : decode cX12_sum 15 = .ok (.bipush 43, 2) := by decide +kernel
theorem dX12_sum_17 : decode cX12_sum 17 = .ok (.if_icmp .eq 12, 3) := by decide +kernel
theorem dX12_sum_20 : decode cX12_sum 20 = .ok (.aload_n 0, 1) := by decide +kernel
theorem dX12_sum_21 : decode cX12_sum 21 = .ok (.invokevirtual 269, 3) := by decide +kernel
theorem dX12_sum_24 : decode cX12_sum 24 = .ok (.bipush 45, 2) := by decide +kernel
theorem dX12_sum_26 : decode cX12_sum 26 = .ok (.if_icmp .ne 31, 3) := by decide +kernel
theorem dX12_sum_29 : decode cX12_sum 29 = .ok (.aload_n 0, 1) := by decide +kernel
theorem dX12_sum_30 : decode cX12_sum 30 = .ok (.invokevirtual 269, 3) := by decide +kernel
theorem dX12_sum_33 : decode cX12_sum 33 = .ok (.istore_n 1, 1) := by decide +kernel
theorem dX12_sum_34 : decode cX12_sum 34 = .ok (.aload_n 0, 1) := by decide +kernel
theorem dX12_sum_35 : decode cX12_sum 35 = .ok (.dup, 1) := by decide +kernel
theorem dX12_sum_36 : decode cX12_sum 36 = .ok (.getfield 248, 3) := by decide +kernel
theorem dX12_sum_39 : decode cX12_sum 39 = .ok (.iconst 1, 1) := by decide +kernel
theorem dX12_sum_40 : decode cX12_sum 40 = .ok (.iadd, 1) := by decide +kernel
theorem dX12_sum_41 : decode cX12_sum 41 = .ok (.putfield 248, 3) := by decide +kernel
theorem dX12_sum_44 : decode cX12_sum 44 = .ok (.aload_n 0, 1) := by decide +kernel
theorem dX12_sum_45 : decode cX12_sum 45 = .ok (.invokevirtual 292, 3) := by decide +kernel
theorem dX12_sum_48 : decode cX12_sum 48 = .ok (.aload_n 0, 1) := by decide +kernel
theorem dX12_sum_49 : decode cX12_sum 49 = .ok (.iload_n 1, 1) := by decide +kernel
theorem dX12_sum_50 : decode cX12_sum 50 = .ok (.iconst 0, 1) := by decide +kernel
theorem dX12_sum_51 : decode cX12_sum 51 = .ok (.invokevirtual 276, 3) := by decide +kernel
theorem dX12_sum_54 : decode cX12_sum 54 = .ok (.goto (-50), 3) := by decide +kernel
theorem dX12_sum_57 : decode cX12_sum 57 = .ok (.return_, 1) := by decide +kernel
theorem dX12_either_0 : decode cX12_either 0 = .ok (.aload_n 0, 1) := by decide +kernel
theorem dX12_either_1 : decode cX12_either 1 = .ok (.invokevirtual 295, 3) := by decide +kernel
theorem dX12_either_4 : decode cX12_either 4 = .ok (.aload_n 0, 1) := by decide +kernel
theorem dX12_either_5 : decode cX12_either 5 = .ok (.invokevirtual 269, 3) := by decide +kernel
theorem dX12_either_8 : decode cX12_either 8 = .ok (.istore_n 1, 1) := by decide +kernel
theorem dX12_either_9 : decode cX12_either 9 = .ok (.aload_n 0, 1) := by decide +kernel
theorem dX12_either_10 : decode cX12_either 10 = .ok (.getfield 251, 3) := by decide +kernel
theorem dX12_either_13 : decode cX12_either 13 = .ok (.ifCond .ge 41, 3) := by decide +kernel
theorem dX12_either_16 : decode cX12_either 16 = .ok (.iload_n 1, 1) := by decide +kernel
theorem dX12_either_17 : decode cX12_either 17 = .ok (.bipush 60, 2) := by decide +kernel
theorem dX12_either_19 : decode cX12_either 19 = .ok (.if_icmp .eq 15, 3) := by decide +kernel
theorem dX12_either_22 : decode cX12_either 22 = .ok (.iload_n 1, 1) := by decide +kernel
theorem dX12_either_23 : decode cX12_either 23 = .ok (.bipush 61, 2) := by decide +kernel
theorem dX12_either_25 : decode cX12_either 25 = .ok (.if_icmp .eq 9, 3) := by decide +kernel
theorem dX12_either_28 : decode cX12_either 28 = .ok (.iload_n 1, 1) := by decide +kernel
theorem dX12_either_29 : decode cX12_either 29 = .ok (.bipush 62, 2) := by decide +kernel
theorem dX12_either_31 : decode cX12_either 31 = .ok (.if_icmp .ne 23, 3) := by decide +kernel
theorem dX12_either_34 : decode cX12_either 34 = .ok (.aload_n 0, 1) := by decide +kernel
theorem dX12_either_35 : decode cX12_either 35 = .ok (.dup, 1) := by decide +kernel
