theorem dX7_whyCantBe_5 : decode cX7_whyCantBe 5 = .ok (.iload_n 2, 1) := by decide +kernel
theorem dX7_whyCantBe_6 : decode cX7_whyCantBe 6 = .ok (.invokevirtual 70, 3) := by decide +kernel
theorem dX7_whyCantBe_9 : decode cX7_whyCantBe 9 = .ok (.ifCond .eq 5, 3) := by decide +kernel
theorem dX7_whyCantBe_12 : decode cX7_whyCantBe 12 = .ok (.iconst 1, 1) := by decide +kernel
theorem dX7_whyCantBe_13 : decode cX7_whyCantBe 13 = .ok (.ireturn, 1) := by decide +kernel
theorem dX7_whyCantBe_14 : decode cX7_whyCantBe 14 = .ok (.aload_n 0, 1) := by decide +kernel
theorem dX7_whyCantBe_15 : decode cX7_whyCantBe 15 = .ok (.iload_n 1, 1) := by decide +kernel
theorem dX7_whyCantBe_16 : decode cX7_whyCantBe 16 = .ok (.invokevirtual 74, 3) := by decide +kernel
theorem dX7_whyCantBe_19 : decode cX7_whyCantBe 19 = .ok (.ifCond .eq 5, 3) := by decide +kernel
theorem dX7_whyCantBe_22 : decode cX7_whyCantBe 22 = .ok (.iconst 2, 1) := by decide +kernel
theorem dX7_whyCantBe_23 : decode cX7_whyCantBe 23 = .ok (.ireturn, 1) := by decide +kernel
theorem dX7_whyCantBe_24 : decode cX7_whyCantBe 24 = .ok (.aload_n 0, 1) := by decide +kernel
theorem dX7_whyCantBe_25 : decode cX7_whyCantBe 25 = .ok (.iload_n 1, 1) := by decide +kernel
theorem dX7_whyCantBe_26 : decode cX7_whyCantBe 26 = .ok (.invokevirtual 77, 3) := by decide +kernel
theorem dX7_whyCantBe_29 : decode cX7_whyCantBe 29 = .ok (.ifCond .eq 7, 3) := by decide +kernel
theorem dX7_whyCantBe_32 : decode cX7_whyCantBe 32 = .ok (.iconst 3, 1) := by decide +kernel
theorem dX7_whyCantBe_33 : decode cX7_whyCantBe 33 = .ok (.goto 4, 3) := by decide +kernel
theorem dX7_whyCantBe_36 : decode cX7_whyCantBe 36 = .ok (.iconst 0, 1) := by decide +kernel
theorem dX7_whyCantBe_37 : decode cX7_whyCantBe 37 = .ok (.ireturn, 1) := by decide +kernel
theorem dX7_growsLess_0 : decode cX7_growsLess 0 = .ok (.iconst (-1), 1) := by decide +kernel
theorem dX7_growsLess_1 : decode cX7_growsLess 1 = .ok (.istore_n 2, 1) := by decide +kernel
theorem dX7_growsLess_2 : decode cX7_growsLess 2 = .ok (.aload_n 0, 1) := by decide +kernel
theorem dX7_growsLess_3 : decode cX7_growsLess 3 = .ok (.getfield 27, 3) := by decide +kernel
theorem dX7_growsLess_6 : decode cX7_growsLess 6 = .ok (.getfield 35, 3) := by decide +kernel
theorem dX7_growsLess_9 : decode cX7_growsLess 9 = .ok (.iload_n 1, 1) := by decide +kernel
theorem dX7_growsLess_10 : decode cX7_growsLess 10 = .ok (.iaload, 1) := by decide +kernel
theorem dX7_growsLess_11 : decode cX7_growsLess 11 = .ok (.istore_n 3, 1) := by decide +kernel
theorem dX7_growsLess_12 : decode cX7_growsLess 12 = .ok (.iconst 0, 1) := by decide +kernel
theorem dX7_growsLess_13 : decode cX7_growsLess 13 = .ok (.istore 4, 2) := by decide +kernel
theorem dX7_growsLess_15 : decode cX7_growsLess 15 = .ok (.iload 4, 2) := by decide +kernel
theorem dX7_growsLess_17 : decode cX7_growsLess 17 = .ok (.sipush 500, 3) := by decide +kernel
theorem dX7_growsLess_20 : decode cX7_growsLess 20 = .ok (.if_icmp .ge 72, 3) := by decide +kernel
theorem dX7_growsLess_23 : decode cX7_growsLess 23 = .ok (.iload_n 3, 1) := by decide +kernel
theorem dX7_growsLess_24 : decode cX7_growsLess 24 = .ok (.iconst (-1), 1) := by decide +kernel
theorem dX7_growsLess_25 : decode cX7_growsLess 25 = .ok (.if_icmp .eq 67, 3) := by decide +kernel
theorem dX7_growsLess_28 : decode cX7_growsLess 28 = .ok (.aload_n 0, 1) := by decide +kernel
theorem dX7_growsLess_29 : decode cX7_growsLess 29 = .ok (.getfield 27, 3) := by decide +kernel
theorem dX7_growsLess_32 : decode cX7_growsLess 32 = .ok (.getfield 67, 3) := by decide +kernel
theorem dX7_growsLess_35 : decode cX7_growsLess 35 = .ok (.iload_n 3, 1) := by decide +kernel
theorem dX7_growsLess_36 : decode cX7_growsLess 36 = .ok (.iaload, 1) := by decide +kernel
theorem dX7_growsLess_37 : decode cX7_growsLess 37 = .ok (.bipush 10, 2) := by decide +kernel
theorem dX7_growsLess_39 : decode cX7_growsLess 39 = .ok (.if_icmp .ne 8, 3) := by decide +kernel
theorem dX7_growsLess_42 : decode cX7_growsLess 42 = .ok (.iconst (-1), 1) := by decide +kernel
theorem dX7_growsLess_43 : decode cX7_growsLess 43 = .ok (.istore_n 2, 1) := by decide +kernel
theorem dX7_growsLess_44 : decode cX7_growsLess 44 = .ok (.goto 32, 3) := by decide +kernel
theorem dX7_growsLess_47 : decode cX7_growsLess 47 = .ok (.aload_n 0, 1) := by decide +kernel
theorem dX7_growsLess_48 : decode cX7_growsLess 48 = .ok (.iload_n 1, 1) := by decide +kernel
theorem dX7_growsLess_49 : decode cX7_growsLess 49 = .ok (.iload_n 3, 1) := by decide +kernel
theorem dX7_growsLess_50 : decode cX7_growsLess 50 = .ok (.iload_n 3, 1) := by decide +kernel
theorem dX7_growsLess_51 : decode cX7_growsLess 51 = .ok (.invokevirtual 80, 3) := by decide +kernel
theorem dX7_growsLess_54 : decode cX7_growsLess 54 = .ok (.ifCond .ne 18, 3) := by decide +kernel
theorem dX7_growsLess_57 : decode cX7_growsLess 57 = .ok (.iload_n 2, 1) := by decide +kernel
theorem dX7_growsLess_58 : decode cX7_growsLess 58 = .ok (.iconst (-1), 1) := by decide +kernel
theorem dX7_growsLess_59 : decode cX7_growsLess 59 = .ok (.if_icmp .eq 15, 3) := by decide +kernel
theorem dX7_growsLess_62 : decode cX7_growsLess 62 = .ok (.aload_n 0, 1) := by decide +kernel
theorem dX7_growsLess_63 : decode cX7_growsLess 63 = .ok (.iload_n 1, 1) := by decide +kernel
theorem dX7_growsLess_64 : decode cX7_growsLess 64 = .ok (.iload_n 2, 1) := by decide +kernel
theorem dX7_growsLess_65 : decode cX7_growsLess 65 = .ok (.iload_n 3, 1) := by decide +kernel
theorem dX7_growsLess_66 : decode cX7_growsLess 66 = .ok (.invokevirtual 80, 3) := by decide +kernel
theorem dX7_growsLess_69 : decode cX7_growsLess 69 = .ok (.ifCond .eq 5, 3) := by decide +kernel
theorem dX7_growsLess_72 : decode cX7_growsLess 72 = .ok (.iconst 1, 1) := by decide +kernel
theorem dX7_growsLess_73 : decode cX7_growsLess 73 = .ok (.ireturn, 1) := by decide +kernel
theorem dX7_growsLess_74 : decode cX7_growsLess 74 = .ok (.iload_n 3, 1) := by decide +kernel
theorem dX7_growsLess_75 : decode cX7_growsLess 75 = .ok (.istore_n 2, 1) := by decide +kernel
theorem dX7_growsLess_76 : decode cX7_growsLess 76 = .ok (.aload_n 0, 1) := by decide +kernel
theorem dX7_growsLess_77 : decode cX7_growsLess 77 = .ok (.getfield 27, 3) := by decide +kernel
theorem dX7_growsLess_80 : decode cX7_growsLess 80 = .ok (.getfield 84, 3) := by decide +kernel
theorem dX7_growsLess_83 : decode cX7_growsLess 83 = .ok (.iload_n 3, 1) := by decide +kernel
theorem dX7_growsLess_84 : decode cX7_growsLess 84 = .ok (.iaload, 1) := by decide +kernel
theorem dX7_growsLess_85 : decode cX7_growsLess 85 = .ok (.istore_n 3, 1) := by decide +kernel
theorem dX7_growsLess_86 : decode cX7_growsLess 86 = .ok (.iinc 4 1, 3) := by decide +kernel
theorem dX7_growsLess_89 : decode cX7_growsLess 89 = .ok (.goto (-74), 3) := by decide +kernel
theorem dX7_growsLess_92 : decode cX7_growsLess 92 = .ok (.iconst 0, 1) := by decide +kernel
theorem dX7_growsLess_93 : decode cX7_growsLess 93 = .ok (.ireturn, 1) := by decide +kernel
theorem dX7_isLess_0 : decode cX7_isLess 0 = .ok (.iconst 0, 1) := by decide +kernel
theorem dX7_isLess_1 : decode cX7_isLess 1 = .ok (.istore 4, 2) := by decide +kernel
theorem dX7_isLess_3 : decode cX7_isLess 3 = .ok (.iload 4, 2) := by decide +kernel
theorem dX7_isLess_5 : decode cX7_isLess 5 = .ok (.iconst 1, 1) := by decide +kernel
theorem dX7_isLess_6 : decode cX7_isLess 6 = .ok (.if_icmp .gt 55, 3) := by decide +kernel
theorem dX7_isLess_9 : decode cX7_isLess 9 = .ok (.aload_n 0, 1) := by decide +kernel
theorem dX7_isLess_10 : decode cX7_isLess 10 = .ok (.iload_n 1, 1) := by decide +kernel
theorem dX7_isLess_11 : decode cX7_isLess 11 = .ok (.iload_n 2, 1) := by decide +kernel
theorem dX7_isLess_12 : decode cX7_isLess 12 = .ok (.iload 4, 2) := by decide +kernel
theorem dX7_isLess_14 : decode cX7_isLess 14 = .ok (.invokevirtual 87, 3) := by decide +kernel
theorem dX7_isLess_17 : decode cX7_isLess 17 = .ok (.istore 5, 2) := by decide +kernel
theorem dX7_isLess_19 : decode cX7_isLess 19 = .ok (.aload_n 0, 1) := by decide +kernel
theorem dX7_isLess_20 : decode cX7_isLess 20 = .ok (.getfield 27, 3) := by decide +kernel
theorem dX7_isLess_23 : decode cX7_isLess 23 = .ok (.iload_n 3, 1) := by decide +kernel
theorem dX7_isLess_24 : decode cX7_isLess 24 = .ok (.iload 4, 2) := by decide +kernel
theorem dX7_isLess_26 : decode cX7_isLess 26 = .ok (.invokevirtual 90, 3) := by decide +kernel
theorem dX7_isLess_29 : decode cX7_isLess 29 = .ok (.istore 6, 2) := by decide +kernel
theorem dX7_isLess_31 : decode cX7_isLess 31 = .ok (.iload_n 2, 1) := by decide +kernel
theorem dX7_isLess_32 : decode cX7_isLess 32 = .ok (.iload_n 3, 1) := by decide +kernel
theorem dX7_isLess_33 : decode cX7_isLess 33 = .ok (.if_icmp .ne 13, 3) := by decide +kernel
theorem dX7_isLess_36 : decode cX7_isLess 36 = .ok (.iload 5, 2) := by decide +kernel
theorem dX7_isLess_38 : decode cX7_isLess 38 = .ok (.iload 6, 2) := by decide +kernel
theorem dX7_isLess_40 : decode cX7_isLess 40 = .ok (.if_icmp .ge 15, 3) := by decide +kernel
theorem dX7_isLess_43 : decode cX7_isLess 43 = .ok (.goto 10, 3) := by decide +kernel
theorem dX7_isLess_46 : decode cX7_isLess 46 = .ok (.iload 6, 2) := by decide +kernel
theorem dX7_isLess_48 : decode cX7_isLess 48 = .ok (.iload 5, 2) := by decide +kernel
theorem dX7_isLess_50 : decode cX7_isLess 50 = .ok (.if_icmp .ge 5, 3) := by decide +kernel
theorem dX7_isLess_53 : decode cX7_isLess 53 = .ok (.iconst 1, 1) := by decide +kernel
theorem dX7_isLess_54 : decode cX7_isLess 54 = .ok (.ireturn, 1) := by decide +kernel
theorem dX7_isLess_55 : decode cX7_isLess 55 = .ok (.iinc 4 1, 3) := by decide +kernel
theorem dX7_isLess_58 : decode cX7_isLess 58 = .ok (.goto (-55), 3) := by decide +kernel
theorem dX7_isLess_61 : decode cX7_isLess 61 = .ok (.iconst 0, 1) := by decide +kernel
theorem dX7_isLess_62 : decode cX7_isLess 62 = .ok (.ireturn, 1) := by decide +kernel
theorem dX7_hasTwin_0 : decode cX7_hasTwin 0 = .ok (.iconst 0, 1) := by decide +kernel
theorem dX7_hasTwin_1 : decode cX7_hasTwin 1 = .ok (.istore_n 2, 1) := by decide +kernel
theorem dX7_hasTwin_2 : decode cX7_hasTwin 2 = .ok (.iload_n 2, 1) := by decide +kernel
theorem dX7_hasTwin_3 : decode cX7_hasTwin 3 = .ok (.aload_n 0, 1) := by decide +kernel
theorem dX7_hasTwin_4 : decode cX7_hasTwin 4 = .ok (.getfield 31, 3) := by decide +kernel
theorem dX7_hasTwin_7 : decode cX7_hasTwin 7 = .ok (.if_icmp .ge 57, 3) := by decide +kernel
theorem dX7_hasTwin_10 : decode cX7_hasTwin 10 = .ok (.iload_n 2, 1) := by decide +kernel
theorem dX7_hasTwin_11 : decode cX7_hasTwin 11 = .ok (.iload_n 1, 1) := by decide +kernel
theorem dX7_hasTwin_12 : decode cX7_hasTwin 12 = .ok (.if_icmp .eq 46, 3) := by decide +kernel
theorem dX7_hasTwin_15 : decode cX7_hasTwin 15 = .ok (.aload_n 0, 1) := by decide +kernel
theorem dX7_hasTwin_16 : decode cX7_hasTwin 16 = .ok (.getfield 18, 3) := by decide +kernel
theorem dX7_hasTwin_19 : decode cX7_hasTwin 19 = .ok (.iload_n 2, 1) := by decide +kernel
theorem dX7_hasTwin_20 : decode cX7_hasTwin 20 = .ok (.iaload, 1) := by decide +kernel
theorem dX7_hasTwin_21 : decode cX7_hasTwin 21 = .ok (.bipush 12, 2) := by decide +kernel
theorem dX7_hasTwin_23 : decode cX7_hasTwin 23 = .ok (.if_icmp .eq 35, 3) := by decide +kernel
theorem dX7_hasTwin_26 : decode cX7_hasTwin 26 = .ok (.aload_n 0, 1) := by decide +kernel
theorem dX7_hasTwin_27 : decode cX7_hasTwin 27 = .ok (.getfield 9, 3) := by decide +kernel
theorem dX7_hasTwin_30 : decode cX7_hasTwin 30 = .ok (.iload_n 2, 1) := by decide +kernel
theorem dX7_hasTwin_31 : decode cX7_hasTwin 31 = .ok (.iaload, 1) := by decide +kernel
theorem dX7_hasTwin_32 : decode cX7_hasTwin 32 = .ok (.aload_n 0, 1) := by decide +kernel
theorem dX7_hasTwin_33 : decode cX7_hasTwin 33 = .ok (.getfield 9, 3) := by decide +kernel
theorem dX7_hasTwin_36 : decode cX7_hasTwin 36 = .ok (.iload_n 1, 1) := by decide +kernel
theorem dX7_hasTwin_37 : decode cX7_hasTwin 37 = .ok (.iaload, 1) := by decide +kernel
theorem dX7_hasTwin_38 : decode cX7_hasTwin 38 = .ok (.if_icmp .ne 20, 3) := by decide +kernel
theorem dX7_hasTwin_41 : decode cX7_hasTwin 41 = .ok (.aload_n 0, 1) := by decide +kernel
theorem dX7_hasTwin_42 : decode cX7_hasTwin 42 = .ok (.getfield 15, 3) := by decide +kernel
theorem dX7_hasTwin_45 : decode cX7_hasTwin 45 = .ok (.iload_n 2, 1) := by decide +kernel
theorem dX7_hasTwin_46 : decode cX7_hasTwin 46 = .ok (.iaload, 1) := by decide +kernel
theorem dX7_hasTwin_47 : decode cX7_hasTwin 47 = .ok (.aload_n 0, 1) := by decide +kernel
theorem dX7_hasTwin_48 : decode cX7_hasTwin 48 = .ok (.getfield 15, 3) := by decide +kernel
theorem dX7_hasTwin_51 : decode cX7_hasTwin 51 = .ok (.iload_n 1, 1) := by decide +kernel
theorem dX7_hasTwin_52 : decode cX7_hasTwin 52 = .ok (.iaload, 1) := by decide +kernel
theorem dX7_hasTwin_53 : decode cX7_hasTwin 53 = .ok (.if_icmp .ne 5, 3) := by decide +kernel
theorem dX7_hasTwin_56 : decode cX7_hasTwin 56 = .ok (.iconst 1, 1) := by decide +kernel
theorem dX7_hasTwin_57 : decode cX7_hasTwin 57 = .ok (.ireturn, 1) := by decide +kernel
theorem dX7_hasTwin_58 : decode cX7_hasTwin 58 = .ok (.iinc 2 1, 3) := by decide +kernel
theorem dX7_hasTwin_61 : decode cX7_hasTwin 61 = .ok (.goto (-59), 3) := by decide +kernel
theorem dX7_hasTwin_64 : decode cX7_hasTwin 64 = .ok (.iconst 0, 1) := by decide +kernel
theorem dX7_hasTwin_65 : decode cX7_hasTwin 65 = .ok (.ireturn, 1) := by decide +kernel
theorem dX8_init_0 : decode cX8_init 0 = .ok (.aload_n 0, 1) := by decide +kernel
theorem dX8_init_1 : decode cX8_init 1 = .ok (.invokespecial 3, 3) := by decide +kernel
theorem dX8_init_4 : decode cX8_init 4 = .ok (.aload_n 0, 1) := by decide +kernel
theorem dX8_init_5 : decode cX8_init 5 = .ok (.bipush 10, 2) := by decide +kernel
theorem dX8_init_7 : decode cX8_init 7 = .ok (.newarray .int, 2) := by decide +kernel
theorem dX8_init_9 : decode cX8_init 9 = .ok (.putfield 9, 3) := by decide +kernel
theorem dX8_init_12 : decode cX8_init 12 = .ok (.aload_n 0, 1) := by decide +kernel
theorem dX8_init_13 : decode cX8_init 13 = .ok (.bipush 10, 2) := by decide +kernel
theorem dX8_init_15 : decode cX8_init 15 = .ok (.newarray .int, 2) := by decide +kernel
theorem dX8_init_17 : decode cX8_init 17 = .ok (.putfield 15, 3) := by decide +kernel
theorem dX8_init_20 : decode cX8_init 20 = .ok (.aload_n 0, 1) := by decide +kernel
theorem dX8_init_21 : decode cX8_init 21 = .ok (.bipush 10, 2) := by decide +kernel
theorem dX8_init_23 : decode cX8_init 23 = .ok (.newarray .int, 2) := by decide +kernel
theorem dX8_init_25 : decode cX8_init 25 = .ok (.putfield 18, 3) := by decide +kernel
theorem dX8_init_28 : decode cX8_init 28 = .ok (.aload_n 0, 1) := by decide +kernel
theorem dX8_init_29 : decode cX8_init 29 = .ok (.bipush 10, 2) := by decide +kernel
theorem dX8_init_31 : decode cX8_init 31 = .ok (.newarray .int, 2) := by decide +kernel
theorem dX8_init_33 : decode cX8_init 33 = .ok (.putfield 21, 3) := by decide +kernel
theorem dX8_init_36 : decode cX8_init 36 = .ok (.aload_n 0, 1) := by decide +kernel
theorem dX8_init_37 : decode cX8_init 37 = .ok (.bipush 10, 2) := by decide +kernel
theorem dX8_init_39 : decode cX8_init 39 = .ok (.newarray .int, 2) := by decide +kernel
theorem dX8_init_41 : decode cX8_init 41 = .ok (.putfield 24, 3) := by decide +kernel
theorem dX8_init_44 : decode cX8_init 44 = .ok (.aload_n 0, 1) := by decide +kernel
theorem dX8_init_45 : decode cX8_init 45 = .ok (.bipush 10, 2) := by decide +kernel
theorem dX8_init_47 : decode cX8_init 47 = .ok (.newarray .int, 2) := by decide +kernel
theorem dX8_init_49 : decode cX8_init 49 = .ok (.putfield 27, 3) := by decide +kernel
theorem dX8_init_52 : decode cX8_init 52 = .ok (.aload_n 0, 1) := by decide +kernel
theorem dX8_init_53 : decode cX8_init 53 = .ok (.bipush 40, 2) := by decide +kernel
theorem dX8_init_55 : decode cX8_init 55 = .ok (.newarray .int, 2) := by decide +kernel
theorem dX8_init_57 : decode cX8_init 57 = .ok (.putfield 30, 3) := by decide +kernel
theorem dX8_init_60 : decode cX8_init 60 = .ok (.aload_n 0, 1) := by decide +kernel
theorem dX8_init_61 : decode cX8_init 61 = .ok (.bipush 100, 2) := by decide +kernel
theorem dX8_init_63 : decode cX8_init 63 = .ok (.newarray .int, 2) := by decide +kernel
theorem dX8_init_65 : decode cX8_init 65 = .ok (.putfield 33, 3) := by decide +kernel
theorem dX8_init_68 : decode cX8_init 68 = .ok (.aload_n 0, 1) := by decide +kernel
theorem dX8_init_69 : decode cX8_init 69 = .ok (.bipush 100, 2) := by decide +kernel
theorem dX8_init_71 : decode cX8_init 71 = .ok (.newarray .int, 2) := by decide +kernel
theorem dX8_init_73 : decode cX8_init 73 = .ok (.putfield 36, 3) := by decide +kernel
theorem dX8_init_76 : decode cX8_init 76 = .ok (.return_, 1) := by decide +kernel
theorem dX8_has_0 : decode cX8_has 0 = .ok (.iload_n 1, 1) := by decide +kernel
theorem dX8_has_1 : decode cX8_has 1 = .ok (.ifCond .lt 15, 3) := by decide +kernel
theorem dX8_has_4 : decode cX8_has 4 = .ok (.iload_n 1, 1) := by decide +kernel
theorem dX8_has_5 : decode cX8_has 5 = .ok (.aload_n 0, 1) := by decide +kernel
theorem dX8_has_6 : decode cX8_has 6 = .ok (.getfield 39, 3) := by decide +kernel
theorem dX8_has_9 : decode cX8_has 9 = .ok (.if_icmp .ge 7, 3) := by decide +kernel
theorem dX8_has_12 : decode cX8_has 12 = .ok (.iconst 1, 1) := by decide +kernel
theorem dX8_has_13 : decode cX8_has 13 = .ok (.goto 4, 3) := by decide +kernel
theorem dX8_has_16 : decode cX8_has 16 = .ok (.iconst 0, 1) := by decide +kernel
theorem dX8_has_17 : decode cX8_has 17 = .ok (.ireturn, 1) := by decide +kernel
theorem dX8_add_0 : decode cX8_add 0 = .ok (.aload_n 0, 1) := by decide +kernel
theorem dX8_add_1 : decode cX8_add 1 = .ok (.getfield 39, 3) := by decide +kernel
theorem dX8_add_4 : decode cX8_add 4 = .ok (.bipush 10, 2) := by decide +kernel
theorem dX8_add_6 : decode cX8_add 6 = .ok (.if_icmp .lt 6, 3) := by decide +kernel
theorem dX8_add_9 : decode cX8_add 9 = .ok (.bipush (-3), 2) := by decide +kernel
theorem dX8_add_11 : decode cX8_add 11 = .ok (.ireturn, 1) := by decide +kernel
theorem dX8_add_12 : decode cX8_add 12 = .ok (.aload_n 0, 1) := by decide +kernel
theorem dX8_add_13 : decode cX8_add 13 = .ok (.getfield 9, 3) := by decide +kernel
theorem dX8_add_16 : decode cX8_add 16 = .ok (.aload_n 0, 1) := by decide +kernel
theorem dX8_add_17 : decode cX8_add 17 = .ok (.getfield 39, 3) := by decide +kernel
theorem dX8_add_20 : decode cX8_add 20 = .ok (.iload_n 1, 1) := by decide +kernel
theorem dX8_add_21 : decode cX8_add 21 = .ok (.iastore, 1) := by decide +kernel
theorem dX8_add_22 : decode cX8_add 22 = .ok (.aload_n 0, 1) := by decide +kernel
theorem dX8_add_23 : decode cX8_add 23 = .ok (.getfield 21, 3) := by decide +kernel
theorem dX8_add_26 : decode cX8_add 26 = .ok (.aload_n 0, 1) := by decide +kernel
theorem dX8_add_27 : decode cX8_add 27 = .ok (.getfield 39, 3) := by decide +kernel
theorem dX8_add_30 : decode cX8_add 30 = .ok (.iconst (-1), 1) := by decide +kernel
theorem dX8_add_31 : decode cX8_add 31 = .ok (.iastore, 1) := by decide +kernel
theorem dX8_add_32 : decode cX8_add 32 = .ok (.aload_n 0, 1) := by decide +kernel
theorem dX8_add_33 : decode cX8_add 33 = .ok (.getfield 24, 3) := by decide +kernel
theorem dX8_add_36 : decode cX8_add 36 = .ok (.aload_n 0, 1) := by decide +kernel
theorem dX8_add_37 : decode cX8_add 37 = .ok (.getfield 39, 3) := by decide +kernel
theorem dX8_add_40 : decode cX8_add 40 = .ok (.iconst (-1), 1) := by decide +kernel
theorem dX8_add_41 : decode cX8_add 41 = .ok (.iastore, 1) := by decide +kernel
theorem dX8_add_42 : decode cX8_add 42 = .ok (.aload_n 0, 1) := by decide +kernel
theorem dX8_add_43 : decode cX8_add 43 = .ok (.dup, 1) := by decide +kernel
theorem dX8_add_44 : decode cX8_add 44 = .ok (.getfield 39, 3) := by decide +kernel
theorem dX8_add_47 : decode cX8_add 47 = .ok (.dup_x1, 1) := by decide +kernel
theorem dX8_add_48 : decode cX8_add 48 = .ok (.iconst 1, 1) := by decide +kernel
theorem dX8_add_49 : decode cX8_add 49 = .ok (.iadd, 1) := by decide +kernel
theorem dX8_add_50 : decode cX8_add 50 = .ok (.putfield 39, 3) := by decide +kernel
theorem dX8_add_53 : decode cX8_add 53 = .ok (.ireturn, 1) := by decide +kernel
theorem dX8_isBack_0 : decode cX8_isBack 0 = .ok (.aload_n 0, 1) := by decide +kernel
theorem dX8_isBack_1 : decode cX8_isBack 1 = .ok (.getfield 24, 3) := by decide +kernel
theorem dX8_isBack_4 : decode cX8_isBack 4 = .ok (.iload_n 1, 1) := by decide +kernel
theorem dX8_isBack_5 : decode cX8_isBack 5 = .ok (.iaload, 1) := by decide +kernel
theorem dX8_isBack_6 : decode cX8_isBack 6 = .ok (.ifCond .lt 7, 3) := by decide +kernel
theorem dX8_isBack_9 : decode cX8_isBack 9 = .ok (.iconst 1, 1) := by decide +kernel
theorem dX8_isBack_10 : decode cX8_isBack 10 = .ok (.goto 4, 3) := by decide +kernel
theorem dX8_isBack_13 : decode cX8_isBack 13 = .ok (.iconst 0, 1) := by decide +kernel
theorem dX8_isBack_14 : decode cX8_isBack 14 = .ok (.ireturn, 1) := by decide +kernel
theorem dX8_close_0 : decode cX8_close 0 = .ok (.aload_n 0, 1) := by decide +kernel
theorem dX8_close_1 : decode cX8_close 1 = .ok (.getfield 21, 3) := by decide +kernel
theorem dX8_close_4 : decode cX8_close 4 = .ok (.iload_n 1, 1) := by decide +kernel
theorem dX8_close_5 : decode cX8_close 5 = .ok (.iload_n 2, 1) := by decide +kernel
theorem dX8_close_6 : decode cX8_close 6 = .ok (.iastore, 1) := by decide +kernel
theorem dX8_close_7 : decode cX8_close 7 = .ok (.aload_n 0, 1) := by decide +kernel
theorem dX8_close_8 : decode cX8_close 8 = .ok (.getfield 24, 3) := by decide +kernel
theorem dX8_close_11 : decode cX8_close 11 = .ok (.iload_n 1, 1) := by decide +kernel
theorem dX8_close_12 : decode cX8_close 12 = .ok (.iload_n 3, 1) := by decide +kernel
theorem dX8_close_13 : decode cX8_close 13 = .ok (.iastore, 1) := by decide +kernel
theorem dX8_close_14 : decode cX8_close 14 = .ok (.return_, 1) := by decide +kernel
theorem dX8_backs_0 : decode cX8_backs 0 = .ok (.iconst 0, 1) := by decide +kernel
theorem dX8_backs_1 : decode cX8_backs 1 = .ok (.istore_n 1, 1) := by decide +kernel
theorem dX8_backs_2 : decode cX8_backs 2 = .ok (.iconst 0, 1) := by decide +kernel
theorem dX8_backs_3 : decode cX8_backs 3 = .ok (.istore_n 2, 1) := by decide +kernel
theorem dX8_backs_4 : decode cX8_backs 4 = .ok (.iload_n 2, 1) := by decide +kernel
theorem dX8_backs_5 : decode cX8_backs 5 = .ok (.aload_n 0, 1) := by decide +kernel
theorem dX8_backs_6 : decode cX8_backs 6 = .ok (.getfield 39, 3) := by decide +kernel
theorem dX8_backs_9 : decode cX8_backs 9 = .ok (.if_icmp .ge 25, 3) := by decide +kernel
theorem dX8_backs_12 : decode cX8_backs 12 = .ok (.iload_n 1, 1) := by decide +kernel
theorem dX8_backs_13 : decode cX8_backs 13 = .ok (.aload_n 0, 1) := by decide +kernel
theorem dX8_backs_14 : decode cX8_backs 14 = .ok (.iload_n 2, 1) := by decide +kernel
theorem dX8_backs_15 : decode cX8_backs 15 = .ok (.invokevirtual 43, 3) := by decide +kernel
theorem dX8_backs_18 : decode cX8_backs 18 = .ok (.ifCond .eq 7, 3) := by decide +kernel
theorem dX8_backs_21 : decode cX8_backs 21 = .ok (.iconst 1, 1) := by decide +kernel
theorem dX8_backs_22 : decode cX8_backs 22 = .ok (.goto 4, 3) := by decide +kernel
theorem dX8_backs_25 : decode cX8_backs 25 = .ok (.iconst 0, 1) := by decide +kernel
theorem dX8_backs_26 : decode cX8_backs 26 = .ok (.iadd, 1) := by decide +kernel
theorem dX8_backs_27 : decode cX8_backs 27 = .ok (.istore_n 1, 1) := by decide +kernel
theorem dX8_backs_28 : decode cX8_backs 28 = .ok (.iinc 2 1, 3) := by decide +kernel
theorem dX8_backs_31 : decode cX8_backs 31 = .ok (.goto (-27), 3) := by decide +kernel
theorem dX8_backs_34 : decode cX8_backs 34 = .ok (.iload_n 1, 1) := by decide +kernel
theorem dX8_backs_35 : decode cX8_backs 35 = .ok (.ireturn, 1) := by decide +kernel
theorem dX8_needOf_0 : decode cX8_needOf 0 = .ok (.aload_n 0, 1) := by decide +kernel
theorem dX8_needOf_1 : decode cX8_needOf 1 = .ok (.getfield 33, 3) := by decide +kernel
theorem dX8_needOf_4 : decode cX8_needOf 4 = .ok (.iload_n 1, 1) := by decide +kernel
theorem dX8_needOf_5 : decode cX8_needOf 5 = .ok (.bipush 10, 2) := by decide +kernel
theorem dX8_needOf_7 : decode cX8_needOf 7 = .ok (.imul, 1) := by decide +kernel
theorem dX8_needOf_8 : decode cX8_needOf 8 = .ok (.iload_n 2, 1) := by decide +kernel
theorem dX8_needOf_9 : decode cX8_needOf 9 = .ok (.iadd, 1) := by decide +kernel
theorem dX8_needOf_10 : decode cX8_needOf 10 = .ok (.iaload, 1) := by decide +kernel
theorem dX8_needOf_11 : decode cX8_needOf 11 = .ok (.ireturn, 1) := by decide +kernel
theorem dX8_changeNeed_0 : decode cX8_changeNeed 0 = .ok (.aload_n 0, 1) := by decide +kernel
theorem dX8_changeNeed_1 : decode cX8_changeNeed 1 = .ok (.iload_n 1, 1) := by decide +kernel
theorem dX8_changeNeed_2 : decode cX8_changeNeed 2 = .ok (.iload_n 2, 1) := by decide +kernel
theorem dX8_changeNeed_3 : decode cX8_changeNeed 3 = .ok (.invokevirtual 47, 3) := by decide +kernel
theorem dX8_changeNeed_6 : decode cX8_changeNeed 6 = .ok (.istore 4, 2) := by decide +kernel
theorem dX8_changeNeed_8 : decode cX8_changeNeed 8 = .ok (.aload_n 0, 1) := by decide +kernel
theorem dX8_changeNeed_9 : decode cX8_changeNeed 9 = .ok (.getfield 33, 3) := by decide +kernel
theorem dX8_changeNeed_12 : decode cX8_changeNeed 12 = .ok (.iload_n 1, 1) := by decide +kernel
theorem dX8_changeNeed_13 : decode cX8_changeNeed 13 = .ok (.bipush 10, 2) := by decide +kernel
theorem dX8_changeNeed_15 : decode cX8_changeNeed 15 = .ok (.imul, 1) := by decide +kernel
theorem dX8_changeNeed_16 : decode cX8_changeNeed 16 = .ok (.iload_n 2, 1) := by decide +kernel
theorem dX8_changeNeed_17 : decode cX8_changeNeed 17 = .ok (.iadd, 1) := by decide +kernel
theorem dX8_changeNeed_18 : decode cX8_changeNeed 18 = .ok (.iload_n 3, 1) := by decide +kernel
theorem dX8_changeNeed_19 : decode cX8_changeNeed 19 = .ok (.iastore, 1) := by decide +kernel
theorem dX8_changeNeed_20 : decode cX8_changeNeed 20 = .ok (.iload 4, 2) := by decide +kernel
theorem dX8_changeNeed_22 : decode cX8_changeNeed 22 = .ok (.ireturn, 1) := by decide +kernel
theorem dX8_needOfAll_0 : decode cX8_needOfAll 0 = .ok (.iconst 0, 1) := by decide +kernel
theorem dX8_needOfAll_1 : decode cX8_needOfAll 1 = .ok (.istore_n 2, 1) := by decide +kernel
theorem dX8_needOfAll_2 : decode cX8_needOfAll 2 = .ok (.iconst 0, 1) := by decide +kernel
theorem dX8_needOfAll_3 : decode cX8_needOfAll 3 = .ok (.istore_n 3, 1) := by decide +kernel
theorem dX8_needOfAll_4 : decode cX8_needOfAll 4 = .ok (.iload_n 3, 1) := by decide +kernel
theorem dX8_needOfAll_5 : decode cX8_needOfAll 5 = .ok (.bipush 10, 2) := by decide +kernel
theorem dX8_needOfAll_7 : decode cX8_needOfAll 7 = .ok (.if_icmp .ge 18, 3) := by decide +kernel
theorem dX8_needOfAll_10 : decode cX8_needOfAll 10 = .ok (.iload_n 2, 1) := by decide +kernel
theorem dX8_needOfAll_11 : decode cX8_needOfAll 11 = .ok (.aload_n 0, 1) := by decide +kernel
theorem dX8_needOfAll_12 : decode cX8_needOfAll 12 = .ok (.iload_n 1, 1) := by decide +kernel
theorem dX8_needOfAll_13 : decode cX8_needOfAll 13 = .ok (.iload_n 3, 1) := by decide +kernel
theorem dX8_needOfAll_14 : decode cX8_needOfAll 14 = .ok (.invokevirtual 47, 3) := by decide +kernel
theorem dX8_needOfAll_17 : decode cX8_needOfAll 17 = .ok (.iadd, 1) := by decide +kernel
theorem dX8_needOfAll_18 : decode cX8_needOfAll 18 = .ok (.istore_n 2, 1) := by decide +kernel
theorem dX8_needOfAll_19 : decode cX8_needOfAll 19 = .ok (.iinc 3 1, 3) := by decide +kernel
theorem dX8_needOfAll_22 : decode cX8_needOfAll 22 = .ok (.goto (-18), 3) := by decide +kernel
theorem dX8_needOfAll_25 : decode cX8_needOfAll 25 = .ok (.iload_n 2, 1) := by decide +kernel
theorem dX8_needOfAll_26 : decode cX8_needOfAll 26 = .ok (.ireturn, 1) := by decide +kernel
theorem dX8_canFly_0 : decode cX8_canFly 0 = .ok (.aload_n 0, 1) := by decide +kernel
theorem dX8_canFly_1 : decode cX8_canFly 1 = .ok (.getfield 15, 3) := by decide +kernel
theorem dX8_canFly_4 : decode cX8_canFly 4 = .ok (.iload_n 1, 1) := by decide +kernel
theorem dX8_canFly_5 : decode cX8_canFly 5 = .ok (.iaload, 1) := by decide +kernel
theorem dX8_canFly_6 : decode cX8_canFly 6 = .ok (.iload_n 2, 1) := by decide +kernel
theorem dX8_canFly_7 : decode cX8_canFly 7 = .ok (.iadd, 1) := by decide +kernel
theorem dX8_canFly_8 : decode cX8_canFly 8 = .ok (.ldc 51, 2) := by decide +kernel
theorem dX8_canFly_10 : decode cX8_canFly 10 = .ok (.if_icmp .gt 20, 3) := by decide +kernel
theorem dX8_canFly_13 : decode cX8_canFly 13 = .ok (.aload_n 0, 1) := by decide +kernel
theorem dX8_canFly_14 : decode cX8_canFly 14 = .ok (.getfield 18, 3) := by decide +kernel
theorem dX8_canFly_17 : decode cX8_canFly 17 = .ok (.iload_n 1, 1) := by decide +kernel
theorem dX8_canFly_18 : decode cX8_canFly 18 = .ok (.iaload, 1) := by decide +kernel
theorem dX8_canFly_19 : decode cX8_canFly 19 = .ok (.iload_n 3, 1) := by decide +kernel
theorem dX8_canFly_20 : decode cX8_canFly 20 = .ok (.iadd, 1) := by decide +kernel
theorem dX8_canFly_21 : decode cX8_canFly 21 = .ok (.ldc 51, 2) := by decide +kernel
theorem dX8_canFly_23 : decode cX8_canFly 23 = .ok (.if_icmp .gt 7, 3) := by decide +kernel
theorem dX8_canFly_26 : decode cX8_canFly 26 = .ok (.iconst 1, 1) := by decide +kernel
theorem dX8_canFly_27 : decode cX8_canFly 27 = .ok (.goto 4, 3) := by decide +kernel
theorem dX8_canFly_30 : decode cX8_canFly 30 = .ok (.iconst 0, 1) := by decide +kernel
theorem dX8_canFly_31 : decode cX8_canFly 31 = .ok (.ireturn, 1) := by decide +kernel
theorem dX8_wear_0 : decode cX8_wear 0 = .ok (.aload_n 0, 1) := by decide +kernel
theorem dX8_wear_1 : decode cX8_wear 1 = .ok (.getfield 15, 3) := by decide +kernel
theorem dX8_wear_4 : decode cX8_wear 4 = .ok (.iload_n 1, 1) := by decide +kernel
theorem dX8_wear_5 : decode cX8_wear 5 = .ok (.dup2, 1) := by decide +kernel
theorem dX8_wear_6 : decode cX8_wear 6 = .ok (.iaload, 1) := by decide +kernel
theorem dX8_wear_7 : decode cX8_wear 7 = .ok (.iload_n 2, 1) := by decide +kernel
theorem dX8_wear_8 : decode cX8_wear 8 = .ok (.iadd, 1) := by decide +kernel
theorem dX8_wear_9 : decode cX8_wear 9 = .ok (.iastore, 1) := by decide +kernel
theorem dX8_wear_10 : decode cX8_wear 10 = .ok (.aload_n 0, 1) := by decide +kernel
theorem dX8_wear_11 : decode cX8_wear 11 = .ok (.getfield 18, 3) := by decide +kernel
theorem dX8_wear_14 : decode cX8_wear 14 = .ok (.iload_n 1, 1) := by decide +kernel
theorem dX8_wear_15 : decode cX8_wear 15 = .ok (.dup2, 1) := by decide +kernel
theorem dX8_wear_16 : decode cX8_wear 16 = .ok (.iaload, 1) := by decide +kernel
theorem dX8_wear_17 : decode cX8_wear 17 = .ok (.iload_n 3, 1) := by decide +kernel
theorem dX8_wear_18 : decode cX8_wear 18 = .ok (.iadd, 1) := by decide +kernel
theorem dX8_wear_19 : decode cX8_wear 19 = .ok (.iastore, 1) := by decide +kernel
theorem dX8_wear_20 : decode cX8_wear 20 = .ok (.aload_n 0, 1) := by decide +kernel
theorem dX8_wear_21 : decode cX8_wear 21 = .ok (.getfield 15, 3) := by decide +kernel
theorem dX8_wear_24 : decode cX8_wear 24 = .ok (.iload_n 1, 1) := by decide +kernel
theorem dX8_wear_25 : decode cX8_wear 25 = .ok (.iaload, 1) := by decide +kernel
theorem dX8_wear_26 : decode cX8_wear 26 = .ok (.ireturn, 1) := by decide +kernel
theorem dX8_savedFor_0 : decode cX8_savedFor 0 = .ok (.aload_n 0, 1) := by decide +kernel
theorem dX8_savedFor_1 : decode cX8_savedFor 1 = .ok (.getfield 36, 3) := by decide +kernel
theorem dX8_savedFor_4 : decode cX8_savedFor 4 = .ok (.iload_n 1, 1) := by decide +kernel
theorem dX8_savedFor_5 : decode cX8_savedFor 5 = .ok (.bipush 10, 2) := by decide +kernel
theorem dX8_savedFor_7 : decode cX8_savedFor 7 = .ok (.imul, 1) := by decide +kernel
theorem dX8_savedFor_8 : decode cX8_savedFor 8 = .ok (.iload_n 2, 1) := by decide +kernel
theorem dX8_savedFor_9 : decode cX8_savedFor 9 = .ok (.iadd, 1) := by decide +kernel
theorem dX8_savedFor_10 : decode cX8_savedFor 10 = .ok (.iaload, 1) := by decide +kernel
theorem dX8_savedFor_11 : decode cX8_savedFor 11 = .ok (.ireturn, 1) := by decide +kernel
theorem dX8_save_0 : decode cX8_save 0 = .ok (.aload_n 0, 1) := by decide +kernel
theorem dX8_save_1 : decode cX8_save 1 = .ok (.getfield 36, 3) := by decide +kernel
theorem dX8_save_4 : decode cX8_save 4 = .ok (.iload_n 1, 1) := by decide +kernel
theorem dX8_save_5 : decode cX8_save 5 = .ok (.bipush 10, 2) := by decide +kernel
theorem dX8_save_7 : decode cX8_save 7 = .ok (.imul, 1) := by decide +kernel
theorem dX8_save_8 : decode cX8_save 8 = .ok (.iload_n 2, 1) := by decide +kernel
theorem dX8_save_9 : decode cX8_save 9 = .ok (.iadd, 1) := by decide +kernel
theorem dX8_save_10 : decode cX8_save 10 = .ok (.aload_n 0, 1) := by decide +kernel
theorem dX8_save_11 : decode cX8_save 11 = .ok (.iload_n 1, 1) := by decide +kernel
theorem dX8_save_12 : decode cX8_save 12 = .ok (.iload_n 2, 1) := by decide +kernel
theorem dX8_save_13 : decode cX8_save 13 = .ok (.invokevirtual 52, 3) := by decide +kernel
theorem dX8_save_16 : decode cX8_save 16 = .ok (.i2l, 1) := by decide +kernel
theorem dX8_save_17 : decode cX8_save 17 = .ok (.lload_n 3, 1) := by decide +kernel
theorem dX8_save_18 : decode cX8_save 18 = .ok (.ladd, 1) := by decide +kernel
theorem dX8_save_19 : decode cX8_save 19 = .ok (.invokestatic 55, 3) := by decide +kernel
theorem dX8_save_22 : decode cX8_save 22 = .ok (.iastore, 1) := by decide +kernel
theorem dX8_save_23 : decode cX8_save 23 = .ok (.return_, 1) := by decide +kernel
theorem dX8_payOut_0 : decode cX8_payOut 0 = .ok (.iload_n 3, 1) := by decide +kernel
theorem dX8_payOut_1 : decode cX8_payOut 1 = .ok (.aload_n 0, 1) := by decide +kernel
theorem dX8_payOut_2 : decode cX8_payOut 2 = .ok (.iload_n 1, 1) := by decide +kernel
theorem dX8_payOut_3 : decode cX8_payOut 3 = .ok (.iload_n 2, 1) := by decide +kernel
theorem dX8_payOut_4 : decode cX8_payOut 4 = .ok (.invokevirtual 52, 3) := by decide +kernel
theorem dX8_payOut_7 : decode cX8_payOut 7 = .ok (.invokestatic 59, 3) := by decide +kernel
theorem dX8_payOut_10 : decode cX8_payOut 10 = .ok (.istore 4, 2) := by decide +kernel
theorem dX8_payOut_12 : decode cX8_payOut 12 = .ok (.aload_n 0, 1) := by decide +kernel
theorem dX8_payOut_13 : decode cX8_payOut 13 = .ok (.getfield 36, 3) := by decide +kernel
theorem dX8_payOut_16 : decode cX8_payOut 16 = .ok (.iload_n 1, 1) := by decide +kernel
theorem dX8_payOut_17 : decode cX8_payOut 17 = .ok (.bipush 10, 2) := by decide +kernel
theorem dX8_payOut_19 : decode cX8_payOut 19 = .ok (.imul, 1) := by decide +kernel
theorem dX8_payOut_20 : decode cX8_payOut 20 = .ok (.iload_n 2, 1) := by decide +kernel
theorem dX8_payOut_21 : decode cX8_payOut 21 = .ok (.iadd, 1) := by decide +kernel
theorem dX8_payOut_22 : decode cX8_payOut 22 = .ok (.dup2, 1) := by decide +kernel
theorem dX8_payOut_23 : decode cX8_payOut 23 = .ok (.iaload, 1) := by decide +kernel
theorem dX8_payOut_24 : decode cX8_payOut 24 = .ok (.iload 4, 2) := by decide +kernel
theorem dX8_payOut_26 : decode cX8_payOut 26 = .ok (.isub, 1) := by decide +kernel
theorem dX8_payOut_27 : decode cX8_payOut 27 = .ok (.iastore, 1) := by decide +kernel
theorem dX8_payOut_28 : decode cX8_payOut 28 = .ok (.iload 4, 2) := by decide +kernel
theorem dX8_payOut_30 : decode cX8_payOut 30 = .ok (.ireturn, 1) := by decide +kernel
theorem dX8_addLink_0 : decode cX8_addLink 0 = .ok (.aload_n 0, 1) := by decide +kernel
theorem dX8_addLink_1 : decode cX8_addLink 1 = .ok (.getfield 27, 3) := by decide +kernel
theorem dX8_addLink_4 : decode cX8_addLink 4 = .ok (.iload_n 1, 1) := by decide +kernel
theorem dX8_addLink_5 : decode cX8_addLink 5 = .ok (.iaload, 1) := by decide +kernel
theorem dX8_addLink_6 : decode cX8_addLink 6 = .ok (.iconst 4, 1) := by decide +kernel
theorem dX8_addLink_7 : decode cX8_addLink 7 = .ok (.if_icmp .lt 6, 3) := by decide +kernel
theorem dX8_addLink_10 : decode cX8_addLink 10 = .ok (.bipush (-3), 2) := by decide +kernel
theorem dX8_addLink_12 : decode cX8_addLink 12 = .ok (.ireturn, 1) := by decide +kernel
theorem dX8_addLink_13 : decode cX8_addLink 13 = .ok (.aload_n 0, 1) := by decide +kernel
theorem dX8_addLink_14 : decode cX8_addLink 14 = .ok (.getfield 30, 3) := by decide +kernel
theorem dX8_addLink_17 : decode cX8_addLink 17 = .ok (.iload_n 1, 1) := by decide +kernel
theorem dX8_addLink_18 : decode cX8_addLink 18 = .ok (.iconst 4, 1) := by decide +kernel
theorem dX8_addLink_19 : decode cX8_addLink 19 = .ok (.imul, 1) := by decide +kernel
theorem dX8_addLink_20 : decode cX8_addLink 20 = .ok (.aload_n 0, 1) := by decide +kernel
theorem dX8_addLink_21 : decode cX8_addLink 21 = .ok (.getfield 27, 3) := by decide +kernel
theorem dX8_addLink_24 : decode cX8_addLink 24 = .ok (.iload_n 1, 1) := by decide +kernel
theorem dX8_addLink_25 : decode cX8_addLink 25 = .ok (.iaload, 1) := by decide +kernel
theorem dX8_addLink_26 : decode cX8_addLink 26 = .ok (.iadd, 1) := by decide +kernel
theorem dX8_addLink_27 : decode cX8_addLink 27 = .ok (.iload_n 2, 1) := by decide +kernel
theorem dX8_addLink_28 : decode cX8_addLink 28 = .ok (.iastore, 1) := by decide +kernel
theorem dX8_addLink_29 : decode cX8_addLink 29 = .ok (.aload_n 0, 1) := by decide +kernel
theorem dX8_addLink_30 : decode cX8_addLink 30 = .ok (.getfield 27, 3) := by decide +kernel
theorem dX8_addLink_33 : decode cX8_addLink 33 = .ok (.iload_n 1, 1) := by decide +kernel
theorem dX8_addLink_34 : decode cX8_addLink 34 = .ok (.dup2, 1) := by decide +kernel
theorem dX8_addLink_35 : decode cX8_addLink 35 = .ok (.iaload, 1) := by decide +kernel
theorem dX8_addLink_36 : decode cX8_addLink 36 = .ok (.iconst 1, 1) := by decide +kernel
theorem dX8_addLink_37 : decode cX8_addLink 37 = .ok (.iadd, 1) := by decide +kernel
theorem dX8_addLink_38 : decode cX8_addLink 38 = .ok (.iastore, 1) := by decide +kernel
theorem dX8_addLink_39 : decode cX8_addLink 39 = .ok (.aload_n 0, 1) := by decide +kernel
theorem dX8_addLink_40 : decode cX8_addLink 40 = .ok (.getfield 27, 3) := by decide +kernel
theorem dX8_addLink_43 : decode cX8_addLink 43 = .ok (.iload_n 1, 1) := by decide +kernel
theorem dX8_addLink_44 : decode cX8_addLink 44 = .ok (.iaload, 1) := by decide +kernel
theorem dX8_addLink_45 : decode cX8_addLink 45 = .ok (.ireturn, 1) := by decide +kernel
theorem dX8_linkRent_0 : decode cX8_linkRent 0 = .ok (.iload_n 2, 1) := by decide +kernel
theorem dX8_linkRent_1 : decode cX8_linkRent 1 = .ok (.ifCond .lt 26, 3) := by decide +kernel
theorem dX8_linkRent_4 : decode cX8_linkRent 4 = .ok (.iload_n 2, 1) := by decide +kernel
theorem dX8_linkRent_5 : decode cX8_linkRent 5 = .ok (.aload_n 0, 1) := by decide +kernel
theorem dX8_linkRent_6 : decode cX8_linkRent 6 = .ok (.getfield 27, 3) := by decide +kernel
theorem dX8_linkRent_9 : decode cX8_linkRent 9 = .ok (.iload_n 1, 1) := by decide +kernel
theorem dX8_linkRent_10 : decode cX8_linkRent 10 = .ok (.iaload, 1) := by decide +kernel
theorem dX8_linkRent_11 : decode cX8_linkRent 11 = .ok (.if_icmp .ge 16, 3) := by decide +kernel
theorem dX8_linkRent_14 : decode cX8_linkRent 14 = .ok (.aload_n 0, 1) := by decide +kernel
theorem dX8_linkRent_15 : decode cX8_linkRent 15 = .ok (.getfield 30, 3) := by decide +kernel
theorem dX8_linkRent_18 : decode cX8_linkRent 18 = .ok (.iload_n 1, 1) := by decide +kernel
theorem dX8_linkRent_19 : decode cX8_linkRent 19 = .ok (.iconst 4, 1) := by decide +kernel
theorem dX8_linkRent_20 : decode cX8_linkRent 20 = .ok (.imul, 1) := by decide +kernel
theorem dX8_linkRent_21 : decode cX8_linkRent 21 = .ok (.iload_n 2, 1) := by decide +kernel
theorem dX8_linkRent_22 : decode cX8_linkRent 22 = .ok (.iadd, 1) := by decide +kernel
theorem dX8_linkRent_23 : decode cX8_linkRent 23 = .ok (.iaload, 1) := by decide +kernel
theorem dX8_linkRent_24 : decode cX8_linkRent 24 = .ok (.goto 4, 3) := by decide +kernel
theorem dX8_linkRent_27 : decode cX8_linkRent 27 = .ok (.iconst 0, 1) := by decide +kernel
theorem dX8_linkRent_28 : decode cX8_linkRent 28 = .ok (.ireturn, 1) := by decide +kernel
theorem dX9_init_0 : decode cX9_init 0 = .ok (.aload_n 0, 1) := by decide +kernel
theorem dX9_init_1 : decode cX9_init 1 = .ok (.invokespecial 3, 3) := by decide +kernel
theorem dX9_init_4 : decode cX9_init 4 = .ok (.aload_n 0, 1) := by decide +kernel
theorem dX9_init_5 : decode cX9_init 5 = .ok (.sipush 500, 3) := by decide +kernel
theorem dX9_init_8 : decode cX9_init 8 = .ok (.newarray .int, 2) := by decide +kernel
theorem dX9_init_10 : decode cX9_init 10 = .ok (.putfield 9, 3) := by decide +kernel
theorem dX9_init_13 : decode cX9_init 13 = .ok (.aload_n 0, 1) := by decide +kernel
theorem dX9_init_14 : decode cX9_init 14 = .ok (.sipush 500, 3) := by decide +kernel
theorem dX9_init_17 : decode cX9_init 17 = .ok (.newarray .int, 2) := by decide +kernel
theorem dX9_init_19 : decode cX9_init 19 = .ok (.putfield 15, 3) := by decide +kernel
theorem dX9_init_22 : decode cX9_init 22 = .ok (.aload_n 0, 1) := by decide +kernel
theorem dX9_init_23 : decode cX9_init 23 = .ok (.sipush 500, 3) := by decide +kernel
theorem dX9_init_26 : decode cX9_init 26 = .ok (.newarray .int, 2) := by decide +kernel
theorem dX9_init_28 : decode cX9_init 28 = .ok (.putfield 18, 3) := by decide +kernel
theorem dX9_init_31 : decode cX9_init 31 = .ok (.aload_n 0, 1) := by decide +kernel
theorem dX9_init_32 : decode cX9_init 32 = .ok (.sipush 500, 3) := by decide +kernel
theorem dX9_init_35 : decode cX9_init 35 = .ok (.newarray .int, 2) := by decide +kernel
theorem dX9_init_37 : decode cX9_init 37 = .ok (.putfield 21, 3) := by decide +kernel
theorem dX9_init_40 : decode cX9_init 40 = .ok (.aload_n 0, 1) := by decide +kernel
theorem dX9_init_41 : decode cX9_init 41 = .ok (.sipush 500, 3) := by decide +kernel
theorem dX9_init_44 : decode cX9_init 44 = .ok (.newarray .int, 2) := by decide +kernel
theorem dX9_init_46 : decode cX9_init 46 = .ok (.putfield 24, 3) := by decide +kernel
theorem dX9_init_49 : decode cX9_init 49 = .ok (.aload_n 0, 1) := by decide +kernel
theorem dX9_init_50 : decode cX9_init 50 = .ok (.sipush 500, 3) := by decide +kernel
theorem dX9_init_53 : decode cX9_init 53 = .ok (.newarray .int, 2) := by decide +kernel
theorem dX9_init_55 : decode cX9_init 55 = .ok (.putfield 27, 3) := by decide +kernel
theorem dX9_init_58 : decode cX9_init 58 = .ok (.aload_n 0, 1) := by decide +kernel
theorem dX9_init_59 : decode cX9_init 59 = .ok (.sipush 500, 3) := by decide +kernel
theorem dX9_init_62 : decode cX9_init 62 = .ok (.newarray .int, 2) := by decide +kernel
theorem dX9_init_64 : decode cX9_init 64 = .ok (.putfield 30, 3) := by decide +kernel
theorem dX9_init_67 : decode cX9_init 67 = .ok (.aload_n 0, 1) := by decide +kernel
theorem dX9_init_68 : decode cX9_init 68 = .ok (.sipush 500, 3) := by decide +kernel
theorem dX9_init_71 : decode cX9_init 71 = .ok (.newarray .boolean, 2) := by decide +kernel
theorem dX9_init_73 : decode cX9_init 73 = .ok (.putfield 33, 3) := by decide +kernel
theorem dX9_init_76 : decode cX9_init 76 = .ok (.aload_n 0, 1) := by decide +kernel
theorem dX9_init_77 : decode cX9_init 77 = .ok (.sipush 500, 3) := by decide +kernel
theorem dX9_init_80 : decode cX9_init 80 = .ok (.newarray .int, 2) := by decide +kernel
theorem dX9_init_82 : decode cX9_init 82 = .ok (.putfield 37, 3) := by decide +kernel
theorem dX9_init_85 : decode cX9_init 85 = .ok (.aload_n 0, 1) := by decide +kernel
theorem dX9_init_86 : decode cX9_init 86 = .ok (.bipush 100, 2) := by decide +kernel
theorem dX9_init_88 : decode cX9_init 88 = .ok (.newarray .int, 2) := by decide +kernel
theorem dX9_init_90 : decode cX9_init 90 = .ok (.putfield 40, 3) := by decide +kernel
theorem dX9_init_93 : decode cX9_init 93 = .ok (.return_, 1) := by decide +kernel
theorem dX9_hasRoom_0 : decode cX9_hasRoom 0 = .ok (.aload_n 0, 1) := by decide +kernel
theorem dX9_hasRoom_1 : decode cX9_hasRoom 1 = .ok (.getfield 43, 3) := by decide +kernel
theorem dX9_hasRoom_4 : decode cX9_hasRoom 4 = .ok (.iload_n 1, 1) := by decide +kernel
theorem dX9_hasRoom_5 : decode cX9_hasRoom 5 = .ok (.iadd, 1) := by decide +kernel
theorem dX9_hasRoom_6 : decode cX9_hasRoom 6 = .ok (.sipush 500, 3) := by decide +kernel
