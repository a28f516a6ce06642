theorem dX11_order_20 : decode cX11_order 20 = .ok (.aload_n 0, 1) := by decide +kernel
theorem dX11_order_21 : decode cX11_order 21 = .ok (.getfield 67, 3) := by decide +kernel
theorem dX11_order_24 : decode cX11_order 24 = .ok (.iload_n 1, 1) := by decide +kernel
theorem dX11_order_25 : decode cX11_order 25 = .ok (.iload_n 2, 1) := by decide +kernel
theorem dX11_order_26 : decode cX11_order 26 = .ok (.invokevirtual 301, 3) := by decide +kernel
theorem dX11_order_29 : decode cX11_order 29 = .ok (.ireturn, 1) := by decide +kernel
theorem dX11_done_0 : decode cX11_done 0 = .ok (.aload_n 0, 1) := by decide +kernel
theorem dX11_done_1 : decode cX11_done 1 = .ok (.getfield 67, 3) := by decide +kernel
theorem dX11_done_4 : decode cX11_done 4 = .ok (.iload_n 1, 1) := by decide +kernel
theorem dX11_done_5 : decode cX11_done 5 = .ok (.invokevirtual 302, 3) := by decide +kernel
theorem dX11_done_8 : decode cX11_done 8 = .ok (.ifCond .eq 14, 3) := by decide +kernel
theorem dX11_done_11 : decode cX11_done 11 = .ok (.aload_n 0, 1) := by decide +kernel
theorem dX11_done_12 : decode cX11_done 12 = .ok (.getfield 19, 3) := by decide +kernel
theorem dX11_done_15 : decode cX11_done 15 = .ok (.iload_n 2, 1) := by decide +kernel
theorem dX11_done_16 : decode cX11_done 16 = .ok (.invokevirtual 117, 3) := by decide +kernel
theorem dX11_done_19 : decode cX11_done 19 = .ok (.ifCond .ne 5, 3) := by decide +kernel
theorem dX11_done_22 : decode cX11_done 22 = .ok (.iconst (-1), 1) := by decide +kernel
theorem dX11_done_23 : decode cX11_done 23 = .ok (.ireturn, 1) := by decide +kernel
theorem dX11_done_24 : decode cX11_done 24 = .ok (.aload_n 0, 1) := by decide +kernel
theorem dX11_done_25 : decode cX11_done 25 = .ok (.getfield 67, 3) := by decide +kernel
theorem dX11_done_28 : decode cX11_done 28 = .ok (.iload_n 1, 1) := by decide +kernel
theorem dX11_done_29 : decode cX11_done 29 = .ok (.iload_n 2, 1) := by decide +kernel
theorem dX11_done_30 : decode cX11_done 30 = .ok (.invokevirtual 303, 3) := by decide +kernel
theorem dX11_done_33 : decode cX11_done 33 = .ok (.ifCond .ne 6, 3) := by decide +kernel
theorem dX11_done_36 : decode cX11_done 36 = .ok (.bipush (-2), 2) := by decide +kernel
theorem dX11_done_38 : decode cX11_done 38 = .ok (.ireturn, 1) := by decide +kernel
theorem dX11_done_39 : decode cX11_done 39 = .ok (.aload_n 0, 1) := by decide +kernel
theorem dX11_done_40 : decode cX11_done 40 = .ok (.getfield 67, 3) := by decide +kernel
theorem dX11_done_43 : decode cX11_done 43 = .ok (.iload_n 1, 1) := by decide +kernel
theorem dX11_done_44 : decode cX11_done 44 = .ok (.iload_n 2, 1) := by decide +kernel
theorem dX11_done_45 : decode cX11_done 45 = .ok (.invokevirtual 306, 3) := by decide +kernel
theorem dX11_done_48 : decode cX11_done 48 = .ok (.iconst 1, 1) := by decide +kernel
theorem dX11_done_49 : decode cX11_done 49 = .ok (.ireturn, 1) := by decide +kernel
theorem dX11_contract_0 : decode cX11_contract 0 = .ok (.aload_n 0, 1) := by decide +kernel
theorem dX11_contract_1 : decode cX11_contract 1 = .ok (.getfield 19, 3) := by decide +kernel
theorem dX11_contract_4 : decode cX11_contract 4 = .ok (.iload_n 1, 1) := by decide +kernel
theorem dX11_contract_5 : decode cX11_contract 5 = .ok (.invokevirtual 117, 3) := by decide +kernel
theorem dX11_contract_8 : decode cX11_contract 8 = .ok (.ifCond .eq 17, 3) := by decide +kernel
theorem dX11_contract_11 : decode cX11_contract 11 = .ok (.iload_n 2, 1) := by decide +kernel
theorem dX11_contract_12 : decode cX11_contract 12 = .ok (.invokestatic 181, 3) := by decide +kernel
theorem dX11_contract_15 : decode cX11_contract 15 = .ok (.ifCond .eq 10, 3) := by decide +kernel
theorem dX11_contract_18 : decode cX11_contract 18 = .ok (.iload_n 3, 1) := by decide +kernel
theorem dX11_contract_19 : decode cX11_contract 19 = .ok (.invokestatic 101, 3) := by decide +kernel
theorem dX11_contract_22 : decode cX11_contract 22 = .ok (.ifCond .ne 5, 3) := by decide +kernel
theorem dX11_contract_25 : decode cX11_contract 25 = .ok (.iconst (-1), 1) := by decide +kernel
theorem dX11_contract_26 : decode cX11_contract 26 = .ok (.ireturn, 1) := by decide +kernel
theorem dX11_contract_27 : decode cX11_contract 27 = .ok (.aload_n 0, 1) := by decide +kernel
theorem dX11_contract_28 : decode cX11_contract 28 = .ok (.getfield 19, 3) := by decide +kernel
theorem dX11_contract_31 : decode cX11_contract 31 = .ok (.iload_n 1, 1) := by decide +kernel
theorem dX11_contract_32 : decode cX11_contract 32 = .ok (.invokevirtual 121, 3) := by decide +kernel
theorem dX11_contract_35 : decode cX11_contract 35 = .ok (.ifCond .eq 6, 3) := by decide +kernel
theorem dX11_contract_38 : decode cX11_contract 38 = .ok (.bipush (-2), 2) := by decide +kernel
theorem dX11_contract_40 : decode cX11_contract 40 = .ok (.ireturn, 1) := by decide +kernel
theorem dX11_contract_41 : decode cX11_contract 41 = .ok (.aload_n 0, 1) := by decide +kernel
theorem dX11_contract_42 : decode cX11_contract 42 = .ok (.getfield 74, 3) := by decide +kernel
theorem dX11_contract_45 : decode cX11_contract 45 = .ok (.invokevirtual 309, 3) := by decide +kernel
theorem dX11_contract_48 : decode cX11_contract 48 = .ok (.istore 4, 2) := by decide +kernel
theorem dX11_contract_50 : decode cX11_contract 50 = .ok (.aload_n 0, 1) := by decide +kernel
theorem dX11_contract_51 : decode cX11_contract 51 = .ok (.getfield 42, 3) := by decide +kernel
theorem dX11_contract_54 : decode cX11_contract 54 = .ok (.iconst 0, 1) := by decide +kernel
theorem dX11_contract_55 : decode cX11_contract 55 = .ok (.putfield 291, 3) := by decide +kernel
theorem dX11_contract_58 : decode cX11_contract 58 = .ok (.iload 4, 2) := by decide +kernel
theorem dX11_contract_60 : decode cX11_contract 60 = .ok (.iconst (-1), 1) := by decide +kernel
theorem dX11_contract_61 : decode cX11_contract 61 = .ok (.if_icmp .eq 9, 3) := by decide +kernel
theorem dX11_contract_64 : decode cX11_contract 64 = .ok (.bipush (-100), 2) := by decide +kernel
theorem dX11_contract_66 : decode cX11_contract 66 = .ok (.iload 4, 2) := by decide +kernel
theorem dX11_contract_68 : decode cX11_contract 68 = .ok (.isub, 1) := by decide +kernel
theorem dX11_contract_69 : decode cX11_contract 69 = .ok (.ireturn, 1) := by decide +kernel
theorem dX11_contract_70 : decode cX11_contract 70 = .ok (.aload_n 0, 1) := by decide +kernel
theorem dX11_contract_71 : decode cX11_contract 71 = .ok (.getfield 74, 3) := by decide +kernel
theorem dX11_contract_74 : decode cX11_contract 74 = .ok (.iload_n 1, 1) := by decide +kernel
theorem dX11_contract_75 : decode cX11_contract 75 = .ok (.iload_n 2, 1) := by decide +kernel
theorem dX11_contract_76 : decode cX11_contract 76 = .ok (.iload_n 3, 1) := by decide +kernel
theorem dX11_contract_77 : decode cX11_contract 77 = .ok (.invokevirtual 312, 3) := by decide +kernel
theorem dX11_contract_80 : decode cX11_contract 80 = .ok (.ireturn, 1) := by decide +kernel
theorem dX11_lacks_0 : decode cX11_lacks 0 = .ok (.aload_n 0, 1) := by decide +kernel
theorem dX11_lacks_1 : decode cX11_lacks 1 = .ok (.getfield 19, 3) := by decide +kernel
theorem dX11_lacks_4 : decode cX11_lacks 4 = .ok (.iload_n 1, 1) := by decide +kernel
theorem dX11_lacks_5 : decode cX11_lacks 5 = .ok (.invokevirtual 117, 3) := by decide +kernel
theorem dX11_lacks_8 : decode cX11_lacks 8 = .ok (.ifCond .eq 30, 3) := by decide +kernel
theorem dX11_lacks_11 : decode cX11_lacks 11 = .ok (.aload_n 0, 1) := by decide +kernel
theorem dX11_lacks_12 : decode cX11_lacks 12 = .ok (.getfield 74, 3) := by decide +kernel
theorem dX11_lacks_15 : decode cX11_lacks 15 = .ok (.iload_n 1, 1) := by decide +kernel
theorem dX11_lacks_16 : decode cX11_lacks 16 = .ok (.iload_n 2, 1) := by decide +kernel
theorem dX11_lacks_17 : decode cX11_lacks 17 = .ok (.invokevirtual 315, 3) := by decide +kernel
theorem dX11_lacks_20 : decode cX11_lacks 20 = .ok (.ifCond .eq 18, 3) := by decide +kernel
theorem dX11_lacks_23 : decode cX11_lacks 23 = .ok (.iload_n 3, 1) := by decide +kernel
theorem dX11_lacks_24 : decode cX11_lacks 24 = .ok (.invokestatic 181, 3) := by decide +kernel
theorem dX11_lacks_27 : decode cX11_lacks 27 = .ok (.ifCond .eq 11, 3) := by decide +kernel
theorem dX11_lacks_30 : decode cX11_lacks 30 = .ok (.iload 4, 2) := by decide +kernel
theorem dX11_lacks_32 : decode cX11_lacks 32 = .ok (.invokestatic 181, 3) := by decide +kernel
theorem dX11_lacks_35 : decode cX11_lacks 35 = .ok (.ifCond .ne 5, 3) := by decide +kernel
theorem dX11_lacks_38 : decode cX11_lacks 38 = .ok (.iconst (-1), 1) := by decide +kernel
theorem dX11_lacks_39 : decode cX11_lacks 39 = .ok (.ireturn, 1) := by decide +kernel
theorem dX11_lacks_40 : decode cX11_lacks 40 = .ok (.aload_n 0, 1) := by decide +kernel
theorem dX11_lacks_41 : decode cX11_lacks 41 = .ok (.getfield 92, 3) := by decide +kernel
theorem dX11_lacks_44 : decode cX11_lacks 44 = .ok (.iload_n 1, 1) := by decide +kernel
theorem dX11_lacks_45 : decode cX11_lacks 45 = .ok (.iconst (-1), 1) := by decide +kernel
theorem dX11_lacks_46 : decode cX11_lacks 46 = .ok (.iload 4, 2) := by decide +kernel
theorem dX11_lacks_48 : decode cX11_lacks 48 = .ok (.invokevirtual 318, 3) := by decide +kernel
theorem dX11_lacks_51 : decode cX11_lacks 51 = .ok (.aload_n 0, 1) := by decide +kernel
theorem dX11_lacks_52 : decode cX11_lacks 52 = .ok (.getfield 92, 3) := by decide +kernel
theorem dX11_lacks_55 : decode cX11_lacks 55 = .ok (.iload_n 1, 1) := by decide +kernel
theorem dX11_lacks_56 : decode cX11_lacks 56 = .ok (.iload_n 2, 1) := by decide +kernel
theorem dX11_lacks_57 : decode cX11_lacks 57 = .ok (.iload_n 3, 1) := by decide +kernel
theorem dX11_lacks_58 : decode cX11_lacks 58 = .ok (.invokevirtual 321, 3) := by decide +kernel
theorem dX11_lacks_61 : decode cX11_lacks 61 = .ok (.ireturn, 1) := by decide +kernel
theorem dX11_costs_0 : decode cX11_costs 0 = .ok (.aload_n 0, 1) := by decide +kernel
theorem dX11_costs_1 : decode cX11_costs 1 = .ok (.getfield 19, 3) := by decide +kernel
theorem dX11_costs_4 : decode cX11_costs 4 = .ok (.iload_n 1, 1) := by decide +kernel
theorem dX11_costs_5 : decode cX11_costs 5 = .ok (.invokevirtual 117, 3) := by decide +kernel
theorem dX11_costs_8 : decode cX11_costs 8 = .ok (.ifCond .eq 29, 3) := by decide +kernel
theorem dX11_costs_11 : decode cX11_costs 11 = .ok (.aload_n 0, 1) := by decide +kernel
theorem dX11_costs_12 : decode cX11_costs 12 = .ok (.getfield 74, 3) := by decide +kernel
theorem dX11_costs_15 : decode cX11_costs 15 = .ok (.iload_n 1, 1) := by decide +kernel
theorem dX11_costs_16 : decode cX11_costs 16 = .ok (.invokevirtual 324, 3) := by decide +kernel
theorem dX11_costs_19 : decode cX11_costs 19 = .ok (.ifCond .eq 18, 3) := by decide +kernel
theorem dX11_costs_22 : decode cX11_costs 22 = .ok (.iload_n 3, 1) := by decide +kernel
theorem dX11_costs_23 : decode cX11_costs 23 = .ok (.invokestatic 181, 3) := by decide +kernel
theorem dX11_costs_26 : decode cX11_costs 26 = .ok (.ifCond .eq 11, 3) := by decide +kernel
theorem dX11_costs_29 : decode cX11_costs 29 = .ok (.iload 4, 2) := by decide +kernel
theorem dX11_costs_31 : decode cX11_costs 31 = .ok (.invokestatic 181, 3) := by decide +kernel
theorem dX11_costs_34 : decode cX11_costs 34 = .ok (.ifCond .ne 6, 3) := by decide +kernel
theorem dX11_costs_37 : decode cX11_costs 37 = .ok (.ldc 96, 2) := by decide +kernel
theorem dX11_costs_39 : decode cX11_costs 39 = .ok (.ireturn, 1) := by decide +kernel
theorem dX11_costs_40 : decode cX11_costs 40 = .ok (.iload_n 2, 1) := by decide +kernel
theorem dX11_costs_41 : decode cX11_costs 41 = .ok (.iconst (-1), 1) := by decide +kernel
theorem dX11_costs_42 : decode cX11_costs 42 = .ok (.if_icmp .eq 18, 3) := by decide +kernel
theorem dX11_costs_45 : decode cX11_costs 45 = .ok (.aload_n 0, 1) := by decide +kernel
theorem dX11_costs_46 : decode cX11_costs 46 = .ok (.getfield 74, 3) := by decide +kernel
theorem dX11_costs_49 : decode cX11_costs 49 = .ok (.iload_n 1, 1) := by decide +kernel
theorem dX11_costs_50 : decode cX11_costs 50 = .ok (.iload_n 2, 1) := by decide +kernel
theorem dX11_costs_51 : decode cX11_costs 51 = .ok (.invokevirtual 315, 3) := by decide +kernel
theorem dX11_costs_54 : decode cX11_costs 54 = .ok (.ifCond .ne 6, 3) := by decide +kernel
theorem dX11_costs_57 : decode cX11_costs 57 = .ok (.ldc 96, 2) := by decide +kernel
theorem dX11_costs_59 : decode cX11_costs 59 = .ok (.ireturn, 1) := by decide +kernel
theorem dX11_costs_60 : decode cX11_costs 60 = .ok (.aload_n 0, 1) := by decide +kernel
theorem dX11_costs_61 : decode cX11_costs 61 = .ok (.getfield 92, 3) := by decide +kernel
theorem dX11_costs_64 : decode cX11_costs 64 = .ok (.iload_n 1, 1) := by decide +kernel
theorem dX11_costs_65 : decode cX11_costs 65 = .ok (.iconst (-1), 1) := by decide +kernel
theorem dX11_costs_66 : decode cX11_costs 66 = .ok (.iload 4, 2) := by decide +kernel
theorem dX11_costs_68 : decode cX11_costs 68 = .ok (.invokevirtual 318, 3) := by decide +kernel
theorem dX11_costs_71 : decode cX11_costs 71 = .ok (.iload_n 2, 1) := by decide +kernel
theorem dX11_costs_72 : decode cX11_costs 72 = .ok (.iconst (-1), 1) := by decide +kernel
theorem dX11_costs_73 : decode cX11_costs 73 = .ok (.if_icmp .ne 15, 3) := by decide +kernel
theorem dX11_costs_76 : decode cX11_costs 76 = .ok (.aload_n 0, 1) := by decide +kernel
theorem dX11_costs_77 : decode cX11_costs 77 = .ok (.getfield 92, 3) := by decide +kernel
theorem dX11_costs_80 : decode cX11_costs 80 = .ok (.iload_n 1, 1) := by decide +kernel
theorem dX11_costs_81 : decode cX11_costs 81 = .ok (.iload_n 3, 1) := by decide +kernel
theorem dX11_costs_82 : decode cX11_costs 82 = .ok (.invokevirtual 327, 3) := by decide +kernel
theorem dX11_costs_85 : decode cX11_costs 85 = .ok (.goto 13, 3) := by decide +kernel
theorem dX11_costs_88 : decode cX11_costs 88 = .ok (.aload_n 0, 1) := by decide +kernel
theorem dX11_costs_89 : decode cX11_costs 89 = .ok (.getfield 92, 3) := by decide +kernel
theorem dX11_costs_92 : decode cX11_costs 92 = .ok (.iload_n 1, 1) := by decide +kernel
theorem dX11_costs_93 : decode cX11_costs 93 = .ok (.iload_n 2, 1) := by decide +kernel
theorem dX11_costs_94 : decode cX11_costs 94 = .ok (.iload_n 3, 1) := by decide +kernel
theorem dX11_costs_95 : decode cX11_costs 95 = .ok (.invokevirtual 330, 3) := by decide +kernel
theorem dX11_costs_98 : decode cX11_costs 98 = .ok (.ireturn, 1) := by decide +kernel
theorem dX11_giveBack_0 : decode cX11_giveBack 0 = .ok (.aload_n 0, 1) := by decide +kernel
theorem dX11_giveBack_1 : decode cX11_giveBack 1 = .ok (.getfield 19, 3) := by decide +kernel
theorem dX11_giveBack_4 : decode cX11_giveBack 4 = .ok (.iload_n 1, 1) := by decide +kernel
theorem dX11_giveBack_5 : decode cX11_giveBack 5 = .ok (.invokevirtual 117, 3) := by decide +kernel
theorem dX11_giveBack_8 : decode cX11_giveBack 8 = .ok (.ifCond .ne 5, 3) := by decide +kernel
theorem dX11_giveBack_11 : decode cX11_giveBack 11 = .ok (.iconst (-1), 1) := by decide +kernel
theorem dX11_giveBack_12 : decode cX11_giveBack 12 = .ok (.ireturn, 1) := by decide +kernel
theorem dX11_giveBack_13 : decode cX11_giveBack 13 = .ok (.aload_n 0, 1) := by decide +kernel
theorem dX11_giveBack_14 : decode cX11_giveBack 14 = .ok (.getfield 19, 3) := by decide +kernel
theorem dX11_giveBack_17 : decode cX11_giveBack 17 = .ok (.iload_n 1, 1) := by decide +kernel
theorem dX11_giveBack_18 : decode cX11_giveBack 18 = .ok (.invokevirtual 121, 3) := by decide +kernel
theorem dX11_giveBack_21 : decode cX11_giveBack 21 = .ok (.ifCond .ne 14, 3) := by decide +kernel
theorem dX11_giveBack_24 : decode cX11_giveBack 24 = .ok (.aload_n 0, 1) := by decide +kernel
theorem dX11_giveBack_25 : decode cX11_giveBack 25 = .ok (.getfield 74, 3) := by decide +kernel
theorem dX11_giveBack_28 : decode cX11_giveBack 28 = .ok (.iload_n 1, 1) := by decide +kernel
theorem dX11_giveBack_29 : decode cX11_giveBack 29 = .ok (.invokevirtual 324, 3) := by decide +kernel
theorem dX11_giveBack_32 : decode cX11_giveBack 32 = .ok (.ifCond .ne 6, 3) := by decide +kernel
theorem dX11_giveBack_35 : decode cX11_giveBack 35 = .ok (.bipush (-2), 2) := by decide +kernel
theorem dX11_giveBack_37 : decode cX11_giveBack 37 = .ok (.ireturn, 1) := by decide +kernel
theorem dX11_giveBack_38 : decode cX11_giveBack 38 = .ok (.aload_n 0, 1) := by decide +kernel
theorem dX11_giveBack_39 : decode cX11_giveBack 39 = .ok (.getfield 92, 3) := by decide +kernel
theorem dX11_giveBack_42 : decode cX11_giveBack 42 = .ok (.iload_n 1, 1) := by decide +kernel
theorem dX11_giveBack_43 : decode cX11_giveBack 43 = .ok (.iconst (-1), 1) := by decide +kernel
theorem dX11_giveBack_44 : decode cX11_giveBack 44 = .ok (.aload_n 0, 1) := by decide +kernel
theorem dX11_giveBack_45 : decode cX11_giveBack 45 = .ok (.getfield 132, 3) := by decide +kernel
theorem dX11_giveBack_48 : decode cX11_giveBack 48 = .ok (.invokevirtual 318, 3) := by decide +kernel
theorem dX11_giveBack_51 : decode cX11_giveBack 51 = .ok (.aload_n 0, 1) := by decide +kernel
theorem dX11_giveBack_52 : decode cX11_giveBack 52 = .ok (.getfield 92, 3) := by decide +kernel
theorem dX11_giveBack_55 : decode cX11_giveBack 55 = .ok (.iload_n 1, 1) := by decide +kernel
theorem dX11_giveBack_56 : decode cX11_giveBack 56 = .ok (.aload_n 0, 1) := by decide +kernel
theorem dX11_giveBack_57 : decode cX11_giveBack 57 = .ok (.getfield 132, 3) := by decide +kernel
theorem dX11_giveBack_60 : decode cX11_giveBack 60 = .ok (.invokevirtual 327, 3) := by decide +kernel
theorem dX11_giveBack_63 : decode cX11_giveBack 63 = .ok (.istore_n 2, 1) := by decide +kernel
theorem dX11_giveBack_64 : decode cX11_giveBack 64 = .ok (.aload_n 0, 1) := by decide +kernel
theorem dX11_giveBack_65 : decode cX11_giveBack 65 = .ok (.getfield 19, 3) := by decide +kernel
theorem dX11_giveBack_68 : decode cX11_giveBack 68 = .ok (.iload_n 1, 1) := by decide +kernel
theorem dX11_giveBack_69 : decode cX11_giveBack 69 = .ok (.iload_n 2, 1) := by decide +kernel
theorem dX11_giveBack_70 : decode cX11_giveBack 70 = .ok (.aload_n 0, 1) := by decide +kernel
theorem dX11_giveBack_71 : decode cX11_giveBack 71 = .ok (.getfield 132, 3) := by decide +kernel
theorem dX11_giveBack_74 : decode cX11_giveBack 74 = .ok (.invokevirtual 333, 3) := by decide +kernel
theorem dX11_giveBack_77 : decode cX11_giveBack 77 = .ok (.aload_n 0, 1) := by decide +kernel
theorem dX11_giveBack_78 : decode cX11_giveBack 78 = .ok (.getfield 35, 3) := by decide +kernel
theorem dX11_giveBack_81 : decode cX11_giveBack 81 = .ok (.iload_n 1, 1) := by decide +kernel
theorem dX11_giveBack_82 : decode cX11_giveBack 82 = .ok (.aload_n 0, 1) := by decide +kernel
theorem dX11_giveBack_83 : decode cX11_giveBack 83 = .ok (.getfield 132, 3) := by decide +kernel
theorem dX11_giveBack_86 : decode cX11_giveBack 86 = .ok (.invokevirtual 336, 3) := by decide +kernel
theorem dX11_giveBack_89 : decode cX11_giveBack 89 = .ok (.iload_n 2, 1) := by decide +kernel
theorem dX11_giveBack_90 : decode cX11_giveBack 90 = .ok (.ireturn, 1) := by decide +kernel
theorem dX11_best_0 : decode cX11_best 0 = .ok (.aload_n 0, 1) := by decide +kernel
theorem dX11_best_1 : decode cX11_best 1 = .ok (.getfield 19, 3) := by decide +kernel
theorem dX11_best_4 : decode cX11_best 4 = .ok (.iload_n 1, 1) := by decide +kernel
theorem dX11_best_5 : decode cX11_best 5 = .ok (.invokevirtual 117, 3) := by decide +kernel
theorem dX11_best_8 : decode cX11_best 8 = .ok (.ifCond .eq 14, 3) := by decide +kernel
theorem dX11_best_11 : decode cX11_best 11 = .ok (.aload_n 0, 1) := by decide +kernel
theorem dX11_best_12 : decode cX11_best 12 = .ok (.getfield 10, 3) := by decide +kernel
theorem dX11_best_15 : decode cX11_best 15 = .ok (.iload_n 2, 1) := by decide +kernel
theorem dX11_best_16 : decode cX11_best 16 = .ok (.invokevirtual 120, 3) := by decide +kernel
theorem dX11_best_19 : decode cX11_best 19 = .ok (.ifCond .ne 5, 3) := by decide +kernel
theorem dX11_best_22 : decode cX11_best 22 = .ok (.iconst (-1), 1) := by decide +kernel
theorem dX11_best_23 : decode cX11_best 23 = .ok (.ireturn, 1) := by decide +kernel
theorem dX11_best_24 : decode cX11_best 24 = .ok (.aload_n 0, 1) := by decide +kernel
theorem dX11_best_25 : decode cX11_best 25 = .ok (.getfield 74, 3) := by decide +kernel
theorem dX11_best_28 : decode cX11_best 28 = .ok (.iload_n 1, 1) := by decide +kernel
theorem dX11_best_29 : decode cX11_best 29 = .ok (.invokevirtual 324, 3) := by decide +kernel
theorem dX11_best_32 : decode cX11_best 32 = .ok (.ifCond .eq 26, 3) := by decide +kernel
theorem dX11_best_35 : decode cX11_best 35 = .ok (.aload_n 0, 1) := by decide +kernel
theorem dX11_best_36 : decode cX11_best 36 = .ok (.getfield 19, 3) := by decide +kernel
theorem dX11_best_39 : decode cX11_best 39 = .ok (.iload_n 1, 1) := by decide +kernel
theorem dX11_best_40 : decode cX11_best 40 = .ok (.invokevirtual 121, 3) := by decide +kernel
theorem dX11_best_43 : decode cX11_best 43 = .ok (.ifCond .ne 15, 3) := by decide +kernel
theorem dX11_best_46 : decode cX11_best 46 = .ok (.aload_n 0, 1) := by decide +kernel
theorem dX11_best_47 : decode cX11_best 47 = .ok (.getfield 19, 3) := by decide +kernel
theorem dX11_best_50 : decode cX11_best 50 = .ok (.iload_n 1, 1) := by decide +kernel
theorem dX11_best_51 : decode cX11_best 51 = .ok (.iload_n 2, 1) := by decide +kernel
theorem dX11_best_52 : decode cX11_best 52 = .ok (.invokevirtual 339, 3) := by decide +kernel
theorem dX11_best_55 : decode cX11_best 55 = .ok (.ifCond .ne 6, 3) := by decide +kernel
theorem dX11_best_58 : decode cX11_best 58 = .ok (.bipush (-2), 2) := by decide +kernel
theorem dX11_best_60 : decode cX11_best 60 = .ok (.ireturn, 1) := by decide +kernel
theorem dX11_best_61 : decode cX11_best 61 = .ok (.aload_n 0, 1) := by decide +kernel
theorem dX11_best_62 : decode cX11_best 62 = .ok (.getfield 35, 3) := by decide +kernel
theorem dX11_best_65 : decode cX11_best 65 = .ok (.iload_n 2, 1) := by decide +kernel
theorem dX11_best_66 : decode cX11_best 66 = .ok (.iload_n 1, 1) := by decide +kernel
theorem dX11_best_67 : decode cX11_best 67 = .ok (.invokevirtual 124, 3) := by decide +kernel
theorem dX11_best_70 : decode cX11_best 70 = .ok (.aload_n 0, 1) := by decide +kernel
theorem dX11_best_71 : decode cX11_best 71 = .ok (.getfield 35, 3) := by decide +kernel
theorem dX11_best_74 : decode cX11_best 74 = .ok (.iload_n 2, 1) := by decide +kernel
theorem dX11_best_75 : decode cX11_best 75 = .ok (.bipush 11, 2) := by decide +kernel
theorem dX11_best_77 : decode cX11_best 77 = .ok (.invokevirtual 124, 3) := by decide +kernel
theorem dX11_best_80 : decode cX11_best 80 = .ok (.iadd, 1) := by decide +kernel
theorem dX11_best_81 : decode cX11_best 81 = .ok (.bipush 8, 2) := by decide +kernel
theorem dX11_best_83 : decode cX11_best 83 = .ok (.if_icmp .le 6, 3) := by decide +kernel
theorem dX11_best_86 : decode cX11_best 86 = .ok (.bipush (-4), 2) := by decide +kernel
theorem dX11_best_88 : decode cX11_best 88 = .ok (.ireturn, 1) := by decide +kernel
theorem dX11_best_89 : decode cX11_best 89 = .ok (.aload_n 0, 1) := by decide +kernel
theorem dX11_best_90 : decode cX11_best 90 = .ok (.getfield 92, 3) := by decide +kernel
theorem dX11_best_93 : decode cX11_best 93 = .ok (.iload_n 1, 1) := by decide +kernel
theorem dX11_best_94 : decode cX11_best 94 = .ok (.iload_n 2, 1) := by decide +kernel
theorem dX11_best_95 : decode cX11_best 95 = .ok (.aload_n 0, 1) := by decide +kernel
theorem dX11_best_96 : decode cX11_best 96 = .ok (.getfield 132, 3) := by decide +kernel
theorem dX11_best_99 : decode cX11_best 99 = .ok (.invokevirtual 318, 3) := by decide +kernel
theorem dX11_best_102 : decode cX11_best 102 = .ok (.aload_n 0, 1) := by decide +kernel
theorem dX11_best_103 : decode cX11_best 103 = .ok (.getfield 92, 3) := by decide +kernel
theorem dX11_best_106 : decode cX11_best 106 = .ok (.iload_n 1, 1) := by decide +kernel
theorem dX11_best_107 : decode cX11_best 107 = .ok (.iload_n 2, 1) := by decide +kernel
theorem dX11_best_108 : decode cX11_best 108 = .ok (.aload_n 0, 1) := by decide +kernel
theorem dX11_best_109 : decode cX11_best 109 = .ok (.getfield 132, 3) := by decide +kernel
theorem dX11_best_112 : decode cX11_best 112 = .ok (.invokevirtual 342, 3) := by decide +kernel
theorem dX11_best_115 : decode cX11_best 115 = .ok (.aload_n 0, 1) := by decide +kernel
theorem dX11_best_116 : decode cX11_best 116 = .ok (.getfield 92, 3) := by decide +kernel
theorem dX11_best_119 : decode cX11_best 119 = .ok (.iload_n 1, 1) := by decide +kernel
theorem dX11_best_120 : decode cX11_best 120 = .ok (.aload_n 0, 1) := by decide +kernel
theorem dX11_best_121 : decode cX11_best 121 = .ok (.getfield 19, 3) := by decide +kernel
theorem dX11_best_124 : decode cX11_best 124 = .ok (.iload_n 1, 1) := by decide +kernel
theorem dX11_best_125 : decode cX11_best 125 = .ok (.iload_n 2, 1) := by decide +kernel
theorem dX11_best_126 : decode cX11_best 126 = .ok (.invokevirtual 339, 3) := by decide +kernel
theorem dX11_best_129 : decode cX11_best 129 = .ok (.aload_n 0, 1) := by decide +kernel
theorem dX11_best_130 : decode cX11_best 130 = .ok (.getfield 132, 3) := by decide +kernel
theorem dX11_best_133 : decode cX11_best 133 = .ok (.invokevirtual 345, 3) := by decide +kernel
theorem dX11_best_136 : decode cX11_best 136 = .ok (.istore_n 3, 1) := by decide +kernel
theorem dX11_best_137 : decode cX11_best 137 = .ok (.iload_n 3, 1) := by decide +kernel
theorem dX11_best_138 : decode cX11_best 138 = .ok (.ifCond .eq 14, 3) := by decide +kernel
theorem dX11_best_141 : decode cX11_best 141 = .ok (.aload_n 0, 1) := by decide +kernel
theorem dX11_best_142 : decode cX11_best 142 = .ok (.aload_n 0, 1) := by decide +kernel
theorem dX11_best_143 : decode cX11_best 143 = .ok (.getfield 92, 3) := by decide +kernel
theorem dX11_best_146 : decode cX11_best 146 = .ok (.getfield 348, 3) := by decide +kernel
theorem dX11_best_149 : decode cX11_best 149 = .ok (.putfield 97, 3) := by decide +kernel
theorem dX11_best_152 : decode cX11_best 152 = .ok (.iload_n 3, 1) := by decide +kernel
theorem dX11_best_153 : decode cX11_best 153 = .ok (.ireturn, 1) := by decide +kernel
theorem dX11_bestCost_0 : decode cX11_bestCost 0 = .ok (.aload_n 0, 1) := by decide +kernel
theorem dX11_bestCost_1 : decode cX11_bestCost 1 = .ok (.getfield 97, 3) := by decide +kernel
theorem dX11_bestCost_4 : decode cX11_bestCost 4 = .ok (.ireturn, 1) := by decide +kernel
theorem dX11_reserve_0 : decode cX11_reserve 0 = .ok (.aload_n 0, 1) := by decide +kernel
theorem dX11_reserve_1 : decode cX11_reserve 1 = .ok (.getfield 19, 3) := by decide +kernel
theorem dX11_reserve_4 : decode cX11_reserve 4 = .ok (.iload_n 1, 1) := by decide +kernel
theorem dX11_reserve_5 : decode cX11_reserve 5 = .ok (.invokevirtual 117, 3) := by decide +kernel
theorem dX11_reserve_8 : decode cX11_reserve 8 = .ok (.ifCond .eq 14, 3) := by decide +kernel
theorem dX11_reserve_11 : decode cX11_reserve 11 = .ok (.aload_n 0, 1) := by decide +kernel
theorem dX11_reserve_12 : decode cX11_reserve 12 = .ok (.getfield 10, 3) := by decide +kernel
theorem dX11_reserve_15 : decode cX11_reserve 15 = .ok (.iload_n 2, 1) := by decide +kernel
theorem dX11_reserve_16 : decode cX11_reserve 16 = .ok (.invokevirtual 120, 3) := by decide +kernel
theorem dX11_reserve_19 : decode cX11_reserve 19 = .ok (.ifCond .ne 5, 3) := by decide +kernel
theorem dX11_reserve_22 : decode cX11_reserve 22 = .ok (.iconst (-1), 1) := by decide +kernel
theorem dX11_reserve_23 : decode cX11_reserve 23 = .ok (.ireturn, 1) := by decide +kernel
theorem dX11_reserve_24 : decode cX11_reserve 24 = .ok (.aload_n 0, 1) := by decide +kernel
theorem dX11_reserve_25 : decode cX11_reserve 25 = .ok (.getfield 19, 3) := by decide +kernel
theorem dX11_reserve_28 : decode cX11_reserve 28 = .ok (.iload_n 1, 1) := by decide +kernel
theorem dX11_reserve_29 : decode cX11_reserve 29 = .ok (.iload_n 2, 1) := by decide +kernel
theorem dX11_reserve_30 : decode cX11_reserve 30 = .ok (.invokevirtual 351, 3) := by decide +kernel
theorem dX11_reserve_33 : decode cX11_reserve 33 = .ok (.ireturn, 1) := by decide +kernel
theorem dX11_claim_0 : decode cX11_claim 0 = .ok (.aload_n 0, 1) := by decide +kernel
theorem dX11_claim_1 : decode cX11_claim 1 = .ok (.getfield 35, 3) := by decide +kernel
theorem dX11_claim_4 : decode cX11_claim 4 = .ok (.iload_n 1, 1) := by decide +kernel
theorem dX11_claim_5 : decode cX11_claim 5 = .ok (.invokevirtual 200, 3) := by decide +kernel
theorem dX11_claim_8 : decode cX11_claim 8 = .ok (.ifCond .eq 13, 3) := by decide +kernel
theorem dX11_claim_11 : decode cX11_claim 11 = .ok (.iload_n 2, 1) := by decide +kernel
theorem dX11_claim_12 : decode cX11_claim 12 = .ok (.iconst 1, 1) := by decide +kernel
theorem dX11_claim_13 : decode cX11_claim 13 = .ok (.ldc 105, 2) := by decide +kernel
theorem dX11_claim_15 : decode cX11_claim 15 = .ok (.invokestatic 106, 3) := by decide +kernel
theorem dX11_claim_18 : decode cX11_claim 18 = .ok (.ifCond .ne 5, 3) := by decide +kernel
theorem dX11_claim_21 : decode cX11_claim 21 = .ok (.iconst (-1), 1) := by decide +kernel
theorem dX11_claim_22 : decode cX11_claim 22 = .ok (.ireturn, 1) := by decide +kernel
theorem dX11_claim_23 : decode cX11_claim 23 = .ok (.aload_n 0, 1) := by decide +kernel
theorem dX11_claim_24 : decode cX11_claim 24 = .ok (.getfield 35, 3) := by decide +kernel
theorem dX11_claim_27 : decode cX11_claim 27 = .ok (.getfield 204, 3) := by decide +kernel
theorem dX11_claim_30 : decode cX11_claim 30 = .ok (.iload_n 1, 1) := by decide +kernel
theorem dX11_claim_31 : decode cX11_claim 31 = .ok (.iaload, 1) := by decide +kernel
theorem dX11_claim_32 : decode cX11_claim 32 = .ok (.bipush 10, 2) := by decide +kernel
theorem dX11_claim_34 : decode cX11_claim 34 = .ok (.if_icmp .ne 14, 3) := by decide +kernel
theorem dX11_claim_37 : decode cX11_claim 37 = .ok (.aload_n 0, 1) := by decide +kernel
theorem dX11_claim_38 : decode cX11_claim 38 = .ok (.getfield 35, 3) := by decide +kernel
theorem dX11_claim_41 : decode cX11_claim 41 = .ok (.iload_n 1, 1) := by decide +kernel
theorem dX11_claim_42 : decode cX11_claim 42 = .ok (.invokevirtual 354, 3) := by decide +kernel
theorem dX11_claim_45 : decode cX11_claim 45 = .ok (.goto 4, 3) := by decide +kernel
theorem dX11_claim_48 : decode cX11_claim 48 = .ok (.iconst (-1), 1) := by decide +kernel
theorem dX11_claim_49 : decode cX11_claim 49 = .ok (.istore_n 3, 1) := by decide +kernel
theorem dX11_claim_50 : decode cX11_claim 50 = .ok (.aload_n 0, 1) := by decide +kernel
theorem dX11_claim_51 : decode cX11_claim 51 = .ok (.getfield 19, 3) := by decide +kernel
theorem dX11_claim_54 : decode cX11_claim 54 = .ok (.iload_n 3, 1) := by decide +kernel
theorem dX11_claim_55 : decode cX11_claim 55 = .ok (.invokevirtual 117, 3) := by decide +kernel
theorem dX11_claim_58 : decode cX11_claim 58 = .ok (.ifCond .ne 6, 3) := by decide +kernel
theorem dX11_claim_61 : decode cX11_claim 61 = .ok (.bipush (-2), 2) := by decide +kernel
theorem dX11_claim_63 : decode cX11_claim 63 = .ok (.ireturn, 1) := by decide +kernel
theorem dX11_claim_64 : decode cX11_claim 64 = .ok (.aload_n 0, 1) := by decide +kernel
theorem dX11_claim_65 : decode cX11_claim 65 = .ok (.getfield 19, 3) := by decide +kernel
theorem dX11_claim_68 : decode cX11_claim 68 = .ok (.iload_n 3, 1) := by decide +kernel
theorem dX11_claim_69 : decode cX11_claim 69 = .ok (.aload_n 0, 1) := by decide +kernel
theorem dX11_claim_70 : decode cX11_claim 70 = .ok (.getfield 35, 3) := by decide +kernel
theorem dX11_claim_73 : decode cX11_claim 73 = .ok (.getfield 207, 3) := by decide +kernel
theorem dX11_claim_76 : decode cX11_claim 76 = .ok (.iload_n 1, 1) := by decide +kernel
theorem dX11_claim_77 : decode cX11_claim 77 = .ok (.iaload, 1) := by decide +kernel
theorem dX11_claim_78 : decode cX11_claim 78 = .ok (.iload_n 2, 1) := by decide +kernel
theorem dX11_claim_79 : decode cX11_claim 79 = .ok (.invokevirtual 357, 3) := by decide +kernel
theorem dX11_claim_82 : decode cX11_claim 82 = .ok (.istore 4, 2) := by decide +kernel
theorem dX11_claim_84 : decode cX11_claim 84 = .ok (.aload_n 0, 1) := by decide +kernel
theorem dX11_claim_85 : decode cX11_claim 85 = .ok (.dup, 1) := by decide +kernel
theorem dX11_claim_86 : decode cX11_claim 86 = .ok (.getfield 360, 3) := by decide +kernel
theorem dX11_claim_89 : decode cX11_claim 89 = .ok (.iload 4, 2) := by decide +kernel
theorem dX11_claim_91 : decode cX11_claim 91 = .ok (.iadd, 1) := by decide +kernel
theorem dX11_claim_92 : decode cX11_claim 92 = .ok (.putfield 360, 3) := by decide +kernel
theorem dX11_claim_95 : decode cX11_claim 95 = .ok (.iload 4, 2) := by decide +kernel
theorem dX11_claim_97 : decode cX11_claim 97 = .ok (.ireturn, 1) := by decide +kernel
theorem dX11_half_0 : decode cX11_half 0 = .ok (.aload_n 0, 1) := by decide +kernel
theorem dX11_half_1 : decode cX11_half 1 = .ok (.getfield 19, 3) := by decide +kernel
theorem dX11_half_4 : decode cX11_half 4 = .ok (.iload_n 1, 1) := by decide +kernel
theorem dX11_half_5 : decode cX11_half 5 = .ok (.invokevirtual 117, 3) := by decide +kernel
theorem dX11_half_8 : decode cX11_half 8 = .ok (.ifCond .eq 10, 3) := by decide +kernel
theorem dX11_half_11 : decode cX11_half 11 = .ok (.iload_n 2, 1) := by decide +kernel
theorem dX11_half_12 : decode cX11_half 12 = .ok (.invokestatic 181, 3) := by decide +kernel
theorem dX11_half_15 : decode cX11_half 15 = .ok (.ifCond .ne 6, 3) := by decide +kernel
theorem dX11_half_18 : decode cX11_half 18 = .ok (.ldc 96, 2) := by decide +kernel
theorem dX11_half_20 : decode cX11_half 20 = .ok (.ireturn, 1) := by decide +kernel
theorem dX11_half_21 : decode cX11_half 21 = .ok (.aload_n 0, 1) := by decide +kernel
theorem dX11_half_22 : decode cX11_half 22 = .ok (.getfield 83, 3) := by decide +kernel
theorem dX11_half_25 : decode cX11_half 25 = .ok (.iload_n 1, 1) := by decide +kernel
theorem dX11_half_26 : decode cX11_half 26 = .ok (.iload_n 2, 1) := by decide +kernel
theorem dX11_half_27 : decode cX11_half 27 = .ok (.invokevirtual 363, 3) := by decide +kernel
theorem dX11_half_30 : decode cX11_half 30 = .ok (.ireturn, 1) := by decide +kernel
theorem dX11_insure_0 : decode cX11_insure 0 = .ok (.aload_n 0, 1) := by decide +kernel
theorem dX11_insure_1 : decode cX11_insure 1 = .ok (.getfield 19, 3) := by decide +kernel
theorem dX11_insure_4 : decode cX11_insure 4 = .ok (.iload_n 1, 1) := by decide +kernel
theorem dX11_insure_5 : decode cX11_insure 5 = .ok (.invokevirtual 117, 3) := by decide +kernel
theorem dX11_insure_8 : decode cX11_insure 8 = .ok (.ifCond .ne 5, 3) := by decide +kernel
theorem dX11_insure_11 : decode cX11_insure 11 = .ok (.iconst (-1), 1) := by decide +kernel
theorem dX11_insure_12 : decode cX11_insure 12 = .ok (.ireturn, 1) := by decide +kernel
theorem dX11_insure_13 : decode cX11_insure 13 = .ok (.aload_n 0, 1) := by decide +kernel
theorem dX11_insure_14 : decode cX11_insure 14 = .ok (.getfield 92, 3) := by decide +kernel
theorem dX11_insure_17 : decode cX11_insure 17 = .ok (.iload_n 1, 1) := by decide +kernel
theorem dX11_insure_18 : decode cX11_insure 18 = .ok (.aload_n 0, 1) := by decide +kernel
theorem dX11_insure_19 : decode cX11_insure 19 = .ok (.getfield 132, 3) := by decide +kernel
theorem dX11_insure_22 : decode cX11_insure 22 = .ok (.aload_n 0, 1) := by decide +kernel
theorem dX11_insure_23 : decode cX11_insure 23 = .ok (.getfield 132, 3) := by decide +kernel
theorem dX11_insure_26 : decode cX11_insure 26 = .ok (.invokevirtual 139, 3) := by decide +kernel
theorem dX11_insure_29 : decode cX11_insure 29 = .ok (.ifCond .eq 5, 3) := by decide +kernel
theorem dX11_insure_32 : decode cX11_insure 32 = .ok (.iconst 0, 1) := by decide +kernel
theorem dX11_insure_33 : decode cX11_insure 33 = .ok (.ireturn, 1) := by decide +kernel
theorem dX11_insure_34 : decode cX11_insure 34 = .ok (.aload_n 0, 1) := by decide +kernel
theorem dX11_insure_35 : decode cX11_insure 35 = .ok (.getfield 19, 3) := by decide +kernel
theorem dX11_insure_38 : decode cX11_insure 38 = .ok (.getfield 166, 3) := by decide +kernel
theorem dX11_insure_41 : decode cX11_insure 41 = .ok (.iload_n 1, 1) := by decide +kernel
theorem dX11_insure_42 : decode cX11_insure 42 = .ok (.iaload, 1) := by decide +kernel
theorem dX11_insure_43 : decode cX11_insure 43 = .ok (.iconst 0, 1) := by decide +kernel
theorem dX11_insure_44 : decode cX11_insure 44 = .ok (.aload_n 0, 1) := by decide +kernel
theorem dX11_insure_45 : decode cX11_insure 45 = .ok (.getfield 83, 3) := by decide +kernel
theorem dX11_insure_48 : decode cX11_insure 48 = .ok (.iload_n 1, 1) := by decide +kernel
theorem dX11_insure_49 : decode cX11_insure 49 = .ok (.aload_n 0, 1) := by decide +kernel
theorem dX11_insure_50 : decode cX11_insure 50 = .ok (.getfield 132, 3) := by decide +kernel
theorem dX11_insure_53 : decode cX11_insure 53 = .ok (.invokevirtual 363, 3) := by decide +kernel
theorem dX11_insure_56 : decode cX11_insure 56 = .ok (.invokestatic 366, 3) := by decide +kernel
theorem dX11_insure_59 : decode cX11_insure 59 = .ok (.iadd, 1) := by decide +kernel
theorem dX11_insure_60 : decode cX11_insure 60 = .ok (.istore_n 2, 1) := by decide +kernel
theorem dX11_insure_61 : decode cX11_insure 61 = .ok (.iload_n 2, 1) := by decide +kernel
theorem dX11_insure_62 : decode cX11_insure 62 = .ok (.sipush 999, 3) := by decide +kernel
theorem dX11_insure_65 : decode cX11_insure 65 = .ok (.iadd, 1) := by decide +kernel
theorem dX11_insure_66 : decode cX11_insure 66 = .ok (.sipush 1000, 3) := by decide +kernel
theorem dX11_insure_69 : decode cX11_insure 69 = .ok (.idiv, 1) := by decide +kernel
theorem dX11_insure_70 : decode cX11_insure 70 = .ok (.ireturn, 1) := by decide +kernel
theorem dX11_link_0 : decode cX11_link 0 = .ok (.aload_n 0, 1) := by decide +kernel
theorem dX11_link_1 : decode cX11_link 1 = .ok (.getfield 19, 3) := by decide +kernel
theorem dX11_link_4 : decode cX11_link 4 = .ok (.iload_n 1, 1) := by decide +kernel
theorem dX11_link_5 : decode cX11_link 5 = .ok (.invokevirtual 117, 3) := by decide +kernel
theorem dX11_link_8 : decode cX11_link 8 = .ok (.ifCond .eq 20, 3) := by decide +kernel
theorem dX11_link_11 : decode cX11_link 11 = .ok (.iload_n 2, 1) := by decide +kernel
theorem dX11_link_12 : decode cX11_link 12 = .ok (.iconst 0, 1) := by decide +kernel
theorem dX11_link_13 : decode cX11_link 13 = .ok (.bipush 9, 2) := by decide +kernel
theorem dX11_link_15 : decode cX11_link 15 = .ok (.invokestatic 106, 3) := by decide +kernel
theorem dX11_link_18 : decode cX11_link 18 = .ok (.ifCond .eq 10, 3) := by decide +kernel
theorem dX11_link_21 : decode cX11_link 21 = .ok (.iload_n 3, 1) := by decide +kernel
theorem dX11_link_22 : decode cX11_link 22 = .ok (.invokestatic 101, 3) := by decide +kernel
theorem dX11_link_25 : decode cX11_link 25 = .ok (.ifCond .ne 5, 3) := by decide +kernel
theorem dX11_link_28 : decode cX11_link 28 = .ok (.iconst (-1), 1) := by decide +kernel
theorem dX11_link_29 : decode cX11_link 29 = .ok (.ireturn, 1) := by decide +kernel
theorem dX11_link_30 : decode cX11_link 30 = .ok (.aload_n 0, 1) := by decide +kernel
theorem dX11_link_31 : decode cX11_link 31 = .ok (.getfield 19, 3) := by decide +kernel
theorem dX11_link_34 : decode cX11_link 34 = .ok (.iload_n 1, 1) := by decide +kernel
theorem dX11_link_35 : decode cX11_link 35 = .ok (.iload_n 3, 1) := by decide +kernel
theorem dX11_link_36 : decode cX11_link 36 = .ok (.invokevirtual 371, 3) := by decide +kernel
theorem dX11_link_39 : decode cX11_link 39 = .ok (.ireturn, 1) := by decide +kernel
theorem dX11_net_0 : decode cX11_net 0 = .ok (.aload_n 0, 1) := by decide +kernel
theorem dX11_net_1 : decode cX11_net 1 = .ok (.getfield 19, 3) := by decide +kernel
theorem dX11_net_4 : decode cX11_net 4 = .ok (.iload_n 1, 1) := by decide +kernel
theorem dX11_net_5 : decode cX11_net 5 = .ok (.invokevirtual 117, 3) := by decide +kernel
theorem dX11_net_8 : decode cX11_net 8 = .ok (.ifCond .eq 33, 3) := by decide +kernel
theorem dX11_net_11 : decode cX11_net 11 = .ok (.iload_n 3, 1) := by decide +kernel
theorem dX11_net_12 : decode cX11_net 12 = .ok (.iconst 1, 1) := by decide +kernel
theorem dX11_net_13 : decode cX11_net 13 = .ok (.sipush 999, 3) := by decide +kernel
theorem dX11_net_16 : decode cX11_net 16 = .ok (.invokestatic 106, 3) := by decide +kernel
theorem dX11_net_19 : decode cX11_net 19 = .ok (.ifCond .eq 22, 3) := by decide +kernel
theorem dX11_net_22 : decode cX11_net 22 = .ok (.iload_n 2, 1) := by decide +kernel
theorem dX11_net_23 : decode cX11_net 23 = .ok (.iconst 0, 1) := by decide +kernel
theorem dX11_net_24 : decode cX11_net 24 = .ok (.aload_n 0, 1) := by decide +kernel
theorem dX11_net_25 : decode cX11_net 25 = .ok (.getfield 19, 3) := by decide +kernel
theorem dX11_net_28 : decode cX11_net 28 = .ok (.getfield 374, 3) := by decide +kernel
theorem dX11_net_31 : decode cX11_net 31 = .ok (.iload_n 1, 1) := by decide +kernel
theorem dX11_net_32 : decode cX11_net 32 = .ok (.iaload, 1) := by decide +kernel
theorem dX11_net_33 : decode cX11_net 33 = .ok (.iconst 1, 1) := by decide +kernel
theorem dX11_net_34 : decode cX11_net 34 = .ok (.isub, 1) := by decide +kernel
theorem dX11_net_35 : decode cX11_net 35 = .ok (.invokestatic 106, 3) := by decide +kernel
theorem dX11_net_38 : decode cX11_net 38 = .ok (.ifCond .ne 6, 3) := by decide +kernel
theorem dX11_net_41 : decode cX11_net 41 = .ok (.ldc 96, 2) := by decide +kernel
theorem dX11_net_43 : decode cX11_net 43 = .ok (.ireturn, 1) := by decide +kernel
theorem dX11_net_44 : decode cX11_net 44 = .ok (.aload_n 0, 1) := by decide +kernel
theorem dX11_net_45 : decode cX11_net 45 = .ok (.getfield 19, 3) := by decide +kernel
theorem dX11_net_48 : decode cX11_net 48 = .ok (.iload_n 1, 1) := by decide +kernel
theorem dX11_net_49 : decode cX11_net 49 = .ok (.iload_n 2, 1) := by decide +kernel
theorem dX11_net_50 : decode cX11_net 50 = .ok (.invokevirtual 377, 3) := by decide +kernel
theorem dX11_net_53 : decode cX11_net 53 = .ok (.aload_n 0, 1) := by decide +kernel
theorem dX11_net_54 : decode cX11_net 54 = .ok (.getfield 19, 3) := by decide +kernel
theorem dX11_net_57 : decode cX11_net 57 = .ok (.iload_n 1, 1) := by decide +kernel
theorem dX11_net_58 : decode cX11_net 58 = .ok (.iload_n 2, 1) := by decide +kernel
theorem dX11_net_59 : decode cX11_net 59 = .ok (.iconst 1, 1) := by decide +kernel
theorem dX11_net_60 : decode cX11_net 60 = .ok (.iadd, 1) := by decide +kernel
theorem dX11_net_61 : decode cX11_net 61 = .ok (.invokevirtual 377, 3) := by decide +kernel
theorem dX11_net_64 : decode cX11_net 64 = .ok (.isub, 1) := by decide +kernel
theorem dX11_net_65 : decode cX11_net 65 = .ok (.iload_n 3, 1) := by decide +kernel
theorem dX11_net_66 : decode cX11_net 66 = .ok (.imul, 1) := by decide +kernel
theorem dX11_net_67 : decode cX11_net 67 = .ok (.ireturn, 1) := by decide +kernel
theorem dX11_count_0 : decode cX11_count 0 = .ok (.iload_n 1, 1) := by decide +kernel
theorem dX11_count_1 : decode cX11_count 1 = .ok (.tableswitch 171 0 12 #[67, 75, 83, 91, 96, 104, 112, 120, 128, 138, 148, 158, 166], 67) := by decide +kernel
theorem dX11_count_68 : decode cX11_count 68 = .ok (.aload_n 0, 1) := by decide +kernel
theorem dX11_count_69 : decode cX11_count 69 = .ok (.getfield 10, 3) := by decide +kernel
theorem dX11_count_72 : decode cX11_count 72 = .ok (.getfield 380, 3) := by decide +kernel
theorem dX11_count_75 : decode cX11_count 75 = .ok (.ireturn, 1) := by decide +kernel
theorem dX11_count_76 : decode cX11_count 76 = .ok (.aload_n 0, 1) := by decide +kernel
theorem dX11_count_77 : decode cX11_count 77 = .ok (.getfield 19, 3) := by decide +kernel
theorem dX11_count_80 : decode cX11_count 80 = .ok (.getfield 381, 3) := by decide +kernel
theorem dX11_count_83 : decode cX11_count 83 = .ok (.ireturn, 1) := by decide +kernel
theorem dX11_count_84 : decode cX11_count 84 = .ok (.aload_n 0, 1) := by decide +kernel
theorem dX11_count_85 : decode cX11_count 85 = .ok (.getfield 35, 3) := by decide +kernel
theorem dX11_count_88 : decode cX11_count 88 = .ok (.getfield 185, 3) := by decide +kernel
theorem dX11_count_91 : decode cX11_count 91 = .ok (.ireturn, 1) := by decide +kernel
theorem dX11_count_92 : decode cX11_count 92 = .ok (.aload_n 0, 1) := by decide +kernel
theorem dX11_count_93 : decode cX11_count 93 = .ok (.getfield 132, 3) := by decide +kernel
theorem dX11_count_96 : decode cX11_count 96 = .ok (.ireturn, 1) := by decide +kernel
theorem dX11_count_97 : decode cX11_count 97 = .ok (.aload_n 0, 1) := by decide +kernel
theorem dX11_count_98 : decode cX11_count 98 = .ok (.getfield 49, 3) := by decide +kernel
theorem dX11_count_101 : decode cX11_count 101 = .ok (.getfield 282, 3) := by decide +kernel
theorem dX11_count_104 : decode cX11_count 104 = .ok (.ireturn, 1) := by decide +kernel
theorem dX11_count_105 : decode cX11_count 105 = .ok (.aload_n 0, 1) := by decide +kernel
theorem dX11_count_106 : decode cX11_count 106 = .ok (.getfield 67, 3) := by decide +kernel
theorem dX11_count_109 : decode cX11_count 109 = .ok (.getfield 382, 3) := by decide +kernel
theorem dX11_count_112 : decode cX11_count 112 = .ok (.ireturn, 1) := by decide +kernel
theorem dX11_count_113 : decode cX11_count 113 = .ok (.aload_n 0, 1) := by decide +kernel
