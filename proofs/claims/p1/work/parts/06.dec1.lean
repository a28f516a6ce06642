theorem dX11_least_18 : decode cX11_least 18 = .ok (.iconst (-1), 1) := by decide +kernel
theorem dX11_least_19 : decode cX11_least 19 = .ok (.ireturn, 1) := by decide +kernel
theorem dX11_past_0 : decode cX11_past 0 = .ok (.aload_n 0, 1) := by decide +kernel
theorem dX11_past_1 : decode cX11_past 1 = .ok (.getfield 35, 3) := by decide +kernel
theorem dX11_past_4 : decode cX11_past 4 = .ok (.iload_n 1, 1) := by decide +kernel
theorem dX11_past_5 : decode cX11_past 5 = .ok (.invokevirtual 200, 3) := by decide +kernel
theorem dX11_past_8 : decode cX11_past 8 = .ok (.ifCond .eq 27, 3) := by decide +kernel
theorem dX11_past_35 : decode cX11_past 35 = .ok (.iconst (-1), 1) := by decide +kernel
theorem dX11_past_36 : decode cX11_past 36 = .ok (.ireturn, 1) := by decide +kernel
theorem dX11_claim_0 : decode cX11_claim 0 = .ok (.aload_n 0, 1) := by decide +kernel
theorem dX11_claim_1 : decode cX11_claim 1 = .ok (.getfield 35, 3) := by decide +kernel
theorem dX11_claim_4 : decode cX11_claim 4 = .ok (.iload_n 1, 1) := by decide +kernel
theorem dX11_claim_5 : decode cX11_claim 5 = .ok (.invokevirtual 200, 3) := by decide +kernel
theorem dX11_claim_8 : decode cX11_claim 8 = .ok (.ifCond .eq 13, 3) := by decide +kernel
theorem dX11_claim_21 : decode cX11_claim 21 = .ok (.iconst (-1), 1) := by decide +kernel
theorem dX11_claim_22 : decode cX11_claim 22 = .ok (.ireturn, 1) := by decide +kernel
theorem dX11_stay_0 : decode cX11_stay 0 = .ok (.aload_n 0, 1) := by decide +kernel
theorem dX11_stay_1 : decode cX11_stay 1 = .ok (.iload_n 1, 1) := by decide +kernel
theorem dX11_stay_2 : decode cX11_stay 2 = .ok (.iload_n 2, 1) := by decide +kernel
theorem dX11_stay_3 : decode cX11_stay 3 = .ok (.invokevirtual 247, 3) := by decide +kernel
theorem dX11_stay_6 : decode cX11_stay 6 = .ok (.istore 4, 2) := by decide +kernel
theorem dX11_stay_8 : decode cX11_stay 8 = .ok (.iload 4, 2) := by decide +kernel
theorem dX11_stay_10 : decode cX11_stay 10 = .ok (.iconst (-1), 1) := by decide +kernel
theorem dX11_stay_11 : decode cX11_stay 11 = .ok (.if_icmp .ne 6, 3) := by decide +kernel
theorem dX11_stay_14 : decode cX11_stay 14 = .ok (.ldc 96, 2) := by decide +kernel
theorem dX11_stay_16 : decode cX11_stay 16 = .ok (.ireturn, 1) := by decide +kernel
theorem dX11_paper_0 : decode cX11_paper 0 = .ok (.aload_n 0, 1) := by decide +kernel
theorem dX11_paper_1 : decode cX11_paper 1 = .ok (.iload_n 1, 1) := by decide +kernel
theorem dX11_paper_2 : decode cX11_paper 2 = .ok (.iload_n 2, 1) := by decide +kernel
theorem dX11_paper_3 : decode cX11_paper 3 = .ok (.invokevirtual 247, 3) := by decide +kernel
theorem dX11_paper_6 : decode cX11_paper 6 = .ok (.istore 4, 2) := by decide +kernel
theorem dX11_paper_8 : decode cX11_paper 8 = .ok (.iload 4, 2) := by decide +kernel
theorem dX11_paper_10 : decode cX11_paper 10 = .ok (.iconst (-1), 1) := by decide +kernel
theorem dX11_paper_11 : decode cX11_paper 11 = .ok (.if_icmp .eq 12, 3) := by decide +kernel
theorem dX11_paper_23 : decode cX11_paper 23 = .ok (.iconst (-1), 1) := by decide +kernel
theorem dX11_paper_24 : decode cX11_paper 24 = .ok (.ireturn, 1) := by decide +kernel
theorem dX11_lost_0 : decode cX11_lost 0 = .ok (.aload_n 0, 1) := by decide +kernel
theorem dX11_lost_1 : decode cX11_lost 1 = .ok (.iload_n 1, 1) := by decide +kernel
theorem dX11_lost_2 : decode cX11_lost 2 = .ok (.iload_n 2, 1) := by decide +kernel
theorem dX11_lost_3 : decode cX11_lost 3 = .ok (.invokevirtual 247, 3) := by decide +kernel
theorem dX11_lost_6 : decode cX11_lost 6 = .ok (.istore 4, 2) := by decide +kernel
theorem dX11_lost_8 : decode cX11_lost 8 = .ok (.iload 4, 2) := by decide +kernel
theorem dX11_lost_10 : decode cX11_lost 10 = .ok (.iconst (-1), 1) := by decide +kernel
theorem dX11_lost_11 : decode cX11_lost 11 = .ok (.if_icmp .eq 10, 3) := by decide +kernel
theorem dX11_lost_21 : decode cX11_lost 21 = .ok (.iconst (-1), 1) := by decide +kernel
theorem dX11_lost_22 : decode cX11_lost 22 = .ok (.ireturn, 1) := by decide +kernel
theorem dX11_done_0 : decode cX11_done 0 = .ok (.aload_n 0, 1) := by decide +kernel
theorem dX11_done_1 : decode cX11_done 1 = .ok (.getfield 67, 3) := by decide +kernel
theorem dX11_done_4 : decode cX11_done 4 = .ok (.iload_n 1, 1) := by decide +kernel
theorem dX11_done_5 : decode cX11_done 5 = .ok (.invokevirtual 302, 3) := by decide +kernel
theorem dX11_done_8 : decode cX11_done 8 = .ok (.ifCond .eq 14, 3) := by decide +kernel
theorem dX11_done_22 : decode cX11_done 22 = .ok (.iconst (-1), 1) := by decide +kernel
theorem dX11_done_23 : decode cX11_done 23 = .ok (.ireturn, 1) := by decide +kernel
theorem dX12_need_0 : decode cX12_need 0 = .ok (.aload_n 0, 1) := by decide +kernel
theorem dX12_need_1 : decode cX12_need 1 = .ok (.iload_n 1, 1) := by decide +kernel
theorem dX12_need_2 : decode cX12_need 2 = .ok (.invokevirtual 169, 3) := by decide +kernel
theorem dX12_need_5 : decode cX12_need 5 = .ok (.ifCond .eq 20, 3) := by decide +kernel
theorem dX12_need_25 : decode cX12_need 25 = .ok (.iconst (-1), 1) := by decide +kernel
theorem dX12_need_26 : decode cX12_need 26 = .ok (.ireturn, 1) := by decide +kernel
theorem dX12_fly_0 : decode cX12_fly 0 = .ok (.aload_n 0, 1) := by decide +kernel
theorem dX12_fly_1 : decode cX12_fly 1 = .ok (.iload_n 1, 1) := by decide +kernel
theorem dX12_fly_2 : decode cX12_fly 2 = .ok (.invokevirtual 169, 3) := by decide +kernel
theorem dX12_fly_5 : decode cX12_fly 5 = .ok (.ifCond .eq 25, 3) := by decide +kernel
theorem dX12_fly_30 : decode cX12_fly 30 = .ok (.iconst (-1), 1) := by decide +kernel
theorem dX12_fly_31 : decode cX12_fly 31 = .ok (.ireturn, 1) := by decide +kernel
theorem dX12_ofPlane_0 : decode cX12_ofPlane 0 = .ok (.aload_n 0, 1) := by decide +kernel
theorem dX12_ofPlane_1 : decode cX12_ofPlane 1 = .ok (.iload_n 1, 1) := by decide +kernel
theorem dX12_ofPlane_2 : decode cX12_ofPlane 2 = .ok (.invokevirtual 169, 3) := by decide +kernel
theorem dX12_ofPlane_5 : decode cX12_ofPlane 5 = .ok (.ifCond .ne 6, 3) := by decide +kernel
theorem dX12_ofPlane_8 : decode cX12_ofPlane 8 = .ok (.ldc 236, 2) := by decide +kernel
theorem dX12_ofPlane_10 : decode cX12_ofPlane 10 = .ok (.ireturn, 1) := by decide +kernel
theorem dX12_grounded_0 : decode cX12_grounded 0 = .ok (.aload_n 0, 1) := by decide +kernel
theorem dX12_grounded_1 : decode cX12_grounded 1 = .ok (.iload_n 1, 1) := by decide +kernel
theorem dX12_grounded_2 : decode cX12_grounded 2 = .ok (.invokevirtual 169, 3) := by decide +kernel
theorem dX12_grounded_5 : decode cX12_grounded 5 = .ok (.ifCond .eq 19, 3) := by decide +kernel
theorem dX12_grounded_24 : decode cX12_grounded 24 = .ok (.iconst (-1), 1) := by decide +kernel
theorem dX12_grounded_25 : decode cX12_grounded 25 = .ok (.ireturn, 1) := by decide +kernel
theorem dX12_contract_0 : decode cX12_contract 0 = .ok (.aload_n 0, 1) := by decide +kernel
theorem dX12_contract_1 : decode cX12_contract 1 = .ok (.iload_n 1, 1) := by decide +kernel
theorem dX12_contract_2 : decode cX12_contract 2 = .ok (.invokevirtual 169, 3) := by decide +kernel
theorem dX12_contract_5 : decode cX12_contract 5 = .ok (.ifCond .eq 20, 3) := by decide +kernel
theorem dX12_contract_25 : decode cX12_contract 25 = .ok (.iconst (-1), 1) := by decide +kernel
theorem dX12_contract_26 : decode cX12_contract 26 = .ok (.ireturn, 1) := by decide +kernel
theorem dX12_lacks_0 : decode cX12_lacks 0 = .ok (.aload_n 0, 1) := by decide +kernel
theorem dX12_lacks_1 : decode cX12_lacks 1 = .ok (.iload_n 1, 1) := by decide +kernel
theorem dX12_lacks_2 : decode cX12_lacks 2 = .ok (.invokevirtual 169, 3) := by decide +kernel
theorem dX12_lacks_5 : decode cX12_lacks 5 = .ok (.ifCond .eq 42, 3) := by decide +kernel
theorem dX12_lacks_47 : decode cX12_lacks 47 = .ok (.iconst (-1), 1) := by decide +kernel
theorem dX12_lacks_48 : decode cX12_lacks 48 = .ok (.ireturn, 1) := by decide +kernel
theorem dX12_costs_0 : decode cX12_costs 0 = .ok (.aload_n 0, 1) := by decide +kernel
theorem dX12_costs_1 : decode cX12_costs 1 = .ok (.iload_n 1, 1) := by decide +kernel
theorem dX12_costs_2 : decode cX12_costs 2 = .ok (.invokevirtual 169, 3) := by decide +kernel
theorem dX12_costs_5 : decode cX12_costs 5 = .ok (.ifCond .eq 42, 3) := by decide +kernel
theorem dX12_costs_47 : decode cX12_costs 47 = .ok (.ldc 236, 2) := by decide +kernel
theorem dX12_costs_49 : decode cX12_costs 49 = .ok (.ireturn, 1) := by decide +kernel
theorem dX12_giveBack_0 : decode cX12_giveBack 0 = .ok (.aload_n 0, 1) := by decide +kernel
theorem dX12_giveBack_1 : decode cX12_giveBack 1 = .ok (.iload_n 1, 1) := by decide +kernel
theorem dX12_giveBack_2 : decode cX12_giveBack 2 = .ok (.invokevirtual 169, 3) := by decide +kernel
theorem dX12_giveBack_5 : decode cX12_giveBack 5 = .ok (.ifCond .ne 5, 3) := by decide +kernel
theorem dX12_giveBack_8 : decode cX12_giveBack 8 = .ok (.iconst (-1), 1) := by decide +kernel
theorem dX12_giveBack_9 : decode cX12_giveBack 9 = .ok (.ireturn, 1) := by decide +kernel
theorem dX12_best_0 : decode cX12_best 0 = .ok (.aload_n 0, 1) := by decide +kernel
theorem dX12_best_1 : decode cX12_best 1 = .ok (.iload_n 1, 1) := by decide +kernel
theorem dX12_best_2 : decode cX12_best 2 = .ok (.invokevirtual 169, 3) := by decide +kernel
theorem dX12_best_5 : decode cX12_best 5 = .ok (.ifCond .eq 11, 3) := by decide +kernel
theorem dX12_best_16 : decode cX12_best 16 = .ok (.iconst (-1), 1) := by decide +kernel
theorem dX12_best_17 : decode cX12_best 17 = .ok (.ireturn, 1) := by decide +kernel
theorem dX12_reserve_0 : decode cX12_reserve 0 = .ok (.aload_n 0, 1) := by decide +kernel
theorem dX12_reserve_1 : decode cX12_reserve 1 = .ok (.iload_n 1, 1) := by decide +kernel
theorem dX12_reserve_2 : decode cX12_reserve 2 = .ok (.invokevirtual 169, 3) := by decide +kernel
theorem dX12_reserve_5 : decode cX12_reserve 5 = .ok (.ifCond .eq 25, 3) := by decide +kernel
theorem dX12_reserve_30 : decode cX12_reserve 30 = .ok (.iconst (-1), 1) := by decide +kernel
theorem dX12_reserve_31 : decode cX12_reserve 31 = .ok (.ireturn, 1) := by decide +kernel
theorem dX12_half_0 : decode cX12_half 0 = .ok (.aload_n 0, 1) := by decide +kernel
theorem dX12_half_1 : decode cX12_half 1 = .ok (.iload_n 1, 1) := by decide +kernel
theorem dX12_half_2 : decode cX12_half 2 = .ok (.invokevirtual 169, 3) := by decide +kernel
theorem dX12_half_5 : decode cX12_half 5 = .ok (.ifCond .eq 19, 3) := by decide +kernel
theorem dX12_half_24 : decode cX12_half 24 = .ok (.ldc 236, 2) := by decide +kernel
theorem dX12_half_26 : decode cX12_half 26 = .ok (.ireturn, 1) := by decide +kernel
theorem dX12_insure_0 : decode cX12_insure 0 = .ok (.aload_n 0, 1) := by decide +kernel
theorem dX12_insure_1 : decode cX12_insure 1 = .ok (.iload_n 1, 1) := by decide +kernel
theorem dX12_insure_2 : decode cX12_insure 2 = .ok (.invokevirtual 169, 3) := by decide +kernel
theorem dX12_insure_5 : decode cX12_insure 5 = .ok (.ifCond .ne 5, 3) := by decide +kernel
theorem dX12_insure_8 : decode cX12_insure 8 = .ok (.iconst (-1), 1) := by decide +kernel
theorem dX12_insure_9 : decode cX12_insure 9 = .ok (.ireturn, 1) := by decide +kernel
theorem dX12_link_0 : decode cX12_link 0 = .ok (.aload_n 0, 1) := by decide +kernel
theorem dX12_link_1 : decode cX12_link 1 = .ok (.iload_n 1, 1) := by decide +kernel
theorem dX12_link_2 : decode cX12_link 2 = .ok (.invokevirtual 169, 3) := by decide +kernel
theorem dX12_link_5 : decode cX12_link 5 = .ok (.ifCond .eq 23, 3) := by decide +kernel
theorem dX12_link_28 : decode cX12_link 28 = .ok (.iconst (-1), 1) := by decide +kernel
theorem dX12_link_29 : decode cX12_link 29 = .ok (.ireturn, 1) := by decide +kernel
theorem dX12_net_0 : decode cX12_net 0 = .ok (.aload_n 0, 1) := by decide +kernel
theorem dX12_net_1 : decode cX12_net 1 = .ok (.iload_n 1, 1) := by decide +kernel
theorem dX12_net_2 : decode cX12_net 2 = .ok (.invokevirtual 169, 3) := by decide +kernel
theorem dX12_net_5 : decode cX12_net 5 = .ok (.ifCond .eq 30, 3) := by decide +kernel
theorem dX12_net_35 : decode cX12_net 35 = .ok (.ldc 236, 2) := by decide +kernel
theorem dX12_net_37 : decode cX12_net 37 = .ok (.ireturn, 1) := by decide +kernel
theorem dX12_part_0 : decode cX12_part 0 = .ok (.aload_n 0, 1) := by decide +kernel
theorem dX12_part_1 : decode cX12_part 1 = .ok (.iload_n 1, 1) := by decide +kernel
theorem dX12_part_2 : decode cX12_part 2 = .ok (.invokevirtual 173, 3) := by decide +kernel
theorem dX12_part_5 : decode cX12_part 5 = .ok (.ifCond .eq 45, 3) := by decide +kernel
theorem dX12_part_50 : decode cX12_part 50 = .ok (.iconst (-1), 1) := by decide +kernel
theorem dX12_part_51 : decode cX12_part 51 = .ok (.ireturn, 1) := by decide +kernel
theorem dX12_order_0 : decode cX12_order 0 = .ok (.aload_n 0, 1) := by decide +kernel
theorem dX12_order_1 : decode cX12_order 1 = .ok (.iload_n 1, 1) := by decide +kernel
theorem dX12_order_2 : decode cX12_order 2 = .ok (.invokevirtual 173, 3) := by decide +kernel
theorem dX12_order_5 : decode cX12_order 5 = .ok (.ifCond .eq 10, 3) := by decide +kernel
theorem dX12_order_15 : decode cX12_order 15 = .ok (.iconst (-1), 1) := by decide +kernel
theorem dX12_order_16 : decode cX12_order 16 = .ok (.ireturn, 1) := by decide +kernel
theorem dX12_move_0 : decode cX12_move 0 = .ok (.aload_n 0, 1) := by decide +kernel
theorem dX12_move_1 : decode cX12_move 1 = .ok (.iload_n 1, 1) := by decide +kernel
theorem dX12_move_2 : decode cX12_move 2 = .ok (.invokevirtual 202, 3) := by decide +kernel
theorem dX12_move_5 : decode cX12_move 5 = .ok (.ifCond .eq 27, 3) := by decide +kernel
theorem dX12_move_32 : decode cX12_move 32 = .ok (.iconst (-1), 1) := by decide +kernel
theorem dX12_move_33 : decode cX12_move 33 = .ok (.ireturn, 1) := by decide +kernel
theorem dX12_swap_0 : decode cX12_swap 0 = .ok (.aload_n 0, 1) := by decide +kernel
theorem dX12_swap_1 : decode cX12_swap 1 = .ok (.iload_n 1, 1) := by decide +kernel
theorem dX12_swap_2 : decode cX12_swap 2 = .ok (.invokevirtual 202, 3) := by decide +kernel
theorem dX12_swap_5 : decode cX12_swap 5 = .ok (.ifCond .eq 11, 3) := by decide +kernel
theorem dX12_swap_16 : decode cX12_swap 16 = .ok (.iconst (-1), 1) := by decide +kernel
theorem dX12_swap_17 : decode cX12_swap 17 = .ok (.ireturn, 1) := by decide +kernel
theorem dX12_repair_0 : decode cX12_repair 0 = .ok (.aload_n 0, 1) := by decide +kernel
theorem dX12_repair_1 : decode cX12_repair 1 = .ok (.iload_n 1, 1) := by decide +kernel
theorem dX12_repair_2 : decode cX12_repair 2 = .ok (.invokevirtual 202, 3) := by decide +kernel
theorem dX12_repair_5 : decode cX12_repair 5 = .ok (.ifCond .eq 13, 3) := by decide +kernel
theorem dX12_repair_18 : decode cX12_repair 18 = .ok (.iconst (-1), 1) := by decide +kernel
theorem dX12_repair_19 : decode cX12_repair 19 = .ok (.ireturn, 1) := by decide +kernel
theorem dX12_ofPart_0 : decode cX12_ofPart 0 = .ok (.aload_n 0, 1) := by decide +kernel
theorem dX12_ofPart_1 : decode cX12_ofPart 1 = .ok (.iload_n 1, 1) := by decide +kernel
theorem dX12_ofPart_2 : decode cX12_ofPart 2 = .ok (.invokevirtual 202, 3) := by decide +kernel
theorem dX12_ofPart_5 : decode cX12_ofPart 5 = .ok (.ifCond .ne 6, 3) := by decide +kernel
theorem dX12_ofPart_8 : decode cX12_ofPart 8 = .ok (.ldc 236, 2) := by decide +kernel
theorem dX12_ofPart_10 : decode cX12_ofPart 10 = .ok (.ireturn, 1) := by decide +kernel
theorem dX12_left_0 : decode cX12_left 0 = .ok (.aload_n 0, 1) := by decide +kernel
theorem dX12_left_1 : decode cX12_left 1 = .ok (.iload_n 1, 1) := by decide +kernel
theorem dX12_left_2 : decode cX12_left 2 = .ok (.invokevirtual 202, 3) := by decide +kernel
theorem dX12_left_5 : decode cX12_left 5 = .ok (.ifCond .eq 38, 3) := by decide +kernel
theorem dX12_left_43 : decode cX12_left 43 = .ok (.ldc 236, 2) := by decide +kernel
theorem dX12_left_45 : decode cX12_left 45 = .ok (.ireturn, 1) := by decide +kernel
theorem dX12_least_0 : decode cX12_least 0 = .ok (.aload_n 0, 1) := by decide +kernel
theorem dX12_least_1 : decode cX12_least 1 = .ok (.iload_n 1, 1) := by decide +kernel
theorem dX12_least_2 : decode cX12_least 2 = .ok (.invokevirtual 202, 3) := by decide +kernel
theorem dX12_least_5 : decode cX12_least 5 = .ok (.ifCond .eq 10, 3) := by decide +kernel
theorem dX12_least_15 : decode cX12_least 15 = .ok (.iconst (-1), 1) := by decide +kernel
theorem dX12_least_16 : decode cX12_least 16 = .ok (.ireturn, 1) := by decide +kernel
theorem dX12_past_0 : decode cX12_past 0 = .ok (.aload_n 0, 1) := by decide +kernel
theorem dX12_past_1 : decode cX12_past 1 = .ok (.iload_n 1, 1) := by decide +kernel
theorem dX12_past_2 : decode cX12_past 2 = .ok (.invokevirtual 202, 3) := by decide +kernel
theorem dX12_past_5 : decode cX12_past 5 = .ok (.ifCond .eq 31, 3) := by decide +kernel
theorem dX12_past_36 : decode cX12_past 36 = .ok (.iconst (-1), 1) := by decide +kernel
theorem dX12_past_37 : decode cX12_past 37 = .ok (.ireturn, 1) := by decide +kernel
theorem dX12_claim_0 : decode cX12_claim 0 = .ok (.aload_n 0, 1) := by decide +kernel
theorem dX12_claim_1 : decode cX12_claim 1 = .ok (.iload_n 1, 1) := by decide +kernel
theorem dX12_claim_2 : decode cX12_claim 2 = .ok (.invokevirtual 202, 3) := by decide +kernel
theorem dX12_claim_5 : decode cX12_claim 5 = .ok (.ifCond .eq 13, 3) := by decide +kernel
theorem dX12_claim_18 : decode cX12_claim 18 = .ok (.iconst (-1), 1) := by decide +kernel
theorem dX12_claim_19 : decode cX12_claim 19 = .ok (.ireturn, 1) := by decide +kernel
theorem dX12_stay_0 : decode cX12_stay 0 = .ok (.aload_n 0, 1) := by decide +kernel
theorem dX12_stay_1 : decode cX12_stay 1 = .ok (.iload_n 1, 1) := by decide +kernel
theorem dX12_stay_2 : decode cX12_stay 2 = .ok (.invokevirtual 202, 3) := by decide +kernel
theorem dX12_stay_5 : decode cX12_stay 5 = .ok (.ifCond .eq 13, 3) := by decide +kernel
theorem dX12_stay_18 : decode cX12_stay 18 = .ok (.ldc 236, 2) := by decide +kernel
theorem dX12_stay_20 : decode cX12_stay 20 = .ok (.ireturn, 1) := by decide +kernel
theorem dX12_paper_0 : decode cX12_paper 0 = .ok (.aload_n 0, 1) := by decide +kernel
theorem dX12_paper_1 : decode cX12_paper 1 = .ok (.iload_n 1, 1) := by decide +kernel
theorem dX12_paper_2 : decode cX12_paper 2 = .ok (.invokevirtual 202, 3) := by decide +kernel
theorem dX12_paper_5 : decode cX12_paper 5 = .ok (.ifCond .eq 12, 3) := by decide +kernel
theorem dX12_paper_17 : decode cX12_paper 17 = .ok (.iconst (-1), 1) := by decide +kernel
theorem dX12_paper_18 : decode cX12_paper 18 = .ok (.ireturn, 1) := by decide +kernel
theorem dX12_lost_0 : decode cX12_lost 0 = .ok (.aload_n 0, 1) := by decide +kernel
theorem dX12_lost_1 : decode cX12_lost 1 = .ok (.iload_n 1, 1) := by decide +kernel
theorem dX12_lost_2 : decode cX12_lost 2 = .ok (.invokevirtual 202, 3) := by decide +kernel
theorem dX12_lost_5 : decode cX12_lost 5 = .ok (.ifCond .eq 10, 3) := by decide +kernel
theorem dX12_lost_15 : decode cX12_lost 15 = .ok (.iconst (-1), 1) := by decide +kernel
theorem dX12_lost_16 : decode cX12_lost 16 = .ok (.ireturn, 1) := by decide +kernel
theorem dX12_done_0 : decode cX12_done 0 = .ok (.iload_n 1, 1) := by decide +kernel
theorem dX12_done_1 : decode cX12_done 1 = .ok (.iconst 0, 1) := by decide +kernel
theorem dX12_done_2 : decode cX12_done 2 = .ok (.aload_n 0, 1) := by decide +kernel
theorem dX12_done_3 : decode cX12_done 3 = .ok (.getfield 324, 3) := by decide +kernel
theorem dX12_done_6 : decode cX12_done 6 = .ok (.iconst 1, 1) := by decide +kernel
theorem dX12_done_7 : decode cX12_done 7 = .ok (.isub, 1) := by decide +kernel
theorem dX12_done_8 : decode cX12_done 8 = .ok (.invokestatic 151, 3) := by decide +kernel
theorem dX12_done_11 : decode cX12_done 11 = .ok (.ifCond .eq 11, 3) := by decide +kernel
theorem dX12_done_22 : decode cX12_done 22 = .ok (.iconst (-1), 1) := by decide +kernel
theorem dX12_done_23 : decode cX12_done 23 = .ok (.ireturn, 1) := by decide +kernel
theorem dX12_done_14 : decode cX12_done 14 = .ok (.aload_n 0, 1) := by decide +kernel
theorem dX12_done_15 : decode cX12_done 15 = .ok (.iload_n 2, 1) := by decide +kernel
theorem dX12_done_16 : decode cX12_done 16 = .ok (.invokevirtual 169, 3) := by decide +kernel
theorem dX12_done_19 : decode cX12_done 19 = .ok (.ifCond .ne 5, 3) := by decide +kernel
theorem dX11_bestCost_0 : decode cX11_bestCost 0 = .ok (.aload_n 0, 1) := by decide +kernel
theorem dX11_bestCost_1 : decode cX11_bestCost 1 = .ok (.getfield 97, 3) := by decide +kernel
theorem dX11_bestCost_4 : decode cX11_bestCost 4 = .ok (.ireturn, 1) := by decide +kernel
theorem dX12_bestCost_0 : decode cX12_bestCost 0 = .ok (.aload_n 0, 1) := by decide +kernel
theorem dX12_bestCost_1 : decode cX12_bestCost 1 = .ok (.getfield 368, 3) := by decide +kernel
theorem dX12_bestCost_4 : decode cX12_bestCost 4 = .ok (.ifCond .eq 10, 3) := by decide +kernel
theorem dX12_bestCost_14 : decode cX12_bestCost 14 = .ok (.ldc 236, 2) := by decide +kernel
theorem dX12_bestCost_16 : decode cX12_bestCost 16 = .ok (.ireturn, 1) := by decide +kernel
theorem dX2_add_0 : decode cX2_add 0 = .ok (.aload_n 0, 1) := by decide +kernel
theorem dX2_add_1 : decode cX2_add 1 = .ok (.getfield 21, 3) := by decide +kernel
theorem dX2_add_4 : decode cX2_add 4 = .ok (.bipush 10, 2) := by decide +kernel
theorem dX2_add_6 : decode cX2_add 6 = .ok (.if_icmp .lt 6, 3) := by decide +kernel
theorem dX2_add_12 : decode cX2_add 12 = .ok (.aload_n 0, 1) := by decide +kernel
theorem dX2_add_13 : decode cX2_add 13 = .ok (.getfield 9, 3) := by decide +kernel
theorem dX2_add_16 : decode cX2_add 16 = .ok (.aload_n 0, 1) := by decide +kernel
theorem dX2_add_17 : decode cX2_add 17 = .ok (.getfield 21, 3) := by decide +kernel
theorem dX2_add_20 : decode cX2_add 20 = .ok (.iconst 3, 1) := by decide +kernel
theorem dX2_add_21 : decode cX2_add 21 = .ok (.imul, 1) := by decide +kernel
theorem dX2_add_22 : decode cX2_add 22 = .ok (.iconst 0, 1) := by decide +kernel
theorem dX2_add_23 : decode cX2_add 23 = .ok (.iadd, 1) := by decide +kernel
theorem dX2_add_24 : decode cX2_add 24 = .ok (.iload_n 1, 1) := by decide +kernel
