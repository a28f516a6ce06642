theorem dX6_add_16 : decode cX6_add 16 = .ok (.aload_n 0, 1) := by decide +kernel
theorem dX6_add_17 : decode cX6_add 17 = .ok (.getfield 26, 3) := by decide +kernel
theorem dX6_add_20 : decode cX6_add 20 = .ok (.iload_n 1, 1) := by decide +kernel
theorem dX6_add_21 : decode cX6_add 21 = .ok (.iastore, 1) := by decide +kernel
theorem dX6_add_22 : decode cX6_add 22 = .ok (.aload_n 0, 1) := by decide +kernel
theorem dX6_add_23 : decode cX6_add 23 = .ok (.getfield 15, 3) := by decide +kernel
theorem dX6_add_26 : decode cX6_add 26 = .ok (.aload_n 0, 1) := by decide +kernel
theorem dX6_add_27 : decode cX6_add 27 = .ok (.getfield 26, 3) := by decide +kernel
theorem dX6_add_30 : decode cX6_add 30 = .ok (.iload_n 2, 1) := by decide +kernel
theorem dX6_add_31 : decode cX6_add 31 = .ok (.iastore, 1) := by decide +kernel
theorem dX6_add_32 : decode cX6_add 32 = .ok (.aload_n 0, 1) := by decide +kernel
theorem dX6_add_33 : decode cX6_add 33 = .ok (.dup, 1) := by decide +kernel
theorem dX6_add_34 : decode cX6_add 34 = .ok (.getfield 26, 3) := by decide +kernel
theorem dX6_add_37 : decode cX6_add 37 = .ok (.dup_x1, 1) := by decide +kernel
theorem dX6_add_38 : decode cX6_add 38 = .ok (.iconst 1, 1) := by decide +kernel
theorem dX6_add_39 : decode cX6_add 39 = .ok (.iadd, 1) := by decide +kernel
theorem dX6_add_40 : decode cX6_add 40 = .ok (.putfield 26, 3) := by decide +kernel
theorem dX6_add_43 : decode cX6_add 43 = .ok (.ireturn, 1) := by decide +kernel
theorem dX6_finish_0 : decode cX6_finish 0 = .ok (.aload_n 0, 1) := by decide +kernel
theorem dX6_finish_1 : decode cX6_finish 1 = .ok (.getfield 18, 3) := by decide +kernel
theorem dX6_finish_4 : decode cX6_finish 4 = .ok (.iload_n 1, 1) := by decide +kernel
theorem dX6_finish_5 : decode cX6_finish 5 = .ok (.bipush 10, 2) := by decide +kernel
theorem dX6_finish_7 : decode cX6_finish 7 = .ok (.imul, 1) := by decide +kernel
theorem dX6_finish_8 : decode cX6_finish 8 = .ok (.iload_n 2, 1) := by decide +kernel
theorem dX6_finish_9 : decode cX6_finish 9 = .ok (.iadd, 1) := by decide +kernel
theorem dX6_finish_10 : decode cX6_finish 10 = .ok (.iconst 1, 1) := by decide +kernel
theorem dX6_finish_11 : decode cX6_finish 11 = .ok (.bastore, 1) := by decide +kernel
theorem dX6_finish_12 : decode cX6_finish 12 = .ok (.return_, 1) := by decide +kernel
theorem dX6_isDue_0 : decode cX6_isDue 0 = .ok (.aload_n 0, 1) := by decide +kernel
theorem dX6_isDue_1 : decode cX6_isDue 1 = .ok (.getfield 22, 3) := by decide +kernel
theorem dX6_isDue_4 : decode cX6_isDue 4 = .ok (.iload_n 2, 1) := by decide +kernel
theorem dX6_isDue_5 : decode cX6_isDue 5 = .ok (.aload_n 0, 1) := by decide +kernel
theorem dX6_isDue_6 : decode cX6_isDue 6 = .ok (.getfield 9, 3) := by decide +kernel
theorem dX6_isDue_9 : decode cX6_isDue 9 = .ok (.iload_n 1, 1) := by decide +kernel
theorem dX6_isDue_10 : decode cX6_isDue 10 = .ok (.iaload, 1) := by decide +kernel
theorem dX6_isDue_11 : decode cX6_isDue 11 = .ok (.invokevirtual 30, 3) := by decide +kernel
theorem dX6_isDue_14 : decode cX6_isDue 14 = .ok (.ifCond .le 21, 3) := by decide +kernel
theorem dX6_isDue_17 : decode cX6_isDue 17 = .ok (.aload_n 0, 1) := by decide +kernel
theorem dX6_isDue_18 : decode cX6_isDue 18 = .ok (.getfield 18, 3) := by decide +kernel
theorem dX6_isDue_21 : decode cX6_isDue 21 = .ok (.iload_n 1, 1) := by decide +kernel
theorem dX6_isDue_22 : decode cX6_isDue 22 = .ok (.bipush 10, 2) := by decide +kernel
theorem dX6_isDue_24 : decode cX6_isDue 24 = .ok (.imul, 1) := by decide +kernel
theorem dX6_isDue_25 : decode cX6_isDue 25 = .ok (.iload_n 2, 1) := by decide +kernel
theorem dX6_isDue_26 : decode cX6_isDue 26 = .ok (.iadd, 1) := by decide +kernel
theorem dX6_isDue_27 : decode cX6_isDue 27 = .ok (.baload, 1) := by decide +kernel
theorem dX6_isDue_28 : decode cX6_isDue 28 = .ok (.ifCond .ne 7, 3) := by decide +kernel
theorem dX6_isDue_31 : decode cX6_isDue 31 = .ok (.iconst 1, 1) := by decide +kernel
theorem dX6_isDue_32 : decode cX6_isDue 32 = .ok (.goto 4, 3) := by decide +kernel
theorem dX6_isDue_35 : decode cX6_isDue 35 = .ok (.iconst 0, 1) := by decide +kernel
theorem dX6_isDue_36 : decode cX6_isDue 36 = .ok (.ireturn, 1) := by decide +kernel
theorem dX6_countDue_0 : decode cX6_countDue 0 = .ok (.iconst 0, 1) := by decide +kernel
theorem dX6_countDue_1 : decode cX6_countDue 1 = .ok (.istore_n 2, 1) := by decide +kernel
theorem dX6_countDue_2 : decode cX6_countDue 2 = .ok (.iconst 0, 1) := by decide +kernel
theorem dX6_countDue_3 : decode cX6_countDue 3 = .ok (.istore_n 3, 1) := by decide +kernel
theorem dX6_countDue_4 : decode cX6_countDue 4 = .ok (.iload_n 3, 1) := by decide +kernel
theorem dX6_countDue_5 : decode cX6_countDue 5 = .ok (.aload_n 0, 1) := by decide +kernel
theorem dX6_countDue_6 : decode cX6_countDue 6 = .ok (.getfield 26, 3) := by decide +kernel
theorem dX6_countDue_9 : decode cX6_countDue 9 = .ok (.if_icmp .ge 26, 3) := by decide +kernel
theorem dX6_countDue_12 : decode cX6_countDue 12 = .ok (.iload_n 2, 1) := by decide +kernel
theorem dX6_countDue_13 : decode cX6_countDue 13 = .ok (.aload_n 0, 1) := by decide +kernel
theorem dX6_countDue_14 : decode cX6_countDue 14 = .ok (.iload_n 3, 1) := by decide +kernel
theorem dX6_countDue_15 : decode cX6_countDue 15 = .ok (.iload_n 1, 1) := by decide +kernel
theorem dX6_countDue_16 : decode cX6_countDue 16 = .ok (.invokevirtual 36, 3) := by decide +kernel
theorem dX6_countDue_19 : decode cX6_countDue 19 = .ok (.ifCond .eq 7, 3) := by decide +kernel
theorem dX6_countDue_22 : decode cX6_countDue 22 = .ok (.iconst 1, 1) := by decide +kernel
theorem dX6_countDue_23 : decode cX6_countDue 23 = .ok (.goto 4, 3) := by decide +kernel
theorem dX6_countDue_26 : decode cX6_countDue 26 = .ok (.iconst 0, 1) := by decide +kernel
theorem dX6_countDue_27 : decode cX6_countDue 27 = .ok (.iadd, 1) := by decide +kernel
theorem dX6_countDue_28 : decode cX6_countDue 28 = .ok (.istore_n 2, 1) := by decide +kernel
theorem dX6_countDue_29 : decode cX6_countDue 29 = .ok (.iinc 3 1, 3) := by decide +kernel
theorem dX6_countDue_32 : decode cX6_countDue 32 = .ok (.goto (-28), 3) := by decide +kernel
theorem dX6_countDue_35 : decode cX6_countDue 35 = .ok (.iload_n 2, 1) := by decide +kernel
theorem dX6_countDue_36 : decode cX6_countDue 36 = .ok (.ireturn, 1) := by decide +kernel
theorem dX6_anyLate_0 : decode cX6_anyLate 0 = .ok (.iconst 0, 1) := by decide +kernel
theorem dX6_anyLate_1 : decode cX6_anyLate 1 = .ok (.istore_n 3, 1) := by decide +kernel
theorem dX6_anyLate_2 : decode cX6_anyLate 2 = .ok (.iload_n 3, 1) := by decide +kernel
theorem dX6_anyLate_3 : decode cX6_anyLate 3 = .ok (.aload_n 0, 1) := by decide +kernel
theorem dX6_anyLate_4 : decode cX6_anyLate 4 = .ok (.getfield 26, 3) := by decide +kernel
theorem dX6_anyLate_7 : decode cX6_anyLate 7 = .ok (.if_icmp .ge 30, 3) := by decide +kernel
theorem dX6_anyLate_10 : decode cX6_anyLate 10 = .ok (.aload_n 0, 1) := by decide +kernel
theorem dX6_anyLate_11 : decode cX6_anyLate 11 = .ok (.getfield 15, 3) := by decide +kernel
theorem dX6_anyLate_14 : decode cX6_anyLate 14 = .ok (.iload_n 3, 1) := by decide +kernel
theorem dX6_anyLate_15 : decode cX6_anyLate 15 = .ok (.iaload, 1) := by decide +kernel
theorem dX6_anyLate_16 : decode cX6_anyLate 16 = .ok (.iload_n 2, 1) := by decide +kernel
theorem dX6_anyLate_17 : decode cX6_anyLate 17 = .ok (.if_icmp .ge 14, 3) := by decide +kernel
theorem dX6_anyLate_20 : decode cX6_anyLate 20 = .ok (.aload_n 0, 1) := by decide +kernel
theorem dX6_anyLate_21 : decode cX6_anyLate 21 = .ok (.iload_n 3, 1) := by decide +kernel
theorem dX6_anyLate_22 : decode cX6_anyLate 22 = .ok (.iload_n 1, 1) := by decide +kernel
theorem dX6_anyLate_23 : decode cX6_anyLate 23 = .ok (.invokevirtual 36, 3) := by decide +kernel
theorem dX6_anyLate_26 : decode cX6_anyLate 26 = .ok (.ifCond .eq 5, 3) := by decide +kernel
theorem dX6_anyLate_29 : decode cX6_anyLate 29 = .ok (.iconst 1, 1) := by decide +kernel
theorem dX6_anyLate_30 : decode cX6_anyLate 30 = .ok (.ireturn, 1) := by decide +kernel
theorem dX6_anyLate_31 : decode cX6_anyLate 31 = .ok (.iinc 3 1, 3) := by decide +kernel
theorem dX6_anyLate_34 : decode cX6_anyLate 34 = .ok (.goto (-32), 3) := by decide +kernel
theorem dX6_anyLate_37 : decode cX6_anyLate 37 = .ok (.iconst 0, 1) := by decide +kernel
theorem dX6_anyLate_38 : decode cX6_anyLate 38 = .ok (.ireturn, 1) := by decide +kernel
theorem dX7_init_0 : decode cX7_init 0 = .ok (.aload_n 0, 1) := by decide +kernel
theorem dX7_init_1 : decode cX7_init 1 = .ok (.invokespecial 3, 3) := by decide +kernel
theorem dX7_init_4 : decode cX7_init 4 = .ok (.aload_n 0, 1) := by decide +kernel
theorem dX7_init_5 : decode cX7_init 5 = .ok (.bipush 100, 2) := by decide +kernel
theorem dX7_init_7 : decode cX7_init 7 = .ok (.newarray .int, 2) := by decide +kernel
theorem dX7_init_9 : decode cX7_init 9 = .ok (.putfield 9, 3) := by decide +kernel
theorem dX7_init_12 : decode cX7_init 12 = .ok (.aload_n 0, 1) := by decide +kernel
theorem dX7_init_13 : decode cX7_init 13 = .ok (.bipush 100, 2) := by decide +kernel
theorem dX7_init_15 : decode cX7_init 15 = .ok (.newarray .int, 2) := by decide +kernel
theorem dX7_init_17 : decode cX7_init 17 = .ok (.putfield 15, 3) := by decide +kernel
theorem dX7_init_20 : decode cX7_init 20 = .ok (.aload_n 0, 1) := by decide +kernel
theorem dX7_init_21 : decode cX7_init 21 = .ok (.bipush 100, 2) := by decide +kernel
theorem dX7_init_23 : decode cX7_init 23 = .ok (.newarray .int, 2) := by decide +kernel
theorem dX7_init_25 : decode cX7_init 25 = .ok (.putfield 18, 3) := by decide +kernel
theorem dX7_init_28 : decode cX7_init 28 = .ok (.aload_n 0, 1) := by decide +kernel
theorem dX7_init_29 : decode cX7_init 29 = .ok (.sipush 300, 3) := by decide +kernel
theorem dX7_init_32 : decode cX7_init 32 = .ok (.newarray .int, 2) := by decide +kernel
theorem dX7_init_34 : decode cX7_init 34 = .ok (.putfield 21, 3) := by decide +kernel
theorem dX7_init_37 : decode cX7_init 37 = .ok (.aload_n 0, 1) := by decide +kernel
theorem dX7_init_38 : decode cX7_init 38 = .ok (.bipush 100, 2) := by decide +kernel
theorem dX7_init_40 : decode cX7_init 40 = .ok (.newarray .int, 2) := by decide +kernel
theorem dX7_init_42 : decode cX7_init 42 = .ok (.putfield 24, 3) := by decide +kernel
theorem dX7_init_45 : decode cX7_init 45 = .ok (.aload_n 0, 1) := by decide +kernel
theorem dX7_init_46 : decode cX7_init 46 = .ok (.aload_n 1, 1) := by decide +kernel
theorem dX7_init_47 : decode cX7_init 47 = .ok (.putfield 27, 3) := by decide +kernel
theorem dX7_init_50 : decode cX7_init 50 = .ok (.return_, 1) := by decide +kernel
theorem dX7_has_0 : decode cX7_has 0 = .ok (.iload_n 1, 1) := by decide +kernel
theorem dX7_has_1 : decode cX7_has 1 = .ok (.ifCond .lt 15, 3) := by decide +kernel
theorem dX7_has_4 : decode cX7_has 4 = .ok (.iload_n 1, 1) := by decide +kernel
theorem dX7_has_5 : decode cX7_has 5 = .ok (.aload_n 0, 1) := by decide +kernel
theorem dX7_has_6 : decode cX7_has 6 = .ok (.getfield 31, 3) := by decide +kernel
theorem dX7_has_9 : decode cX7_has 9 = .ok (.if_icmp .ge 7, 3) := by decide +kernel
theorem dX7_has_12 : decode cX7_has 12 = .ok (.iconst 1, 1) := by decide +kernel
theorem dX7_has_13 : decode cX7_has 13 = .ok (.goto 4, 3) := by decide +kernel
theorem dX7_has_16 : decode cX7_has 16 = .ok (.iconst 0, 1) := by decide +kernel
theorem dX7_has_17 : decode cX7_has 17 = .ok (.ireturn, 1) := by decide +kernel
theorem dX7_add_0 : decode cX7_add 0 = .ok (.aload_n 0, 1) := by decide +kernel
theorem dX7_add_1 : decode cX7_add 1 = .ok (.getfield 9, 3) := by decide +kernel
theorem dX7_add_4 : decode cX7_add 4 = .ok (.aload_n 0, 1) := by decide +kernel
theorem dX7_add_5 : decode cX7_add 5 = .ok (.getfield 31, 3) := by decide +kernel
theorem dX7_add_8 : decode cX7_add 8 = .ok (.iload_n 1, 1) := by decide +kernel
theorem dX7_add_9 : decode cX7_add 9 = .ok (.iastore, 1) := by decide +kernel
theorem dX7_add_10 : decode cX7_add 10 = .ok (.aload_n 0, 1) := by decide +kernel
theorem dX7_add_11 : decode cX7_add 11 = .ok (.getfield 15, 3) := by decide +kernel
theorem dX7_add_14 : decode cX7_add 14 = .ok (.aload_n 0, 1) := by decide +kernel
theorem dX7_add_15 : decode cX7_add 15 = .ok (.getfield 31, 3) := by decide +kernel
theorem dX7_add_18 : decode cX7_add 18 = .ok (.iload_n 2, 1) := by decide +kernel
theorem dX7_add_19 : decode cX7_add 19 = .ok (.iastore, 1) := by decide +kernel
theorem dX7_add_20 : decode cX7_add 20 = .ok (.aload_n 0, 1) := by decide +kernel
theorem dX7_add_21 : decode cX7_add 21 = .ok (.getfield 27, 3) := by decide +kernel
theorem dX7_add_24 : decode cX7_add 24 = .ok (.getfield 35, 3) := by decide +kernel
theorem dX7_add_27 : decode cX7_add 27 = .ok (.aload_n 0, 1) := by decide +kernel
theorem dX7_add_28 : decode cX7_add 28 = .ok (.getfield 31, 3) := by decide +kernel
theorem dX7_add_31 : decode cX7_add 31 = .ok (.iconst (-1), 1) := by decide +kernel
theorem dX7_add_32 : decode cX7_add 32 = .ok (.iastore, 1) := by decide +kernel
theorem dX7_add_33 : decode cX7_add 33 = .ok (.aload_n 0, 1) := by decide +kernel
theorem dX7_add_34 : decode cX7_add 34 = .ok (.dup, 1) := by decide +kernel
theorem dX7_add_35 : decode cX7_add 35 = .ok (.getfield 31, 3) := by decide +kernel
theorem dX7_add_38 : decode cX7_add 38 = .ok (.dup_x1, 1) := by decide +kernel
theorem dX7_add_39 : decode cX7_add 39 = .ok (.iconst 1, 1) := by decide +kernel
theorem dX7_add_40 : decode cX7_add 40 = .ok (.iadd, 1) := by decide +kernel
theorem dX7_add_41 : decode cX7_add 41 = .ok (.putfield 31, 3) := by decide +kernel
theorem dX7_add_44 : decode cX7_add 44 = .ok (.ireturn, 1) := by decide +kernel
theorem dX7_usedOf_0 : decode cX7_usedOf 0 = .ok (.aload_n 0, 1) := by decide +kernel
theorem dX7_usedOf_1 : decode cX7_usedOf 1 = .ok (.getfield 21, 3) := by decide +kernel
theorem dX7_usedOf_4 : decode cX7_usedOf 4 = .ok (.iload_n 1, 1) := by decide +kernel
theorem dX7_usedOf_5 : decode cX7_usedOf 5 = .ok (.iconst 3, 1) := by decide +kernel
theorem dX7_usedOf_6 : decode cX7_usedOf 6 = .ok (.imul, 1) := by decide +kernel
theorem dX7_usedOf_7 : decode cX7_usedOf 7 = .ok (.iload_n 2, 1) := by decide +kernel
theorem dX7_usedOf_8 : decode cX7_usedOf 8 = .ok (.iadd, 1) := by decide +kernel
theorem dX7_usedOf_9 : decode cX7_usedOf 9 = .ok (.iaload, 1) := by decide +kernel
theorem dX7_usedOf_10 : decode cX7_usedOf 10 = .ok (.ireturn, 1) := by decide +kernel
theorem dX7_setUsed_0 : decode cX7_setUsed 0 = .ok (.aload_n 0, 1) := by decide +kernel
theorem dX7_setUsed_1 : decode cX7_setUsed 1 = .ok (.getfield 21, 3) := by decide +kernel
theorem dX7_setUsed_4 : decode cX7_setUsed 4 = .ok (.iload_n 1, 1) := by decide +kernel
theorem dX7_setUsed_5 : decode cX7_setUsed 5 = .ok (.iconst 3, 1) := by decide +kernel
theorem dX7_setUsed_6 : decode cX7_setUsed 6 = .ok (.imul, 1) := by decide +kernel
theorem dX7_setUsed_7 : decode cX7_setUsed 7 = .ok (.iconst 0, 1) := by decide +kernel
theorem dX7_setUsed_8 : decode cX7_setUsed 8 = .ok (.iadd, 1) := by decide +kernel
theorem dX7_setUsed_9 : decode cX7_setUsed 9 = .ok (.iload_n 2, 1) := by decide +kernel
theorem dX7_setUsed_10 : decode cX7_setUsed 10 = .ok (.iastore, 1) := by decide +kernel
theorem dX7_setUsed_11 : decode cX7_setUsed 11 = .ok (.aload_n 0, 1) := by decide +kernel
theorem dX7_setUsed_12 : decode cX7_setUsed 12 = .ok (.getfield 21, 3) := by decide +kernel
theorem dX7_setUsed_15 : decode cX7_setUsed 15 = .ok (.iload_n 1, 1) := by decide +kernel
theorem dX7_setUsed_16 : decode cX7_setUsed 16 = .ok (.iconst 3, 1) := by decide +kernel
theorem dX7_setUsed_17 : decode cX7_setUsed 17 = .ok (.imul, 1) := by decide +kernel
theorem dX7_setUsed_18 : decode cX7_setUsed 18 = .ok (.iconst 1, 1) := by decide +kernel
theorem dX7_setUsed_19 : decode cX7_setUsed 19 = .ok (.iadd, 1) := by decide +kernel
theorem dX7_setUsed_20 : decode cX7_setUsed 20 = .ok (.iload_n 3, 1) := by decide +kernel
theorem dX7_setUsed_21 : decode cX7_setUsed 21 = .ok (.iastore, 1) := by decide +kernel
theorem dX7_setUsed_22 : decode cX7_setUsed 22 = .ok (.aload_n 0, 1) := by decide +kernel
theorem dX7_setUsed_23 : decode cX7_setUsed 23 = .ok (.getfield 21, 3) := by decide +kernel
theorem dX7_setUsed_26 : decode cX7_setUsed 26 = .ok (.iload_n 1, 1) := by decide +kernel
theorem dX7_setUsed_27 : decode cX7_setUsed 27 = .ok (.iconst 3, 1) := by decide +kernel
theorem dX7_setUsed_28 : decode cX7_setUsed 28 = .ok (.imul, 1) := by decide +kernel
theorem dX7_setUsed_29 : decode cX7_setUsed 29 = .ok (.iconst 2, 1) := by decide +kernel
theorem dX7_setUsed_30 : decode cX7_setUsed 30 = .ok (.iadd, 1) := by decide +kernel
theorem dX7_setUsed_31 : decode cX7_setUsed 31 = .ok (.iload 4, 2) := by decide +kernel
theorem dX7_setUsed_33 : decode cX7_setUsed 33 = .ok (.iastore, 1) := by decide +kernel
theorem dX7_setUsed_34 : decode cX7_setUsed 34 = .ok (.return_, 1) := by decide +kernel
theorem dX7_begin_0 : decode cX7_begin 0 = .ok (.aload_n 0, 1) := by decide +kernel
theorem dX7_begin_1 : decode cX7_begin 1 = .ok (.getfield 18, 3) := by decide +kernel
theorem dX7_begin_4 : decode cX7_begin 4 = .ok (.iload_n 1, 1) := by decide +kernel
theorem dX7_begin_5 : decode cX7_begin 5 = .ok (.iload_n 2, 1) := by decide +kernel
theorem dX7_begin_6 : decode cX7_begin 6 = .ok (.iastore, 1) := by decide +kernel
theorem dX7_begin_7 : decode cX7_begin 7 = .ok (.aload_n 0, 1) := by decide +kernel
theorem dX7_begin_8 : decode cX7_begin 8 = .ok (.getfield 24, 3) := by decide +kernel
theorem dX7_begin_11 : decode cX7_begin 11 = .ok (.iload_n 1, 1) := by decide +kernel
theorem dX7_begin_12 : decode cX7_begin 12 = .ok (.aload_n 0, 1) := by decide +kernel
theorem dX7_begin_13 : decode cX7_begin 13 = .ok (.getfield 27, 3) := by decide +kernel
theorem dX7_begin_16 : decode cX7_begin 16 = .ok (.iload_n 1, 1) := by decide +kernel
theorem dX7_begin_17 : decode cX7_begin 17 = .ok (.iload_n 2, 1) := by decide +kernel
theorem dX7_begin_18 : decode cX7_begin 18 = .ok (.iload_n 3, 1) := by decide +kernel
theorem dX7_begin_19 : decode cX7_begin 19 = .ok (.aload_n 0, 1) := by decide +kernel
theorem dX7_begin_20 : decode cX7_begin 20 = .ok (.iload_n 1, 1) := by decide +kernel
theorem dX7_begin_21 : decode cX7_begin 21 = .ok (.iconst 0, 1) := by decide +kernel
theorem dX7_begin_22 : decode cX7_begin 22 = .ok (.invokevirtual 40, 3) := by decide +kernel
theorem dX7_begin_25 : decode cX7_begin 25 = .ok (.aload_n 0, 1) := by decide +kernel
theorem dX7_begin_26 : decode cX7_begin 26 = .ok (.iload_n 1, 1) := by decide +kernel
theorem dX7_begin_27 : decode cX7_begin 27 = .ok (.iconst 1, 1) := by decide +kernel
theorem dX7_begin_28 : decode cX7_begin 28 = .ok (.invokevirtual 40, 3) := by decide +kernel
theorem dX7_begin_31 : decode cX7_begin 31 = .ok (.invokevirtual 44, 3) := by decide +kernel
theorem dX7_begin_34 : decode cX7_begin 34 = .ok (.iastore, 1) := by decide +kernel
theorem dX7_begin_35 : decode cX7_begin 35 = .ok (.return_, 1) := by decide +kernel
theorem dX7_go_0 : decode cX7_go 0 = .ok (.aload_n 0, 1) := by decide +kernel
theorem dX7_go_1 : decode cX7_go 1 = .ok (.getfield 27, 3) := by decide +kernel
theorem dX7_go_4 : decode cX7_go 4 = .ok (.aload_n 0, 1) := by decide +kernel
theorem dX7_go_5 : decode cX7_go 5 = .ok (.getfield 24, 3) := by decide +kernel
theorem dX7_go_8 : decode cX7_go 8 = .ok (.iload_n 1, 1) := by decide +kernel
theorem dX7_go_9 : decode cX7_go 9 = .ok (.iaload, 1) := by decide +kernel
theorem dX7_go_10 : decode cX7_go 10 = .ok (.iload_n 3, 1) := by decide +kernel
theorem dX7_go_11 : decode cX7_go 11 = .ok (.aload_n 0, 1) := by decide +kernel
theorem dX7_go_12 : decode cX7_go 12 = .ok (.iload_n 1, 1) := by decide +kernel
theorem dX7_go_13 : decode cX7_go 13 = .ok (.iconst 0, 1) := by decide +kernel
theorem dX7_go_14 : decode cX7_go 14 = .ok (.invokevirtual 40, 3) := by decide +kernel
theorem dX7_go_17 : decode cX7_go 17 = .ok (.aload_n 0, 1) := by decide +kernel
theorem dX7_go_18 : decode cX7_go 18 = .ok (.iload_n 1, 1) := by decide +kernel
theorem dX7_go_19 : decode cX7_go 19 = .ok (.iconst 1, 1) := by decide +kernel
theorem dX7_go_20 : decode cX7_go 20 = .ok (.invokevirtual 40, 3) := by decide +kernel
theorem dX7_go_23 : decode cX7_go 23 = .ok (.invokevirtual 48, 3) := by decide +kernel
theorem dX7_go_26 : decode cX7_go 26 = .ok (.aload_n 0, 1) := by decide +kernel
theorem dX7_go_27 : decode cX7_go 27 = .ok (.iload_n 1, 1) := by decide +kernel
theorem dX7_go_28 : decode cX7_go 28 = .ok (.iload_n 2, 1) := by decide +kernel
theorem dX7_go_29 : decode cX7_go 29 = .ok (.iload_n 3, 1) := by decide +kernel
theorem dX7_go_30 : decode cX7_go 30 = .ok (.invokevirtual 52, 3) := by decide +kernel
theorem dX7_go_33 : decode cX7_go 33 = .ok (.return_, 1) := by decide +kernel
theorem dX7_leaveWith_0 : decode cX7_leaveWith 0 = .ok (.iconst 0, 1) := by decide +kernel
theorem dX7_leaveWith_1 : decode cX7_leaveWith 1 = .ok (.istore_n 3, 1) := by decide +kernel
theorem dX7_leaveWith_2 : decode cX7_leaveWith 2 = .ok (.iload_n 3, 1) := by decide +kernel
theorem dX7_leaveWith_3 : decode cX7_leaveWith 3 = .ok (.aload_n 0, 1) := by decide +kernel
theorem dX7_leaveWith_4 : decode cX7_leaveWith 4 = .ok (.getfield 31, 3) := by decide +kernel
theorem dX7_leaveWith_7 : decode cX7_leaveWith 7 = .ok (.if_icmp .ge 60, 3) := by decide +kernel
theorem dX7_leaveWith_10 : decode cX7_leaveWith 10 = .ok (.aload_n 0, 1) := by decide +kernel
theorem dX7_leaveWith_11 : decode cX7_leaveWith 11 = .ok (.getfield 18, 3) := by decide +kernel
theorem dX7_leaveWith_14 : decode cX7_leaveWith 14 = .ok (.iload_n 3, 1) := by decide +kernel
theorem dX7_leaveWith_15 : decode cX7_leaveWith 15 = .ok (.iaload, 1) := by decide +kernel
theorem dX7_leaveWith_16 : decode cX7_leaveWith 16 = .ok (.iload_n 1, 1) := by decide +kernel
theorem dX7_leaveWith_17 : decode cX7_leaveWith 17 = .ok (.if_icmp .ne 44, 3) := by decide +kernel
theorem dX7_leaveWith_20 : decode cX7_leaveWith 20 = .ok (.aload_n 0, 1) := by decide +kernel
theorem dX7_leaveWith_21 : decode cX7_leaveWith 21 = .ok (.getfield 27, 3) := by decide +kernel
theorem dX7_leaveWith_24 : decode cX7_leaveWith 24 = .ok (.aload_n 0, 1) := by decide +kernel
theorem dX7_leaveWith_25 : decode cX7_leaveWith 25 = .ok (.getfield 24, 3) := by decide +kernel
theorem dX7_leaveWith_28 : decode cX7_leaveWith 28 = .ok (.iload_n 3, 1) := by decide +kernel
theorem dX7_leaveWith_29 : decode cX7_leaveWith 29 = .ok (.iaload, 1) := by decide +kernel
theorem dX7_leaveWith_30 : decode cX7_leaveWith 30 = .ok (.iload_n 2, 1) := by decide +kernel
theorem dX7_leaveWith_31 : decode cX7_leaveWith 31 = .ok (.aload_n 0, 1) := by decide +kernel
theorem dX7_leaveWith_32 : decode cX7_leaveWith 32 = .ok (.iload_n 3, 1) := by decide +kernel
theorem dX7_leaveWith_33 : decode cX7_leaveWith 33 = .ok (.iconst 0, 1) := by decide +kernel
theorem dX7_leaveWith_34 : decode cX7_leaveWith 34 = .ok (.invokevirtual 40, 3) := by decide +kernel
theorem dX7_leaveWith_37 : decode cX7_leaveWith 37 = .ok (.aload_n 0, 1) := by decide +kernel
theorem dX7_leaveWith_38 : decode cX7_leaveWith 38 = .ok (.iload_n 3, 1) := by decide +kernel
theorem dX7_leaveWith_39 : decode cX7_leaveWith 39 = .ok (.iconst 1, 1) := by decide +kernel
theorem dX7_leaveWith_40 : decode cX7_leaveWith 40 = .ok (.invokevirtual 40, 3) := by decide +kernel
theorem dX7_leaveWith_43 : decode cX7_leaveWith 43 = .ok (.invokevirtual 48, 3) := by decide +kernel
theorem dX7_leaveWith_46 : decode cX7_leaveWith 46 = .ok (.aload_n 0, 1) := by decide +kernel
theorem dX7_leaveWith_47 : decode cX7_leaveWith 47 = .ok (.getfield 24, 3) := by decide +kernel
theorem dX7_leaveWith_50 : decode cX7_leaveWith 50 = .ok (.iload_n 3, 1) := by decide +kernel
theorem dX7_leaveWith_51 : decode cX7_leaveWith 51 = .ok (.iconst (-1), 1) := by decide +kernel
theorem dX7_leaveWith_52 : decode cX7_leaveWith 52 = .ok (.iastore, 1) := by decide +kernel
theorem dX7_leaveWith_53 : decode cX7_leaveWith 53 = .ok (.aload_n 0, 1) := by decide +kernel
theorem dX7_leaveWith_54 : decode cX7_leaveWith 54 = .ok (.getfield 18, 3) := by decide +kernel
theorem dX7_leaveWith_57 : decode cX7_leaveWith 57 = .ok (.iload_n 3, 1) := by decide +kernel
theorem dX7_leaveWith_58 : decode cX7_leaveWith 58 = .ok (.bipush 12, 2) := by decide +kernel
theorem dX7_leaveWith_60 : decode cX7_leaveWith 60 = .ok (.iastore, 1) := by decide +kernel
theorem dX7_leaveWith_61 : decode cX7_leaveWith 61 = .ok (.iinc 3 1, 3) := by decide +kernel
theorem dX7_leaveWith_64 : decode cX7_leaveWith 64 = .ok (.goto (-62), 3) := by decide +kernel
theorem dX7_leaveWith_67 : decode cX7_leaveWith 67 = .ok (.return_, 1) := by decide +kernel
theorem dX7_countAt_0 : decode cX7_countAt 0 = .ok (.iconst 0, 1) := by decide +kernel
theorem dX7_countAt_1 : decode cX7_countAt 1 = .ok (.istore_n 2, 1) := by decide +kernel
theorem dX7_countAt_2 : decode cX7_countAt 2 = .ok (.iconst 0, 1) := by decide +kernel
theorem dX7_countAt_3 : decode cX7_countAt 3 = .ok (.istore_n 3, 1) := by decide +kernel
theorem dX7_countAt_4 : decode cX7_countAt 4 = .ok (.iload_n 3, 1) := by decide +kernel
theorem dX7_countAt_5 : decode cX7_countAt 5 = .ok (.aload_n 0, 1) := by decide +kernel
theorem dX7_countAt_6 : decode cX7_countAt 6 = .ok (.getfield 31, 3) := by decide +kernel
theorem dX7_countAt_9 : decode cX7_countAt 9 = .ok (.if_icmp .ge 27, 3) := by decide +kernel
theorem dX7_countAt_12 : decode cX7_countAt 12 = .ok (.iload_n 2, 1) := by decide +kernel
theorem dX7_countAt_13 : decode cX7_countAt 13 = .ok (.aload_n 0, 1) := by decide +kernel
theorem dX7_countAt_14 : decode cX7_countAt 14 = .ok (.getfield 18, 3) := by decide +kernel
theorem dX7_countAt_17 : decode cX7_countAt 17 = .ok (.iload_n 3, 1) := by decide +kernel
theorem dX7_countAt_18 : decode cX7_countAt 18 = .ok (.iaload, 1) := by decide +kernel
theorem dX7_countAt_19 : decode cX7_countAt 19 = .ok (.iload_n 1, 1) := by decide +kernel
theorem dX7_countAt_20 : decode cX7_countAt 20 = .ok (.if_icmp .ne 7, 3) := by decide +kernel
theorem dX7_countAt_23 : decode cX7_countAt 23 = .ok (.iconst 1, 1) := by decide +kernel
theorem dX7_countAt_24 : decode cX7_countAt 24 = .ok (.goto 4, 3) := by decide +kernel
theorem dX7_countAt_27 : decode cX7_countAt 27 = .ok (.iconst 0, 1) := by decide +kernel
theorem dX7_countAt_28 : decode cX7_countAt 28 = .ok (.iadd, 1) := by decide +kernel
theorem dX7_countAt_29 : decode cX7_countAt 29 = .ok (.istore_n 2, 1) := by decide +kernel
theorem dX7_countAt_30 : decode cX7_countAt 30 = .ok (.iinc 3 1, 3) := by decide +kernel
theorem dX7_countAt_33 : decode cX7_countAt 33 = .ok (.goto (-29), 3) := by decide +kernel
theorem dX7_countAt_36 : decode cX7_countAt 36 = .ok (.iload_n 2, 1) := by decide +kernel
theorem dX7_countAt_37 : decode cX7_countAt 37 = .ok (.ireturn, 1) := by decide +kernel
theorem dX7_ofKindAt_0 : decode cX7_ofKindAt 0 = .ok (.iconst 0, 1) := by decide +kernel
theorem dX7_ofKindAt_1 : decode cX7_ofKindAt 1 = .ok (.istore_n 3, 1) := by decide +kernel
theorem dX7_ofKindAt_2 : decode cX7_ofKindAt 2 = .ok (.iconst 0, 1) := by decide +kernel
theorem dX7_ofKindAt_3 : decode cX7_ofKindAt 3 = .ok (.istore 4, 2) := by decide +kernel
theorem dX7_ofKindAt_5 : decode cX7_ofKindAt 5 = .ok (.iload 4, 2) := by decide +kernel
theorem dX7_ofKindAt_7 : decode cX7_ofKindAt 7 = .ok (.aload_n 0, 1) := by decide +kernel
theorem dX7_ofKindAt_8 : decode cX7_ofKindAt 8 = .ok (.getfield 31, 3) := by decide +kernel
theorem dX7_ofKindAt_11 : decode cX7_ofKindAt 11 = .ok (.if_icmp .ge 39, 3) := by decide +kernel
theorem dX7_ofKindAt_14 : decode cX7_ofKindAt 14 = .ok (.iload_n 3, 1) := by decide +kernel
theorem dX7_ofKindAt_15 : decode cX7_ofKindAt 15 = .ok (.aload_n 0, 1) := by decide +kernel
theorem dX7_ofKindAt_16 : decode cX7_ofKindAt 16 = .ok (.getfield 9, 3) := by decide +kernel
theorem dX7_ofKindAt_19 : decode cX7_ofKindAt 19 = .ok (.iload 4, 2) := by decide +kernel
theorem dX7_ofKindAt_21 : decode cX7_ofKindAt 21 = .ok (.iaload, 1) := by decide +kernel
theorem dX7_ofKindAt_22 : decode cX7_ofKindAt 22 = .ok (.iload_n 1, 1) := by decide +kernel
theorem dX7_ofKindAt_23 : decode cX7_ofKindAt 23 = .ok (.if_icmp .ne 18, 3) := by decide +kernel
theorem dX7_ofKindAt_26 : decode cX7_ofKindAt 26 = .ok (.aload_n 0, 1) := by decide +kernel
theorem dX7_ofKindAt_27 : decode cX7_ofKindAt 27 = .ok (.getfield 18, 3) := by decide +kernel
theorem dX7_ofKindAt_30 : decode cX7_ofKindAt 30 = .ok (.iload 4, 2) := by decide +kernel
theorem dX7_ofKindAt_32 : decode cX7_ofKindAt 32 = .ok (.iaload, 1) := by decide +kernel
theorem dX7_ofKindAt_33 : decode cX7_ofKindAt 33 = .ok (.iload_n 2, 1) := by decide +kernel
theorem dX7_ofKindAt_34 : decode cX7_ofKindAt 34 = .ok (.if_icmp .ne 7, 3) := by decide +kernel
theorem dX7_ofKindAt_37 : decode cX7_ofKindAt 37 = .ok (.iconst 1, 1) := by decide +kernel
theorem dX7_ofKindAt_38 : decode cX7_ofKindAt 38 = .ok (.goto 4, 3) := by decide +kernel
theorem dX7_ofKindAt_41 : decode cX7_ofKindAt 41 = .ok (.iconst 0, 1) := by decide +kernel
theorem dX7_ofKindAt_42 : decode cX7_ofKindAt 42 = .ok (.iadd, 1) := by decide +kernel
theorem dX7_ofKindAt_43 : decode cX7_ofKindAt 43 = .ok (.istore_n 3, 1) := by decide +kernel
theorem dX7_ofKindAt_44 : decode cX7_ofKindAt 44 = .ok (.iinc 4 1, 3) := by decide +kernel
theorem dX7_ofKindAt_47 : decode cX7_ofKindAt 47 = .ok (.goto (-42), 3) := by decide +kernel
theorem dX7_ofKindAt_50 : decode cX7_ofKindAt 50 = .ok (.iload_n 3, 1) := by decide +kernel
theorem dX7_ofKindAt_51 : decode cX7_ofKindAt 51 = .ok (.ireturn, 1) := by decide +kernel
theorem dX7_age_0 : decode cX7_age 0 = .ok (.iconst 0, 1) := by decide +kernel
theorem dX7_age_1 : decode cX7_age 1 = .ok (.istore_n 2, 1) := by decide +kernel
theorem dX7_age_2 : decode cX7_age 2 = .ok (.iload_n 2, 1) := by decide +kernel
theorem dX7_age_3 : decode cX7_age 3 = .ok (.aload_n 0, 1) := by decide +kernel
theorem dX7_age_4 : decode cX7_age 4 = .ok (.getfield 31, 3) := by decide +kernel
theorem dX7_age_7 : decode cX7_age 7 = .ok (.if_icmp .ge 34, 3) := by decide +kernel
theorem dX7_age_10 : decode cX7_age 10 = .ok (.aload_n 0, 1) := by decide +kernel
theorem dX7_age_11 : decode cX7_age 11 = .ok (.getfield 18, 3) := by decide +kernel
theorem dX7_age_14 : decode cX7_age 14 = .ok (.iload_n 2, 1) := by decide +kernel
theorem dX7_age_15 : decode cX7_age 15 = .ok (.iaload, 1) := by decide +kernel
theorem dX7_age_16 : decode cX7_age 16 = .ok (.bipush 12, 2) := by decide +kernel
theorem dX7_age_18 : decode cX7_age 18 = .ok (.if_icmp .eq 17, 3) := by decide +kernel
theorem dX7_age_21 : decode cX7_age 21 = .ok (.aload_n 0, 1) := by decide +kernel
theorem dX7_age_22 : decode cX7_age 22 = .ok (.getfield 21, 3) := by decide +kernel
theorem dX7_age_25 : decode cX7_age 25 = .ok (.iload_n 2, 1) := by decide +kernel
theorem dX7_age_26 : decode cX7_age 26 = .ok (.iconst 3, 1) := by decide +kernel
theorem dX7_age_27 : decode cX7_age 27 = .ok (.imul, 1) := by decide +kernel
theorem dX7_age_28 : decode cX7_age 28 = .ok (.iconst 2, 1) := by decide +kernel
theorem dX7_age_29 : decode cX7_age 29 = .ok (.iadd, 1) := by decide +kernel
theorem dX7_age_30 : decode cX7_age 30 = .ok (.dup2, 1) := by decide +kernel
theorem dX7_age_31 : decode cX7_age 31 = .ok (.iaload, 1) := by decide +kernel
theorem dX7_age_32 : decode cX7_age 32 = .ok (.iload_n 1, 1) := by decide +kernel
theorem dX7_age_33 : decode cX7_age 33 = .ok (.iadd, 1) := by decide +kernel
theorem dX7_age_34 : decode cX7_age 34 = .ok (.iastore, 1) := by decide +kernel
theorem dX7_age_35 : decode cX7_age 35 = .ok (.iinc 2 1, 3) := by decide +kernel
theorem dX7_age_38 : decode cX7_age 38 = .ok (.goto (-36), 3) := by decide +kernel
theorem dX7_age_41 : decode cX7_age 41 = .ok (.return_, 1) := by decide +kernel
theorem dX7_canFly_0 : decode cX7_canFly 0 = .ok (.iconst 0, 1) := by decide +kernel
theorem dX7_canFly_1 : decode cX7_canFly 1 = .ok (.istore 4, 2) := by decide +kernel
theorem dX7_canFly_3 : decode cX7_canFly 3 = .ok (.iload 4, 2) := by decide +kernel
theorem dX7_canFly_5 : decode cX7_canFly 5 = .ok (.aload_n 0, 1) := by decide +kernel
theorem dX7_canFly_6 : decode cX7_canFly 6 = .ok (.getfield 31, 3) := by decide +kernel
theorem dX7_canFly_9 : decode cX7_canFly 9 = .ok (.if_icmp .ge 50, 3) := by decide +kernel
theorem dX7_canFly_12 : decode cX7_canFly 12 = .ok (.aload_n 0, 1) := by decide +kernel
theorem dX7_canFly_13 : decode cX7_canFly 13 = .ok (.getfield 18, 3) := by decide +kernel
theorem dX7_canFly_16 : decode cX7_canFly 16 = .ok (.iload 4, 2) := by decide +kernel
theorem dX7_canFly_18 : decode cX7_canFly 18 = .ok (.iaload, 1) := by decide +kernel
theorem dX7_canFly_19 : decode cX7_canFly 19 = .ok (.iload_n 1, 1) := by decide +kernel
theorem dX7_canFly_20 : decode cX7_canFly 20 = .ok (.if_icmp .ne 33, 3) := by decide +kernel
theorem dX7_canFly_23 : decode cX7_canFly 23 = .ok (.aload_n 0, 1) := by decide +kernel
theorem dX7_canFly_24 : decode cX7_canFly 24 = .ok (.iload 4, 2) := by decide +kernel
theorem dX7_canFly_26 : decode cX7_canFly 26 = .ok (.iconst 0, 1) := by decide +kernel
theorem dX7_canFly_27 : decode cX7_canFly 27 = .ok (.invokevirtual 40, 3) := by decide +kernel
theorem dX7_canFly_30 : decode cX7_canFly 30 = .ok (.iload_n 2, 1) := by decide +kernel
theorem dX7_canFly_31 : decode cX7_canFly 31 = .ok (.iadd, 1) := by decide +kernel
theorem dX7_canFly_32 : decode cX7_canFly 32 = .ok (.ldc 56, 2) := by decide +kernel
theorem dX7_canFly_34 : decode cX7_canFly 34 = .ok (.if_icmp .gt 17, 3) := by decide +kernel
theorem dX7_canFly_37 : decode cX7_canFly 37 = .ok (.aload_n 0, 1) := by decide +kernel
theorem dX7_canFly_38 : decode cX7_canFly 38 = .ok (.iload 4, 2) := by decide +kernel
theorem dX7_canFly_40 : decode cX7_canFly 40 = .ok (.iconst 1, 1) := by decide +kernel
theorem dX7_canFly_41 : decode cX7_canFly 41 = .ok (.invokevirtual 40, 3) := by decide +kernel
theorem dX7_canFly_44 : decode cX7_canFly 44 = .ok (.iload_n 3, 1) := by decide +kernel
theorem dX7_canFly_45 : decode cX7_canFly 45 = .ok (.iadd, 1) := by decide +kernel
theorem dX7_canFly_46 : decode cX7_canFly 46 = .ok (.ldc 56, 2) := by decide +kernel
theorem dX7_canFly_48 : decode cX7_canFly 48 = .ok (.if_icmp .le 5, 3) := by decide +kernel
theorem dX7_canFly_51 : decode cX7_canFly 51 = .ok (.iconst 0, 1) := by decide +kernel
theorem dX7_canFly_52 : decode cX7_canFly 52 = .ok (.ireturn, 1) := by decide +kernel
theorem dX7_canFly_53 : decode cX7_canFly 53 = .ok (.iinc 4 1, 3) := by decide +kernel
theorem dX7_canFly_56 : decode cX7_canFly 56 = .ok (.goto (-53), 3) := by decide +kernel
theorem dX7_canFly_59 : decode cX7_canFly 59 = .ok (.iconst 1, 1) := by decide +kernel
theorem dX7_canFly_60 : decode cX7_canFly 60 = .ok (.ireturn, 1) := by decide +kernel
theorem dX7_wear_0 : decode cX7_wear 0 = .ok (.iconst 0, 1) := by decide +kernel
theorem dX7_wear_1 : decode cX7_wear 1 = .ok (.istore 4, 2) := by decide +kernel
theorem dX7_wear_3 : decode cX7_wear 3 = .ok (.iload 4, 2) := by decide +kernel
theorem dX7_wear_5 : decode cX7_wear 5 = .ok (.aload_n 0, 1) := by decide +kernel
theorem dX7_wear_6 : decode cX7_wear 6 = .ok (.getfield 31, 3) := by decide +kernel
theorem dX7_wear_9 : decode cX7_wear 9 = .ok (.if_icmp .ge 50, 3) := by decide +kernel
theorem dX7_wear_12 : decode cX7_wear 12 = .ok (.aload_n 0, 1) := by decide +kernel
theorem dX7_wear_13 : decode cX7_wear 13 = .ok (.getfield 18, 3) := by decide +kernel
theorem dX7_wear_16 : decode cX7_wear 16 = .ok (.iload 4, 2) := by decide +kernel
theorem dX7_wear_18 : decode cX7_wear 18 = .ok (.iaload, 1) := by decide +kernel
theorem dX7_wear_19 : decode cX7_wear 19 = .ok (.iload_n 1, 1) := by decide +kernel
theorem dX7_wear_20 : decode cX7_wear 20 = .ok (.if_icmp .ne 33, 3) := by decide +kernel
theorem dX7_wear_23 : decode cX7_wear 23 = .ok (.aload_n 0, 1) := by decide +kernel
theorem dX7_wear_24 : decode cX7_wear 24 = .ok (.getfield 21, 3) := by decide +kernel
theorem dX7_wear_27 : decode cX7_wear 27 = .ok (.iload 4, 2) := by decide +kernel
theorem dX7_wear_29 : decode cX7_wear 29 = .ok (.iconst 3, 1) := by decide +kernel
theorem dX7_wear_30 : decode cX7_wear 30 = .ok (.imul, 1) := by decide +kernel
theorem dX7_wear_31 : decode cX7_wear 31 = .ok (.iconst 0, 1) := by decide +kernel
theorem dX7_wear_32 : decode cX7_wear 32 = .ok (.iadd, 1) := by decide +kernel
theorem dX7_wear_33 : decode cX7_wear 33 = .ok (.dup2, 1) := by decide +kernel
theorem dX7_wear_34 : decode cX7_wear 34 = .ok (.iaload, 1) := by decide +kernel
theorem dX7_wear_35 : decode cX7_wear 35 = .ok (.iload_n 2, 1) := by decide +kernel
theorem dX7_wear_36 : decode cX7_wear 36 = .ok (.iadd, 1) := by decide +kernel
theorem dX7_wear_37 : decode cX7_wear 37 = .ok (.iastore, 1) := by decide +kernel
theorem dX7_wear_38 : decode cX7_wear 38 = .ok (.aload_n 0, 1) := by decide +kernel
theorem dX7_wear_39 : decode cX7_wear 39 = .ok (.getfield 21, 3) := by decide +kernel
theorem dX7_wear_42 : decode cX7_wear 42 = .ok (.iload 4, 2) := by decide +kernel
theorem dX7_wear_44 : decode cX7_wear 44 = .ok (.iconst 3, 1) := by decide +kernel
theorem dX7_wear_45 : decode cX7_wear 45 = .ok (.imul, 1) := by decide +kernel
theorem dX7_wear_46 : decode cX7_wear 46 = .ok (.iconst 1, 1) := by decide +kernel
theorem dX7_wear_47 : decode cX7_wear 47 = .ok (.iadd, 1) := by decide +kernel
theorem dX7_wear_48 : decode cX7_wear 48 = .ok (.dup2, 1) := by decide +kernel
theorem dX7_wear_49 : decode cX7_wear 49 = .ok (.iaload, 1) := by decide +kernel
theorem dX7_wear_50 : decode cX7_wear 50 = .ok (.iload_n 3, 1) := by decide +kernel
theorem dX7_wear_51 : decode cX7_wear 51 = .ok (.iadd, 1) := by decide +kernel
theorem dX7_wear_52 : decode cX7_wear 52 = .ok (.iastore, 1) := by decide +kernel
theorem dX7_wear_53 : decode cX7_wear 53 = .ok (.iinc 4 1, 3) := by decide +kernel
theorem dX7_wear_56 : decode cX7_wear 56 = .ok (.goto (-53), 3) := by decide +kernel
theorem dX7_wear_59 : decode cX7_wear 59 = .ok (.return_, 1) := by decide +kernel
theorem dX7_renew_0 : decode cX7_renew 0 = .ok (.iconst 0, 1) := by decide +kernel
theorem dX7_renew_1 : decode cX7_renew 1 = .ok (.istore_n 3, 1) := by decide +kernel
theorem dX7_renew_2 : decode cX7_renew 2 = .ok (.iload_n 3, 1) := by decide +kernel
theorem dX7_renew_3 : decode cX7_renew 3 = .ok (.iconst 3, 1) := by decide +kernel
theorem dX7_renew_4 : decode cX7_renew 4 = .ok (.if_icmp .ge 29, 3) := by decide +kernel
theorem dX7_renew_7 : decode cX7_renew 7 = .ok (.iload_n 2, 1) := by decide +kernel
theorem dX7_renew_8 : decode cX7_renew 8 = .ok (.iload_n 3, 1) := by decide +kernel
theorem dX7_renew_9 : decode cX7_renew 9 = .ok (.ishr, 1) := by decide +kernel
theorem dX7_renew_10 : decode cX7_renew 10 = .ok (.iconst 1, 1) := by decide +kernel
theorem dX7_renew_11 : decode cX7_renew 11 = .ok (.iand, 1) := by decide +kernel
theorem dX7_renew_12 : decode cX7_renew 12 = .ok (.iconst 1, 1) := by decide +kernel
theorem dX7_renew_13 : decode cX7_renew 13 = .ok (.if_icmp .ne 14, 3) := by decide +kernel
theorem dX7_renew_16 : decode cX7_renew 16 = .ok (.aload_n 0, 1) := by decide +kernel
theorem dX7_renew_17 : decode cX7_renew 17 = .ok (.getfield 21, 3) := by decide +kernel
theorem dX7_renew_20 : decode cX7_renew 20 = .ok (.iload_n 1, 1) := by decide +kernel
theorem dX7_renew_21 : decode cX7_renew 21 = .ok (.iconst 3, 1) := by decide +kernel
theorem dX7_renew_22 : decode cX7_renew 22 = .ok (.imul, 1) := by decide +kernel
theorem dX7_renew_23 : decode cX7_renew 23 = .ok (.iload_n 3, 1) := by decide +kernel
theorem dX7_renew_24 : decode cX7_renew 24 = .ok (.iadd, 1) := by decide +kernel
theorem dX7_renew_25 : decode cX7_renew 25 = .ok (.iconst 0, 1) := by decide +kernel
theorem dX7_renew_26 : decode cX7_renew 26 = .ok (.iastore, 1) := by decide +kernel
theorem dX7_renew_27 : decode cX7_renew 27 = .ok (.iinc 3 1, 3) := by decide +kernel
theorem dX7_renew_30 : decode cX7_renew 30 = .ok (.goto (-28), 3) := by decide +kernel
theorem dX7_renew_33 : decode cX7_renew 33 = .ok (.return_, 1) := by decide +kernel
theorem dX7_usedAtEnd_0 : decode cX7_usedAtEnd 0 = .ok (.aload_n 0, 1) := by decide +kernel
theorem dX7_usedAtEnd_1 : decode cX7_usedAtEnd 1 = .ok (.getfield 27, 3) := by decide +kernel
theorem dX7_usedAtEnd_4 : decode cX7_usedAtEnd 4 = .ok (.iload_n 2, 1) := by decide +kernel
theorem dX7_usedAtEnd_5 : decode cX7_usedAtEnd 5 = .ok (.invokevirtual 57, 3) := by decide +kernel
theorem dX7_usedAtEnd_8 : decode cX7_usedAtEnd 8 = .ok (.ifCond .eq 12, 3) := by decide +kernel
theorem dX7_usedAtEnd_11 : decode cX7_usedAtEnd 11 = .ok (.aload_n 0, 1) := by decide +kernel
theorem dX7_usedAtEnd_12 : decode cX7_usedAtEnd 12 = .ok (.iload_n 1, 1) := by decide +kernel
theorem dX7_usedAtEnd_13 : decode cX7_usedAtEnd 13 = .ok (.iload_n 3, 1) := by decide +kernel
theorem dX7_usedAtEnd_14 : decode cX7_usedAtEnd 14 = .ok (.invokevirtual 40, 3) := by decide +kernel
theorem dX7_usedAtEnd_17 : decode cX7_usedAtEnd 17 = .ok (.goto 12, 3) := by decide +kernel
theorem dX7_usedAtEnd_20 : decode cX7_usedAtEnd 20 = .ok (.aload_n 0, 1) := by decide +kernel
theorem dX7_usedAtEnd_21 : decode cX7_usedAtEnd 21 = .ok (.getfield 27, 3) := by decide +kernel
theorem dX7_usedAtEnd_24 : decode cX7_usedAtEnd 24 = .ok (.iload_n 2, 1) := by decide +kernel
theorem dX7_usedAtEnd_25 : decode cX7_usedAtEnd 25 = .ok (.iload_n 3, 1) := by decide +kernel
theorem dX7_usedAtEnd_26 : decode cX7_usedAtEnd 26 = .ok (.invokevirtual 61, 3) := by decide +kernel
theorem dX7_usedAtEnd_29 : decode cX7_usedAtEnd 29 = .ok (.ireturn, 1) := by decide +kernel
theorem dX7_placeAhead_0 : decode cX7_placeAhead 0 = .ok (.aload_n 0, 1) := by decide +kernel
theorem dX7_placeAhead_1 : decode cX7_placeAhead 1 = .ok (.getfield 27, 3) := by decide +kernel
theorem dX7_placeAhead_4 : decode cX7_placeAhead 4 = .ok (.iload_n 1, 1) := by decide +kernel
theorem dX7_placeAhead_5 : decode cX7_placeAhead 5 = .ok (.aload_n 0, 1) := by decide +kernel
theorem dX7_placeAhead_6 : decode cX7_placeAhead 6 = .ok (.getfield 24, 3) := by decide +kernel
theorem dX7_placeAhead_9 : decode cX7_placeAhead 9 = .ok (.iload_n 1, 1) := by decide +kernel
theorem dX7_placeAhead_10 : decode cX7_placeAhead 10 = .ok (.iaload, 1) := by decide +kernel
theorem dX7_placeAhead_11 : decode cX7_placeAhead 11 = .ok (.invokevirtual 64, 3) := by decide +kernel
theorem dX7_placeAhead_14 : decode cX7_placeAhead 14 = .ok (.istore_n 2, 1) := by decide +kernel
theorem dX7_placeAhead_15 : decode cX7_placeAhead 15 = .ok (.iload_n 2, 1) := by decide +kernel
theorem dX7_placeAhead_16 : decode cX7_placeAhead 16 = .ok (.iconst (-1), 1) := by decide +kernel
theorem dX7_placeAhead_17 : decode cX7_placeAhead 17 = .ok (.if_icmp .ne 7, 3) := by decide +kernel
theorem dX7_placeAhead_20 : decode cX7_placeAhead 20 = .ok (.iconst (-1), 1) := by decide +kernel
theorem dX7_placeAhead_21 : decode cX7_placeAhead 21 = .ok (.goto 12, 3) := by decide +kernel
theorem dX7_placeAhead_24 : decode cX7_placeAhead 24 = .ok (.aload_n 0, 1) := by decide +kernel
theorem dX7_placeAhead_25 : decode cX7_placeAhead 25 = .ok (.getfield 27, 3) := by decide +kernel
theorem dX7_placeAhead_28 : decode cX7_placeAhead 28 = .ok (.getfield 67, 3) := by decide +kernel
theorem dX7_placeAhead_31 : decode cX7_placeAhead 31 = .ok (.iload_n 2, 1) := by decide +kernel
theorem dX7_placeAhead_32 : decode cX7_placeAhead 32 = .ok (.iaload, 1) := by decide +kernel
theorem dX7_placeAhead_33 : decode cX7_placeAhead 33 = .ok (.ireturn, 1) := by decide +kernel
theorem dX7_whyCantBe_0 : decode cX7_whyCantBe 0 = .ok (.aload_n 0, 1) := by decide +kernel
theorem dX7_whyCantBe_1 : decode cX7_whyCantBe 1 = .ok (.getfield 27, 3) := by decide +kernel
theorem dX7_whyCantBe_4 : decode cX7_whyCantBe 4 = .ok (.iload_n 1, 1) := by decide +kernel
