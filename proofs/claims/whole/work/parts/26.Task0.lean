/-! decode rows, by program -/
theorem d_Task_init_0 : decode prog_7_method_1_code 0 = .ok (.aload_n 0, 1) := by decide +kernel
theorem d_Task_init_1 : decode prog_7_method_1_code 1 = .ok (.invokespecial 3, 3) := by decide +kernel
theorem d_Task_init_4 : decode prog_7_method_1_code 4 = .ok (.aload_n 0, 1) := by decide +kernel
theorem d_Task_init_5 : decode prog_7_method_1_code 5 = .ok (.iconst 0, 1) := by decide +kernel
theorem d_Task_init_6 : decode prog_7_method_1_code 6 = .ok (.putfield 11, 3) := by decide +kernel
theorem d_Task_init_9 : decode prog_7_method_1_code 9 = .ok (.aload_n 0, 1) := by decide +kernel
theorem d_Task_init_10 : decode prog_7_method_1_code 10 = .ok (.iconst (-1), 1) := by decide +kernel
theorem d_Task_init_11 : decode prog_7_method_1_code 11 = .ok (.putfield 15, 3) := by decide +kernel
theorem d_Task_init_14 : decode prog_7_method_1_code 14 = .ok (.aload_n 0, 1) := by decide +kernel
theorem d_Task_init_15 : decode prog_7_method_1_code 15 = .ok (.iconst 0, 1) := by decide +kernel
theorem d_Task_init_16 : decode prog_7_method_1_code 16 = .ok (.putfield 18, 3) := by decide +kernel
theorem d_Task_init_19 : decode prog_7_method_1_code 19 = .ok (.aload_n 0, 1) := by decide +kernel
theorem d_Task_init_20 : decode prog_7_method_1_code 20 = .ok (.bipush 6, 2) := by decide +kernel
theorem d_Task_init_22 : decode prog_7_method_1_code 22 = .ok (.anewarray 21, 3) := by decide +kernel
theorem d_Task_init_25 : decode prog_7_method_1_code 25 = .ok (.putfield 23, 3) := by decide +kernel
theorem d_Task_init_28 : decode prog_7_method_1_code 28 = .ok (.return_, 1) := by decide +kernel
theorem d_Task_begin_0 : decode prog_7_method_2_code 0 = .ok (.aload_n 0, 1) := by decide +kernel
theorem d_Task_begin_1 : decode prog_7_method_2_code 1 = .ok (.iconst 1, 1) := by decide +kernel
theorem d_Task_begin_2 : decode prog_7_method_2_code 2 = .ok (.putfield 11, 3) := by decide +kernel
theorem d_Task_begin_5 : decode prog_7_method_2_code 5 = .ok (.aload_n 0, 1) := by decide +kernel
theorem d_Task_begin_6 : decode prog_7_method_2_code 6 = .ok (.iload_n 1, 1) := by decide +kernel
theorem d_Task_begin_7 : decode prog_7_method_2_code 7 = .ok (.putfield 15, 3) := by decide +kernel
theorem d_Task_begin_10 : decode prog_7_method_2_code 10 = .ok (.return_, 1) := by decide +kernel
theorem d_Task_freeFrom_0 : decode prog_7_method_6_code 0 = .ok (.iload_n 1, 1) := by decide +kernel
theorem d_Task_freeFrom_1 : decode prog_7_method_6_code 1 = .ok (.istore_n 2, 1) := by decide +kernel
theorem d_Task_freeFrom_2 : decode prog_7_method_6_code 2 = .ok (.iload_n 2, 1) := by decide +kernel
theorem d_Task_freeFrom_3 : decode prog_7_method_6_code 3 = .ok (.bipush 6, 2) := by decide +kernel
theorem d_Task_freeFrom_5 : decode prog_7_method_6_code 5 = .ok (.if_icmp .ge 20, 3) := by decide +kernel
theorem d_Task_freeFrom_8 : decode prog_7_method_6_code 8 = .ok (.aload_n 0, 1) := by decide +kernel
theorem d_Task_freeFrom_9 : decode prog_7_method_6_code 9 = .ok (.getfield 23, 3) := by decide +kernel
theorem d_Task_freeFrom_12 : decode prog_7_method_6_code 12 = .ok (.iload_n 2, 1) := by decide +kernel
theorem d_Task_freeFrom_13 : decode prog_7_method_6_code 13 = .ok (.aaload, 1) := by decide +kernel
theorem d_Task_freeFrom_14 : decode prog_7_method_6_code 14 = .ok (.ifnonnull 5, 3) := by decide +kernel
theorem d_Task_freeFrom_17 : decode prog_7_method_6_code 17 = .ok (.iload_n 2, 1) := by decide +kernel
theorem d_Task_freeFrom_18 : decode prog_7_method_6_code 18 = .ok (.ireturn, 1) := by decide +kernel
theorem d_Task_freeFrom_19 : decode prog_7_method_6_code 19 = .ok (.iinc 2 1, 3) := by decide +kernel
theorem d_Task_freeFrom_22 : decode prog_7_method_6_code 22 = .ok (.goto (-20), 3) := by decide +kernel
theorem d_Task_freeFrom_25 : decode prog_7_method_6_code 25 = .ok (.iconst (-1), 1) := by decide +kernel
theorem d_Task_freeFrom_26 : decode prog_7_method_6_code 26 = .ok (.ireturn, 1) := by decide +kernel
theorem d_Task_hold_0 : decode prog_7_method_7_code 0 = .ok (.aload_n 0, 1) := by decide +kernel
theorem d_Task_hold_1 : decode prog_7_method_7_code 1 = .ok (.getfield 23, 3) := by decide +kernel
theorem d_Task_hold_4 : decode prog_7_method_7_code 4 = .ok (.iload_n 1, 1) := by decide +kernel
theorem d_Task_hold_5 : decode prog_7_method_7_code 5 = .ok (.aload_n 2, 1) := by decide +kernel
theorem d_Task_hold_6 : decode prog_7_method_7_code 6 = .ok (.aastore, 1) := by decide +kernel
theorem d_Task_hold_7 : decode prog_7_method_7_code 7 = .ok (.aload_n 2, 1) := by decide +kernel
theorem d_Task_hold_8 : decode prog_7_method_7_code 8 = .ok (.dup, 1) := by decide +kernel
theorem d_Task_hold_9 : decode prog_7_method_7_code 9 = .ok (.getfield 30, 3) := by decide +kernel
theorem d_Task_hold_12 : decode prog_7_method_7_code 12 = .ok (.iconst 1, 1) := by decide +kernel
theorem d_Task_hold_13 : decode prog_7_method_7_code 13 = .ok (.iadd, 1) := by decide +kernel
theorem d_Task_hold_14 : decode prog_7_method_7_code 14 = .ok (.putfield 30, 3) := by decide +kernel
theorem d_Task_hold_17 : decode prog_7_method_7_code 17 = .ok (.return_, 1) := by decide +kernel
theorem d_Task_letGo_0 : decode prog_7_method_8_code 0 = .ok (.aload_n 0, 1) := by decide +kernel
theorem d_Task_letGo_1 : decode prog_7_method_8_code 1 = .ok (.getfield 23, 3) := by decide +kernel
theorem d_Task_letGo_4 : decode prog_7_method_8_code 4 = .ok (.iload_n 1, 1) := by decide +kernel
theorem d_Task_letGo_5 : decode prog_7_method_8_code 5 = .ok (.aaload, 1) := by decide +kernel
theorem d_Task_letGo_6 : decode prog_7_method_8_code 6 = .ok (.astore_n 2, 1) := by decide +kernel
theorem d_Task_letGo_7 : decode prog_7_method_8_code 7 = .ok (.aload_n 2, 1) := by decide +kernel
theorem d_Task_letGo_8 : decode prog_7_method_8_code 8 = .ok (.ifnull 14, 3) := by decide +kernel
theorem d_Task_letGo_11 : decode prog_7_method_8_code 11 = .ok (.aload_n 0, 1) := by decide +kernel
theorem d_Task_letGo_12 : decode prog_7_method_8_code 12 = .ok (.getfield 23, 3) := by decide +kernel
theorem d_Task_letGo_15 : decode prog_7_method_8_code 15 = .ok (.iload_n 1, 1) := by decide +kernel
theorem d_Task_letGo_16 : decode prog_7_method_8_code 16 = .ok (.aconst_null, 1) := by decide +kernel
theorem d_Task_letGo_17 : decode prog_7_method_8_code 17 = .ok (.aastore, 1) := by decide +kernel
theorem d_Task_letGo_18 : decode prog_7_method_8_code 18 = .ok (.aload_n 2, 1) := by decide +kernel
theorem d_Task_letGo_19 : decode prog_7_method_8_code 19 = .ok (.invokevirtual 33, 3) := by decide +kernel
theorem d_Task_letGo_22 : decode prog_7_method_8_code 22 = .ok (.return_, 1) := by decide +kernel
theorem d_Task_shareAllOf_0 : decode prog_7_method_9_code 0 = .ok (.iconst 0, 1) := by decide +kernel
theorem d_Task_shareAllOf_1 : decode prog_7_method_9_code 1 = .ok (.istore_n 2, 1) := by decide +kernel
theorem d_Task_shareAllOf_2 : decode prog_7_method_9_code 2 = .ok (.iload_n 2, 1) := by decide +kernel
theorem d_Task_shareAllOf_3 : decode prog_7_method_9_code 3 = .ok (.bipush 6, 2) := by decide +kernel
theorem d_Task_shareAllOf_5 : decode prog_7_method_9_code 5 = .ok (.if_icmp .ge 26, 3) := by decide +kernel
theorem d_Task_shareAllOf_8 : decode prog_7_method_9_code 8 = .ok (.aload_n 1, 1) := by decide +kernel
theorem d_Task_shareAllOf_9 : decode prog_7_method_9_code 9 = .ok (.getfield 23, 3) := by decide +kernel
theorem d_Task_shareAllOf_12 : decode prog_7_method_9_code 12 = .ok (.iload_n 2, 1) := by decide +kernel
theorem d_Task_shareAllOf_13 : decode prog_7_method_9_code 13 = .ok (.aaload, 1) := by decide +kernel
theorem d_Task_shareAllOf_14 : decode prog_7_method_9_code 14 = .ok (.astore_n 3, 1) := by decide +kernel
theorem d_Task_shareAllOf_15 : decode prog_7_method_9_code 15 = .ok (.aload_n 3, 1) := by decide +kernel
theorem d_Task_shareAllOf_16 : decode prog_7_method_9_code 16 = .ok (.ifnull 9, 3) := by decide +kernel
theorem d_Task_shareAllOf_19 : decode prog_7_method_9_code 19 = .ok (.aload_n 0, 1) := by decide +kernel
theorem d_Task_shareAllOf_20 : decode prog_7_method_9_code 20 = .ok (.iload_n 2, 1) := by decide +kernel
theorem d_Task_shareAllOf_21 : decode prog_7_method_9_code 21 = .ok (.aload_n 3, 1) := by decide +kernel
theorem d_Task_shareAllOf_22 : decode prog_7_method_9_code 22 = .ok (.invokevirtual 36, 3) := by decide +kernel
theorem d_Task_shareAllOf_25 : decode prog_7_method_9_code 25 = .ok (.iinc 2 1, 3) := by decide +kernel
theorem d_Task_shareAllOf_28 : decode prog_7_method_9_code 28 = .ok (.goto (-26), 3) := by decide +kernel
theorem d_Task_shareAllOf_31 : decode prog_7_method_9_code 31 = .ok (.return_, 1) := by decide +kernel
theorem d_Task_finish_0 : decode prog_7_method_3_code 0 = .ok (.aload_n 0, 1) := by decide +kernel
theorem d_Task_finish_1 : decode prog_7_method_3_code 1 = .ok (.invokevirtual 27, 3) := by decide +kernel
theorem d_Task_finish_4 : decode prog_7_method_3_code 4 = .ok (.aload_n 0, 1) := by decide +kernel
theorem d_Task_finish_5 : decode prog_7_method_3_code 5 = .ok (.iconst 2, 1) := by decide +kernel
theorem d_Task_finish_6 : decode prog_7_method_3_code 6 = .ok (.putfield 11, 3) := by decide +kernel
theorem d_Task_finish_9 : decode prog_7_method_3_code 9 = .ok (.aload_n 0, 1) := by decide +kernel
theorem d_Task_finish_10 : decode prog_7_method_3_code 10 = .ok (.iload_n 1, 1) := by decide +kernel
theorem d_Task_finish_11 : decode prog_7_method_3_code 11 = .ok (.putfield 18, 3) := by decide +kernel
theorem d_Task_finish_14 : decode prog_7_method_3_code 14 = .ok (.return_, 1) := by decide +kernel
theorem d_Task_letGoAll_0 : decode prog_7_method_10_code 0 = .ok (.iconst 0, 1) := by decide +kernel
theorem d_Task_letGoAll_1 : decode prog_7_method_10_code 1 = .ok (.istore_n 1, 1) := by decide +kernel
theorem d_Task_letGoAll_2 : decode prog_7_method_10_code 2 = .ok (.iload_n 1, 1) := by decide +kernel
theorem d_Task_letGoAll_3 : decode prog_7_method_10_code 3 = .ok (.bipush 6, 2) := by decide +kernel
theorem d_Task_letGoAll_5 : decode prog_7_method_10_code 5 = .ok (.if_icmp .ge 14, 3) := by decide +kernel
theorem d_Task_letGoAll_8 : decode prog_7_method_10_code 8 = .ok (.aload_n 0, 1) := by decide +kernel
theorem d_Task_letGoAll_9 : decode prog_7_method_10_code 9 = .ok (.iload_n 1, 1) := by decide +kernel
theorem d_Task_letGoAll_10 : decode prog_7_method_10_code 10 = .ok (.invokevirtual 40, 3) := by decide +kernel
theorem d_Task_letGoAll_13 : decode prog_7_method_10_code 13 = .ok (.iinc 1 1, 3) := by decide +kernel
theorem d_Task_letGoAll_16 : decode prog_7_method_10_code 16 = .ok (.goto (-14), 3) := by decide +kernel
theorem d_Task_letGoAll_19 : decode prog_7_method_10_code 19 = .ok (.return_, 1) := by decide +kernel
theorem d_Task_isChildOf_0 : decode prog_7_method_5_code 0 = .ok (.aload_n 0, 1) := by decide +kernel
theorem d_Task_isChildOf_1 : decode prog_7_method_5_code 1 = .ok (.getfield 11, 3) := by decide +kernel
theorem d_Task_isChildOf_4 : decode prog_7_method_5_code 4 = .ok (.ifCond .eq 15, 3) := by decide +kernel
theorem d_Task_isChildOf_7 : decode prog_7_method_5_code 7 = .ok (.aload_n 0, 1) := by decide +kernel
theorem d_Task_isChildOf_8 : decode prog_7_method_5_code 8 = .ok (.getfield 15, 3) := by decide +kernel
theorem d_Task_isChildOf_11 : decode prog_7_method_5_code 11 = .ok (.iload_n 1, 1) := by decide +kernel
theorem d_Task_isChildOf_12 : decode prog_7_method_5_code 12 = .ok (.if_icmp .ne 7, 3) := by decide +kernel
theorem d_Task_isChildOf_15 : decode prog_7_method_5_code 15 = .ok (.iconst 1, 1) := by decide +kernel
theorem d_Task_isChildOf_16 : decode prog_7_method_5_code 16 = .ok (.goto 4, 3) := by decide +kernel
theorem d_Task_isChildOf_19 : decode prog_7_method_5_code 19 = .ok (.iconst 0, 1) := by decide +kernel
theorem d_Task_isChildOf_20 : decode prog_7_method_5_code 20 = .ok (.ireturn, 1) := by decide +kernel
theorem d_Task_vanish_0 : decode prog_7_method_4_code 0 = .ok (.aload_n 0, 1) := by decide +kernel
theorem d_Task_vanish_1 : decode prog_7_method_4_code 1 = .ok (.invokevirtual 27, 3) := by decide +kernel
theorem d_Task_vanish_4 : decode prog_7_method_4_code 4 = .ok (.aload_n 0, 1) := by decide +kernel
theorem d_Task_vanish_5 : decode prog_7_method_4_code 5 = .ok (.iconst 0, 1) := by decide +kernel
theorem d_Task_vanish_6 : decode prog_7_method_4_code 6 = .ok (.putfield 11, 3) := by decide +kernel
theorem d_Task_vanish_9 : decode prog_7_method_4_code 9 = .ok (.return_, 1) := by decide +kernel
