/-! decode rows, by program -/
theorem d_Opening_init_0 : decode prog_5_method_1_code 0 = .ok (.aload_n 0, 1) := by decide +kernel
theorem d_Opening_init_1 : decode prog_5_method_1_code 1 = .ok (.invokespecial 3, 3) := by decide +kernel
theorem d_Opening_init_4 : decode prog_5_method_1_code 4 = .ok (.aload_n 0, 1) := by decide +kernel
theorem d_Opening_init_5 : decode prog_5_method_1_code 5 = .ok (.iconst 0, 1) := by decide +kernel
theorem d_Opening_init_6 : decode prog_5_method_1_code 6 = .ok (.putfield 9, 3) := by decide +kernel
theorem d_Opening_init_9 : decode prog_5_method_1_code 9 = .ok (.aload_n 0, 1) := by decide +kernel
theorem d_Opening_init_10 : decode prog_5_method_1_code 10 = .ok (.iconst 0, 1) := by decide +kernel
theorem d_Opening_init_11 : decode prog_5_method_1_code 11 = .ok (.putfield 15, 3) := by decide +kernel
theorem d_Opening_init_14 : decode prog_5_method_1_code 14 = .ok (.aload_n 0, 1) := by decide +kernel
theorem d_Opening_init_15 : decode prog_5_method_1_code 15 = .ok (.iconst 0, 1) := by decide +kernel
theorem d_Opening_init_16 : decode prog_5_method_1_code 16 = .ok (.putfield 18, 3) := by decide +kernel
theorem d_Opening_init_19 : decode prog_5_method_1_code 19 = .ok (.aload_n 0, 1) := by decide +kernel
theorem d_Opening_init_20 : decode prog_5_method_1_code 20 = .ok (.iconst 0, 1) := by decide +kernel
theorem d_Opening_init_21 : decode prog_5_method_1_code 21 = .ok (.putfield 21, 3) := by decide +kernel
theorem d_Opening_init_24 : decode prog_5_method_1_code 24 = .ok (.aload_n 0, 1) := by decide +kernel
theorem d_Opening_init_25 : decode prog_5_method_1_code 25 = .ok (.aconst_null, 1) := by decide +kernel
theorem d_Opening_init_26 : decode prog_5_method_1_code 26 = .ok (.putfield 24, 3) := by decide +kernel
theorem d_Opening_init_29 : decode prog_5_method_1_code 29 = .ok (.return_, 1) := by decide +kernel
theorem d_Opening_isOfFile_0 : decode prog_5_method_5_code 0 = .ok (.aload_n 0, 1) := by decide +kernel
theorem d_Opening_isOfFile_1 : decode prog_5_method_5_code 1 = .ok (.getfield 9, 3) := by decide +kernel
theorem d_Opening_isOfFile_4 : decode prog_5_method_5_code 4 = .ok (.ifCond .le 22, 3) := by decide +kernel
theorem d_Opening_isOfFile_7 : decode prog_5_method_5_code 7 = .ok (.aload_n 0, 1) := by decide +kernel
theorem d_Opening_isOfFile_8 : decode prog_5_method_5_code 8 = .ok (.getfield 24, 3) := by decide +kernel
theorem d_Opening_isOfFile_11 : decode prog_5_method_5_code 11 = .ok (.ifnonnull 15, 3) := by decide +kernel
theorem d_Opening_isOfFile_14 : decode prog_5_method_5_code 14 = .ok (.aload_n 0, 1) := by decide +kernel
theorem d_Opening_isOfFile_15 : decode prog_5_method_5_code 15 = .ok (.getfield 18, 3) := by decide +kernel
theorem d_Opening_isOfFile_18 : decode prog_5_method_5_code 18 = .ok (.iload_n 1, 1) := by decide +kernel
theorem d_Opening_isOfFile_19 : decode prog_5_method_5_code 19 = .ok (.if_icmp .ne 7, 3) := by decide +kernel
theorem d_Opening_isOfFile_22 : decode prog_5_method_5_code 22 = .ok (.iconst 1, 1) := by decide +kernel
theorem d_Opening_isOfFile_23 : decode prog_5_method_5_code 23 = .ok (.goto 4, 3) := by decide +kernel
theorem d_Opening_isOfFile_26 : decode prog_5_method_5_code 26 = .ok (.iconst 0, 1) := by decide +kernel
theorem d_Opening_isOfFile_27 : decode prog_5_method_5_code 27 = .ok (.ireturn, 1) := by decide +kernel
theorem d_Opening_becomeFile_0 : decode prog_5_method_2_code 0 = .ok (.aload_n 0, 1) := by decide +kernel
theorem d_Opening_becomeFile_1 : decode prog_5_method_2_code 1 = .ok (.aconst_null, 1) := by decide +kernel
theorem d_Opening_becomeFile_2 : decode prog_5_method_2_code 2 = .ok (.putfield 24, 3) := by decide +kernel
theorem d_Opening_becomeFile_5 : decode prog_5_method_2_code 5 = .ok (.aload_n 0, 1) := by decide +kernel
theorem d_Opening_becomeFile_6 : decode prog_5_method_2_code 6 = .ok (.iload_n 1, 1) := by decide +kernel
theorem d_Opening_becomeFile_7 : decode prog_5_method_2_code 7 = .ok (.putfield 18, 3) := by decide +kernel
theorem d_Opening_becomeFile_10 : decode prog_5_method_2_code 10 = .ok (.aload_n 0, 1) := by decide +kernel
theorem d_Opening_becomeFile_11 : decode prog_5_method_2_code 11 = .ok (.iload_n 2, 1) := by decide +kernel
theorem d_Opening_becomeFile_12 : decode prog_5_method_2_code 12 = .ok (.putfield 15, 3) := by decide +kernel
theorem d_Opening_becomeFile_15 : decode prog_5_method_2_code 15 = .ok (.aload_n 0, 1) := by decide +kernel
theorem d_Opening_becomeFile_16 : decode prog_5_method_2_code 16 = .ok (.iconst 0, 1) := by decide +kernel
theorem d_Opening_becomeFile_17 : decode prog_5_method_2_code 17 = .ok (.putfield 21, 3) := by decide +kernel
theorem d_Opening_becomeFile_20 : decode prog_5_method_2_code 20 = .ok (.return_, 1) := by decide +kernel
theorem d_Opening_becomePipeEnd_0 : decode prog_5_method_3_code 0 = .ok (.aload_n 0, 1) := by decide +kernel
theorem d_Opening_becomePipeEnd_1 : decode prog_5_method_3_code 1 = .ok (.aload_n 1, 1) := by decide +kernel
theorem d_Opening_becomePipeEnd_2 : decode prog_5_method_3_code 2 = .ok (.putfield 24, 3) := by decide +kernel
theorem d_Opening_becomePipeEnd_5 : decode prog_5_method_3_code 5 = .ok (.aload_n 0, 1) := by decide +kernel
theorem d_Opening_becomePipeEnd_6 : decode prog_5_method_3_code 6 = .ok (.iload_n 2, 1) := by decide +kernel
theorem d_Opening_becomePipeEnd_7 : decode prog_5_method_3_code 7 = .ok (.putfield 15, 3) := by decide +kernel
theorem d_Opening_becomePipeEnd_10 : decode prog_5_method_3_code 10 = .ok (.return_, 1) := by decide +kernel
theorem d_Opening_may_0 : decode prog_5_method_4_code 0 = .ok (.aload_n 0, 1) := by decide +kernel
theorem d_Opening_may_1 : decode prog_5_method_4_code 1 = .ok (.getfield 15, 3) := by decide +kernel
theorem d_Opening_may_4 : decode prog_5_method_4_code 4 = .ok (.iload_n 1, 1) := by decide +kernel
theorem d_Opening_may_5 : decode prog_5_method_4_code 5 = .ok (.iand, 1) := by decide +kernel
theorem d_Opening_may_6 : decode prog_5_method_4_code 6 = .ok (.ifCond .eq 7, 3) := by decide +kernel
theorem d_Opening_may_9 : decode prog_5_method_4_code 9 = .ok (.iconst 1, 1) := by decide +kernel
theorem d_Opening_may_10 : decode prog_5_method_4_code 10 = .ok (.goto 4, 3) := by decide +kernel
theorem d_Opening_may_13 : decode prog_5_method_4_code 13 = .ok (.iconst 0, 1) := by decide +kernel
theorem d_Opening_may_14 : decode prog_5_method_4_code 14 = .ok (.ireturn, 1) := by decide +kernel
theorem d_Opening_loseHolder_0 : decode prog_5_method_6_code 0 = .ok (.aload_n 0, 1) := by decide +kernel
theorem d_Opening_loseHolder_1 : decode prog_5_method_6_code 1 = .ok (.dup, 1) := by decide +kernel
theorem d_Opening_loseHolder_2 : decode prog_5_method_6_code 2 = .ok (.getfield 9, 3) := by decide +kernel
theorem d_Opening_loseHolder_5 : decode prog_5_method_6_code 5 = .ok (.iconst 1, 1) := by decide +kernel
theorem d_Opening_loseHolder_6 : decode prog_5_method_6_code 6 = .ok (.isub, 1) := by decide +kernel
theorem d_Opening_loseHolder_7 : decode prog_5_method_6_code 7 = .ok (.putfield 9, 3) := by decide +kernel
theorem d_Opening_loseHolder_10 : decode prog_5_method_6_code 10 = .ok (.aload_n 0, 1) := by decide +kernel
theorem d_Opening_loseHolder_11 : decode prog_5_method_6_code 11 = .ok (.getfield 9, 3) := by decide +kernel
theorem d_Opening_loseHolder_14 : decode prog_5_method_6_code 14 = .ok (.ifCond .ne 18, 3) := by decide +kernel
theorem d_Opening_loseHolder_17 : decode prog_5_method_6_code 17 = .ok (.aload_n 0, 1) := by decide +kernel
theorem d_Opening_loseHolder_18 : decode prog_5_method_6_code 18 = .ok (.getfield 24, 3) := by decide +kernel
theorem d_Opening_loseHolder_21 : decode prog_5_method_6_code 21 = .ok (.ifnull 11, 3) := by decide +kernel
theorem d_Opening_loseHolder_24 : decode prog_5_method_6_code 24 = .ok (.aload_n 0, 1) := by decide +kernel
theorem d_Opening_loseHolder_25 : decode prog_5_method_6_code 25 = .ok (.aload_n 0, 1) := by decide +kernel
theorem d_Opening_loseHolder_26 : decode prog_5_method_6_code 26 = .ok (.getfield 24, 3) := by decide +kernel
theorem d_Opening_loseHolder_29 : decode prog_5_method_6_code 29 = .ok (.invokevirtual 28, 3) := by decide +kernel
theorem d_Opening_loseHolder_32 : decode prog_5_method_6_code 32 = .ok (.return_, 1) := by decide +kernel
theorem d_Opening_leavePipe_0 : decode prog_5_method_7_code 0 = .ok (.aload_n 0, 1) := by decide +kernel
theorem d_Opening_leavePipe_1 : decode prog_5_method_7_code 1 = .ok (.iconst 1, 1) := by decide +kernel
theorem d_Opening_leavePipe_2 : decode prog_5_method_7_code 2 = .ok (.invokevirtual 32, 3) := by decide +kernel
theorem d_Opening_leavePipe_5 : decode prog_5_method_7_code 5 = .ok (.ifCond .eq 11, 3) := by decide +kernel
theorem d_Opening_leavePipe_8 : decode prog_5_method_7_code 8 = .ok (.aload_n 1, 1) := by decide +kernel
theorem d_Opening_leavePipe_9 : decode prog_5_method_7_code 9 = .ok (.iconst 0, 1) := by decide +kernel
theorem d_Opening_leavePipe_10 : decode prog_5_method_7_code 10 = .ok (.putfield 36, 3) := by decide +kernel
theorem d_Opening_leavePipe_13 : decode prog_5_method_7_code 13 = .ok (.goto 8, 3) := by decide +kernel
theorem d_Opening_leavePipe_16 : decode prog_5_method_7_code 16 = .ok (.aload_n 1, 1) := by decide +kernel
theorem d_Opening_leavePipe_17 : decode prog_5_method_7_code 17 = .ok (.iconst 0, 1) := by decide +kernel
theorem d_Opening_leavePipe_18 : decode prog_5_method_7_code 18 = .ok (.putfield 42, 3) := by decide +kernel
theorem d_Opening_leavePipe_21 : decode prog_5_method_7_code 21 = .ok (.return_, 1) := by decide +kernel
