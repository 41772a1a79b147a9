/-! decode rows, by program -/
theorem d_Pipe_init_0 : decode prog_6_method_1_code 0 = .ok (.aload_n 0, 1) := by decide +kernel
theorem d_Pipe_init_1 : decode prog_6_method_1_code 1 = .ok (.invokespecial 3, 3) := by decide +kernel
theorem d_Pipe_init_4 : decode prog_6_method_1_code 4 = .ok (.aload_n 0, 1) := by decide +kernel
theorem d_Pipe_init_5 : decode prog_6_method_1_code 5 = .ok (.iconst 4, 1) := by decide +kernel
theorem d_Pipe_init_6 : decode prog_6_method_1_code 6 = .ok (.newarray .int, 2) := by decide +kernel
theorem d_Pipe_init_8 : decode prog_6_method_1_code 8 = .ok (.putfield 9, 3) := by decide +kernel
theorem d_Pipe_init_11 : decode prog_6_method_1_code 11 = .ok (.aload_n 0, 1) := by decide +kernel
theorem d_Pipe_init_12 : decode prog_6_method_1_code 12 = .ok (.iconst 0, 1) := by decide +kernel
theorem d_Pipe_init_13 : decode prog_6_method_1_code 13 = .ok (.putfield 15, 3) := by decide +kernel
theorem d_Pipe_init_16 : decode prog_6_method_1_code 16 = .ok (.aload_n 0, 1) := by decide +kernel
theorem d_Pipe_init_17 : decode prog_6_method_1_code 17 = .ok (.iconst 0, 1) := by decide +kernel
theorem d_Pipe_init_18 : decode prog_6_method_1_code 18 = .ok (.putfield 19, 3) := by decide +kernel
theorem d_Pipe_init_21 : decode prog_6_method_1_code 21 = .ok (.aload_n 0, 1) := by decide +kernel
theorem d_Pipe_init_22 : decode prog_6_method_1_code 22 = .ok (.iconst 1, 1) := by decide +kernel
theorem d_Pipe_init_23 : decode prog_6_method_1_code 23 = .ok (.putfield 22, 3) := by decide +kernel
theorem d_Pipe_init_26 : decode prog_6_method_1_code 26 = .ok (.aload_n 0, 1) := by decide +kernel
theorem d_Pipe_init_27 : decode prog_6_method_1_code 27 = .ok (.iconst 1, 1) := by decide +kernel
theorem d_Pipe_init_28 : decode prog_6_method_1_code 28 = .ok (.putfield 26, 3) := by decide +kernel
theorem d_Pipe_init_31 : decode prog_6_method_1_code 31 = .ok (.return_, 1) := by decide +kernel
theorem d_Pipe_takeCell_0 : decode prog_6_method_2_code 0 = .ok (.aload_n 0, 1) := by decide +kernel
theorem d_Pipe_takeCell_1 : decode prog_6_method_2_code 1 = .ok (.getfield 19, 3) := by decide +kernel
theorem d_Pipe_takeCell_4 : decode prog_6_method_2_code 4 = .ok (.ifCond .ne 18, 3) := by decide +kernel
theorem d_Pipe_takeCell_7 : decode prog_6_method_2_code 7 = .ok (.aload_n 0, 1) := by decide +kernel
theorem d_Pipe_takeCell_8 : decode prog_6_method_2_code 8 = .ok (.getfield 26, 3) := by decide +kernel
theorem d_Pipe_takeCell_11 : decode prog_6_method_2_code 11 = .ok (.ifCond .eq 8, 3) := by decide +kernel
theorem d_Pipe_takeCell_14 : decode prog_6_method_2_code 14 = .ok (.bipush (-6), 2) := by decide +kernel
theorem d_Pipe_takeCell_16 : decode prog_6_method_2_code 16 = .ok (.goto 5, 3) := by decide +kernel
theorem d_Pipe_takeCell_19 : decode prog_6_method_2_code 19 = .ok (.bipush (-7), 2) := by decide +kernel
theorem d_Pipe_takeCell_21 : decode prog_6_method_2_code 21 = .ok (.ireturn, 1) := by decide +kernel
theorem d_Pipe_takeCell_22 : decode prog_6_method_2_code 22 = .ok (.aload_n 0, 1) := by decide +kernel
theorem d_Pipe_takeCell_23 : decode prog_6_method_2_code 23 = .ok (.getfield 9, 3) := by decide +kernel
theorem d_Pipe_takeCell_26 : decode prog_6_method_2_code 26 = .ok (.aload_n 0, 1) := by decide +kernel
theorem d_Pipe_takeCell_27 : decode prog_6_method_2_code 27 = .ok (.getfield 15, 3) := by decide +kernel
theorem d_Pipe_takeCell_30 : decode prog_6_method_2_code 30 = .ok (.iaload, 1) := by decide +kernel
theorem d_Pipe_takeCell_31 : decode prog_6_method_2_code 31 = .ok (.istore_n 1, 1) := by decide +kernel
theorem d_Pipe_takeCell_32 : decode prog_6_method_2_code 32 = .ok (.aload_n 0, 1) := by decide +kernel
theorem d_Pipe_takeCell_33 : decode prog_6_method_2_code 33 = .ok (.aload_n 0, 1) := by decide +kernel
theorem d_Pipe_takeCell_34 : decode prog_6_method_2_code 34 = .ok (.getfield 15, 3) := by decide +kernel
theorem d_Pipe_takeCell_37 : decode prog_6_method_2_code 37 = .ok (.iconst 1, 1) := by decide +kernel
theorem d_Pipe_takeCell_38 : decode prog_6_method_2_code 38 = .ok (.iadd, 1) := by decide +kernel
theorem d_Pipe_takeCell_39 : decode prog_6_method_2_code 39 = .ok (.iconst 4, 1) := by decide +kernel
theorem d_Pipe_takeCell_40 : decode prog_6_method_2_code 40 = .ok (.irem, 1) := by decide +kernel
theorem d_Pipe_takeCell_41 : decode prog_6_method_2_code 41 = .ok (.putfield 15, 3) := by decide +kernel
theorem d_Pipe_takeCell_44 : decode prog_6_method_2_code 44 = .ok (.aload_n 0, 1) := by decide +kernel
theorem d_Pipe_takeCell_45 : decode prog_6_method_2_code 45 = .ok (.dup, 1) := by decide +kernel
theorem d_Pipe_takeCell_46 : decode prog_6_method_2_code 46 = .ok (.getfield 19, 3) := by decide +kernel
theorem d_Pipe_takeCell_49 : decode prog_6_method_2_code 49 = .ok (.iconst 1, 1) := by decide +kernel
theorem d_Pipe_takeCell_50 : decode prog_6_method_2_code 50 = .ok (.isub, 1) := by decide +kernel
theorem d_Pipe_takeCell_51 : decode prog_6_method_2_code 51 = .ok (.putfield 19, 3) := by decide +kernel
theorem d_Pipe_takeCell_54 : decode prog_6_method_2_code 54 = .ok (.iload_n 1, 1) := by decide +kernel
theorem d_Pipe_takeCell_55 : decode prog_6_method_2_code 55 = .ok (.ireturn, 1) := by decide +kernel
theorem d_Pipe_addCell_0 : decode prog_6_method_3_code 0 = .ok (.aload_n 0, 1) := by decide +kernel
theorem d_Pipe_addCell_1 : decode prog_6_method_3_code 1 = .ok (.getfield 22, 3) := by decide +kernel
theorem d_Pipe_addCell_4 : decode prog_6_method_3_code 4 = .ok (.ifCond .ne 6, 3) := by decide +kernel
theorem d_Pipe_addCell_7 : decode prog_6_method_3_code 7 = .ok (.bipush (-7), 2) := by decide +kernel
theorem d_Pipe_addCell_9 : decode prog_6_method_3_code 9 = .ok (.ireturn, 1) := by decide +kernel
theorem d_Pipe_addCell_10 : decode prog_6_method_3_code 10 = .ok (.aload_n 0, 1) := by decide +kernel
theorem d_Pipe_addCell_11 : decode prog_6_method_3_code 11 = .ok (.getfield 19, 3) := by decide +kernel
theorem d_Pipe_addCell_14 : decode prog_6_method_3_code 14 = .ok (.iconst 4, 1) := by decide +kernel
theorem d_Pipe_addCell_15 : decode prog_6_method_3_code 15 = .ok (.if_icmp .ne 6, 3) := by decide +kernel
theorem d_Pipe_addCell_18 : decode prog_6_method_3_code 18 = .ok (.bipush (-6), 2) := by decide +kernel
theorem d_Pipe_addCell_20 : decode prog_6_method_3_code 20 = .ok (.ireturn, 1) := by decide +kernel
theorem d_Pipe_addCell_21 : decode prog_6_method_3_code 21 = .ok (.aload_n 0, 1) := by decide +kernel
theorem d_Pipe_addCell_22 : decode prog_6_method_3_code 22 = .ok (.getfield 9, 3) := by decide +kernel
theorem d_Pipe_addCell_25 : decode prog_6_method_3_code 25 = .ok (.aload_n 0, 1) := by decide +kernel
theorem d_Pipe_addCell_26 : decode prog_6_method_3_code 26 = .ok (.getfield 15, 3) := by decide +kernel
theorem d_Pipe_addCell_29 : decode prog_6_method_3_code 29 = .ok (.aload_n 0, 1) := by decide +kernel
theorem d_Pipe_addCell_30 : decode prog_6_method_3_code 30 = .ok (.getfield 19, 3) := by decide +kernel
theorem d_Pipe_addCell_33 : decode prog_6_method_3_code 33 = .ok (.iadd, 1) := by decide +kernel
theorem d_Pipe_addCell_34 : decode prog_6_method_3_code 34 = .ok (.iconst 4, 1) := by decide +kernel
theorem d_Pipe_addCell_35 : decode prog_6_method_3_code 35 = .ok (.irem, 1) := by decide +kernel
theorem d_Pipe_addCell_36 : decode prog_6_method_3_code 36 = .ok (.iload_n 1, 1) := by decide +kernel
theorem d_Pipe_addCell_37 : decode prog_6_method_3_code 37 = .ok (.iastore, 1) := by decide +kernel
theorem d_Pipe_addCell_38 : decode prog_6_method_3_code 38 = .ok (.aload_n 0, 1) := by decide +kernel
theorem d_Pipe_addCell_39 : decode prog_6_method_3_code 39 = .ok (.dup, 1) := by decide +kernel
theorem d_Pipe_addCell_40 : decode prog_6_method_3_code 40 = .ok (.getfield 19, 3) := by decide +kernel
theorem d_Pipe_addCell_43 : decode prog_6_method_3_code 43 = .ok (.iconst 1, 1) := by decide +kernel
theorem d_Pipe_addCell_44 : decode prog_6_method_3_code 44 = .ok (.iadd, 1) := by decide +kernel
theorem d_Pipe_addCell_45 : decode prog_6_method_3_code 45 = .ok (.putfield 19, 3) := by decide +kernel
theorem d_Pipe_addCell_48 : decode prog_6_method_3_code 48 = .ok (.iconst 1, 1) := by decide +kernel
theorem d_Pipe_addCell_49 : decode prog_6_method_3_code 49 = .ok (.ireturn, 1) := by decide +kernel
