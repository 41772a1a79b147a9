/-! decode rows, by program -/
theorem d_Block_init_0 : decode prog_2_method_1_code 0 = .ok (.aload_n 0, 1) := by decide +kernel
theorem d_Block_init_1 : decode prog_2_method_1_code 1 = .ok (.invokespecial 3, 3) := by decide +kernel
theorem d_Block_init_4 : decode prog_2_method_1_code 4 = .ok (.aload_n 0, 1) := by decide +kernel
theorem d_Block_init_5 : decode prog_2_method_1_code 5 = .ok (.iconst 0, 1) := by decide +kernel
theorem d_Block_init_6 : decode prog_2_method_1_code 6 = .ok (.putfield 9, 3) := by decide +kernel
theorem d_Block_init_9 : decode prog_2_method_1_code 9 = .ok (.aload_n 0, 1) := by decide +kernel
theorem d_Block_init_10 : decode prog_2_method_1_code 10 = .ok (.iconst 0, 1) := by decide +kernel
theorem d_Block_init_11 : decode prog_2_method_1_code 11 = .ok (.putfield 15, 3) := by decide +kernel
theorem d_Block_init_14 : decode prog_2_method_1_code 14 = .ok (.aload_n 0, 1) := by decide +kernel
theorem d_Block_init_15 : decode prog_2_method_1_code 15 = .ok (.iconst 0, 1) := by decide +kernel
theorem d_Block_init_16 : decode prog_2_method_1_code 16 = .ok (.putfield 18, 3) := by decide +kernel
theorem d_Block_init_19 : decode prog_2_method_1_code 19 = .ok (.aload_n 0, 1) := by decide +kernel
theorem d_Block_init_20 : decode prog_2_method_1_code 20 = .ok (.bipush 8, 2) := by decide +kernel
theorem d_Block_init_22 : decode prog_2_method_1_code 22 = .ok (.newarray .int, 2) := by decide +kernel
theorem d_Block_init_24 : decode prog_2_method_1_code 24 = .ok (.putfield 22, 3) := by decide +kernel
theorem d_Block_init_27 : decode prog_2_method_1_code 27 = .ok (.return_, 1) := by decide +kernel
theorem d_Block_isOf_0 : decode prog_2_method_2_code 0 = .ok (.aload_n 0, 1) := by decide +kernel
theorem d_Block_isOf_1 : decode prog_2_method_2_code 1 = .ok (.getfield 9, 3) := by decide +kernel
theorem d_Block_isOf_4 : decode prog_2_method_2_code 4 = .ok (.iload_n 1, 1) := by decide +kernel
theorem d_Block_isOf_5 : decode prog_2_method_2_code 5 = .ok (.if_icmp .ne 15, 3) := by decide +kernel
theorem d_Block_isOf_8 : decode prog_2_method_2_code 8 = .ok (.aload_n 0, 1) := by decide +kernel
theorem d_Block_isOf_9 : decode prog_2_method_2_code 9 = .ok (.getfield 15, 3) := by decide +kernel
theorem d_Block_isOf_12 : decode prog_2_method_2_code 12 = .ok (.iload_n 2, 1) := by decide +kernel
theorem d_Block_isOf_13 : decode prog_2_method_2_code 13 = .ok (.if_icmp .ne 7, 3) := by decide +kernel
theorem d_Block_isOf_16 : decode prog_2_method_2_code 16 = .ok (.iconst 1, 1) := by decide +kernel
theorem d_Block_isOf_17 : decode prog_2_method_2_code 17 = .ok (.goto 4, 3) := by decide +kernel
theorem d_Block_isOf_20 : decode prog_2_method_2_code 20 = .ok (.iconst 0, 1) := by decide +kernel
theorem d_Block_isOf_21 : decode prog_2_method_2_code 21 = .ok (.ireturn, 1) := by decide +kernel
theorem d_Block_describe_0 : decode prog_2_method_3_code 0 = .ok (.aload_n 0, 1) := by decide +kernel
theorem d_Block_describe_1 : decode prog_2_method_3_code 1 = .ok (.getfield 9, 3) := by decide +kernel
theorem d_Block_describe_4 : decode prog_2_method_3_code 4 = .ok (.bipush 8, 2) := by decide +kernel
theorem d_Block_describe_6 : decode prog_2_method_3_code 6 = .ok (.aload_n 0, 1) := by decide +kernel
theorem d_Block_describe_7 : decode prog_2_method_3_code 7 = .ok (.getfield 15, 3) := by decide +kernel
theorem d_Block_describe_10 : decode prog_2_method_3_code 10 = .ok (.imul, 1) := by decide +kernel
theorem d_Block_describe_11 : decode prog_2_method_3_code 11 = .ok (.iadd, 1) := by decide +kernel
theorem d_Block_describe_12 : decode prog_2_method_3_code 12 = .ok (.aload_n 0, 1) := by decide +kernel
theorem d_Block_describe_13 : decode prog_2_method_3_code 13 = .ok (.getfield 18, 3) := by decide +kernel
theorem d_Block_describe_16 : decode prog_2_method_3_code 16 = .ok (.ifCond .eq 8, 3) := by decide +kernel
theorem d_Block_describe_19 : decode prog_2_method_3_code 19 = .ok (.bipush 32, 2) := by decide +kernel
theorem d_Block_describe_21 : decode prog_2_method_3_code 21 = .ok (.goto 4, 3) := by decide +kernel
theorem d_Block_describe_24 : decode prog_2_method_3_code 24 = .ok (.iconst 0, 1) := by decide +kernel
theorem d_Block_describe_25 : decode prog_2_method_3_code 25 = .ok (.iadd, 1) := by decide +kernel
theorem d_Block_describe_26 : decode prog_2_method_3_code 26 = .ok (.ireturn, 1) := by decide +kernel
