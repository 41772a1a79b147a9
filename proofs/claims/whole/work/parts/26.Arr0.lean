/-! decode rows, by program -/
theorem d_Arr_fill2_0 : decode prog_12_method_103_code 0 = .ok (.iconst 0, 1) := by decide +kernel
theorem d_Arr_fill2_1 : decode prog_12_method_103_code 1 = .ok (.istore_n 2, 1) := by decide +kernel
theorem d_Arr_fill2_2 : decode prog_12_method_103_code 2 = .ok (.aload_n 0, 1) := by decide +kernel
theorem d_Arr_fill2_3 : decode prog_12_method_103_code 3 = .ok (.arraylength, 1) := by decide +kernel
theorem d_Arr_fill2_4 : decode prog_12_method_103_code 4 = .ok (.istore_n 3, 1) := by decide +kernel
theorem d_Arr_fill2_5 : decode prog_12_method_103_code 5 = .ok (.iload_n 2, 1) := by decide +kernel
theorem d_Arr_fill2_6 : decode prog_12_method_103_code 6 = .ok (.iload_n 3, 1) := by decide +kernel
theorem d_Arr_fill2_7 : decode prog_12_method_103_code 7 = .ok (.if_icmp .ge 13, 3) := by decide +kernel
theorem d_Arr_fill2_10 : decode prog_12_method_103_code 10 = .ok (.aload_n 0, 1) := by decide +kernel
theorem d_Arr_fill2_11 : decode prog_12_method_103_code 11 = .ok (.iload_n 2, 1) := by decide +kernel
theorem d_Arr_fill2_12 : decode prog_12_method_103_code 12 = .ok (.iload_n 1, 1) := by decide +kernel
theorem d_Arr_fill2_13 : decode prog_12_method_103_code 13 = .ok (.iastore, 1) := by decide +kernel
theorem d_Arr_fill2_14 : decode prog_12_method_103_code 14 = .ok (.iinc 2 1, 3) := by decide +kernel
theorem d_Arr_fill2_17 : decode prog_12_method_103_code 17 = .ok (.goto (-12), 3) := by decide +kernel
theorem d_Arr_fill2_20 : decode prog_12_method_103_code 20 = .ok (.return_, 1) := by decide +kernel
theorem d_Arr_fill4_0 : decode prog_12_method_104_code 0 = .ok (.aload_n 0, 1) := by decide +kernel
theorem d_Arr_fill4_1 : decode prog_12_method_104_code 1 = .ok (.arraylength, 1) := by decide +kernel
theorem d_Arr_fill4_2 : decode prog_12_method_104_code 2 = .ok (.iload_n 1, 1) := by decide +kernel
theorem d_Arr_fill4_3 : decode prog_12_method_104_code 3 = .ok (.iload_n 2, 1) := by decide +kernel
theorem d_Arr_fill4_4 : decode prog_12_method_104_code 4 = .ok (.invokestatic 13, 3) := by decide +kernel
theorem d_Arr_fill4_7 : decode prog_12_method_104_code 7 = .ok (.iload_n 1, 1) := by decide +kernel
theorem d_Arr_fill4_8 : decode prog_12_method_104_code 8 = .ok (.istore 4, 2) := by decide +kernel
theorem d_Arr_fill4_10 : decode prog_12_method_104_code 10 = .ok (.iload 4, 2) := by decide +kernel
theorem d_Arr_fill4_12 : decode prog_12_method_104_code 12 = .ok (.iload_n 2, 1) := by decide +kernel
theorem d_Arr_fill4_13 : decode prog_12_method_104_code 13 = .ok (.if_icmp .ge 14, 3) := by decide +kernel
theorem d_Arr_fill4_16 : decode prog_12_method_104_code 16 = .ok (.aload_n 0, 1) := by decide +kernel
theorem d_Arr_fill4_17 : decode prog_12_method_104_code 17 = .ok (.iload 4, 2) := by decide +kernel
theorem d_Arr_fill4_19 : decode prog_12_method_104_code 19 = .ok (.iload_n 3, 1) := by decide +kernel
theorem d_Arr_fill4_20 : decode prog_12_method_104_code 20 = .ok (.iastore, 1) := by decide +kernel
theorem d_Arr_fill4_21 : decode prog_12_method_104_code 21 = .ok (.iinc 4 1, 3) := by decide +kernel
theorem d_Arr_fill4_24 : decode prog_12_method_104_code 24 = .ok (.goto (-14), 3) := by decide +kernel
theorem d_Arr_fill4_27 : decode prog_12_method_104_code 27 = .ok (.return_, 1) := by decide +kernel
theorem d_Arr_rangeCheck_0 : decode prog_12_method_30_code 0 = .ok (.iload_n 1, 1) := by decide +kernel
theorem d_Arr_rangeCheck_1 : decode prog_12_method_30_code 1 = .ok (.iload_n 2, 1) := by decide +kernel
theorem d_Arr_rangeCheck_2 : decode prog_12_method_30_code 2 = .ok (.if_icmp .le 44, 3) := by decide +kernel
theorem d_Arr_rangeCheck_46 : decode prog_12_method_30_code 46 = .ok (.iload_n 1, 1) := by decide +kernel
theorem d_Arr_rangeCheck_47 : decode prog_12_method_30_code 47 = .ok (.ifCond .ge 12, 3) := by decide +kernel
theorem d_Arr_rangeCheck_59 : decode prog_12_method_30_code 59 = .ok (.iload_n 2, 1) := by decide +kernel
theorem d_Arr_rangeCheck_60 : decode prog_12_method_30_code 60 = .ok (.iload_n 0, 1) := by decide +kernel
theorem d_Arr_rangeCheck_61 : decode prog_12_method_30_code 61 = .ok (.if_icmp .le 12, 3) := by decide +kernel
theorem d_Arr_rangeCheck_73 : decode prog_12_method_30_code 73 = .ok (.return_, 1) := by decide +kernel
