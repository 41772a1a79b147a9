/-! decode rows, by program -/
theorem d_Host_init_0 : decode prog_4_method_1_code 0 = .ok (.aload_n 0, 1) := by decide +kernel
theorem d_Host_init_1 : decode prog_4_method_1_code 1 = .ok (.invokespecial 3, 3) := by decide +kernel
theorem d_Host_init_4 : decode prog_4_method_1_code 4 = .ok (.aload_n 0, 1) := by decide +kernel
theorem d_Host_init_5 : decode prog_4_method_1_code 5 = .ok (.bipush 8, 2) := by decide +kernel
theorem d_Host_init_7 : decode prog_4_method_1_code 7 = .ok (.newarray .boolean, 2) := by decide +kernel
theorem d_Host_init_9 : decode prog_4_method_1_code 9 = .ok (.putfield 9, 3) := by decide +kernel
theorem d_Host_init_12 : decode prog_4_method_1_code 12 = .ok (.aload_n 0, 1) := by decide +kernel
theorem d_Host_init_13 : decode prog_4_method_1_code 13 = .ok (.bipush 8, 2) := by decide +kernel
theorem d_Host_init_15 : decode prog_4_method_1_code 15 = .ok (.newarray .int, 2) := by decide +kernel
theorem d_Host_init_17 : decode prog_4_method_1_code 17 = .ok (.putfield 15, 3) := by decide +kernel
theorem d_Host_init_20 : decode prog_4_method_1_code 20 = .ok (.aload_n 0, 1) := by decide +kernel
theorem d_Host_init_21 : decode prog_4_method_1_code 21 = .ok (.sipush 256, 3) := by decide +kernel
theorem d_Host_init_24 : decode prog_4_method_1_code 24 = .ok (.newarray .int, 2) := by decide +kernel
theorem d_Host_init_26 : decode prog_4_method_1_code 26 = .ok (.putfield 19, 3) := by decide +kernel
theorem d_Host_init_29 : decode prog_4_method_1_code 29 = .ok (.aload_n 0, 1) := by decide +kernel
theorem d_Host_init_30 : decode prog_4_method_1_code 30 = .ok (.bipush 16, 2) := by decide +kernel
theorem d_Host_init_32 : decode prog_4_method_1_code 32 = .ok (.newarray .int, 2) := by decide +kernel
theorem d_Host_init_34 : decode prog_4_method_1_code 34 = .ok (.putfield 22, 3) := by decide +kernel
theorem d_Host_init_37 : decode prog_4_method_1_code 37 = .ok (.aload_n 0, 1) := by decide +kernel
theorem d_Host_init_38 : decode prog_4_method_1_code 38 = .ok (.iconst 0, 1) := by decide +kernel
theorem d_Host_init_39 : decode prog_4_method_1_code 39 = .ok (.putfield 25, 3) := by decide +kernel
theorem d_Host_init_42 : decode prog_4_method_1_code 42 = .ok (.aload_n 0, 1) := by decide +kernel
theorem d_Host_init_43 : decode prog_4_method_1_code 43 = .ok (.iconst 0, 1) := by decide +kernel
theorem d_Host_init_44 : decode prog_4_method_1_code 44 = .ok (.putfield 29, 3) := by decide +kernel
theorem d_Host_init_47 : decode prog_4_method_1_code 47 = .ok (.aload_n 0, 1) := by decide +kernel
theorem d_Host_init_48 : decode prog_4_method_1_code 48 = .ok (.iconst 0, 1) := by decide +kernel
theorem d_Host_init_49 : decode prog_4_method_1_code 49 = .ok (.putfield 32, 3) := by decide +kernel
theorem d_Host_init_52 : decode prog_4_method_1_code 52 = .ok (.return_, 1) := by decide +kernel
theorem d_Host_place_0 : decode prog_4_method_9_code 0 = .ok (.aload_n 0, 1) := by decide +kernel
theorem d_Host_place_1 : decode prog_4_method_9_code 1 = .ok (.iload_n 1, 1) := by decide +kernel
theorem d_Host_place_2 : decode prog_4_method_9_code 2 = .ok (.invokevirtual 35, 3) := by decide +kernel
theorem d_Host_place_5 : decode prog_4_method_9_code 5 = .ok (.aload_n 0, 1) := by decide +kernel
theorem d_Host_place_6 : decode prog_4_method_9_code 6 = .ok (.getfield 9, 3) := by decide +kernel
theorem d_Host_place_9 : decode prog_4_method_9_code 9 = .ok (.iload_n 1, 1) := by decide +kernel
theorem d_Host_place_10 : decode prog_4_method_9_code 10 = .ok (.iconst 1, 1) := by decide +kernel
theorem d_Host_place_11 : decode prog_4_method_9_code 11 = .ok (.bastore, 1) := by decide +kernel
theorem d_Host_place_12 : decode prog_4_method_9_code 12 = .ok (.aload_n 0, 1) := by decide +kernel
theorem d_Host_place_13 : decode prog_4_method_9_code 13 = .ok (.getfield 15, 3) := by decide +kernel
theorem d_Host_place_16 : decode prog_4_method_9_code 16 = .ok (.iload_n 1, 1) := by decide +kernel
theorem d_Host_place_17 : decode prog_4_method_9_code 17 = .ok (.iload_n 2, 1) := by decide +kernel
theorem d_Host_place_18 : decode prog_4_method_9_code 18 = .ok (.iastore, 1) := by decide +kernel
theorem d_Host_place_19 : decode prog_4_method_9_code 19 = .ok (.iconst 0, 1) := by decide +kernel
theorem d_Host_place_20 : decode prog_4_method_9_code 20 = .ok (.istore 4, 2) := by decide +kernel
theorem d_Host_place_22 : decode prog_4_method_9_code 22 = .ok (.iload 4, 2) := by decide +kernel
theorem d_Host_place_24 : decode prog_4_method_9_code 24 = .ok (.iload_n 2, 1) := by decide +kernel
theorem d_Host_place_25 : decode prog_4_method_9_code 25 = .ok (.if_icmp .ge 32, 3) := by decide +kernel
theorem d_Host_place_28 : decode prog_4_method_9_code 28 = .ok (.aload_n 0, 1) := by decide +kernel
theorem d_Host_place_29 : decode prog_4_method_9_code 29 = .ok (.getfield 19, 3) := by decide +kernel
theorem d_Host_place_32 : decode prog_4_method_9_code 32 = .ok (.iload_n 1, 1) := by decide +kernel
theorem d_Host_place_33 : decode prog_4_method_9_code 33 = .ok (.bipush 32, 2) := by decide +kernel
theorem d_Host_place_35 : decode prog_4_method_9_code 35 = .ok (.imul, 1) := by decide +kernel
theorem d_Host_place_36 : decode prog_4_method_9_code 36 = .ok (.iload 4, 2) := by decide +kernel
theorem d_Host_place_38 : decode prog_4_method_9_code 38 = .ok (.iadd, 1) := by decide +kernel
theorem d_Host_place_39 : decode prog_4_method_9_code 39 = .ok (.iload_n 3, 1) := by decide +kernel
theorem d_Host_place_40 : decode prog_4_method_9_code 40 = .ok (.bipush 7, 2) := by decide +kernel
theorem d_Host_place_42 : decode prog_4_method_9_code 42 = .ok (.iload 4, 2) := by decide +kernel
theorem d_Host_place_44 : decode prog_4_method_9_code 44 = .ok (.imul, 1) := by decide +kernel
theorem d_Host_place_45 : decode prog_4_method_9_code 45 = .ok (.iadd, 1) := by decide +kernel
theorem d_Host_place_46 : decode prog_4_method_9_code 46 = .ok (.sipush 255, 3) := by decide +kernel
theorem d_Host_place_49 : decode prog_4_method_9_code 49 = .ok (.iand, 1) := by decide +kernel
theorem d_Host_place_50 : decode prog_4_method_9_code 50 = .ok (.iastore, 1) := by decide +kernel
theorem d_Host_place_51 : decode prog_4_method_9_code 51 = .ok (.iinc 4 1, 3) := by decide +kernel
theorem d_Host_place_54 : decode prog_4_method_9_code 54 = .ok (.goto (-32), 3) := by decide +kernel
theorem d_Host_place_57 : decode prog_4_method_9_code 57 = .ok (.return_, 1) := by decide +kernel
theorem d_Host_clear_0 : decode prog_4_method_15_code 0 = .ok (.aload_n 0, 1) := by decide +kernel
theorem d_Host_clear_1 : decode prog_4_method_15_code 1 = .ok (.getfield 15, 3) := by decide +kernel
theorem d_Host_clear_4 : decode prog_4_method_15_code 4 = .ok (.iload_n 1, 1) := by decide +kernel
theorem d_Host_clear_5 : decode prog_4_method_15_code 5 = .ok (.iconst 0, 1) := by decide +kernel
theorem d_Host_clear_6 : decode prog_4_method_15_code 6 = .ok (.iastore, 1) := by decide +kernel
theorem d_Host_clear_7 : decode prog_4_method_15_code 7 = .ok (.aload_n 0, 1) := by decide +kernel
theorem d_Host_clear_8 : decode prog_4_method_15_code 8 = .ok (.getfield 19, 3) := by decide +kernel
theorem d_Host_clear_11 : decode prog_4_method_15_code 11 = .ok (.iload_n 1, 1) := by decide +kernel
theorem d_Host_clear_12 : decode prog_4_method_15_code 12 = .ok (.bipush 32, 2) := by decide +kernel
theorem d_Host_clear_14 : decode prog_4_method_15_code 14 = .ok (.imul, 1) := by decide +kernel
theorem d_Host_clear_15 : decode prog_4_method_15_code 15 = .ok (.iload_n 1, 1) := by decide +kernel
theorem d_Host_clear_16 : decode prog_4_method_15_code 16 = .ok (.iconst 1, 1) := by decide +kernel
theorem d_Host_clear_17 : decode prog_4_method_15_code 17 = .ok (.iadd, 1) := by decide +kernel
theorem d_Host_clear_18 : decode prog_4_method_15_code 18 = .ok (.bipush 32, 2) := by decide +kernel
theorem d_Host_clear_20 : decode prog_4_method_15_code 20 = .ok (.imul, 1) := by decide +kernel
theorem d_Host_clear_21 : decode prog_4_method_15_code 21 = .ok (.iconst 0, 1) := by decide +kernel
theorem d_Host_clear_22 : decode prog_4_method_15_code 22 = .ok (.invokestatic 58, 3) := by decide +kernel
theorem d_Host_clear_25 : decode prog_4_method_15_code 25 = .ok (.return_, 1) := by decide +kernel
theorem d_Host_setToFail_0 : decode prog_4_method_8_code 0 = .ok (.aload_n 0, 1) := by decide +kernel
theorem d_Host_setToFail_1 : decode prog_4_method_8_code 1 = .ok (.iload_n 1, 1) := by decide +kernel
theorem d_Host_setToFail_2 : decode prog_4_method_8_code 2 = .ok (.putfield 32, 3) := by decide +kernel
theorem d_Host_setToFail_5 : decode prog_4_method_8_code 5 = .ok (.return_, 1) := by decide +kernel
theorem d_Host_isThere_0 : decode prog_4_method_2_code 0 = .ok (.aload_n 0, 1) := by decide +kernel
theorem d_Host_isThere_1 : decode prog_4_method_2_code 1 = .ok (.getfield 9, 3) := by decide +kernel
theorem d_Host_isThere_4 : decode prog_4_method_2_code 4 = .ok (.iload_n 1, 1) := by decide +kernel
theorem d_Host_isThere_5 : decode prog_4_method_2_code 5 = .ok (.baload, 1) := by decide +kernel
theorem d_Host_isThere_6 : decode prog_4_method_2_code 6 = .ok (.ireturn, 1) := by decide +kernel
theorem d_Host_makeFile_0 : decode prog_4_method_10_code 0 = .ok (.aload_n 0, 1) := by decide +kernel
theorem d_Host_makeFile_1 : decode prog_4_method_10_code 1 = .ok (.iconst 2, 1) := by decide +kernel
theorem d_Host_makeFile_2 : decode prog_4_method_10_code 2 = .ok (.iload_n 1, 1) := by decide +kernel
theorem d_Host_makeFile_3 : decode prog_4_method_10_code 3 = .ok (.iconst 0, 1) := by decide +kernel
theorem d_Host_makeFile_4 : decode prog_4_method_10_code 4 = .ok (.invokevirtual 39, 3) := by decide +kernel
theorem d_Host_makeFile_7 : decode prog_4_method_10_code 7 = .ok (.ifCond .ne 5, 3) := by decide +kernel
theorem d_Host_makeFile_10 : decode prog_4_method_10_code 10 = .ok (.iconst 0, 1) := by decide +kernel
theorem d_Host_makeFile_11 : decode prog_4_method_10_code 11 = .ok (.ireturn, 1) := by decide +kernel
theorem d_Host_makeFile_12 : decode prog_4_method_10_code 12 = .ok (.aload_n 0, 1) := by decide +kernel
theorem d_Host_makeFile_13 : decode prog_4_method_10_code 13 = .ok (.iload_n 1, 1) := by decide +kernel
theorem d_Host_makeFile_14 : decode prog_4_method_10_code 14 = .ok (.invokevirtual 35, 3) := by decide +kernel
theorem d_Host_makeFile_17 : decode prog_4_method_10_code 17 = .ok (.aload_n 0, 1) := by decide +kernel
theorem d_Host_makeFile_18 : decode prog_4_method_10_code 18 = .ok (.getfield 9, 3) := by decide +kernel
theorem d_Host_makeFile_21 : decode prog_4_method_10_code 21 = .ok (.iload_n 1, 1) := by decide +kernel
theorem d_Host_makeFile_22 : decode prog_4_method_10_code 22 = .ok (.iconst 1, 1) := by decide +kernel
theorem d_Host_makeFile_23 : decode prog_4_method_10_code 23 = .ok (.bastore, 1) := by decide +kernel
theorem d_Host_makeFile_24 : decode prog_4_method_10_code 24 = .ok (.iconst 1, 1) := by decide +kernel
theorem d_Host_makeFile_25 : decode prog_4_method_10_code 25 = .ok (.ireturn, 1) := by decide +kernel
theorem d_Host_succeeds_0 : decode prog_4_method_16_code 0 = .ok (.aload_n 0, 1) := by decide +kernel
theorem d_Host_succeeds_1 : decode prog_4_method_16_code 1 = .ok (.getfield 32, 3) := by decide +kernel
theorem d_Host_succeeds_4 : decode prog_4_method_16_code 4 = .ok (.ifCond .le 7, 3) := by decide +kernel
theorem d_Host_succeeds_7 : decode prog_4_method_16_code 7 = .ok (.iconst 1, 1) := by decide +kernel
theorem d_Host_succeeds_8 : decode prog_4_method_16_code 8 = .ok (.goto 4, 3) := by decide +kernel
theorem d_Host_succeeds_11 : decode prog_4_method_16_code 11 = .ok (.iconst 0, 1) := by decide +kernel
theorem d_Host_succeeds_12 : decode prog_4_method_16_code 12 = .ok (.istore 4, 2) := by decide +kernel
theorem d_Host_succeeds_14 : decode prog_4_method_16_code 14 = .ok (.iload_n 1, 1) := by decide +kernel
theorem d_Host_succeeds_15 : decode prog_4_method_16_code 15 = .ok (.bipush 8, 2) := by decide +kernel
theorem d_Host_succeeds_17 : decode prog_4_method_16_code 17 = .ok (.iload_n 2, 1) := by decide +kernel
theorem d_Host_succeeds_18 : decode prog_4_method_16_code 18 = .ok (.imul, 1) := by decide +kernel
theorem d_Host_succeeds_19 : decode prog_4_method_16_code 19 = .ok (.iadd, 1) := by decide +kernel
theorem d_Host_succeeds_20 : decode prog_4_method_16_code 20 = .ok (.bipush 64, 2) := by decide +kernel
theorem d_Host_succeeds_22 : decode prog_4_method_16_code 22 = .ok (.iload_n 3, 1) := by decide +kernel
theorem d_Host_succeeds_23 : decode prog_4_method_16_code 23 = .ok (.imul, 1) := by decide +kernel
theorem d_Host_succeeds_24 : decode prog_4_method_16_code 24 = .ok (.iadd, 1) := by decide +kernel
theorem d_Host_succeeds_25 : decode prog_4_method_16_code 25 = .ok (.istore 5, 2) := by decide +kernel
theorem d_Host_succeeds_27 : decode prog_4_method_16_code 27 = .ok (.aload_n 0, 1) := by decide +kernel
theorem d_Host_succeeds_28 : decode prog_4_method_16_code 28 = .ok (.aload_n 0, 1) := by decide +kernel
theorem d_Host_succeeds_29 : decode prog_4_method_16_code 29 = .ok (.getfield 25, 3) := by decide +kernel
theorem d_Host_succeeds_32 : decode prog_4_method_16_code 32 = .ok (.iconst 1, 1) := by decide +kernel
theorem d_Host_succeeds_33 : decode prog_4_method_16_code 33 = .ok (.iadd, 1) := by decide +kernel
theorem d_Host_succeeds_34 : decode prog_4_method_16_code 34 = .ok (.bipush 16, 2) := by decide +kernel
theorem d_Host_succeeds_36 : decode prog_4_method_16_code 36 = .ok (.irem, 1) := by decide +kernel
theorem d_Host_succeeds_37 : decode prog_4_method_16_code 37 = .ok (.putfield 25, 3) := by decide +kernel
theorem d_Host_succeeds_40 : decode prog_4_method_16_code 40 = .ok (.aload_n 0, 1) := by decide +kernel
theorem d_Host_succeeds_41 : decode prog_4_method_16_code 41 = .ok (.getfield 22, 3) := by decide +kernel
theorem d_Host_succeeds_44 : decode prog_4_method_16_code 44 = .ok (.aload_n 0, 1) := by decide +kernel
theorem d_Host_succeeds_45 : decode prog_4_method_16_code 45 = .ok (.getfield 25, 3) := by decide +kernel
theorem d_Host_succeeds_48 : decode prog_4_method_16_code 48 = .ok (.iload 4, 2) := by decide +kernel
theorem d_Host_succeeds_50 : decode prog_4_method_16_code 50 = .ok (.ifCond .eq 12, 3) := by decide +kernel
theorem d_Host_succeeds_53 : decode prog_4_method_16_code 53 = .ok (.iload 5, 2) := by decide +kernel
theorem d_Host_succeeds_55 : decode prog_4_method_16_code 55 = .ok (.sipush 256, 3) := by decide +kernel
theorem d_Host_succeeds_58 : decode prog_4_method_16_code 58 = .ok (.iadd, 1) := by decide +kernel
theorem d_Host_succeeds_59 : decode prog_4_method_16_code 59 = .ok (.goto 5, 3) := by decide +kernel
theorem d_Host_succeeds_62 : decode prog_4_method_16_code 62 = .ok (.iload 5, 2) := by decide +kernel
theorem d_Host_succeeds_64 : decode prog_4_method_16_code 64 = .ok (.iastore, 1) := by decide +kernel
theorem d_Host_succeeds_65 : decode prog_4_method_16_code 65 = .ok (.aload_n 0, 1) := by decide +kernel
theorem d_Host_succeeds_66 : decode prog_4_method_16_code 66 = .ok (.dup, 1) := by decide +kernel
theorem d_Host_succeeds_67 : decode prog_4_method_16_code 67 = .ok (.getfield 29, 3) := by decide +kernel
theorem d_Host_succeeds_70 : decode prog_4_method_16_code 70 = .ok (.iconst 1, 1) := by decide +kernel
theorem d_Host_succeeds_71 : decode prog_4_method_16_code 71 = .ok (.iadd, 1) := by decide +kernel
theorem d_Host_succeeds_72 : decode prog_4_method_16_code 72 = .ok (.putfield 29, 3) := by decide +kernel
theorem d_Host_succeeds_75 : decode prog_4_method_16_code 75 = .ok (.iload 4, 2) := by decide +kernel
theorem d_Host_succeeds_77 : decode prog_4_method_16_code 77 = .ok (.ifCond .eq 13, 3) := by decide +kernel
theorem d_Host_succeeds_80 : decode prog_4_method_16_code 80 = .ok (.aload_n 0, 1) := by decide +kernel
theorem d_Host_succeeds_81 : decode prog_4_method_16_code 81 = .ok (.dup, 1) := by decide +kernel
theorem d_Host_succeeds_82 : decode prog_4_method_16_code 82 = .ok (.getfield 32, 3) := by decide +kernel
theorem d_Host_succeeds_85 : decode prog_4_method_16_code 85 = .ok (.iconst 1, 1) := by decide +kernel
theorem d_Host_succeeds_86 : decode prog_4_method_16_code 86 = .ok (.isub, 1) := by decide +kernel
theorem d_Host_succeeds_87 : decode prog_4_method_16_code 87 = .ok (.putfield 32, 3) := by decide +kernel
theorem d_Host_succeeds_90 : decode prog_4_method_16_code 90 = .ok (.iload 4, 2) := by decide +kernel
theorem d_Host_succeeds_92 : decode prog_4_method_16_code 92 = .ok (.ifCond .ne 7, 3) := by decide +kernel
theorem d_Host_succeeds_95 : decode prog_4_method_16_code 95 = .ok (.iconst 1, 1) := by decide +kernel
theorem d_Host_succeeds_96 : decode prog_4_method_16_code 96 = .ok (.goto 4, 3) := by decide +kernel
theorem d_Host_succeeds_99 : decode prog_4_method_16_code 99 = .ok (.iconst 0, 1) := by decide +kernel
theorem d_Host_succeeds_100 : decode prog_4_method_16_code 100 = .ok (.ireturn, 1) := by decide +kernel
theorem d_Host_emptyFile_0 : decode prog_4_method_11_code 0 = .ok (.aload_n 0, 1) := by decide +kernel
theorem d_Host_emptyFile_1 : decode prog_4_method_11_code 1 = .ok (.iconst 3, 1) := by decide +kernel
theorem d_Host_emptyFile_2 : decode prog_4_method_11_code 2 = .ok (.iload_n 1, 1) := by decide +kernel
theorem d_Host_emptyFile_3 : decode prog_4_method_11_code 3 = .ok (.iconst 0, 1) := by decide +kernel
theorem d_Host_emptyFile_4 : decode prog_4_method_11_code 4 = .ok (.invokevirtual 39, 3) := by decide +kernel
theorem d_Host_emptyFile_7 : decode prog_4_method_11_code 7 = .ok (.ifCond .ne 5, 3) := by decide +kernel
theorem d_Host_emptyFile_10 : decode prog_4_method_11_code 10 = .ok (.iconst 0, 1) := by decide +kernel
theorem d_Host_emptyFile_11 : decode prog_4_method_11_code 11 = .ok (.ireturn, 1) := by decide +kernel
theorem d_Host_emptyFile_12 : decode prog_4_method_11_code 12 = .ok (.aload_n 0, 1) := by decide +kernel
theorem d_Host_emptyFile_13 : decode prog_4_method_11_code 13 = .ok (.iload_n 1, 1) := by decide +kernel
theorem d_Host_emptyFile_14 : decode prog_4_method_11_code 14 = .ok (.invokevirtual 35, 3) := by decide +kernel
theorem d_Host_emptyFile_17 : decode prog_4_method_11_code 17 = .ok (.iconst 1, 1) := by decide +kernel
theorem d_Host_emptyFile_18 : decode prog_4_method_11_code 18 = .ok (.ireturn, 1) := by decide +kernel
theorem d_Host_writeBlock_0 : decode prog_4_method_14_code 0 = .ok (.aload_n 0, 1) := by decide +kernel
theorem d_Host_writeBlock_1 : decode prog_4_method_14_code 1 = .ok (.iconst 1, 1) := by decide +kernel
theorem d_Host_writeBlock_2 : decode prog_4_method_14_code 2 = .ok (.iload_n 1, 1) := by decide +kernel
theorem d_Host_writeBlock_3 : decode prog_4_method_14_code 3 = .ok (.iload_n 2, 1) := by decide +kernel
theorem d_Host_writeBlock_4 : decode prog_4_method_14_code 4 = .ok (.invokevirtual 39, 3) := by decide +kernel
theorem d_Host_writeBlock_7 : decode prog_4_method_14_code 7 = .ok (.ifCond .ne 5, 3) := by decide +kernel
theorem d_Host_writeBlock_10 : decode prog_4_method_14_code 10 = .ok (.iconst 0, 1) := by decide +kernel
theorem d_Host_writeBlock_11 : decode prog_4_method_14_code 11 = .ok (.ireturn, 1) := by decide +kernel
theorem d_Host_writeBlock_12 : decode prog_4_method_14_code 12 = .ok (.iload_n 2, 1) := by decide +kernel
theorem d_Host_writeBlock_13 : decode prog_4_method_14_code 13 = .ok (.bipush 8, 2) := by decide +kernel
theorem d_Host_writeBlock_15 : decode prog_4_method_14_code 15 = .ok (.imul, 1) := by decide +kernel
theorem d_Host_writeBlock_16 : decode prog_4_method_14_code 16 = .ok (.istore 5, 2) := by decide +kernel
theorem d_Host_writeBlock_18 : decode prog_4_method_14_code 18 = .ok (.iload 5, 2) := by decide +kernel
theorem d_Host_writeBlock_20 : decode prog_4_method_14_code 20 = .ok (.bipush 8, 2) := by decide +kernel
theorem d_Host_writeBlock_22 : decode prog_4_method_14_code 22 = .ok (.iadd, 1) := by decide +kernel
theorem d_Host_writeBlock_23 : decode prog_4_method_14_code 23 = .ok (.iload 4, 2) := by decide +kernel
theorem d_Host_writeBlock_25 : decode prog_4_method_14_code 25 = .ok (.invokestatic 49, 3) := by decide +kernel
theorem d_Host_writeBlock_28 : decode prog_4_method_14_code 28 = .ok (.istore 6, 2) := by decide +kernel
theorem d_Host_writeBlock_30 : decode prog_4_method_14_code 30 = .ok (.iload 5, 2) := by decide +kernel
theorem d_Host_writeBlock_32 : decode prog_4_method_14_code 32 = .ok (.istore 7, 2) := by decide +kernel
theorem d_Host_writeBlock_34 : decode prog_4_method_14_code 34 = .ok (.iload 7, 2) := by decide +kernel
theorem d_Host_writeBlock_36 : decode prog_4_method_14_code 36 = .ok (.iload 6, 2) := by decide +kernel
theorem d_Host_writeBlock_38 : decode prog_4_method_14_code 38 = .ok (.if_icmp .ge 28, 3) := by decide +kernel
theorem d_Host_writeBlock_41 : decode prog_4_method_14_code 41 = .ok (.aload_n 0, 1) := by decide +kernel
theorem d_Host_writeBlock_42 : decode prog_4_method_14_code 42 = .ok (.getfield 19, 3) := by decide +kernel
theorem d_Host_writeBlock_45 : decode prog_4_method_14_code 45 = .ok (.iload_n 1, 1) := by decide +kernel
theorem d_Host_writeBlock_46 : decode prog_4_method_14_code 46 = .ok (.bipush 32, 2) := by decide +kernel
theorem d_Host_writeBlock_48 : decode prog_4_method_14_code 48 = .ok (.imul, 1) := by decide +kernel
theorem d_Host_writeBlock_49 : decode prog_4_method_14_code 49 = .ok (.iload 7, 2) := by decide +kernel
theorem d_Host_writeBlock_51 : decode prog_4_method_14_code 51 = .ok (.iadd, 1) := by decide +kernel
theorem d_Host_writeBlock_52 : decode prog_4_method_14_code 52 = .ok (.aload_n 3, 1) := by decide +kernel
theorem d_Host_writeBlock_53 : decode prog_4_method_14_code 53 = .ok (.iload 7, 2) := by decide +kernel
theorem d_Host_writeBlock_55 : decode prog_4_method_14_code 55 = .ok (.iload 5, 2) := by decide +kernel
theorem d_Host_writeBlock_57 : decode prog_4_method_14_code 57 = .ok (.isub, 1) := by decide +kernel
theorem d_Host_writeBlock_58 : decode prog_4_method_14_code 58 = .ok (.iaload, 1) := by decide +kernel
theorem d_Host_writeBlock_59 : decode prog_4_method_14_code 59 = .ok (.iastore, 1) := by decide +kernel
theorem d_Host_writeBlock_60 : decode prog_4_method_14_code 60 = .ok (.iinc 7 1, 3) := by decide +kernel
theorem d_Host_writeBlock_63 : decode prog_4_method_14_code 63 = .ok (.goto (-29), 3) := by decide +kernel
theorem d_Host_writeBlock_66 : decode prog_4_method_14_code 66 = .ok (.aload_n 0, 1) := by decide +kernel
theorem d_Host_writeBlock_67 : decode prog_4_method_14_code 67 = .ok (.getfield 15, 3) := by decide +kernel
theorem d_Host_writeBlock_70 : decode prog_4_method_14_code 70 = .ok (.iload_n 1, 1) := by decide +kernel
theorem d_Host_writeBlock_71 : decode prog_4_method_14_code 71 = .ok (.aload_n 0, 1) := by decide +kernel
theorem d_Host_writeBlock_72 : decode prog_4_method_14_code 72 = .ok (.getfield 15, 3) := by decide +kernel
theorem d_Host_writeBlock_75 : decode prog_4_method_14_code 75 = .ok (.iload_n 1, 1) := by decide +kernel
theorem d_Host_writeBlock_76 : decode prog_4_method_14_code 76 = .ok (.iaload, 1) := by decide +kernel
theorem d_Host_writeBlock_77 : decode prog_4_method_14_code 77 = .ok (.iload 6, 2) := by decide +kernel
theorem d_Host_writeBlock_79 : decode prog_4_method_14_code 79 = .ok (.invokestatic 55, 3) := by decide +kernel
theorem d_Host_writeBlock_82 : decode prog_4_method_14_code 82 = .ok (.iastore, 1) := by decide +kernel
theorem d_Host_writeBlock_83 : decode prog_4_method_14_code 83 = .ok (.iconst 1, 1) := by decide +kernel
theorem d_Host_writeBlock_84 : decode prog_4_method_14_code 84 = .ok (.ireturn, 1) := by decide +kernel
theorem d_Host_readBlock_0 : decode prog_4_method_13_code 0 = .ok (.aload_n 0, 1) := by decide +kernel
theorem d_Host_readBlock_1 : decode prog_4_method_13_code 1 = .ok (.iconst 0, 1) := by decide +kernel
theorem d_Host_readBlock_2 : decode prog_4_method_13_code 2 = .ok (.iload_n 1, 1) := by decide +kernel
theorem d_Host_readBlock_3 : decode prog_4_method_13_code 3 = .ok (.iload_n 2, 1) := by decide +kernel
theorem d_Host_readBlock_4 : decode prog_4_method_13_code 4 = .ok (.invokevirtual 39, 3) := by decide +kernel
theorem d_Host_readBlock_7 : decode prog_4_method_13_code 7 = .ok (.ifCond .ne 5, 3) := by decide +kernel
theorem d_Host_readBlock_10 : decode prog_4_method_13_code 10 = .ok (.iconst 0, 1) := by decide +kernel
theorem d_Host_readBlock_11 : decode prog_4_method_13_code 11 = .ok (.ireturn, 1) := by decide +kernel
theorem d_Host_readBlock_12 : decode prog_4_method_13_code 12 = .ok (.iload_n 1, 1) := by decide +kernel
theorem d_Host_readBlock_13 : decode prog_4_method_13_code 13 = .ok (.bipush 32, 2) := by decide +kernel
theorem d_Host_readBlock_15 : decode prog_4_method_13_code 15 = .ok (.imul, 1) := by decide +kernel
theorem d_Host_readBlock_16 : decode prog_4_method_13_code 16 = .ok (.iload_n 2, 1) := by decide +kernel
theorem d_Host_readBlock_17 : decode prog_4_method_13_code 17 = .ok (.bipush 8, 2) := by decide +kernel
theorem d_Host_readBlock_19 : decode prog_4_method_13_code 19 = .ok (.imul, 1) := by decide +kernel
theorem d_Host_readBlock_20 : decode prog_4_method_13_code 20 = .ok (.iadd, 1) := by decide +kernel
theorem d_Host_readBlock_21 : decode prog_4_method_13_code 21 = .ok (.istore 4, 2) := by decide +kernel
theorem d_Host_readBlock_23 : decode prog_4_method_13_code 23 = .ok (.aload_n 0, 1) := by decide +kernel
theorem d_Host_readBlock_24 : decode prog_4_method_13_code 24 = .ok (.getfield 19, 3) := by decide +kernel
theorem d_Host_readBlock_27 : decode prog_4_method_13_code 27 = .ok (.iload 4, 2) := by decide +kernel
theorem d_Host_readBlock_29 : decode prog_4_method_13_code 29 = .ok (.aload_n 3, 1) := by decide +kernel
theorem d_Host_readBlock_30 : decode prog_4_method_13_code 30 = .ok (.iconst 0, 1) := by decide +kernel
theorem d_Host_readBlock_31 : decode prog_4_method_13_code 31 = .ok (.bipush 8, 2) := by decide +kernel
theorem d_Host_readBlock_33 : decode prog_4_method_13_code 33 = .ok (.invokestatic 43, 3) := by decide +kernel
theorem d_Host_readBlock_36 : decode prog_4_method_13_code 36 = .ok (.iconst 1, 1) := by decide +kernel
theorem d_Host_readBlock_37 : decode prog_4_method_13_code 37 = .ok (.ireturn, 1) := by decide +kernel
theorem d_Host_removeFile_0 : decode prog_4_method_12_code 0 = .ok (.aload_n 0, 1) := by decide +kernel
theorem d_Host_removeFile_1 : decode prog_4_method_12_code 1 = .ok (.iconst 4, 1) := by decide +kernel
theorem d_Host_removeFile_2 : decode prog_4_method_12_code 2 = .ok (.iload_n 1, 1) := by decide +kernel
theorem d_Host_removeFile_3 : decode prog_4_method_12_code 3 = .ok (.iconst 0, 1) := by decide +kernel
theorem d_Host_removeFile_4 : decode prog_4_method_12_code 4 = .ok (.invokevirtual 39, 3) := by decide +kernel
theorem d_Host_removeFile_7 : decode prog_4_method_12_code 7 = .ok (.ifCond .ne 5, 3) := by decide +kernel
theorem d_Host_removeFile_10 : decode prog_4_method_12_code 10 = .ok (.iconst 0, 1) := by decide +kernel
theorem d_Host_removeFile_11 : decode prog_4_method_12_code 11 = .ok (.ireturn, 1) := by decide +kernel
theorem d_Host_removeFile_12 : decode prog_4_method_12_code 12 = .ok (.aload_n 0, 1) := by decide +kernel
theorem d_Host_removeFile_13 : decode prog_4_method_12_code 13 = .ok (.getfield 9, 3) := by decide +kernel
theorem d_Host_removeFile_16 : decode prog_4_method_12_code 16 = .ok (.iload_n 1, 1) := by decide +kernel
theorem d_Host_removeFile_17 : decode prog_4_method_12_code 17 = .ok (.iconst 0, 1) := by decide +kernel
theorem d_Host_removeFile_18 : decode prog_4_method_12_code 18 = .ok (.bastore, 1) := by decide +kernel
theorem d_Host_removeFile_19 : decode prog_4_method_12_code 19 = .ok (.iconst 1, 1) := by decide +kernel
theorem d_Host_removeFile_20 : decode prog_4_method_12_code 20 = .ok (.ireturn, 1) := by decide +kernel
theorem d_Host_lengthOf_0 : decode prog_4_method_3_code 0 = .ok (.aload_n 0, 1) := by decide +kernel
theorem d_Host_lengthOf_1 : decode prog_4_method_3_code 1 = .ok (.getfield 15, 3) := by decide +kernel
theorem d_Host_lengthOf_4 : decode prog_4_method_3_code 4 = .ok (.iload_n 1, 1) := by decide +kernel
theorem d_Host_lengthOf_5 : decode prog_4_method_3_code 5 = .ok (.iaload, 1) := by decide +kernel
theorem d_Host_lengthOf_6 : decode prog_4_method_3_code 6 = .ok (.ireturn, 1) := by decide +kernel
theorem d_Host_cellAt_0 : decode prog_4_method_4_code 0 = .ok (.aload_n 0, 1) := by decide +kernel
theorem d_Host_cellAt_1 : decode prog_4_method_4_code 1 = .ok (.getfield 19, 3) := by decide +kernel
theorem d_Host_cellAt_4 : decode prog_4_method_4_code 4 = .ok (.iload_n 1, 1) := by decide +kernel
theorem d_Host_cellAt_5 : decode prog_4_method_4_code 5 = .ok (.bipush 32, 2) := by decide +kernel
theorem d_Host_cellAt_7 : decode prog_4_method_4_code 7 = .ok (.imul, 1) := by decide +kernel
theorem d_Host_cellAt_8 : decode prog_4_method_4_code 8 = .ok (.iload_n 2, 1) := by decide +kernel
theorem d_Host_cellAt_9 : decode prog_4_method_4_code 9 = .ok (.iadd, 1) := by decide +kernel
theorem d_Host_cellAt_10 : decode prog_4_method_4_code 10 = .ok (.iaload, 1) := by decide +kernel
theorem d_Host_cellAt_11 : decode prog_4_method_4_code 11 = .ok (.ireturn, 1) := by decide +kernel
theorem d_Host_operations_0 : decode prog_4_method_5_code 0 = .ok (.aload_n 0, 1) := by decide +kernel
theorem d_Host_operations_1 : decode prog_4_method_5_code 1 = .ok (.getfield 29, 3) := by decide +kernel
theorem d_Host_operations_4 : decode prog_4_method_5_code 4 = .ok (.ireturn, 1) := by decide +kernel
theorem d_Host_entryAt_0 : decode prog_4_method_6_code 0 = .ok (.aload_n 0, 1) := by decide +kernel
theorem d_Host_entryAt_1 : decode prog_4_method_6_code 1 = .ok (.getfield 22, 3) := by decide +kernel
theorem d_Host_entryAt_4 : decode prog_4_method_6_code 4 = .ok (.aload_n 0, 1) := by decide +kernel
theorem d_Host_entryAt_5 : decode prog_4_method_6_code 5 = .ok (.getfield 25, 3) := by decide +kernel
theorem d_Host_entryAt_8 : decode prog_4_method_6_code 8 = .ok (.bipush 16, 2) := by decide +kernel
theorem d_Host_entryAt_10 : decode prog_4_method_6_code 10 = .ok (.iadd, 1) := by decide +kernel
theorem d_Host_entryAt_11 : decode prog_4_method_6_code 11 = .ok (.iload_n 1, 1) := by decide +kernel
theorem d_Host_entryAt_12 : decode prog_4_method_6_code 12 = .ok (.isub, 1) := by decide +kernel
theorem d_Host_entryAt_13 : decode prog_4_method_6_code 13 = .ok (.bipush 16, 2) := by decide +kernel
theorem d_Host_entryAt_15 : decode prog_4_method_6_code 15 = .ok (.irem, 1) := by decide +kernel
theorem d_Host_entryAt_16 : decode prog_4_method_6_code 16 = .ok (.iaload, 1) := by decide +kernel
theorem d_Host_entryAt_17 : decode prog_4_method_6_code 17 = .ok (.ireturn, 1) := by decide +kernel
theorem d_Host_leftToFail_0 : decode prog_4_method_7_code 0 = .ok (.aload_n 0, 1) := by decide +kernel
theorem d_Host_leftToFail_1 : decode prog_4_method_7_code 1 = .ok (.getfield 32, 3) := by decide +kernel
theorem d_Host_leftToFail_4 : decode prog_4_method_7_code 4 = .ok (.ireturn, 1) := by decide +kernel
