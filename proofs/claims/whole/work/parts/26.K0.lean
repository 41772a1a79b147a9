/-! decode rows, by program -/
theorem d_K_init_0 : decode prog_1_method_1_code 0 = .ok (.aload_n 0, 1) := by decide +kernel
theorem d_K_init_1 : decode prog_1_method_1_code 1 = .ok (.invokespecial 1, 3) := by decide +kernel
theorem d_K_init_4 : decode prog_1_method_1_code 4 = .ok (.aload_n 0, 1) := by decide +kernel
theorem d_K_init_5 : decode prog_1_method_1_code 5 = .ok (.new 7, 3) := by decide +kernel
theorem d_K_init_8 : decode prog_1_method_1_code 8 = .ok (.dup, 1) := by decide +kernel
theorem d_K_init_9 : decode prog_1_method_1_code 9 = .ok (.invokespecial 9, 3) := by decide +kernel
theorem d_K_init_12 : decode prog_1_method_1_code 12 = .ok (.putfield 10, 3) := by decide +kernel
theorem d_K_init_15 : decode prog_1_method_1_code 15 = .ok (.aload_n 0, 1) := by decide +kernel
theorem d_K_init_16 : decode prog_1_method_1_code 16 = .ok (.new 16, 3) := by decide +kernel
theorem d_K_init_19 : decode prog_1_method_1_code 19 = .ok (.dup, 1) := by decide +kernel
theorem d_K_init_20 : decode prog_1_method_1_code 20 = .ok (.aload_n 0, 1) := by decide +kernel
theorem d_K_init_21 : decode prog_1_method_1_code 21 = .ok (.getfield 10, 3) := by decide +kernel
theorem d_K_init_24 : decode prog_1_method_1_code 24 = .ok (.invokespecial 18, 3) := by decide +kernel
theorem d_K_init_27 : decode prog_1_method_1_code 27 = .ok (.putfield 21, 3) := by decide +kernel
theorem d_K_init_30 : decode prog_1_method_1_code 30 = .ok (.aload_n 0, 1) := by decide +kernel
theorem d_K_init_31 : decode prog_1_method_1_code 31 = .ok (.bipush 8, 2) := by decide +kernel
theorem d_K_init_33 : decode prog_1_method_1_code 33 = .ok (.newarray .int, 2) := by decide +kernel
theorem d_K_init_35 : decode prog_1_method_1_code 35 = .ok (.putfield 25, 3) := by decide +kernel
theorem d_K_init_38 : decode prog_1_method_1_code 38 = .ok (.aload_n 0, 1) := by decide +kernel
theorem d_K_init_39 : decode prog_1_method_1_code 39 = .ok (.getfield 25, 3) := by decide +kernel
theorem d_K_init_42 : decode prog_1_method_1_code 42 = .ok (.iconst 2, 1) := by decide +kernel
theorem d_K_init_43 : decode prog_1_method_1_code 43 = .ok (.invokestatic 29, 3) := by decide +kernel
theorem d_K_init_46 : decode prog_1_method_1_code 46 = .ok (.aload_n 0, 1) := by decide +kernel
theorem d_K_init_47 : decode prog_1_method_1_code 47 = .ok (.bipush 16, 2) := by decide +kernel
theorem d_K_init_49 : decode prog_1_method_1_code 49 = .ok (.anewarray 35, 3) := by decide +kernel
theorem d_K_init_52 : decode prog_1_method_1_code 52 = .ok (.putfield 37, 3) := by decide +kernel
theorem d_K_init_55 : decode prog_1_method_1_code 55 = .ok (.iconst 0, 1) := by decide +kernel
theorem d_K_init_56 : decode prog_1_method_1_code 56 = .ok (.istore_n 1, 1) := by decide +kernel
theorem d_K_init_57 : decode prog_1_method_1_code 57 = .ok (.iload_n 1, 1) := by decide +kernel
theorem d_K_init_58 : decode prog_1_method_1_code 58 = .ok (.bipush 16, 2) := by decide +kernel
theorem d_K_init_60 : decode prog_1_method_1_code 60 = .ok (.if_icmp .ge 22, 3) := by decide +kernel
theorem d_K_init_63 : decode prog_1_method_1_code 63 = .ok (.aload_n 0, 1) := by decide +kernel
theorem d_K_init_64 : decode prog_1_method_1_code 64 = .ok (.getfield 37, 3) := by decide +kernel
theorem d_K_init_67 : decode prog_1_method_1_code 67 = .ok (.iload_n 1, 1) := by decide +kernel
theorem d_K_init_68 : decode prog_1_method_1_code 68 = .ok (.new 35, 3) := by decide +kernel
theorem d_K_init_71 : decode prog_1_method_1_code 71 = .ok (.dup, 1) := by decide +kernel
theorem d_K_init_72 : decode prog_1_method_1_code 72 = .ok (.invokespecial 41, 3) := by decide +kernel
theorem d_K_init_75 : decode prog_1_method_1_code 75 = .ok (.aastore, 1) := by decide +kernel
theorem d_K_init_76 : decode prog_1_method_1_code 76 = .ok (.iinc 1 1, 3) := by decide +kernel
theorem d_K_init_79 : decode prog_1_method_1_code 79 = .ok (.goto (-22), 3) := by decide +kernel
theorem d_K_init_82 : decode prog_1_method_1_code 82 = .ok (.aload_n 0, 1) := by decide +kernel
theorem d_K_init_83 : decode prog_1_method_1_code 83 = .ok (.bipush 7, 2) := by decide +kernel
theorem d_K_init_85 : decode prog_1_method_1_code 85 = .ok (.anewarray 42, 3) := by decide +kernel
theorem d_K_init_88 : decode prog_1_method_1_code 88 = .ok (.putfield 44, 3) := by decide +kernel
theorem d_K_init_91 : decode prog_1_method_1_code 91 = .ok (.iconst 0, 1) := by decide +kernel
theorem d_K_init_92 : decode prog_1_method_1_code 92 = .ok (.istore_n 1, 1) := by decide +kernel
theorem d_K_init_93 : decode prog_1_method_1_code 93 = .ok (.iload_n 1, 1) := by decide +kernel
theorem d_K_init_94 : decode prog_1_method_1_code 94 = .ok (.bipush 6, 2) := by decide +kernel
theorem d_K_init_96 : decode prog_1_method_1_code 96 = .ok (.if_icmp .gt 22, 3) := by decide +kernel
theorem d_K_init_99 : decode prog_1_method_1_code 99 = .ok (.aload_n 0, 1) := by decide +kernel
theorem d_K_init_100 : decode prog_1_method_1_code 100 = .ok (.getfield 44, 3) := by decide +kernel
theorem d_K_init_103 : decode prog_1_method_1_code 103 = .ok (.iload_n 1, 1) := by decide +kernel
theorem d_K_init_104 : decode prog_1_method_1_code 104 = .ok (.new 42, 3) := by decide +kernel
theorem d_K_init_107 : decode prog_1_method_1_code 107 = .ok (.dup, 1) := by decide +kernel
theorem d_K_init_108 : decode prog_1_method_1_code 108 = .ok (.invokespecial 48, 3) := by decide +kernel
theorem d_K_init_111 : decode prog_1_method_1_code 111 = .ok (.aastore, 1) := by decide +kernel
theorem d_K_init_112 : decode prog_1_method_1_code 112 = .ok (.iinc 1 1, 3) := by decide +kernel
theorem d_K_init_115 : decode prog_1_method_1_code 115 = .ok (.goto (-22), 3) := by decide +kernel
theorem d_K_init_118 : decode prog_1_method_1_code 118 = .ok (.aload_n 0, 1) := by decide +kernel
theorem d_K_init_119 : decode prog_1_method_1_code 119 = .ok (.getfield 44, 3) := by decide +kernel
theorem d_K_init_122 : decode prog_1_method_1_code 122 = .ok (.iconst 1, 1) := by decide +kernel
theorem d_K_init_123 : decode prog_1_method_1_code 123 = .ok (.aaload, 1) := by decide +kernel
theorem d_K_init_124 : decode prog_1_method_1_code 124 = .ok (.iconst (-1), 1) := by decide +kernel
theorem d_K_init_125 : decode prog_1_method_1_code 125 = .ok (.invokevirtual 49, 3) := by decide +kernel
theorem d_K_init_128 : decode prog_1_method_1_code 128 = .ok (.return_, 1) := by decide +kernel
theorem d_K_put_0 : decode prog_1_method_2_code 0 = .ok (.iload_n 1, 1) := by decide +kernel
theorem d_K_put_1 : decode prog_1_method_2_code 1 = .ok (.bipush 8, 2) := by decide +kernel
theorem d_K_put_3 : decode prog_1_method_2_code 3 = .ok (.invokestatic 53, 3) := by decide +kernel
theorem d_K_put_6 : decode prog_1_method_2_code 6 = .ok (.ifCond .eq 12, 3) := by decide +kernel
theorem d_K_put_9 : decode prog_1_method_2_code 9 = .ok (.iload_n 2, 1) := by decide +kernel
theorem d_K_put_10 : decode prog_1_method_2_code 10 = .ok (.bipush 33, 2) := by decide +kernel
theorem d_K_put_12 : decode prog_1_method_2_code 12 = .ok (.invokestatic 53, 3) := by decide +kernel
theorem d_K_put_15 : decode prog_1_method_2_code 15 = .ok (.ifCond .ne 5, 3) := by decide +kernel
theorem d_K_put_18 : decode prog_1_method_2_code 18 = .ok (.iconst (-1), 1) := by decide +kernel
theorem d_K_put_19 : decode prog_1_method_2_code 19 = .ok (.ireturn, 1) := by decide +kernel
theorem d_K_put_20 : decode prog_1_method_2_code 20 = .ok (.aload_n 0, 1) := by decide +kernel
theorem d_K_put_21 : decode prog_1_method_2_code 21 = .ok (.iload_n 1, 1) := by decide +kernel
theorem d_K_put_22 : decode prog_1_method_2_code 22 = .ok (.invokevirtual 57, 3) := by decide +kernel
theorem d_K_put_25 : decode prog_1_method_2_code 25 = .ok (.ifCond .ne 14, 3) := by decide +kernel
theorem d_K_put_28 : decode prog_1_method_2_code 28 = .ok (.aload_n 0, 1) := by decide +kernel
theorem d_K_put_29 : decode prog_1_method_2_code 29 = .ok (.getfield 21, 3) := by decide +kernel
theorem d_K_put_32 : decode prog_1_method_2_code 32 = .ok (.iload_n 1, 1) := by decide +kernel
theorem d_K_put_33 : decode prog_1_method_2_code 33 = .ok (.invokevirtual 61, 3) := by decide +kernel
theorem d_K_put_36 : decode prog_1_method_2_code 36 = .ok (.ifCond .eq 6, 3) := by decide +kernel
theorem d_K_put_39 : decode prog_1_method_2_code 39 = .ok (.bipush (-9), 2) := by decide +kernel
theorem d_K_put_41 : decode prog_1_method_2_code 41 = .ok (.ireturn, 1) := by decide +kernel
theorem d_K_put_42 : decode prog_1_method_2_code 42 = .ok (.aload_n 0, 1) := by decide +kernel
theorem d_K_put_43 : decode prog_1_method_2_code 43 = .ok (.getfield 10, 3) := by decide +kernel
theorem d_K_put_46 : decode prog_1_method_2_code 46 = .ok (.iload_n 1, 1) := by decide +kernel
theorem d_K_put_47 : decode prog_1_method_2_code 47 = .ok (.iload_n 2, 1) := by decide +kernel
theorem d_K_put_48 : decode prog_1_method_2_code 48 = .ok (.iload_n 3, 1) := by decide +kernel
theorem d_K_put_49 : decode prog_1_method_2_code 49 = .ok (.invokevirtual 64, 3) := by decide +kernel
theorem d_K_put_52 : decode prog_1_method_2_code 52 = .ok (.aload_n 0, 1) := by decide +kernel
theorem d_K_put_53 : decode prog_1_method_2_code 53 = .ok (.getfield 21, 3) := by decide +kernel
theorem d_K_put_56 : decode prog_1_method_2_code 56 = .ok (.iload_n 1, 1) := by decide +kernel
theorem d_K_put_57 : decode prog_1_method_2_code 57 = .ok (.iload_n 2, 1) := by decide +kernel
theorem d_K_put_58 : decode prog_1_method_2_code 58 = .ok (.invokevirtual 68, 3) := by decide +kernel
theorem d_K_put_61 : decode prog_1_method_2_code 61 = .ok (.iconst 0, 1) := by decide +kernel
theorem d_K_put_62 : decode prog_1_method_2_code 62 = .ok (.ireturn, 1) := by decide +kernel
theorem d_K_isBelow_0 : decode prog_1_method_22_code 0 = .ok (.iload_n 0, 1) := by decide +kernel
theorem d_K_isBelow_1 : decode prog_1_method_22_code 1 = .ok (.ifCond .lt 12, 3) := by decide +kernel
theorem d_K_isBelow_4 : decode prog_1_method_22_code 4 = .ok (.iload_n 0, 1) := by decide +kernel
theorem d_K_isBelow_5 : decode prog_1_method_22_code 5 = .ok (.iload_n 1, 1) := by decide +kernel
theorem d_K_isBelow_6 : decode prog_1_method_22_code 6 = .ok (.if_icmp .ge 7, 3) := by decide +kernel
theorem d_K_isBelow_9 : decode prog_1_method_22_code 9 = .ok (.iconst 1, 1) := by decide +kernel
theorem d_K_isBelow_10 : decode prog_1_method_22_code 10 = .ok (.goto 4, 3) := by decide +kernel
theorem d_K_isBelow_13 : decode prog_1_method_22_code 13 = .ok (.iconst 0, 1) := by decide +kernel
theorem d_K_isBelow_14 : decode prog_1_method_22_code 14 = .ok (.ireturn, 1) := by decide +kernel
theorem d_K_isOpen_0 : decode prog_1_method_26_code 0 = .ok (.iconst 0, 1) := by decide +kernel
theorem d_K_isOpen_1 : decode prog_1_method_26_code 1 = .ok (.istore_n 2, 1) := by decide +kernel
theorem d_K_isOpen_2 : decode prog_1_method_26_code 2 = .ok (.iload_n 2, 1) := by decide +kernel
theorem d_K_isOpen_3 : decode prog_1_method_26_code 3 = .ok (.bipush 16, 2) := by decide +kernel
theorem d_K_isOpen_5 : decode prog_1_method_26_code 5 = .ok (.if_icmp .ge 24, 3) := by decide +kernel
theorem d_K_isOpen_8 : decode prog_1_method_26_code 8 = .ok (.aload_n 0, 1) := by decide +kernel
theorem d_K_isOpen_9 : decode prog_1_method_26_code 9 = .ok (.getfield 37, 3) := by decide +kernel
theorem d_K_isOpen_12 : decode prog_1_method_26_code 12 = .ok (.iload_n 2, 1) := by decide +kernel
theorem d_K_isOpen_13 : decode prog_1_method_26_code 13 = .ok (.aaload, 1) := by decide +kernel
theorem d_K_isOpen_14 : decode prog_1_method_26_code 14 = .ok (.iload_n 1, 1) := by decide +kernel
theorem d_K_isOpen_15 : decode prog_1_method_26_code 15 = .ok (.invokevirtual 227, 3) := by decide +kernel
theorem d_K_isOpen_18 : decode prog_1_method_26_code 18 = .ok (.ifCond .eq 5, 3) := by decide +kernel
theorem d_K_isOpen_21 : decode prog_1_method_26_code 21 = .ok (.iconst 1, 1) := by decide +kernel
theorem d_K_isOpen_22 : decode prog_1_method_26_code 22 = .ok (.ireturn, 1) := by decide +kernel
theorem d_K_isOpen_23 : decode prog_1_method_26_code 23 = .ok (.iinc 2 1, 3) := by decide +kernel
theorem d_K_isOpen_26 : decode prog_1_method_26_code 26 = .ok (.goto (-24), 3) := by decide +kernel
theorem d_K_isOpen_29 : decode prog_1_method_26_code 29 = .ok (.iconst 0, 1) := by decide +kernel
theorem d_K_isOpen_30 : decode prog_1_method_26_code 30 = .ok (.ireturn, 1) := by decide +kernel
theorem d_K_policy_0 : decode prog_1_method_3_code 0 = .ok (.iload_n 1, 1) := by decide +kernel
theorem d_K_policy_1 : decode prog_1_method_3_code 1 = .ok (.bipush 8, 2) := by decide +kernel
theorem d_K_policy_3 : decode prog_1_method_3_code 3 = .ok (.invokestatic 53, 3) := by decide +kernel
theorem d_K_policy_6 : decode prog_1_method_3_code 6 = .ok (.ifCond .eq 11, 3) := by decide +kernel
theorem d_K_policy_9 : decode prog_1_method_3_code 9 = .ok (.iload_n 2, 1) := by decide +kernel
theorem d_K_policy_10 : decode prog_1_method_3_code 10 = .ok (.iconst 3, 1) := by decide +kernel
theorem d_K_policy_11 : decode prog_1_method_3_code 11 = .ok (.invokestatic 53, 3) := by decide +kernel
theorem d_K_policy_14 : decode prog_1_method_3_code 14 = .ok (.ifCond .ne 5, 3) := by decide +kernel
theorem d_K_policy_17 : decode prog_1_method_3_code 17 = .ok (.iconst (-1), 1) := by decide +kernel
theorem d_K_policy_18 : decode prog_1_method_3_code 18 = .ok (.ireturn, 1) := by decide +kernel
theorem d_K_policy_19 : decode prog_1_method_3_code 19 = .ok (.aload_n 0, 1) := by decide +kernel
theorem d_K_policy_20 : decode prog_1_method_3_code 20 = .ok (.getfield 25, 3) := by decide +kernel
theorem d_K_policy_23 : decode prog_1_method_3_code 23 = .ok (.iload_n 1, 1) := by decide +kernel
theorem d_K_policy_24 : decode prog_1_method_3_code 24 = .ok (.iload_n 2, 1) := by decide +kernel
theorem d_K_policy_25 : decode prog_1_method_3_code 25 = .ok (.iastore, 1) := by decide +kernel
theorem d_K_policy_26 : decode prog_1_method_3_code 26 = .ok (.iconst 0, 1) := by decide +kernel
theorem d_K_policy_27 : decode prog_1_method_3_code 27 = .ok (.ireturn, 1) := by decide +kernel
theorem d_K_failing_0 : decode prog_1_method_4_code 0 = .ok (.iload_n 1, 1) := by decide +kernel
theorem d_K_failing_1 : decode prog_1_method_4_code 1 = .ok (.bipush 10, 2) := by decide +kernel
theorem d_K_failing_3 : decode prog_1_method_4_code 3 = .ok (.invokestatic 53, 3) := by decide +kernel
theorem d_K_failing_6 : decode prog_1_method_4_code 6 = .ok (.ifCond .ne 5, 3) := by decide +kernel
theorem d_K_failing_9 : decode prog_1_method_4_code 9 = .ok (.iconst (-1), 1) := by decide +kernel
theorem d_K_failing_10 : decode prog_1_method_4_code 10 = .ok (.ireturn, 1) := by decide +kernel
theorem d_K_failing_11 : decode prog_1_method_4_code 11 = .ok (.aload_n 0, 1) := by decide +kernel
theorem d_K_failing_12 : decode prog_1_method_4_code 12 = .ok (.getfield 10, 3) := by decide +kernel
theorem d_K_failing_15 : decode prog_1_method_4_code 15 = .ok (.iload_n 1, 1) := by decide +kernel
theorem d_K_failing_16 : decode prog_1_method_4_code 16 = .ok (.invokevirtual 72, 3) := by decide +kernel
theorem d_K_failing_19 : decode prog_1_method_4_code 19 = .ok (.iconst 0, 1) := by decide +kernel
theorem d_K_failing_20 : decode prog_1_method_4_code 20 = .ok (.ireturn, 1) := by decide +kernel
theorem d_K_open_0 : decode prog_1_method_5_code 0 = .ok (.aload_n 0, 1) := by decide +kernel
theorem d_K_open_1 : decode prog_1_method_5_code 1 = .ok (.iload_n 1, 1) := by decide +kernel
theorem d_K_open_2 : decode prog_1_method_5_code 2 = .ok (.invokevirtual 75, 3) := by decide +kernel
theorem d_K_open_5 : decode prog_1_method_5_code 5 = .ok (.ifCond .eq 21, 3) := by decide +kernel
theorem d_K_open_8 : decode prog_1_method_5_code 8 = .ok (.iload_n 2, 1) := by decide +kernel
theorem d_K_open_9 : decode prog_1_method_5_code 9 = .ok (.bipush 8, 2) := by decide +kernel
theorem d_K_open_11 : decode prog_1_method_5_code 11 = .ok (.invokestatic 53, 3) := by decide +kernel
theorem d_K_open_14 : decode prog_1_method_5_code 14 = .ok (.ifCond .eq 12, 3) := by decide +kernel
theorem d_K_open_17 : decode prog_1_method_5_code 17 = .ok (.iload_n 3, 1) := by decide +kernel
theorem d_K_open_18 : decode prog_1_method_5_code 18 = .ok (.bipush 32, 2) := by decide +kernel
theorem d_K_open_20 : decode prog_1_method_5_code 20 = .ok (.invokestatic 53, 3) := by decide +kernel
theorem d_K_open_23 : decode prog_1_method_5_code 23 = .ok (.ifCond .ne 5, 3) := by decide +kernel
theorem d_K_open_26 : decode prog_1_method_5_code 26 = .ok (.iconst (-1), 1) := by decide +kernel
theorem d_K_open_27 : decode prog_1_method_5_code 27 = .ok (.ireturn, 1) := by decide +kernel
theorem d_K_open_28 : decode prog_1_method_5_code 28 = .ok (.aload_n 0, 1) := by decide +kernel
theorem d_K_open_29 : decode prog_1_method_5_code 29 = .ok (.getfield 10, 3) := by decide +kernel
theorem d_K_open_32 : decode prog_1_method_5_code 32 = .ok (.iload_n 2, 1) := by decide +kernel
theorem d_K_open_33 : decode prog_1_method_5_code 33 = .ok (.invokevirtual 78, 3) := by decide +kernel
theorem d_K_open_36 : decode prog_1_method_5_code 36 = .ok (.ifCond .ne 14, 3) := by decide +kernel
theorem d_K_open_39 : decode prog_1_method_5_code 39 = .ok (.iload_n 3, 1) := by decide +kernel
theorem d_K_open_40 : decode prog_1_method_5_code 40 = .ok (.bipush 8, 2) := by decide +kernel
theorem d_K_open_42 : decode prog_1_method_5_code 42 = .ok (.iand, 1) := by decide +kernel
theorem d_K_open_43 : decode prog_1_method_5_code 43 = .ok (.ifCond .ne 7, 3) := by decide +kernel
theorem d_K_open_46 : decode prog_1_method_5_code 46 = .ok (.iconst 1, 1) := by decide +kernel
theorem d_K_open_47 : decode prog_1_method_5_code 47 = .ok (.goto 4, 3) := by decide +kernel
theorem d_K_open_50 : decode prog_1_method_5_code 50 = .ok (.iconst 0, 1) := by decide +kernel
theorem d_K_open_51 : decode prog_1_method_5_code 51 = .ok (.istore 4, 2) := by decide +kernel
theorem d_K_open_53 : decode prog_1_method_5_code 53 = .ok (.aload_n 0, 1) := by decide +kernel
theorem d_K_open_54 : decode prog_1_method_5_code 54 = .ok (.getfield 25, 3) := by decide +kernel
theorem d_K_open_57 : decode prog_1_method_5_code 57 = .ok (.iload_n 2, 1) := by decide +kernel
theorem d_K_open_58 : decode prog_1_method_5_code 58 = .ok (.iaload, 1) := by decide +kernel
theorem d_K_open_59 : decode prog_1_method_5_code 59 = .ok (.ifCond .eq 8, 3) := by decide +kernel
theorem d_K_open_62 : decode prog_1_method_5_code 62 = .ok (.iload 4, 2) := by decide +kernel
theorem d_K_open_64 : decode prog_1_method_5_code 64 = .ok (.ifCond .eq 6, 3) := by decide +kernel
theorem d_K_open_67 : decode prog_1_method_5_code 67 = .ok (.bipush (-4), 2) := by decide +kernel
theorem d_K_open_69 : decode prog_1_method_5_code 69 = .ok (.ireturn, 1) := by decide +kernel
theorem d_K_open_70 : decode prog_1_method_5_code 70 = .ok (.aload_n 0, 1) := by decide +kernel
theorem d_K_open_71 : decode prog_1_method_5_code 71 = .ok (.getfield 25, 3) := by decide +kernel
theorem d_K_open_74 : decode prog_1_method_5_code 74 = .ok (.iload_n 2, 1) := by decide +kernel
theorem d_K_open_75 : decode prog_1_method_5_code 75 = .ok (.iaload, 1) := by decide +kernel
theorem d_K_open_76 : decode prog_1_method_5_code 76 = .ok (.iconst 1, 1) := by decide +kernel
theorem d_K_open_77 : decode prog_1_method_5_code 77 = .ok (.if_icmp .ne 13, 3) := by decide +kernel
theorem d_K_open_80 : decode prog_1_method_5_code 80 = .ok (.iload_n 3, 1) := by decide +kernel
theorem d_K_open_81 : decode prog_1_method_5_code 81 = .ok (.bipush (-2), 2) := by decide +kernel
theorem d_K_open_83 : decode prog_1_method_5_code 83 = .ok (.iand, 1) := by decide +kernel
theorem d_K_open_84 : decode prog_1_method_5_code 84 = .ok (.ifCond .eq 6, 3) := by decide +kernel
theorem d_K_open_87 : decode prog_1_method_5_code 87 = .ok (.bipush (-5), 2) := by decide +kernel
theorem d_K_open_89 : decode prog_1_method_5_code 89 = .ok (.ireturn, 1) := by decide +kernel
theorem d_K_open_90 : decode prog_1_method_5_code 90 = .ok (.aload_n 0, 1) := by decide +kernel
theorem d_K_open_91 : decode prog_1_method_5_code 91 = .ok (.getfield 44, 3) := by decide +kernel
theorem d_K_open_94 : decode prog_1_method_5_code 94 = .ok (.iload_n 1, 1) := by decide +kernel
theorem d_K_open_95 : decode prog_1_method_5_code 95 = .ok (.aaload, 1) := by decide +kernel
theorem d_K_open_96 : decode prog_1_method_5_code 96 = .ok (.iconst 0, 1) := by decide +kernel
theorem d_K_open_97 : decode prog_1_method_5_code 97 = .ok (.invokevirtual 81, 3) := by decide +kernel
theorem d_K_open_100 : decode prog_1_method_5_code 100 = .ok (.istore 5, 2) := by decide +kernel
theorem d_K_open_102 : decode prog_1_method_5_code 102 = .ok (.aload_n 0, 1) := by decide +kernel
theorem d_K_open_103 : decode prog_1_method_5_code 103 = .ok (.iconst 0, 1) := by decide +kernel
theorem d_K_open_104 : decode prog_1_method_5_code 104 = .ok (.invokevirtual 85, 3) := by decide +kernel
theorem d_K_open_107 : decode prog_1_method_5_code 107 = .ok (.istore 6, 2) := by decide +kernel
theorem d_K_open_109 : decode prog_1_method_5_code 109 = .ok (.iload 5, 2) := by decide +kernel
theorem d_K_open_111 : decode prog_1_method_5_code 111 = .ok (.iconst (-1), 1) := by decide +kernel
theorem d_K_open_112 : decode prog_1_method_5_code 112 = .ok (.if_icmp .eq 9, 3) := by decide +kernel
theorem d_K_open_115 : decode prog_1_method_5_code 115 = .ok (.iload 6, 2) := by decide +kernel
theorem d_K_open_117 : decode prog_1_method_5_code 117 = .ok (.iconst (-1), 1) := by decide +kernel
theorem d_K_open_118 : decode prog_1_method_5_code 118 = .ok (.if_icmp .ne 6, 3) := by decide +kernel
theorem d_K_open_121 : decode prog_1_method_5_code 121 = .ok (.bipush (-2), 2) := by decide +kernel
theorem d_K_open_123 : decode prog_1_method_5_code 123 = .ok (.ireturn, 1) := by decide +kernel
theorem d_K_open_124 : decode prog_1_method_5_code 124 = .ok (.aload_n 0, 1) := by decide +kernel
theorem d_K_open_125 : decode prog_1_method_5_code 125 = .ok (.iload_n 2, 1) := by decide +kernel
theorem d_K_open_126 : decode prog_1_method_5_code 126 = .ok (.iload_n 3, 1) := by decide +kernel
theorem d_K_open_127 : decode prog_1_method_5_code 127 = .ok (.invokevirtual 88, 3) := by decide +kernel
theorem d_K_open_130 : decode prog_1_method_5_code 130 = .ok (.ifCond .ne 6, 3) := by decide +kernel
theorem d_K_open_133 : decode prog_1_method_5_code 133 = .ok (.bipush (-8), 2) := by decide +kernel
theorem d_K_open_135 : decode prog_1_method_5_code 135 = .ok (.ireturn, 1) := by decide +kernel
theorem d_K_open_136 : decode prog_1_method_5_code 136 = .ok (.aload_n 0, 1) := by decide +kernel
theorem d_K_open_137 : decode prog_1_method_5_code 137 = .ok (.getfield 37, 3) := by decide +kernel
theorem d_K_open_140 : decode prog_1_method_5_code 140 = .ok (.iload 6, 2) := by decide +kernel
theorem d_K_open_142 : decode prog_1_method_5_code 142 = .ok (.aaload, 1) := by decide +kernel
theorem d_K_open_143 : decode prog_1_method_5_code 143 = .ok (.iload_n 2, 1) := by decide +kernel
theorem d_K_open_144 : decode prog_1_method_5_code 144 = .ok (.iload_n 3, 1) := by decide +kernel
theorem d_K_open_145 : decode prog_1_method_5_code 145 = .ok (.invokevirtual 91, 3) := by decide +kernel
theorem d_K_open_148 : decode prog_1_method_5_code 148 = .ok (.aload_n 0, 1) := by decide +kernel
theorem d_K_open_149 : decode prog_1_method_5_code 149 = .ok (.getfield 44, 3) := by decide +kernel
theorem d_K_open_152 : decode prog_1_method_5_code 152 = .ok (.iload_n 1, 1) := by decide +kernel
theorem d_K_open_153 : decode prog_1_method_5_code 153 = .ok (.aaload, 1) := by decide +kernel
theorem d_K_open_154 : decode prog_1_method_5_code 154 = .ok (.iload 5, 2) := by decide +kernel
theorem d_K_open_156 : decode prog_1_method_5_code 156 = .ok (.aload_n 0, 1) := by decide +kernel
theorem d_K_open_157 : decode prog_1_method_5_code 157 = .ok (.getfield 37, 3) := by decide +kernel
theorem d_K_open_160 : decode prog_1_method_5_code 160 = .ok (.iload 6, 2) := by decide +kernel
theorem d_K_open_162 : decode prog_1_method_5_code 162 = .ok (.aaload, 1) := by decide +kernel
theorem d_K_open_163 : decode prog_1_method_5_code 163 = .ok (.invokevirtual 94, 3) := by decide +kernel
theorem d_K_open_166 : decode prog_1_method_5_code 166 = .ok (.iload 5, 2) := by decide +kernel
theorem d_K_open_168 : decode prog_1_method_5_code 168 = .ok (.ireturn, 1) := by decide +kernel
theorem d_K_isAlive_0 : decode prog_1_method_23_code 0 = .ok (.iload_n 1, 1) := by decide +kernel
theorem d_K_isAlive_1 : decode prog_1_method_23_code 1 = .ok (.bipush 7, 2) := by decide +kernel
theorem d_K_isAlive_3 : decode prog_1_method_23_code 3 = .ok (.invokestatic 53, 3) := by decide +kernel
theorem d_K_isAlive_6 : decode prog_1_method_23_code 6 = .ok (.ifCond .eq 20, 3) := by decide +kernel
theorem d_K_isAlive_9 : decode prog_1_method_23_code 9 = .ok (.aload_n 0, 1) := by decide +kernel
theorem d_K_isAlive_10 : decode prog_1_method_23_code 10 = .ok (.getfield 44, 3) := by decide +kernel
theorem d_K_isAlive_13 : decode prog_1_method_23_code 13 = .ok (.iload_n 1, 1) := by decide +kernel
theorem d_K_isAlive_14 : decode prog_1_method_23_code 14 = .ok (.aaload, 1) := by decide +kernel
theorem d_K_isAlive_15 : decode prog_1_method_23_code 15 = .ok (.getfield 173, 3) := by decide +kernel
theorem d_K_isAlive_18 : decode prog_1_method_23_code 18 = .ok (.iconst 1, 1) := by decide +kernel
theorem d_K_isAlive_19 : decode prog_1_method_23_code 19 = .ok (.if_icmp .ne 7, 3) := by decide +kernel
theorem d_K_isAlive_22 : decode prog_1_method_23_code 22 = .ok (.iconst 1, 1) := by decide +kernel
theorem d_K_isAlive_23 : decode prog_1_method_23_code 23 = .ok (.goto 4, 3) := by decide +kernel
theorem d_K_isAlive_26 : decode prog_1_method_23_code 26 = .ok (.iconst 0, 1) := by decide +kernel
theorem d_K_isAlive_27 : decode prog_1_method_23_code 27 = .ok (.ireturn, 1) := by decide +kernel
theorem d_K_unusedFrom_0 : decode prog_1_method_27_code 0 = .ok (.iload_n 1, 1) := by decide +kernel
theorem d_K_unusedFrom_1 : decode prog_1_method_27_code 1 = .ok (.istore_n 2, 1) := by decide +kernel
theorem d_K_unusedFrom_2 : decode prog_1_method_27_code 2 = .ok (.iload_n 2, 1) := by decide +kernel
theorem d_K_unusedFrom_3 : decode prog_1_method_27_code 3 = .ok (.bipush 16, 2) := by decide +kernel
theorem d_K_unusedFrom_5 : decode prog_1_method_27_code 5 = .ok (.if_icmp .ge 23, 3) := by decide +kernel
theorem d_K_unusedFrom_8 : decode prog_1_method_27_code 8 = .ok (.aload_n 0, 1) := by decide +kernel
theorem d_K_unusedFrom_9 : decode prog_1_method_27_code 9 = .ok (.getfield 37, 3) := by decide +kernel
theorem d_K_unusedFrom_12 : decode prog_1_method_27_code 12 = .ok (.iload_n 2, 1) := by decide +kernel
theorem d_K_unusedFrom_13 : decode prog_1_method_27_code 13 = .ok (.aaload, 1) := by decide +kernel
theorem d_K_unusedFrom_14 : decode prog_1_method_27_code 14 = .ok (.getfield 230, 3) := by decide +kernel
theorem d_K_unusedFrom_17 : decode prog_1_method_27_code 17 = .ok (.ifCond .ne 5, 3) := by decide +kernel
theorem d_K_unusedFrom_20 : decode prog_1_method_27_code 20 = .ok (.iload_n 2, 1) := by decide +kernel
theorem d_K_unusedFrom_21 : decode prog_1_method_27_code 21 = .ok (.ireturn, 1) := by decide +kernel
theorem d_K_unusedFrom_22 : decode prog_1_method_27_code 22 = .ok (.iinc 2 1, 3) := by decide +kernel
theorem d_K_unusedFrom_25 : decode prog_1_method_27_code 25 = .ok (.goto (-23), 3) := by decide +kernel
theorem d_K_unusedFrom_28 : decode prog_1_method_27_code 28 = .ok (.iconst (-1), 1) := by decide +kernel
theorem d_K_unusedFrom_29 : decode prog_1_method_27_code 29 = .ok (.ireturn, 1) := by decide +kernel
theorem d_K_readyFile_0 : decode prog_1_method_31_code 0 = .ok (.aload_n 0, 1) := by decide +kernel
theorem d_K_readyFile_1 : decode prog_1_method_31_code 1 = .ok (.getfield 10, 3) := by decide +kernel
theorem d_K_readyFile_4 : decode prog_1_method_31_code 4 = .ok (.iload_n 1, 1) := by decide +kernel
theorem d_K_readyFile_5 : decode prog_1_method_31_code 5 = .ok (.invokevirtual 78, 3) := by decide +kernel
theorem d_K_readyFile_8 : decode prog_1_method_31_code 8 = .ok (.ifCond .ne 28, 3) := by decide +kernel
theorem d_K_readyFile_11 : decode prog_1_method_31_code 11 = .ok (.aload_n 0, 1) := by decide +kernel
theorem d_K_readyFile_12 : decode prog_1_method_31_code 12 = .ok (.getfield 10, 3) := by decide +kernel
theorem d_K_readyFile_15 : decode prog_1_method_31_code 15 = .ok (.iload_n 1, 1) := by decide +kernel
theorem d_K_readyFile_16 : decode prog_1_method_31_code 16 = .ok (.invokevirtual 233, 3) := by decide +kernel
theorem d_K_readyFile_19 : decode prog_1_method_31_code 19 = .ok (.ifCond .ne 5, 3) := by decide +kernel
theorem d_K_readyFile_22 : decode prog_1_method_31_code 22 = .ok (.iconst 0, 1) := by decide +kernel
theorem d_K_readyFile_23 : decode prog_1_method_31_code 23 = .ok (.ireturn, 1) := by decide +kernel
theorem d_K_readyFile_24 : decode prog_1_method_31_code 24 = .ok (.aload_n 0, 1) := by decide +kernel
theorem d_K_readyFile_25 : decode prog_1_method_31_code 25 = .ok (.getfield 21, 3) := by decide +kernel
theorem d_K_readyFile_28 : decode prog_1_method_31_code 28 = .ok (.iload_n 1, 1) := by decide +kernel
theorem d_K_readyFile_29 : decode prog_1_method_31_code 29 = .ok (.iconst 0, 1) := by decide +kernel
theorem d_K_readyFile_30 : decode prog_1_method_31_code 30 = .ok (.invokevirtual 68, 3) := by decide +kernel
theorem d_K_readyFile_33 : decode prog_1_method_31_code 33 = .ok (.goto 40, 3) := by decide +kernel
theorem d_K_readyFile_36 : decode prog_1_method_31_code 36 = .ok (.iload_n 2, 1) := by decide +kernel
theorem d_K_readyFile_37 : decode prog_1_method_31_code 37 = .ok (.bipush 16, 2) := by decide +kernel
theorem d_K_readyFile_39 : decode prog_1_method_31_code 39 = .ok (.iand, 1) := by decide +kernel
theorem d_K_readyFile_40 : decode prog_1_method_31_code 40 = .ok (.ifCond .eq 33, 3) := by decide +kernel
theorem d_K_readyFile_43 : decode prog_1_method_31_code 43 = .ok (.aload_n 0, 1) := by decide +kernel
theorem d_K_readyFile_44 : decode prog_1_method_31_code 44 = .ok (.getfield 10, 3) := by decide +kernel
theorem d_K_readyFile_47 : decode prog_1_method_31_code 47 = .ok (.iload_n 1, 1) := by decide +kernel
theorem d_K_readyFile_48 : decode prog_1_method_31_code 48 = .ok (.invokevirtual 236, 3) := by decide +kernel
theorem d_K_readyFile_51 : decode prog_1_method_31_code 51 = .ok (.ifCond .ne 5, 3) := by decide +kernel
theorem d_K_readyFile_54 : decode prog_1_method_31_code 54 = .ok (.iconst 0, 1) := by decide +kernel
theorem d_K_readyFile_55 : decode prog_1_method_31_code 55 = .ok (.ireturn, 1) := by decide +kernel
theorem d_K_readyFile_56 : decode prog_1_method_31_code 56 = .ok (.aload_n 0, 1) := by decide +kernel
theorem d_K_readyFile_57 : decode prog_1_method_31_code 57 = .ok (.getfield 21, 3) := by decide +kernel
theorem d_K_readyFile_60 : decode prog_1_method_31_code 60 = .ok (.iload_n 1, 1) := by decide +kernel
theorem d_K_readyFile_61 : decode prog_1_method_31_code 61 = .ok (.invokevirtual 154, 3) := by decide +kernel
theorem d_K_readyFile_64 : decode prog_1_method_31_code 64 = .ok (.aload_n 0, 1) := by decide +kernel
theorem d_K_readyFile_65 : decode prog_1_method_31_code 65 = .ok (.getfield 21, 3) := by decide +kernel
theorem d_K_readyFile_68 : decode prog_1_method_31_code 68 = .ok (.iload_n 1, 1) := by decide +kernel
theorem d_K_readyFile_69 : decode prog_1_method_31_code 69 = .ok (.iconst 0, 1) := by decide +kernel
theorem d_K_readyFile_70 : decode prog_1_method_31_code 70 = .ok (.invokevirtual 68, 3) := by decide +kernel
theorem d_K_readyFile_73 : decode prog_1_method_31_code 73 = .ok (.iconst 1, 1) := by decide +kernel
theorem d_K_readyFile_74 : decode prog_1_method_31_code 74 = .ok (.ireturn, 1) := by decide +kernel
theorem d_K_pipe_0 : decode prog_1_method_6_code 0 = .ok (.aload_n 0, 1) := by decide +kernel
theorem d_K_pipe_1 : decode prog_1_method_6_code 1 = .ok (.iload_n 1, 1) := by decide +kernel
theorem d_K_pipe_2 : decode prog_1_method_6_code 2 = .ok (.invokevirtual 75, 3) := by decide +kernel
theorem d_K_pipe_5 : decode prog_1_method_6_code 5 = .ok (.ifCond .ne 5, 3) := by decide +kernel
theorem d_K_pipe_8 : decode prog_1_method_6_code 8 = .ok (.iconst (-1), 1) := by decide +kernel
theorem d_K_pipe_9 : decode prog_1_method_6_code 9 = .ok (.ireturn, 1) := by decide +kernel
theorem d_K_pipe_10 : decode prog_1_method_6_code 10 = .ok (.aload_n 0, 1) := by decide +kernel
theorem d_K_pipe_11 : decode prog_1_method_6_code 11 = .ok (.getfield 44, 3) := by decide +kernel
theorem d_K_pipe_14 : decode prog_1_method_6_code 14 = .ok (.iload_n 1, 1) := by decide +kernel
theorem d_K_pipe_15 : decode prog_1_method_6_code 15 = .ok (.aaload, 1) := by decide +kernel
theorem d_K_pipe_16 : decode prog_1_method_6_code 16 = .ok (.astore_n 2, 1) := by decide +kernel
theorem d_K_pipe_17 : decode prog_1_method_6_code 17 = .ok (.aload_n 2, 1) := by decide +kernel
theorem d_K_pipe_18 : decode prog_1_method_6_code 18 = .ok (.iconst 0, 1) := by decide +kernel
theorem d_K_pipe_19 : decode prog_1_method_6_code 19 = .ok (.invokevirtual 81, 3) := by decide +kernel
theorem d_K_pipe_22 : decode prog_1_method_6_code 22 = .ok (.istore_n 3, 1) := by decide +kernel
theorem d_K_pipe_23 : decode prog_1_method_6_code 23 = .ok (.aload_n 2, 1) := by decide +kernel
theorem d_K_pipe_24 : decode prog_1_method_6_code 24 = .ok (.iload_n 3, 1) := by decide +kernel
theorem d_K_pipe_25 : decode prog_1_method_6_code 25 = .ok (.iconst 1, 1) := by decide +kernel
theorem d_K_pipe_26 : decode prog_1_method_6_code 26 = .ok (.iadd, 1) := by decide +kernel
theorem d_K_pipe_27 : decode prog_1_method_6_code 27 = .ok (.invokevirtual 81, 3) := by decide +kernel
theorem d_K_pipe_30 : decode prog_1_method_6_code 30 = .ok (.istore 4, 2) := by decide +kernel
theorem d_K_pipe_32 : decode prog_1_method_6_code 32 = .ok (.aload_n 0, 1) := by decide +kernel
theorem d_K_pipe_33 : decode prog_1_method_6_code 33 = .ok (.iconst 0, 1) := by decide +kernel
theorem d_K_pipe_34 : decode prog_1_method_6_code 34 = .ok (.invokevirtual 85, 3) := by decide +kernel
theorem d_K_pipe_37 : decode prog_1_method_6_code 37 = .ok (.istore 5, 2) := by decide +kernel
theorem d_K_pipe_39 : decode prog_1_method_6_code 39 = .ok (.aload_n 0, 1) := by decide +kernel
theorem d_K_pipe_40 : decode prog_1_method_6_code 40 = .ok (.iload 5, 2) := by decide +kernel
theorem d_K_pipe_42 : decode prog_1_method_6_code 42 = .ok (.iconst 1, 1) := by decide +kernel
theorem d_K_pipe_43 : decode prog_1_method_6_code 43 = .ok (.iadd, 1) := by decide +kernel
theorem d_K_pipe_44 : decode prog_1_method_6_code 44 = .ok (.invokevirtual 85, 3) := by decide +kernel
theorem d_K_pipe_47 : decode prog_1_method_6_code 47 = .ok (.istore 6, 2) := by decide +kernel
theorem d_K_pipe_49 : decode prog_1_method_6_code 49 = .ok (.iload_n 3, 1) := by decide +kernel
theorem d_K_pipe_50 : decode prog_1_method_6_code 50 = .ok (.iconst (-1), 1) := by decide +kernel
theorem d_K_pipe_51 : decode prog_1_method_6_code 51 = .ok (.if_icmp .eq 21, 3) := by decide +kernel
theorem d_K_pipe_54 : decode prog_1_method_6_code 54 = .ok (.iload 4, 2) := by decide +kernel
theorem d_K_pipe_56 : decode prog_1_method_6_code 56 = .ok (.iconst (-1), 1) := by decide +kernel
theorem d_K_pipe_57 : decode prog_1_method_6_code 57 = .ok (.if_icmp .eq 15, 3) := by decide +kernel
theorem d_K_pipe_60 : decode prog_1_method_6_code 60 = .ok (.iload 5, 2) := by decide +kernel
theorem d_K_pipe_62 : decode prog_1_method_6_code 62 = .ok (.iconst (-1), 1) := by decide +kernel
theorem d_K_pipe_63 : decode prog_1_method_6_code 63 = .ok (.if_icmp .eq 9, 3) := by decide +kernel
theorem d_K_pipe_66 : decode prog_1_method_6_code 66 = .ok (.iload 6, 2) := by decide +kernel
theorem d_K_pipe_68 : decode prog_1_method_6_code 68 = .ok (.iconst (-1), 1) := by decide +kernel
theorem d_K_pipe_69 : decode prog_1_method_6_code 69 = .ok (.if_icmp .ne 6, 3) := by decide +kernel
theorem d_K_pipe_72 : decode prog_1_method_6_code 72 = .ok (.bipush (-2), 2) := by decide +kernel
theorem d_K_pipe_74 : decode prog_1_method_6_code 74 = .ok (.ireturn, 1) := by decide +kernel
theorem d_K_pipe_75 : decode prog_1_method_6_code 75 = .ok (.new 98, 3) := by decide +kernel
theorem d_K_pipe_78 : decode prog_1_method_6_code 78 = .ok (.dup, 1) := by decide +kernel
theorem d_K_pipe_79 : decode prog_1_method_6_code 79 = .ok (.invokespecial 100, 3) := by decide +kernel
theorem d_K_pipe_82 : decode prog_1_method_6_code 82 = .ok (.astore 7, 2) := by decide +kernel
theorem d_K_pipe_84 : decode prog_1_method_6_code 84 = .ok (.aload_n 0, 1) := by decide +kernel
theorem d_K_pipe_85 : decode prog_1_method_6_code 85 = .ok (.getfield 37, 3) := by decide +kernel
theorem d_K_pipe_88 : decode prog_1_method_6_code 88 = .ok (.iload 5, 2) := by decide +kernel
theorem d_K_pipe_90 : decode prog_1_method_6_code 90 = .ok (.aaload, 1) := by decide +kernel
theorem d_K_pipe_91 : decode prog_1_method_6_code 91 = .ok (.aload 7, 2) := by decide +kernel
theorem d_K_pipe_93 : decode prog_1_method_6_code 93 = .ok (.iconst 1, 1) := by decide +kernel
theorem d_K_pipe_94 : decode prog_1_method_6_code 94 = .ok (.invokevirtual 101, 3) := by decide +kernel
theorem d_K_pipe_97 : decode prog_1_method_6_code 97 = .ok (.aload_n 0, 1) := by decide +kernel
theorem d_K_pipe_98 : decode prog_1_method_6_code 98 = .ok (.getfield 37, 3) := by decide +kernel
theorem d_K_pipe_101 : decode prog_1_method_6_code 101 = .ok (.iload 6, 2) := by decide +kernel
theorem d_K_pipe_103 : decode prog_1_method_6_code 103 = .ok (.aaload, 1) := by decide +kernel
theorem d_K_pipe_104 : decode prog_1_method_6_code 104 = .ok (.aload 7, 2) := by decide +kernel
theorem d_K_pipe_106 : decode prog_1_method_6_code 106 = .ok (.iconst 2, 1) := by decide +kernel
theorem d_K_pipe_107 : decode prog_1_method_6_code 107 = .ok (.invokevirtual 101, 3) := by decide +kernel
theorem d_K_pipe_110 : decode prog_1_method_6_code 110 = .ok (.aload_n 2, 1) := by decide +kernel
theorem d_K_pipe_111 : decode prog_1_method_6_code 111 = .ok (.iload_n 3, 1) := by decide +kernel
theorem d_K_pipe_112 : decode prog_1_method_6_code 112 = .ok (.aload_n 0, 1) := by decide +kernel
theorem d_K_pipe_113 : decode prog_1_method_6_code 113 = .ok (.getfield 37, 3) := by decide +kernel
theorem d_K_pipe_116 : decode prog_1_method_6_code 116 = .ok (.iload 5, 2) := by decide +kernel
theorem d_K_pipe_118 : decode prog_1_method_6_code 118 = .ok (.aaload, 1) := by decide +kernel
theorem d_K_pipe_119 : decode prog_1_method_6_code 119 = .ok (.invokevirtual 94, 3) := by decide +kernel
theorem d_K_pipe_122 : decode prog_1_method_6_code 122 = .ok (.aload_n 2, 1) := by decide +kernel
theorem d_K_pipe_123 : decode prog_1_method_6_code 123 = .ok (.iload 4, 2) := by decide +kernel
theorem d_K_pipe_125 : decode prog_1_method_6_code 125 = .ok (.aload_n 0, 1) := by decide +kernel
theorem d_K_pipe_126 : decode prog_1_method_6_code 126 = .ok (.getfield 37, 3) := by decide +kernel
theorem d_K_pipe_129 : decode prog_1_method_6_code 129 = .ok (.iload 6, 2) := by decide +kernel
theorem d_K_pipe_131 : decode prog_1_method_6_code 131 = .ok (.aaload, 1) := by decide +kernel
theorem d_K_pipe_132 : decode prog_1_method_6_code 132 = .ok (.invokevirtual 94, 3) := by decide +kernel
theorem d_K_pipe_135 : decode prog_1_method_6_code 135 = .ok (.iload_n 3, 1) := by decide +kernel
theorem d_K_pipe_136 : decode prog_1_method_6_code 136 = .ok (.bipush 8, 2) := by decide +kernel
theorem d_K_pipe_138 : decode prog_1_method_6_code 138 = .ok (.iload 4, 2) := by decide +kernel
theorem d_K_pipe_140 : decode prog_1_method_6_code 140 = .ok (.imul, 1) := by decide +kernel
theorem d_K_pipe_141 : decode prog_1_method_6_code 141 = .ok (.iadd, 1) := by decide +kernel
theorem d_K_pipe_142 : decode prog_1_method_6_code 142 = .ok (.ireturn, 1) := by decide +kernel
theorem d_K_read_0 : decode prog_1_method_7_code 0 = .ok (.aload_n 0, 1) := by decide +kernel
theorem d_K_read_1 : decode prog_1_method_7_code 1 = .ok (.iload_n 1, 1) := by decide +kernel
theorem d_K_read_2 : decode prog_1_method_7_code 2 = .ok (.iload_n 2, 1) := by decide +kernel
theorem d_K_read_3 : decode prog_1_method_7_code 3 = .ok (.invokevirtual 105, 3) := by decide +kernel
theorem d_K_read_6 : decode prog_1_method_7_code 6 = .ok (.astore_n 3, 1) := by decide +kernel
theorem d_K_read_7 : decode prog_1_method_7_code 7 = .ok (.aload_n 3, 1) := by decide +kernel
theorem d_K_read_8 : decode prog_1_method_7_code 8 = .ok (.ifnonnull 10, 3) := by decide +kernel
theorem d_K_read_11 : decode prog_1_method_7_code 11 = .ok (.aload_n 0, 1) := by decide +kernel
theorem d_K_read_12 : decode prog_1_method_7_code 12 = .ok (.iload_n 1, 1) := by decide +kernel
theorem d_K_read_13 : decode prog_1_method_7_code 13 = .ok (.iload_n 2, 1) := by decide +kernel
theorem d_K_read_14 : decode prog_1_method_7_code 14 = .ok (.invokevirtual 109, 3) := by decide +kernel
theorem d_K_read_17 : decode prog_1_method_7_code 17 = .ok (.ireturn, 1) := by decide +kernel
theorem d_K_read_18 : decode prog_1_method_7_code 18 = .ok (.aload_n 3, 1) := by decide +kernel
theorem d_K_read_19 : decode prog_1_method_7_code 19 = .ok (.iconst 1, 1) := by decide +kernel
theorem d_K_read_20 : decode prog_1_method_7_code 20 = .ok (.invokevirtual 113, 3) := by decide +kernel
theorem d_K_read_23 : decode prog_1_method_7_code 23 = .ok (.ifCond .ne 6, 3) := by decide +kernel
theorem d_K_read_26 : decode prog_1_method_7_code 26 = .ok (.bipush (-3), 2) := by decide +kernel
theorem d_K_read_28 : decode prog_1_method_7_code 28 = .ok (.ireturn, 1) := by decide +kernel
theorem d_K_read_29 : decode prog_1_method_7_code 29 = .ok (.aload_n 3, 1) := by decide +kernel
theorem d_K_read_30 : decode prog_1_method_7_code 30 = .ok (.getfield 116, 3) := by decide +kernel
theorem d_K_read_33 : decode prog_1_method_7_code 33 = .ok (.astore 4, 2) := by decide +kernel
theorem d_K_read_35 : decode prog_1_method_7_code 35 = .ok (.aload 4, 2) := by decide +kernel
theorem d_K_read_37 : decode prog_1_method_7_code 37 = .ok (.ifnonnull 11, 3) := by decide +kernel
theorem d_K_read_40 : decode prog_1_method_7_code 40 = .ok (.aload_n 0, 1) := by decide +kernel
theorem d_K_read_41 : decode prog_1_method_7_code 41 = .ok (.aload_n 3, 1) := by decide +kernel
theorem d_K_read_42 : decode prog_1_method_7_code 42 = .ok (.invokevirtual 120, 3) := by decide +kernel
theorem d_K_read_45 : decode prog_1_method_7_code 45 = .ok (.goto 8, 3) := by decide +kernel
theorem d_K_read_48 : decode prog_1_method_7_code 48 = .ok (.aload 4, 2) := by decide +kernel
theorem d_K_read_50 : decode prog_1_method_7_code 50 = .ok (.invokevirtual 124, 3) := by decide +kernel
theorem d_K_read_53 : decode prog_1_method_7_code 53 = .ok (.ireturn, 1) := by decide +kernel
theorem d_K_openingOf_0 : decode prog_1_method_24_code 0 = .ok (.aload_n 0, 1) := by decide +kernel
theorem d_K_openingOf_1 : decode prog_1_method_24_code 1 = .ok (.iload_n 1, 1) := by decide +kernel
theorem d_K_openingOf_2 : decode prog_1_method_24_code 2 = .ok (.invokevirtual 75, 3) := by decide +kernel
theorem d_K_openingOf_5 : decode prog_1_method_24_code 5 = .ok (.ifCond .eq 12, 3) := by decide +kernel
theorem d_K_openingOf_8 : decode prog_1_method_24_code 8 = .ok (.iload_n 2, 1) := by decide +kernel
theorem d_K_openingOf_9 : decode prog_1_method_24_code 9 = .ok (.bipush 6, 2) := by decide +kernel
theorem d_K_openingOf_11 : decode prog_1_method_24_code 11 = .ok (.invokestatic 53, 3) := by decide +kernel
theorem d_K_openingOf_14 : decode prog_1_method_24_code 14 = .ok (.ifCond .ne 5, 3) := by decide +kernel
theorem d_K_openingOf_17 : decode prog_1_method_24_code 17 = .ok (.aconst_null, 1) := by decide +kernel
theorem d_K_openingOf_18 : decode prog_1_method_24_code 18 = .ok (.areturn, 1) := by decide +kernel
theorem d_K_openingOf_19 : decode prog_1_method_24_code 19 = .ok (.aload_n 0, 1) := by decide +kernel
theorem d_K_openingOf_20 : decode prog_1_method_24_code 20 = .ok (.getfield 44, 3) := by decide +kernel
theorem d_K_openingOf_23 : decode prog_1_method_24_code 23 = .ok (.iload_n 1, 1) := by decide +kernel
theorem d_K_openingOf_24 : decode prog_1_method_24_code 24 = .ok (.aaload, 1) := by decide +kernel
theorem d_K_openingOf_25 : decode prog_1_method_24_code 25 = .ok (.getfield 224, 3) := by decide +kernel
theorem d_K_openingOf_28 : decode prog_1_method_24_code 28 = .ok (.iload_n 2, 1) := by decide +kernel
theorem d_K_openingOf_29 : decode prog_1_method_24_code 29 = .ok (.aaload, 1) := by decide +kernel
theorem d_K_openingOf_30 : decode prog_1_method_24_code 30 = .ok (.areturn, 1) := by decide +kernel
theorem d_K_whyNoOpening_0 : decode prog_1_method_25_code 0 = .ok (.aload_n 0, 1) := by decide +kernel
theorem d_K_whyNoOpening_1 : decode prog_1_method_25_code 1 = .ok (.iload_n 1, 1) := by decide +kernel
theorem d_K_whyNoOpening_2 : decode prog_1_method_25_code 2 = .ok (.invokevirtual 75, 3) := by decide +kernel
theorem d_K_whyNoOpening_5 : decode prog_1_method_25_code 5 = .ok (.ifCond .eq 17, 3) := by decide +kernel
theorem d_K_whyNoOpening_8 : decode prog_1_method_25_code 8 = .ok (.iload_n 2, 1) := by decide +kernel
theorem d_K_whyNoOpening_9 : decode prog_1_method_25_code 9 = .ok (.bipush 6, 2) := by decide +kernel
theorem d_K_whyNoOpening_11 : decode prog_1_method_25_code 11 = .ok (.invokestatic 53, 3) := by decide +kernel
theorem d_K_whyNoOpening_14 : decode prog_1_method_25_code 14 = .ok (.ifCond .eq 8, 3) := by decide +kernel
theorem d_K_whyNoOpening_17 : decode prog_1_method_25_code 17 = .ok (.bipush (-3), 2) := by decide +kernel
theorem d_K_whyNoOpening_19 : decode prog_1_method_25_code 19 = .ok (.goto 4, 3) := by decide +kernel
theorem d_K_whyNoOpening_22 : decode prog_1_method_25_code 22 = .ok (.iconst (-1), 1) := by decide +kernel
theorem d_K_whyNoOpening_23 : decode prog_1_method_25_code 23 = .ok (.ireturn, 1) := by decide +kernel
theorem d_K_readFile_0 : decode prog_1_method_32_code 0 = .ok (.aload_n 1, 1) := by decide +kernel
theorem d_K_readFile_1 : decode prog_1_method_32_code 1 = .ok (.getfield 142, 3) := by decide +kernel
theorem d_K_readFile_4 : decode prog_1_method_32_code 4 = .ok (.istore_n 2, 1) := by decide +kernel
theorem d_K_readFile_5 : decode prog_1_method_32_code 5 = .ok (.iload_n 2, 1) := by decide +kernel
theorem d_K_readFile_6 : decode prog_1_method_32_code 6 = .ok (.aload_n 0, 1) := by decide +kernel
theorem d_K_readFile_7 : decode prog_1_method_32_code 7 = .ok (.getfield 21, 3) := by decide +kernel
theorem d_K_readFile_10 : decode prog_1_method_32_code 10 = .ok (.aload_n 1, 1) := by decide +kernel
theorem d_K_readFile_11 : decode prog_1_method_32_code 11 = .ok (.getfield 135, 3) := by decide +kernel
theorem d_K_readFile_14 : decode prog_1_method_32_code 14 = .ok (.invokevirtual 139, 3) := by decide +kernel
theorem d_K_readFile_17 : decode prog_1_method_32_code 17 = .ok (.if_icmp .lt 6, 3) := by decide +kernel
theorem d_K_readFile_20 : decode prog_1_method_32_code 20 = .ok (.bipush (-7), 2) := by decide +kernel
theorem d_K_readFile_22 : decode prog_1_method_32_code 22 = .ok (.ireturn, 1) := by decide +kernel
theorem d_K_readFile_23 : decode prog_1_method_32_code 23 = .ok (.aload_n 0, 1) := by decide +kernel
theorem d_K_readFile_24 : decode prog_1_method_32_code 24 = .ok (.getfield 21, 3) := by decide +kernel
theorem d_K_readFile_27 : decode prog_1_method_32_code 27 = .ok (.aload_n 1, 1) := by decide +kernel
theorem d_K_readFile_28 : decode prog_1_method_32_code 28 = .ok (.getfield 135, 3) := by decide +kernel
theorem d_K_readFile_31 : decode prog_1_method_32_code 31 = .ok (.iload_n 2, 1) := by decide +kernel
theorem d_K_readFile_32 : decode prog_1_method_32_code 32 = .ok (.bipush 8, 2) := by decide +kernel
theorem d_K_readFile_34 : decode prog_1_method_32_code 34 = .ok (.idiv, 1) := by decide +kernel
theorem d_K_readFile_35 : decode prog_1_method_32_code 35 = .ok (.invokevirtual 239, 3) := by decide +kernel
theorem d_K_readFile_38 : decode prog_1_method_32_code 38 = .ok (.astore_n 3, 1) := by decide +kernel
theorem d_K_readFile_39 : decode prog_1_method_32_code 39 = .ok (.aload_n 3, 1) := by decide +kernel
theorem d_K_readFile_40 : decode prog_1_method_32_code 40 = .ok (.ifnonnull 6, 3) := by decide +kernel
theorem d_K_readFile_43 : decode prog_1_method_32_code 43 = .ok (.bipush (-8), 2) := by decide +kernel
theorem d_K_readFile_45 : decode prog_1_method_32_code 45 = .ok (.ireturn, 1) := by decide +kernel
theorem d_K_readFile_46 : decode prog_1_method_32_code 46 = .ok (.aload_n 1, 1) := by decide +kernel
theorem d_K_readFile_47 : decode prog_1_method_32_code 47 = .ok (.iload_n 2, 1) := by decide +kernel
theorem d_K_readFile_48 : decode prog_1_method_32_code 48 = .ok (.iconst 1, 1) := by decide +kernel
theorem d_K_readFile_49 : decode prog_1_method_32_code 49 = .ok (.iadd, 1) := by decide +kernel
theorem d_K_readFile_50 : decode prog_1_method_32_code 50 = .ok (.putfield 142, 3) := by decide +kernel
theorem d_K_readFile_53 : decode prog_1_method_32_code 53 = .ok (.aload_n 3, 1) := by decide +kernel
theorem d_K_readFile_54 : decode prog_1_method_32_code 54 = .ok (.getfield 243, 3) := by decide +kernel
theorem d_K_readFile_57 : decode prog_1_method_32_code 57 = .ok (.iload_n 2, 1) := by decide +kernel
theorem d_K_readFile_58 : decode prog_1_method_32_code 58 = .ok (.bipush 8, 2) := by decide +kernel
theorem d_K_readFile_60 : decode prog_1_method_32_code 60 = .ok (.irem, 1) := by decide +kernel
theorem d_K_readFile_61 : decode prog_1_method_32_code 61 = .ok (.iaload, 1) := by decide +kernel
theorem d_K_readFile_62 : decode prog_1_method_32_code 62 = .ok (.ireturn, 1) := by decide +kernel
theorem d_K_write_0 : decode prog_1_method_8_code 0 = .ok (.iload_n 3, 1) := by decide +kernel
theorem d_K_write_1 : decode prog_1_method_8_code 1 = .ok (.sipush 256, 3) := by decide +kernel
theorem d_K_write_4 : decode prog_1_method_8_code 4 = .ok (.invokestatic 53, 3) := by decide +kernel
theorem d_K_write_7 : decode prog_1_method_8_code 7 = .ok (.ifCond .ne 5, 3) := by decide +kernel
theorem d_K_write_10 : decode prog_1_method_8_code 10 = .ok (.iconst (-1), 1) := by decide +kernel
theorem d_K_write_11 : decode prog_1_method_8_code 11 = .ok (.ireturn, 1) := by decide +kernel
theorem d_K_write_12 : decode prog_1_method_8_code 12 = .ok (.aload_n 0, 1) := by decide +kernel
theorem d_K_write_13 : decode prog_1_method_8_code 13 = .ok (.iload_n 1, 1) := by decide +kernel
theorem d_K_write_14 : decode prog_1_method_8_code 14 = .ok (.iload_n 2, 1) := by decide +kernel
theorem d_K_write_15 : decode prog_1_method_8_code 15 = .ok (.invokevirtual 105, 3) := by decide +kernel
theorem d_K_write_18 : decode prog_1_method_8_code 18 = .ok (.astore 4, 2) := by decide +kernel
theorem d_K_write_20 : decode prog_1_method_8_code 20 = .ok (.aload 4, 2) := by decide +kernel
theorem d_K_write_22 : decode prog_1_method_8_code 22 = .ok (.ifnonnull 10, 3) := by decide +kernel
theorem d_K_write_25 : decode prog_1_method_8_code 25 = .ok (.aload_n 0, 1) := by decide +kernel
theorem d_K_write_26 : decode prog_1_method_8_code 26 = .ok (.iload_n 1, 1) := by decide +kernel
theorem d_K_write_27 : decode prog_1_method_8_code 27 = .ok (.iload_n 2, 1) := by decide +kernel
theorem d_K_write_28 : decode prog_1_method_8_code 28 = .ok (.invokevirtual 109, 3) := by decide +kernel
theorem d_K_write_31 : decode prog_1_method_8_code 31 = .ok (.ireturn, 1) := by decide +kernel
theorem d_K_write_32 : decode prog_1_method_8_code 32 = .ok (.aload 4, 2) := by decide +kernel
theorem d_K_write_34 : decode prog_1_method_8_code 34 = .ok (.iconst 2, 1) := by decide +kernel
theorem d_K_write_35 : decode prog_1_method_8_code 35 = .ok (.invokevirtual 113, 3) := by decide +kernel
theorem d_K_write_38 : decode prog_1_method_8_code 38 = .ok (.ifCond .ne 6, 3) := by decide +kernel
theorem d_K_write_41 : decode prog_1_method_8_code 41 = .ok (.bipush (-3), 2) := by decide +kernel
theorem d_K_write_43 : decode prog_1_method_8_code 43 = .ok (.ireturn, 1) := by decide +kernel
theorem d_K_write_44 : decode prog_1_method_8_code 44 = .ok (.aload 4, 2) := by decide +kernel
theorem d_K_write_46 : decode prog_1_method_8_code 46 = .ok (.getfield 116, 3) := by decide +kernel
theorem d_K_write_49 : decode prog_1_method_8_code 49 = .ok (.astore 5, 2) := by decide +kernel
theorem d_K_write_51 : decode prog_1_method_8_code 51 = .ok (.aload 5, 2) := by decide +kernel
theorem d_K_write_53 : decode prog_1_method_8_code 53 = .ok (.ifnonnull 13, 3) := by decide +kernel
theorem d_K_write_56 : decode prog_1_method_8_code 56 = .ok (.aload_n 0, 1) := by decide +kernel
theorem d_K_write_57 : decode prog_1_method_8_code 57 = .ok (.aload 4, 2) := by decide +kernel
theorem d_K_write_59 : decode prog_1_method_8_code 59 = .ok (.iload_n 3, 1) := by decide +kernel
theorem d_K_write_60 : decode prog_1_method_8_code 60 = .ok (.invokevirtual 128, 3) := by decide +kernel
theorem d_K_write_63 : decode prog_1_method_8_code 63 = .ok (.goto 9, 3) := by decide +kernel
theorem d_K_write_66 : decode prog_1_method_8_code 66 = .ok (.aload 5, 2) := by decide +kernel
theorem d_K_write_68 : decode prog_1_method_8_code 68 = .ok (.iload_n 3, 1) := by decide +kernel
theorem d_K_write_69 : decode prog_1_method_8_code 69 = .ok (.invokevirtual 132, 3) := by decide +kernel
theorem d_K_write_72 : decode prog_1_method_8_code 72 = .ok (.ireturn, 1) := by decide +kernel
theorem d_K_writeFile_0 : decode prog_1_method_33_code 0 = .ok (.aload_n 0, 1) := by decide +kernel
theorem d_K_writeFile_1 : decode prog_1_method_33_code 1 = .ok (.getfield 21, 3) := by decide +kernel
theorem d_K_writeFile_4 : decode prog_1_method_33_code 4 = .ok (.aload_n 1, 1) := by decide +kernel
theorem d_K_writeFile_5 : decode prog_1_method_33_code 5 = .ok (.getfield 135, 3) := by decide +kernel
theorem d_K_writeFile_8 : decode prog_1_method_33_code 8 = .ok (.invokevirtual 139, 3) := by decide +kernel
theorem d_K_writeFile_11 : decode prog_1_method_33_code 11 = .ok (.istore_n 3, 1) := by decide +kernel
theorem d_K_writeFile_12 : decode prog_1_method_33_code 12 = .ok (.aload_n 1, 1) := by decide +kernel
theorem d_K_writeFile_13 : decode prog_1_method_33_code 13 = .ok (.iconst 4, 1) := by decide +kernel
theorem d_K_writeFile_14 : decode prog_1_method_33_code 14 = .ok (.invokevirtual 113, 3) := by decide +kernel
theorem d_K_writeFile_17 : decode prog_1_method_33_code 17 = .ok (.ifCond .eq 7, 3) := by decide +kernel
theorem d_K_writeFile_20 : decode prog_1_method_33_code 20 = .ok (.iload_n 3, 1) := by decide +kernel
theorem d_K_writeFile_21 : decode prog_1_method_33_code 21 = .ok (.goto 7, 3) := by decide +kernel
theorem d_K_writeFile_24 : decode prog_1_method_33_code 24 = .ok (.aload_n 1, 1) := by decide +kernel
theorem d_K_writeFile_25 : decode prog_1_method_33_code 25 = .ok (.getfield 142, 3) := by decide +kernel
theorem d_K_writeFile_28 : decode prog_1_method_33_code 28 = .ok (.istore 4, 2) := by decide +kernel
theorem d_K_writeFile_30 : decode prog_1_method_33_code 30 = .ok (.iload 4, 2) := by decide +kernel
theorem d_K_writeFile_32 : decode prog_1_method_33_code 32 = .ok (.bipush 32, 2) := by decide +kernel
theorem d_K_writeFile_34 : decode prog_1_method_33_code 34 = .ok (.if_icmp .lt 6, 3) := by decide +kernel
theorem d_K_writeFile_37 : decode prog_1_method_33_code 37 = .ok (.bipush (-2), 2) := by decide +kernel
theorem d_K_writeFile_39 : decode prog_1_method_33_code 39 = .ok (.ireturn, 1) := by decide +kernel
theorem d_K_writeFile_40 : decode prog_1_method_33_code 40 = .ok (.aload_n 0, 1) := by decide +kernel
theorem d_K_writeFile_41 : decode prog_1_method_33_code 41 = .ok (.getfield 21, 3) := by decide +kernel
theorem d_K_writeFile_44 : decode prog_1_method_33_code 44 = .ok (.aload_n 1, 1) := by decide +kernel
theorem d_K_writeFile_45 : decode prog_1_method_33_code 45 = .ok (.getfield 135, 3) := by decide +kernel
theorem d_K_writeFile_48 : decode prog_1_method_33_code 48 = .ok (.iload 4, 2) := by decide +kernel
theorem d_K_writeFile_50 : decode prog_1_method_33_code 50 = .ok (.bipush 8, 2) := by decide +kernel
theorem d_K_writeFile_52 : decode prog_1_method_33_code 52 = .ok (.idiv, 1) := by decide +kernel
theorem d_K_writeFile_53 : decode prog_1_method_33_code 53 = .ok (.invokevirtual 239, 3) := by decide +kernel
theorem d_K_writeFile_56 : decode prog_1_method_33_code 56 = .ok (.astore 5, 2) := by decide +kernel
theorem d_K_writeFile_58 : decode prog_1_method_33_code 58 = .ok (.aload 5, 2) := by decide +kernel
theorem d_K_writeFile_60 : decode prog_1_method_33_code 60 = .ok (.ifnonnull 6, 3) := by decide +kernel
theorem d_K_writeFile_63 : decode prog_1_method_33_code 63 = .ok (.bipush (-8), 2) := by decide +kernel
theorem d_K_writeFile_65 : decode prog_1_method_33_code 65 = .ok (.ireturn, 1) := by decide +kernel
theorem d_K_writeFile_66 : decode prog_1_method_33_code 66 = .ok (.aload 5, 2) := by decide +kernel
theorem d_K_writeFile_68 : decode prog_1_method_33_code 68 = .ok (.iconst 1, 1) := by decide +kernel
theorem d_K_writeFile_69 : decode prog_1_method_33_code 69 = .ok (.putfield 246, 3) := by decide +kernel
theorem d_K_writeFile_72 : decode prog_1_method_33_code 72 = .ok (.aload 5, 2) := by decide +kernel
theorem d_K_writeFile_74 : decode prog_1_method_33_code 74 = .ok (.getfield 243, 3) := by decide +kernel
theorem d_K_writeFile_77 : decode prog_1_method_33_code 77 = .ok (.iload 4, 2) := by decide +kernel
theorem d_K_writeFile_79 : decode prog_1_method_33_code 79 = .ok (.bipush 8, 2) := by decide +kernel
theorem d_K_writeFile_81 : decode prog_1_method_33_code 81 = .ok (.irem, 1) := by decide +kernel
theorem d_K_writeFile_82 : decode prog_1_method_33_code 82 = .ok (.iload_n 2, 1) := by decide +kernel
theorem d_K_writeFile_83 : decode prog_1_method_33_code 83 = .ok (.iastore, 1) := by decide +kernel
theorem d_K_writeFile_84 : decode prog_1_method_33_code 84 = .ok (.aload_n 0, 1) := by decide +kernel
theorem d_K_writeFile_85 : decode prog_1_method_33_code 85 = .ok (.getfield 21, 3) := by decide +kernel
theorem d_K_writeFile_88 : decode prog_1_method_33_code 88 = .ok (.aload_n 1, 1) := by decide +kernel
theorem d_K_writeFile_89 : decode prog_1_method_33_code 89 = .ok (.getfield 135, 3) := by decide +kernel
theorem d_K_writeFile_92 : decode prog_1_method_33_code 92 = .ok (.iload_n 3, 1) := by decide +kernel
theorem d_K_writeFile_93 : decode prog_1_method_33_code 93 = .ok (.iload 4, 2) := by decide +kernel
theorem d_K_writeFile_95 : decode prog_1_method_33_code 95 = .ok (.iconst 1, 1) := by decide +kernel
theorem d_K_writeFile_96 : decode prog_1_method_33_code 96 = .ok (.iadd, 1) := by decide +kernel
theorem d_K_writeFile_97 : decode prog_1_method_33_code 97 = .ok (.invokestatic 250, 3) := by decide +kernel
theorem d_K_writeFile_100 : decode prog_1_method_33_code 100 = .ok (.invokevirtual 68, 3) := by decide +kernel
theorem d_K_writeFile_103 : decode prog_1_method_33_code 103 = .ok (.aload_n 1, 1) := by decide +kernel
theorem d_K_writeFile_104 : decode prog_1_method_33_code 104 = .ok (.iload 4, 2) := by decide +kernel
theorem d_K_writeFile_106 : decode prog_1_method_33_code 106 = .ok (.iconst 1, 1) := by decide +kernel
theorem d_K_writeFile_107 : decode prog_1_method_33_code 107 = .ok (.iadd, 1) := by decide +kernel
theorem d_K_writeFile_108 : decode prog_1_method_33_code 108 = .ok (.putfield 142, 3) := by decide +kernel
theorem d_K_writeFile_111 : decode prog_1_method_33_code 111 = .ok (.iconst 1, 1) := by decide +kernel
theorem d_K_writeFile_112 : decode prog_1_method_33_code 112 = .ok (.ireturn, 1) := by decide +kernel
theorem d_K_seek_0 : decode prog_1_method_9_code 0 = .ok (.iload_n 3, 1) := by decide +kernel
theorem d_K_seek_1 : decode prog_1_method_9_code 1 = .ok (.bipush 33, 2) := by decide +kernel
theorem d_K_seek_3 : decode prog_1_method_9_code 3 = .ok (.invokestatic 53, 3) := by decide +kernel
theorem d_K_seek_6 : decode prog_1_method_9_code 6 = .ok (.ifCond .ne 5, 3) := by decide +kernel
theorem d_K_seek_9 : decode prog_1_method_9_code 9 = .ok (.iconst (-1), 1) := by decide +kernel
theorem d_K_seek_10 : decode prog_1_method_9_code 10 = .ok (.ireturn, 1) := by decide +kernel
theorem d_K_seek_11 : decode prog_1_method_9_code 11 = .ok (.aload_n 0, 1) := by decide +kernel
theorem d_K_seek_12 : decode prog_1_method_9_code 12 = .ok (.iload_n 1, 1) := by decide +kernel
theorem d_K_seek_13 : decode prog_1_method_9_code 13 = .ok (.iload_n 2, 1) := by decide +kernel
theorem d_K_seek_14 : decode prog_1_method_9_code 14 = .ok (.invokevirtual 105, 3) := by decide +kernel
theorem d_K_seek_17 : decode prog_1_method_9_code 17 = .ok (.astore 4, 2) := by decide +kernel
theorem d_K_seek_19 : decode prog_1_method_9_code 19 = .ok (.aload 4, 2) := by decide +kernel
theorem d_K_seek_21 : decode prog_1_method_9_code 21 = .ok (.ifnonnull 10, 3) := by decide +kernel
theorem d_K_seek_24 : decode prog_1_method_9_code 24 = .ok (.aload_n 0, 1) := by decide +kernel
theorem d_K_seek_25 : decode prog_1_method_9_code 25 = .ok (.iload_n 1, 1) := by decide +kernel
theorem d_K_seek_26 : decode prog_1_method_9_code 26 = .ok (.iload_n 2, 1) := by decide +kernel
theorem d_K_seek_27 : decode prog_1_method_9_code 27 = .ok (.invokevirtual 109, 3) := by decide +kernel
theorem d_K_seek_30 : decode prog_1_method_9_code 30 = .ok (.ireturn, 1) := by decide +kernel
theorem d_K_seek_31 : decode prog_1_method_9_code 31 = .ok (.aload 4, 2) := by decide +kernel
theorem d_K_seek_33 : decode prog_1_method_9_code 33 = .ok (.getfield 116, 3) := by decide +kernel
theorem d_K_seek_36 : decode prog_1_method_9_code 36 = .ok (.ifnull 6, 3) := by decide +kernel
theorem d_K_seek_39 : decode prog_1_method_9_code 39 = .ok (.bipush (-3), 2) := by decide +kernel
theorem d_K_seek_41 : decode prog_1_method_9_code 41 = .ok (.ireturn, 1) := by decide +kernel
theorem d_K_seek_42 : decode prog_1_method_9_code 42 = .ok (.iload_n 3, 1) := by decide +kernel
theorem d_K_seek_43 : decode prog_1_method_9_code 43 = .ok (.aload_n 0, 1) := by decide +kernel
theorem d_K_seek_44 : decode prog_1_method_9_code 44 = .ok (.getfield 21, 3) := by decide +kernel
theorem d_K_seek_47 : decode prog_1_method_9_code 47 = .ok (.aload 4, 2) := by decide +kernel
theorem d_K_seek_49 : decode prog_1_method_9_code 49 = .ok (.getfield 135, 3) := by decide +kernel
theorem d_K_seek_52 : decode prog_1_method_9_code 52 = .ok (.invokevirtual 139, 3) := by decide +kernel
theorem d_K_seek_55 : decode prog_1_method_9_code 55 = .ok (.if_icmp .le 5, 3) := by decide +kernel
theorem d_K_seek_58 : decode prog_1_method_9_code 58 = .ok (.iconst (-1), 1) := by decide +kernel
theorem d_K_seek_59 : decode prog_1_method_9_code 59 = .ok (.ireturn, 1) := by decide +kernel
theorem d_K_seek_60 : decode prog_1_method_9_code 60 = .ok (.aload 4, 2) := by decide +kernel
theorem d_K_seek_62 : decode prog_1_method_9_code 62 = .ok (.iload_n 3, 1) := by decide +kernel
theorem d_K_seek_63 : decode prog_1_method_9_code 63 = .ok (.putfield 142, 3) := by decide +kernel
theorem d_K_seek_66 : decode prog_1_method_9_code 66 = .ok (.iload_n 3, 1) := by decide +kernel
theorem d_K_seek_67 : decode prog_1_method_9_code 67 = .ok (.ireturn, 1) := by decide +kernel
theorem d_K_sync_0 : decode prog_1_method_10_code 0 = .ok (.aload_n 0, 1) := by decide +kernel
theorem d_K_sync_1 : decode prog_1_method_10_code 1 = .ok (.iload_n 1, 1) := by decide +kernel
theorem d_K_sync_2 : decode prog_1_method_10_code 2 = .ok (.iload_n 2, 1) := by decide +kernel
theorem d_K_sync_3 : decode prog_1_method_10_code 3 = .ok (.invokevirtual 105, 3) := by decide +kernel
theorem d_K_sync_6 : decode prog_1_method_10_code 6 = .ok (.astore_n 3, 1) := by decide +kernel
theorem d_K_sync_7 : decode prog_1_method_10_code 7 = .ok (.aload_n 3, 1) := by decide +kernel
theorem d_K_sync_8 : decode prog_1_method_10_code 8 = .ok (.ifnonnull 10, 3) := by decide +kernel
theorem d_K_sync_11 : decode prog_1_method_10_code 11 = .ok (.aload_n 0, 1) := by decide +kernel
theorem d_K_sync_12 : decode prog_1_method_10_code 12 = .ok (.iload_n 1, 1) := by decide +kernel
theorem d_K_sync_13 : decode prog_1_method_10_code 13 = .ok (.iload_n 2, 1) := by decide +kernel
theorem d_K_sync_14 : decode prog_1_method_10_code 14 = .ok (.invokevirtual 109, 3) := by decide +kernel
theorem d_K_sync_17 : decode prog_1_method_10_code 17 = .ok (.ireturn, 1) := by decide +kernel
theorem d_K_sync_18 : decode prog_1_method_10_code 18 = .ok (.aload_n 3, 1) := by decide +kernel
theorem d_K_sync_19 : decode prog_1_method_10_code 19 = .ok (.getfield 116, 3) := by decide +kernel
theorem d_K_sync_22 : decode prog_1_method_10_code 22 = .ok (.ifnull 6, 3) := by decide +kernel
theorem d_K_sync_25 : decode prog_1_method_10_code 25 = .ok (.bipush (-3), 2) := by decide +kernel
theorem d_K_sync_27 : decode prog_1_method_10_code 27 = .ok (.ireturn, 1) := by decide +kernel
theorem d_K_sync_28 : decode prog_1_method_10_code 28 = .ok (.aload_n 0, 1) := by decide +kernel
theorem d_K_sync_29 : decode prog_1_method_10_code 29 = .ok (.getfield 21, 3) := by decide +kernel
theorem d_K_sync_32 : decode prog_1_method_10_code 32 = .ok (.aload_n 3, 1) := by decide +kernel
theorem d_K_sync_33 : decode prog_1_method_10_code 33 = .ok (.getfield 135, 3) := by decide +kernel
theorem d_K_sync_36 : decode prog_1_method_10_code 36 = .ok (.invokevirtual 145, 3) := by decide +kernel
theorem d_K_sync_39 : decode prog_1_method_10_code 39 = .ok (.ireturn, 1) := by decide +kernel
theorem d_K_dup_0 : decode prog_1_method_11_code 0 = .ok (.aload_n 0, 1) := by decide +kernel
theorem d_K_dup_1 : decode prog_1_method_11_code 1 = .ok (.iload_n 1, 1) := by decide +kernel
theorem d_K_dup_2 : decode prog_1_method_11_code 2 = .ok (.iload_n 2, 1) := by decide +kernel
theorem d_K_dup_3 : decode prog_1_method_11_code 3 = .ok (.invokevirtual 105, 3) := by decide +kernel
theorem d_K_dup_6 : decode prog_1_method_11_code 6 = .ok (.astore_n 3, 1) := by decide +kernel
theorem d_K_dup_7 : decode prog_1_method_11_code 7 = .ok (.aload_n 3, 1) := by decide +kernel
theorem d_K_dup_8 : decode prog_1_method_11_code 8 = .ok (.ifnonnull 10, 3) := by decide +kernel
theorem d_K_dup_11 : decode prog_1_method_11_code 11 = .ok (.aload_n 0, 1) := by decide +kernel
theorem d_K_dup_12 : decode prog_1_method_11_code 12 = .ok (.iload_n 1, 1) := by decide +kernel
theorem d_K_dup_13 : decode prog_1_method_11_code 13 = .ok (.iload_n 2, 1) := by decide +kernel
theorem d_K_dup_14 : decode prog_1_method_11_code 14 = .ok (.invokevirtual 109, 3) := by decide +kernel
theorem d_K_dup_17 : decode prog_1_method_11_code 17 = .ok (.ireturn, 1) := by decide +kernel
theorem d_K_dup_18 : decode prog_1_method_11_code 18 = .ok (.aload_n 0, 1) := by decide +kernel
theorem d_K_dup_19 : decode prog_1_method_11_code 19 = .ok (.getfield 44, 3) := by decide +kernel
theorem d_K_dup_22 : decode prog_1_method_11_code 22 = .ok (.iload_n 1, 1) := by decide +kernel
theorem d_K_dup_23 : decode prog_1_method_11_code 23 = .ok (.aaload, 1) := by decide +kernel
theorem d_K_dup_24 : decode prog_1_method_11_code 24 = .ok (.iconst 0, 1) := by decide +kernel
theorem d_K_dup_25 : decode prog_1_method_11_code 25 = .ok (.invokevirtual 81, 3) := by decide +kernel
theorem d_K_dup_28 : decode prog_1_method_11_code 28 = .ok (.istore 4, 2) := by decide +kernel
theorem d_K_dup_30 : decode prog_1_method_11_code 30 = .ok (.iload 4, 2) := by decide +kernel
theorem d_K_dup_32 : decode prog_1_method_11_code 32 = .ok (.iconst (-1), 1) := by decide +kernel
theorem d_K_dup_33 : decode prog_1_method_11_code 33 = .ok (.if_icmp .ne 6, 3) := by decide +kernel
theorem d_K_dup_36 : decode prog_1_method_11_code 36 = .ok (.bipush (-2), 2) := by decide +kernel
theorem d_K_dup_38 : decode prog_1_method_11_code 38 = .ok (.ireturn, 1) := by decide +kernel
theorem d_K_dup_39 : decode prog_1_method_11_code 39 = .ok (.aload_n 0, 1) := by decide +kernel
theorem d_K_dup_40 : decode prog_1_method_11_code 40 = .ok (.getfield 44, 3) := by decide +kernel
theorem d_K_dup_43 : decode prog_1_method_11_code 43 = .ok (.iload_n 1, 1) := by decide +kernel
theorem d_K_dup_44 : decode prog_1_method_11_code 44 = .ok (.aaload, 1) := by decide +kernel
theorem d_K_dup_45 : decode prog_1_method_11_code 45 = .ok (.iload 4, 2) := by decide +kernel
theorem d_K_dup_47 : decode prog_1_method_11_code 47 = .ok (.aload_n 3, 1) := by decide +kernel
theorem d_K_dup_48 : decode prog_1_method_11_code 48 = .ok (.invokevirtual 94, 3) := by decide +kernel
theorem d_K_dup_51 : decode prog_1_method_11_code 51 = .ok (.iload 4, 2) := by decide +kernel
theorem d_K_dup_53 : decode prog_1_method_11_code 53 = .ok (.ireturn, 1) := by decide +kernel
theorem d_K_close_0 : decode prog_1_method_12_code 0 = .ok (.aload_n 0, 1) := by decide +kernel
theorem d_K_close_1 : decode prog_1_method_12_code 1 = .ok (.iload_n 1, 1) := by decide +kernel
theorem d_K_close_2 : decode prog_1_method_12_code 2 = .ok (.iload_n 2, 1) := by decide +kernel
theorem d_K_close_3 : decode prog_1_method_12_code 3 = .ok (.invokevirtual 105, 3) := by decide +kernel
theorem d_K_close_6 : decode prog_1_method_12_code 6 = .ok (.ifnonnull 10, 3) := by decide +kernel
theorem d_K_close_9 : decode prog_1_method_12_code 9 = .ok (.aload_n 0, 1) := by decide +kernel
theorem d_K_close_10 : decode prog_1_method_12_code 10 = .ok (.iload_n 1, 1) := by decide +kernel
theorem d_K_close_11 : decode prog_1_method_12_code 11 = .ok (.iload_n 2, 1) := by decide +kernel
theorem d_K_close_12 : decode prog_1_method_12_code 12 = .ok (.invokevirtual 109, 3) := by decide +kernel
