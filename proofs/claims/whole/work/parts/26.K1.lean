/-! decode rows, by program -/
theorem d_K_close_15 : decode prog_1_method_12_code 15 = .ok (.ireturn, 1) := by decide +kernel
theorem d_K_close_16 : decode prog_1_method_12_code 16 = .ok (.aload_n 0, 1) := by decide +kernel
theorem d_K_close_17 : decode prog_1_method_12_code 17 = .ok (.getfield 44, 3) := by decide +kernel
theorem d_K_close_20 : decode prog_1_method_12_code 20 = .ok (.iload_n 1, 1) := by decide +kernel
theorem d_K_close_21 : decode prog_1_method_12_code 21 = .ok (.aaload, 1) := by decide +kernel
theorem d_K_close_22 : decode prog_1_method_12_code 22 = .ok (.iload_n 2, 1) := by decide +kernel
theorem d_K_close_23 : decode prog_1_method_12_code 23 = .ok (.invokevirtual 148, 3) := by decide +kernel
theorem d_K_close_26 : decode prog_1_method_12_code 26 = .ok (.iconst 0, 1) := by decide +kernel
theorem d_K_close_27 : decode prog_1_method_12_code 27 = .ok (.ireturn, 1) := by decide +kernel
theorem d_K_unlink_0 : decode prog_1_method_13_code 0 = .ok (.aload_n 0, 1) := by decide +kernel
theorem d_K_unlink_1 : decode prog_1_method_13_code 1 = .ok (.iload_n 1, 1) := by decide +kernel
theorem d_K_unlink_2 : decode prog_1_method_13_code 2 = .ok (.invokevirtual 75, 3) := by decide +kernel
theorem d_K_unlink_5 : decode prog_1_method_13_code 5 = .ok (.ifCond .eq 12, 3) := by decide +kernel
theorem d_K_unlink_8 : decode prog_1_method_13_code 8 = .ok (.iload_n 2, 1) := by decide +kernel
theorem d_K_unlink_9 : decode prog_1_method_13_code 9 = .ok (.bipush 8, 2) := by decide +kernel
theorem d_K_unlink_11 : decode prog_1_method_13_code 11 = .ok (.invokestatic 53, 3) := by decide +kernel
theorem d_K_unlink_14 : decode prog_1_method_13_code 14 = .ok (.ifCond .ne 5, 3) := by decide +kernel
theorem d_K_unlink_17 : decode prog_1_method_13_code 17 = .ok (.iconst (-1), 1) := by decide +kernel
theorem d_K_unlink_18 : decode prog_1_method_13_code 18 = .ok (.ireturn, 1) := by decide +kernel
theorem d_K_unlink_19 : decode prog_1_method_13_code 19 = .ok (.aload_n 0, 1) := by decide +kernel
theorem d_K_unlink_20 : decode prog_1_method_13_code 20 = .ok (.getfield 25, 3) := by decide +kernel
theorem d_K_unlink_23 : decode prog_1_method_13_code 23 = .ok (.iload_n 2, 1) := by decide +kernel
theorem d_K_unlink_24 : decode prog_1_method_13_code 24 = .ok (.iaload, 1) := by decide +kernel
theorem d_K_unlink_25 : decode prog_1_method_13_code 25 = .ok (.ifCond .eq 14, 3) := by decide +kernel
theorem d_K_unlink_28 : decode prog_1_method_13_code 28 = .ok (.aload_n 0, 1) := by decide +kernel
theorem d_K_unlink_29 : decode prog_1_method_13_code 29 = .ok (.getfield 10, 3) := by decide +kernel
theorem d_K_unlink_32 : decode prog_1_method_13_code 32 = .ok (.iload_n 2, 1) := by decide +kernel
theorem d_K_unlink_33 : decode prog_1_method_13_code 33 = .ok (.invokevirtual 78, 3) := by decide +kernel
theorem d_K_unlink_36 : decode prog_1_method_13_code 36 = .ok (.ifCond .ne 6, 3) := by decide +kernel
theorem d_K_unlink_39 : decode prog_1_method_13_code 39 = .ok (.bipush (-4), 2) := by decide +kernel
theorem d_K_unlink_41 : decode prog_1_method_13_code 41 = .ok (.ireturn, 1) := by decide +kernel
theorem d_K_unlink_42 : decode prog_1_method_13_code 42 = .ok (.aload_n 0, 1) := by decide +kernel
theorem d_K_unlink_43 : decode prog_1_method_13_code 43 = .ok (.getfield 25, 3) := by decide +kernel
theorem d_K_unlink_46 : decode prog_1_method_13_code 46 = .ok (.iload_n 2, 1) := by decide +kernel
theorem d_K_unlink_47 : decode prog_1_method_13_code 47 = .ok (.iaload, 1) := by decide +kernel
theorem d_K_unlink_48 : decode prog_1_method_13_code 48 = .ok (.iconst 1, 1) := by decide +kernel
theorem d_K_unlink_49 : decode prog_1_method_13_code 49 = .ok (.if_icmp .ne 6, 3) := by decide +kernel
theorem d_K_unlink_52 : decode prog_1_method_13_code 52 = .ok (.bipush (-5), 2) := by decide +kernel
theorem d_K_unlink_54 : decode prog_1_method_13_code 54 = .ok (.ireturn, 1) := by decide +kernel
theorem d_K_unlink_55 : decode prog_1_method_13_code 55 = .ok (.aload_n 0, 1) := by decide +kernel
theorem d_K_unlink_56 : decode prog_1_method_13_code 56 = .ok (.iload_n 2, 1) := by decide +kernel
theorem d_K_unlink_57 : decode prog_1_method_13_code 57 = .ok (.invokevirtual 57, 3) := by decide +kernel
theorem d_K_unlink_60 : decode prog_1_method_13_code 60 = .ok (.ifCond .eq 6, 3) := by decide +kernel
theorem d_K_unlink_63 : decode prog_1_method_13_code 63 = .ok (.bipush (-9), 2) := by decide +kernel
theorem d_K_unlink_65 : decode prog_1_method_13_code 65 = .ok (.ireturn, 1) := by decide +kernel
theorem d_K_unlink_66 : decode prog_1_method_13_code 66 = .ok (.aload_n 0, 1) := by decide +kernel
theorem d_K_unlink_67 : decode prog_1_method_13_code 67 = .ok (.getfield 10, 3) := by decide +kernel
theorem d_K_unlink_70 : decode prog_1_method_13_code 70 = .ok (.iload_n 2, 1) := by decide +kernel
theorem d_K_unlink_71 : decode prog_1_method_13_code 71 = .ok (.invokevirtual 151, 3) := by decide +kernel
theorem d_K_unlink_74 : decode prog_1_method_13_code 74 = .ok (.ifCond .ne 6, 3) := by decide +kernel
theorem d_K_unlink_77 : decode prog_1_method_13_code 77 = .ok (.bipush (-8), 2) := by decide +kernel
theorem d_K_unlink_79 : decode prog_1_method_13_code 79 = .ok (.ireturn, 1) := by decide +kernel
theorem d_K_unlink_80 : decode prog_1_method_13_code 80 = .ok (.aload_n 0, 1) := by decide +kernel
theorem d_K_unlink_81 : decode prog_1_method_13_code 81 = .ok (.getfield 21, 3) := by decide +kernel
theorem d_K_unlink_84 : decode prog_1_method_13_code 84 = .ok (.iload_n 2, 1) := by decide +kernel
theorem d_K_unlink_85 : decode prog_1_method_13_code 85 = .ok (.invokevirtual 154, 3) := by decide +kernel
theorem d_K_unlink_88 : decode prog_1_method_13_code 88 = .ok (.iconst 0, 1) := by decide +kernel
theorem d_K_unlink_89 : decode prog_1_method_13_code 89 = .ok (.ireturn, 1) := by decide +kernel
theorem d_K_fork_0 : decode prog_1_method_14_code 0 = .ok (.aload_n 0, 1) := by decide +kernel
theorem d_K_fork_1 : decode prog_1_method_14_code 1 = .ok (.iload_n 1, 1) := by decide +kernel
theorem d_K_fork_2 : decode prog_1_method_14_code 2 = .ok (.invokevirtual 75, 3) := by decide +kernel
theorem d_K_fork_5 : decode prog_1_method_14_code 5 = .ok (.ifCond .ne 5, 3) := by decide +kernel
theorem d_K_fork_8 : decode prog_1_method_14_code 8 = .ok (.iconst (-1), 1) := by decide +kernel
theorem d_K_fork_9 : decode prog_1_method_14_code 9 = .ok (.ireturn, 1) := by decide +kernel
theorem d_K_fork_10 : decode prog_1_method_14_code 10 = .ok (.aload_n 0, 1) := by decide +kernel
theorem d_K_fork_11 : decode prog_1_method_14_code 11 = .ok (.invokevirtual 157, 3) := by decide +kernel
theorem d_K_fork_14 : decode prog_1_method_14_code 14 = .ok (.istore_n 2, 1) := by decide +kernel
theorem d_K_fork_15 : decode prog_1_method_14_code 15 = .ok (.iload_n 2, 1) := by decide +kernel
theorem d_K_fork_16 : decode prog_1_method_14_code 16 = .ok (.iconst (-1), 1) := by decide +kernel
theorem d_K_fork_17 : decode prog_1_method_14_code 17 = .ok (.if_icmp .ne 6, 3) := by decide +kernel
theorem d_K_fork_20 : decode prog_1_method_14_code 20 = .ok (.bipush (-2), 2) := by decide +kernel
theorem d_K_fork_22 : decode prog_1_method_14_code 22 = .ok (.ireturn, 1) := by decide +kernel
theorem d_K_fork_23 : decode prog_1_method_14_code 23 = .ok (.aload_n 0, 1) := by decide +kernel
theorem d_K_fork_24 : decode prog_1_method_14_code 24 = .ok (.getfield 44, 3) := by decide +kernel
theorem d_K_fork_27 : decode prog_1_method_14_code 27 = .ok (.iload_n 2, 1) := by decide +kernel
theorem d_K_fork_28 : decode prog_1_method_14_code 28 = .ok (.aaload, 1) := by decide +kernel
theorem d_K_fork_29 : decode prog_1_method_14_code 29 = .ok (.iload_n 1, 1) := by decide +kernel
theorem d_K_fork_30 : decode prog_1_method_14_code 30 = .ok (.invokevirtual 49, 3) := by decide +kernel
theorem d_K_fork_33 : decode prog_1_method_14_code 33 = .ok (.aload_n 0, 1) := by decide +kernel
theorem d_K_fork_34 : decode prog_1_method_14_code 34 = .ok (.getfield 44, 3) := by decide +kernel
theorem d_K_fork_37 : decode prog_1_method_14_code 37 = .ok (.iload_n 2, 1) := by decide +kernel
theorem d_K_fork_38 : decode prog_1_method_14_code 38 = .ok (.aaload, 1) := by decide +kernel
theorem d_K_fork_39 : decode prog_1_method_14_code 39 = .ok (.aload_n 0, 1) := by decide +kernel
theorem d_K_fork_40 : decode prog_1_method_14_code 40 = .ok (.getfield 44, 3) := by decide +kernel
theorem d_K_fork_43 : decode prog_1_method_14_code 43 = .ok (.iload_n 1, 1) := by decide +kernel
theorem d_K_fork_44 : decode prog_1_method_14_code 44 = .ok (.aaload, 1) := by decide +kernel
theorem d_K_fork_45 : decode prog_1_method_14_code 45 = .ok (.invokevirtual 160, 3) := by decide +kernel
theorem d_K_fork_48 : decode prog_1_method_14_code 48 = .ok (.iload_n 2, 1) := by decide +kernel
theorem d_K_fork_49 : decode prog_1_method_14_code 49 = .ok (.ireturn, 1) := by decide +kernel
theorem d_K_leastNotThere_0 : decode prog_1_method_29_code 0 = .ok (.iconst 1, 1) := by decide +kernel
theorem d_K_leastNotThere_1 : decode prog_1_method_29_code 1 = .ok (.istore_n 1, 1) := by decide +kernel
theorem d_K_leastNotThere_2 : decode prog_1_method_29_code 2 = .ok (.iload_n 1, 1) := by decide +kernel
theorem d_K_leastNotThere_3 : decode prog_1_method_29_code 3 = .ok (.bipush 6, 2) := by decide +kernel
theorem d_K_leastNotThere_5 : decode prog_1_method_29_code 5 = .ok (.if_icmp .gt 23, 3) := by decide +kernel
theorem d_K_leastNotThere_8 : decode prog_1_method_29_code 8 = .ok (.aload_n 0, 1) := by decide +kernel
theorem d_K_leastNotThere_9 : decode prog_1_method_29_code 9 = .ok (.getfield 44, 3) := by decide +kernel
theorem d_K_leastNotThere_12 : decode prog_1_method_29_code 12 = .ok (.iload_n 1, 1) := by decide +kernel
theorem d_K_leastNotThere_13 : decode prog_1_method_29_code 13 = .ok (.aaload, 1) := by decide +kernel
theorem d_K_leastNotThere_14 : decode prog_1_method_29_code 14 = .ok (.getfield 173, 3) := by decide +kernel
theorem d_K_leastNotThere_17 : decode prog_1_method_29_code 17 = .ok (.ifCond .ne 5, 3) := by decide +kernel
theorem d_K_leastNotThere_20 : decode prog_1_method_29_code 20 = .ok (.iload_n 1, 1) := by decide +kernel
theorem d_K_leastNotThere_21 : decode prog_1_method_29_code 21 = .ok (.ireturn, 1) := by decide +kernel
theorem d_K_leastNotThere_22 : decode prog_1_method_29_code 22 = .ok (.iinc 1 1, 3) := by decide +kernel
theorem d_K_leastNotThere_25 : decode prog_1_method_29_code 25 = .ok (.goto (-23), 3) := by decide +kernel
theorem d_K_leastNotThere_28 : decode prog_1_method_29_code 28 = .ok (.iconst (-1), 1) := by decide +kernel
theorem d_K_leastNotThere_29 : decode prog_1_method_29_code 29 = .ok (.ireturn, 1) := by decide +kernel
theorem d_K_exit_0 : decode prog_1_method_15_code 0 = .ok (.aload_n 0, 1) := by decide +kernel
theorem d_K_exit_1 : decode prog_1_method_15_code 1 = .ok (.iload_n 1, 1) := by decide +kernel
theorem d_K_exit_2 : decode prog_1_method_15_code 2 = .ok (.invokevirtual 75, 3) := by decide +kernel
theorem d_K_exit_5 : decode prog_1_method_15_code 5 = .ok (.ifCond .eq 17, 3) := by decide +kernel
theorem d_K_exit_8 : decode prog_1_method_15_code 8 = .ok (.iload_n 1, 1) := by decide +kernel
theorem d_K_exit_9 : decode prog_1_method_15_code 9 = .ok (.iconst 1, 1) := by decide +kernel
theorem d_K_exit_10 : decode prog_1_method_15_code 10 = .ok (.if_icmp .eq 12, 3) := by decide +kernel
theorem d_K_exit_13 : decode prog_1_method_15_code 13 = .ok (.iload_n 2, 1) := by decide +kernel
theorem d_K_exit_14 : decode prog_1_method_15_code 14 = .ok (.bipush 100, 2) := by decide +kernel
theorem d_K_exit_16 : decode prog_1_method_15_code 16 = .ok (.invokestatic 53, 3) := by decide +kernel
theorem d_K_exit_19 : decode prog_1_method_15_code 19 = .ok (.ifCond .ne 5, 3) := by decide +kernel
theorem d_K_exit_22 : decode prog_1_method_15_code 22 = .ok (.iconst (-1), 1) := by decide +kernel
theorem d_K_exit_23 : decode prog_1_method_15_code 23 = .ok (.ireturn, 1) := by decide +kernel
theorem d_K_exit_24 : decode prog_1_method_15_code 24 = .ok (.aload_n 0, 1) := by decide +kernel
theorem d_K_exit_25 : decode prog_1_method_15_code 25 = .ok (.getfield 44, 3) := by decide +kernel
theorem d_K_exit_28 : decode prog_1_method_15_code 28 = .ok (.iload_n 1, 1) := by decide +kernel
theorem d_K_exit_29 : decode prog_1_method_15_code 29 = .ok (.aaload, 1) := by decide +kernel
theorem d_K_exit_30 : decode prog_1_method_15_code 30 = .ok (.iload_n 2, 1) := by decide +kernel
theorem d_K_exit_31 : decode prog_1_method_15_code 31 = .ok (.invokevirtual 164, 3) := by decide +kernel
theorem d_K_exit_34 : decode prog_1_method_15_code 34 = .ok (.iconst 1, 1) := by decide +kernel
theorem d_K_exit_35 : decode prog_1_method_15_code 35 = .ok (.istore_n 3, 1) := by decide +kernel
theorem d_K_exit_36 : decode prog_1_method_15_code 36 = .ok (.iload_n 3, 1) := by decide +kernel
theorem d_K_exit_37 : decode prog_1_method_15_code 37 = .ok (.bipush 6, 2) := by decide +kernel
theorem d_K_exit_39 : decode prog_1_method_15_code 39 = .ok (.if_icmp .gt 32, 3) := by decide +kernel
theorem d_K_exit_42 : decode prog_1_method_15_code 42 = .ok (.aload_n 0, 1) := by decide +kernel
theorem d_K_exit_43 : decode prog_1_method_15_code 43 = .ok (.getfield 44, 3) := by decide +kernel
theorem d_K_exit_46 : decode prog_1_method_15_code 46 = .ok (.iload_n 3, 1) := by decide +kernel
theorem d_K_exit_47 : decode prog_1_method_15_code 47 = .ok (.aaload, 1) := by decide +kernel
theorem d_K_exit_48 : decode prog_1_method_15_code 48 = .ok (.iload_n 1, 1) := by decide +kernel
theorem d_K_exit_49 : decode prog_1_method_15_code 49 = .ok (.invokevirtual 167, 3) := by decide +kernel
theorem d_K_exit_52 : decode prog_1_method_15_code 52 = .ok (.ifCond .eq 13, 3) := by decide +kernel
theorem d_K_exit_55 : decode prog_1_method_15_code 55 = .ok (.aload_n 0, 1) := by decide +kernel
theorem d_K_exit_56 : decode prog_1_method_15_code 56 = .ok (.getfield 44, 3) := by decide +kernel
theorem d_K_exit_59 : decode prog_1_method_15_code 59 = .ok (.iload_n 3, 1) := by decide +kernel
theorem d_K_exit_60 : decode prog_1_method_15_code 60 = .ok (.aaload, 1) := by decide +kernel
theorem d_K_exit_61 : decode prog_1_method_15_code 61 = .ok (.iconst 1, 1) := by decide +kernel
theorem d_K_exit_62 : decode prog_1_method_15_code 62 = .ok (.putfield 170, 3) := by decide +kernel
theorem d_K_exit_65 : decode prog_1_method_15_code 65 = .ok (.iinc 3 1, 3) := by decide +kernel
theorem d_K_exit_68 : decode prog_1_method_15_code 68 = .ok (.goto (-32), 3) := by decide +kernel
theorem d_K_exit_71 : decode prog_1_method_15_code 71 = .ok (.iconst 0, 1) := by decide +kernel
theorem d_K_exit_72 : decode prog_1_method_15_code 72 = .ok (.ireturn, 1) := by decide +kernel
theorem d_K_wait_0 : decode prog_1_method_16_code 0 = .ok (.aload_n 0, 1) := by decide +kernel
theorem d_K_wait_1 : decode prog_1_method_16_code 1 = .ok (.iload_n 1, 1) := by decide +kernel
theorem d_K_wait_2 : decode prog_1_method_16_code 2 = .ok (.invokevirtual 75, 3) := by decide +kernel
theorem d_K_wait_5 : decode prog_1_method_16_code 5 = .ok (.ifCond .ne 5, 3) := by decide +kernel
theorem d_K_wait_8 : decode prog_1_method_16_code 8 = .ok (.iconst (-1), 1) := by decide +kernel
theorem d_K_wait_9 : decode prog_1_method_16_code 9 = .ok (.ireturn, 1) := by decide +kernel
theorem d_K_wait_10 : decode prog_1_method_16_code 10 = .ok (.iconst 0, 1) := by decide +kernel
theorem d_K_wait_11 : decode prog_1_method_16_code 11 = .ok (.istore_n 2, 1) := by decide +kernel
theorem d_K_wait_12 : decode prog_1_method_16_code 12 = .ok (.iconst 1, 1) := by decide +kernel
theorem d_K_wait_13 : decode prog_1_method_16_code 13 = .ok (.istore_n 3, 1) := by decide +kernel
theorem d_K_wait_14 : decode prog_1_method_16_code 14 = .ok (.iload_n 3, 1) := by decide +kernel
theorem d_K_wait_15 : decode prog_1_method_16_code 15 = .ok (.bipush 6, 2) := by decide +kernel
theorem d_K_wait_17 : decode prog_1_method_16_code 17 = .ok (.if_icmp .gt 53, 3) := by decide +kernel
theorem d_K_wait_20 : decode prog_1_method_16_code 20 = .ok (.aload_n 0, 1) := by decide +kernel
theorem d_K_wait_21 : decode prog_1_method_16_code 21 = .ok (.getfield 44, 3) := by decide +kernel
theorem d_K_wait_24 : decode prog_1_method_16_code 24 = .ok (.iload_n 3, 1) := by decide +kernel
theorem d_K_wait_25 : decode prog_1_method_16_code 25 = .ok (.aaload, 1) := by decide +kernel
theorem d_K_wait_26 : decode prog_1_method_16_code 26 = .ok (.astore 4, 2) := by decide +kernel
theorem d_K_wait_28 : decode prog_1_method_16_code 28 = .ok (.aload 4, 2) := by decide +kernel
theorem d_K_wait_30 : decode prog_1_method_16_code 30 = .ok (.iload_n 1, 1) := by decide +kernel
theorem d_K_wait_31 : decode prog_1_method_16_code 31 = .ok (.invokevirtual 167, 3) := by decide +kernel
theorem d_K_wait_34 : decode prog_1_method_16_code 34 = .ok (.ifCond .eq 30, 3) := by decide +kernel
theorem d_K_wait_37 : decode prog_1_method_16_code 37 = .ok (.aload 4, 2) := by decide +kernel
theorem d_K_wait_39 : decode prog_1_method_16_code 39 = .ok (.getfield 173, 3) := by decide +kernel
theorem d_K_wait_42 : decode prog_1_method_16_code 42 = .ok (.iconst 2, 1) := by decide +kernel
theorem d_K_wait_43 : decode prog_1_method_16_code 43 = .ok (.if_icmp .ne 19, 3) := by decide +kernel
theorem d_K_wait_46 : decode prog_1_method_16_code 46 = .ok (.aload 4, 2) := by decide +kernel
theorem d_K_wait_48 : decode prog_1_method_16_code 48 = .ok (.invokevirtual 176, 3) := by decide +kernel
theorem d_K_wait_51 : decode prog_1_method_16_code 51 = .ok (.iload_n 3, 1) := by decide +kernel
theorem d_K_wait_52 : decode prog_1_method_16_code 52 = .ok (.bipush 8, 2) := by decide +kernel
theorem d_K_wait_54 : decode prog_1_method_16_code 54 = .ok (.aload 4, 2) := by decide +kernel
theorem d_K_wait_56 : decode prog_1_method_16_code 56 = .ok (.getfield 179, 3) := by decide +kernel
theorem d_K_wait_59 : decode prog_1_method_16_code 59 = .ok (.imul, 1) := by decide +kernel
theorem d_K_wait_60 : decode prog_1_method_16_code 60 = .ok (.iadd, 1) := by decide +kernel
theorem d_K_wait_61 : decode prog_1_method_16_code 61 = .ok (.ireturn, 1) := by decide +kernel
theorem d_K_wait_62 : decode prog_1_method_16_code 62 = .ok (.iconst 1, 1) := by decide +kernel
theorem d_K_wait_63 : decode prog_1_method_16_code 63 = .ok (.istore_n 2, 1) := by decide +kernel
theorem d_K_wait_64 : decode prog_1_method_16_code 64 = .ok (.iinc 3 1, 3) := by decide +kernel
theorem d_K_wait_67 : decode prog_1_method_16_code 67 = .ok (.goto (-53), 3) := by decide +kernel
theorem d_K_wait_70 : decode prog_1_method_16_code 70 = .ok (.iload_n 2, 1) := by decide +kernel
theorem d_K_wait_71 : decode prog_1_method_16_code 71 = .ok (.ifCond .eq 8, 3) := by decide +kernel
theorem d_K_wait_74 : decode prog_1_method_16_code 74 = .ok (.bipush (-6), 2) := by decide +kernel
theorem d_K_wait_76 : decode prog_1_method_16_code 76 = .ok (.goto 5, 3) := by decide +kernel
theorem d_K_wait_79 : decode prog_1_method_16_code 79 = .ok (.bipush (-9), 2) := by decide +kernel
theorem d_K_wait_81 : decode prog_1_method_16_code 81 = .ok (.ireturn, 1) := by decide +kernel
theorem d_K_crash_0 : decode prog_1_method_17_code 0 = .ok (.iconst 1, 1) := by decide +kernel
theorem d_K_crash_1 : decode prog_1_method_17_code 1 = .ok (.istore_n 1, 1) := by decide +kernel
theorem d_K_crash_2 : decode prog_1_method_17_code 2 = .ok (.iload_n 1, 1) := by decide +kernel
theorem d_K_crash_3 : decode prog_1_method_17_code 3 = .ok (.bipush 6, 2) := by decide +kernel
theorem d_K_crash_5 : decode prog_1_method_17_code 5 = .ok (.if_icmp .gt 18, 3) := by decide +kernel
theorem d_K_crash_8 : decode prog_1_method_17_code 8 = .ok (.aload_n 0, 1) := by decide +kernel
theorem d_K_crash_9 : decode prog_1_method_17_code 9 = .ok (.getfield 44, 3) := by decide +kernel
theorem d_K_crash_12 : decode prog_1_method_17_code 12 = .ok (.iload_n 1, 1) := by decide +kernel
theorem d_K_crash_13 : decode prog_1_method_17_code 13 = .ok (.aaload, 1) := by decide +kernel
theorem d_K_crash_14 : decode prog_1_method_17_code 14 = .ok (.invokevirtual 176, 3) := by decide +kernel
theorem d_K_crash_17 : decode prog_1_method_17_code 17 = .ok (.iinc 1 1, 3) := by decide +kernel
theorem d_K_crash_20 : decode prog_1_method_17_code 20 = .ok (.goto (-18), 3) := by decide +kernel
theorem d_K_crash_23 : decode prog_1_method_17_code 23 = .ok (.aload_n 0, 1) := by decide +kernel
theorem d_K_crash_24 : decode prog_1_method_17_code 24 = .ok (.getfield 44, 3) := by decide +kernel
theorem d_K_crash_27 : decode prog_1_method_17_code 27 = .ok (.iconst 1, 1) := by decide +kernel
theorem d_K_crash_28 : decode prog_1_method_17_code 28 = .ok (.aaload, 1) := by decide +kernel
theorem d_K_crash_29 : decode prog_1_method_17_code 29 = .ok (.iconst (-1), 1) := by decide +kernel
theorem d_K_crash_30 : decode prog_1_method_17_code 30 = .ok (.invokevirtual 49, 3) := by decide +kernel
theorem d_K_crash_33 : decode prog_1_method_17_code 33 = .ok (.aload_n 0, 1) := by decide +kernel
theorem d_K_crash_34 : decode prog_1_method_17_code 34 = .ok (.getfield 21, 3) := by decide +kernel
theorem d_K_crash_37 : decode prog_1_method_17_code 37 = .ok (.invokevirtual 182, 3) := by decide +kernel
theorem d_K_crash_40 : decode prog_1_method_17_code 40 = .ok (.iconst 0, 1) := by decide +kernel
theorem d_K_crash_41 : decode prog_1_method_17_code 41 = .ok (.ireturn, 1) := by decide +kernel
theorem d_K_host_0 : decode prog_1_method_18_code 0 = .ok (.iload_n 1, 1) := by decide +kernel
theorem d_K_host_1 : decode prog_1_method_18_code 1 = .ok (.bipush 8, 2) := by decide +kernel
theorem d_K_host_3 : decode prog_1_method_18_code 3 = .ok (.invokestatic 53, 3) := by decide +kernel
theorem d_K_host_6 : decode prog_1_method_18_code 6 = .ok (.ifCond .ne 5, 3) := by decide +kernel
theorem d_K_host_9 : decode prog_1_method_18_code 9 = .ok (.iconst (-1), 1) := by decide +kernel
theorem d_K_host_10 : decode prog_1_method_18_code 10 = .ok (.ireturn, 1) := by decide +kernel
theorem d_K_host_11 : decode prog_1_method_18_code 11 = .ok (.aload_n 0, 1) := by decide +kernel
theorem d_K_host_12 : decode prog_1_method_18_code 12 = .ok (.getfield 10, 3) := by decide +kernel
theorem d_K_host_15 : decode prog_1_method_18_code 15 = .ok (.iload_n 1, 1) := by decide +kernel
theorem d_K_host_16 : decode prog_1_method_18_code 16 = .ok (.invokevirtual 78, 3) := by decide +kernel
theorem d_K_host_19 : decode prog_1_method_18_code 19 = .ok (.ifCond .ne 6, 3) := by decide +kernel
theorem d_K_host_22 : decode prog_1_method_18_code 22 = .ok (.bipush (-4), 2) := by decide +kernel
theorem d_K_host_24 : decode prog_1_method_18_code 24 = .ok (.ireturn, 1) := by decide +kernel
theorem d_K_host_25 : decode prog_1_method_18_code 25 = .ok (.iload_n 2, 1) := by decide +kernel
theorem d_K_host_26 : decode prog_1_method_18_code 26 = .ok (.aload_n 0, 1) := by decide +kernel
theorem d_K_host_27 : decode prog_1_method_18_code 27 = .ok (.getfield 10, 3) := by decide +kernel
theorem d_K_host_30 : decode prog_1_method_18_code 30 = .ok (.iload_n 1, 1) := by decide +kernel
theorem d_K_host_31 : decode prog_1_method_18_code 31 = .ok (.invokevirtual 185, 3) := by decide +kernel
theorem d_K_host_34 : decode prog_1_method_18_code 34 = .ok (.invokestatic 53, 3) := by decide +kernel
theorem d_K_host_37 : decode prog_1_method_18_code 37 = .ok (.ifCond .eq 15, 3) := by decide +kernel
theorem d_K_host_40 : decode prog_1_method_18_code 40 = .ok (.aload_n 0, 1) := by decide +kernel
theorem d_K_host_41 : decode prog_1_method_18_code 41 = .ok (.getfield 10, 3) := by decide +kernel
theorem d_K_host_44 : decode prog_1_method_18_code 44 = .ok (.iload_n 1, 1) := by decide +kernel
theorem d_K_host_45 : decode prog_1_method_18_code 45 = .ok (.iload_n 2, 1) := by decide +kernel
theorem d_K_host_46 : decode prog_1_method_18_code 46 = .ok (.invokevirtual 186, 3) := by decide +kernel
theorem d_K_host_49 : decode prog_1_method_18_code 49 = .ok (.goto 5, 3) := by decide +kernel
theorem d_K_host_52 : decode prog_1_method_18_code 52 = .ok (.bipush (-7), 2) := by decide +kernel
theorem d_K_host_54 : decode prog_1_method_18_code 54 = .ok (.ireturn, 1) := by decide +kernel
theorem d_K_log_0 : decode prog_1_method_19_code 0 = .ok (.iload_n 1, 1) := by decide +kernel
theorem d_K_log_1 : decode prog_1_method_19_code 1 = .ok (.aload_n 0, 1) := by decide +kernel
theorem d_K_log_2 : decode prog_1_method_19_code 2 = .ok (.getfield 10, 3) := by decide +kernel
theorem d_K_log_5 : decode prog_1_method_19_code 5 = .ok (.invokevirtual 189, 3) := by decide +kernel
theorem d_K_log_8 : decode prog_1_method_19_code 8 = .ok (.bipush 16, 2) := by decide +kernel
theorem d_K_log_10 : decode prog_1_method_19_code 10 = .ok (.invokestatic 192, 3) := by decide +kernel
theorem d_K_log_13 : decode prog_1_method_19_code 13 = .ok (.invokestatic 53, 3) := by decide +kernel
theorem d_K_log_16 : decode prog_1_method_19_code 16 = .ok (.ifCond .eq 14, 3) := by decide +kernel
theorem d_K_log_19 : decode prog_1_method_19_code 19 = .ok (.aload_n 0, 1) := by decide +kernel
theorem d_K_log_20 : decode prog_1_method_19_code 20 = .ok (.getfield 10, 3) := by decide +kernel
theorem d_K_log_23 : decode prog_1_method_19_code 23 = .ok (.iload_n 1, 1) := by decide +kernel
theorem d_K_log_24 : decode prog_1_method_19_code 24 = .ok (.invokevirtual 197, 3) := by decide +kernel
theorem d_K_log_27 : decode prog_1_method_19_code 27 = .ok (.goto 4, 3) := by decide +kernel
theorem d_K_log_30 : decode prog_1_method_19_code 30 = .ok (.iconst (-1), 1) := by decide +kernel
theorem d_K_log_31 : decode prog_1_method_19_code 31 = .ok (.ireturn, 1) := by decide +kernel
theorem d_K_cached_0 : decode prog_1_method_20_code 0 = .ok (.iload_n 1, 1) := by decide +kernel
theorem d_K_cached_1 : decode prog_1_method_20_code 1 = .ok (.aload_n 0, 1) := by decide +kernel
theorem d_K_cached_2 : decode prog_1_method_20_code 2 = .ok (.getfield 21, 3) := by decide +kernel
theorem d_K_cached_5 : decode prog_1_method_20_code 5 = .ok (.invokevirtual 200, 3) := by decide +kernel
theorem d_K_cached_8 : decode prog_1_method_20_code 8 = .ok (.invokestatic 53, 3) := by decide +kernel
theorem d_K_cached_11 : decode prog_1_method_20_code 11 = .ok (.ifCond .eq 17, 3) := by decide +kernel
theorem d_K_cached_14 : decode prog_1_method_20_code 14 = .ok (.aload_n 0, 1) := by decide +kernel
theorem d_K_cached_15 : decode prog_1_method_20_code 15 = .ok (.getfield 21, 3) := by decide +kernel
theorem d_K_cached_18 : decode prog_1_method_20_code 18 = .ok (.iload_n 1, 1) := by decide +kernel
theorem d_K_cached_19 : decode prog_1_method_20_code 19 = .ok (.invokevirtual 203, 3) := by decide +kernel
theorem d_K_cached_22 : decode prog_1_method_20_code 22 = .ok (.invokevirtual 207, 3) := by decide +kernel
theorem d_K_cached_25 : decode prog_1_method_20_code 25 = .ok (.goto 4, 3) := by decide +kernel
theorem d_K_cached_28 : decode prog_1_method_20_code 28 = .ok (.iconst (-1), 1) := by decide +kernel
theorem d_K_cached_29 : decode prog_1_method_20_code 29 = .ok (.ireturn, 1) := by decide +kernel
theorem d_K_count_0 : decode prog_1_method_21_code 0 = .ok (.iload_n 1, 1) := by decide +kernel
theorem d_K_count_1 : decode prog_1_method_21_code 1 = .ok (.tableswitch 69 0 4 #[35, 43, 48, 53, 61], 35) := by decide +kernel
theorem d_K_count_36 : decode prog_1_method_21_code 36 = .ok (.aload_n 0, 1) := by decide +kernel
theorem d_K_count_37 : decode prog_1_method_21_code 37 = .ok (.getfield 10, 3) := by decide +kernel
theorem d_K_count_40 : decode prog_1_method_21_code 40 = .ok (.invokevirtual 189, 3) := by decide +kernel
theorem d_K_count_43 : decode prog_1_method_21_code 43 = .ok (.ireturn, 1) := by decide +kernel
theorem d_K_count_44 : decode prog_1_method_21_code 44 = .ok (.aload_n 0, 1) := by decide +kernel
theorem d_K_count_45 : decode prog_1_method_21_code 45 = .ok (.invokevirtual 212, 3) := by decide +kernel
theorem d_K_count_48 : decode prog_1_method_21_code 48 = .ok (.ireturn, 1) := by decide +kernel
theorem d_K_count_49 : decode prog_1_method_21_code 49 = .ok (.aload_n 0, 1) := by decide +kernel
theorem d_K_count_50 : decode prog_1_method_21_code 50 = .ok (.invokevirtual 215, 3) := by decide +kernel
theorem d_K_count_53 : decode prog_1_method_21_code 53 = .ok (.ireturn, 1) := by decide +kernel
theorem d_K_count_54 : decode prog_1_method_21_code 54 = .ok (.aload_n 0, 1) := by decide +kernel
theorem d_K_count_55 : decode prog_1_method_21_code 55 = .ok (.getfield 21, 3) := by decide +kernel
theorem d_K_count_58 : decode prog_1_method_21_code 58 = .ok (.invokevirtual 218, 3) := by decide +kernel
theorem d_K_count_61 : decode prog_1_method_21_code 61 = .ok (.ireturn, 1) := by decide +kernel
theorem d_K_count_62 : decode prog_1_method_21_code 62 = .ok (.aload_n 0, 1) := by decide +kernel
theorem d_K_count_63 : decode prog_1_method_21_code 63 = .ok (.getfield 10, 3) := by decide +kernel
theorem d_K_count_66 : decode prog_1_method_21_code 66 = .ok (.invokevirtual 221, 3) := by decide +kernel
theorem d_K_count_69 : decode prog_1_method_21_code 69 = .ok (.ireturn, 1) := by decide +kernel
theorem d_K_count_70 : decode prog_1_method_21_code 70 = .ok (.iconst (-1), 1) := by decide +kernel
theorem d_K_count_71 : decode prog_1_method_21_code 71 = .ok (.ireturn, 1) := by decide +kernel
theorem d_K_openingsThere_0 : decode prog_1_method_28_code 0 = .ok (.iconst 0, 1) := by decide +kernel
theorem d_K_openingsThere_1 : decode prog_1_method_28_code 1 = .ok (.istore_n 1, 1) := by decide +kernel
theorem d_K_openingsThere_2 : decode prog_1_method_28_code 2 = .ok (.iconst 0, 1) := by decide +kernel
theorem d_K_openingsThere_3 : decode prog_1_method_28_code 3 = .ok (.istore_n 2, 1) := by decide +kernel
theorem d_K_openingsThere_4 : decode prog_1_method_28_code 4 = .ok (.iload_n 2, 1) := by decide +kernel
theorem d_K_openingsThere_5 : decode prog_1_method_28_code 5 = .ok (.bipush 16, 2) := by decide +kernel
theorem d_K_openingsThere_7 : decode prog_1_method_28_code 7 = .ok (.if_icmp .ge 24, 3) := by decide +kernel
theorem d_K_openingsThere_10 : decode prog_1_method_28_code 10 = .ok (.aload_n 0, 1) := by decide +kernel
theorem d_K_openingsThere_11 : decode prog_1_method_28_code 11 = .ok (.getfield 37, 3) := by decide +kernel
theorem d_K_openingsThere_14 : decode prog_1_method_28_code 14 = .ok (.iload_n 2, 1) := by decide +kernel
theorem d_K_openingsThere_15 : decode prog_1_method_28_code 15 = .ok (.aaload, 1) := by decide +kernel
theorem d_K_openingsThere_16 : decode prog_1_method_28_code 16 = .ok (.getfield 230, 3) := by decide +kernel
theorem d_K_openingsThere_19 : decode prog_1_method_28_code 19 = .ok (.ifCond .le 6, 3) := by decide +kernel
theorem d_K_openingsThere_22 : decode prog_1_method_28_code 22 = .ok (.iinc 1 1, 3) := by decide +kernel
theorem d_K_openingsThere_25 : decode prog_1_method_28_code 25 = .ok (.iinc 2 1, 3) := by decide +kernel
theorem d_K_openingsThere_28 : decode prog_1_method_28_code 28 = .ok (.goto (-24), 3) := by decide +kernel
theorem d_K_openingsThere_31 : decode prog_1_method_28_code 31 = .ok (.iload_n 1, 1) := by decide +kernel
theorem d_K_openingsThere_32 : decode prog_1_method_28_code 32 = .ok (.ireturn, 1) := by decide +kernel
theorem d_K_tasksThere_0 : decode prog_1_method_30_code 0 = .ok (.iconst 0, 1) := by decide +kernel
theorem d_K_tasksThere_1 : decode prog_1_method_30_code 1 = .ok (.istore_n 1, 1) := by decide +kernel
theorem d_K_tasksThere_2 : decode prog_1_method_30_code 2 = .ok (.iconst 1, 1) := by decide +kernel
theorem d_K_tasksThere_3 : decode prog_1_method_30_code 3 = .ok (.istore_n 2, 1) := by decide +kernel
theorem d_K_tasksThere_4 : decode prog_1_method_30_code 4 = .ok (.iload_n 2, 1) := by decide +kernel
theorem d_K_tasksThere_5 : decode prog_1_method_30_code 5 = .ok (.bipush 6, 2) := by decide +kernel
theorem d_K_tasksThere_7 : decode prog_1_method_30_code 7 = .ok (.if_icmp .gt 24, 3) := by decide +kernel
theorem d_K_tasksThere_10 : decode prog_1_method_30_code 10 = .ok (.aload_n 0, 1) := by decide +kernel
theorem d_K_tasksThere_11 : decode prog_1_method_30_code 11 = .ok (.getfield 44, 3) := by decide +kernel
theorem d_K_tasksThere_14 : decode prog_1_method_30_code 14 = .ok (.iload_n 2, 1) := by decide +kernel
theorem d_K_tasksThere_15 : decode prog_1_method_30_code 15 = .ok (.aaload, 1) := by decide +kernel
theorem d_K_tasksThere_16 : decode prog_1_method_30_code 16 = .ok (.getfield 173, 3) := by decide +kernel
theorem d_K_tasksThere_19 : decode prog_1_method_30_code 19 = .ok (.ifCond .eq 6, 3) := by decide +kernel
theorem d_K_tasksThere_22 : decode prog_1_method_30_code 22 = .ok (.iinc 1 1, 3) := by decide +kernel
theorem d_K_tasksThere_25 : decode prog_1_method_30_code 25 = .ok (.iinc 2 1, 3) := by decide +kernel
theorem d_K_tasksThere_28 : decode prog_1_method_30_code 28 = .ok (.goto (-24), 3) := by decide +kernel
theorem d_K_tasksThere_31 : decode prog_1_method_30_code 31 = .ok (.iload_n 1, 1) := by decide +kernel
theorem d_K_tasksThere_32 : decode prog_1_method_30_code 32 = .ok (.ireturn, 1) := by decide +kernel
