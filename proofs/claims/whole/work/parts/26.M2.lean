/-! decode rows, by program -/
theorem d_M_seek_22 : decode prog_9_method_25_code 22 = .ok (.iload_n 2, 1) := by decide +kernel
theorem d_M_seek_23 : decode prog_9_method_25_code 23 = .ok (.invokevirtual 130, 3) := by decide +kernel
theorem d_M_seek_26 : decode prog_9_method_25_code 26 = .ok (.istore 4, 2) := by decide +kernel
theorem d_M_seek_28 : decode prog_9_method_25_code 28 = .ok (.iload 4, 2) := by decide +kernel
theorem d_M_seek_30 : decode prog_9_method_25_code 30 = .ok (.ifCond .ge 6, 3) := by decide +kernel
theorem d_M_seek_33 : decode prog_9_method_25_code 33 = .ok (.iload 4, 2) := by decide +kernel
theorem d_M_seek_35 : decode prog_9_method_25_code 35 = .ok (.ireturn, 1) := by decide +kernel
theorem d_M_seek_36 : decode prog_9_method_25_code 36 = .ok (.aload_n 0, 1) := by decide +kernel
theorem d_M_seek_37 : decode prog_9_method_25_code 37 = .ok (.getfield 50, 3) := by decide +kernel
theorem d_M_seek_40 : decode prog_9_method_25_code 40 = .ok (.iload 4, 2) := by decide +kernel
theorem d_M_seek_42 : decode prog_9_method_25_code 42 = .ok (.iaload, 1) := by decide +kernel
theorem d_M_seek_43 : decode prog_9_method_25_code 43 = .ok (.ifCond .eq 6, 3) := by decide +kernel
theorem d_M_seek_46 : decode prog_9_method_25_code 46 = .ok (.bipush (-3), 2) := by decide +kernel
theorem d_M_seek_48 : decode prog_9_method_25_code 48 = .ok (.ireturn, 1) := by decide +kernel
theorem d_M_seek_49 : decode prog_9_method_25_code 49 = .ok (.iload_n 3, 1) := by decide +kernel
theorem d_M_seek_50 : decode prog_9_method_25_code 50 = .ok (.aload_n 0, 1) := by decide +kernel
theorem d_M_seek_51 : decode prog_9_method_25_code 51 = .ok (.getfield 20, 3) := by decide +kernel
theorem d_M_seek_54 : decode prog_9_method_25_code 54 = .ok (.aload_n 0, 1) := by decide +kernel
theorem d_M_seek_55 : decode prog_9_method_25_code 55 = .ok (.getfield 53, 3) := by decide +kernel
theorem d_M_seek_58 : decode prog_9_method_25_code 58 = .ok (.iload 4, 2) := by decide +kernel
theorem d_M_seek_60 : decode prog_9_method_25_code 60 = .ok (.iaload, 1) := by decide +kernel
theorem d_M_seek_61 : decode prog_9_method_25_code 61 = .ok (.iaload, 1) := by decide +kernel
theorem d_M_seek_62 : decode prog_9_method_25_code 62 = .ok (.if_icmp .le 5, 3) := by decide +kernel
theorem d_M_seek_65 : decode prog_9_method_25_code 65 = .ok (.iconst (-1), 1) := by decide +kernel
theorem d_M_seek_66 : decode prog_9_method_25_code 66 = .ok (.ireturn, 1) := by decide +kernel
theorem d_M_seek_67 : decode prog_9_method_25_code 67 = .ok (.aload_n 0, 1) := by decide +kernel
theorem d_M_seek_68 : decode prog_9_method_25_code 68 = .ok (.getfield 59, 3) := by decide +kernel
theorem d_M_seek_71 : decode prog_9_method_25_code 71 = .ok (.iload 4, 2) := by decide +kernel
theorem d_M_seek_73 : decode prog_9_method_25_code 73 = .ok (.iload_n 3, 1) := by decide +kernel
theorem d_M_seek_74 : decode prog_9_method_25_code 74 = .ok (.iastore, 1) := by decide +kernel
theorem d_M_seek_75 : decode prog_9_method_25_code 75 = .ok (.iload_n 3, 1) := by decide +kernel
theorem d_M_seek_76 : decode prog_9_method_25_code 76 = .ok (.ireturn, 1) := by decide +kernel
theorem d_M_sync_0 : decode prog_9_method_26_code 0 = .ok (.aload_n 0, 1) := by decide +kernel
theorem d_M_sync_1 : decode prog_9_method_26_code 1 = .ok (.iload_n 1, 1) := by decide +kernel
theorem d_M_sync_2 : decode prog_9_method_26_code 2 = .ok (.iload_n 2, 1) := by decide +kernel
theorem d_M_sync_3 : decode prog_9_method_26_code 3 = .ok (.invokevirtual 130, 3) := by decide +kernel
theorem d_M_sync_6 : decode prog_9_method_26_code 6 = .ok (.istore_n 3, 1) := by decide +kernel
theorem d_M_sync_7 : decode prog_9_method_26_code 7 = .ok (.iload_n 3, 1) := by decide +kernel
theorem d_M_sync_8 : decode prog_9_method_26_code 8 = .ok (.ifCond .ge 5, 3) := by decide +kernel
theorem d_M_sync_11 : decode prog_9_method_26_code 11 = .ok (.iload_n 3, 1) := by decide +kernel
theorem d_M_sync_12 : decode prog_9_method_26_code 12 = .ok (.ireturn, 1) := by decide +kernel
theorem d_M_sync_13 : decode prog_9_method_26_code 13 = .ok (.aload_n 0, 1) := by decide +kernel
theorem d_M_sync_14 : decode prog_9_method_26_code 14 = .ok (.getfield 50, 3) := by decide +kernel
theorem d_M_sync_17 : decode prog_9_method_26_code 17 = .ok (.iload_n 3, 1) := by decide +kernel
theorem d_M_sync_18 : decode prog_9_method_26_code 18 = .ok (.iaload, 1) := by decide +kernel
theorem d_M_sync_19 : decode prog_9_method_26_code 19 = .ok (.ifCond .eq 6, 3) := by decide +kernel
theorem d_M_sync_22 : decode prog_9_method_26_code 22 = .ok (.bipush (-3), 2) := by decide +kernel
theorem d_M_sync_24 : decode prog_9_method_26_code 24 = .ok (.ireturn, 1) := by decide +kernel
theorem d_M_sync_25 : decode prog_9_method_26_code 25 = .ok (.iconst 0, 1) := by decide +kernel
theorem d_M_sync_26 : decode prog_9_method_26_code 26 = .ok (.istore 4, 2) := by decide +kernel
theorem d_M_sync_28 : decode prog_9_method_26_code 28 = .ok (.iconst 0, 1) := by decide +kernel
theorem d_M_sync_29 : decode prog_9_method_26_code 29 = .ok (.istore 5, 2) := by decide +kernel
theorem d_M_sync_31 : decode prog_9_method_26_code 31 = .ok (.iload 5, 2) := by decide +kernel
theorem d_M_sync_33 : decode prog_9_method_26_code 33 = .ok (.iconst 4, 1) := by decide +kernel
theorem d_M_sync_34 : decode prog_9_method_26_code 34 = .ok (.if_icmp .ge 77, 3) := by decide +kernel
theorem d_M_sync_37 : decode prog_9_method_26_code 37 = .ok (.iconst 0, 1) := by decide +kernel
theorem d_M_sync_38 : decode prog_9_method_26_code 38 = .ok (.istore 6, 2) := by decide +kernel
theorem d_M_sync_40 : decode prog_9_method_26_code 40 = .ok (.iload 6, 2) := by decide +kernel
theorem d_M_sync_42 : decode prog_9_method_26_code 42 = .ok (.aload_n 0, 1) := by decide +kernel
theorem d_M_sync_43 : decode prog_9_method_26_code 43 = .ok (.getfield 74, 3) := by decide +kernel
theorem d_M_sync_46 : decode prog_9_method_26_code 46 = .ok (.if_icmp .ge 59, 3) := by decide +kernel
theorem d_M_sync_49 : decode prog_9_method_26_code 49 = .ok (.aload_n 0, 1) := by decide +kernel
theorem d_M_sync_50 : decode prog_9_method_26_code 50 = .ok (.getfield 26, 3) := by decide +kernel
theorem d_M_sync_53 : decode prog_9_method_26_code 53 = .ok (.iload 6, 2) := by decide +kernel
theorem d_M_sync_55 : decode prog_9_method_26_code 55 = .ok (.iaload, 1) := by decide +kernel
theorem d_M_sync_56 : decode prog_9_method_26_code 56 = .ok (.aload_n 0, 1) := by decide +kernel
theorem d_M_sync_57 : decode prog_9_method_26_code 57 = .ok (.getfield 53, 3) := by decide +kernel
theorem d_M_sync_60 : decode prog_9_method_26_code 60 = .ok (.iload_n 3, 1) := by decide +kernel
theorem d_M_sync_61 : decode prog_9_method_26_code 61 = .ok (.iaload, 1) := by decide +kernel
theorem d_M_sync_62 : decode prog_9_method_26_code 62 = .ok (.bipush 8, 2) := by decide +kernel
theorem d_M_sync_64 : decode prog_9_method_26_code 64 = .ok (.iload 5, 2) := by decide +kernel
theorem d_M_sync_66 : decode prog_9_method_26_code 66 = .ok (.imul, 1) := by decide +kernel
theorem d_M_sync_67 : decode prog_9_method_26_code 67 = .ok (.iadd, 1) := by decide +kernel
theorem d_M_sync_68 : decode prog_9_method_26_code 68 = .ok (.if_icmp .ne 31, 3) := by decide +kernel
theorem d_M_sync_71 : decode prog_9_method_26_code 71 = .ok (.aload_n 0, 1) := by decide +kernel
theorem d_M_sync_72 : decode prog_9_method_26_code 72 = .ok (.getfield 29, 3) := by decide +kernel
theorem d_M_sync_75 : decode prog_9_method_26_code 75 = .ok (.iload 6, 2) := by decide +kernel
theorem d_M_sync_77 : decode prog_9_method_26_code 77 = .ok (.baload, 1) := by decide +kernel
theorem d_M_sync_78 : decode prog_9_method_26_code 78 = .ok (.ifCond .ne 6, 3) := by decide +kernel
theorem d_M_sync_81 : decode prog_9_method_26_code 81 = .ok (.goto 18, 3) := by decide +kernel
theorem d_M_sync_84 : decode prog_9_method_26_code 84 = .ok (.aload_n 0, 1) := by decide +kernel
theorem d_M_sync_85 : decode prog_9_method_26_code 85 = .ok (.iload 6, 2) := by decide +kernel
theorem d_M_sync_87 : decode prog_9_method_26_code 87 = .ok (.invokevirtual 102, 3) := by decide +kernel
theorem d_M_sync_90 : decode prog_9_method_26_code 90 = .ok (.ifCond .ne 6, 3) := by decide +kernel
theorem d_M_sync_93 : decode prog_9_method_26_code 93 = .ok (.bipush (-8), 2) := by decide +kernel
theorem d_M_sync_95 : decode prog_9_method_26_code 95 = .ok (.ireturn, 1) := by decide +kernel
theorem d_M_sync_96 : decode prog_9_method_26_code 96 = .ok (.iinc 4 1, 3) := by decide +kernel
theorem d_M_sync_99 : decode prog_9_method_26_code 99 = .ok (.iinc 6 1, 3) := by decide +kernel
theorem d_M_sync_102 : decode prog_9_method_26_code 102 = .ok (.goto (-62), 3) := by decide +kernel
theorem d_M_sync_105 : decode prog_9_method_26_code 105 = .ok (.iinc 5 1, 3) := by decide +kernel
theorem d_M_sync_108 : decode prog_9_method_26_code 108 = .ok (.goto (-77), 3) := by decide +kernel
theorem d_M_sync_111 : decode prog_9_method_26_code 111 = .ok (.iload 4, 2) := by decide +kernel
theorem d_M_sync_113 : decode prog_9_method_26_code 113 = .ok (.ireturn, 1) := by decide +kernel
theorem d_M_dup_0 : decode prog_9_method_27_code 0 = .ok (.aload_n 0, 1) := by decide +kernel
theorem d_M_dup_1 : decode prog_9_method_27_code 1 = .ok (.iload_n 1, 1) := by decide +kernel
theorem d_M_dup_2 : decode prog_9_method_27_code 2 = .ok (.iload_n 2, 1) := by decide +kernel
theorem d_M_dup_3 : decode prog_9_method_27_code 3 = .ok (.invokevirtual 130, 3) := by decide +kernel
theorem d_M_dup_6 : decode prog_9_method_27_code 6 = .ok (.istore_n 3, 1) := by decide +kernel
theorem d_M_dup_7 : decode prog_9_method_27_code 7 = .ok (.iload_n 3, 1) := by decide +kernel
theorem d_M_dup_8 : decode prog_9_method_27_code 8 = .ok (.ifCond .ge 5, 3) := by decide +kernel
theorem d_M_dup_11 : decode prog_9_method_27_code 11 = .ok (.iload_n 3, 1) := by decide +kernel
theorem d_M_dup_12 : decode prog_9_method_27_code 12 = .ok (.ireturn, 1) := by decide +kernel
theorem d_M_dup_13 : decode prog_9_method_27_code 13 = .ok (.aload_n 0, 1) := by decide +kernel
theorem d_M_dup_14 : decode prog_9_method_27_code 14 = .ok (.iload_n 1, 1) := by decide +kernel
theorem d_M_dup_15 : decode prog_9_method_27_code 15 = .ok (.iconst 0, 1) := by decide +kernel
theorem d_M_dup_16 : decode prog_9_method_27_code 16 = .ok (.invokevirtual 111, 3) := by decide +kernel
theorem d_M_dup_19 : decode prog_9_method_27_code 19 = .ok (.istore 4, 2) := by decide +kernel
theorem d_M_dup_21 : decode prog_9_method_27_code 21 = .ok (.iload 4, 2) := by decide +kernel
theorem d_M_dup_23 : decode prog_9_method_27_code 23 = .ok (.ifCond .ge 6, 3) := by decide +kernel
theorem d_M_dup_26 : decode prog_9_method_27_code 26 = .ok (.bipush (-2), 2) := by decide +kernel
theorem d_M_dup_28 : decode prog_9_method_27_code 28 = .ok (.ireturn, 1) := by decide +kernel
theorem d_M_dup_29 : decode prog_9_method_27_code 29 = .ok (.aload_n 0, 1) := by decide +kernel
theorem d_M_dup_30 : decode prog_9_method_27_code 30 = .ok (.getfield 47, 3) := by decide +kernel
theorem d_M_dup_33 : decode prog_9_method_27_code 33 = .ok (.bipush 6, 2) := by decide +kernel
theorem d_M_dup_35 : decode prog_9_method_27_code 35 = .ok (.iload_n 1, 1) := by decide +kernel
theorem d_M_dup_36 : decode prog_9_method_27_code 36 = .ok (.imul, 1) := by decide +kernel
theorem d_M_dup_37 : decode prog_9_method_27_code 37 = .ok (.iload 4, 2) := by decide +kernel
theorem d_M_dup_39 : decode prog_9_method_27_code 39 = .ok (.iadd, 1) := by decide +kernel
theorem d_M_dup_40 : decode prog_9_method_27_code 40 = .ok (.iload_n 3, 1) := by decide +kernel
theorem d_M_dup_41 : decode prog_9_method_27_code 41 = .ok (.iastore, 1) := by decide +kernel
theorem d_M_dup_42 : decode prog_9_method_27_code 42 = .ok (.iload 4, 2) := by decide +kernel
theorem d_M_dup_44 : decode prog_9_method_27_code 44 = .ok (.ireturn, 1) := by decide +kernel
theorem d_M_close_0 : decode prog_9_method_28_code 0 = .ok (.aload_n 0, 1) := by decide +kernel
theorem d_M_close_1 : decode prog_9_method_28_code 1 = .ok (.iload_n 1, 1) := by decide +kernel
theorem d_M_close_2 : decode prog_9_method_28_code 2 = .ok (.iload_n 2, 1) := by decide +kernel
theorem d_M_close_3 : decode prog_9_method_28_code 3 = .ok (.invokevirtual 130, 3) := by decide +kernel
theorem d_M_close_6 : decode prog_9_method_28_code 6 = .ok (.istore_n 3, 1) := by decide +kernel
theorem d_M_close_7 : decode prog_9_method_28_code 7 = .ok (.iload_n 3, 1) := by decide +kernel
theorem d_M_close_8 : decode prog_9_method_28_code 8 = .ok (.ifCond .ge 5, 3) := by decide +kernel
theorem d_M_close_11 : decode prog_9_method_28_code 11 = .ok (.iload_n 3, 1) := by decide +kernel
theorem d_M_close_12 : decode prog_9_method_28_code 12 = .ok (.ireturn, 1) := by decide +kernel
theorem d_M_close_13 : decode prog_9_method_28_code 13 = .ok (.aload_n 0, 1) := by decide +kernel
theorem d_M_close_14 : decode prog_9_method_28_code 14 = .ok (.getfield 47, 3) := by decide +kernel
theorem d_M_close_17 : decode prog_9_method_28_code 17 = .ok (.bipush 6, 2) := by decide +kernel
theorem d_M_close_19 : decode prog_9_method_28_code 19 = .ok (.iload_n 1, 1) := by decide +kernel
theorem d_M_close_20 : decode prog_9_method_28_code 20 = .ok (.imul, 1) := by decide +kernel
theorem d_M_close_21 : decode prog_9_method_28_code 21 = .ok (.iload_n 2, 1) := by decide +kernel
theorem d_M_close_22 : decode prog_9_method_28_code 22 = .ok (.iadd, 1) := by decide +kernel
theorem d_M_close_23 : decode prog_9_method_28_code 23 = .ok (.iconst (-1), 1) := by decide +kernel
theorem d_M_close_24 : decode prog_9_method_28_code 24 = .ok (.iastore, 1) := by decide +kernel
theorem d_M_close_25 : decode prog_9_method_28_code 25 = .ok (.iconst 0, 1) := by decide +kernel
theorem d_M_close_26 : decode prog_9_method_28_code 26 = .ok (.ireturn, 1) := by decide +kernel
theorem d_M_unlink_0 : decode prog_9_method_29_code 0 = .ok (.aload_n 0, 1) := by decide +kernel
theorem d_M_unlink_1 : decode prog_9_method_29_code 1 = .ok (.iload_n 1, 1) := by decide +kernel
theorem d_M_unlink_2 : decode prog_9_method_29_code 2 = .ok (.invokevirtual 86, 3) := by decide +kernel
theorem d_M_unlink_5 : decode prog_9_method_29_code 5 = .ok (.ifCond .eq 13, 3) := by decide +kernel
theorem d_M_unlink_8 : decode prog_9_method_29_code 8 = .ok (.iload_n 2, 1) := by decide +kernel
theorem d_M_unlink_9 : decode prog_9_method_29_code 9 = .ok (.iconst 0, 1) := by decide +kernel
theorem d_M_unlink_10 : decode prog_9_method_29_code 10 = .ok (.bipush 7, 2) := by decide +kernel
theorem d_M_unlink_12 : decode prog_9_method_29_code 12 = .ok (.invokestatic 78, 3) := by decide +kernel
theorem d_M_unlink_15 : decode prog_9_method_29_code 15 = .ok (.ifCond .ne 5, 3) := by decide +kernel
theorem d_M_unlink_18 : decode prog_9_method_29_code 18 = .ok (.iconst (-1), 1) := by decide +kernel
theorem d_M_unlink_19 : decode prog_9_method_29_code 19 = .ok (.ireturn, 1) := by decide +kernel
theorem d_M_unlink_20 : decode prog_9_method_29_code 20 = .ok (.aload_n 0, 1) := by decide +kernel
theorem d_M_unlink_21 : decode prog_9_method_29_code 21 = .ok (.getfield 23, 3) := by decide +kernel
theorem d_M_unlink_24 : decode prog_9_method_29_code 24 = .ok (.iload_n 2, 1) := by decide +kernel
theorem d_M_unlink_25 : decode prog_9_method_29_code 25 = .ok (.iaload, 1) := by decide +kernel
theorem d_M_unlink_26 : decode prog_9_method_29_code 26 = .ok (.ifCond .eq 12, 3) := by decide +kernel
theorem d_M_unlink_29 : decode prog_9_method_29_code 29 = .ok (.aload_n 0, 1) := by decide +kernel
theorem d_M_unlink_30 : decode prog_9_method_29_code 30 = .ok (.getfield 7, 3) := by decide +kernel
theorem d_M_unlink_33 : decode prog_9_method_29_code 33 = .ok (.iload_n 2, 1) := by decide +kernel
theorem d_M_unlink_34 : decode prog_9_method_29_code 34 = .ok (.baload, 1) := by decide +kernel
theorem d_M_unlink_35 : decode prog_9_method_29_code 35 = .ok (.ifCond .ne 6, 3) := by decide +kernel
theorem d_M_unlink_38 : decode prog_9_method_29_code 38 = .ok (.bipush (-4), 2) := by decide +kernel
theorem d_M_unlink_40 : decode prog_9_method_29_code 40 = .ok (.ireturn, 1) := by decide +kernel
theorem d_M_unlink_41 : decode prog_9_method_29_code 41 = .ok (.aload_n 0, 1) := by decide +kernel
theorem d_M_unlink_42 : decode prog_9_method_29_code 42 = .ok (.getfield 23, 3) := by decide +kernel
theorem d_M_unlink_45 : decode prog_9_method_29_code 45 = .ok (.iload_n 2, 1) := by decide +kernel
theorem d_M_unlink_46 : decode prog_9_method_29_code 46 = .ok (.iaload, 1) := by decide +kernel
theorem d_M_unlink_47 : decode prog_9_method_29_code 47 = .ok (.iconst 1, 1) := by decide +kernel
theorem d_M_unlink_48 : decode prog_9_method_29_code 48 = .ok (.if_icmp .ne 6, 3) := by decide +kernel
theorem d_M_unlink_51 : decode prog_9_method_29_code 51 = .ok (.bipush (-5), 2) := by decide +kernel
theorem d_M_unlink_53 : decode prog_9_method_29_code 53 = .ok (.ireturn, 1) := by decide +kernel
theorem d_M_unlink_54 : decode prog_9_method_29_code 54 = .ok (.aload_n 0, 1) := by decide +kernel
theorem d_M_unlink_55 : decode prog_9_method_29_code 55 = .ok (.iload_n 2, 1) := by decide +kernel
theorem d_M_unlink_56 : decode prog_9_method_29_code 56 = .ok (.invokevirtual 105, 3) := by decide +kernel
theorem d_M_unlink_59 : decode prog_9_method_29_code 59 = .ok (.ifCond .eq 6, 3) := by decide +kernel
theorem d_M_unlink_62 : decode prog_9_method_29_code 62 = .ok (.bipush (-9), 2) := by decide +kernel
theorem d_M_unlink_64 : decode prog_9_method_29_code 64 = .ok (.ireturn, 1) := by decide +kernel
theorem d_M_unlink_65 : decode prog_9_method_29_code 65 = .ok (.aload_n 0, 1) := by decide +kernel
theorem d_M_unlink_66 : decode prog_9_method_29_code 66 = .ok (.iconst 4, 1) := by decide +kernel
theorem d_M_unlink_67 : decode prog_9_method_29_code 67 = .ok (.iload_n 2, 1) := by decide +kernel
theorem d_M_unlink_68 : decode prog_9_method_29_code 68 = .ok (.iconst 0, 1) := by decide +kernel
theorem d_M_unlink_69 : decode prog_9_method_29_code 69 = .ok (.invokevirtual 95, 3) := by decide +kernel
theorem d_M_unlink_72 : decode prog_9_method_29_code 72 = .ok (.ifCond .ne 6, 3) := by decide +kernel
theorem d_M_unlink_75 : decode prog_9_method_29_code 75 = .ok (.bipush (-8), 2) := by decide +kernel
theorem d_M_unlink_77 : decode prog_9_method_29_code 77 = .ok (.ireturn, 1) := by decide +kernel
theorem d_M_unlink_78 : decode prog_9_method_29_code 78 = .ok (.aload_n 0, 1) := by decide +kernel
theorem d_M_unlink_79 : decode prog_9_method_29_code 79 = .ok (.getfield 7, 3) := by decide +kernel
theorem d_M_unlink_82 : decode prog_9_method_29_code 82 = .ok (.iload_n 2, 1) := by decide +kernel
theorem d_M_unlink_83 : decode prog_9_method_29_code 83 = .ok (.iconst 0, 1) := by decide +kernel
theorem d_M_unlink_84 : decode prog_9_method_29_code 84 = .ok (.bastore, 1) := by decide +kernel
theorem d_M_unlink_85 : decode prog_9_method_29_code 85 = .ok (.aload_n 0, 1) := by decide +kernel
theorem d_M_unlink_86 : decode prog_9_method_29_code 86 = .ok (.iload_n 2, 1) := by decide +kernel
theorem d_M_unlink_87 : decode prog_9_method_29_code 87 = .ok (.invokevirtual 119, 3) := by decide +kernel
theorem d_M_unlink_90 : decode prog_9_method_29_code 90 = .ok (.iconst 0, 1) := by decide +kernel
theorem d_M_unlink_91 : decode prog_9_method_29_code 91 = .ok (.ireturn, 1) := by decide +kernel
theorem d_M_fork_0 : decode prog_9_method_30_code 0 = .ok (.aload_n 0, 1) := by decide +kernel
theorem d_M_fork_1 : decode prog_9_method_30_code 1 = .ok (.iload_n 1, 1) := by decide +kernel
theorem d_M_fork_2 : decode prog_9_method_30_code 2 = .ok (.invokevirtual 86, 3) := by decide +kernel
theorem d_M_fork_5 : decode prog_9_method_30_code 5 = .ok (.ifCond .ne 5, 3) := by decide +kernel
theorem d_M_fork_8 : decode prog_9_method_30_code 8 = .ok (.iconst (-1), 1) := by decide +kernel
theorem d_M_fork_9 : decode prog_9_method_30_code 9 = .ok (.ireturn, 1) := by decide +kernel
theorem d_M_fork_10 : decode prog_9_method_30_code 10 = .ok (.iconst 1, 1) := by decide +kernel
theorem d_M_fork_11 : decode prog_9_method_30_code 11 = .ok (.istore_n 2, 1) := by decide +kernel
theorem d_M_fork_12 : decode prog_9_method_30_code 12 = .ok (.iload_n 2, 1) := by decide +kernel
theorem d_M_fork_13 : decode prog_9_method_30_code 13 = .ok (.bipush 7, 2) := by decide +kernel
theorem d_M_fork_15 : decode prog_9_method_30_code 15 = .ok (.if_icmp .ge 18, 3) := by decide +kernel
theorem d_M_fork_18 : decode prog_9_method_30_code 18 = .ok (.aload_n 0, 1) := by decide +kernel
theorem d_M_fork_19 : decode prog_9_method_30_code 19 = .ok (.getfield 35, 3) := by decide +kernel
theorem d_M_fork_22 : decode prog_9_method_30_code 22 = .ok (.iload_n 2, 1) := by decide +kernel
theorem d_M_fork_23 : decode prog_9_method_30_code 23 = .ok (.baload, 1) := by decide +kernel
theorem d_M_fork_24 : decode prog_9_method_30_code 24 = .ok (.ifCond .eq 9, 3) := by decide +kernel
theorem d_M_fork_27 : decode prog_9_method_30_code 27 = .ok (.iinc 2 1, 3) := by decide +kernel
theorem d_M_fork_30 : decode prog_9_method_30_code 30 = .ok (.goto (-18), 3) := by decide +kernel
theorem d_M_fork_33 : decode prog_9_method_30_code 33 = .ok (.iload_n 2, 1) := by decide +kernel
theorem d_M_fork_34 : decode prog_9_method_30_code 34 = .ok (.bipush 7, 2) := by decide +kernel
theorem d_M_fork_36 : decode prog_9_method_30_code 36 = .ok (.if_icmp .ne 6, 3) := by decide +kernel
theorem d_M_fork_39 : decode prog_9_method_30_code 39 = .ok (.bipush (-2), 2) := by decide +kernel
theorem d_M_fork_41 : decode prog_9_method_30_code 41 = .ok (.ireturn, 1) := by decide +kernel
theorem d_M_fork_42 : decode prog_9_method_30_code 42 = .ok (.aload_n 0, 1) := by decide +kernel
theorem d_M_fork_43 : decode prog_9_method_30_code 43 = .ok (.getfield 35, 3) := by decide +kernel
theorem d_M_fork_46 : decode prog_9_method_30_code 46 = .ok (.iload_n 2, 1) := by decide +kernel
theorem d_M_fork_47 : decode prog_9_method_30_code 47 = .ok (.iconst 1, 1) := by decide +kernel
theorem d_M_fork_48 : decode prog_9_method_30_code 48 = .ok (.bastore, 1) := by decide +kernel
theorem d_M_fork_49 : decode prog_9_method_30_code 49 = .ok (.aload_n 0, 1) := by decide +kernel
theorem d_M_fork_50 : decode prog_9_method_30_code 50 = .ok (.getfield 38, 3) := by decide +kernel
theorem d_M_fork_53 : decode prog_9_method_30_code 53 = .ok (.iload_n 2, 1) := by decide +kernel
theorem d_M_fork_54 : decode prog_9_method_30_code 54 = .ok (.iconst 0, 1) := by decide +kernel
theorem d_M_fork_55 : decode prog_9_method_30_code 55 = .ok (.bastore, 1) := by decide +kernel
theorem d_M_fork_56 : decode prog_9_method_30_code 56 = .ok (.aload_n 0, 1) := by decide +kernel
theorem d_M_fork_57 : decode prog_9_method_30_code 57 = .ok (.getfield 41, 3) := by decide +kernel
theorem d_M_fork_60 : decode prog_9_method_30_code 60 = .ok (.iload_n 2, 1) := by decide +kernel
theorem d_M_fork_61 : decode prog_9_method_30_code 61 = .ok (.iload_n 1, 1) := by decide +kernel
theorem d_M_fork_62 : decode prog_9_method_30_code 62 = .ok (.iastore, 1) := by decide +kernel
theorem d_M_fork_63 : decode prog_9_method_30_code 63 = .ok (.iconst 0, 1) := by decide +kernel
theorem d_M_fork_64 : decode prog_9_method_30_code 64 = .ok (.istore_n 3, 1) := by decide +kernel
theorem d_M_fork_65 : decode prog_9_method_30_code 65 = .ok (.iload_n 3, 1) := by decide +kernel
theorem d_M_fork_66 : decode prog_9_method_30_code 66 = .ok (.bipush 6, 2) := by decide +kernel
theorem d_M_fork_68 : decode prog_9_method_30_code 68 = .ok (.if_icmp .ge 31, 3) := by decide +kernel
theorem d_M_fork_71 : decode prog_9_method_30_code 71 = .ok (.aload_n 0, 1) := by decide +kernel
theorem d_M_fork_72 : decode prog_9_method_30_code 72 = .ok (.getfield 47, 3) := by decide +kernel
theorem d_M_fork_75 : decode prog_9_method_30_code 75 = .ok (.bipush 6, 2) := by decide +kernel
theorem d_M_fork_77 : decode prog_9_method_30_code 77 = .ok (.iload_n 2, 1) := by decide +kernel
theorem d_M_fork_78 : decode prog_9_method_30_code 78 = .ok (.imul, 1) := by decide +kernel
theorem d_M_fork_79 : decode prog_9_method_30_code 79 = .ok (.iload_n 3, 1) := by decide +kernel
theorem d_M_fork_80 : decode prog_9_method_30_code 80 = .ok (.iadd, 1) := by decide +kernel
theorem d_M_fork_81 : decode prog_9_method_30_code 81 = .ok (.aload_n 0, 1) := by decide +kernel
theorem d_M_fork_82 : decode prog_9_method_30_code 82 = .ok (.getfield 47, 3) := by decide +kernel
theorem d_M_fork_85 : decode prog_9_method_30_code 85 = .ok (.bipush 6, 2) := by decide +kernel
theorem d_M_fork_87 : decode prog_9_method_30_code 87 = .ok (.iload_n 1, 1) := by decide +kernel
theorem d_M_fork_88 : decode prog_9_method_30_code 88 = .ok (.imul, 1) := by decide +kernel
theorem d_M_fork_89 : decode prog_9_method_30_code 89 = .ok (.iload_n 3, 1) := by decide +kernel
theorem d_M_fork_90 : decode prog_9_method_30_code 90 = .ok (.iadd, 1) := by decide +kernel
theorem d_M_fork_91 : decode prog_9_method_30_code 91 = .ok (.iaload, 1) := by decide +kernel
theorem d_M_fork_92 : decode prog_9_method_30_code 92 = .ok (.iastore, 1) := by decide +kernel
theorem d_M_fork_93 : decode prog_9_method_30_code 93 = .ok (.iinc 3 1, 3) := by decide +kernel
theorem d_M_fork_96 : decode prog_9_method_30_code 96 = .ok (.goto (-31), 3) := by decide +kernel
theorem d_M_fork_99 : decode prog_9_method_30_code 99 = .ok (.iload_n 2, 1) := by decide +kernel
theorem d_M_fork_100 : decode prog_9_method_30_code 100 = .ok (.ireturn, 1) := by decide +kernel
theorem d_M_exit_0 : decode prog_9_method_31_code 0 = .ok (.aload_n 0, 1) := by decide +kernel
theorem d_M_exit_1 : decode prog_9_method_31_code 1 = .ok (.iload_n 1, 1) := by decide +kernel
theorem d_M_exit_2 : decode prog_9_method_31_code 2 = .ok (.invokevirtual 86, 3) := by decide +kernel
theorem d_M_exit_5 : decode prog_9_method_31_code 5 = .ok (.ifCond .eq 18, 3) := by decide +kernel
theorem d_M_exit_8 : decode prog_9_method_31_code 8 = .ok (.iload_n 2, 1) := by decide +kernel
theorem d_M_exit_9 : decode prog_9_method_31_code 9 = .ok (.iconst 0, 1) := by decide +kernel
theorem d_M_exit_10 : decode prog_9_method_31_code 10 = .ok (.bipush 99, 2) := by decide +kernel
theorem d_M_exit_12 : decode prog_9_method_31_code 12 = .ok (.invokestatic 78, 3) := by decide +kernel
theorem d_M_exit_15 : decode prog_9_method_31_code 15 = .ok (.ifCond .eq 8, 3) := by decide +kernel
theorem d_M_exit_18 : decode prog_9_method_31_code 18 = .ok (.iload_n 1, 1) := by decide +kernel
theorem d_M_exit_19 : decode prog_9_method_31_code 19 = .ok (.iconst 1, 1) := by decide +kernel
theorem d_M_exit_20 : decode prog_9_method_31_code 20 = .ok (.if_icmp .ne 5, 3) := by decide +kernel
theorem d_M_exit_23 : decode prog_9_method_31_code 23 = .ok (.iconst (-1), 1) := by decide +kernel
theorem d_M_exit_24 : decode prog_9_method_31_code 24 = .ok (.ireturn, 1) := by decide +kernel
theorem d_M_exit_25 : decode prog_9_method_31_code 25 = .ok (.aload_n 0, 1) := by decide +kernel
theorem d_M_exit_26 : decode prog_9_method_31_code 26 = .ok (.getfield 38, 3) := by decide +kernel
theorem d_M_exit_29 : decode prog_9_method_31_code 29 = .ok (.iload_n 1, 1) := by decide +kernel
theorem d_M_exit_30 : decode prog_9_method_31_code 30 = .ok (.iconst 1, 1) := by decide +kernel
theorem d_M_exit_31 : decode prog_9_method_31_code 31 = .ok (.bastore, 1) := by decide +kernel
theorem d_M_exit_32 : decode prog_9_method_31_code 32 = .ok (.aload_n 0, 1) := by decide +kernel
theorem d_M_exit_33 : decode prog_9_method_31_code 33 = .ok (.getfield 44, 3) := by decide +kernel
theorem d_M_exit_36 : decode prog_9_method_31_code 36 = .ok (.iload_n 1, 1) := by decide +kernel
theorem d_M_exit_37 : decode prog_9_method_31_code 37 = .ok (.iload_n 2, 1) := by decide +kernel
theorem d_M_exit_38 : decode prog_9_method_31_code 38 = .ok (.iastore, 1) := by decide +kernel
theorem d_M_exit_39 : decode prog_9_method_31_code 39 = .ok (.iconst 0, 1) := by decide +kernel
theorem d_M_exit_40 : decode prog_9_method_31_code 40 = .ok (.istore_n 3, 1) := by decide +kernel
theorem d_M_exit_41 : decode prog_9_method_31_code 41 = .ok (.iload_n 3, 1) := by decide +kernel
theorem d_M_exit_42 : decode prog_9_method_31_code 42 = .ok (.bipush 6, 2) := by decide +kernel
theorem d_M_exit_44 : decode prog_9_method_31_code 44 = .ok (.if_icmp .ge 21, 3) := by decide +kernel
theorem d_M_exit_47 : decode prog_9_method_31_code 47 = .ok (.aload_n 0, 1) := by decide +kernel
theorem d_M_exit_48 : decode prog_9_method_31_code 48 = .ok (.getfield 47, 3) := by decide +kernel
theorem d_M_exit_51 : decode prog_9_method_31_code 51 = .ok (.bipush 6, 2) := by decide +kernel
theorem d_M_exit_53 : decode prog_9_method_31_code 53 = .ok (.iload_n 1, 1) := by decide +kernel
theorem d_M_exit_54 : decode prog_9_method_31_code 54 = .ok (.imul, 1) := by decide +kernel
theorem d_M_exit_55 : decode prog_9_method_31_code 55 = .ok (.iload_n 3, 1) := by decide +kernel
theorem d_M_exit_56 : decode prog_9_method_31_code 56 = .ok (.iadd, 1) := by decide +kernel
theorem d_M_exit_57 : decode prog_9_method_31_code 57 = .ok (.iconst (-1), 1) := by decide +kernel
theorem d_M_exit_58 : decode prog_9_method_31_code 58 = .ok (.iastore, 1) := by decide +kernel
theorem d_M_exit_59 : decode prog_9_method_31_code 59 = .ok (.iinc 3 1, 3) := by decide +kernel
theorem d_M_exit_62 : decode prog_9_method_31_code 62 = .ok (.goto (-21), 3) := by decide +kernel
theorem d_M_exit_65 : decode prog_9_method_31_code 65 = .ok (.iconst 2, 1) := by decide +kernel
theorem d_M_exit_66 : decode prog_9_method_31_code 66 = .ok (.istore_n 3, 1) := by decide +kernel
theorem d_M_exit_67 : decode prog_9_method_31_code 67 = .ok (.iload_n 3, 1) := by decide +kernel
theorem d_M_exit_68 : decode prog_9_method_31_code 68 = .ok (.bipush 7, 2) := by decide +kernel
theorem d_M_exit_70 : decode prog_9_method_31_code 70 = .ok (.if_icmp .ge 35, 3) := by decide +kernel
theorem d_M_exit_73 : decode prog_9_method_31_code 73 = .ok (.aload_n 0, 1) := by decide +kernel
theorem d_M_exit_74 : decode prog_9_method_31_code 74 = .ok (.getfield 35, 3) := by decide +kernel
theorem d_M_exit_77 : decode prog_9_method_31_code 77 = .ok (.iload_n 3, 1) := by decide +kernel
theorem d_M_exit_78 : decode prog_9_method_31_code 78 = .ok (.baload, 1) := by decide +kernel
theorem d_M_exit_79 : decode prog_9_method_31_code 79 = .ok (.ifCond .eq 20, 3) := by decide +kernel
theorem d_M_exit_82 : decode prog_9_method_31_code 82 = .ok (.aload_n 0, 1) := by decide +kernel
theorem d_M_exit_83 : decode prog_9_method_31_code 83 = .ok (.getfield 41, 3) := by decide +kernel
theorem d_M_exit_86 : decode prog_9_method_31_code 86 = .ok (.iload_n 3, 1) := by decide +kernel
theorem d_M_exit_87 : decode prog_9_method_31_code 87 = .ok (.iaload, 1) := by decide +kernel
theorem d_M_exit_88 : decode prog_9_method_31_code 88 = .ok (.iload_n 1, 1) := by decide +kernel
theorem d_M_exit_89 : decode prog_9_method_31_code 89 = .ok (.if_icmp .ne 10, 3) := by decide +kernel
theorem d_M_exit_92 : decode prog_9_method_31_code 92 = .ok (.aload_n 0, 1) := by decide +kernel
theorem d_M_exit_93 : decode prog_9_method_31_code 93 = .ok (.getfield 41, 3) := by decide +kernel
theorem d_M_exit_96 : decode prog_9_method_31_code 96 = .ok (.iload_n 3, 1) := by decide +kernel
theorem d_M_exit_97 : decode prog_9_method_31_code 97 = .ok (.iconst 1, 1) := by decide +kernel
theorem d_M_exit_98 : decode prog_9_method_31_code 98 = .ok (.iastore, 1) := by decide +kernel
theorem d_M_exit_99 : decode prog_9_method_31_code 99 = .ok (.iinc 3 1, 3) := by decide +kernel
theorem d_M_exit_102 : decode prog_9_method_31_code 102 = .ok (.goto (-35), 3) := by decide +kernel
theorem d_M_exit_105 : decode prog_9_method_31_code 105 = .ok (.iconst 0, 1) := by decide +kernel
theorem d_M_exit_106 : decode prog_9_method_31_code 106 = .ok (.ireturn, 1) := by decide +kernel
theorem d_M_wait_0 : decode prog_9_method_32_code 0 = .ok (.aload_n 0, 1) := by decide +kernel
theorem d_M_wait_1 : decode prog_9_method_32_code 1 = .ok (.iload_n 1, 1) := by decide +kernel
theorem d_M_wait_2 : decode prog_9_method_32_code 2 = .ok (.invokevirtual 86, 3) := by decide +kernel
theorem d_M_wait_5 : decode prog_9_method_32_code 5 = .ok (.ifCond .ne 5, 3) := by decide +kernel
theorem d_M_wait_8 : decode prog_9_method_32_code 8 = .ok (.iconst (-1), 1) := by decide +kernel
theorem d_M_wait_9 : decode prog_9_method_32_code 9 = .ok (.ireturn, 1) := by decide +kernel
theorem d_M_wait_10 : decode prog_9_method_32_code 10 = .ok (.iconst 0, 1) := by decide +kernel
theorem d_M_wait_11 : decode prog_9_method_32_code 11 = .ok (.istore_n 2, 1) := by decide +kernel
theorem d_M_wait_12 : decode prog_9_method_32_code 12 = .ok (.iconst 2, 1) := by decide +kernel
theorem d_M_wait_13 : decode prog_9_method_32_code 13 = .ok (.istore_n 3, 1) := by decide +kernel
theorem d_M_wait_14 : decode prog_9_method_32_code 14 = .ok (.iload_n 3, 1) := by decide +kernel
theorem d_M_wait_15 : decode prog_9_method_32_code 15 = .ok (.bipush 7, 2) := by decide +kernel
theorem d_M_wait_17 : decode prog_9_method_32_code 17 = .ok (.if_icmp .ge 61, 3) := by decide +kernel
theorem d_M_wait_20 : decode prog_9_method_32_code 20 = .ok (.aload_n 0, 1) := by decide +kernel
theorem d_M_wait_21 : decode prog_9_method_32_code 21 = .ok (.getfield 35, 3) := by decide +kernel
theorem d_M_wait_24 : decode prog_9_method_32_code 24 = .ok (.iload_n 3, 1) := by decide +kernel
theorem d_M_wait_25 : decode prog_9_method_32_code 25 = .ok (.baload, 1) := by decide +kernel
theorem d_M_wait_26 : decode prog_9_method_32_code 26 = .ok (.ifCond .eq 46, 3) := by decide +kernel
theorem d_M_wait_29 : decode prog_9_method_32_code 29 = .ok (.aload_n 0, 1) := by decide +kernel
theorem d_M_wait_30 : decode prog_9_method_32_code 30 = .ok (.getfield 41, 3) := by decide +kernel
theorem d_M_wait_33 : decode prog_9_method_32_code 33 = .ok (.iload_n 3, 1) := by decide +kernel
theorem d_M_wait_34 : decode prog_9_method_32_code 34 = .ok (.iaload, 1) := by decide +kernel
theorem d_M_wait_35 : decode prog_9_method_32_code 35 = .ok (.iload_n 1, 1) := by decide +kernel
theorem d_M_wait_36 : decode prog_9_method_32_code 36 = .ok (.if_icmp .eq 6, 3) := by decide +kernel
theorem d_M_wait_39 : decode prog_9_method_32_code 39 = .ok (.goto 33, 3) := by decide +kernel
theorem d_M_wait_42 : decode prog_9_method_32_code 42 = .ok (.iconst 1, 1) := by decide +kernel
theorem d_M_wait_43 : decode prog_9_method_32_code 43 = .ok (.istore_n 2, 1) := by decide +kernel
theorem d_M_wait_44 : decode prog_9_method_32_code 44 = .ok (.aload_n 0, 1) := by decide +kernel
theorem d_M_wait_45 : decode prog_9_method_32_code 45 = .ok (.getfield 38, 3) := by decide +kernel
theorem d_M_wait_48 : decode prog_9_method_32_code 48 = .ok (.iload_n 3, 1) := by decide +kernel
theorem d_M_wait_49 : decode prog_9_method_32_code 49 = .ok (.baload, 1) := by decide +kernel
theorem d_M_wait_50 : decode prog_9_method_32_code 50 = .ok (.ifCond .eq 22, 3) := by decide +kernel
theorem d_M_wait_53 : decode prog_9_method_32_code 53 = .ok (.aload_n 0, 1) := by decide +kernel
theorem d_M_wait_54 : decode prog_9_method_32_code 54 = .ok (.getfield 35, 3) := by decide +kernel
theorem d_M_wait_57 : decode prog_9_method_32_code 57 = .ok (.iload_n 3, 1) := by decide +kernel
theorem d_M_wait_58 : decode prog_9_method_32_code 58 = .ok (.iconst 0, 1) := by decide +kernel
theorem d_M_wait_59 : decode prog_9_method_32_code 59 = .ok (.bastore, 1) := by decide +kernel
theorem d_M_wait_60 : decode prog_9_method_32_code 60 = .ok (.iload_n 3, 1) := by decide +kernel
theorem d_M_wait_61 : decode prog_9_method_32_code 61 = .ok (.bipush 8, 2) := by decide +kernel
theorem d_M_wait_63 : decode prog_9_method_32_code 63 = .ok (.aload_n 0, 1) := by decide +kernel
theorem d_M_wait_64 : decode prog_9_method_32_code 64 = .ok (.getfield 44, 3) := by decide +kernel
theorem d_M_wait_67 : decode prog_9_method_32_code 67 = .ok (.iload_n 3, 1) := by decide +kernel
theorem d_M_wait_68 : decode prog_9_method_32_code 68 = .ok (.iaload, 1) := by decide +kernel
theorem d_M_wait_69 : decode prog_9_method_32_code 69 = .ok (.imul, 1) := by decide +kernel
theorem d_M_wait_70 : decode prog_9_method_32_code 70 = .ok (.iadd, 1) := by decide +kernel
theorem d_M_wait_71 : decode prog_9_method_32_code 71 = .ok (.ireturn, 1) := by decide +kernel
theorem d_M_wait_72 : decode prog_9_method_32_code 72 = .ok (.iinc 3 1, 3) := by decide +kernel
theorem d_M_wait_75 : decode prog_9_method_32_code 75 = .ok (.goto (-61), 3) := by decide +kernel
theorem d_M_wait_78 : decode prog_9_method_32_code 78 = .ok (.iload_n 2, 1) := by decide +kernel
theorem d_M_wait_79 : decode prog_9_method_32_code 79 = .ok (.ifCond .eq 8, 3) := by decide +kernel
theorem d_M_wait_82 : decode prog_9_method_32_code 82 = .ok (.bipush (-6), 2) := by decide +kernel
theorem d_M_wait_84 : decode prog_9_method_32_code 84 = .ok (.goto 5, 3) := by decide +kernel
theorem d_M_wait_87 : decode prog_9_method_32_code 87 = .ok (.bipush (-9), 2) := by decide +kernel
theorem d_M_wait_89 : decode prog_9_method_32_code 89 = .ok (.ireturn, 1) := by decide +kernel
theorem d_M_crash_0 : decode prog_9_method_33_code 0 = .ok (.aload_n 0, 1) := by decide +kernel
theorem d_M_crash_1 : decode prog_9_method_33_code 1 = .ok (.invokevirtual 71, 3) := by decide +kernel
theorem d_M_crash_4 : decode prog_9_method_33_code 4 = .ok (.iconst 0, 1) := by decide +kernel
theorem d_M_crash_5 : decode prog_9_method_33_code 5 = .ok (.istore_n 1, 1) := by decide +kernel
theorem d_M_crash_6 : decode prog_9_method_33_code 6 = .ok (.iload_n 1, 1) := by decide +kernel
theorem d_M_crash_7 : decode prog_9_method_33_code 7 = .ok (.bipush 8, 2) := by decide +kernel
theorem d_M_crash_9 : decode prog_9_method_33_code 9 = .ok (.if_icmp .ge 21, 3) := by decide +kernel
theorem d_M_crash_12 : decode prog_9_method_33_code 12 = .ok (.aload_n 0, 1) := by decide +kernel
theorem d_M_crash_13 : decode prog_9_method_33_code 13 = .ok (.getfield 20, 3) := by decide +kernel
theorem d_M_crash_16 : decode prog_9_method_33_code 16 = .ok (.iload_n 1, 1) := by decide +kernel
theorem d_M_crash_17 : decode prog_9_method_33_code 17 = .ok (.aload_n 0, 1) := by decide +kernel
theorem d_M_crash_18 : decode prog_9_method_33_code 18 = .ok (.getfield 13, 3) := by decide +kernel
theorem d_M_crash_21 : decode prog_9_method_33_code 21 = .ok (.iload_n 1, 1) := by decide +kernel
theorem d_M_crash_22 : decode prog_9_method_33_code 22 = .ok (.iaload, 1) := by decide +kernel
theorem d_M_crash_23 : decode prog_9_method_33_code 23 = .ok (.iastore, 1) := by decide +kernel
theorem d_M_crash_24 : decode prog_9_method_33_code 24 = .ok (.iinc 1 1, 3) := by decide +kernel
theorem d_M_crash_27 : decode prog_9_method_33_code 27 = .ok (.goto (-21), 3) := by decide +kernel
theorem d_M_crash_30 : decode prog_9_method_33_code 30 = .ok (.iconst 0, 1) := by decide +kernel
theorem d_M_crash_31 : decode prog_9_method_33_code 31 = .ok (.ireturn, 1) := by decide +kernel
theorem d_M_host_0 : decode prog_9_method_34_code 0 = .ok (.iload_n 1, 1) := by decide +kernel
theorem d_M_host_1 : decode prog_9_method_34_code 1 = .ok (.iconst 0, 1) := by decide +kernel
theorem d_M_host_2 : decode prog_9_method_34_code 2 = .ok (.bipush 7, 2) := by decide +kernel
theorem d_M_host_4 : decode prog_9_method_34_code 4 = .ok (.invokestatic 78, 3) := by decide +kernel
theorem d_M_host_7 : decode prog_9_method_34_code 7 = .ok (.ifCond .ne 5, 3) := by decide +kernel
theorem d_M_host_10 : decode prog_9_method_34_code 10 = .ok (.iconst (-1), 1) := by decide +kernel
theorem d_M_host_11 : decode prog_9_method_34_code 11 = .ok (.ireturn, 1) := by decide +kernel
theorem d_M_host_12 : decode prog_9_method_34_code 12 = .ok (.aload_n 0, 1) := by decide +kernel
theorem d_M_host_13 : decode prog_9_method_34_code 13 = .ok (.getfield 7, 3) := by decide +kernel
theorem d_M_host_16 : decode prog_9_method_34_code 16 = .ok (.iload_n 1, 1) := by decide +kernel
theorem d_M_host_17 : decode prog_9_method_34_code 17 = .ok (.baload, 1) := by decide +kernel
theorem d_M_host_18 : decode prog_9_method_34_code 18 = .ok (.ifCond .ne 6, 3) := by decide +kernel
theorem d_M_host_21 : decode prog_9_method_34_code 21 = .ok (.bipush (-4), 2) := by decide +kernel
theorem d_M_host_23 : decode prog_9_method_34_code 23 = .ok (.ireturn, 1) := by decide +kernel
theorem d_M_host_24 : decode prog_9_method_34_code 24 = .ok (.iload_n 2, 1) := by decide +kernel
theorem d_M_host_25 : decode prog_9_method_34_code 25 = .ok (.ifCond .lt 13, 3) := by decide +kernel
theorem d_M_host_28 : decode prog_9_method_34_code 28 = .ok (.iload_n 2, 1) := by decide +kernel
theorem d_M_host_29 : decode prog_9_method_34_code 29 = .ok (.aload_n 0, 1) := by decide +kernel
theorem d_M_host_30 : decode prog_9_method_34_code 30 = .ok (.getfield 13, 3) := by decide +kernel
theorem d_M_host_33 : decode prog_9_method_34_code 33 = .ok (.iload_n 1, 1) := by decide +kernel
theorem d_M_host_34 : decode prog_9_method_34_code 34 = .ok (.iaload, 1) := by decide +kernel
theorem d_M_host_35 : decode prog_9_method_34_code 35 = .ok (.if_icmp .lt 8, 3) := by decide +kernel
theorem d_M_host_38 : decode prog_9_method_34_code 38 = .ok (.bipush (-7), 2) := by decide +kernel
theorem d_M_host_40 : decode prog_9_method_34_code 40 = .ok (.goto 14, 3) := by decide +kernel
theorem d_M_host_43 : decode prog_9_method_34_code 43 = .ok (.aload_n 0, 1) := by decide +kernel
theorem d_M_host_44 : decode prog_9_method_34_code 44 = .ok (.getfield 17, 3) := by decide +kernel
theorem d_M_host_47 : decode prog_9_method_34_code 47 = .ok (.bipush 32, 2) := by decide +kernel
theorem d_M_host_49 : decode prog_9_method_34_code 49 = .ok (.iload_n 1, 1) := by decide +kernel
theorem d_M_host_50 : decode prog_9_method_34_code 50 = .ok (.imul, 1) := by decide +kernel
theorem d_M_host_51 : decode prog_9_method_34_code 51 = .ok (.iload_n 2, 1) := by decide +kernel
theorem d_M_host_52 : decode prog_9_method_34_code 52 = .ok (.iadd, 1) := by decide +kernel
theorem d_M_host_53 : decode prog_9_method_34_code 53 = .ok (.iaload, 1) := by decide +kernel
theorem d_M_host_54 : decode prog_9_method_34_code 54 = .ok (.ireturn, 1) := by decide +kernel
theorem d_M_log_0 : decode prog_9_method_35_code 0 = .ok (.iload_n 1, 1) := by decide +kernel
theorem d_M_log_1 : decode prog_9_method_35_code 1 = .ok (.iconst 0, 1) := by decide +kernel
theorem d_M_log_2 : decode prog_9_method_35_code 2 = .ok (.bipush 15, 2) := by decide +kernel
theorem d_M_log_4 : decode prog_9_method_35_code 4 = .ok (.invokestatic 78, 3) := by decide +kernel
theorem d_M_log_7 : decode prog_9_method_35_code 7 = .ok (.ifCond .eq 20, 3) := by decide +kernel
theorem d_M_log_10 : decode prog_9_method_35_code 10 = .ok (.iload_n 1, 1) := by decide +kernel
theorem d_M_log_11 : decode prog_9_method_35_code 11 = .ok (.aload_n 0, 1) := by decide +kernel
theorem d_M_log_12 : decode prog_9_method_35_code 12 = .ok (.getfield 92, 3) := by decide +kernel
theorem d_M_log_15 : decode prog_9_method_35_code 15 = .ok (.if_icmp .ge 12, 3) := by decide +kernel
theorem d_M_log_18 : decode prog_9_method_35_code 18 = .ok (.aload_n 0, 1) := by decide +kernel
theorem d_M_log_19 : decode prog_9_method_35_code 19 = .ok (.getfield 68, 3) := by decide +kernel
theorem d_M_log_22 : decode prog_9_method_35_code 22 = .ok (.iload_n 1, 1) := by decide +kernel
theorem d_M_log_23 : decode prog_9_method_35_code 23 = .ok (.iaload, 1) := by decide +kernel
theorem d_M_log_24 : decode prog_9_method_35_code 24 = .ok (.goto 4, 3) := by decide +kernel
theorem d_M_log_27 : decode prog_9_method_35_code 27 = .ok (.iconst (-1), 1) := by decide +kernel
theorem d_M_log_28 : decode prog_9_method_35_code 28 = .ok (.ireturn, 1) := by decide +kernel
theorem d_M_cached_0 : decode prog_9_method_36_code 0 = .ok (.iload_n 1, 1) := by decide +kernel
theorem d_M_cached_1 : decode prog_9_method_36_code 1 = .ok (.ifCond .lt 36, 3) := by decide +kernel
theorem d_M_cached_4 : decode prog_9_method_36_code 4 = .ok (.iload_n 1, 1) := by decide +kernel
theorem d_M_cached_5 : decode prog_9_method_36_code 5 = .ok (.aload_n 0, 1) := by decide +kernel
theorem d_M_cached_6 : decode prog_9_method_36_code 6 = .ok (.getfield 74, 3) := by decide +kernel
theorem d_M_cached_9 : decode prog_9_method_36_code 9 = .ok (.if_icmp .ge 28, 3) := by decide +kernel
theorem d_M_cached_12 : decode prog_9_method_36_code 12 = .ok (.aload_n 0, 1) := by decide +kernel
theorem d_M_cached_13 : decode prog_9_method_36_code 13 = .ok (.getfield 26, 3) := by decide +kernel
theorem d_M_cached_16 : decode prog_9_method_36_code 16 = .ok (.iload_n 1, 1) := by decide +kernel
theorem d_M_cached_17 : decode prog_9_method_36_code 17 = .ok (.iaload, 1) := by decide +kernel
theorem d_M_cached_18 : decode prog_9_method_36_code 18 = .ok (.aload_n 0, 1) := by decide +kernel
theorem d_M_cached_19 : decode prog_9_method_36_code 19 = .ok (.getfield 29, 3) := by decide +kernel
theorem d_M_cached_22 : decode prog_9_method_36_code 22 = .ok (.iload_n 1, 1) := by decide +kernel
theorem d_M_cached_23 : decode prog_9_method_36_code 23 = .ok (.baload, 1) := by decide +kernel
theorem d_M_cached_24 : decode prog_9_method_36_code 24 = .ok (.ifCond .eq 8, 3) := by decide +kernel
theorem d_M_cached_27 : decode prog_9_method_36_code 27 = .ok (.bipush 32, 2) := by decide +kernel
theorem d_M_cached_29 : decode prog_9_method_36_code 29 = .ok (.goto 4, 3) := by decide +kernel
theorem d_M_cached_32 : decode prog_9_method_36_code 32 = .ok (.iconst 0, 1) := by decide +kernel
theorem d_M_cached_33 : decode prog_9_method_36_code 33 = .ok (.iadd, 1) := by decide +kernel
theorem d_M_cached_34 : decode prog_9_method_36_code 34 = .ok (.goto 4, 3) := by decide +kernel
theorem d_M_cached_37 : decode prog_9_method_36_code 37 = .ok (.iconst (-1), 1) := by decide +kernel
theorem d_M_cached_38 : decode prog_9_method_36_code 38 = .ok (.ireturn, 1) := by decide +kernel
theorem d_M_count_0 : decode prog_9_method_37_code 0 = .ok (.iconst 0, 1) := by decide +kernel
theorem d_M_count_1 : decode prog_9_method_37_code 1 = .ok (.istore_n 2, 1) := by decide +kernel
theorem d_M_count_2 : decode prog_9_method_37_code 2 = .ok (.iconst 0, 1) := by decide +kernel
theorem d_M_count_3 : decode prog_9_method_37_code 3 = .ok (.istore_n 3, 1) := by decide +kernel
theorem d_M_count_4 : decode prog_9_method_37_code 4 = .ok (.iconst 1, 1) := by decide +kernel
theorem d_M_count_5 : decode prog_9_method_37_code 5 = .ok (.istore 4, 2) := by decide +kernel
theorem d_M_count_7 : decode prog_9_method_37_code 7 = .ok (.iload 4, 2) := by decide +kernel
theorem d_M_count_9 : decode prog_9_method_37_code 9 = .ok (.bipush 7, 2) := by decide +kernel
theorem d_M_count_11 : decode prog_9_method_37_code 11 = .ok (.if_icmp .ge 22, 3) := by decide +kernel
theorem d_M_count_14 : decode prog_9_method_37_code 14 = .ok (.aload_n 0, 1) := by decide +kernel
theorem d_M_count_15 : decode prog_9_method_37_code 15 = .ok (.getfield 35, 3) := by decide +kernel
theorem d_M_count_18 : decode prog_9_method_37_code 18 = .ok (.iload 4, 2) := by decide +kernel
theorem d_M_count_20 : decode prog_9_method_37_code 20 = .ok (.baload, 1) := by decide +kernel
theorem d_M_count_21 : decode prog_9_method_37_code 21 = .ok (.ifCond .eq 6, 3) := by decide +kernel
theorem d_M_count_24 : decode prog_9_method_37_code 24 = .ok (.iinc 2 1, 3) := by decide +kernel
theorem d_M_count_27 : decode prog_9_method_37_code 27 = .ok (.iinc 4 1, 3) := by decide +kernel
theorem d_M_count_30 : decode prog_9_method_37_code 30 = .ok (.goto (-23), 3) := by decide +kernel
theorem d_M_count_33 : decode prog_9_method_37_code 33 = .ok (.iconst 0, 1) := by decide +kernel
theorem d_M_count_34 : decode prog_9_method_37_code 34 = .ok (.istore 4, 2) := by decide +kernel
theorem d_M_count_36 : decode prog_9_method_37_code 36 = .ok (.iload 4, 2) := by decide +kernel
theorem d_M_count_38 : decode prog_9_method_37_code 38 = .ok (.aload_n 0, 1) := by decide +kernel
theorem d_M_count_39 : decode prog_9_method_37_code 39 = .ok (.getfield 74, 3) := by decide +kernel
theorem d_M_count_42 : decode prog_9_method_37_code 42 = .ok (.if_icmp .ge 22, 3) := by decide +kernel
theorem d_M_count_45 : decode prog_9_method_37_code 45 = .ok (.aload_n 0, 1) := by decide +kernel
theorem d_M_count_46 : decode prog_9_method_37_code 46 = .ok (.getfield 29, 3) := by decide +kernel
theorem d_M_count_49 : decode prog_9_method_37_code 49 = .ok (.iload 4, 2) := by decide +kernel
theorem d_M_count_51 : decode prog_9_method_37_code 51 = .ok (.baload, 1) := by decide +kernel
theorem d_M_count_52 : decode prog_9_method_37_code 52 = .ok (.ifCond .eq 6, 3) := by decide +kernel
theorem d_M_count_55 : decode prog_9_method_37_code 55 = .ok (.iinc 3 1, 3) := by decide +kernel
theorem d_M_count_58 : decode prog_9_method_37_code 58 = .ok (.iinc 4 1, 3) := by decide +kernel
theorem d_M_count_61 : decode prog_9_method_37_code 61 = .ok (.goto (-25), 3) := by decide +kernel
theorem d_M_count_64 : decode prog_9_method_37_code 64 = .ok (.iload_n 1, 1) := by decide +kernel
theorem d_M_count_65 : decode prog_9_method_37_code 65 = .ok (.tableswitch 54 0 4 #[35, 40, 45, 47, 49], 35) := by decide +kernel
theorem d_M_count_100 : decode prog_9_method_37_code 100 = .ok (.aload_n 0, 1) := by decide +kernel
theorem d_M_count_101 : decode prog_9_method_37_code 101 = .ok (.getfield 92, 3) := by decide +kernel
theorem d_M_count_104 : decode prog_9_method_37_code 104 = .ok (.ireturn, 1) := by decide +kernel
theorem d_M_count_105 : decode prog_9_method_37_code 105 = .ok (.aload_n 0, 1) := by decide +kernel
theorem d_M_count_106 : decode prog_9_method_37_code 106 = .ok (.invokevirtual 115, 3) := by decide +kernel
theorem d_M_count_109 : decode prog_9_method_37_code 109 = .ok (.ireturn, 1) := by decide +kernel
theorem d_M_count_110 : decode prog_9_method_37_code 110 = .ok (.iload_n 2, 1) := by decide +kernel
theorem d_M_count_111 : decode prog_9_method_37_code 111 = .ok (.ireturn, 1) := by decide +kernel
theorem d_M_count_112 : decode prog_9_method_37_code 112 = .ok (.iload_n 3, 1) := by decide +kernel
theorem d_M_count_113 : decode prog_9_method_37_code 113 = .ok (.ireturn, 1) := by decide +kernel
theorem d_M_count_114 : decode prog_9_method_37_code 114 = .ok (.aload_n 0, 1) := by decide +kernel
theorem d_M_count_115 : decode prog_9_method_37_code 115 = .ok (.getfield 89, 3) := by decide +kernel
theorem d_M_count_118 : decode prog_9_method_37_code 118 = .ok (.ireturn, 1) := by decide +kernel
theorem d_M_count_119 : decode prog_9_method_37_code 119 = .ok (.iconst (-1), 1) := by decide +kernel
theorem d_M_count_120 : decode prog_9_method_37_code 120 = .ok (.ireturn, 1) := by decide +kernel
