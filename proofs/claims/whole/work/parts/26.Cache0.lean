/-! decode rows, by program -/
theorem d_Cache_init_0 : decode prog_3_method_1_code 0 = .ok (.aload_n 0, 1) := by decide +kernel
theorem d_Cache_init_1 : decode prog_3_method_1_code 1 = .ok (.invokespecial 3, 3) := by decide +kernel
theorem d_Cache_init_4 : decode prog_3_method_1_code 4 = .ok (.aload_n 0, 1) := by decide +kernel
theorem d_Cache_init_5 : decode prog_3_method_1_code 5 = .ok (.bipush 8, 2) := by decide +kernel
theorem d_Cache_init_7 : decode prog_3_method_1_code 7 = .ok (.newarray .int, 2) := by decide +kernel
theorem d_Cache_init_9 : decode prog_3_method_1_code 9 = .ok (.putfield 9, 3) := by decide +kernel
theorem d_Cache_init_12 : decode prog_3_method_1_code 12 = .ok (.aload_n 0, 1) := by decide +kernel
theorem d_Cache_init_13 : decode prog_3_method_1_code 13 = .ok (.iconst 5, 1) := by decide +kernel
theorem d_Cache_init_14 : decode prog_3_method_1_code 14 = .ok (.anewarray 15, 3) := by decide +kernel
theorem d_Cache_init_17 : decode prog_3_method_1_code 17 = .ok (.putfield 17, 3) := by decide +kernel
theorem d_Cache_init_20 : decode prog_3_method_1_code 20 = .ok (.aload_n 0, 1) := by decide +kernel
theorem d_Cache_init_21 : decode prog_3_method_1_code 21 = .ok (.iconst 0, 1) := by decide +kernel
theorem d_Cache_init_22 : decode prog_3_method_1_code 22 = .ok (.putfield 21, 3) := by decide +kernel
theorem d_Cache_init_25 : decode prog_3_method_1_code 25 = .ok (.aload_n 0, 1) := by decide +kernel
theorem d_Cache_init_26 : decode prog_3_method_1_code 26 = .ok (.aload_n 1, 1) := by decide +kernel
theorem d_Cache_init_27 : decode prog_3_method_1_code 27 = .ok (.putfield 25, 3) := by decide +kernel
theorem d_Cache_init_30 : decode prog_3_method_1_code 30 = .ok (.iconst 0, 1) := by decide +kernel
theorem d_Cache_init_31 : decode prog_3_method_1_code 31 = .ok (.istore_n 2, 1) := by decide +kernel
theorem d_Cache_init_32 : decode prog_3_method_1_code 32 = .ok (.iload_n 2, 1) := by decide +kernel
theorem d_Cache_init_33 : decode prog_3_method_1_code 33 = .ok (.iconst 5, 1) := by decide +kernel
theorem d_Cache_init_34 : decode prog_3_method_1_code 34 = .ok (.if_icmp .ge 22, 3) := by decide +kernel
theorem d_Cache_init_37 : decode prog_3_method_1_code 37 = .ok (.aload_n 0, 1) := by decide +kernel
theorem d_Cache_init_38 : decode prog_3_method_1_code 38 = .ok (.getfield 17, 3) := by decide +kernel
theorem d_Cache_init_41 : decode prog_3_method_1_code 41 = .ok (.iload_n 2, 1) := by decide +kernel
theorem d_Cache_init_42 : decode prog_3_method_1_code 42 = .ok (.new 15, 3) := by decide +kernel
theorem d_Cache_init_45 : decode prog_3_method_1_code 45 = .ok (.dup, 1) := by decide +kernel
theorem d_Cache_init_46 : decode prog_3_method_1_code 46 = .ok (.invokespecial 29, 3) := by decide +kernel
theorem d_Cache_init_49 : decode prog_3_method_1_code 49 = .ok (.aastore, 1) := by decide +kernel
theorem d_Cache_init_50 : decode prog_3_method_1_code 50 = .ok (.iinc 2 1, 3) := by decide +kernel
theorem d_Cache_init_53 : decode prog_3_method_1_code 53 = .ok (.goto (-21), 3) := by decide +kernel
theorem d_Cache_init_56 : decode prog_3_method_1_code 56 = .ok (.return_, 1) := by decide +kernel
theorem d_Cache_holdsFile_0 : decode prog_3_method_6_code 0 = .ok (.iconst 0, 1) := by decide +kernel
theorem d_Cache_holdsFile_1 : decode prog_3_method_6_code 1 = .ok (.istore_n 2, 1) := by decide +kernel
theorem d_Cache_holdsFile_2 : decode prog_3_method_6_code 2 = .ok (.iload_n 2, 1) := by decide +kernel
theorem d_Cache_holdsFile_3 : decode prog_3_method_6_code 3 = .ok (.aload_n 0, 1) := by decide +kernel
theorem d_Cache_holdsFile_4 : decode prog_3_method_6_code 4 = .ok (.getfield 21, 3) := by decide +kernel
theorem d_Cache_holdsFile_7 : decode prog_3_method_6_code 7 = .ok (.if_icmp .ge 24, 3) := by decide +kernel
theorem d_Cache_holdsFile_10 : decode prog_3_method_6_code 10 = .ok (.aload_n 0, 1) := by decide +kernel
theorem d_Cache_holdsFile_11 : decode prog_3_method_6_code 11 = .ok (.getfield 17, 3) := by decide +kernel
theorem d_Cache_holdsFile_14 : decode prog_3_method_6_code 14 = .ok (.iload_n 2, 1) := by decide +kernel
theorem d_Cache_holdsFile_15 : decode prog_3_method_6_code 15 = .ok (.aaload, 1) := by decide +kernel
theorem d_Cache_holdsFile_16 : decode prog_3_method_6_code 16 = .ok (.getfield 30, 3) := by decide +kernel
theorem d_Cache_holdsFile_19 : decode prog_3_method_6_code 19 = .ok (.iload_n 1, 1) := by decide +kernel
theorem d_Cache_holdsFile_20 : decode prog_3_method_6_code 20 = .ok (.if_icmp .ne 5, 3) := by decide +kernel
theorem d_Cache_holdsFile_23 : decode prog_3_method_6_code 23 = .ok (.iconst 1, 1) := by decide +kernel
theorem d_Cache_holdsFile_24 : decode prog_3_method_6_code 24 = .ok (.ireturn, 1) := by decide +kernel
theorem d_Cache_holdsFile_25 : decode prog_3_method_6_code 25 = .ok (.iinc 2 1, 3) := by decide +kernel
theorem d_Cache_holdsFile_28 : decode prog_3_method_6_code 28 = .ok (.goto (-26), 3) := by decide +kernel
theorem d_Cache_holdsFile_31 : decode prog_3_method_6_code 31 = .ok (.iconst 0, 1) := by decide +kernel
theorem d_Cache_holdsFile_32 : decode prog_3_method_6_code 32 = .ok (.ireturn, 1) := by decide +kernel
theorem d_Cache_setLength_0 : decode prog_3_method_3_code 0 = .ok (.aload_n 0, 1) := by decide +kernel
theorem d_Cache_setLength_1 : decode prog_3_method_3_code 1 = .ok (.getfield 9, 3) := by decide +kernel
theorem d_Cache_setLength_4 : decode prog_3_method_3_code 4 = .ok (.iload_n 1, 1) := by decide +kernel
theorem d_Cache_setLength_5 : decode prog_3_method_3_code 5 = .ok (.iload_n 2, 1) := by decide +kernel
theorem d_Cache_setLength_6 : decode prog_3_method_3_code 6 = .ok (.iastore, 1) := by decide +kernel
theorem d_Cache_setLength_7 : decode prog_3_method_3_code 7 = .ok (.return_, 1) := by decide +kernel
theorem d_Cache_dropFile_0 : decode prog_3_method_10_code 0 = .ok (.iconst 0, 1) := by decide +kernel
theorem d_Cache_dropFile_1 : decode prog_3_method_10_code 1 = .ok (.istore_n 2, 1) := by decide +kernel
theorem d_Cache_dropFile_2 : decode prog_3_method_10_code 2 = .ok (.iconst 0, 1) := by decide +kernel
theorem d_Cache_dropFile_3 : decode prog_3_method_10_code 3 = .ok (.istore_n 3, 1) := by decide +kernel
theorem d_Cache_dropFile_4 : decode prog_3_method_10_code 4 = .ok (.iload_n 3, 1) := by decide +kernel
theorem d_Cache_dropFile_5 : decode prog_3_method_10_code 5 = .ok (.aload_n 0, 1) := by decide +kernel
theorem d_Cache_dropFile_6 : decode prog_3_method_10_code 6 = .ok (.getfield 21, 3) := by decide +kernel
theorem d_Cache_dropFile_9 : decode prog_3_method_10_code 9 = .ok (.if_icmp .ge 49, 3) := by decide +kernel
theorem d_Cache_dropFile_12 : decode prog_3_method_10_code 12 = .ok (.aload_n 0, 1) := by decide +kernel
theorem d_Cache_dropFile_13 : decode prog_3_method_10_code 13 = .ok (.getfield 17, 3) := by decide +kernel
theorem d_Cache_dropFile_16 : decode prog_3_method_10_code 16 = .ok (.iload_n 3, 1) := by decide +kernel
theorem d_Cache_dropFile_17 : decode prog_3_method_10_code 17 = .ok (.aaload, 1) := by decide +kernel
theorem d_Cache_dropFile_18 : decode prog_3_method_10_code 18 = .ok (.astore 4, 2) := by decide +kernel
theorem d_Cache_dropFile_20 : decode prog_3_method_10_code 20 = .ok (.aload 4, 2) := by decide +kernel
theorem d_Cache_dropFile_22 : decode prog_3_method_10_code 22 = .ok (.getfield 30, 3) := by decide +kernel
theorem d_Cache_dropFile_25 : decode prog_3_method_10_code 25 = .ok (.iload_n 1, 1) := by decide +kernel
theorem d_Cache_dropFile_26 : decode prog_3_method_10_code 26 = .ok (.if_icmp .eq 26, 3) := by decide +kernel
theorem d_Cache_dropFile_29 : decode prog_3_method_10_code 29 = .ok (.aload_n 0, 1) := by decide +kernel
theorem d_Cache_dropFile_30 : decode prog_3_method_10_code 30 = .ok (.getfield 17, 3) := by decide +kernel
theorem d_Cache_dropFile_33 : decode prog_3_method_10_code 33 = .ok (.iload_n 3, 1) := by decide +kernel
theorem d_Cache_dropFile_34 : decode prog_3_method_10_code 34 = .ok (.aload_n 0, 1) := by decide +kernel
theorem d_Cache_dropFile_35 : decode prog_3_method_10_code 35 = .ok (.getfield 17, 3) := by decide +kernel
theorem d_Cache_dropFile_38 : decode prog_3_method_10_code 38 = .ok (.iload_n 2, 1) := by decide +kernel
theorem d_Cache_dropFile_39 : decode prog_3_method_10_code 39 = .ok (.aaload, 1) := by decide +kernel
theorem d_Cache_dropFile_40 : decode prog_3_method_10_code 40 = .ok (.aastore, 1) := by decide +kernel
theorem d_Cache_dropFile_41 : decode prog_3_method_10_code 41 = .ok (.aload_n 0, 1) := by decide +kernel
theorem d_Cache_dropFile_42 : decode prog_3_method_10_code 42 = .ok (.getfield 17, 3) := by decide +kernel
theorem d_Cache_dropFile_45 : decode prog_3_method_10_code 45 = .ok (.iload_n 2, 1) := by decide +kernel
theorem d_Cache_dropFile_46 : decode prog_3_method_10_code 46 = .ok (.aload 4, 2) := by decide +kernel
theorem d_Cache_dropFile_48 : decode prog_3_method_10_code 48 = .ok (.aastore, 1) := by decide +kernel
theorem d_Cache_dropFile_49 : decode prog_3_method_10_code 49 = .ok (.iinc 2 1, 3) := by decide +kernel
theorem d_Cache_dropFile_52 : decode prog_3_method_10_code 52 = .ok (.iinc 3 1, 3) := by decide +kernel
theorem d_Cache_dropFile_55 : decode prog_3_method_10_code 55 = .ok (.goto (-51), 3) := by decide +kernel
theorem d_Cache_dropFile_58 : decode prog_3_method_10_code 58 = .ok (.aload_n 0, 1) := by decide +kernel
theorem d_Cache_dropFile_59 : decode prog_3_method_10_code 59 = .ok (.iload_n 2, 1) := by decide +kernel
theorem d_Cache_dropFile_60 : decode prog_3_method_10_code 60 = .ok (.putfield 21, 3) := by decide +kernel
theorem d_Cache_dropFile_63 : decode prog_3_method_10_code 63 = .ok (.return_, 1) := by decide +kernel
theorem d_Cache_lengthOf_0 : decode prog_3_method_2_code 0 = .ok (.aload_n 0, 1) := by decide +kernel
theorem d_Cache_lengthOf_1 : decode prog_3_method_2_code 1 = .ok (.getfield 9, 3) := by decide +kernel
theorem d_Cache_lengthOf_4 : decode prog_3_method_2_code 4 = .ok (.iload_n 1, 1) := by decide +kernel
theorem d_Cache_lengthOf_5 : decode prog_3_method_2_code 5 = .ok (.iaload, 1) := by decide +kernel
theorem d_Cache_lengthOf_6 : decode prog_3_method_2_code 6 = .ok (.ireturn, 1) := by decide +kernel
theorem d_Cache_getBlock_0 : decode prog_3_method_8_code 0 = .ok (.aload_n 0, 1) := by decide +kernel
theorem d_Cache_getBlock_1 : decode prog_3_method_8_code 1 = .ok (.iload_n 1, 1) := by decide +kernel
theorem d_Cache_getBlock_2 : decode prog_3_method_8_code 2 = .ok (.iload_n 2, 1) := by decide +kernel
theorem d_Cache_getBlock_3 : decode prog_3_method_8_code 3 = .ok (.invokevirtual 37, 3) := by decide +kernel
theorem d_Cache_getBlock_6 : decode prog_3_method_8_code 6 = .ok (.istore_n 3, 1) := by decide +kernel
theorem d_Cache_getBlock_7 : decode prog_3_method_8_code 7 = .ok (.iload_n 3, 1) := by decide +kernel
theorem d_Cache_getBlock_8 : decode prog_3_method_8_code 8 = .ok (.iconst (-1), 1) := by decide +kernel
theorem d_Cache_getBlock_9 : decode prog_3_method_8_code 9 = .ok (.if_icmp .ne 28, 3) := by decide +kernel
theorem d_Cache_getBlock_12 : decode prog_3_method_8_code 12 = .ok (.aload_n 0, 1) := by decide +kernel
theorem d_Cache_getBlock_13 : decode prog_3_method_8_code 13 = .ok (.invokevirtual 41, 3) := by decide +kernel
theorem d_Cache_getBlock_16 : decode prog_3_method_8_code 16 = .ok (.ifCond .eq 12, 3) := by decide +kernel
theorem d_Cache_getBlock_19 : decode prog_3_method_8_code 19 = .ok (.aload_n 0, 1) := by decide +kernel
theorem d_Cache_getBlock_20 : decode prog_3_method_8_code 20 = .ok (.iload_n 1, 1) := by decide +kernel
theorem d_Cache_getBlock_21 : decode prog_3_method_8_code 21 = .ok (.iload_n 2, 1) := by decide +kernel
theorem d_Cache_getBlock_22 : decode prog_3_method_8_code 22 = .ok (.invokevirtual 45, 3) := by decide +kernel
theorem d_Cache_getBlock_25 : decode prog_3_method_8_code 25 = .ok (.ifCond .ne 5, 3) := by decide +kernel
theorem d_Cache_getBlock_28 : decode prog_3_method_8_code 28 = .ok (.aconst_null, 1) := by decide +kernel
theorem d_Cache_getBlock_29 : decode prog_3_method_8_code 29 = .ok (.areturn, 1) := by decide +kernel
theorem d_Cache_getBlock_30 : decode prog_3_method_8_code 30 = .ok (.aload_n 0, 1) := by decide +kernel
theorem d_Cache_getBlock_31 : decode prog_3_method_8_code 31 = .ok (.getfield 21, 3) := by decide +kernel
theorem d_Cache_getBlock_34 : decode prog_3_method_8_code 34 = .ok (.iconst 1, 1) := by decide +kernel
theorem d_Cache_getBlock_35 : decode prog_3_method_8_code 35 = .ok (.isub, 1) := by decide +kernel
theorem d_Cache_getBlock_36 : decode prog_3_method_8_code 36 = .ok (.istore_n 3, 1) := by decide +kernel
theorem d_Cache_getBlock_37 : decode prog_3_method_8_code 37 = .ok (.aload_n 0, 1) := by decide +kernel
theorem d_Cache_getBlock_38 : decode prog_3_method_8_code 38 = .ok (.getfield 17, 3) := by decide +kernel
theorem d_Cache_getBlock_41 : decode prog_3_method_8_code 41 = .ok (.iload_n 3, 1) := by decide +kernel
theorem d_Cache_getBlock_42 : decode prog_3_method_8_code 42 = .ok (.aaload, 1) := by decide +kernel
theorem d_Cache_getBlock_43 : decode prog_3_method_8_code 43 = .ok (.astore 4, 2) := by decide +kernel
theorem d_Cache_getBlock_45 : decode prog_3_method_8_code 45 = .ok (.iload_n 3, 1) := by decide +kernel
theorem d_Cache_getBlock_46 : decode prog_3_method_8_code 46 = .ok (.istore 5, 2) := by decide +kernel
theorem d_Cache_getBlock_48 : decode prog_3_method_8_code 48 = .ok (.iload 5, 2) := by decide +kernel
theorem d_Cache_getBlock_50 : decode prog_3_method_8_code 50 = .ok (.ifCond .le 25, 3) := by decide +kernel
theorem d_Cache_getBlock_53 : decode prog_3_method_8_code 53 = .ok (.aload_n 0, 1) := by decide +kernel
theorem d_Cache_getBlock_54 : decode prog_3_method_8_code 54 = .ok (.getfield 17, 3) := by decide +kernel
theorem d_Cache_getBlock_57 : decode prog_3_method_8_code 57 = .ok (.iload 5, 2) := by decide +kernel
theorem d_Cache_getBlock_59 : decode prog_3_method_8_code 59 = .ok (.aload_n 0, 1) := by decide +kernel
theorem d_Cache_getBlock_60 : decode prog_3_method_8_code 60 = .ok (.getfield 17, 3) := by decide +kernel
theorem d_Cache_getBlock_63 : decode prog_3_method_8_code 63 = .ok (.iload 5, 2) := by decide +kernel
theorem d_Cache_getBlock_65 : decode prog_3_method_8_code 65 = .ok (.iconst 1, 1) := by decide +kernel
theorem d_Cache_getBlock_66 : decode prog_3_method_8_code 66 = .ok (.isub, 1) := by decide +kernel
theorem d_Cache_getBlock_67 : decode prog_3_method_8_code 67 = .ok (.aaload, 1) := by decide +kernel
theorem d_Cache_getBlock_68 : decode prog_3_method_8_code 68 = .ok (.aastore, 1) := by decide +kernel
theorem d_Cache_getBlock_69 : decode prog_3_method_8_code 69 = .ok (.iinc 5 (-1), 3) := by decide +kernel
theorem d_Cache_getBlock_72 : decode prog_3_method_8_code 72 = .ok (.goto (-24), 3) := by decide +kernel
theorem d_Cache_getBlock_75 : decode prog_3_method_8_code 75 = .ok (.aload_n 0, 1) := by decide +kernel
theorem d_Cache_getBlock_76 : decode prog_3_method_8_code 76 = .ok (.getfield 17, 3) := by decide +kernel
theorem d_Cache_getBlock_79 : decode prog_3_method_8_code 79 = .ok (.iconst 0, 1) := by decide +kernel
theorem d_Cache_getBlock_80 : decode prog_3_method_8_code 80 = .ok (.aload 4, 2) := by decide +kernel
theorem d_Cache_getBlock_82 : decode prog_3_method_8_code 82 = .ok (.aastore, 1) := by decide +kernel
theorem d_Cache_getBlock_83 : decode prog_3_method_8_code 83 = .ok (.aload 4, 2) := by decide +kernel
theorem d_Cache_getBlock_85 : decode prog_3_method_8_code 85 = .ok (.areturn, 1) := by decide +kernel
theorem d_Cache_find_0 : decode prog_3_method_12_code 0 = .ok (.iconst 0, 1) := by decide +kernel
theorem d_Cache_find_1 : decode prog_3_method_12_code 1 = .ok (.istore_n 3, 1) := by decide +kernel
theorem d_Cache_find_2 : decode prog_3_method_12_code 2 = .ok (.iload_n 3, 1) := by decide +kernel
theorem d_Cache_find_3 : decode prog_3_method_12_code 3 = .ok (.aload_n 0, 1) := by decide +kernel
theorem d_Cache_find_4 : decode prog_3_method_12_code 4 = .ok (.getfield 21, 3) := by decide +kernel
theorem d_Cache_find_7 : decode prog_3_method_12_code 7 = .ok (.if_icmp .ge 25, 3) := by decide +kernel
theorem d_Cache_find_10 : decode prog_3_method_12_code 10 = .ok (.aload_n 0, 1) := by decide +kernel
theorem d_Cache_find_11 : decode prog_3_method_12_code 11 = .ok (.getfield 17, 3) := by decide +kernel
theorem d_Cache_find_14 : decode prog_3_method_12_code 14 = .ok (.iload_n 3, 1) := by decide +kernel
theorem d_Cache_find_15 : decode prog_3_method_12_code 15 = .ok (.aaload, 1) := by decide +kernel
theorem d_Cache_find_16 : decode prog_3_method_12_code 16 = .ok (.iload_n 1, 1) := by decide +kernel
theorem d_Cache_find_17 : decode prog_3_method_12_code 17 = .ok (.iload_n 2, 1) := by decide +kernel
theorem d_Cache_find_18 : decode prog_3_method_12_code 18 = .ok (.invokevirtual 59, 3) := by decide +kernel
theorem d_Cache_find_21 : decode prog_3_method_12_code 21 = .ok (.ifCond .eq 5, 3) := by decide +kernel
theorem d_Cache_find_24 : decode prog_3_method_12_code 24 = .ok (.iload_n 3, 1) := by decide +kernel
theorem d_Cache_find_25 : decode prog_3_method_12_code 25 = .ok (.ireturn, 1) := by decide +kernel
theorem d_Cache_find_26 : decode prog_3_method_12_code 26 = .ok (.iinc 3 1, 3) := by decide +kernel
theorem d_Cache_find_29 : decode prog_3_method_12_code 29 = .ok (.goto (-27), 3) := by decide +kernel
theorem d_Cache_find_32 : decode prog_3_method_12_code 32 = .ok (.iconst (-1), 1) := by decide +kernel
theorem d_Cache_find_33 : decode prog_3_method_12_code 33 = .ok (.ireturn, 1) := by decide +kernel
theorem d_Cache_makeRoom_0 : decode prog_3_method_13_code 0 = .ok (.aload_n 0, 1) := by decide +kernel
theorem d_Cache_makeRoom_1 : decode prog_3_method_13_code 1 = .ok (.getfield 21, 3) := by decide +kernel
theorem d_Cache_makeRoom_4 : decode prog_3_method_13_code 4 = .ok (.iconst 5, 1) := by decide +kernel
theorem d_Cache_makeRoom_5 : decode prog_3_method_13_code 5 = .ok (.if_icmp .ge 5, 3) := by decide +kernel
theorem d_Cache_makeRoom_8 : decode prog_3_method_13_code 8 = .ok (.iconst 1, 1) := by decide +kernel
theorem d_Cache_makeRoom_9 : decode prog_3_method_13_code 9 = .ok (.ireturn, 1) := by decide +kernel
theorem d_Cache_makeRoom_10 : decode prog_3_method_13_code 10 = .ok (.aload_n 0, 1) := by decide +kernel
theorem d_Cache_makeRoom_11 : decode prog_3_method_13_code 11 = .ok (.getfield 17, 3) := by decide +kernel
theorem d_Cache_makeRoom_14 : decode prog_3_method_13_code 14 = .ok (.aload_n 0, 1) := by decide +kernel
theorem d_Cache_makeRoom_15 : decode prog_3_method_13_code 15 = .ok (.getfield 21, 3) := by decide +kernel
theorem d_Cache_makeRoom_18 : decode prog_3_method_13_code 18 = .ok (.iconst 1, 1) := by decide +kernel
theorem d_Cache_makeRoom_19 : decode prog_3_method_13_code 19 = .ok (.isub, 1) := by decide +kernel
theorem d_Cache_makeRoom_20 : decode prog_3_method_13_code 20 = .ok (.aaload, 1) := by decide +kernel
theorem d_Cache_makeRoom_21 : decode prog_3_method_13_code 21 = .ok (.astore_n 1, 1) := by decide +kernel
theorem d_Cache_makeRoom_22 : decode prog_3_method_13_code 22 = .ok (.aload_n 1, 1) := by decide +kernel
theorem d_Cache_makeRoom_23 : decode prog_3_method_13_code 23 = .ok (.getfield 33, 3) := by decide +kernel
theorem d_Cache_makeRoom_26 : decode prog_3_method_13_code 26 = .ok (.ifCond .eq 13, 3) := by decide +kernel
theorem d_Cache_makeRoom_29 : decode prog_3_method_13_code 29 = .ok (.aload_n 0, 1) := by decide +kernel
theorem d_Cache_makeRoom_30 : decode prog_3_method_13_code 30 = .ok (.aload_n 1, 1) := by decide +kernel
theorem d_Cache_makeRoom_31 : decode prog_3_method_13_code 31 = .ok (.invokevirtual 49, 3) := by decide +kernel
theorem d_Cache_makeRoom_34 : decode prog_3_method_13_code 34 = .ok (.ifCond .ne 5, 3) := by decide +kernel
theorem d_Cache_makeRoom_37 : decode prog_3_method_13_code 37 = .ok (.iconst 0, 1) := by decide +kernel
theorem d_Cache_makeRoom_38 : decode prog_3_method_13_code 38 = .ok (.ireturn, 1) := by decide +kernel
theorem d_Cache_makeRoom_39 : decode prog_3_method_13_code 39 = .ok (.aload_n 0, 1) := by decide +kernel
theorem d_Cache_makeRoom_40 : decode prog_3_method_13_code 40 = .ok (.dup, 1) := by decide +kernel
theorem d_Cache_makeRoom_41 : decode prog_3_method_13_code 41 = .ok (.getfield 21, 3) := by decide +kernel
theorem d_Cache_makeRoom_44 : decode prog_3_method_13_code 44 = .ok (.iconst 1, 1) := by decide +kernel
theorem d_Cache_makeRoom_45 : decode prog_3_method_13_code 45 = .ok (.isub, 1) := by decide +kernel
theorem d_Cache_makeRoom_46 : decode prog_3_method_13_code 46 = .ok (.putfield 21, 3) := by decide +kernel
theorem d_Cache_makeRoom_49 : decode prog_3_method_13_code 49 = .ok (.iconst 1, 1) := by decide +kernel
theorem d_Cache_makeRoom_50 : decode prog_3_method_13_code 50 = .ok (.ireturn, 1) := by decide +kernel
theorem d_Cache_writeOut_0 : decode prog_3_method_15_code 0 = .ok (.aload_n 0, 1) := by decide +kernel
theorem d_Cache_writeOut_1 : decode prog_3_method_15_code 1 = .ok (.getfield 25, 3) := by decide +kernel
theorem d_Cache_writeOut_4 : decode prog_3_method_15_code 4 = .ok (.aload_n 1, 1) := by decide +kernel
theorem d_Cache_writeOut_5 : decode prog_3_method_15_code 5 = .ok (.getfield 30, 3) := by decide +kernel
theorem d_Cache_writeOut_8 : decode prog_3_method_15_code 8 = .ok (.aload_n 1, 1) := by decide +kernel
theorem d_Cache_writeOut_9 : decode prog_3_method_15_code 9 = .ok (.getfield 75, 3) := by decide +kernel
theorem d_Cache_writeOut_12 : decode prog_3_method_15_code 12 = .ok (.aload_n 1, 1) := by decide +kernel
theorem d_Cache_writeOut_13 : decode prog_3_method_15_code 13 = .ok (.getfield 62, 3) := by decide +kernel
theorem d_Cache_writeOut_16 : decode prog_3_method_15_code 16 = .ok (.aload_n 0, 1) := by decide +kernel
theorem d_Cache_writeOut_17 : decode prog_3_method_15_code 17 = .ok (.getfield 9, 3) := by decide +kernel
theorem d_Cache_writeOut_20 : decode prog_3_method_15_code 20 = .ok (.aload_n 1, 1) := by decide +kernel
theorem d_Cache_writeOut_21 : decode prog_3_method_15_code 21 = .ok (.getfield 30, 3) := by decide +kernel
theorem d_Cache_writeOut_24 : decode prog_3_method_15_code 24 = .ok (.iaload, 1) := by decide +kernel
theorem d_Cache_writeOut_25 : decode prog_3_method_15_code 25 = .ok (.invokevirtual 78, 3) := by decide +kernel
theorem d_Cache_writeOut_28 : decode prog_3_method_15_code 28 = .ok (.ifCond .ne 5, 3) := by decide +kernel
theorem d_Cache_writeOut_31 : decode prog_3_method_15_code 31 = .ok (.iconst 0, 1) := by decide +kernel
theorem d_Cache_writeOut_32 : decode prog_3_method_15_code 32 = .ok (.ireturn, 1) := by decide +kernel
theorem d_Cache_writeOut_33 : decode prog_3_method_15_code 33 = .ok (.aload_n 1, 1) := by decide +kernel
theorem d_Cache_writeOut_34 : decode prog_3_method_15_code 34 = .ok (.iconst 0, 1) := by decide +kernel
theorem d_Cache_writeOut_35 : decode prog_3_method_15_code 35 = .ok (.putfield 33, 3) := by decide +kernel
theorem d_Cache_writeOut_38 : decode prog_3_method_15_code 38 = .ok (.iconst 1, 1) := by decide +kernel
theorem d_Cache_writeOut_39 : decode prog_3_method_15_code 39 = .ok (.ireturn, 1) := by decide +kernel
theorem d_Cache_bringIn_0 : decode prog_3_method_14_code 0 = .ok (.aload_n 0, 1) := by decide +kernel
theorem d_Cache_bringIn_1 : decode prog_3_method_14_code 1 = .ok (.getfield 17, 3) := by decide +kernel
theorem d_Cache_bringIn_4 : decode prog_3_method_14_code 4 = .ok (.aload_n 0, 1) := by decide +kernel
theorem d_Cache_bringIn_5 : decode prog_3_method_14_code 5 = .ok (.getfield 21, 3) := by decide +kernel
theorem d_Cache_bringIn_8 : decode prog_3_method_14_code 8 = .ok (.aaload, 1) := by decide +kernel
theorem d_Cache_bringIn_9 : decode prog_3_method_14_code 9 = .ok (.astore_n 3, 1) := by decide +kernel
theorem d_Cache_bringIn_10 : decode prog_3_method_14_code 10 = .ok (.iload_n 2, 1) := by decide +kernel
theorem d_Cache_bringIn_11 : decode prog_3_method_14_code 11 = .ok (.bipush 8, 2) := by decide +kernel
theorem d_Cache_bringIn_13 : decode prog_3_method_14_code 13 = .ok (.imul, 1) := by decide +kernel
theorem d_Cache_bringIn_14 : decode prog_3_method_14_code 14 = .ok (.aload_n 0, 1) := by decide +kernel
theorem d_Cache_bringIn_15 : decode prog_3_method_14_code 15 = .ok (.getfield 9, 3) := by decide +kernel
theorem d_Cache_bringIn_18 : decode prog_3_method_14_code 18 = .ok (.iload_n 1, 1) := by decide +kernel
theorem d_Cache_bringIn_19 : decode prog_3_method_14_code 19 = .ok (.iaload, 1) := by decide +kernel
theorem d_Cache_bringIn_20 : decode prog_3_method_14_code 20 = .ok (.if_icmp .lt 14, 3) := by decide +kernel
theorem d_Cache_bringIn_23 : decode prog_3_method_14_code 23 = .ok (.aload_n 3, 1) := by decide +kernel
theorem d_Cache_bringIn_24 : decode prog_3_method_14_code 24 = .ok (.getfield 62, 3) := by decide +kernel
theorem d_Cache_bringIn_27 : decode prog_3_method_14_code 27 = .ok (.iconst 0, 1) := by decide +kernel
theorem d_Cache_bringIn_28 : decode prog_3_method_14_code 28 = .ok (.invokestatic 65, 3) := by decide +kernel
theorem d_Cache_bringIn_31 : decode prog_3_method_14_code 31 = .ok (.goto 21, 3) := by decide +kernel
theorem d_Cache_bringIn_34 : decode prog_3_method_14_code 34 = .ok (.aload_n 0, 1) := by decide +kernel
theorem d_Cache_bringIn_35 : decode prog_3_method_14_code 35 = .ok (.getfield 25, 3) := by decide +kernel
theorem d_Cache_bringIn_38 : decode prog_3_method_14_code 38 = .ok (.iload_n 1, 1) := by decide +kernel
theorem d_Cache_bringIn_39 : decode prog_3_method_14_code 39 = .ok (.iload_n 2, 1) := by decide +kernel
theorem d_Cache_bringIn_40 : decode prog_3_method_14_code 40 = .ok (.aload_n 3, 1) := by decide +kernel
theorem d_Cache_bringIn_41 : decode prog_3_method_14_code 41 = .ok (.getfield 62, 3) := by decide +kernel
theorem d_Cache_bringIn_44 : decode prog_3_method_14_code 44 = .ok (.invokevirtual 71, 3) := by decide +kernel
theorem d_Cache_bringIn_47 : decode prog_3_method_14_code 47 = .ok (.ifCond .ne 5, 3) := by decide +kernel
theorem d_Cache_bringIn_50 : decode prog_3_method_14_code 50 = .ok (.iconst 0, 1) := by decide +kernel
theorem d_Cache_bringIn_51 : decode prog_3_method_14_code 51 = .ok (.ireturn, 1) := by decide +kernel
theorem d_Cache_bringIn_52 : decode prog_3_method_14_code 52 = .ok (.aload_n 3, 1) := by decide +kernel
theorem d_Cache_bringIn_53 : decode prog_3_method_14_code 53 = .ok (.iload_n 1, 1) := by decide +kernel
theorem d_Cache_bringIn_54 : decode prog_3_method_14_code 54 = .ok (.putfield 30, 3) := by decide +kernel
theorem d_Cache_bringIn_57 : decode prog_3_method_14_code 57 = .ok (.aload_n 3, 1) := by decide +kernel
theorem d_Cache_bringIn_58 : decode prog_3_method_14_code 58 = .ok (.iload_n 2, 1) := by decide +kernel
theorem d_Cache_bringIn_59 : decode prog_3_method_14_code 59 = .ok (.putfield 75, 3) := by decide +kernel
theorem d_Cache_bringIn_62 : decode prog_3_method_14_code 62 = .ok (.aload_n 3, 1) := by decide +kernel
theorem d_Cache_bringIn_63 : decode prog_3_method_14_code 63 = .ok (.iconst 0, 1) := by decide +kernel
theorem d_Cache_bringIn_64 : decode prog_3_method_14_code 64 = .ok (.putfield 33, 3) := by decide +kernel
theorem d_Cache_bringIn_67 : decode prog_3_method_14_code 67 = .ok (.aload_n 0, 1) := by decide +kernel
theorem d_Cache_bringIn_68 : decode prog_3_method_14_code 68 = .ok (.dup, 1) := by decide +kernel
theorem d_Cache_bringIn_69 : decode prog_3_method_14_code 69 = .ok (.getfield 21, 3) := by decide +kernel
theorem d_Cache_bringIn_72 : decode prog_3_method_14_code 72 = .ok (.iconst 1, 1) := by decide +kernel
theorem d_Cache_bringIn_73 : decode prog_3_method_14_code 73 = .ok (.iadd, 1) := by decide +kernel
theorem d_Cache_bringIn_74 : decode prog_3_method_14_code 74 = .ok (.putfield 21, 3) := by decide +kernel
theorem d_Cache_bringIn_77 : decode prog_3_method_14_code 77 = .ok (.iconst 1, 1) := by decide +kernel
theorem d_Cache_bringIn_78 : decode prog_3_method_14_code 78 = .ok (.ireturn, 1) := by decide +kernel
theorem d_Cache_writeFileOut_0 : decode prog_3_method_9_code 0 = .ok (.iconst 0, 1) := by decide +kernel
theorem d_Cache_writeFileOut_1 : decode prog_3_method_9_code 1 = .ok (.istore_n 2, 1) := by decide +kernel
theorem d_Cache_writeFileOut_2 : decode prog_3_method_9_code 2 = .ok (.iconst 0, 1) := by decide +kernel
theorem d_Cache_writeFileOut_3 : decode prog_3_method_9_code 3 = .ok (.istore_n 3, 1) := by decide +kernel
theorem d_Cache_writeFileOut_4 : decode prog_3_method_9_code 4 = .ok (.iload_n 3, 1) := by decide +kernel
theorem d_Cache_writeFileOut_5 : decode prog_3_method_9_code 5 = .ok (.iconst 4, 1) := by decide +kernel
theorem d_Cache_writeFileOut_6 : decode prog_3_method_9_code 6 = .ok (.if_icmp .ge 56, 3) := by decide +kernel
theorem d_Cache_writeFileOut_9 : decode prog_3_method_9_code 9 = .ok (.aload_n 0, 1) := by decide +kernel
theorem d_Cache_writeFileOut_10 : decode prog_3_method_9_code 10 = .ok (.iload_n 1, 1) := by decide +kernel
theorem d_Cache_writeFileOut_11 : decode prog_3_method_9_code 11 = .ok (.iload_n 3, 1) := by decide +kernel
theorem d_Cache_writeFileOut_12 : decode prog_3_method_9_code 12 = .ok (.invokevirtual 37, 3) := by decide +kernel
theorem d_Cache_writeFileOut_15 : decode prog_3_method_9_code 15 = .ok (.istore 4, 2) := by decide +kernel
theorem d_Cache_writeFileOut_17 : decode prog_3_method_9_code 17 = .ok (.iload 4, 2) := by decide +kernel
theorem d_Cache_writeFileOut_19 : decode prog_3_method_9_code 19 = .ok (.iconst (-1), 1) := by decide +kernel
theorem d_Cache_writeFileOut_20 : decode prog_3_method_9_code 20 = .ok (.if_icmp .eq 36, 3) := by decide +kernel
theorem d_Cache_writeFileOut_23 : decode prog_3_method_9_code 23 = .ok (.aload_n 0, 1) := by decide +kernel
theorem d_Cache_writeFileOut_24 : decode prog_3_method_9_code 24 = .ok (.getfield 17, 3) := by decide +kernel
theorem d_Cache_writeFileOut_27 : decode prog_3_method_9_code 27 = .ok (.iload 4, 2) := by decide +kernel
theorem d_Cache_writeFileOut_29 : decode prog_3_method_9_code 29 = .ok (.aaload, 1) := by decide +kernel
theorem d_Cache_writeFileOut_30 : decode prog_3_method_9_code 30 = .ok (.getfield 33, 3) := by decide +kernel
theorem d_Cache_writeFileOut_33 : decode prog_3_method_9_code 33 = .ok (.ifCond .eq 23, 3) := by decide +kernel
theorem d_Cache_writeFileOut_36 : decode prog_3_method_9_code 36 = .ok (.aload_n 0, 1) := by decide +kernel
theorem d_Cache_writeFileOut_37 : decode prog_3_method_9_code 37 = .ok (.aload_n 0, 1) := by decide +kernel
theorem d_Cache_writeFileOut_38 : decode prog_3_method_9_code 38 = .ok (.getfield 17, 3) := by decide +kernel
theorem d_Cache_writeFileOut_41 : decode prog_3_method_9_code 41 = .ok (.iload 4, 2) := by decide +kernel
theorem d_Cache_writeFileOut_43 : decode prog_3_method_9_code 43 = .ok (.aaload, 1) := by decide +kernel
theorem d_Cache_writeFileOut_44 : decode prog_3_method_9_code 44 = .ok (.invokevirtual 49, 3) := by decide +kernel
theorem d_Cache_writeFileOut_47 : decode prog_3_method_9_code 47 = .ok (.ifCond .ne 6, 3) := by decide +kernel
theorem d_Cache_writeFileOut_50 : decode prog_3_method_9_code 50 = .ok (.bipush (-8), 2) := by decide +kernel
theorem d_Cache_writeFileOut_52 : decode prog_3_method_9_code 52 = .ok (.ireturn, 1) := by decide +kernel
theorem d_Cache_writeFileOut_53 : decode prog_3_method_9_code 53 = .ok (.iinc 2 1, 3) := by decide +kernel
theorem d_Cache_writeFileOut_56 : decode prog_3_method_9_code 56 = .ok (.iinc 3 1, 3) := by decide +kernel
theorem d_Cache_writeFileOut_59 : decode prog_3_method_9_code 59 = .ok (.goto (-55), 3) := by decide +kernel
theorem d_Cache_writeFileOut_62 : decode prog_3_method_9_code 62 = .ok (.iload_n 2, 1) := by decide +kernel
theorem d_Cache_writeFileOut_63 : decode prog_3_method_9_code 63 = .ok (.ireturn, 1) := by decide +kernel
theorem d_Cache_startAnew_0 : decode prog_3_method_11_code 0 = .ok (.aload_n 0, 1) := by decide +kernel
theorem d_Cache_startAnew_1 : decode prog_3_method_11_code 1 = .ok (.iconst 0, 1) := by decide +kernel
theorem d_Cache_startAnew_2 : decode prog_3_method_11_code 2 = .ok (.putfield 21, 3) := by decide +kernel
theorem d_Cache_startAnew_5 : decode prog_3_method_11_code 5 = .ok (.iconst 0, 1) := by decide +kernel
theorem d_Cache_startAnew_6 : decode prog_3_method_11_code 6 = .ok (.istore_n 1, 1) := by decide +kernel
theorem d_Cache_startAnew_7 : decode prog_3_method_11_code 7 = .ok (.iload_n 1, 1) := by decide +kernel
theorem d_Cache_startAnew_8 : decode prog_3_method_11_code 8 = .ok (.bipush 8, 2) := by decide +kernel
theorem d_Cache_startAnew_10 : decode prog_3_method_11_code 10 = .ok (.if_icmp .ge 23, 3) := by decide +kernel
theorem d_Cache_startAnew_13 : decode prog_3_method_11_code 13 = .ok (.aload_n 0, 1) := by decide +kernel
theorem d_Cache_startAnew_14 : decode prog_3_method_11_code 14 = .ok (.getfield 9, 3) := by decide +kernel
theorem d_Cache_startAnew_17 : decode prog_3_method_11_code 17 = .ok (.iload_n 1, 1) := by decide +kernel
theorem d_Cache_startAnew_18 : decode prog_3_method_11_code 18 = .ok (.aload_n 0, 1) := by decide +kernel
theorem d_Cache_startAnew_19 : decode prog_3_method_11_code 19 = .ok (.getfield 25, 3) := by decide +kernel
theorem d_Cache_startAnew_22 : decode prog_3_method_11_code 22 = .ok (.iload_n 1, 1) := by decide +kernel
theorem d_Cache_startAnew_23 : decode prog_3_method_11_code 23 = .ok (.invokevirtual 53, 3) := by decide +kernel
theorem d_Cache_startAnew_26 : decode prog_3_method_11_code 26 = .ok (.iastore, 1) := by decide +kernel
theorem d_Cache_startAnew_27 : decode prog_3_method_11_code 27 = .ok (.iinc 1 1, 3) := by decide +kernel
theorem d_Cache_startAnew_30 : decode prog_3_method_11_code 30 = .ok (.goto (-23), 3) := by decide +kernel
theorem d_Cache_startAnew_33 : decode prog_3_method_11_code 33 = .ok (.return_, 1) := by decide +kernel
theorem d_Cache_size_0 : decode prog_3_method_4_code 0 = .ok (.aload_n 0, 1) := by decide +kernel
theorem d_Cache_size_1 : decode prog_3_method_4_code 1 = .ok (.getfield 21, 3) := by decide +kernel
theorem d_Cache_size_4 : decode prog_3_method_4_code 4 = .ok (.ireturn, 1) := by decide +kernel
theorem d_Cache_blockAt_0 : decode prog_3_method_5_code 0 = .ok (.aload_n 0, 1) := by decide +kernel
theorem d_Cache_blockAt_1 : decode prog_3_method_5_code 1 = .ok (.getfield 17, 3) := by decide +kernel
theorem d_Cache_blockAt_4 : decode prog_3_method_5_code 4 = .ok (.iload_n 1, 1) := by decide +kernel
theorem d_Cache_blockAt_5 : decode prog_3_method_5_code 5 = .ok (.aaload, 1) := by decide +kernel
theorem d_Cache_blockAt_6 : decode prog_3_method_5_code 6 = .ok (.areturn, 1) := by decide +kernel
theorem d_Cache_dirtyBlocks_0 : decode prog_3_method_7_code 0 = .ok (.iconst 0, 1) := by decide +kernel
theorem d_Cache_dirtyBlocks_1 : decode prog_3_method_7_code 1 = .ok (.istore_n 1, 1) := by decide +kernel
theorem d_Cache_dirtyBlocks_2 : decode prog_3_method_7_code 2 = .ok (.iconst 0, 1) := by decide +kernel
theorem d_Cache_dirtyBlocks_3 : decode prog_3_method_7_code 3 = .ok (.istore_n 2, 1) := by decide +kernel
theorem d_Cache_dirtyBlocks_4 : decode prog_3_method_7_code 4 = .ok (.iload_n 2, 1) := by decide +kernel
theorem d_Cache_dirtyBlocks_5 : decode prog_3_method_7_code 5 = .ok (.aload_n 0, 1) := by decide +kernel
theorem d_Cache_dirtyBlocks_6 : decode prog_3_method_7_code 6 = .ok (.getfield 21, 3) := by decide +kernel
theorem d_Cache_dirtyBlocks_9 : decode prog_3_method_7_code 9 = .ok (.if_icmp .ge 24, 3) := by decide +kernel
theorem d_Cache_dirtyBlocks_12 : decode prog_3_method_7_code 12 = .ok (.aload_n 0, 1) := by decide +kernel
theorem d_Cache_dirtyBlocks_13 : decode prog_3_method_7_code 13 = .ok (.getfield 17, 3) := by decide +kernel
theorem d_Cache_dirtyBlocks_16 : decode prog_3_method_7_code 16 = .ok (.iload_n 2, 1) := by decide +kernel
theorem d_Cache_dirtyBlocks_17 : decode prog_3_method_7_code 17 = .ok (.aaload, 1) := by decide +kernel
theorem d_Cache_dirtyBlocks_18 : decode prog_3_method_7_code 18 = .ok (.getfield 33, 3) := by decide +kernel
theorem d_Cache_dirtyBlocks_21 : decode prog_3_method_7_code 21 = .ok (.ifCond .eq 6, 3) := by decide +kernel
theorem d_Cache_dirtyBlocks_24 : decode prog_3_method_7_code 24 = .ok (.iinc 1 1, 3) := by decide +kernel
theorem d_Cache_dirtyBlocks_27 : decode prog_3_method_7_code 27 = .ok (.iinc 2 1, 3) := by decide +kernel
theorem d_Cache_dirtyBlocks_30 : decode prog_3_method_7_code 30 = .ok (.goto (-26), 3) := by decide +kernel
theorem d_Cache_dirtyBlocks_33 : decode prog_3_method_7_code 33 = .ok (.iload_n 1, 1) := by decide +kernel
theorem d_Cache_dirtyBlocks_34 : decode prog_3_method_7_code 34 = .ok (.ireturn, 1) := by decide +kernel
