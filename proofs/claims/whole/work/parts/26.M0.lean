/-! decode rows, by program -/
theorem d_M_init_0 : decode prog_9_method_1_code 0 = .ok (.aload_n 0, 1) := by decide +kernel
theorem d_M_init_1 : decode prog_9_method_1_code 1 = .ok (.invokespecial 1, 3) := by decide +kernel
theorem d_M_init_4 : decode prog_9_method_1_code 4 = .ok (.aload_n 0, 1) := by decide +kernel
theorem d_M_init_5 : decode prog_9_method_1_code 5 = .ok (.bipush 8, 2) := by decide +kernel
theorem d_M_init_7 : decode prog_9_method_1_code 7 = .ok (.newarray .boolean, 2) := by decide +kernel
theorem d_M_init_9 : decode prog_9_method_1_code 9 = .ok (.putfield 7, 3) := by decide +kernel
theorem d_M_init_12 : decode prog_9_method_1_code 12 = .ok (.aload_n 0, 1) := by decide +kernel
theorem d_M_init_13 : decode prog_9_method_1_code 13 = .ok (.bipush 8, 2) := by decide +kernel
theorem d_M_init_15 : decode prog_9_method_1_code 15 = .ok (.newarray .int, 2) := by decide +kernel
theorem d_M_init_17 : decode prog_9_method_1_code 17 = .ok (.putfield 13, 3) := by decide +kernel
theorem d_M_init_20 : decode prog_9_method_1_code 20 = .ok (.aload_n 0, 1) := by decide +kernel
theorem d_M_init_21 : decode prog_9_method_1_code 21 = .ok (.sipush 256, 3) := by decide +kernel
theorem d_M_init_24 : decode prog_9_method_1_code 24 = .ok (.newarray .int, 2) := by decide +kernel
theorem d_M_init_26 : decode prog_9_method_1_code 26 = .ok (.putfield 17, 3) := by decide +kernel
theorem d_M_init_29 : decode prog_9_method_1_code 29 = .ok (.aload_n 0, 1) := by decide +kernel
theorem d_M_init_30 : decode prog_9_method_1_code 30 = .ok (.bipush 8, 2) := by decide +kernel
theorem d_M_init_32 : decode prog_9_method_1_code 32 = .ok (.newarray .int, 2) := by decide +kernel
theorem d_M_init_34 : decode prog_9_method_1_code 34 = .ok (.putfield 20, 3) := by decide +kernel
theorem d_M_init_37 : decode prog_9_method_1_code 37 = .ok (.aload_n 0, 1) := by decide +kernel
theorem d_M_init_38 : decode prog_9_method_1_code 38 = .ok (.bipush 8, 2) := by decide +kernel
theorem d_M_init_40 : decode prog_9_method_1_code 40 = .ok (.newarray .int, 2) := by decide +kernel
theorem d_M_init_42 : decode prog_9_method_1_code 42 = .ok (.putfield 23, 3) := by decide +kernel
theorem d_M_init_45 : decode prog_9_method_1_code 45 = .ok (.aload_n 0, 1) := by decide +kernel
theorem d_M_init_46 : decode prog_9_method_1_code 46 = .ok (.bipush 6, 2) := by decide +kernel
theorem d_M_init_48 : decode prog_9_method_1_code 48 = .ok (.newarray .int, 2) := by decide +kernel
theorem d_M_init_50 : decode prog_9_method_1_code 50 = .ok (.putfield 26, 3) := by decide +kernel
theorem d_M_init_53 : decode prog_9_method_1_code 53 = .ok (.aload_n 0, 1) := by decide +kernel
theorem d_M_init_54 : decode prog_9_method_1_code 54 = .ok (.bipush 6, 2) := by decide +kernel
theorem d_M_init_56 : decode prog_9_method_1_code 56 = .ok (.newarray .boolean, 2) := by decide +kernel
theorem d_M_init_58 : decode prog_9_method_1_code 58 = .ok (.putfield 29, 3) := by decide +kernel
theorem d_M_init_61 : decode prog_9_method_1_code 61 = .ok (.aload_n 0, 1) := by decide +kernel
theorem d_M_init_62 : decode prog_9_method_1_code 62 = .ok (.bipush 48, 2) := by decide +kernel
theorem d_M_init_64 : decode prog_9_method_1_code 64 = .ok (.newarray .int, 2) := by decide +kernel
theorem d_M_init_66 : decode prog_9_method_1_code 66 = .ok (.putfield 32, 3) := by decide +kernel
theorem d_M_init_69 : decode prog_9_method_1_code 69 = .ok (.aload_n 0, 1) := by decide +kernel
theorem d_M_init_70 : decode prog_9_method_1_code 70 = .ok (.bipush 7, 2) := by decide +kernel
theorem d_M_init_72 : decode prog_9_method_1_code 72 = .ok (.newarray .boolean, 2) := by decide +kernel
theorem d_M_init_74 : decode prog_9_method_1_code 74 = .ok (.putfield 35, 3) := by decide +kernel
theorem d_M_init_77 : decode prog_9_method_1_code 77 = .ok (.aload_n 0, 1) := by decide +kernel
theorem d_M_init_78 : decode prog_9_method_1_code 78 = .ok (.bipush 7, 2) := by decide +kernel
theorem d_M_init_80 : decode prog_9_method_1_code 80 = .ok (.newarray .boolean, 2) := by decide +kernel
theorem d_M_init_82 : decode prog_9_method_1_code 82 = .ok (.putfield 38, 3) := by decide +kernel
theorem d_M_init_85 : decode prog_9_method_1_code 85 = .ok (.aload_n 0, 1) := by decide +kernel
theorem d_M_init_86 : decode prog_9_method_1_code 86 = .ok (.bipush 7, 2) := by decide +kernel
theorem d_M_init_88 : decode prog_9_method_1_code 88 = .ok (.newarray .int, 2) := by decide +kernel
theorem d_M_init_90 : decode prog_9_method_1_code 90 = .ok (.putfield 41, 3) := by decide +kernel
theorem d_M_init_93 : decode prog_9_method_1_code 93 = .ok (.aload_n 0, 1) := by decide +kernel
theorem d_M_init_94 : decode prog_9_method_1_code 94 = .ok (.bipush 7, 2) := by decide +kernel
theorem d_M_init_96 : decode prog_9_method_1_code 96 = .ok (.newarray .int, 2) := by decide +kernel
theorem d_M_init_98 : decode prog_9_method_1_code 98 = .ok (.putfield 44, 3) := by decide +kernel
theorem d_M_init_101 : decode prog_9_method_1_code 101 = .ok (.aload_n 0, 1) := by decide +kernel
theorem d_M_init_102 : decode prog_9_method_1_code 102 = .ok (.bipush 42, 2) := by decide +kernel
theorem d_M_init_104 : decode prog_9_method_1_code 104 = .ok (.newarray .int, 2) := by decide +kernel
theorem d_M_init_106 : decode prog_9_method_1_code 106 = .ok (.putfield 47, 3) := by decide +kernel
theorem d_M_init_109 : decode prog_9_method_1_code 109 = .ok (.aload_n 0, 1) := by decide +kernel
theorem d_M_init_110 : decode prog_9_method_1_code 110 = .ok (.bipush 16, 2) := by decide +kernel
theorem d_M_init_112 : decode prog_9_method_1_code 112 = .ok (.newarray .int, 2) := by decide +kernel
theorem d_M_init_114 : decode prog_9_method_1_code 114 = .ok (.putfield 50, 3) := by decide +kernel
theorem d_M_init_117 : decode prog_9_method_1_code 117 = .ok (.aload_n 0, 1) := by decide +kernel
theorem d_M_init_118 : decode prog_9_method_1_code 118 = .ok (.bipush 16, 2) := by decide +kernel
theorem d_M_init_120 : decode prog_9_method_1_code 120 = .ok (.newarray .int, 2) := by decide +kernel
theorem d_M_init_122 : decode prog_9_method_1_code 122 = .ok (.putfield 53, 3) := by decide +kernel
theorem d_M_init_125 : decode prog_9_method_1_code 125 = .ok (.aload_n 0, 1) := by decide +kernel
theorem d_M_init_126 : decode prog_9_method_1_code 126 = .ok (.bipush 16, 2) := by decide +kernel
theorem d_M_init_128 : decode prog_9_method_1_code 128 = .ok (.newarray .int, 2) := by decide +kernel
theorem d_M_init_130 : decode prog_9_method_1_code 130 = .ok (.putfield 56, 3) := by decide +kernel
theorem d_M_init_133 : decode prog_9_method_1_code 133 = .ok (.aload_n 0, 1) := by decide +kernel
theorem d_M_init_134 : decode prog_9_method_1_code 134 = .ok (.bipush 16, 2) := by decide +kernel
theorem d_M_init_136 : decode prog_9_method_1_code 136 = .ok (.newarray .int, 2) := by decide +kernel
theorem d_M_init_138 : decode prog_9_method_1_code 138 = .ok (.putfield 59, 3) := by decide +kernel
theorem d_M_init_141 : decode prog_9_method_1_code 141 = .ok (.aload_n 0, 1) := by decide +kernel
theorem d_M_init_142 : decode prog_9_method_1_code 142 = .ok (.bipush 64, 2) := by decide +kernel
theorem d_M_init_144 : decode prog_9_method_1_code 144 = .ok (.newarray .int, 2) := by decide +kernel
theorem d_M_init_146 : decode prog_9_method_1_code 146 = .ok (.putfield 62, 3) := by decide +kernel
theorem d_M_init_149 : decode prog_9_method_1_code 149 = .ok (.aload_n 0, 1) := by decide +kernel
theorem d_M_init_150 : decode prog_9_method_1_code 150 = .ok (.bipush 16, 2) := by decide +kernel
theorem d_M_init_152 : decode prog_9_method_1_code 152 = .ok (.newarray .int, 2) := by decide +kernel
theorem d_M_init_154 : decode prog_9_method_1_code 154 = .ok (.putfield 65, 3) := by decide +kernel
theorem d_M_init_157 : decode prog_9_method_1_code 157 = .ok (.aload_n 0, 1) := by decide +kernel
theorem d_M_init_158 : decode prog_9_method_1_code 158 = .ok (.bipush 16, 2) := by decide +kernel
theorem d_M_init_160 : decode prog_9_method_1_code 160 = .ok (.newarray .int, 2) := by decide +kernel
theorem d_M_init_162 : decode prog_9_method_1_code 162 = .ok (.putfield 68, 3) := by decide +kernel
theorem d_M_init_165 : decode prog_9_method_1_code 165 = .ok (.iconst 0, 1) := by decide +kernel
theorem d_M_init_166 : decode prog_9_method_1_code 166 = .ok (.istore_n 1, 1) := by decide +kernel
theorem d_M_init_167 : decode prog_9_method_1_code 167 = .ok (.iload_n 1, 1) := by decide +kernel
theorem d_M_init_168 : decode prog_9_method_1_code 168 = .ok (.bipush 8, 2) := by decide +kernel
theorem d_M_init_170 : decode prog_9_method_1_code 170 = .ok (.if_icmp .ge 16, 3) := by decide +kernel
theorem d_M_init_173 : decode prog_9_method_1_code 173 = .ok (.aload_n 0, 1) := by decide +kernel
theorem d_M_init_174 : decode prog_9_method_1_code 174 = .ok (.getfield 23, 3) := by decide +kernel
theorem d_M_init_177 : decode prog_9_method_1_code 177 = .ok (.iload_n 1, 1) := by decide +kernel
theorem d_M_init_178 : decode prog_9_method_1_code 178 = .ok (.iconst 2, 1) := by decide +kernel
theorem d_M_init_179 : decode prog_9_method_1_code 179 = .ok (.iastore, 1) := by decide +kernel
theorem d_M_init_180 : decode prog_9_method_1_code 180 = .ok (.iinc 1 1, 3) := by decide +kernel
theorem d_M_init_183 : decode prog_9_method_1_code 183 = .ok (.goto (-16), 3) := by decide +kernel
theorem d_M_init_186 : decode prog_9_method_1_code 186 = .ok (.aload_n 0, 1) := by decide +kernel
theorem d_M_init_187 : decode prog_9_method_1_code 187 = .ok (.invokevirtual 71, 3) := by decide +kernel
theorem d_M_init_190 : decode prog_9_method_1_code 190 = .ok (.return_, 1) := by decide +kernel
theorem d_M_reborn_0 : decode prog_9_method_2_code 0 = .ok (.iconst 0, 1) := by decide +kernel
theorem d_M_reborn_1 : decode prog_9_method_2_code 1 = .ok (.istore_n 1, 1) := by decide +kernel
theorem d_M_reborn_2 : decode prog_9_method_2_code 2 = .ok (.iload_n 1, 1) := by decide +kernel
theorem d_M_reborn_3 : decode prog_9_method_2_code 3 = .ok (.bipush 7, 2) := by decide +kernel
theorem d_M_reborn_5 : decode prog_9_method_2_code 5 = .ok (.if_icmp .ge 32, 3) := by decide +kernel
theorem d_M_reborn_8 : decode prog_9_method_2_code 8 = .ok (.aload_n 0, 1) := by decide +kernel
theorem d_M_reborn_9 : decode prog_9_method_2_code 9 = .ok (.getfield 35, 3) := by decide +kernel
theorem d_M_reborn_12 : decode prog_9_method_2_code 12 = .ok (.iload_n 1, 1) := by decide +kernel
theorem d_M_reborn_13 : decode prog_9_method_2_code 13 = .ok (.iload_n 1, 1) := by decide +kernel
theorem d_M_reborn_14 : decode prog_9_method_2_code 14 = .ok (.iconst 1, 1) := by decide +kernel
theorem d_M_reborn_15 : decode prog_9_method_2_code 15 = .ok (.if_icmp .ne 7, 3) := by decide +kernel
theorem d_M_reborn_18 : decode prog_9_method_2_code 18 = .ok (.iconst 1, 1) := by decide +kernel
theorem d_M_reborn_19 : decode prog_9_method_2_code 19 = .ok (.goto 4, 3) := by decide +kernel
theorem d_M_reborn_22 : decode prog_9_method_2_code 22 = .ok (.iconst 0, 1) := by decide +kernel
theorem d_M_reborn_23 : decode prog_9_method_2_code 23 = .ok (.bastore, 1) := by decide +kernel
theorem d_M_reborn_24 : decode prog_9_method_2_code 24 = .ok (.aload_n 0, 1) := by decide +kernel
theorem d_M_reborn_25 : decode prog_9_method_2_code 25 = .ok (.getfield 38, 3) := by decide +kernel
theorem d_M_reborn_28 : decode prog_9_method_2_code 28 = .ok (.iload_n 1, 1) := by decide +kernel
theorem d_M_reborn_29 : decode prog_9_method_2_code 29 = .ok (.iconst 0, 1) := by decide +kernel
theorem d_M_reborn_30 : decode prog_9_method_2_code 30 = .ok (.bastore, 1) := by decide +kernel
theorem d_M_reborn_31 : decode prog_9_method_2_code 31 = .ok (.iinc 1 1, 3) := by decide +kernel
theorem d_M_reborn_34 : decode prog_9_method_2_code 34 = .ok (.goto (-32), 3) := by decide +kernel
theorem d_M_reborn_37 : decode prog_9_method_2_code 37 = .ok (.iconst 0, 1) := by decide +kernel
theorem d_M_reborn_38 : decode prog_9_method_2_code 38 = .ok (.istore_n 1, 1) := by decide +kernel
theorem d_M_reborn_39 : decode prog_9_method_2_code 39 = .ok (.iload_n 1, 1) := by decide +kernel
theorem d_M_reborn_40 : decode prog_9_method_2_code 40 = .ok (.bipush 42, 2) := by decide +kernel
theorem d_M_reborn_42 : decode prog_9_method_2_code 42 = .ok (.if_icmp .ge 16, 3) := by decide +kernel
theorem d_M_reborn_45 : decode prog_9_method_2_code 45 = .ok (.aload_n 0, 1) := by decide +kernel
theorem d_M_reborn_46 : decode prog_9_method_2_code 46 = .ok (.getfield 47, 3) := by decide +kernel
theorem d_M_reborn_49 : decode prog_9_method_2_code 49 = .ok (.iload_n 1, 1) := by decide +kernel
theorem d_M_reborn_50 : decode prog_9_method_2_code 50 = .ok (.iconst (-1), 1) := by decide +kernel
theorem d_M_reborn_51 : decode prog_9_method_2_code 51 = .ok (.iastore, 1) := by decide +kernel
theorem d_M_reborn_52 : decode prog_9_method_2_code 52 = .ok (.iinc 1 1, 3) := by decide +kernel
theorem d_M_reborn_55 : decode prog_9_method_2_code 55 = .ok (.goto (-16), 3) := by decide +kernel
theorem d_M_reborn_58 : decode prog_9_method_2_code 58 = .ok (.aload_n 0, 1) := by decide +kernel
theorem d_M_reborn_59 : decode prog_9_method_2_code 59 = .ok (.getfield 41, 3) := by decide +kernel
theorem d_M_reborn_62 : decode prog_9_method_2_code 62 = .ok (.iconst 1, 1) := by decide +kernel
theorem d_M_reborn_63 : decode prog_9_method_2_code 63 = .ok (.iconst 0, 1) := by decide +kernel
theorem d_M_reborn_64 : decode prog_9_method_2_code 64 = .ok (.iastore, 1) := by decide +kernel
theorem d_M_reborn_65 : decode prog_9_method_2_code 65 = .ok (.aload_n 0, 1) := by decide +kernel
theorem d_M_reborn_66 : decode prog_9_method_2_code 66 = .ok (.iconst 0, 1) := by decide +kernel
theorem d_M_reborn_67 : decode prog_9_method_2_code 67 = .ok (.putfield 74, 3) := by decide +kernel
theorem d_M_reborn_70 : decode prog_9_method_2_code 70 = .ok (.return_, 1) := by decide +kernel
theorem d_M_put_0 : decode prog_9_method_18_code 0 = .ok (.iload_n 1, 1) := by decide +kernel
theorem d_M_put_1 : decode prog_9_method_18_code 1 = .ok (.iconst 0, 1) := by decide +kernel
theorem d_M_put_2 : decode prog_9_method_18_code 2 = .ok (.bipush 7, 2) := by decide +kernel
theorem d_M_put_4 : decode prog_9_method_18_code 4 = .ok (.invokestatic 78, 3) := by decide +kernel
theorem d_M_put_7 : decode prog_9_method_18_code 7 = .ok (.ifCond .eq 13, 3) := by decide +kernel
theorem d_M_put_10 : decode prog_9_method_18_code 10 = .ok (.iload_n 2, 1) := by decide +kernel
theorem d_M_put_11 : decode prog_9_method_18_code 11 = .ok (.iconst 0, 1) := by decide +kernel
theorem d_M_put_12 : decode prog_9_method_18_code 12 = .ok (.bipush 32, 2) := by decide +kernel
theorem d_M_put_14 : decode prog_9_method_18_code 14 = .ok (.invokestatic 78, 3) := by decide +kernel
theorem d_M_put_17 : decode prog_9_method_18_code 17 = .ok (.ifCond .ne 5, 3) := by decide +kernel
theorem d_M_put_20 : decode prog_9_method_18_code 20 = .ok (.iconst (-1), 1) := by decide +kernel
theorem d_M_put_21 : decode prog_9_method_18_code 21 = .ok (.ireturn, 1) := by decide +kernel
theorem d_M_put_22 : decode prog_9_method_18_code 22 = .ok (.aload_n 0, 1) := by decide +kernel
theorem d_M_put_23 : decode prog_9_method_18_code 23 = .ok (.iload_n 1, 1) := by decide +kernel
theorem d_M_put_24 : decode prog_9_method_18_code 24 = .ok (.invokevirtual 105, 3) := by decide +kernel
theorem d_M_put_27 : decode prog_9_method_18_code 27 = .ok (.istore 4, 2) := by decide +kernel
theorem d_M_put_29 : decode prog_9_method_18_code 29 = .ok (.iconst 0, 1) := by decide +kernel
theorem d_M_put_30 : decode prog_9_method_18_code 30 = .ok (.istore 5, 2) := by decide +kernel
theorem d_M_put_32 : decode prog_9_method_18_code 32 = .ok (.iload 5, 2) := by decide +kernel
theorem d_M_put_34 : decode prog_9_method_18_code 34 = .ok (.aload_n 0, 1) := by decide +kernel
theorem d_M_put_35 : decode prog_9_method_18_code 35 = .ok (.getfield 74, 3) := by decide +kernel
theorem d_M_put_38 : decode prog_9_method_18_code 38 = .ok (.if_icmp .ge 26, 3) := by decide +kernel
theorem d_M_put_41 : decode prog_9_method_18_code 41 = .ok (.aload_n 0, 1) := by decide +kernel
theorem d_M_put_42 : decode prog_9_method_18_code 42 = .ok (.getfield 26, 3) := by decide +kernel
theorem d_M_put_45 : decode prog_9_method_18_code 45 = .ok (.iload 5, 2) := by decide +kernel
theorem d_M_put_47 : decode prog_9_method_18_code 47 = .ok (.iaload, 1) := by decide +kernel
theorem d_M_put_48 : decode prog_9_method_18_code 48 = .ok (.bipush 7, 2) := by decide +kernel
theorem d_M_put_50 : decode prog_9_method_18_code 50 = .ok (.iand, 1) := by decide +kernel
theorem d_M_put_51 : decode prog_9_method_18_code 51 = .ok (.iload_n 1, 1) := by decide +kernel
theorem d_M_put_52 : decode prog_9_method_18_code 52 = .ok (.if_icmp .ne 6, 3) := by decide +kernel
theorem d_M_put_55 : decode prog_9_method_18_code 55 = .ok (.iconst 1, 1) := by decide +kernel
theorem d_M_put_56 : decode prog_9_method_18_code 56 = .ok (.istore 4, 2) := by decide +kernel
theorem d_M_put_58 : decode prog_9_method_18_code 58 = .ok (.iinc 5 1, 3) := by decide +kernel
theorem d_M_put_61 : decode prog_9_method_18_code 61 = .ok (.goto (-29), 3) := by decide +kernel
theorem d_M_put_64 : decode prog_9_method_18_code 64 = .ok (.iload 4, 2) := by decide +kernel
theorem d_M_put_66 : decode prog_9_method_18_code 66 = .ok (.ifCond .eq 6, 3) := by decide +kernel
theorem d_M_put_69 : decode prog_9_method_18_code 69 = .ok (.bipush (-9), 2) := by decide +kernel
theorem d_M_put_71 : decode prog_9_method_18_code 71 = .ok (.ireturn, 1) := by decide +kernel
theorem d_M_put_72 : decode prog_9_method_18_code 72 = .ok (.aload_n 0, 1) := by decide +kernel
theorem d_M_put_73 : decode prog_9_method_18_code 73 = .ok (.iload_n 1, 1) := by decide +kernel
theorem d_M_put_74 : decode prog_9_method_18_code 74 = .ok (.invokevirtual 108, 3) := by decide +kernel
theorem d_M_put_77 : decode prog_9_method_18_code 77 = .ok (.aload_n 0, 1) := by decide +kernel
theorem d_M_put_78 : decode prog_9_method_18_code 78 = .ok (.getfield 7, 3) := by decide +kernel
theorem d_M_put_81 : decode prog_9_method_18_code 81 = .ok (.iload_n 1, 1) := by decide +kernel
theorem d_M_put_82 : decode prog_9_method_18_code 82 = .ok (.iconst 1, 1) := by decide +kernel
theorem d_M_put_83 : decode prog_9_method_18_code 83 = .ok (.bastore, 1) := by decide +kernel
theorem d_M_put_84 : decode prog_9_method_18_code 84 = .ok (.aload_n 0, 1) := by decide +kernel
theorem d_M_put_85 : decode prog_9_method_18_code 85 = .ok (.getfield 13, 3) := by decide +kernel
theorem d_M_put_88 : decode prog_9_method_18_code 88 = .ok (.iload_n 1, 1) := by decide +kernel
theorem d_M_put_89 : decode prog_9_method_18_code 89 = .ok (.iload_n 2, 1) := by decide +kernel
theorem d_M_put_90 : decode prog_9_method_18_code 90 = .ok (.iastore, 1) := by decide +kernel
theorem d_M_put_91 : decode prog_9_method_18_code 91 = .ok (.aload_n 0, 1) := by decide +kernel
theorem d_M_put_92 : decode prog_9_method_18_code 92 = .ok (.getfield 20, 3) := by decide +kernel
theorem d_M_put_95 : decode prog_9_method_18_code 95 = .ok (.iload_n 1, 1) := by decide +kernel
theorem d_M_put_96 : decode prog_9_method_18_code 96 = .ok (.iload_n 2, 1) := by decide +kernel
theorem d_M_put_97 : decode prog_9_method_18_code 97 = .ok (.iastore, 1) := by decide +kernel
theorem d_M_put_98 : decode prog_9_method_18_code 98 = .ok (.iconst 0, 1) := by decide +kernel
theorem d_M_put_99 : decode prog_9_method_18_code 99 = .ok (.istore 5, 2) := by decide +kernel
theorem d_M_put_101 : decode prog_9_method_18_code 101 = .ok (.iload 5, 2) := by decide +kernel
theorem d_M_put_103 : decode prog_9_method_18_code 103 = .ok (.iload_n 2, 1) := by decide +kernel
theorem d_M_put_104 : decode prog_9_method_18_code 104 = .ok (.if_icmp .ge 32, 3) := by decide +kernel
theorem d_M_put_107 : decode prog_9_method_18_code 107 = .ok (.aload_n 0, 1) := by decide +kernel
theorem d_M_put_108 : decode prog_9_method_18_code 108 = .ok (.getfield 17, 3) := by decide +kernel
theorem d_M_put_111 : decode prog_9_method_18_code 111 = .ok (.bipush 32, 2) := by decide +kernel
theorem d_M_put_113 : decode prog_9_method_18_code 113 = .ok (.iload_n 1, 1) := by decide +kernel
theorem d_M_put_114 : decode prog_9_method_18_code 114 = .ok (.imul, 1) := by decide +kernel
theorem d_M_put_115 : decode prog_9_method_18_code 115 = .ok (.iload 5, 2) := by decide +kernel
theorem d_M_put_117 : decode prog_9_method_18_code 117 = .ok (.iadd, 1) := by decide +kernel
theorem d_M_put_118 : decode prog_9_method_18_code 118 = .ok (.iload_n 3, 1) := by decide +kernel
theorem d_M_put_119 : decode prog_9_method_18_code 119 = .ok (.bipush 7, 2) := by decide +kernel
theorem d_M_put_121 : decode prog_9_method_18_code 121 = .ok (.iload 5, 2) := by decide +kernel
theorem d_M_put_123 : decode prog_9_method_18_code 123 = .ok (.imul, 1) := by decide +kernel
theorem d_M_put_124 : decode prog_9_method_18_code 124 = .ok (.iadd, 1) := by decide +kernel
theorem d_M_put_125 : decode prog_9_method_18_code 125 = .ok (.sipush 255, 3) := by decide +kernel
theorem d_M_put_128 : decode prog_9_method_18_code 128 = .ok (.iand, 1) := by decide +kernel
theorem d_M_put_129 : decode prog_9_method_18_code 129 = .ok (.iastore, 1) := by decide +kernel
theorem d_M_put_130 : decode prog_9_method_18_code 130 = .ok (.iinc 5 1, 3) := by decide +kernel
theorem d_M_put_133 : decode prog_9_method_18_code 133 = .ok (.goto (-32), 3) := by decide +kernel
theorem d_M_put_136 : decode prog_9_method_18_code 136 = .ok (.iconst 0, 1) := by decide +kernel
theorem d_M_put_137 : decode prog_9_method_18_code 137 = .ok (.ireturn, 1) := by decide +kernel
theorem d_M_in_0 : decode prog_9_method_3_code 0 = .ok (.iload_n 0, 1) := by decide +kernel
theorem d_M_in_1 : decode prog_9_method_3_code 1 = .ok (.iload_n 1, 1) := by decide +kernel
theorem d_M_in_2 : decode prog_9_method_3_code 2 = .ok (.if_icmp .lt 12, 3) := by decide +kernel
theorem d_M_in_5 : decode prog_9_method_3_code 5 = .ok (.iload_n 0, 1) := by decide +kernel
theorem d_M_in_6 : decode prog_9_method_3_code 6 = .ok (.iload_n 2, 1) := by decide +kernel
theorem d_M_in_7 : decode prog_9_method_3_code 7 = .ok (.if_icmp .gt 7, 3) := by decide +kernel
theorem d_M_in_10 : decode prog_9_method_3_code 10 = .ok (.iconst 1, 1) := by decide +kernel
theorem d_M_in_11 : decode prog_9_method_3_code 11 = .ok (.goto 4, 3) := by decide +kernel
theorem d_M_in_14 : decode prog_9_method_3_code 14 = .ok (.iconst 0, 1) := by decide +kernel
theorem d_M_in_15 : decode prog_9_method_3_code 15 = .ok (.ireturn, 1) := by decide +kernel
theorem d_M_openFile_0 : decode prog_9_method_7_code 0 = .ok (.iconst 0, 1) := by decide +kernel
theorem d_M_openFile_1 : decode prog_9_method_7_code 1 = .ok (.istore_n 2, 1) := by decide +kernel
theorem d_M_openFile_2 : decode prog_9_method_7_code 2 = .ok (.iload_n 2, 1) := by decide +kernel
theorem d_M_openFile_3 : decode prog_9_method_7_code 3 = .ok (.bipush 16, 2) := by decide +kernel
theorem d_M_openFile_5 : decode prog_9_method_7_code 5 = .ok (.if_icmp .ge 38, 3) := by decide +kernel
theorem d_M_openFile_8 : decode prog_9_method_7_code 8 = .ok (.aload_n 0, 1) := by decide +kernel
theorem d_M_openFile_9 : decode prog_9_method_7_code 9 = .ok (.iload_n 2, 1) := by decide +kernel
theorem d_M_openFile_10 : decode prog_9_method_7_code 10 = .ok (.invokevirtual 82, 3) := by decide +kernel
theorem d_M_openFile_13 : decode prog_9_method_7_code 13 = .ok (.ifCond .eq 24, 3) := by decide +kernel
theorem d_M_openFile_16 : decode prog_9_method_7_code 16 = .ok (.aload_n 0, 1) := by decide +kernel
theorem d_M_openFile_17 : decode prog_9_method_7_code 17 = .ok (.getfield 50, 3) := by decide +kernel
theorem d_M_openFile_20 : decode prog_9_method_7_code 20 = .ok (.iload_n 2, 1) := by decide +kernel
theorem d_M_openFile_21 : decode prog_9_method_7_code 21 = .ok (.iaload, 1) := by decide +kernel
theorem d_M_openFile_22 : decode prog_9_method_7_code 22 = .ok (.ifCond .ne 15, 3) := by decide +kernel
theorem d_M_openFile_25 : decode prog_9_method_7_code 25 = .ok (.aload_n 0, 1) := by decide +kernel
theorem d_M_openFile_26 : decode prog_9_method_7_code 26 = .ok (.getfield 53, 3) := by decide +kernel
theorem d_M_openFile_29 : decode prog_9_method_7_code 29 = .ok (.iload_n 2, 1) := by decide +kernel
theorem d_M_openFile_30 : decode prog_9_method_7_code 30 = .ok (.iaload, 1) := by decide +kernel
theorem d_M_openFile_31 : decode prog_9_method_7_code 31 = .ok (.iload_n 1, 1) := by decide +kernel
theorem d_M_openFile_32 : decode prog_9_method_7_code 32 = .ok (.if_icmp .ne 5, 3) := by decide +kernel
theorem d_M_openFile_35 : decode prog_9_method_7_code 35 = .ok (.iconst 1, 1) := by decide +kernel
theorem d_M_openFile_36 : decode prog_9_method_7_code 36 = .ok (.ireturn, 1) := by decide +kernel
theorem d_M_openFile_37 : decode prog_9_method_7_code 37 = .ok (.iinc 2 1, 3) := by decide +kernel
theorem d_M_openFile_40 : decode prog_9_method_7_code 40 = .ok (.goto (-38), 3) := by decide +kernel
theorem d_M_openFile_43 : decode prog_9_method_7_code 43 = .ok (.iconst 0, 1) := by decide +kernel
theorem d_M_openFile_44 : decode prog_9_method_7_code 44 = .ok (.ireturn, 1) := by decide +kernel
theorem d_M_used_0 : decode prog_9_method_5_code 0 = .ok (.bipush 6, 2) := by decide +kernel
theorem d_M_used_2 : decode prog_9_method_5_code 2 = .ok (.istore_n 2, 1) := by decide +kernel
theorem d_M_used_3 : decode prog_9_method_5_code 3 = .ok (.iload_n 2, 1) := by decide +kernel
theorem d_M_used_4 : decode prog_9_method_5_code 4 = .ok (.bipush 42, 2) := by decide +kernel
theorem d_M_used_6 : decode prog_9_method_5_code 6 = .ok (.if_icmp .ge 21, 3) := by decide +kernel
theorem d_M_used_9 : decode prog_9_method_5_code 9 = .ok (.aload_n 0, 1) := by decide +kernel
theorem d_M_used_10 : decode prog_9_method_5_code 10 = .ok (.getfield 47, 3) := by decide +kernel
theorem d_M_used_13 : decode prog_9_method_5_code 13 = .ok (.iload_n 2, 1) := by decide +kernel
theorem d_M_used_14 : decode prog_9_method_5_code 14 = .ok (.iaload, 1) := by decide +kernel
theorem d_M_used_15 : decode prog_9_method_5_code 15 = .ok (.iload_n 1, 1) := by decide +kernel
theorem d_M_used_16 : decode prog_9_method_5_code 16 = .ok (.if_icmp .ne 5, 3) := by decide +kernel
theorem d_M_used_19 : decode prog_9_method_5_code 19 = .ok (.iconst 1, 1) := by decide +kernel
theorem d_M_used_20 : decode prog_9_method_5_code 20 = .ok (.ireturn, 1) := by decide +kernel
theorem d_M_used_21 : decode prog_9_method_5_code 21 = .ok (.iinc 2 1, 3) := by decide +kernel
theorem d_M_used_24 : decode prog_9_method_5_code 24 = .ok (.goto (-21), 3) := by decide +kernel
theorem d_M_used_27 : decode prog_9_method_5_code 27 = .ok (.iconst 0, 1) := by decide +kernel
theorem d_M_used_28 : decode prog_9_method_5_code 28 = .ok (.ireturn, 1) := by decide +kernel
theorem d_M_wipeHost_0 : decode prog_9_method_14_code 0 = .ok (.aload_n 0, 1) := by decide +kernel
theorem d_M_wipeHost_1 : decode prog_9_method_14_code 1 = .ok (.getfield 13, 3) := by decide +kernel
theorem d_M_wipeHost_4 : decode prog_9_method_14_code 4 = .ok (.iload_n 1, 1) := by decide +kernel
theorem d_M_wipeHost_5 : decode prog_9_method_14_code 5 = .ok (.iconst 0, 1) := by decide +kernel
theorem d_M_wipeHost_6 : decode prog_9_method_14_code 6 = .ok (.iastore, 1) := by decide +kernel
theorem d_M_wipeHost_7 : decode prog_9_method_14_code 7 = .ok (.iconst 0, 1) := by decide +kernel
theorem d_M_wipeHost_8 : decode prog_9_method_14_code 8 = .ok (.istore_n 2, 1) := by decide +kernel
theorem d_M_wipeHost_9 : decode prog_9_method_14_code 9 = .ok (.iload_n 2, 1) := by decide +kernel
theorem d_M_wipeHost_10 : decode prog_9_method_14_code 10 = .ok (.bipush 32, 2) := by decide +kernel
theorem d_M_wipeHost_12 : decode prog_9_method_14_code 12 = .ok (.if_icmp .ge 21, 3) := by decide +kernel
theorem d_M_wipeHost_15 : decode prog_9_method_14_code 15 = .ok (.aload_n 0, 1) := by decide +kernel
theorem d_M_wipeHost_16 : decode prog_9_method_14_code 16 = .ok (.getfield 17, 3) := by decide +kernel
theorem d_M_wipeHost_19 : decode prog_9_method_14_code 19 = .ok (.bipush 32, 2) := by decide +kernel
theorem d_M_wipeHost_21 : decode prog_9_method_14_code 21 = .ok (.iload_n 1, 1) := by decide +kernel
theorem d_M_wipeHost_22 : decode prog_9_method_14_code 22 = .ok (.imul, 1) := by decide +kernel
theorem d_M_wipeHost_23 : decode prog_9_method_14_code 23 = .ok (.iload_n 2, 1) := by decide +kernel
theorem d_M_wipeHost_24 : decode prog_9_method_14_code 24 = .ok (.iadd, 1) := by decide +kernel
theorem d_M_wipeHost_25 : decode prog_9_method_14_code 25 = .ok (.iconst 0, 1) := by decide +kernel
theorem d_M_wipeHost_26 : decode prog_9_method_14_code 26 = .ok (.iastore, 1) := by decide +kernel
theorem d_M_wipeHost_27 : decode prog_9_method_14_code 27 = .ok (.iinc 2 1, 3) := by decide +kernel
theorem d_M_wipeHost_30 : decode prog_9_method_14_code 30 = .ok (.goto (-21), 3) := by decide +kernel
theorem d_M_wipeHost_33 : decode prog_9_method_14_code 33 = .ok (.return_, 1) := by decide +kernel
theorem d_M_policy_0 : decode prog_9_method_19_code 0 = .ok (.iload_n 1, 1) := by decide +kernel
theorem d_M_policy_1 : decode prog_9_method_19_code 1 = .ok (.iconst 0, 1) := by decide +kernel
theorem d_M_policy_2 : decode prog_9_method_19_code 2 = .ok (.bipush 7, 2) := by decide +kernel
theorem d_M_policy_4 : decode prog_9_method_19_code 4 = .ok (.invokestatic 78, 3) := by decide +kernel
theorem d_M_policy_7 : decode prog_9_method_19_code 7 = .ok (.ifCond .eq 12, 3) := by decide +kernel
theorem d_M_policy_10 : decode prog_9_method_19_code 10 = .ok (.iload_n 2, 1) := by decide +kernel
theorem d_M_policy_11 : decode prog_9_method_19_code 11 = .ok (.iconst 0, 1) := by decide +kernel
theorem d_M_policy_12 : decode prog_9_method_19_code 12 = .ok (.iconst 2, 1) := by decide +kernel
theorem d_M_policy_13 : decode prog_9_method_19_code 13 = .ok (.invokestatic 78, 3) := by decide +kernel
theorem d_M_policy_16 : decode prog_9_method_19_code 16 = .ok (.ifCond .ne 5, 3) := by decide +kernel
theorem d_M_policy_19 : decode prog_9_method_19_code 19 = .ok (.iconst (-1), 1) := by decide +kernel
theorem d_M_policy_20 : decode prog_9_method_19_code 20 = .ok (.ireturn, 1) := by decide +kernel
theorem d_M_policy_21 : decode prog_9_method_19_code 21 = .ok (.aload_n 0, 1) := by decide +kernel
theorem d_M_policy_22 : decode prog_9_method_19_code 22 = .ok (.getfield 23, 3) := by decide +kernel
theorem d_M_policy_25 : decode prog_9_method_19_code 25 = .ok (.iload_n 1, 1) := by decide +kernel
theorem d_M_policy_26 : decode prog_9_method_19_code 26 = .ok (.iload_n 2, 1) := by decide +kernel
theorem d_M_policy_27 : decode prog_9_method_19_code 27 = .ok (.iastore, 1) := by decide +kernel
theorem d_M_policy_28 : decode prog_9_method_19_code 28 = .ok (.iconst 0, 1) := by decide +kernel
theorem d_M_policy_29 : decode prog_9_method_19_code 29 = .ok (.ireturn, 1) := by decide +kernel
theorem d_M_failing_0 : decode prog_9_method_20_code 0 = .ok (.iload_n 1, 1) := by decide +kernel
theorem d_M_failing_1 : decode prog_9_method_20_code 1 = .ok (.iconst 0, 1) := by decide +kernel
theorem d_M_failing_2 : decode prog_9_method_20_code 2 = .ok (.bipush 9, 2) := by decide +kernel
theorem d_M_failing_4 : decode prog_9_method_20_code 4 = .ok (.invokestatic 78, 3) := by decide +kernel
theorem d_M_failing_7 : decode prog_9_method_20_code 7 = .ok (.ifCond .ne 5, 3) := by decide +kernel
theorem d_M_failing_10 : decode prog_9_method_20_code 10 = .ok (.iconst (-1), 1) := by decide +kernel
theorem d_M_failing_11 : decode prog_9_method_20_code 11 = .ok (.ireturn, 1) := by decide +kernel
theorem d_M_failing_12 : decode prog_9_method_20_code 12 = .ok (.aload_n 0, 1) := by decide +kernel
theorem d_M_failing_13 : decode prog_9_method_20_code 13 = .ok (.iload_n 1, 1) := by decide +kernel
theorem d_M_failing_14 : decode prog_9_method_20_code 14 = .ok (.putfield 89, 3) := by decide +kernel
theorem d_M_failing_17 : decode prog_9_method_20_code 17 = .ok (.iconst 0, 1) := by decide +kernel
theorem d_M_failing_18 : decode prog_9_method_20_code 18 = .ok (.ireturn, 1) := by decide +kernel
theorem d_M_open_0 : decode prog_9_method_21_code 0 = .ok (.aload_n 0, 1) := by decide +kernel
theorem d_M_open_1 : decode prog_9_method_21_code 1 = .ok (.iload_n 1, 1) := by decide +kernel
theorem d_M_open_2 : decode prog_9_method_21_code 2 = .ok (.invokevirtual 86, 3) := by decide +kernel
theorem d_M_open_5 : decode prog_9_method_21_code 5 = .ok (.ifCond .eq 23, 3) := by decide +kernel
theorem d_M_open_8 : decode prog_9_method_21_code 8 = .ok (.iload_n 2, 1) := by decide +kernel
theorem d_M_open_9 : decode prog_9_method_21_code 9 = .ok (.iconst 0, 1) := by decide +kernel
theorem d_M_open_10 : decode prog_9_method_21_code 10 = .ok (.bipush 7, 2) := by decide +kernel
theorem d_M_open_12 : decode prog_9_method_21_code 12 = .ok (.invokestatic 78, 3) := by decide +kernel
theorem d_M_open_15 : decode prog_9_method_21_code 15 = .ok (.ifCond .eq 13, 3) := by decide +kernel
theorem d_M_open_18 : decode prog_9_method_21_code 18 = .ok (.iload_n 3, 1) := by decide +kernel
theorem d_M_open_19 : decode prog_9_method_21_code 19 = .ok (.iconst 0, 1) := by decide +kernel
theorem d_M_open_20 : decode prog_9_method_21_code 20 = .ok (.bipush 31, 2) := by decide +kernel
theorem d_M_open_22 : decode prog_9_method_21_code 22 = .ok (.invokestatic 78, 3) := by decide +kernel
theorem d_M_open_25 : decode prog_9_method_21_code 25 = .ok (.ifCond .ne 5, 3) := by decide +kernel
theorem d_M_open_28 : decode prog_9_method_21_code 28 = .ok (.iconst (-1), 1) := by decide +kernel
theorem d_M_open_29 : decode prog_9_method_21_code 29 = .ok (.ireturn, 1) := by decide +kernel
theorem d_M_open_30 : decode prog_9_method_21_code 30 = .ok (.aload_n 0, 1) := by decide +kernel
theorem d_M_open_31 : decode prog_9_method_21_code 31 = .ok (.getfield 23, 3) := by decide +kernel
theorem d_M_open_34 : decode prog_9_method_21_code 34 = .ok (.iload_n 2, 1) := by decide +kernel
theorem d_M_open_35 : decode prog_9_method_21_code 35 = .ok (.iaload, 1) := by decide +kernel
theorem d_M_open_36 : decode prog_9_method_21_code 36 = .ok (.ifCond .eq 19, 3) := by decide +kernel
theorem d_M_open_39 : decode prog_9_method_21_code 39 = .ok (.aload_n 0, 1) := by decide +kernel
theorem d_M_open_40 : decode prog_9_method_21_code 40 = .ok (.getfield 7, 3) := by decide +kernel
theorem d_M_open_43 : decode prog_9_method_21_code 43 = .ok (.iload_n 2, 1) := by decide +kernel
theorem d_M_open_44 : decode prog_9_method_21_code 44 = .ok (.baload, 1) := by decide +kernel
theorem d_M_open_45 : decode prog_9_method_21_code 45 = .ok (.ifCond .ne 13, 3) := by decide +kernel
theorem d_M_open_48 : decode prog_9_method_21_code 48 = .ok (.iload_n 3, 1) := by decide +kernel
theorem d_M_open_49 : decode prog_9_method_21_code 49 = .ok (.bipush 8, 2) := by decide +kernel
theorem d_M_open_51 : decode prog_9_method_21_code 51 = .ok (.iand, 1) := by decide +kernel
theorem d_M_open_52 : decode prog_9_method_21_code 52 = .ok (.ifCond .ne 6, 3) := by decide +kernel
theorem d_M_open_55 : decode prog_9_method_21_code 55 = .ok (.bipush (-4), 2) := by decide +kernel
theorem d_M_open_57 : decode prog_9_method_21_code 57 = .ok (.ireturn, 1) := by decide +kernel
theorem d_M_open_58 : decode prog_9_method_21_code 58 = .ok (.aload_n 0, 1) := by decide +kernel
theorem d_M_open_59 : decode prog_9_method_21_code 59 = .ok (.getfield 23, 3) := by decide +kernel
theorem d_M_open_62 : decode prog_9_method_21_code 62 = .ok (.iload_n 2, 1) := by decide +kernel
theorem d_M_open_63 : decode prog_9_method_21_code 63 = .ok (.iaload, 1) := by decide +kernel
theorem d_M_open_64 : decode prog_9_method_21_code 64 = .ok (.iconst 1, 1) := by decide +kernel
theorem d_M_open_65 : decode prog_9_method_21_code 65 = .ok (.if_icmp .ne 11, 3) := by decide +kernel
theorem d_M_open_68 : decode prog_9_method_21_code 68 = .ok (.iload_n 3, 1) := by decide +kernel
theorem d_M_open_69 : decode prog_9_method_21_code 69 = .ok (.iconst 1, 1) := by decide +kernel
theorem d_M_open_70 : decode prog_9_method_21_code 70 = .ok (.if_icmp .le 6, 3) := by decide +kernel
theorem d_M_open_73 : decode prog_9_method_21_code 73 = .ok (.bipush (-5), 2) := by decide +kernel
theorem d_M_open_75 : decode prog_9_method_21_code 75 = .ok (.ireturn, 1) := by decide +kernel
theorem d_M_open_76 : decode prog_9_method_21_code 76 = .ok (.aload_n 0, 1) := by decide +kernel
theorem d_M_open_77 : decode prog_9_method_21_code 77 = .ok (.iload_n 1, 1) := by decide +kernel
theorem d_M_open_78 : decode prog_9_method_21_code 78 = .ok (.iconst 0, 1) := by decide +kernel
theorem d_M_open_79 : decode prog_9_method_21_code 79 = .ok (.invokevirtual 111, 3) := by decide +kernel
theorem d_M_open_82 : decode prog_9_method_21_code 82 = .ok (.istore 4, 2) := by decide +kernel
theorem d_M_open_84 : decode prog_9_method_21_code 84 = .ok (.iload 4, 2) := by decide +kernel
theorem d_M_open_86 : decode prog_9_method_21_code 86 = .ok (.ifCond .lt 12, 3) := by decide +kernel
theorem d_M_open_89 : decode prog_9_method_21_code 89 = .ok (.aload_n 0, 1) := by decide +kernel
theorem d_M_open_90 : decode prog_9_method_21_code 90 = .ok (.invokevirtual 115, 3) := by decide +kernel
theorem d_M_open_93 : decode prog_9_method_21_code 93 = .ok (.bipush 16, 2) := by decide +kernel
theorem d_M_open_95 : decode prog_9_method_21_code 95 = .ok (.if_icmp .ne 6, 3) := by decide +kernel
theorem d_M_open_98 : decode prog_9_method_21_code 98 = .ok (.bipush (-2), 2) := by decide +kernel
theorem d_M_open_100 : decode prog_9_method_21_code 100 = .ok (.ireturn, 1) := by decide +kernel
theorem d_M_open_101 : decode prog_9_method_21_code 101 = .ok (.aload_n 0, 1) := by decide +kernel
theorem d_M_open_102 : decode prog_9_method_21_code 102 = .ok (.getfield 7, 3) := by decide +kernel
theorem d_M_open_105 : decode prog_9_method_21_code 105 = .ok (.iload_n 2, 1) := by decide +kernel
theorem d_M_open_106 : decode prog_9_method_21_code 106 = .ok (.baload, 1) := by decide +kernel
theorem d_M_open_107 : decode prog_9_method_21_code 107 = .ok (.ifCond .ne 38, 3) := by decide +kernel
theorem d_M_open_110 : decode prog_9_method_21_code 110 = .ok (.aload_n 0, 1) := by decide +kernel
theorem d_M_open_111 : decode prog_9_method_21_code 111 = .ok (.iconst 2, 1) := by decide +kernel
theorem d_M_open_112 : decode prog_9_method_21_code 112 = .ok (.iload_n 2, 1) := by decide +kernel
theorem d_M_open_113 : decode prog_9_method_21_code 113 = .ok (.iconst 0, 1) := by decide +kernel
theorem d_M_open_114 : decode prog_9_method_21_code 114 = .ok (.invokevirtual 95, 3) := by decide +kernel
theorem d_M_open_117 : decode prog_9_method_21_code 117 = .ok (.ifCond .ne 6, 3) := by decide +kernel
theorem d_M_open_120 : decode prog_9_method_21_code 120 = .ok (.bipush (-8), 2) := by decide +kernel
theorem d_M_open_122 : decode prog_9_method_21_code 122 = .ok (.ireturn, 1) := by decide +kernel
theorem d_M_open_123 : decode prog_9_method_21_code 123 = .ok (.aload_n 0, 1) := by decide +kernel
theorem d_M_open_124 : decode prog_9_method_21_code 124 = .ok (.getfield 7, 3) := by decide +kernel
theorem d_M_open_127 : decode prog_9_method_21_code 127 = .ok (.iload_n 2, 1) := by decide +kernel
theorem d_M_open_128 : decode prog_9_method_21_code 128 = .ok (.iconst 1, 1) := by decide +kernel
theorem d_M_open_129 : decode prog_9_method_21_code 129 = .ok (.bastore, 1) := by decide +kernel
theorem d_M_open_130 : decode prog_9_method_21_code 130 = .ok (.aload_n 0, 1) := by decide +kernel
theorem d_M_open_131 : decode prog_9_method_21_code 131 = .ok (.iload_n 2, 1) := by decide +kernel
theorem d_M_open_132 : decode prog_9_method_21_code 132 = .ok (.invokevirtual 108, 3) := by decide +kernel
theorem d_M_open_135 : decode prog_9_method_21_code 135 = .ok (.aload_n 0, 1) := by decide +kernel
theorem d_M_open_136 : decode prog_9_method_21_code 136 = .ok (.getfield 20, 3) := by decide +kernel
theorem d_M_open_139 : decode prog_9_method_21_code 139 = .ok (.iload_n 2, 1) := by decide +kernel
theorem d_M_open_140 : decode prog_9_method_21_code 140 = .ok (.iconst 0, 1) := by decide +kernel
theorem d_M_open_141 : decode prog_9_method_21_code 141 = .ok (.iastore, 1) := by decide +kernel
theorem d_M_open_142 : decode prog_9_method_21_code 142 = .ok (.goto 40, 3) := by decide +kernel
theorem d_M_open_145 : decode prog_9_method_21_code 145 = .ok (.iload_n 3, 1) := by decide +kernel
theorem d_M_open_146 : decode prog_9_method_21_code 146 = .ok (.bipush 16, 2) := by decide +kernel
theorem d_M_open_148 : decode prog_9_method_21_code 148 = .ok (.iand, 1) := by decide +kernel
theorem d_M_open_149 : decode prog_9_method_21_code 149 = .ok (.ifCond .eq 33, 3) := by decide +kernel
theorem d_M_open_152 : decode prog_9_method_21_code 152 = .ok (.aload_n 0, 1) := by decide +kernel
theorem d_M_open_153 : decode prog_9_method_21_code 153 = .ok (.iconst 3, 1) := by decide +kernel
theorem d_M_open_154 : decode prog_9_method_21_code 154 = .ok (.iload_n 2, 1) := by decide +kernel
theorem d_M_open_155 : decode prog_9_method_21_code 155 = .ok (.iconst 0, 1) := by decide +kernel
theorem d_M_open_156 : decode prog_9_method_21_code 156 = .ok (.invokevirtual 95, 3) := by decide +kernel
theorem d_M_open_159 : decode prog_9_method_21_code 159 = .ok (.ifCond .ne 6, 3) := by decide +kernel
theorem d_M_open_162 : decode prog_9_method_21_code 162 = .ok (.bipush (-8), 2) := by decide +kernel
theorem d_M_open_164 : decode prog_9_method_21_code 164 = .ok (.ireturn, 1) := by decide +kernel
theorem d_M_open_165 : decode prog_9_method_21_code 165 = .ok (.aload_n 0, 1) := by decide +kernel
theorem d_M_open_166 : decode prog_9_method_21_code 166 = .ok (.iload_n 2, 1) := by decide +kernel
theorem d_M_open_167 : decode prog_9_method_21_code 167 = .ok (.invokevirtual 108, 3) := by decide +kernel
theorem d_M_open_170 : decode prog_9_method_21_code 170 = .ok (.aload_n 0, 1) := by decide +kernel
theorem d_M_open_171 : decode prog_9_method_21_code 171 = .ok (.getfield 20, 3) := by decide +kernel
theorem d_M_open_174 : decode prog_9_method_21_code 174 = .ok (.iload_n 2, 1) := by decide +kernel
theorem d_M_open_175 : decode prog_9_method_21_code 175 = .ok (.iconst 0, 1) := by decide +kernel
theorem d_M_open_176 : decode prog_9_method_21_code 176 = .ok (.iastore, 1) := by decide +kernel
theorem d_M_open_177 : decode prog_9_method_21_code 177 = .ok (.aload_n 0, 1) := by decide +kernel
theorem d_M_open_178 : decode prog_9_method_21_code 178 = .ok (.iload_n 2, 1) := by decide +kernel
theorem d_M_open_179 : decode prog_9_method_21_code 179 = .ok (.invokevirtual 119, 3) := by decide +kernel
theorem d_M_open_182 : decode prog_9_method_21_code 182 = .ok (.aload_n 0, 1) := by decide +kernel
theorem d_M_open_183 : decode prog_9_method_21_code 183 = .ok (.getfield 47, 3) := by decide +kernel
theorem d_M_open_186 : decode prog_9_method_21_code 186 = .ok (.bipush 6, 2) := by decide +kernel
theorem d_M_open_188 : decode prog_9_method_21_code 188 = .ok (.iload_n 1, 1) := by decide +kernel
theorem d_M_open_189 : decode prog_9_method_21_code 189 = .ok (.imul, 1) := by decide +kernel
theorem d_M_open_190 : decode prog_9_method_21_code 190 = .ok (.iload 4, 2) := by decide +kernel
theorem d_M_open_192 : decode prog_9_method_21_code 192 = .ok (.iadd, 1) := by decide +kernel
theorem d_M_open_193 : decode prog_9_method_21_code 193 = .ok (.aload_n 0, 1) := by decide +kernel
theorem d_M_open_194 : decode prog_9_method_21_code 194 = .ok (.iconst 0, 1) := by decide +kernel
theorem d_M_open_195 : decode prog_9_method_21_code 195 = .ok (.iload_n 2, 1) := by decide +kernel
theorem d_M_open_196 : decode prog_9_method_21_code 196 = .ok (.iload_n 3, 1) := by decide +kernel
theorem d_M_open_197 : decode prog_9_method_21_code 197 = .ok (.invokevirtual 122, 3) := by decide +kernel
theorem d_M_open_200 : decode prog_9_method_21_code 200 = .ok (.iastore, 1) := by decide +kernel
theorem d_M_open_201 : decode prog_9_method_21_code 201 = .ok (.iload 4, 2) := by decide +kernel
theorem d_M_open_203 : decode prog_9_method_21_code 203 = .ok (.ireturn, 1) := by decide +kernel
theorem d_M_alive_0 : decode prog_9_method_4_code 0 = .ok (.iload_n 1, 1) := by decide +kernel
theorem d_M_alive_1 : decode prog_9_method_4_code 1 = .ok (.iconst 1, 1) := by decide +kernel
theorem d_M_alive_2 : decode prog_9_method_4_code 2 = .ok (.bipush 6, 2) := by decide +kernel
theorem d_M_alive_4 : decode prog_9_method_4_code 4 = .ok (.invokestatic 78, 3) := by decide +kernel
theorem d_M_alive_7 : decode prog_9_method_4_code 7 = .ok (.ifCond .eq 25, 3) := by decide +kernel
theorem d_M_alive_10 : decode prog_9_method_4_code 10 = .ok (.aload_n 0, 1) := by decide +kernel
theorem d_M_alive_11 : decode prog_9_method_4_code 11 = .ok (.getfield 35, 3) := by decide +kernel
theorem d_M_alive_14 : decode prog_9_method_4_code 14 = .ok (.iload_n 1, 1) := by decide +kernel
theorem d_M_alive_15 : decode prog_9_method_4_code 15 = .ok (.baload, 1) := by decide +kernel
theorem d_M_alive_16 : decode prog_9_method_4_code 16 = .ok (.ifCond .eq 16, 3) := by decide +kernel
theorem d_M_alive_19 : decode prog_9_method_4_code 19 = .ok (.aload_n 0, 1) := by decide +kernel
theorem d_M_alive_20 : decode prog_9_method_4_code 20 = .ok (.getfield 38, 3) := by decide +kernel
theorem d_M_alive_23 : decode prog_9_method_4_code 23 = .ok (.iload_n 1, 1) := by decide +kernel
theorem d_M_alive_24 : decode prog_9_method_4_code 24 = .ok (.baload, 1) := by decide +kernel
theorem d_M_alive_25 : decode prog_9_method_4_code 25 = .ok (.ifCond .ne 7, 3) := by decide +kernel
theorem d_M_alive_28 : decode prog_9_method_4_code 28 = .ok (.iconst 1, 1) := by decide +kernel
theorem d_M_alive_29 : decode prog_9_method_4_code 29 = .ok (.goto 4, 3) := by decide +kernel
theorem d_M_alive_32 : decode prog_9_method_4_code 32 = .ok (.iconst 0, 1) := by decide +kernel
theorem d_M_alive_33 : decode prog_9_method_4_code 33 = .ok (.ireturn, 1) := by decide +kernel
theorem d_M_free_0 : decode prog_9_method_9_code 0 = .ok (.iload_n 2, 1) := by decide +kernel
theorem d_M_free_1 : decode prog_9_method_9_code 1 = .ok (.istore_n 3, 1) := by decide +kernel
theorem d_M_free_2 : decode prog_9_method_9_code 2 = .ok (.iload_n 3, 1) := by decide +kernel
theorem d_M_free_3 : decode prog_9_method_9_code 3 = .ok (.bipush 6, 2) := by decide +kernel
theorem d_M_free_5 : decode prog_9_method_9_code 5 = .ok (.if_icmp .ge 25, 3) := by decide +kernel
theorem d_M_free_8 : decode prog_9_method_9_code 8 = .ok (.aload_n 0, 1) := by decide +kernel
theorem d_M_free_9 : decode prog_9_method_9_code 9 = .ok (.getfield 47, 3) := by decide +kernel
theorem d_M_free_12 : decode prog_9_method_9_code 12 = .ok (.bipush 6, 2) := by decide +kernel
theorem d_M_free_14 : decode prog_9_method_9_code 14 = .ok (.iload_n 1, 1) := by decide +kernel
theorem d_M_free_15 : decode prog_9_method_9_code 15 = .ok (.imul, 1) := by decide +kernel
theorem d_M_free_16 : decode prog_9_method_9_code 16 = .ok (.iload_n 3, 1) := by decide +kernel
theorem d_M_free_17 : decode prog_9_method_9_code 17 = .ok (.iadd, 1) := by decide +kernel
theorem d_M_free_18 : decode prog_9_method_9_code 18 = .ok (.iaload, 1) := by decide +kernel
theorem d_M_free_19 : decode prog_9_method_9_code 19 = .ok (.ifCond .ge 5, 3) := by decide +kernel
theorem d_M_free_22 : decode prog_9_method_9_code 22 = .ok (.iload_n 3, 1) := by decide +kernel
theorem d_M_free_23 : decode prog_9_method_9_code 23 = .ok (.ireturn, 1) := by decide +kernel
theorem d_M_free_24 : decode prog_9_method_9_code 24 = .ok (.iinc 3 1, 3) := by decide +kernel
theorem d_M_free_27 : decode prog_9_method_9_code 27 = .ok (.goto (-25), 3) := by decide +kernel
theorem d_M_free_30 : decode prog_9_method_9_code 30 = .ok (.iconst (-1), 1) := by decide +kernel
theorem d_M_free_31 : decode prog_9_method_9_code 31 = .ok (.ireturn, 1) := by decide +kernel
theorem d_M_openings_0 : decode prog_9_method_6_code 0 = .ok (.iconst 0, 1) := by decide +kernel
theorem d_M_openings_1 : decode prog_9_method_6_code 1 = .ok (.istore_n 1, 1) := by decide +kernel
theorem d_M_openings_2 : decode prog_9_method_6_code 2 = .ok (.iconst 0, 1) := by decide +kernel
theorem d_M_openings_3 : decode prog_9_method_6_code 3 = .ok (.istore_n 2, 1) := by decide +kernel
theorem d_M_openings_4 : decode prog_9_method_6_code 4 = .ok (.iload_n 2, 1) := by decide +kernel
theorem d_M_openings_5 : decode prog_9_method_6_code 5 = .ok (.bipush 16, 2) := by decide +kernel
theorem d_M_openings_7 : decode prog_9_method_6_code 7 = .ok (.if_icmp .ge 20, 3) := by decide +kernel
theorem d_M_openings_10 : decode prog_9_method_6_code 10 = .ok (.aload_n 0, 1) := by decide +kernel
theorem d_M_openings_11 : decode prog_9_method_6_code 11 = .ok (.iload_n 2, 1) := by decide +kernel
theorem d_M_openings_12 : decode prog_9_method_6_code 12 = .ok (.invokevirtual 82, 3) := by decide +kernel
theorem d_M_openings_15 : decode prog_9_method_6_code 15 = .ok (.ifCond .eq 6, 3) := by decide +kernel
theorem d_M_openings_18 : decode prog_9_method_6_code 18 = .ok (.iinc 1 1, 3) := by decide +kernel
theorem d_M_openings_21 : decode prog_9_method_6_code 21 = .ok (.iinc 2 1, 3) := by decide +kernel
theorem d_M_openings_24 : decode prog_9_method_6_code 24 = .ok (.goto (-20), 3) := by decide +kernel
theorem d_M_openings_27 : decode prog_9_method_6_code 27 = .ok (.iload_n 1, 1) := by decide +kernel
theorem d_M_openings_28 : decode prog_9_method_6_code 28 = .ok (.ireturn, 1) := by decide +kernel
theorem d_M_operate_0 : decode prog_9_method_12_code 0 = .ok (.aload_n 0, 1) := by decide +kernel
theorem d_M_operate_1 : decode prog_9_method_12_code 1 = .ok (.getfield 89, 3) := by decide +kernel
theorem d_M_operate_4 : decode prog_9_method_12_code 4 = .ok (.ifCond .le 7, 3) := by decide +kernel
theorem d_M_operate_7 : decode prog_9_method_12_code 7 = .ok (.iconst 1, 1) := by decide +kernel
theorem d_M_operate_8 : decode prog_9_method_12_code 8 = .ok (.goto 4, 3) := by decide +kernel
theorem d_M_operate_11 : decode prog_9_method_12_code 11 = .ok (.iconst 0, 1) := by decide +kernel
theorem d_M_operate_12 : decode prog_9_method_12_code 12 = .ok (.istore 4, 2) := by decide +kernel
theorem d_M_operate_14 : decode prog_9_method_12_code 14 = .ok (.iload 4, 2) := by decide +kernel
theorem d_M_operate_16 : decode prog_9_method_12_code 16 = .ok (.ifCond .eq 13, 3) := by decide +kernel
theorem d_M_operate_19 : decode prog_9_method_12_code 19 = .ok (.aload_n 0, 1) := by decide +kernel
theorem d_M_operate_20 : decode prog_9_method_12_code 20 = .ok (.dup, 1) := by decide +kernel
theorem d_M_operate_21 : decode prog_9_method_12_code 21 = .ok (.getfield 89, 3) := by decide +kernel
theorem d_M_operate_24 : decode prog_9_method_12_code 24 = .ok (.iconst 1, 1) := by decide +kernel
theorem d_M_operate_25 : decode prog_9_method_12_code 25 = .ok (.isub, 1) := by decide +kernel
theorem d_M_operate_26 : decode prog_9_method_12_code 26 = .ok (.putfield 89, 3) := by decide +kernel
theorem d_M_operate_29 : decode prog_9_method_12_code 29 = .ok (.bipush 15, 2) := by decide +kernel
theorem d_M_operate_31 : decode prog_9_method_12_code 31 = .ok (.istore 5, 2) := by decide +kernel
theorem d_M_operate_33 : decode prog_9_method_12_code 33 = .ok (.iload 5, 2) := by decide +kernel
theorem d_M_operate_35 : decode prog_9_method_12_code 35 = .ok (.ifCond .le 25, 3) := by decide +kernel
theorem d_M_operate_38 : decode prog_9_method_12_code 38 = .ok (.aload_n 0, 1) := by decide +kernel
theorem d_M_operate_39 : decode prog_9_method_12_code 39 = .ok (.getfield 68, 3) := by decide +kernel
theorem d_M_operate_42 : decode prog_9_method_12_code 42 = .ok (.iload 5, 2) := by decide +kernel
theorem d_M_operate_44 : decode prog_9_method_12_code 44 = .ok (.aload_n 0, 1) := by decide +kernel
theorem d_M_operate_45 : decode prog_9_method_12_code 45 = .ok (.getfield 68, 3) := by decide +kernel
theorem d_M_operate_48 : decode prog_9_method_12_code 48 = .ok (.iload 5, 2) := by decide +kernel
theorem d_M_operate_50 : decode prog_9_method_12_code 50 = .ok (.iconst 1, 1) := by decide +kernel
theorem d_M_operate_51 : decode prog_9_method_12_code 51 = .ok (.isub, 1) := by decide +kernel
theorem d_M_operate_52 : decode prog_9_method_12_code 52 = .ok (.iaload, 1) := by decide +kernel
theorem d_M_operate_53 : decode prog_9_method_12_code 53 = .ok (.iastore, 1) := by decide +kernel
theorem d_M_operate_54 : decode prog_9_method_12_code 54 = .ok (.iinc 5 (-1), 3) := by decide +kernel
theorem d_M_operate_57 : decode prog_9_method_12_code 57 = .ok (.goto (-24), 3) := by decide +kernel
theorem d_M_operate_60 : decode prog_9_method_12_code 60 = .ok (.aload_n 0, 1) := by decide +kernel
theorem d_M_operate_61 : decode prog_9_method_12_code 61 = .ok (.getfield 68, 3) := by decide +kernel
theorem d_M_operate_64 : decode prog_9_method_12_code 64 = .ok (.iconst 0, 1) := by decide +kernel
theorem d_M_operate_65 : decode prog_9_method_12_code 65 = .ok (.iload_n 1, 1) := by decide +kernel
theorem d_M_operate_66 : decode prog_9_method_12_code 66 = .ok (.bipush 8, 2) := by decide +kernel
theorem d_M_operate_68 : decode prog_9_method_12_code 68 = .ok (.iload_n 2, 1) := by decide +kernel
theorem d_M_operate_69 : decode prog_9_method_12_code 69 = .ok (.imul, 1) := by decide +kernel
theorem d_M_operate_70 : decode prog_9_method_12_code 70 = .ok (.iadd, 1) := by decide +kernel
theorem d_M_operate_71 : decode prog_9_method_12_code 71 = .ok (.bipush 64, 2) := by decide +kernel
theorem d_M_operate_73 : decode prog_9_method_12_code 73 = .ok (.iload_n 3, 1) := by decide +kernel
theorem d_M_operate_74 : decode prog_9_method_12_code 74 = .ok (.imul, 1) := by decide +kernel
theorem d_M_operate_75 : decode prog_9_method_12_code 75 = .ok (.iadd, 1) := by decide +kernel
theorem d_M_operate_76 : decode prog_9_method_12_code 76 = .ok (.iload 4, 2) := by decide +kernel
theorem d_M_operate_78 : decode prog_9_method_12_code 78 = .ok (.ifCond .eq 9, 3) := by decide +kernel
theorem d_M_operate_81 : decode prog_9_method_12_code 81 = .ok (.sipush 256, 3) := by decide +kernel
theorem d_M_operate_84 : decode prog_9_method_12_code 84 = .ok (.goto 4, 3) := by decide +kernel
theorem d_M_operate_87 : decode prog_9_method_12_code 87 = .ok (.iconst 0, 1) := by decide +kernel
theorem d_M_operate_88 : decode prog_9_method_12_code 88 = .ok (.iadd, 1) := by decide +kernel
theorem d_M_operate_89 : decode prog_9_method_12_code 89 = .ok (.iastore, 1) := by decide +kernel
theorem d_M_operate_90 : decode prog_9_method_12_code 90 = .ok (.aload_n 0, 1) := by decide +kernel
theorem d_M_operate_91 : decode prog_9_method_12_code 91 = .ok (.dup, 1) := by decide +kernel
theorem d_M_operate_92 : decode prog_9_method_12_code 92 = .ok (.getfield 92, 3) := by decide +kernel
theorem d_M_operate_95 : decode prog_9_method_12_code 95 = .ok (.iconst 1, 1) := by decide +kernel
theorem d_M_operate_96 : decode prog_9_method_12_code 96 = .ok (.iadd, 1) := by decide +kernel
theorem d_M_operate_97 : decode prog_9_method_12_code 97 = .ok (.putfield 92, 3) := by decide +kernel
theorem d_M_operate_100 : decode prog_9_method_12_code 100 = .ok (.iload 4, 2) := by decide +kernel
theorem d_M_operate_102 : decode prog_9_method_12_code 102 = .ok (.ifCond .ne 7, 3) := by decide +kernel
theorem d_M_operate_105 : decode prog_9_method_12_code 105 = .ok (.iconst 1, 1) := by decide +kernel
theorem d_M_operate_106 : decode prog_9_method_12_code 106 = .ok (.goto 4, 3) := by decide +kernel
theorem d_M_operate_109 : decode prog_9_method_12_code 109 = .ok (.iconst 0, 1) := by decide +kernel
theorem d_M_operate_110 : decode prog_9_method_12_code 110 = .ok (.ireturn, 1) := by decide +kernel
theorem d_M_forget_0 : decode prog_9_method_17_code 0 = .ok (.iconst 0, 1) := by decide +kernel
theorem d_M_forget_1 : decode prog_9_method_17_code 1 = .ok (.istore_n 2, 1) := by decide +kernel
theorem d_M_forget_2 : decode prog_9_method_17_code 2 = .ok (.iconst 0, 1) := by decide +kernel
theorem d_M_forget_3 : decode prog_9_method_17_code 3 = .ok (.istore_n 3, 1) := by decide +kernel
theorem d_M_forget_4 : decode prog_9_method_17_code 4 = .ok (.iload_n 3, 1) := by decide +kernel
theorem d_M_forget_5 : decode prog_9_method_17_code 5 = .ok (.aload_n 0, 1) := by decide +kernel
theorem d_M_forget_6 : decode prog_9_method_17_code 6 = .ok (.getfield 74, 3) := by decide +kernel
theorem d_M_forget_9 : decode prog_9_method_17_code 9 = .ok (.if_icmp .ge 92, 3) := by decide +kernel
theorem d_M_forget_12 : decode prog_9_method_17_code 12 = .ok (.aload_n 0, 1) := by decide +kernel
theorem d_M_forget_13 : decode prog_9_method_17_code 13 = .ok (.getfield 26, 3) := by decide +kernel
theorem d_M_forget_16 : decode prog_9_method_17_code 16 = .ok (.iload_n 3, 1) := by decide +kernel
theorem d_M_forget_17 : decode prog_9_method_17_code 17 = .ok (.iaload, 1) := by decide +kernel
theorem d_M_forget_18 : decode prog_9_method_17_code 18 = .ok (.bipush 7, 2) := by decide +kernel
theorem d_M_forget_20 : decode prog_9_method_17_code 20 = .ok (.iand, 1) := by decide +kernel
theorem d_M_forget_21 : decode prog_9_method_17_code 21 = .ok (.iload_n 1, 1) := by decide +kernel
theorem d_M_forget_22 : decode prog_9_method_17_code 22 = .ok (.if_icmp .ne 6, 3) := by decide +kernel
theorem d_M_forget_25 : decode prog_9_method_17_code 25 = .ok (.goto 70, 3) := by decide +kernel
theorem d_M_forget_28 : decode prog_9_method_17_code 28 = .ok (.aload_n 0, 1) := by decide +kernel
theorem d_M_forget_29 : decode prog_9_method_17_code 29 = .ok (.getfield 26, 3) := by decide +kernel
theorem d_M_forget_32 : decode prog_9_method_17_code 32 = .ok (.iload_n 2, 1) := by decide +kernel
theorem d_M_forget_33 : decode prog_9_method_17_code 33 = .ok (.aload_n 0, 1) := by decide +kernel
theorem d_M_forget_34 : decode prog_9_method_17_code 34 = .ok (.getfield 26, 3) := by decide +kernel
theorem d_M_forget_37 : decode prog_9_method_17_code 37 = .ok (.iload_n 3, 1) := by decide +kernel
theorem d_M_forget_38 : decode prog_9_method_17_code 38 = .ok (.iaload, 1) := by decide +kernel
theorem d_M_forget_39 : decode prog_9_method_17_code 39 = .ok (.iastore, 1) := by decide +kernel
theorem d_M_forget_40 : decode prog_9_method_17_code 40 = .ok (.aload_n 0, 1) := by decide +kernel
theorem d_M_forget_41 : decode prog_9_method_17_code 41 = .ok (.getfield 29, 3) := by decide +kernel
theorem d_M_forget_44 : decode prog_9_method_17_code 44 = .ok (.iload_n 2, 1) := by decide +kernel
theorem d_M_forget_45 : decode prog_9_method_17_code 45 = .ok (.aload_n 0, 1) := by decide +kernel
theorem d_M_forget_46 : decode prog_9_method_17_code 46 = .ok (.getfield 29, 3) := by decide +kernel
theorem d_M_forget_49 : decode prog_9_method_17_code 49 = .ok (.iload_n 3, 1) := by decide +kernel
theorem d_M_forget_50 : decode prog_9_method_17_code 50 = .ok (.baload, 1) := by decide +kernel
theorem d_M_forget_51 : decode prog_9_method_17_code 51 = .ok (.bastore, 1) := by decide +kernel
theorem d_M_forget_52 : decode prog_9_method_17_code 52 = .ok (.iconst 0, 1) := by decide +kernel
theorem d_M_forget_53 : decode prog_9_method_17_code 53 = .ok (.istore 4, 2) := by decide +kernel
theorem d_M_forget_55 : decode prog_9_method_17_code 55 = .ok (.iload 4, 2) := by decide +kernel
theorem d_M_forget_57 : decode prog_9_method_17_code 57 = .ok (.bipush 8, 2) := by decide +kernel
theorem d_M_forget_59 : decode prog_9_method_17_code 59 = .ok (.if_icmp .ge 33, 3) := by decide +kernel
theorem d_M_forget_62 : decode prog_9_method_17_code 62 = .ok (.aload_n 0, 1) := by decide +kernel
theorem d_M_forget_63 : decode prog_9_method_17_code 63 = .ok (.getfield 32, 3) := by decide +kernel
theorem d_M_forget_66 : decode prog_9_method_17_code 66 = .ok (.bipush 8, 2) := by decide +kernel
theorem d_M_forget_68 : decode prog_9_method_17_code 68 = .ok (.iload_n 2, 1) := by decide +kernel
theorem d_M_forget_69 : decode prog_9_method_17_code 69 = .ok (.imul, 1) := by decide +kernel
theorem d_M_forget_70 : decode prog_9_method_17_code 70 = .ok (.iload 4, 2) := by decide +kernel
theorem d_M_forget_72 : decode prog_9_method_17_code 72 = .ok (.iadd, 1) := by decide +kernel
theorem d_M_forget_73 : decode prog_9_method_17_code 73 = .ok (.aload_n 0, 1) := by decide +kernel
theorem d_M_forget_74 : decode prog_9_method_17_code 74 = .ok (.getfield 32, 3) := by decide +kernel
theorem d_M_forget_77 : decode prog_9_method_17_code 77 = .ok (.bipush 8, 2) := by decide +kernel
theorem d_M_forget_79 : decode prog_9_method_17_code 79 = .ok (.iload_n 3, 1) := by decide +kernel
theorem d_M_forget_80 : decode prog_9_method_17_code 80 = .ok (.imul, 1) := by decide +kernel
theorem d_M_forget_81 : decode prog_9_method_17_code 81 = .ok (.iload 4, 2) := by decide +kernel
theorem d_M_forget_83 : decode prog_9_method_17_code 83 = .ok (.iadd, 1) := by decide +kernel
theorem d_M_forget_84 : decode prog_9_method_17_code 84 = .ok (.iaload, 1) := by decide +kernel
theorem d_M_forget_85 : decode prog_9_method_17_code 85 = .ok (.iastore, 1) := by decide +kernel
theorem d_M_forget_86 : decode prog_9_method_17_code 86 = .ok (.iinc 4 1, 3) := by decide +kernel
theorem d_M_forget_89 : decode prog_9_method_17_code 89 = .ok (.goto (-34), 3) := by decide +kernel
theorem d_M_forget_92 : decode prog_9_method_17_code 92 = .ok (.iinc 2 1, 3) := by decide +kernel
theorem d_M_forget_95 : decode prog_9_method_17_code 95 = .ok (.iinc 3 1, 3) := by decide +kernel
theorem d_M_forget_98 : decode prog_9_method_17_code 98 = .ok (.goto (-94), 3) := by decide +kernel
theorem d_M_forget_101 : decode prog_9_method_17_code 101 = .ok (.aload_n 0, 1) := by decide +kernel
theorem d_M_forget_102 : decode prog_9_method_17_code 102 = .ok (.iload_n 2, 1) := by decide +kernel
theorem d_M_forget_103 : decode prog_9_method_17_code 103 = .ok (.putfield 74, 3) := by decide +kernel
theorem d_M_forget_106 : decode prog_9_method_17_code 106 = .ok (.return_, 1) := by decide +kernel
theorem d_M_newOpening_0 : decode prog_9_method_10_code 0 = .ok (.iconst 0, 1) := by decide +kernel
theorem d_M_newOpening_1 : decode prog_9_method_10_code 1 = .ok (.istore 4, 2) := by decide +kernel
theorem d_M_newOpening_3 : decode prog_9_method_10_code 3 = .ok (.aload_n 0, 1) := by decide +kernel
theorem d_M_newOpening_4 : decode prog_9_method_10_code 4 = .ok (.iload 4, 2) := by decide +kernel
theorem d_M_newOpening_6 : decode prog_9_method_10_code 6 = .ok (.invokevirtual 82, 3) := by decide +kernel
theorem d_M_newOpening_9 : decode prog_9_method_10_code 9 = .ok (.ifCond .eq 9, 3) := by decide +kernel
theorem d_M_newOpening_12 : decode prog_9_method_10_code 12 = .ok (.iinc 4 1, 3) := by decide +kernel
theorem d_M_newOpening_15 : decode prog_9_method_10_code 15 = .ok (.goto (-12), 3) := by decide +kernel
theorem d_M_newOpening_18 : decode prog_9_method_10_code 18 = .ok (.aload_n 0, 1) := by decide +kernel
theorem d_M_newOpening_19 : decode prog_9_method_10_code 19 = .ok (.getfield 50, 3) := by decide +kernel
theorem d_M_newOpening_22 : decode prog_9_method_10_code 22 = .ok (.iload 4, 2) := by decide +kernel
theorem d_M_newOpening_24 : decode prog_9_method_10_code 24 = .ok (.iload_n 1, 1) := by decide +kernel
theorem d_M_newOpening_25 : decode prog_9_method_10_code 25 = .ok (.iastore, 1) := by decide +kernel
theorem d_M_newOpening_26 : decode prog_9_method_10_code 26 = .ok (.aload_n 0, 1) := by decide +kernel
theorem d_M_newOpening_27 : decode prog_9_method_10_code 27 = .ok (.getfield 53, 3) := by decide +kernel
theorem d_M_newOpening_30 : decode prog_9_method_10_code 30 = .ok (.iload 4, 2) := by decide +kernel
theorem d_M_newOpening_32 : decode prog_9_method_10_code 32 = .ok (.iload_n 2, 1) := by decide +kernel
theorem d_M_newOpening_33 : decode prog_9_method_10_code 33 = .ok (.iastore, 1) := by decide +kernel
theorem d_M_newOpening_34 : decode prog_9_method_10_code 34 = .ok (.aload_n 0, 1) := by decide +kernel
theorem d_M_newOpening_35 : decode prog_9_method_10_code 35 = .ok (.getfield 56, 3) := by decide +kernel
theorem d_M_newOpening_38 : decode prog_9_method_10_code 38 = .ok (.iload 4, 2) := by decide +kernel
theorem d_M_newOpening_40 : decode prog_9_method_10_code 40 = .ok (.iload_n 3, 1) := by decide +kernel
theorem d_M_newOpening_41 : decode prog_9_method_10_code 41 = .ok (.iastore, 1) := by decide +kernel
theorem d_M_newOpening_42 : decode prog_9_method_10_code 42 = .ok (.aload_n 0, 1) := by decide +kernel
theorem d_M_newOpening_43 : decode prog_9_method_10_code 43 = .ok (.getfield 59, 3) := by decide +kernel
theorem d_M_newOpening_46 : decode prog_9_method_10_code 46 = .ok (.iload 4, 2) := by decide +kernel
theorem d_M_newOpening_48 : decode prog_9_method_10_code 48 = .ok (.iconst 0, 1) := by decide +kernel
theorem d_M_newOpening_49 : decode prog_9_method_10_code 49 = .ok (.iastore, 1) := by decide +kernel
theorem d_M_newOpening_50 : decode prog_9_method_10_code 50 = .ok (.iload 4, 2) := by decide +kernel
theorem d_M_newOpening_52 : decode prog_9_method_10_code 52 = .ok (.ireturn, 1) := by decide +kernel
theorem d_M_pipe_0 : decode prog_9_method_22_code 0 = .ok (.aload_n 0, 1) := by decide +kernel
theorem d_M_pipe_1 : decode prog_9_method_22_code 1 = .ok (.iload_n 1, 1) := by decide +kernel
theorem d_M_pipe_2 : decode prog_9_method_22_code 2 = .ok (.invokevirtual 86, 3) := by decide +kernel
theorem d_M_pipe_5 : decode prog_9_method_22_code 5 = .ok (.ifCond .ne 5, 3) := by decide +kernel
theorem d_M_pipe_8 : decode prog_9_method_22_code 8 = .ok (.iconst (-1), 1) := by decide +kernel
theorem d_M_pipe_9 : decode prog_9_method_22_code 9 = .ok (.ireturn, 1) := by decide +kernel
theorem d_M_pipe_10 : decode prog_9_method_22_code 10 = .ok (.aload_n 0, 1) := by decide +kernel
theorem d_M_pipe_11 : decode prog_9_method_22_code 11 = .ok (.iload_n 1, 1) := by decide +kernel
theorem d_M_pipe_12 : decode prog_9_method_22_code 12 = .ok (.iconst 0, 1) := by decide +kernel
theorem d_M_pipe_13 : decode prog_9_method_22_code 13 = .ok (.invokevirtual 111, 3) := by decide +kernel
theorem d_M_pipe_16 : decode prog_9_method_22_code 16 = .ok (.istore_n 2, 1) := by decide +kernel
theorem d_M_pipe_17 : decode prog_9_method_22_code 17 = .ok (.iload_n 2, 1) := by decide +kernel
theorem d_M_pipe_18 : decode prog_9_method_22_code 18 = .ok (.ifCond .ge 7, 3) := by decide +kernel
theorem d_M_pipe_21 : decode prog_9_method_22_code 21 = .ok (.iconst (-1), 1) := by decide +kernel
theorem d_M_pipe_22 : decode prog_9_method_22_code 22 = .ok (.goto 11, 3) := by decide +kernel
theorem d_M_pipe_25 : decode prog_9_method_22_code 25 = .ok (.aload_n 0, 1) := by decide +kernel
theorem d_M_pipe_26 : decode prog_9_method_22_code 26 = .ok (.iload_n 1, 1) := by decide +kernel
theorem d_M_pipe_27 : decode prog_9_method_22_code 27 = .ok (.iload_n 2, 1) := by decide +kernel
theorem d_M_pipe_28 : decode prog_9_method_22_code 28 = .ok (.iconst 1, 1) := by decide +kernel
theorem d_M_pipe_29 : decode prog_9_method_22_code 29 = .ok (.iadd, 1) := by decide +kernel
theorem d_M_pipe_30 : decode prog_9_method_22_code 30 = .ok (.invokevirtual 111, 3) := by decide +kernel
theorem d_M_pipe_33 : decode prog_9_method_22_code 33 = .ok (.istore_n 3, 1) := by decide +kernel
theorem d_M_pipe_34 : decode prog_9_method_22_code 34 = .ok (.iload_n 3, 1) := by decide +kernel
theorem d_M_pipe_35 : decode prog_9_method_22_code 35 = .ok (.ifCond .lt 12, 3) := by decide +kernel
theorem d_M_pipe_38 : decode prog_9_method_22_code 38 = .ok (.aload_n 0, 1) := by decide +kernel
theorem d_M_pipe_39 : decode prog_9_method_22_code 39 = .ok (.invokevirtual 115, 3) := by decide +kernel
theorem d_M_pipe_42 : decode prog_9_method_22_code 42 = .ok (.bipush 14, 2) := by decide +kernel
theorem d_M_pipe_44 : decode prog_9_method_22_code 44 = .ok (.if_icmp .le 6, 3) := by decide +kernel
theorem d_M_pipe_47 : decode prog_9_method_22_code 47 = .ok (.bipush (-2), 2) := by decide +kernel
theorem d_M_pipe_49 : decode prog_9_method_22_code 49 = .ok (.ireturn, 1) := by decide +kernel
theorem d_M_pipe_50 : decode prog_9_method_22_code 50 = .ok (.iconst 0, 1) := by decide +kernel
theorem d_M_pipe_51 : decode prog_9_method_22_code 51 = .ok (.istore 4, 2) := by decide +kernel
theorem d_M_pipe_53 : decode prog_9_method_22_code 53 = .ok (.aload_n 0, 1) := by decide +kernel
theorem d_M_pipe_54 : decode prog_9_method_22_code 54 = .ok (.iload 4, 2) := by decide +kernel
theorem d_M_pipe_56 : decode prog_9_method_22_code 56 = .ok (.iconst 1, 1) := by decide +kernel
theorem d_M_pipe_57 : decode prog_9_method_22_code 57 = .ok (.invokevirtual 126, 3) := by decide +kernel
theorem d_M_pipe_60 : decode prog_9_method_22_code 60 = .ok (.ifCond .ne 13, 3) := by decide +kernel
theorem d_M_pipe_63 : decode prog_9_method_22_code 63 = .ok (.aload_n 0, 1) := by decide +kernel
theorem d_M_pipe_64 : decode prog_9_method_22_code 64 = .ok (.iload 4, 2) := by decide +kernel
theorem d_M_pipe_66 : decode prog_9_method_22_code 66 = .ok (.iconst 2, 1) := by decide +kernel
theorem d_M_pipe_67 : decode prog_9_method_22_code 67 = .ok (.invokevirtual 126, 3) := by decide +kernel
theorem d_M_pipe_70 : decode prog_9_method_22_code 70 = .ok (.ifCond .eq 9, 3) := by decide +kernel
theorem d_M_pipe_73 : decode prog_9_method_22_code 73 = .ok (.iinc 4 1, 3) := by decide +kernel
